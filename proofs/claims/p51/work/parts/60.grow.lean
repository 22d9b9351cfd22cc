/-! rows that keep how far the heap has grown: the refutation of a row whose room one script passes -/
section ZR
variable {p : Program} {l : Launch} {e : Env} {R0 : Room} {s : State} {m : MethodId} {args : Array Value} {below : List Frame} {meth : Method} {c : Code} {H : Heap} {locs : List Loc} {cells slots mc ms K : Nat} {Q : State → Prop}
  {cc : ByteArray} {own : String} {nL : Nat} {ret : Option FieldType} {D : va_G} {cI cJ : ClassId} {tys : List (ClassId × FieldType)} {A : Nat → Prop} {pc : Nat} {ls : Array Slot} {rest : List Value} {bs cs rs : List va_W} {ws wc : va_W}
theorem zz_S {H0 H1 : Heap} {locs1 : List Loc} (h : va_S A H0 H locs) (h1 : va_S A H H1 locs1) : va_S A H0 H1 locs1 :=
  ⟨Nat.le_trans h.1 h1.1, fun q a b => (h1.2.1 q (Nat.lt_of_lt_of_le a h.1) b).trans (h.2.1 q a b), h1.2.2⟩
theorem zz_r {H0 : Heap} (h : va_S A H0 H locs) : va_S A H H locs := ⟨Nat.le_refl _, fun _ _ _ => rfl, h.2.2⟩
def fb_QRz {S : Type} (K : Nat) (D : va_G) (A : Nat → Prop) (post : S → Prop) (wf : S → Nat → va_W) : Array Value → State → Outcome → State → Prop := va_Qr post (fun u a t => (va_P D vwCl (wf u a) t.heap ∧ va_D A (wf u a)) ∧ K ≤ t.heap.size) A
def fb_QIz {S : Type} (K : Nat) (D : va_G) (A : Nat → Prop) (post : Int32 → S → Prop) (wf : S → va_W) : Array Value → State → Outcome → State → Prop := va_Qi post (fun u t => (va_P D vwCl (wf u) t.heap ∧ va_D A (wf u)) ∧ K ≤ t.heap.size) A
theorem fb_nIz (hz : K ≤ H.size) (X : fb_Bx p s m args meth c cc own nL ret D (fb_ty D cI cJ) A) (I : fb_In D A s.heap bs.flatten H locs) {n : Int32} {N : Nat} (harr : Cond.arrayClass .int ∈ fb_all) (hn : ¬ n < 0 ∧ n.toNatClampNeg = N) (hby : N * componentBytes .int ≤ 536870912) (hc : cells + 1 ≤ R0.cells) (hs : slots + N ≤ R0.slots) (hdg : decode cc pc = .ok (.newarray .int, 2))
    (kk : ∀ (q : Nat) (H1 : Heap), fb_In D A s.heap (bs ++ [fb_aw cI q N (fun _ => 0)]).flatten H1 locs → K + 1 ≤ H1.size → W p l e R0 s m args below meth c H1 locs (cells + 1) (slots + N) Q (F0 m (pc + 2) ls (.ref q :: rest))) : W p l e R0 s m args below meth c H locs cells slots Q (F0 m pc ls (.int n :: rest)) := by
  obtain ⟨hx, hb, hr, hml, hown, hts, hlk, hA, hK, hF⟩ := X
  refine va_newaK (atype := .int) hx hb (hts _ harr) rfl hdg rfl hn.1 hn.2 hby hc hs rfl fun H1 cA e1 z1 o1 hAr hNm => ?_
  have e2 : s.vm.findClass ("[" ++ (FieldType.int).toString) = some cI := (hK.1.2 0 (cI, .int) rfl).2
  have e3 : cA = cI := Option.some.inj (hNm.symm.trans e2)
  rw [e3] at e1
  have hk : ∀ (k : Nat) (x : Nat × va_E), bs.flatten[k]? = some x → H1[x.1]? = H[x.1]? := fun k x hx => o1 x.1 ((I.1 k x hx).lt)
  have hz1 : K + 1 ≤ H1.size := by omega
  have hS1 : s.heap.size ≤ H1.size := Nat.le_trans I.2.2.1 (by omega)
  refine kk H.size H1 (fb_snoc (w := fb_aw cI H.size N (fun _ => 0)) ⟨(I.1.kept hk).app (fun k x hx => ?_), I.2.1.push I.1 rfl (hA _ I.2.2.1), hS1, fun x h1 h2 => (o1 x (Nat.lt_of_lt_of_le h1 I.2.2.1)).trans (I.2.2.2.1 x h1 h2), I.2.2.2.2⟩) hz1
  have hz2 : k < 1 := (List.getElem?_eq_some_iff.mp hx).1
  rw [show k = 0 by omega] at hx
  cases hx
  exact e1
theorem fb_isCz {a : Nat} {cA : ClassId} {N n : Nat} {f : Nat → Int32} {wn : va_W} {i x : Int32} (hz : K ≤ H.size) (X : fb_Bx p s m args meth c cc own nL ret D tys A) (I : fb_In D A s.heap ws H locs) (q0 t0 : Nat) (ha : ws[q0]? = some (a, .inl (cA, N, .inl f))) (ht : tys[t0]? = some (cA, .int)) (hn : i.toNatClampNeg = n) (h0 : ¬ i < 0) (hlt : n < N) (hwn : ws.set q0 (a, .inl (cA, N, .inl (upd f n x))) = wn) (hdg : decode cc pc = .ok (.iastore, 1))
    (kk : ∀ (H1 : Heap) (locs1 : List Loc), fb_In D A s.heap wn H1 locs1 → K ≤ H1.size → W p l e R0 s m args below meth c H1 locs1 cells slots Q (F0 m (pc + 1) ls rest)) : W p l e R0 s m args below meth c H locs cells slots Q (F0 m pc ls (.int x :: .int i :: .ref a :: rest)) := by
  obtain ⟨hx, hb, hr, hml, hown, hts, hlk, hA, hK, hF⟩ := X
  subst hn
  refine va_iast hx hb hK.1 I.1 I.2.1 (zz_r I.2.2) q0 t0 ha ht (fb_inC rfl h0 hlt) hdg ?_
  intro H1 locs1 h1 h2 h3
  rw [hwn] at h1 h2
  exact kk H1 locs1 ⟨h1, h2, zz_S I.2.2 h3⟩ (Nat.le_trans hz h3.1)
theorem fb_zsCz {a : Nat} {cA : ClassId} {N n : Nat} {f : Nat → Int32} {wn : va_W} {i x v : Int32} (hz : K ≤ H.size) (X : fb_Bx p s m args meth c cc own nL ret D tys A) (I : fb_In D A s.heap ws H locs) (q0 t0 : Nat) (ha : ws[q0]? = some (a, .inl (cA, N, .inl f))) (ht : tys[t0]? = some (cA, .boolean)) (hn : i.toNatClampNeg = n) (h0 : ¬ i < 0) (hlt : n < N) (hx9 : vp_nar .boolean x = v) (hwn : ws.set q0 (a, .inl (cA, N, .inl (upd f n v))) = wn) (hdg : decode cc pc = .ok (.bastore, 1))
    (kk : ∀ (H1 : Heap) (locs1 : List Loc), fb_In D A s.heap wn H1 locs1 → K ≤ H1.size → W p l e R0 s m args below meth c H1 locs1 cells slots Q (F0 m (pc + 1) ls rest)) : W p l e R0 s m args below meth c H locs cells slots Q (F0 m pc ls (.int x :: .int i :: .ref a :: rest)) := by
  obtain ⟨hx, hb, hr, hml, hown, hts, hlk, hA, hK, hF⟩ := X
  subst hn
  subst hx9
  refine va_zast hx hb hK.1 I.1 I.2.1 (zz_r I.2.2) q0 t0 ha ht (fb_inC rfl h0 hlt) hdg ?_
  intro H1 locs1 h1 h2 h3
  rw [hwn] at h1 h2
  exact kk H1 locs1 ⟨h1, h2, zz_S I.2.2 h3⟩ (Nat.le_trans hz h3.1)
theorem fb_retRz {S : Type} {post : S → Prop} {wf : S → Nat → va_W} {u : S} {v : Nat} {ty : FieldType} (hz : K ≤ H.size) (X : fb_Bx p s m args meth c cc own nL (some ty) D tys A) (I : fb_In D A s.heap (wf u v) H locs) (hp : post u) (hty : (∃ n, ty = .object n) ∨ ∃ t, ty = .array t) (hdg : decode cc pc = .ok (.areturn, 1)) : W p l e R0 s m args below meth c H locs cells slots (MQ below (fb_QRz K D A post wf) args s cells slots A) (F0 m pc ls [.ref v]) := by
  obtain ⟨hx, hb, hr, hml, hown, hts, hlk, hA, hK, hF⟩ := X
  exact W.aret hx hb hr hty (Or.inr ⟨_, rfl⟩) (fun t ht hW => ⟨⟨u, v, rfl, hp, ⟨by rw [ht]; exact I.1, I.2.1⟩, by rw [ht]; exact hz⟩, I.2.2.F ht⟩) I.2.2.2.2 hdg
theorem fb_retIz {S : Type} {post : Int32 → S → Prop} {wf : S → va_W} {u : S} {v : Int32} {ty : FieldType} (hz : K ≤ H.size) (X : fb_Bx p s m args meth c cc own nL (some ty) D tys A) (I : fb_In D A s.heap (wf u) H locs) (hp : post v u) (hn : narrow ty (.int v) = .int v) (hdg : decode cc pc = .ok (.ireturn, 1)) : W p l e R0 s m args below meth c H locs cells slots (MQ below (fb_QIz K D A post wf) args s cells slots A) (F0 m pc ls [.int v]) := by
  obtain ⟨hx, hb, hr, hml, hown, hts, hlk, hA, hK, hF⟩ := X
  exact W.zret hx hb hr hn (fun t ht hW => ⟨⟨v, u, rfl, hp, ⟨by rw [ht]; exact I.1, I.2.1⟩, by rw [ht]; exact hz⟩, I.2.2.F ht⟩) I.2.2.2.2 hdg
variable {a : Array Value} {st0 : List Value}
theorem fb_gRz {S : Type} {post : S → Prop} {wf : S → Nat → va_W} (wn ds : S → Nat → List va_W) (X : fb_Bx p s m args meth c cc own nL ret D tys A) (I : fb_In D A s.heap bs.flatten H locs) (is : List Nat) (n : Nat) (hn : bs.length = n) (h : is.Perm (List.range n)) (hb : is.map (fun i => bs[i]?) = (cs ++ rs).map some) (hc : cs.flatten = wc)
    (js : List Nat) (n2 : Nat) (hn2 : ∀ u r, (wn u r).length = n2) (h2 : js.Perm (List.range n2)) (hb2 : ∀ u r, js.map (fun i => (wn u r)[i]?) = (ds u r ++ rs).map some) (hc2 : ∀ u r, (ds u r).flatten = wf u r)
    (hr : fb_In D A s.heap (wc ++ rs.flatten) H locs → va_Run p l e R0 s m args below meth c H locs cells slots mc ms (F0 m pc ls st0) rest (fb_QRz K D (va_A wc H.size) post wf a) (va_A wc H.size))
    (kk : ∀ (u : S) (r : Nat) (H1 : Heap) (locs1 : List Loc), post u → K ≤ H1.size → fb_In D A s.heap (wn u r).flatten H1 locs1 → W p l e R0 s m args below meth c H1 locs1 (cells + mc) (slots + ms) Q (F0 m (pc + 3) ls (.ref r :: rest))) : W p l e R0 s m args below meth c H locs cells slots Q (F0 m pc ls st0) := by
  have J := fb_cut I n hn is h hb hc
  obtain ⟨hx, hb', hr', hml, hown, hts, hlk, hA, hK, hF⟩ := X
  refine va_callr (hr J) J.2.2 (fun q _ h => fb_freeB J hA q h) (fb_freeB J hA) ?_
  intro u r t H1 locs1 ht hvm hp hBt hsz hkk hS1
  subst ht
  exact kk u r _ locs1 hp hBt.2 (fb_uncut (fb_frame J hA hkk hBt.1.1 hBt.1.2 hS1) n2 (hn2 u r) js h2 (hb2 u r) (hc2 u r))
theorem fb_gIz {S : Type} {post : Int32 → S → Prop} {wf : S → va_W} (wn ds : S → List va_W) (X : fb_Bx p s m args meth c cc own nL ret D tys A) (I : fb_In D A s.heap bs.flatten H locs) (is : List Nat) (n : Nat) (hn : bs.length = n) (h : is.Perm (List.range n)) (hb : is.map (fun i => bs[i]?) = (cs ++ rs).map some) (hc : cs.flatten = wc)
    (js : List Nat) (n2 : Nat) (hn2 : ∀ u, (wn u).length = n2) (h2 : js.Perm (List.range n2)) (hb2 : ∀ u, js.map (fun i => (wn u)[i]?) = (ds u ++ rs).map some) (hc2 : ∀ u, (ds u).flatten = wf u)
    (hr : fb_In D A s.heap (wc ++ rs.flatten) H locs → va_Run p l e R0 s m args below meth c H locs cells slots mc ms (F0 m pc ls st0) rest (fb_QIz K D (va_A wc H.size) post wf a) (va_A wc H.size))
    (kk : ∀ (r : Int32) (u : S) (H1 : Heap) (locs1 : List Loc), post r u → K ≤ H1.size → fb_In D A s.heap (wn u).flatten H1 locs1 → W p l e R0 s m args below meth c H1 locs1 (cells + mc) (slots + ms) Q (F0 m (pc + 3) ls (.int r :: rest))) : W p l e R0 s m args below meth c H locs cells slots Q (F0 m pc ls st0) := by
  have J := fb_cut I n hn is h hb hc
  obtain ⟨hx, hb', hr', hml, hown, hts, hlk, hA, hK, hF⟩ := X
  refine va_calli (hr J) J.2.2 (fun q _ h => fb_freeB J hA q h) (fb_freeB J hA) ?_
  intro r u t H1 locs1 ht hvm hp hBt hsz hkk hS1
  subst ht
  exact kk r u _ locs1 hp hBt.2 (fb_uncut (fb_frame J hA hkk hBt.1.1 hBt.1.2 hS1) n2 (hn2 u) js h2 (hb2 u) (hc2 u))
theorem fb_gIs {S : Type} {post : Int32 → S → Prop} {wf : S → va_W} (wn ds : S → List va_W) (hz : K ≤ H.size) (X : fb_Bx p s m args meth c cc own nL ret D tys A) (I : fb_In D A s.heap bs.flatten H locs) (is : List Nat) (n : Nat) (hn : bs.length = n) (h : is.Perm (List.range n)) (hb : is.map (fun i => bs[i]?) = (cs ++ rs).map some) (hc : cs.flatten = wc)
    (js : List Nat) (n2 : Nat) (hn2 : ∀ u, (wn u).length = n2) (h2 : js.Perm (List.range n2)) (hb2 : ∀ u, js.map (fun i => (wn u)[i]?) = (ds u ++ rs).map some) (hc2 : ∀ u, (ds u).flatten = wf u)
    (hr : fb_In D A s.heap (wc ++ rs.flatten) H locs → va_Run p l e R0 s m args below meth c H locs cells slots mc ms (F0 m pc ls st0) rest (fb_QI D (va_A wc H.size) post wf a) (va_A wc H.size))
    (kk : ∀ (r : Int32) (u : S) (H1 : Heap) (locs1 : List Loc), K ≤ H1.size → fb_In D A s.heap (wn u).flatten H1 locs1 → W p l e R0 s m args below meth c H1 locs1 (cells + mc) (slots + ms) Q (F0 m (pc + 3) ls (.int r :: rest))) : W p l e R0 s m args below meth c H locs cells slots Q (F0 m pc ls st0) := by
  have J := fb_cut I n hn is h hb hc
  obtain ⟨hx, hb', hr', hml, hown, hts, hlk, hA, hK, hF⟩ := X
  refine va_calli (hr J) J.2.2 (fun q _ h => fb_freeB J hA q h) (fb_freeB J hA) ?_
  intro r u t H1 locs1 ht hvm hp hBt hsz hkk hS1
  subst ht
  exact kk r u _ locs1 (Nat.le_trans hz hsz) (fb_uncut (fb_frame J hA hkk hBt.1 hBt.2 hS1) n2 (hn2 u) js h2 (hb2 u) (hc2 u))
end ZR
section ZE
variable {l : Launch} {y : MethodName} {rm : Room} {cc : ByteArray} {maxL mc ms sz : Nat} {ret : Option FieldType} {D : va_G} {tys : List (ClassId × FieldType)} {av : List Value} {wc : va_W}
theorem fb_entz {Qf : (Nat → Prop) → Array Value → State → Outcome → State → Prop} (hy : plainName y.cls = true) (hn : (lg_sl av).length ≤ maxL)
    (body : ∀ p e s m args below meth c A ls, s.heap.size = sz → fb_Bx p s m args meth c cc y.cls maxL ret D tys A → fb_In D A s.heap wc s.heap [] → lv_has ls maxL (lv_args 0 av) → (meth.name = y.name) → W p l e rm s m args below meth c s.heap [] 0 0 (MQ below (Qf A) args s mc ms A) (F0 m 0 ls [])) : Met l y (Cond.code y cc maxL ret :: fb_all) rm (fb_PP D tys av wc sz) (Qf (va_A wc sz)) mc ms (va_A wc sz) := by
  refine Met.ofW (cc := cc) (maxL := maxL) (ret := ret) hy rfl ?_
  intro p e s m args below meth c s₁ B hml hv
  obtain ⟨rfl, hsz, hP, hK, hD0, hF⟩ := hv
  subst hsz
  have hts : ∀ w ∈ fb_all, w.before av.toArray s = true := fun w h => atoms_spec (ws := Cond.code y cc maxL ret :: fb_all) B.pre w (List.mem_cons_of_mem _ h)
  have hown : s.vm.findClass y.cls = some m.cls := findClass_of_methodNamed (x := y) B.named
  have hl := lv_entry av (n := maxL) hn
  rw [lg_entry_eq]
  refine body p e s m av.toArray below meth c (va_A wc s.heap.size) _ rfl ⟨B.exec, B.bytes, B.returns, hml, hown, hts, B.notSynchronized, fun q h => Or.inr h, hK, hF⟩ ⟨hP, hD0.self, va_S.rf⟩ hl ?_
  exact (name_of_methodNamed B.named B.method).1
end ZE
set_option maxHeartbeats 4000000 in
set_option maxRecDepth 100000 in
theorem bz_reached_75 {p : Program} {l : Launch} {e : Env} {s : State} {m : MethodId} {args : Array Value} {below : List Frame} {meth : Method} {c : Code} {D : va_G} {cI cJ : ClassId} {A : Nat → Prop} {za : Nat} {zr : Nat → Nat} {x1 : Nat} {x2 : Nat} (X : fb_Bx p s m args meth c cX12_reached RX12 14 (some (.array .boolean)) D (fb_ty D cI cJ) A)   : ∀ (n zi : Nat) (hn : zi + n = 4095) (zb : fb_AR) (zc : fb_AR) (ib : ∀ j, j < 4096 → zb j = if j ≤ zi then 1 else 0) (ic : ∀ j, j ≤ zi → zc j = nI j) (H : Heap) (locs : List Loc) (ls : Array Slot) (I : fb_In D A s.heap (([fb_o12 za zr fr_e0, fb_aw cI (zr 0) 16205 (fr_m (fun _ => 0) 0), fb_aw (D.1 20) x1 4096 zb, fb_aw cI x2 4096 zc] : List va_W).flatten) H locs) (hz : s.heap.size + zi ≤ H.size) (hl : lv_has ls 14 [(4, .int (nI zi)), (3, .int (nI (zi + 1))), (2, .ref x2), (1, .ref x1), (0, .ref za)]), W p l e ({ frames := 5, cells := 4098, slots := 16384, locals := 122 } : Room) s m args below meth c H locs ((0 + 1 + 1 + 1 * zi)) ((0 + 4096 + 4096 + 2 * zi)) (MQ below (fb_QRz (s.heap.size + 4096) D A (fun (t : fb_AR) => ∀ j, j < 4096 → t j = 1) (fun (t : fb_AR) (rr : Nat) => ([fb_o12 za zr fr_e0, fb_aw cI (zr 0) 16205 (fr_m (fun _ => 0) 0), fb_aw (D.1 20) rr 4096 t] : List va_W).flatten)) args s 4098 16384 A) (F0 m 75 ls []) := by
  intro n
  obtain ⟨hx, hb, hr, hml, hown, hts, hlk, hA, hK, hF⟩ := id X
  induction n with
  | zero =>
    intro zi hn zb zc ib ic H locs ls I hz hl
    have ziE : 4095 = zi := by omega
    subst ziE
    refine lv_iload hx hb dX12_reached_75 (lv_at hl 0 rfl) ?_
    refine lv_iload_n hx hb dX12_reached_77 rfl (lv_at hl 1 rfl) ?_
    refine lv_icmp_ge (tgt := 348) hx hb dX12_reached_78 (by decide) (fun c31 => absurd c31 (nI_ge (a := 4095) (b := (4095 + 1)) (by omega) (by omega))) (fun _ => ?_)
    refine lv_aload_n hx hb dX12_reached_81 rfl (lv_at hl 2 rfl) ?_
    refine lv_iload hx hb dX12_reached_82 (lv_at hl 0 rfl) ?_
    refine fb_iaC (n := 4095) (v := (nI 4095)) X I 3 0 rfl rfl (nI_clamp (by omega)) (nI_pos (by omega)) (by omega) (ic 4095 (by omega)) dX12_reached_84 ?_
    refine lv_istore (lv' := [(5, .int (nI 4095)), (4, .int (nI 4095)), (3, .int (nI (4095 + 1))), (2, .ref x2), (1, .ref x1), (0, .ref za)]) hx hb dX12_reached_85 hl (by decide) rfl (fun ls hl => ?_)
    refine lv_aload_n hx hb dX12_reached_87 rfl (lv_at hl 5 rfl) ?_
    refine lv_iload hx hb dX12_reached_88 (lv_at hl 0 rfl) ?_
    refine fb_gO (cs := [fb_o12 za zr fr_e0, fb_aw cI (zr 0) 16205 (fr_m (fun _ => 0) 0)]) (rs := [fb_aw (D.1 20) x1 4096 zb, fb_aw cI x2 4096 zc]) X I [0, 1, 2, 3] 4 rfl (by decide +kernel) rfl rfl (fun I => fb_rV (As := [.int (nI 4095)]) (rest := []) X hl (fb_goodV fw_1949 fw_1951 fw_86 fw_204 fw_1952) (c_code l D cI cJ za zr fr_e0 (fr_m (fun _ => 0) 0) (nI 4095) _ (fr_hm _ _) rfl) rfl rfl rfl (by decide +kernel : fb_hd yX12_code 1) ⟨Nat.le_of_ble_eq_true rfl, Nat.le_of_ble_eq_true rfl⟩ rfl rfl rfl rfl rfl (Nat.le_of_ble_eq_true rfl) ⟨by show (0 + 1 + 1 + 1 * 4095) + 0 ≤ 4098; omega, by show (0 + 4096 + 4096 + 2 * 4095) + 0 ≤ 16384; omega⟩ dX12_reached_90 I) ?_
    refine lv_istore (lv' := [(6, .int (0 : Int32)), (5, .int (nI 4095)), (4, .int (nI 4095)), (3, .int (nI (4095 + 1))), (2, .ref x2), (1, .ref x1), (0, .ref za)]) hx hb dX12_reached_93 hl (by decide) rfl (fun ls hl => ?_)
    refine lv_iload hx hb dX12_reached_95 (lv_at hl 0 rfl) ?_
    refine fb_gO (cs := []) (rs := [fb_o12 za zr fr_e0, fb_aw cI (zr 0) 16205 (fr_m (fun _ => 0) 0), fb_aw (D.1 20) x1 4096 zb, fb_aw cI x2 4096 zc]) X I [0, 1, 2, 3] 4 rfl (by decide +kernel) rfl rfl (fun I => fb_rS (As := [.int (0 : Int32)]) (rest := []) X hl (fb_goodS fw_2492 fw_2493 fw_204 fw_2494) (c_X12_isInstruction l D cI cJ (0 : Int32) _) rfl rfl (by decide +kernel : fb_hd yX12_isInstruction 1) ⟨Nat.le_of_ble_eq_true rfl, Nat.le_of_ble_eq_true rfl⟩ rfl rfl (Nat.le_of_ble_eq_true rfl) ⟨by show (0 + 1 + 1 + 1 * 4095) + 0 ≤ 4098; omega, by show (0 + 4096 + 4096 + 2 * 4095) + 0 ≤ 16384; omega⟩ dX12_reached_97 I) ?_
    refine fb_tI (v := (1 : Int32)) (by decide) ?_
    refine lv_if_ne (tgt := 111) hx hb dX12_reached_100 (by decide) (fun _ => ?_) (fun c32 => absurd c32 (by decide))
    refine lv_iload hx hb dX12_reached_111 (lv_at hl 0 rfl) ?_
    refine lv_bipush (v := (8 : Int32)) hx hb dX12_reached_113 (by decide) ?_
    refine lv_idiv hx hb dX12_reached_115 (by decide) ?_
    refine fb_tI (v := (0 : Int32)) (by decide) ?_
    refine lv_istore (lv' := [(7, .int (0 : Int32)), (6, .int (0 : Int32)), (5, .int (nI 4095)), (4, .int (nI 4095)), (3, .int (nI (4095 + 1))), (2, .ref x2), (1, .ref x1), (0, .ref za)]) hx hb dX12_reached_116 hl (by decide) rfl (fun ls hl => ?_)
    refine lv_iload hx hb dX12_reached_118 (lv_at hl 1 rfl) ?_
    refine lv_iconst (v := (1 : Int32)) hx hb dX12_reached_120 (by decide) ?_
    refine lv_icmp_eq (tgt := 151) hx hb dX12_reached_121 (by decide) (fun c33 => absurd c33 (by decide)) (fun _ => ?_)
    refine lv_iload hx hb dX12_reached_124 (lv_at hl 1 rfl) ?_
    refine lv_iconst (v := (3 : Int32)) hx hb dX12_reached_126 (by decide) ?_
    refine lv_icmp_eq (tgt := 151) hx hb dX12_reached_127 (by decide) (fun c34 => absurd c34 (by decide)) (fun _ => ?_)
    refine lv_iload hx hb dX12_reached_130 (lv_at hl 1 rfl) ?_
    refine lv_iconst (v := (4 : Int32)) hx hb dX12_reached_132 (by decide) ?_
    refine lv_icmp_eq (tgt := 151) hx hb dX12_reached_133 (by decide) (fun c35 => absurd c35 (by decide)) (fun _ => ?_)
    refine lv_iload hx hb dX12_reached_136 (lv_at hl 0 rfl) ?_
    refine lv_bipush (v := (24 : Int32)) hx hb dX12_reached_138 (by decide) ?_
    refine lv_icmp_eq (tgt := 151) hx hb dX12_reached_140 (by decide) (fun c36 => absurd c36 (by decide)) (fun _ => ?_)
    refine lv_iload hx hb dX12_reached_143 (lv_at hl 1 rfl) ?_
    refine lv_sipush (v := (216 : Int32)) hx hb dX12_reached_145 (by decide) ?_
    refine lv_icmp_ne (tgt := 155) hx hb dX12_reached_148 (by decide) (fun _ => ?_) (fun c37 => absurd c37 (by decide))
    refine lv_iconst (v := (0 : Int32)) hx hb dX12_reached_155 (by decide) ?_
    refine lv_istore (lv' := [(8, .int (0 : Int32)), (7, .int (0 : Int32)), (6, .int (0 : Int32)), (5, .int (nI 4095)), (4, .int (nI 4095)), (3, .int (nI (4095 + 1))), (2, .ref x2), (1, .ref x1), (0, .ref za)]) hx hb dX12_reached_156 hl (by decide) rfl (fun ls hl => ?_)
    refine lv_iconst (v := (2 : Int32)) hx hb dX12_reached_158 (by decide) ?_
    refine fb_nIz hz (N := 2) X I fw_261 (by decide) (Nat.le_of_ble_eq_true rfl) (by show (0 + 1 + 1 + 1 * 4095) + 1 ≤ 4098; omega) (by show (0 + 4096 + 4096 + 2 * 4095) + 2 ≤ 16384; omega) dX12_reached_159 (fun x38 H I hz => ?_)
    have I : fb_In D A s.heap (([fb_o12 za zr fr_e0, fb_aw cI (zr 0) 16205 (fr_m (fun _ => 0) 0), fb_aw (D.1 20) x1 4096 zb, fb_aw cI x2 4096 zc, fb_aw cI x38 2 (fun _ => 0)] : List va_W).flatten) H _ := I
    refine lv_dup hx hb dX12_reached_161 rfl ?_
    refine lv_iconst (v := (0 : Int32)) hx hb dX12_reached_162 (by decide) ?_
    refine lv_iload hx hb dX12_reached_163 (lv_at hl 0 rfl) ?_
    refine lv_if_eq (tgt := 172) hx hb dX12_reached_165 (by decide) (fun _ => ?_) (fun c39 => absurd (by decide) c39)
    refine lv_iload hx hb dX12_reached_172 (lv_at hl 3 rfl) ?_
    refine lv_iload hx hb dX12_reached_174 (lv_at hl 2 rfl) ?_
    refine fb_gO (cs := []) (rs := [fb_o12 za zr fr_e0, fb_aw cI (zr 0) 16205 (fr_m (fun _ => 0) 0), fb_aw (D.1 20) x1 4096 zb, fb_aw cI x2 4096 zc, fb_aw cI x38 2 (fun _ => 0)]) X I [0, 1, 2, 3, 4] 5 rfl (by decide +kernel) rfl rfl (fun I => fb_rS (As := [.int (0 : Int32)]) (rest := [.int (nI 4095), .int (0 : Int32), .ref x38, .ref x38]) X hl (fb_goodS fw_2499 fw_2500 fw_204 fw_2501) (c_X12_length l D cI cJ (0 : Int32) _) rfl rfl (by decide +kernel : fb_hd yX12_length 1) ⟨Nat.le_of_ble_eq_true rfl, Nat.le_of_ble_eq_true rfl⟩ rfl rfl (Nat.le_of_ble_eq_true rfl) ⟨by show (0 + 1 + 1 + 1 * 4095) + 1 + 0 ≤ 4098; omega, by show (0 + 4096 + 4096 + 2 * 4095) + 2 + 0 ≤ 16384; omega⟩ dX12_reached_176 I) ?_
    refine fb_tI (v := (1 : Int32)) (by decide) ?_
    refine lv_iadd hx hb dX12_reached_179 ?_
    refine fb_tI (v := (nI (4095 + 1))) (nI_add 4095 1) ?_
    refine lv_sipush (v := (4095 : Int32)) hx hb dX12_reached_180 (by decide) ?_
    refine lv_iand hx hb dX12_reached_183 ?_
    refine fb_tI (v := (0 : Int32)) (by decide) ?_
    refine fb_isCz hz (n := 0) (wn := ([fb_o12 za zr fr_e0, fb_aw cI (zr 0) 16205 (fr_m (fun _ => 0) 0), fb_aw (D.1 20) x1 4096 zb, fb_aw cI x2 4096 zc, fb_aw cI x38 2 (upd (fun _ => 0) 0 (0 : Int32))] : List va_W).flatten) X I 4 0 rfl rfl (by decide) (by decide) (Nat.le_of_ble_eq_true rfl) rfl dX12_reached_184 (fun H locs I hz => ?_)
    refine lv_dup hx hb dX12_reached_185 rfl ?_
    refine lv_iconst (v := (1 : Int32)) hx hb dX12_reached_186 (by decide) ?_
    refine lv_iload hx hb dX12_reached_187 (lv_at hl 1 rfl) ?_
    refine lv_bipush (v := (24 : Int32)) hx hb dX12_reached_189 (by decide) ?_
    refine lv_icmp_eq (tgt := 201) hx hb dX12_reached_191 (by decide) (fun c40 => absurd c40 (by decide)) (fun _ => ?_)
    refine lv_iload hx hb dX12_reached_194 (lv_at hl 1 rfl) ?_
    refine lv_bipush (v := (25 : Int32)) hx hb dX12_reached_196 (by decide) ?_
    refine lv_icmp_ne (tgt := 238) hx hb dX12_reached_198 (by decide) (fun _ => ?_) (fun c41 => absurd c41 (by decide))
    refine lv_iload hx hb dX12_reached_238 (lv_at hl 1 rfl) ?_
    refine lv_bipush (v := (25 : Int32)) hx hb dX12_reached_240 (by decide) ?_
    refine lv_icmp_le (tgt := 254) hx hb dX12_reached_242 (by decide) (fun _ => ?_) (fun c42 => absurd (by decide) c42)
    refine lv_iload hx hb dX12_reached_254 (lv_at hl 2 rfl) ?_
    refine lv_iconst (v := (5 : Int32)) hx hb dX12_reached_256 (by decide) ?_
    refine lv_icmp_ne (tgt := 269) hx hb dX12_reached_257 (by decide) (fun _ => ?_) (fun c43 => absurd c43 (by decide))
    refine lv_iconst (v := (-1 : Int32)) hx hb dX12_reached_269 (by decide) ?_
    refine fb_isCz hz (n := 1) (wn := ([fb_o12 za zr fr_e0, fb_aw cI (zr 0) 16205 (fr_m (fun _ => 0) 0), fb_aw (D.1 20) x1 4096 zb, fb_aw cI x2 4096 zc, fb_aw cI x38 2 (upd (upd (fun _ => 0) 0 (0 : Int32)) 1 (-1 : Int32))] : List va_W).flatten) X I 4 0 rfl rfl (by decide) (by decide) (Nat.le_of_ble_eq_true rfl) rfl dX12_reached_270 (fun H locs I hz => ?_)
    refine lv_astore (lv' := [(9, .ref x38), (8, .int (0 : Int32)), (7, .int (0 : Int32)), (6, .int (0 : Int32)), (5, .int (nI 4095)), (4, .int (nI 4095)), (3, .int (nI (4095 + 1))), (2, .ref x2), (1, .ref x1), (0, .ref za)]) hx hb dX12_reached_271 hl (by decide) rfl (fun ls hl => ?_)
    refine lv_aload hx hb dX12_reached_273 (lv_at hl 0 rfl) ?_
    refine lv_astore (lv' := [(10, .ref x38), (9, .ref x38), (8, .int (0 : Int32)), (7, .int (0 : Int32)), (6, .int (0 : Int32)), (5, .int (nI 4095)), (4, .int (nI 4095)), (3, .int (nI (4095 + 1))), (2, .ref x2), (1, .ref x1), (0, .ref za)]) hx hb dX12_reached_275 hl (by decide) rfl (fun ls hl => ?_)
    refine lv_aload hx hb dX12_reached_277 (lv_at hl 0 rfl) ?_
    refine fb_alen (v := (2 : Int32)) X I 4 0 rfl rfl rfl dX12_reached_279 ?_
    refine lv_istore (lv' := [(11, .int (2 : Int32)), (10, .ref x38), (9, .ref x38), (8, .int (0 : Int32)), (7, .int (0 : Int32)), (6, .int (0 : Int32)), (5, .int (nI 4095)), (4, .int (nI 4095)), (3, .int (nI (4095 + 1))), (2, .ref x2), (1, .ref x1), (0, .ref za)]) hx hb dX12_reached_280 hl (by decide) rfl (fun ls hl => ?_)
    refine lv_iconst (v := (0 : Int32)) hx hb dX12_reached_282 (by decide) ?_
    refine lv_istore (lv' := [(12, .int (0 : Int32)), (11, .int (2 : Int32)), (10, .ref x38), (9, .ref x38), (8, .int (0 : Int32)), (7, .int (0 : Int32)), (6, .int (0 : Int32)), (5, .int (nI 4095)), (4, .int (nI 4095)), (3, .int (nI (4095 + 1))), (2, .ref x2), (1, .ref x1), (0, .ref za)]) hx hb dX12_reached_283 hl (by decide) rfl (fun ls hl => ?_)
    refine lv_iload hx hb dX12_reached_285 (lv_at hl 0 rfl) ?_
    refine lv_iload hx hb dX12_reached_287 (lv_at hl 1 rfl) ?_
    refine lv_icmp_ge (tgt := 342) hx hb dX12_reached_289 (by decide) (fun c44 => absurd c44 (by decide)) (fun _ => ?_)
    refine lv_aload hx hb dX12_reached_292 (lv_at hl 2 rfl) ?_
    refine lv_iload hx hb dX12_reached_294 (lv_at hl 0 rfl) ?_
    refine fb_iaC (n := 0) (v := (0 : Int32)) X I 4 0 rfl rfl (by decide) (by decide) (Nat.le_of_ble_eq_true rfl) ((pk_un (by decide)).trans pk_us) dX12_reached_296 ?_
    refine lv_istore (lv' := [(13, .int (0 : Int32)), (12, .int (0 : Int32)), (11, .int (2 : Int32)), (10, .ref x38), (9, .ref x38), (8, .int (0 : Int32)), (7, .int (0 : Int32)), (6, .int (0 : Int32)), (5, .int (nI 4095)), (4, .int (nI 4095)), (3, .int (nI (4095 + 1))), (2, .ref x2), (1, .ref x1), (0, .ref za)]) hx hb dX12_reached_297 hl (by decide) rfl (fun ls hl => ?_)
    refine lv_iload hx hb dX12_reached_299 (lv_at hl 0 rfl) ?_
    refine lv_if_lt (tgt := 336) hx hb dX12_reached_301 (by decide) (fun c45 => absurd c45 (by decide)) (fun _ => ?_)
    refine lv_aload_n hx hb dX12_reached_304 rfl (lv_at hl 12 rfl) ?_
    refine lv_iload hx hb dX12_reached_305 (lv_at hl 0 rfl) ?_
    refine fb_zaC (n := 0) (v := (1 : Int32)) X I 2 2 rfl rfl (by decide) (by decide) (Nat.le_of_ble_eq_true rfl) ((ib 0 (by omega)).trans (if_pos (by omega))) dX12_reached_307 ?_
    refine lv_if_ne (tgt := 336) hx hb dX12_reached_308 (by decide) (fun _ => ?_) (fun c46 => absurd c46 (by decide))
    refine lv_iinc (v := (1 : Int32)) (lv' := [(12, .int (1 : Int32)), (13, .int (0 : Int32)), (11, .int (2 : Int32)), (10, .ref x38), (9, .ref x38), (8, .int (0 : Int32)), (7, .int (0 : Int32)), (6, .int (0 : Int32)), (5, .int (nI 4095)), (4, .int (nI 4095)), (3, .int (nI (4095 + 1))), (2, .ref x2), (1, .ref x1), (0, .ref za)]) hx hb dX12_reached_336 hl (k := 1) rfl (by decide) (by decide) rfl (fun ls hl => ?_)
    refine lv_goto (tgt := 285) hx hb dX12_reached_339 (by decide) ?_
    refine lv_iload hx hb dX12_reached_285 (lv_at hl 0 rfl) ?_
    refine lv_iload hx hb dX12_reached_287 (lv_at hl 2 rfl) ?_
    refine lv_icmp_ge (tgt := 342) hx hb dX12_reached_289 (by decide) (fun c47 => absurd c47 (by decide)) (fun _ => ?_)
    refine lv_aload hx hb dX12_reached_292 (lv_at hl 3 rfl) ?_
    refine lv_iload hx hb dX12_reached_294 (lv_at hl 0 rfl) ?_
    refine fb_iaC (n := 1) (v := (-1 : Int32)) X I 4 0 rfl rfl (by decide) (by decide) (Nat.le_of_ble_eq_true rfl) pk_us dX12_reached_296 ?_
    refine lv_istore (lv' := [(13, .int (-1 : Int32)), (12, .int (1 : Int32)), (11, .int (2 : Int32)), (10, .ref x38), (9, .ref x38), (8, .int (0 : Int32)), (7, .int (0 : Int32)), (6, .int (0 : Int32)), (5, .int (nI 4095)), (4, .int (nI 4095)), (3, .int (nI (4095 + 1))), (2, .ref x2), (1, .ref x1), (0, .ref za)]) hx hb dX12_reached_297 hl (by decide) rfl (fun ls hl => ?_)
    refine lv_iload hx hb dX12_reached_299 (lv_at hl 0 rfl) ?_
    refine lv_if_lt (tgt := 336) hx hb dX12_reached_301 (by decide) (fun _ => ?_) (fun c48 => absurd (by decide) c48)
    refine lv_iinc (v := (2 : Int32)) (lv' := [(12, .int (2 : Int32)), (13, .int (-1 : Int32)), (11, .int (2 : Int32)), (10, .ref x38), (9, .ref x38), (8, .int (0 : Int32)), (7, .int (0 : Int32)), (6, .int (0 : Int32)), (5, .int (nI 4095)), (4, .int (nI 4095)), (3, .int (nI (4095 + 1))), (2, .ref x2), (1, .ref x1), (0, .ref za)]) hx hb dX12_reached_336 hl (k := 1) rfl (by decide) (by decide) rfl (fun ls hl => ?_)
    refine lv_goto (tgt := 285) hx hb dX12_reached_339 (by decide) ?_
    refine lv_iload hx hb dX12_reached_285 (lv_at hl 0 rfl) ?_
    refine lv_iload hx hb dX12_reached_287 (lv_at hl 2 rfl) ?_
    refine lv_icmp_ge (tgt := 342) hx hb dX12_reached_289 (by decide) (fun _ => ?_) (fun c49 => absurd (by decide) c49)
    refine lv_iinc (v := (nI (4095 + 1))) (lv' := [(4, .int (nI (4095 + 1))), (12, .int (2 : Int32)), (13, .int (-1 : Int32)), (11, .int (2 : Int32)), (10, .ref x38), (9, .ref x38), (8, .int (0 : Int32)), (7, .int (0 : Int32)), (6, .int (0 : Int32)), (5, .int (nI 4095)), (3, .int (nI (4095 + 1))), (2, .ref x2), (1, .ref x1), (0, .ref za)]) hx hb dX12_reached_342 hl (k := 9) rfl (nI_add _ 1) (by decide) rfl (fun ls hl => ?_)
    refine lv_goto (tgt := 75) hx hb dX12_reached_345 (by decide) ?_
    refine lv_iload hx hb dX12_reached_75 (lv_at hl 0 rfl) ?_
    refine lv_iload_n hx hb dX12_reached_77 rfl (lv_at hl 10 rfl) ?_
    refine lv_icmp_ge (tgt := 348) hx hb dX12_reached_78 (by decide) (fun _ => ?_) (fun c50 => absurd (nI_le (a := (4095 + 1)) (b := (4095 + 1)) (by omega) (by omega)) c50)
    refine lv_aload_n hx hb dX12_reached_348 rfl (lv_at hl 12 rfl) ?_
    have I : fb_In D A s.heap (([fb_o12 za zr fr_e0, fb_aw cI (zr 0) 16205 (fr_m (fun _ => 0) 0), fb_aw (D.1 20) x1 4096 zb] : List va_W).flatten) H _ := fb_dropB (bs := [fb_o12 za zr fr_e0, fb_aw cI (zr 0) 16205 (fr_m (fun _ => 0) 0), fb_aw (D.1 20) x1 4096 zb, fb_aw cI x2 4096 zc, fb_aw cI x38 2 (upd (upd (fun _ => 0) 0 (0 : Int32)) 1 (-1 : Int32))]) (bs' := [fb_o12 za zr fr_e0, fb_aw cI (zr 0) 16205 (fr_m (fun _ => 0) 0), fb_aw (D.1 20) x1 4096 zb]) (gs := [fb_aw cI x2 4096 zc, fb_aw cI x38 2 (upd (upd (fun _ => 0) 0 (0 : Int32)) 1 (-1 : Int32))]) I 5 rfl [0, 1, 2, 3, 4] (by decide +kernel) rfl
    refine W.widen (k := 4098) (n := 16384) (by omega) (by omega) ?_
    exact fb_retRz (K := s.heap.size + 4096) (u := (zb)) (by omega) X I (fun j hj => (ib j hj).trans (if_pos (by omega))) (by first | exact Or.inl ⟨_, rfl⟩ | exact Or.inr ⟨_, rfl⟩) dX12_reached_349
  | succ n ih =>
    intro zi hn zb zc ib ic H locs ls I hz hl
    have ziL : zi < 4095 := by omega
    refine lv_iload hx hb dX12_reached_75 (lv_at hl 0 rfl) ?_
    refine lv_iload_n hx hb dX12_reached_77 rfl (lv_at hl 1 rfl) ?_
    refine lv_icmp_ge (tgt := 348) hx hb dX12_reached_78 (by decide) (fun c51 => absurd c51 (nI_ge (a := zi) (b := (zi + 1)) (by omega) (by omega))) (fun _ => ?_)
    refine lv_aload_n hx hb dX12_reached_81 rfl (lv_at hl 2 rfl) ?_
    refine lv_iload hx hb dX12_reached_82 (lv_at hl 0 rfl) ?_
    refine fb_iaC (n := zi) (v := (nI zi)) X I 3 0 rfl rfl (nI_clamp (by omega)) (nI_pos (by omega)) (by omega) (ic zi (by omega)) dX12_reached_84 ?_
    refine lv_istore (lv' := [(5, .int (nI zi)), (4, .int (nI zi)), (3, .int (nI (zi + 1))), (2, .ref x2), (1, .ref x1), (0, .ref za)]) hx hb dX12_reached_85 hl (by decide) rfl (fun ls hl => ?_)
    refine lv_aload_n hx hb dX12_reached_87 rfl (lv_at hl 5 rfl) ?_
    refine lv_iload hx hb dX12_reached_88 (lv_at hl 0 rfl) ?_
    refine fb_gO (cs := [fb_o12 za zr fr_e0, fb_aw cI (zr 0) 16205 (fr_m (fun _ => 0) 0)]) (rs := [fb_aw (D.1 20) x1 4096 zb, fb_aw cI x2 4096 zc]) X I [0, 1, 2, 3] 4 rfl (by decide +kernel) rfl rfl (fun I => fb_rV (As := [.int (nI zi)]) (rest := []) X hl (fb_goodV fw_1949 fw_1951 fw_86 fw_204 fw_1952) (c_code l D cI cJ za zr fr_e0 (fr_m (fun _ => 0) 0) (nI zi) _ (fr_hm _ _) rfl) rfl rfl rfl (by decide +kernel : fb_hd yX12_code 1) ⟨Nat.le_of_ble_eq_true rfl, Nat.le_of_ble_eq_true rfl⟩ rfl rfl rfl rfl rfl (Nat.le_of_ble_eq_true rfl) ⟨by show (0 + 1 + 1 + 1 * zi) + 0 ≤ 4098; omega, by show (0 + 4096 + 4096 + 2 * zi) + 0 ≤ 16384; omega⟩ dX12_reached_90 I) ?_
    refine lv_istore (lv' := [(6, .int (0 : Int32)), (5, .int (nI zi)), (4, .int (nI zi)), (3, .int (nI (zi + 1))), (2, .ref x2), (1, .ref x1), (0, .ref za)]) hx hb dX12_reached_93 hl (by decide) rfl (fun ls hl => ?_)
    refine lv_iload hx hb dX12_reached_95 (lv_at hl 0 rfl) ?_
    refine fb_gO (cs := []) (rs := [fb_o12 za zr fr_e0, fb_aw cI (zr 0) 16205 (fr_m (fun _ => 0) 0), fb_aw (D.1 20) x1 4096 zb, fb_aw cI x2 4096 zc]) X I [0, 1, 2, 3] 4 rfl (by decide +kernel) rfl rfl (fun I => fb_rS (As := [.int (0 : Int32)]) (rest := []) X hl (fb_goodS fw_2492 fw_2493 fw_204 fw_2494) (c_X12_isInstruction l D cI cJ (0 : Int32) _) rfl rfl (by decide +kernel : fb_hd yX12_isInstruction 1) ⟨Nat.le_of_ble_eq_true rfl, Nat.le_of_ble_eq_true rfl⟩ rfl rfl (Nat.le_of_ble_eq_true rfl) ⟨by show (0 + 1 + 1 + 1 * zi) + 0 ≤ 4098; omega, by show (0 + 4096 + 4096 + 2 * zi) + 0 ≤ 16384; omega⟩ dX12_reached_97 I) ?_
    refine fb_tI (v := (1 : Int32)) (by decide) ?_
    refine lv_if_ne (tgt := 111) hx hb dX12_reached_100 (by decide) (fun _ => ?_) (fun c52 => absurd c52 (by decide))
    refine lv_iload hx hb dX12_reached_111 (lv_at hl 0 rfl) ?_
    refine lv_bipush (v := (8 : Int32)) hx hb dX12_reached_113 (by decide) ?_
    refine lv_idiv hx hb dX12_reached_115 (by decide) ?_
    refine fb_tI (v := (0 : Int32)) (by decide) ?_
    refine lv_istore (lv' := [(7, .int (0 : Int32)), (6, .int (0 : Int32)), (5, .int (nI zi)), (4, .int (nI zi)), (3, .int (nI (zi + 1))), (2, .ref x2), (1, .ref x1), (0, .ref za)]) hx hb dX12_reached_116 hl (by decide) rfl (fun ls hl => ?_)
    refine lv_iload hx hb dX12_reached_118 (lv_at hl 1 rfl) ?_
    refine lv_iconst (v := (1 : Int32)) hx hb dX12_reached_120 (by decide) ?_
    refine lv_icmp_eq (tgt := 151) hx hb dX12_reached_121 (by decide) (fun c53 => absurd c53 (by decide)) (fun _ => ?_)
    refine lv_iload hx hb dX12_reached_124 (lv_at hl 1 rfl) ?_
    refine lv_iconst (v := (3 : Int32)) hx hb dX12_reached_126 (by decide) ?_
    refine lv_icmp_eq (tgt := 151) hx hb dX12_reached_127 (by decide) (fun c54 => absurd c54 (by decide)) (fun _ => ?_)
    refine lv_iload hx hb dX12_reached_130 (lv_at hl 1 rfl) ?_
    refine lv_iconst (v := (4 : Int32)) hx hb dX12_reached_132 (by decide) ?_
    refine lv_icmp_eq (tgt := 151) hx hb dX12_reached_133 (by decide) (fun c55 => absurd c55 (by decide)) (fun _ => ?_)
    refine lv_iload hx hb dX12_reached_136 (lv_at hl 0 rfl) ?_
    refine lv_bipush (v := (24 : Int32)) hx hb dX12_reached_138 (by decide) ?_
    refine lv_icmp_eq (tgt := 151) hx hb dX12_reached_140 (by decide) (fun c56 => absurd c56 (by decide)) (fun _ => ?_)
    refine lv_iload hx hb dX12_reached_143 (lv_at hl 1 rfl) ?_
    refine lv_sipush (v := (216 : Int32)) hx hb dX12_reached_145 (by decide) ?_
    refine lv_icmp_ne (tgt := 155) hx hb dX12_reached_148 (by decide) (fun _ => ?_) (fun c57 => absurd c57 (by decide))
    refine lv_iconst (v := (0 : Int32)) hx hb dX12_reached_155 (by decide) ?_
    refine lv_istore (lv' := [(8, .int (0 : Int32)), (7, .int (0 : Int32)), (6, .int (0 : Int32)), (5, .int (nI zi)), (4, .int (nI zi)), (3, .int (nI (zi + 1))), (2, .ref x2), (1, .ref x1), (0, .ref za)]) hx hb dX12_reached_156 hl (by decide) rfl (fun ls hl => ?_)
    refine lv_iconst (v := (2 : Int32)) hx hb dX12_reached_158 (by decide) ?_
    refine fb_nIz hz (N := 2) X I fw_261 (by decide) (Nat.le_of_ble_eq_true rfl) (by show (0 + 1 + 1 + 1 * zi) + 1 ≤ 4098; omega) (by show (0 + 4096 + 4096 + 2 * zi) + 2 ≤ 16384; omega) dX12_reached_159 (fun x58 H I hz => ?_)
    have I : fb_In D A s.heap (([fb_o12 za zr fr_e0, fb_aw cI (zr 0) 16205 (fr_m (fun _ => 0) 0), fb_aw (D.1 20) x1 4096 zb, fb_aw cI x2 4096 zc, fb_aw cI x58 2 (fun _ => 0)] : List va_W).flatten) H _ := I
    refine lv_dup hx hb dX12_reached_161 rfl ?_
    refine lv_iconst (v := (0 : Int32)) hx hb dX12_reached_162 (by decide) ?_
    refine lv_iload hx hb dX12_reached_163 (lv_at hl 0 rfl) ?_
    refine lv_if_eq (tgt := 172) hx hb dX12_reached_165 (by decide) (fun _ => ?_) (fun c59 => absurd (by decide) c59)
    refine lv_iload hx hb dX12_reached_172 (lv_at hl 3 rfl) ?_
    refine lv_iload hx hb dX12_reached_174 (lv_at hl 2 rfl) ?_
    refine fb_gO (cs := []) (rs := [fb_o12 za zr fr_e0, fb_aw cI (zr 0) 16205 (fr_m (fun _ => 0) 0), fb_aw (D.1 20) x1 4096 zb, fb_aw cI x2 4096 zc, fb_aw cI x58 2 (fun _ => 0)]) X I [0, 1, 2, 3, 4] 5 rfl (by decide +kernel) rfl rfl (fun I => fb_rS (As := [.int (0 : Int32)]) (rest := [.int (nI zi), .int (0 : Int32), .ref x58, .ref x58]) X hl (fb_goodS fw_2499 fw_2500 fw_204 fw_2501) (c_X12_length l D cI cJ (0 : Int32) _) rfl rfl (by decide +kernel : fb_hd yX12_length 1) ⟨Nat.le_of_ble_eq_true rfl, Nat.le_of_ble_eq_true rfl⟩ rfl rfl (Nat.le_of_ble_eq_true rfl) ⟨by show (0 + 1 + 1 + 1 * zi) + 1 + 0 ≤ 4098; omega, by show (0 + 4096 + 4096 + 2 * zi) + 2 + 0 ≤ 16384; omega⟩ dX12_reached_176 I) ?_
    refine fb_tI (v := (1 : Int32)) (by decide) ?_
    refine lv_iadd hx hb dX12_reached_179 ?_
    refine fb_tI (v := (nI (zi + 1))) (nI_add zi 1) ?_
    refine lv_sipush (v := (4095 : Int32)) hx hb dX12_reached_180 (by decide) ?_
    refine lv_iand hx hb dX12_reached_183 ?_
    refine fb_tI (v := (nI (zi + 1))) (fr_and (by omega)) ?_
    refine fb_isCz hz (n := 0) (wn := ([fb_o12 za zr fr_e0, fb_aw cI (zr 0) 16205 (fr_m (fun _ => 0) 0), fb_aw (D.1 20) x1 4096 zb, fb_aw cI x2 4096 zc, fb_aw cI x58 2 (upd (fun _ => 0) 0 (nI (zi + 1)))] : List va_W).flatten) X I 4 0 rfl rfl (by decide) (by decide) (Nat.le_of_ble_eq_true rfl) rfl dX12_reached_184 (fun H locs I hz => ?_)
    refine lv_dup hx hb dX12_reached_185 rfl ?_
    refine lv_iconst (v := (1 : Int32)) hx hb dX12_reached_186 (by decide) ?_
    refine lv_iload hx hb dX12_reached_187 (lv_at hl 1 rfl) ?_
    refine lv_bipush (v := (24 : Int32)) hx hb dX12_reached_189 (by decide) ?_
    refine lv_icmp_eq (tgt := 201) hx hb dX12_reached_191 (by decide) (fun c60 => absurd c60 (by decide)) (fun _ => ?_)
    refine lv_iload hx hb dX12_reached_194 (lv_at hl 1 rfl) ?_
    refine lv_bipush (v := (25 : Int32)) hx hb dX12_reached_196 (by decide) ?_
    refine lv_icmp_ne (tgt := 238) hx hb dX12_reached_198 (by decide) (fun _ => ?_) (fun c61 => absurd c61 (by decide))
    refine lv_iload hx hb dX12_reached_238 (lv_at hl 1 rfl) ?_
    refine lv_bipush (v := (25 : Int32)) hx hb dX12_reached_240 (by decide) ?_
    refine lv_icmp_le (tgt := 254) hx hb dX12_reached_242 (by decide) (fun _ => ?_) (fun c62 => absurd (by decide) c62)
    refine lv_iload hx hb dX12_reached_254 (lv_at hl 2 rfl) ?_
    refine lv_iconst (v := (5 : Int32)) hx hb dX12_reached_256 (by decide) ?_
    refine lv_icmp_ne (tgt := 269) hx hb dX12_reached_257 (by decide) (fun _ => ?_) (fun c63 => absurd c63 (by decide))
    refine lv_iconst (v := (-1 : Int32)) hx hb dX12_reached_269 (by decide) ?_
    refine fb_isCz hz (n := 1) (wn := ([fb_o12 za zr fr_e0, fb_aw cI (zr 0) 16205 (fr_m (fun _ => 0) 0), fb_aw (D.1 20) x1 4096 zb, fb_aw cI x2 4096 zc, fb_aw cI x58 2 (upd (upd (fun _ => 0) 0 (nI (zi + 1))) 1 (-1 : Int32))] : List va_W).flatten) X I 4 0 rfl rfl (by decide) (by decide) (Nat.le_of_ble_eq_true rfl) rfl dX12_reached_270 (fun H locs I hz => ?_)
    refine lv_astore (lv' := [(9, .ref x58), (8, .int (0 : Int32)), (7, .int (0 : Int32)), (6, .int (0 : Int32)), (5, .int (nI zi)), (4, .int (nI zi)), (3, .int (nI (zi + 1))), (2, .ref x2), (1, .ref x1), (0, .ref za)]) hx hb dX12_reached_271 hl (by decide) rfl (fun ls hl => ?_)
    refine lv_aload hx hb dX12_reached_273 (lv_at hl 0 rfl) ?_
    refine lv_astore (lv' := [(10, .ref x58), (9, .ref x58), (8, .int (0 : Int32)), (7, .int (0 : Int32)), (6, .int (0 : Int32)), (5, .int (nI zi)), (4, .int (nI zi)), (3, .int (nI (zi + 1))), (2, .ref x2), (1, .ref x1), (0, .ref za)]) hx hb dX12_reached_275 hl (by decide) rfl (fun ls hl => ?_)
    refine lv_aload hx hb dX12_reached_277 (lv_at hl 0 rfl) ?_
    refine fb_alen (v := (2 : Int32)) X I 4 0 rfl rfl rfl dX12_reached_279 ?_
    refine lv_istore (lv' := [(11, .int (2 : Int32)), (10, .ref x58), (9, .ref x58), (8, .int (0 : Int32)), (7, .int (0 : Int32)), (6, .int (0 : Int32)), (5, .int (nI zi)), (4, .int (nI zi)), (3, .int (nI (zi + 1))), (2, .ref x2), (1, .ref x1), (0, .ref za)]) hx hb dX12_reached_280 hl (by decide) rfl (fun ls hl => ?_)
    refine lv_iconst (v := (0 : Int32)) hx hb dX12_reached_282 (by decide) ?_
    refine lv_istore (lv' := [(12, .int (0 : Int32)), (11, .int (2 : Int32)), (10, .ref x58), (9, .ref x58), (8, .int (0 : Int32)), (7, .int (0 : Int32)), (6, .int (0 : Int32)), (5, .int (nI zi)), (4, .int (nI zi)), (3, .int (nI (zi + 1))), (2, .ref x2), (1, .ref x1), (0, .ref za)]) hx hb dX12_reached_283 hl (by decide) rfl (fun ls hl => ?_)
    refine lv_iload hx hb dX12_reached_285 (lv_at hl 0 rfl) ?_
    refine lv_iload hx hb dX12_reached_287 (lv_at hl 1 rfl) ?_
    refine lv_icmp_ge (tgt := 342) hx hb dX12_reached_289 (by decide) (fun c64 => absurd c64 (by decide)) (fun _ => ?_)
    refine lv_aload hx hb dX12_reached_292 (lv_at hl 2 rfl) ?_
    refine lv_iload hx hb dX12_reached_294 (lv_at hl 0 rfl) ?_
    refine fb_iaC (n := 0) (v := (nI (zi + 1))) X I 4 0 rfl rfl (by decide) (by decide) (Nat.le_of_ble_eq_true rfl) ((pk_un (by decide)).trans pk_us) dX12_reached_296 ?_
    refine lv_istore (lv' := [(13, .int (nI (zi + 1))), (12, .int (0 : Int32)), (11, .int (2 : Int32)), (10, .ref x58), (9, .ref x58), (8, .int (0 : Int32)), (7, .int (0 : Int32)), (6, .int (0 : Int32)), (5, .int (nI zi)), (4, .int (nI zi)), (3, .int (nI (zi + 1))), (2, .ref x2), (1, .ref x1), (0, .ref za)]) hx hb dX12_reached_297 hl (by decide) rfl (fun ls hl => ?_)
    refine lv_iload hx hb dX12_reached_299 (lv_at hl 0 rfl) ?_
    refine lv_if_lt (tgt := 336) hx hb dX12_reached_301 (by decide) (fun c65 => absurd c65 (nI_nlt (a := (zi + 1)) (b := 0) (by omega) (by omega))) (fun _ => ?_)
    refine lv_aload_n hx hb dX12_reached_304 rfl (lv_at hl 12 rfl) ?_
    refine lv_iload hx hb dX12_reached_305 (lv_at hl 0 rfl) ?_
    refine fb_zaC (n := (zi + 1)) (v := (0 : Int32)) X I 2 2 rfl rfl (nI_clamp (by omega)) (nI_pos (by omega)) (by omega) ((ib _ (by omega)).trans (if_neg (by omega))) dX12_reached_307 ?_
    refine lv_if_ne (tgt := 336) hx hb dX12_reached_308 (by decide) (fun c66 => absurd (by decide) c66) (fun _ => ?_)
    refine lv_aload_n hx hb dX12_reached_311 rfl (lv_at hl 13 rfl) ?_
    refine lv_iload hx hb dX12_reached_312 (lv_at hl 0 rfl) ?_
    refine fb_gO (cs := [fb_o12 za zr fr_e0, fb_aw cI (zr 0) 16205 (fr_m (fun _ => 0) 0)]) (rs := [fb_aw (D.1 20) x1 4096 zb, fb_aw cI x2 4096 zc, fb_aw cI x58 2 (upd (upd (fun _ => 0) 0 (nI (zi + 1))) 1 (-1 : Int32))]) X I [0, 1, 2, 3, 4] 5 rfl (by decide +kernel) rfl rfl (fun I => fb_rV (As := [.int (nI (zi + 1))]) (rest := []) X hl (fb_goodV fw_1949 fw_1951 fw_86 fw_204 fw_1952) (c_code l D cI cJ za zr fr_e0 (fr_m (fun _ => 0) 0) (nI (zi + 1)) _ (fr_hm _ _) rfl) rfl rfl rfl (by decide +kernel : fb_hd yX12_code 1) ⟨Nat.le_of_ble_eq_true rfl, Nat.le_of_ble_eq_true rfl⟩ rfl rfl rfl rfl rfl (Nat.le_of_ble_eq_true rfl) ⟨by show (0 + 1 + 1 + 1 * zi) + 1 + 0 ≤ 4098; omega, by show (0 + 4096 + 4096 + 2 * zi) + 2 + 0 ≤ 16384; omega⟩ dX12_reached_314 I) ?_
    refine fb_gO (cs := []) (rs := [fb_o12 za zr fr_e0, fb_aw cI (zr 0) 16205 (fr_m (fun _ => 0) 0), fb_aw (D.1 20) x1 4096 zb, fb_aw cI x2 4096 zc, fb_aw cI x58 2 (upd (upd (fun _ => 0) 0 (nI (zi + 1))) 1 (-1 : Int32))]) X I [0, 1, 2, 3, 4] 5 rfl (by decide +kernel) rfl rfl (fun I => fb_rS (As := [.int (0 : Int32)]) (rest := []) X hl (fb_goodS fw_2492 fw_2493 fw_204 fw_2494) (c_X12_isInstruction l D cI cJ (0 : Int32) _) rfl rfl (by decide +kernel : fb_hd yX12_isInstruction 1) ⟨Nat.le_of_ble_eq_true rfl, Nat.le_of_ble_eq_true rfl⟩ rfl rfl (Nat.le_of_ble_eq_true rfl) ⟨by show (0 + 1 + 1 + 1 * zi) + 1 + 0 ≤ 4098; omega, by show (0 + 4096 + 4096 + 2 * zi) + 2 + 0 ≤ 16384; omega⟩ dX12_reached_317 I) ?_
    refine fb_tI (v := (1 : Int32)) (by decide) ?_
    refine lv_if_eq (tgt := 336) hx hb dX12_reached_320 (by decide) (fun c67 => absurd c67 (by decide)) (fun _ => ?_)
    refine lv_aload_n hx hb dX12_reached_323 rfl (lv_at hl 12 rfl) ?_
    refine lv_iload hx hb dX12_reached_324 (lv_at hl 0 rfl) ?_
    refine lv_iconst (v := (1 : Int32)) hx hb dX12_reached_326 (by decide) ?_
    refine fb_zsCz hz (n := (zi + 1)) (wn := ([fb_o12 za zr fr_e0, fb_aw cI (zr 0) 16205 (fr_m (fun _ => 0) 0), fb_aw (D.1 20) x1 4096 (upd zb (zi + 1) (1 : Int32)), fb_aw cI x2 4096 zc, fb_aw cI x58 2 (upd (upd (fun _ => 0) 0 (nI (zi + 1))) 1 (-1 : Int32))] : List va_W).flatten) X I 2 2 rfl rfl (nI_clamp (by omega)) (nI_pos (by omega)) (by omega) rfl rfl dX12_reached_327 (fun H locs I hz => ?_)
    refine lv_aload_n hx hb dX12_reached_328 rfl (lv_at hl 11 rfl) ?_
    refine lv_iload_n hx hb dX12_reached_329 rfl (lv_at hl 10 rfl) ?_
    refine lv_iinc (v := (nI ((zi + 1) + 1))) (lv' := [(3, .int (nI ((zi + 1) + 1))), (13, .int (nI (zi + 1))), (12, .int (0 : Int32)), (11, .int (2 : Int32)), (10, .ref x58), (9, .ref x58), (8, .int (0 : Int32)), (7, .int (0 : Int32)), (6, .int (0 : Int32)), (5, .int (nI zi)), (4, .int (nI zi)), (2, .ref x2), (1, .ref x1), (0, .ref za)]) hx hb dX12_reached_330 hl (k := 10) rfl (nI_add _ 1) (by decide) rfl (fun ls hl => ?_)
    refine lv_iload hx hb dX12_reached_333 (lv_at hl 1 rfl) ?_
    refine fb_isCz hz (n := (zi + 1)) (wn := ([fb_o12 za zr fr_e0, fb_aw cI (zr 0) 16205 (fr_m (fun _ => 0) 0), fb_aw (D.1 20) x1 4096 (upd zb (zi + 1) (1 : Int32)), fb_aw cI x2 4096 (upd zc (zi + 1) (nI (zi + 1))), fb_aw cI x58 2 (upd (upd (fun _ => 0) 0 (nI (zi + 1))) 1 (-1 : Int32))] : List va_W).flatten) X I 3 0 rfl rfl (nI_clamp (by omega)) (nI_pos (by omega)) (by omega) rfl dX12_reached_335 (fun H locs I hz => ?_)
    refine lv_iinc (v := (1 : Int32)) (lv' := [(12, .int (1 : Int32)), (3, .int (nI ((zi + 1) + 1))), (13, .int (nI (zi + 1))), (11, .int (2 : Int32)), (10, .ref x58), (9, .ref x58), (8, .int (0 : Int32)), (7, .int (0 : Int32)), (6, .int (0 : Int32)), (5, .int (nI zi)), (4, .int (nI zi)), (2, .ref x2), (1, .ref x1), (0, .ref za)]) hx hb dX12_reached_336 hl (k := 2) rfl (by decide) (by decide) rfl (fun ls hl => ?_)
    refine lv_goto (tgt := 285) hx hb dX12_reached_339 (by decide) ?_
    refine lv_iload hx hb dX12_reached_285 (lv_at hl 0 rfl) ?_
    refine lv_iload hx hb dX12_reached_287 (lv_at hl 3 rfl) ?_
    refine lv_icmp_ge (tgt := 342) hx hb dX12_reached_289 (by decide) (fun c68 => absurd c68 (by decide)) (fun _ => ?_)
    refine lv_aload hx hb dX12_reached_292 (lv_at hl 4 rfl) ?_
    refine lv_iload hx hb dX12_reached_294 (lv_at hl 0 rfl) ?_
    refine fb_iaC (n := 1) (v := (-1 : Int32)) X I 4 0 rfl rfl (by decide) (by decide) (Nat.le_of_ble_eq_true rfl) pk_us dX12_reached_296 ?_
    refine lv_istore (lv' := [(13, .int (-1 : Int32)), (12, .int (1 : Int32)), (3, .int (nI ((zi + 1) + 1))), (11, .int (2 : Int32)), (10, .ref x58), (9, .ref x58), (8, .int (0 : Int32)), (7, .int (0 : Int32)), (6, .int (0 : Int32)), (5, .int (nI zi)), (4, .int (nI zi)), (2, .ref x2), (1, .ref x1), (0, .ref za)]) hx hb dX12_reached_297 hl (by decide) rfl (fun ls hl => ?_)
    refine lv_iload hx hb dX12_reached_299 (lv_at hl 0 rfl) ?_
    refine lv_if_lt (tgt := 336) hx hb dX12_reached_301 (by decide) (fun _ => ?_) (fun c69 => absurd (by decide) c69)
    refine lv_iinc (v := (2 : Int32)) (lv' := [(12, .int (2 : Int32)), (13, .int (-1 : Int32)), (3, .int (nI ((zi + 1) + 1))), (11, .int (2 : Int32)), (10, .ref x58), (9, .ref x58), (8, .int (0 : Int32)), (7, .int (0 : Int32)), (6, .int (0 : Int32)), (5, .int (nI zi)), (4, .int (nI zi)), (2, .ref x2), (1, .ref x1), (0, .ref za)]) hx hb dX12_reached_336 hl (k := 1) rfl (by decide) (by decide) rfl (fun ls hl => ?_)
    refine lv_goto (tgt := 285) hx hb dX12_reached_339 (by decide) ?_
    refine lv_iload hx hb dX12_reached_285 (lv_at hl 0 rfl) ?_
    refine lv_iload hx hb dX12_reached_287 (lv_at hl 3 rfl) ?_
    refine lv_icmp_ge (tgt := 342) hx hb dX12_reached_289 (by decide) (fun _ => ?_) (fun c70 => absurd (by decide) c70)
    refine lv_iinc (v := (nI (zi + 1))) (lv' := [(4, .int (nI (zi + 1))), (12, .int (2 : Int32)), (13, .int (-1 : Int32)), (3, .int (nI ((zi + 1) + 1))), (11, .int (2 : Int32)), (10, .ref x58), (9, .ref x58), (8, .int (0 : Int32)), (7, .int (0 : Int32)), (6, .int (0 : Int32)), (5, .int (nI zi)), (2, .ref x2), (1, .ref x1), (0, .ref za)]) hx hb dX12_reached_342 hl (k := 10) rfl (nI_add _ 1) (by decide) rfl (fun ls hl => ?_)
    refine lv_goto (tgt := 75) hx hb dX12_reached_345 (by decide) ?_
    have I : fb_In D A s.heap (([fb_o12 za zr fr_e0, fb_aw cI (zr 0) 16205 (fr_m (fun _ => 0) 0), fb_aw (D.1 20) x1 4096 (upd zb (zi + 1) (1 : Int32)), fb_aw cI x2 4096 (upd zc (zi + 1) (nI (zi + 1)))] : List va_W).flatten) H _ := fb_dropB (bs := [fb_o12 za zr fr_e0, fb_aw cI (zr 0) 16205 (fr_m (fun _ => 0) 0), fb_aw (D.1 20) x1 4096 (upd zb (zi + 1) (1 : Int32)), fb_aw cI x2 4096 (upd zc (zi + 1) (nI (zi + 1))), fb_aw cI x58 2 (upd (upd (fun _ => 0) 0 (nI (zi + 1))) 1 (-1 : Int32))]) (bs' := [fb_o12 za zr fr_e0, fb_aw cI (zr 0) 16205 (fr_m (fun _ => 0) 0), fb_aw (D.1 20) x1 4096 (upd zb (zi + 1) (1 : Int32)), fb_aw cI x2 4096 (upd zc (zi + 1) (nI (zi + 1)))]) (gs := [fb_aw cI x58 2 (upd (upd (fun _ => 0) 0 (nI (zi + 1))) 1 (-1 : Int32))]) I 5 rfl [0, 1, 2, 3, 4] (by decide +kernel) rfl
    refine W.widen (k := (0 + 1 + 1 + 1 * (zi + 1))) (n := (0 + 4096 + 4096 + 2 * (zi + 1))) (by omega) (by omega) ?_
    exact ih (zi + 1) (by omega) (upd zb (zi + 1) (1 : Int32)) (upd zc (zi + 1) (nI (zi + 1))) (fr_rb ib) (fr_rc ic) _ _ _ I (by omega) (lv_sub hl [0, 3, 11, 12, 13] rfl)
set_option maxHeartbeats 4000000 in
set_option maxRecDepth 100000 in
theorem cz_reached (l : Launch) (D : va_G) (cI cJ : ClassId) (za : Nat) (zr : Nat → Nat) (sz : Nat)  : Met l yX12_reached (Cond.code yX12_reached cX12_reached 14 (some (.array .boolean)) :: fb_all) ({ frames := 5, cells := 4098, slots := 16384, locals := 122 } : Room) (fb_PP D (fb_ty D cI cJ) [.ref za] (([fb_o12 za zr fr_e0, fb_aw cI (zr 0) 16205 (fr_m (fun _ => 0) 0)] : List va_W).flatten) sz) (fb_QRz (sz + 4096) D (va_A (([fb_o12 za zr fr_e0, fb_aw cI (zr 0) 16205 (fr_m (fun _ => 0) 0)] : List va_W).flatten) sz) (fun (t : fb_AR) => ∀ j, j < 4096 → t j = 1) (fun (t : fb_AR) (rr : Nat) => ([fb_o12 za zr fr_e0, fb_aw cI (zr 0) 16205 (fr_m (fun _ => 0) 0), fb_aw (D.1 20) rr 4096 t] : List va_W).flatten)) 4098 16384 (va_A (([fb_o12 za zr fr_e0, fb_aw cI (zr 0) 16205 (fr_m (fun _ => 0) 0)] : List va_W).flatten) sz) := by
  refine fb_entz (Qf := fun A => (fb_QRz (sz + 4096) D A (fun (t : fb_AR) => ∀ j, j < 4096 → t j = 1) (fun (t : fb_AR) (rr : Nat) => ([fb_o12 za zr fr_e0, fb_aw cI (zr 0) 16205 (fr_m (fun _ => 0) 0), fb_aw (D.1 20) rr 4096 t] : List va_W).flatten))) (by decide +kernel) (Nat.le_of_ble_eq_true rfl) ?_
  intro p e s m args below meth c A ls hsz X I hl hin
  subst hsz
  obtain ⟨hx, hb, hr, hml, hown, hts, hlk, hA, hK, hF⟩ := id X
  have hl : lv_has ls 14 [(0, .ref za)] := hl
  refine lv_sipush (v := (4096 : Int32)) hx hb dX12_reached_0 (by decide) ?_
  refine fb_nZ (N := 4096) X I fw_2118 (by decide) (Nat.le_of_ble_eq_true rfl) (Nat.le_of_ble_eq_true rfl) (Nat.le_of_ble_eq_true rfl) dX12_reached_3 (fun x1 H I => ?_)
  have I : fb_In D A s.heap (([fb_o12 za zr fr_e0, fb_aw cI (zr 0) 16205 (fr_m (fun _ => 0) 0), fb_aw (D.1 20) x1 4096 (fun _ => 0)] : List va_W).flatten) H _ := I
  refine lv_astore_n (lv' := [(1, .ref x1), (0, .ref za)]) hx hb dX12_reached_5 rfl hl (by decide) rfl (fun ls hl => ?_)
  refine lv_sipush (v := (4096 : Int32)) hx hb dX12_reached_6 (by decide) ?_
  refine fb_nI (N := 4096) X I fw_261 (by decide) (Nat.le_of_ble_eq_true rfl) (Nat.le_of_ble_eq_true rfl) (Nat.le_of_ble_eq_true rfl) dX12_reached_9 (fun x2 H I => ?_)
  have I : fb_In D A s.heap (([fb_o12 za zr fr_e0, fb_aw cI (zr 0) 16205 (fr_m (fun _ => 0) 0), fb_aw (D.1 20) x1 4096 (fun _ => 0), fb_aw cI x2 4096 (fun _ => 0)] : List va_W).flatten) H _ := I
  refine lv_astore_n (lv' := [(2, .ref x2), (1, .ref x1), (0, .ref za)]) hx hb dX12_reached_11 rfl hl (by decide) rfl (fun ls hl => ?_)
  refine lv_iconst (v := (0 : Int32)) hx hb dX12_reached_12 (by decide) ?_
  refine lv_istore_n (lv' := [(3, .int (0 : Int32)), (2, .ref x2), (1, .ref x1), (0, .ref za)]) hx hb dX12_reached_13 rfl hl (by decide) rfl (fun ls hl => ?_)
  refine lv_iconst (v := (-1 : Int32)) hx hb dX12_reached_14 (by decide) ?_
  refine lv_istore (lv' := [(4, .int (-1 : Int32)), (3, .int (0 : Int32)), (2, .ref x2), (1, .ref x1), (0, .ref za)]) hx hb dX12_reached_15 hl (by decide) rfl (fun ls hl => ?_)
  refine lv_iload hx hb dX12_reached_17 (lv_at hl 0 rfl) ?_
  refine lv_bipush (v := (8 : Int32)) hx hb dX12_reached_19 (by decide) ?_
  refine lv_icmp_ge (tgt := 72) hx hb dX12_reached_21 (by decide) (fun c3 => absurd c3 (by decide)) (fun _ => ?_)
  refine lv_iload hx hb dX12_reached_24 (lv_at hl 0 rfl) ?_
  refine lv_if_ge (tgt := 38) hx hb dX12_reached_26 (by decide) (fun c4 => absurd c4 (by decide)) (fun _ => ?_)
  refine lv_aload_n hx hb dX12_reached_29 rfl (lv_at hl 4 rfl) ?_
  refine fb_get X I (k := 0) (v := .ref (zr 0)) fu_X12 0 fb_h12 rfl (Nat.le_of_ble_eq_true rfl) fw_1964 rfl rfl dX12_reached_30 ?_
  refine lv_iconst (v := (4 : Int32)) hx hb dX12_reached_33 (by decide) ?_
  refine fb_iaC (n := 4) (v := (0 : Int32)) X I 1 0 rfl rfl (by decide) (by decide) (Nat.le_of_ble_eq_true rfl) rfl dX12_reached_34 ?_
  refine lv_goto (tgt := 44) hx hb dX12_reached_35 (by decide) ?_
  refine lv_istore (lv' := [(5, .int (0 : Int32)), (4, .int (-1 : Int32)), (3, .int (0 : Int32)), (2, .ref x2), (1, .ref x1), (0, .ref za)]) hx hb dX12_reached_44 hl (by decide) rfl (fun ls hl => ?_)
  refine lv_aload_n hx hb dX12_reached_46 rfl (lv_at hl 4 rfl) ?_
  refine lv_iload hx hb dX12_reached_47 (lv_at hl 0 rfl) ?_
  refine fb_zaC (n := 0) (v := (0 : Int32)) X I 2 2 rfl rfl (by decide) (by decide) (Nat.le_of_ble_eq_true rfl) rfl dX12_reached_49 ?_
  refine lv_if_ne (tgt := 61) hx hb dX12_reached_50 (by decide) (fun c5 => absurd (by decide) c5) (fun _ => ?_)
  refine lv_aload_n hx hb dX12_reached_53 rfl (lv_at hl 3 rfl) ?_
  refine lv_iload_n hx hb dX12_reached_54 rfl (lv_at hl 2 rfl) ?_
  refine lv_iinc (v := (1 : Int32)) (lv' := [(3, .int (1 : Int32)), (5, .int (0 : Int32)), (4, .int (-1 : Int32)), (2, .ref x2), (1, .ref x1), (0, .ref za)]) hx hb dX12_reached_55 hl (k := 2) rfl (by decide) (by decide) rfl (fun ls hl => ?_)
  refine lv_iload hx hb dX12_reached_58 (lv_at hl 1 rfl) ?_
  refine fb_isC (n := 0) (wn := ([fb_o12 za zr fr_e0, fb_aw cI (zr 0) 16205 (fr_m (fun _ => 0) 0), fb_aw (D.1 20) x1 4096 (fun _ => 0), fb_aw cI x2 4096 (upd (fun _ => 0) 0 (0 : Int32))] : List va_W).flatten) X I 3 0 rfl rfl (by decide) (by decide) (Nat.le_of_ble_eq_true rfl) rfl dX12_reached_60 (fun H locs I => ?_)
  refine lv_aload_n hx hb dX12_reached_61 rfl (lv_at hl 4 rfl) ?_
  refine lv_iload hx hb dX12_reached_62 (lv_at hl 1 rfl) ?_
  refine lv_iconst (v := (1 : Int32)) hx hb dX12_reached_64 (by decide) ?_
  refine fb_zsC (n := 0) (wn := ([fb_o12 za zr fr_e0, fb_aw cI (zr 0) 16205 (fr_m (fun _ => 0) 0), fb_aw (D.1 20) x1 4096 (upd (fun _ => 0) 0 (1 : Int32)), fb_aw cI x2 4096 (upd (fun _ => 0) 0 (0 : Int32))] : List va_W).flatten) X I 2 2 rfl rfl (by decide) (by decide) (Nat.le_of_ble_eq_true rfl) rfl rfl dX12_reached_65 (fun H locs I => ?_)
  refine lv_iinc (v := (0 : Int32)) (lv' := [(4, .int (0 : Int32)), (3, .int (1 : Int32)), (5, .int (0 : Int32)), (2, .ref x2), (1, .ref x1), (0, .ref za)]) hx hb dX12_reached_66 hl (k := 2) rfl (by decide) (by decide) rfl (fun ls hl => ?_)
  refine lv_goto (tgt := 17) hx hb dX12_reached_69 (by decide) ?_
  refine lv_iload hx hb dX12_reached_17 (lv_at hl 0 rfl) ?_
  refine lv_bipush (v := (8 : Int32)) hx hb dX12_reached_19 (by decide) ?_
  refine lv_icmp_ge (tgt := 72) hx hb dX12_reached_21 (by decide) (fun c6 => absurd c6 (by decide)) (fun _ => ?_)
  refine lv_iload hx hb dX12_reached_24 (lv_at hl 0 rfl) ?_
  refine lv_if_ge (tgt := 38) hx hb dX12_reached_26 (by decide) (fun _ => ?_) (fun c7 => absurd (by decide) c7)
  refine lv_aload_n hx hb dX12_reached_38 rfl (lv_at hl 5 rfl) ?_
  refine lv_iload hx hb dX12_reached_39 (lv_at hl 0 rfl) ?_
  refine fb_gO (cs := [fb_o12 za zr fr_e0, fb_aw cI (zr 0) 16205 (fr_m (fun _ => 0) 0)]) (rs := [fb_aw (D.1 20) x1 4096 (upd (fun _ => 0) 0 (1 : Int32)), fb_aw cI x2 4096 (upd (fun _ => 0) 0 (0 : Int32))]) X I [0, 1, 2, 3] 4 rfl (by decide +kernel) rfl rfl (fun I => fb_rV (As := [.int (0 : Int32)]) (rest := []) X hl (fb_goodV fw_1945 fw_1947 fw_85 fw_204 fw_1948) (c_vector l D cI cJ za zr fr_e0 (fr_m (fun _ => 0) 0) (0 : Int32) _ (fr_hm _ _) rfl) rfl rfl rfl (by decide +kernel : fb_hd yX12_vector 1) ⟨Nat.le_of_ble_eq_true rfl, Nat.le_of_ble_eq_true rfl⟩ rfl rfl rfl rfl rfl (Nat.le_of_ble_eq_true rfl) ⟨Nat.le_of_ble_eq_true rfl, Nat.le_of_ble_eq_true rfl⟩ dX12_reached_41 I) ?_
  refine lv_istore (lv' := [(5, .int (0 : Int32)), (4, .int (0 : Int32)), (3, .int (1 : Int32)), (2, .ref x2), (1, .ref x1), (0, .ref za)]) hx hb dX12_reached_44 hl (by decide) rfl (fun ls hl => ?_)
  refine lv_aload_n hx hb dX12_reached_46 rfl (lv_at hl 4 rfl) ?_
  refine lv_iload hx hb dX12_reached_47 (lv_at hl 0 rfl) ?_
  refine fb_zaC (n := 0) (v := (1 : Int32)) X I 2 2 rfl rfl (by decide) (by decide) (Nat.le_of_ble_eq_true rfl) pk_us dX12_reached_49 ?_
  refine lv_if_ne (tgt := 61) hx hb dX12_reached_50 (by decide) (fun _ => ?_) (fun c8 => absurd c8 (by decide))
  refine lv_aload_n hx hb dX12_reached_61 rfl (lv_at hl 4 rfl) ?_
  refine lv_iload hx hb dX12_reached_62 (lv_at hl 0 rfl) ?_
  refine lv_iconst (v := (1 : Int32)) hx hb dX12_reached_64 (by decide) ?_
  refine fb_zsC (n := 0) (wn := ([fb_o12 za zr fr_e0, fb_aw cI (zr 0) 16205 (fr_m (fun _ => 0) 0), fb_aw (D.1 20) x1 4096 (upd (upd (fun _ => 0) 0 (1 : Int32)) 0 (1 : Int32)), fb_aw cI x2 4096 (upd (fun _ => 0) 0 (0 : Int32))] : List va_W).flatten) X I 2 2 rfl rfl (by decide) (by decide) (Nat.le_of_ble_eq_true rfl) rfl rfl dX12_reached_65 (fun H locs I => ?_)
  refine lv_iinc (v := (1 : Int32)) (lv' := [(4, .int (1 : Int32)), (5, .int (0 : Int32)), (3, .int (1 : Int32)), (2, .ref x2), (1, .ref x1), (0, .ref za)]) hx hb dX12_reached_66 hl (k := 1) rfl (by decide) (by decide) rfl (fun ls hl => ?_)
  refine lv_goto (tgt := 17) hx hb dX12_reached_69 (by decide) ?_
  refine lv_iload hx hb dX12_reached_17 (lv_at hl 0 rfl) ?_
  refine lv_bipush (v := (8 : Int32)) hx hb dX12_reached_19 (by decide) ?_
  refine lv_icmp_ge (tgt := 72) hx hb dX12_reached_21 (by decide) (fun c9 => absurd c9 (by decide)) (fun _ => ?_)
  refine lv_iload hx hb dX12_reached_24 (lv_at hl 0 rfl) ?_
  refine lv_if_ge (tgt := 38) hx hb dX12_reached_26 (by decide) (fun _ => ?_) (fun c10 => absurd (by decide) c10)
  refine lv_aload_n hx hb dX12_reached_38 rfl (lv_at hl 5 rfl) ?_
  refine lv_iload hx hb dX12_reached_39 (lv_at hl 0 rfl) ?_
  refine fb_gO (cs := [fb_o12 za zr fr_e0, fb_aw cI (zr 0) 16205 (fr_m (fun _ => 0) 0)]) (rs := [fb_aw (D.1 20) x1 4096 (upd (upd (fun _ => 0) 0 (1 : Int32)) 0 (1 : Int32)), fb_aw cI x2 4096 (upd (fun _ => 0) 0 (0 : Int32))]) X I [0, 1, 2, 3] 4 rfl (by decide +kernel) rfl rfl (fun I => fb_rV (As := [.int (1 : Int32)]) (rest := []) X hl (fb_goodV fw_1945 fw_1947 fw_85 fw_204 fw_1948) (c_vector l D cI cJ za zr fr_e0 (fr_m (fun _ => 0) 0) (1 : Int32) _ (fr_hm _ _) rfl) rfl rfl rfl (by decide +kernel : fb_hd yX12_vector 1) ⟨Nat.le_of_ble_eq_true rfl, Nat.le_of_ble_eq_true rfl⟩ rfl rfl rfl rfl rfl (Nat.le_of_ble_eq_true rfl) ⟨Nat.le_of_ble_eq_true rfl, Nat.le_of_ble_eq_true rfl⟩ dX12_reached_41 I) ?_
  refine lv_istore (lv' := [(5, .int (0 : Int32)), (4, .int (1 : Int32)), (3, .int (1 : Int32)), (2, .ref x2), (1, .ref x1), (0, .ref za)]) hx hb dX12_reached_44 hl (by decide) rfl (fun ls hl => ?_)
  refine lv_aload_n hx hb dX12_reached_46 rfl (lv_at hl 4 rfl) ?_
  refine lv_iload hx hb dX12_reached_47 (lv_at hl 0 rfl) ?_
  refine fb_zaC (n := 0) (v := (1 : Int32)) X I 2 2 rfl rfl (by decide) (by decide) (Nat.le_of_ble_eq_true rfl) pk_us dX12_reached_49 ?_
  refine lv_if_ne (tgt := 61) hx hb dX12_reached_50 (by decide) (fun _ => ?_) (fun c11 => absurd c11 (by decide))
  refine lv_aload_n hx hb dX12_reached_61 rfl (lv_at hl 4 rfl) ?_
  refine lv_iload hx hb dX12_reached_62 (lv_at hl 0 rfl) ?_
  refine lv_iconst (v := (1 : Int32)) hx hb dX12_reached_64 (by decide) ?_
  refine fb_zsC (n := 0) (wn := ([fb_o12 za zr fr_e0, fb_aw cI (zr 0) 16205 (fr_m (fun _ => 0) 0), fb_aw (D.1 20) x1 4096 (upd (upd (upd (fun _ => 0) 0 (1 : Int32)) 0 (1 : Int32)) 0 (1 : Int32)), fb_aw cI x2 4096 (upd (fun _ => 0) 0 (0 : Int32))] : List va_W).flatten) X I 2 2 rfl rfl (by decide) (by decide) (Nat.le_of_ble_eq_true rfl) rfl rfl dX12_reached_65 (fun H locs I => ?_)
  refine lv_iinc (v := (2 : Int32)) (lv' := [(4, .int (2 : Int32)), (5, .int (0 : Int32)), (3, .int (1 : Int32)), (2, .ref x2), (1, .ref x1), (0, .ref za)]) hx hb dX12_reached_66 hl (k := 1) rfl (by decide) (by decide) rfl (fun ls hl => ?_)
  refine lv_goto (tgt := 17) hx hb dX12_reached_69 (by decide) ?_
  refine lv_iload hx hb dX12_reached_17 (lv_at hl 0 rfl) ?_
  refine lv_bipush (v := (8 : Int32)) hx hb dX12_reached_19 (by decide) ?_
  refine lv_icmp_ge (tgt := 72) hx hb dX12_reached_21 (by decide) (fun c12 => absurd c12 (by decide)) (fun _ => ?_)
  refine lv_iload hx hb dX12_reached_24 (lv_at hl 0 rfl) ?_
  refine lv_if_ge (tgt := 38) hx hb dX12_reached_26 (by decide) (fun _ => ?_) (fun c13 => absurd (by decide) c13)
  refine lv_aload_n hx hb dX12_reached_38 rfl (lv_at hl 5 rfl) ?_
  refine lv_iload hx hb dX12_reached_39 (lv_at hl 0 rfl) ?_
  refine fb_gO (cs := [fb_o12 za zr fr_e0, fb_aw cI (zr 0) 16205 (fr_m (fun _ => 0) 0)]) (rs := [fb_aw (D.1 20) x1 4096 (upd (upd (upd (fun _ => 0) 0 (1 : Int32)) 0 (1 : Int32)) 0 (1 : Int32)), fb_aw cI x2 4096 (upd (fun _ => 0) 0 (0 : Int32))]) X I [0, 1, 2, 3] 4 rfl (by decide +kernel) rfl rfl (fun I => fb_rV (As := [.int (2 : Int32)]) (rest := []) X hl (fb_goodV fw_1945 fw_1947 fw_85 fw_204 fw_1948) (c_vector l D cI cJ za zr fr_e0 (fr_m (fun _ => 0) 0) (2 : Int32) _ (fr_hm _ _) rfl) rfl rfl rfl (by decide +kernel : fb_hd yX12_vector 1) ⟨Nat.le_of_ble_eq_true rfl, Nat.le_of_ble_eq_true rfl⟩ rfl rfl rfl rfl rfl (Nat.le_of_ble_eq_true rfl) ⟨Nat.le_of_ble_eq_true rfl, Nat.le_of_ble_eq_true rfl⟩ dX12_reached_41 I) ?_
  refine lv_istore (lv' := [(5, .int (0 : Int32)), (4, .int (2 : Int32)), (3, .int (1 : Int32)), (2, .ref x2), (1, .ref x1), (0, .ref za)]) hx hb dX12_reached_44 hl (by decide) rfl (fun ls hl => ?_)
  refine lv_aload_n hx hb dX12_reached_46 rfl (lv_at hl 4 rfl) ?_
  refine lv_iload hx hb dX12_reached_47 (lv_at hl 0 rfl) ?_
  refine fb_zaC (n := 0) (v := (1 : Int32)) X I 2 2 rfl rfl (by decide) (by decide) (Nat.le_of_ble_eq_true rfl) pk_us dX12_reached_49 ?_
  refine lv_if_ne (tgt := 61) hx hb dX12_reached_50 (by decide) (fun _ => ?_) (fun c14 => absurd c14 (by decide))
  refine lv_aload_n hx hb dX12_reached_61 rfl (lv_at hl 4 rfl) ?_
  refine lv_iload hx hb dX12_reached_62 (lv_at hl 0 rfl) ?_
  refine lv_iconst (v := (1 : Int32)) hx hb dX12_reached_64 (by decide) ?_
  refine fb_zsC (n := 0) (wn := ([fb_o12 za zr fr_e0, fb_aw cI (zr 0) 16205 (fr_m (fun _ => 0) 0), fb_aw (D.1 20) x1 4096 (upd (upd (upd (upd (fun _ => 0) 0 (1 : Int32)) 0 (1 : Int32)) 0 (1 : Int32)) 0 (1 : Int32)), fb_aw cI x2 4096 (upd (fun _ => 0) 0 (0 : Int32))] : List va_W).flatten) X I 2 2 rfl rfl (by decide) (by decide) (Nat.le_of_ble_eq_true rfl) rfl rfl dX12_reached_65 (fun H locs I => ?_)
  refine lv_iinc (v := (3 : Int32)) (lv' := [(4, .int (3 : Int32)), (5, .int (0 : Int32)), (3, .int (1 : Int32)), (2, .ref x2), (1, .ref x1), (0, .ref za)]) hx hb dX12_reached_66 hl (k := 1) rfl (by decide) (by decide) rfl (fun ls hl => ?_)
  refine lv_goto (tgt := 17) hx hb dX12_reached_69 (by decide) ?_
  refine lv_iload hx hb dX12_reached_17 (lv_at hl 0 rfl) ?_
  refine lv_bipush (v := (8 : Int32)) hx hb dX12_reached_19 (by decide) ?_
  refine lv_icmp_ge (tgt := 72) hx hb dX12_reached_21 (by decide) (fun c15 => absurd c15 (by decide)) (fun _ => ?_)
  refine lv_iload hx hb dX12_reached_24 (lv_at hl 0 rfl) ?_
  refine lv_if_ge (tgt := 38) hx hb dX12_reached_26 (by decide) (fun _ => ?_) (fun c16 => absurd (by decide) c16)
  refine lv_aload_n hx hb dX12_reached_38 rfl (lv_at hl 5 rfl) ?_
  refine lv_iload hx hb dX12_reached_39 (lv_at hl 0 rfl) ?_
  refine fb_gO (cs := [fb_o12 za zr fr_e0, fb_aw cI (zr 0) 16205 (fr_m (fun _ => 0) 0)]) (rs := [fb_aw (D.1 20) x1 4096 (upd (upd (upd (upd (fun _ => 0) 0 (1 : Int32)) 0 (1 : Int32)) 0 (1 : Int32)) 0 (1 : Int32)), fb_aw cI x2 4096 (upd (fun _ => 0) 0 (0 : Int32))]) X I [0, 1, 2, 3] 4 rfl (by decide +kernel) rfl rfl (fun I => fb_rV (As := [.int (3 : Int32)]) (rest := []) X hl (fb_goodV fw_1945 fw_1947 fw_85 fw_204 fw_1948) (c_vector l D cI cJ za zr fr_e0 (fr_m (fun _ => 0) 0) (3 : Int32) _ (fr_hm _ _) rfl) rfl rfl rfl (by decide +kernel : fb_hd yX12_vector 1) ⟨Nat.le_of_ble_eq_true rfl, Nat.le_of_ble_eq_true rfl⟩ rfl rfl rfl rfl rfl (Nat.le_of_ble_eq_true rfl) ⟨Nat.le_of_ble_eq_true rfl, Nat.le_of_ble_eq_true rfl⟩ dX12_reached_41 I) ?_
  refine lv_istore (lv' := [(5, .int (0 : Int32)), (4, .int (3 : Int32)), (3, .int (1 : Int32)), (2, .ref x2), (1, .ref x1), (0, .ref za)]) hx hb dX12_reached_44 hl (by decide) rfl (fun ls hl => ?_)
  refine lv_aload_n hx hb dX12_reached_46 rfl (lv_at hl 4 rfl) ?_
  refine lv_iload hx hb dX12_reached_47 (lv_at hl 0 rfl) ?_
  refine fb_zaC (n := 0) (v := (1 : Int32)) X I 2 2 rfl rfl (by decide) (by decide) (Nat.le_of_ble_eq_true rfl) pk_us dX12_reached_49 ?_
  refine lv_if_ne (tgt := 61) hx hb dX12_reached_50 (by decide) (fun _ => ?_) (fun c17 => absurd c17 (by decide))
  refine lv_aload_n hx hb dX12_reached_61 rfl (lv_at hl 4 rfl) ?_
  refine lv_iload hx hb dX12_reached_62 (lv_at hl 0 rfl) ?_
  refine lv_iconst (v := (1 : Int32)) hx hb dX12_reached_64 (by decide) ?_
  refine fb_zsC (n := 0) (wn := ([fb_o12 za zr fr_e0, fb_aw cI (zr 0) 16205 (fr_m (fun _ => 0) 0), fb_aw (D.1 20) x1 4096 (upd (upd (upd (upd (upd (fun _ => 0) 0 (1 : Int32)) 0 (1 : Int32)) 0 (1 : Int32)) 0 (1 : Int32)) 0 (1 : Int32)), fb_aw cI x2 4096 (upd (fun _ => 0) 0 (0 : Int32))] : List va_W).flatten) X I 2 2 rfl rfl (by decide) (by decide) (Nat.le_of_ble_eq_true rfl) rfl rfl dX12_reached_65 (fun H locs I => ?_)
  refine lv_iinc (v := (4 : Int32)) (lv' := [(4, .int (4 : Int32)), (5, .int (0 : Int32)), (3, .int (1 : Int32)), (2, .ref x2), (1, .ref x1), (0, .ref za)]) hx hb dX12_reached_66 hl (k := 1) rfl (by decide) (by decide) rfl (fun ls hl => ?_)
  refine lv_goto (tgt := 17) hx hb dX12_reached_69 (by decide) ?_
  refine lv_iload hx hb dX12_reached_17 (lv_at hl 0 rfl) ?_
  refine lv_bipush (v := (8 : Int32)) hx hb dX12_reached_19 (by decide) ?_
  refine lv_icmp_ge (tgt := 72) hx hb dX12_reached_21 (by decide) (fun c18 => absurd c18 (by decide)) (fun _ => ?_)
  refine lv_iload hx hb dX12_reached_24 (lv_at hl 0 rfl) ?_
  refine lv_if_ge (tgt := 38) hx hb dX12_reached_26 (by decide) (fun _ => ?_) (fun c19 => absurd (by decide) c19)
  refine lv_aload_n hx hb dX12_reached_38 rfl (lv_at hl 5 rfl) ?_
  refine lv_iload hx hb dX12_reached_39 (lv_at hl 0 rfl) ?_
  refine fb_gO (cs := [fb_o12 za zr fr_e0, fb_aw cI (zr 0) 16205 (fr_m (fun _ => 0) 0)]) (rs := [fb_aw (D.1 20) x1 4096 (upd (upd (upd (upd (upd (fun _ => 0) 0 (1 : Int32)) 0 (1 : Int32)) 0 (1 : Int32)) 0 (1 : Int32)) 0 (1 : Int32)), fb_aw cI x2 4096 (upd (fun _ => 0) 0 (0 : Int32))]) X I [0, 1, 2, 3] 4 rfl (by decide +kernel) rfl rfl (fun I => fb_rV (As := [.int (4 : Int32)]) (rest := []) X hl (fb_goodV fw_1945 fw_1947 fw_85 fw_204 fw_1948) (c_vector l D cI cJ za zr fr_e0 (fr_m (fun _ => 0) 0) (4 : Int32) _ (fr_hm _ _) rfl) rfl rfl rfl (by decide +kernel : fb_hd yX12_vector 1) ⟨Nat.le_of_ble_eq_true rfl, Nat.le_of_ble_eq_true rfl⟩ rfl rfl rfl rfl rfl (Nat.le_of_ble_eq_true rfl) ⟨Nat.le_of_ble_eq_true rfl, Nat.le_of_ble_eq_true rfl⟩ dX12_reached_41 I) ?_
  refine lv_istore (lv' := [(5, .int (0 : Int32)), (4, .int (4 : Int32)), (3, .int (1 : Int32)), (2, .ref x2), (1, .ref x1), (0, .ref za)]) hx hb dX12_reached_44 hl (by decide) rfl (fun ls hl => ?_)
  refine lv_aload_n hx hb dX12_reached_46 rfl (lv_at hl 4 rfl) ?_
  refine lv_iload hx hb dX12_reached_47 (lv_at hl 0 rfl) ?_
  refine fb_zaC (n := 0) (v := (1 : Int32)) X I 2 2 rfl rfl (by decide) (by decide) (Nat.le_of_ble_eq_true rfl) pk_us dX12_reached_49 ?_
  refine lv_if_ne (tgt := 61) hx hb dX12_reached_50 (by decide) (fun _ => ?_) (fun c20 => absurd c20 (by decide))
  refine lv_aload_n hx hb dX12_reached_61 rfl (lv_at hl 4 rfl) ?_
  refine lv_iload hx hb dX12_reached_62 (lv_at hl 0 rfl) ?_
  refine lv_iconst (v := (1 : Int32)) hx hb dX12_reached_64 (by decide) ?_
  refine fb_zsC (n := 0) (wn := ([fb_o12 za zr fr_e0, fb_aw cI (zr 0) 16205 (fr_m (fun _ => 0) 0), fb_aw (D.1 20) x1 4096 (upd (upd (upd (upd (upd (upd (fun _ => 0) 0 (1 : Int32)) 0 (1 : Int32)) 0 (1 : Int32)) 0 (1 : Int32)) 0 (1 : Int32)) 0 (1 : Int32)), fb_aw cI x2 4096 (upd (fun _ => 0) 0 (0 : Int32))] : List va_W).flatten) X I 2 2 rfl rfl (by decide) (by decide) (Nat.le_of_ble_eq_true rfl) rfl rfl dX12_reached_65 (fun H locs I => ?_)
  refine lv_iinc (v := (5 : Int32)) (lv' := [(4, .int (5 : Int32)), (5, .int (0 : Int32)), (3, .int (1 : Int32)), (2, .ref x2), (1, .ref x1), (0, .ref za)]) hx hb dX12_reached_66 hl (k := 1) rfl (by decide) (by decide) rfl (fun ls hl => ?_)
  refine lv_goto (tgt := 17) hx hb dX12_reached_69 (by decide) ?_
  refine lv_iload hx hb dX12_reached_17 (lv_at hl 0 rfl) ?_
  refine lv_bipush (v := (8 : Int32)) hx hb dX12_reached_19 (by decide) ?_
  refine lv_icmp_ge (tgt := 72) hx hb dX12_reached_21 (by decide) (fun c21 => absurd c21 (by decide)) (fun _ => ?_)
  refine lv_iload hx hb dX12_reached_24 (lv_at hl 0 rfl) ?_
  refine lv_if_ge (tgt := 38) hx hb dX12_reached_26 (by decide) (fun _ => ?_) (fun c22 => absurd (by decide) c22)
  refine lv_aload_n hx hb dX12_reached_38 rfl (lv_at hl 5 rfl) ?_
  refine lv_iload hx hb dX12_reached_39 (lv_at hl 0 rfl) ?_
  refine fb_gO (cs := [fb_o12 za zr fr_e0, fb_aw cI (zr 0) 16205 (fr_m (fun _ => 0) 0)]) (rs := [fb_aw (D.1 20) x1 4096 (upd (upd (upd (upd (upd (upd (fun _ => 0) 0 (1 : Int32)) 0 (1 : Int32)) 0 (1 : Int32)) 0 (1 : Int32)) 0 (1 : Int32)) 0 (1 : Int32)), fb_aw cI x2 4096 (upd (fun _ => 0) 0 (0 : Int32))]) X I [0, 1, 2, 3] 4 rfl (by decide +kernel) rfl rfl (fun I => fb_rV (As := [.int (5 : Int32)]) (rest := []) X hl (fb_goodV fw_1945 fw_1947 fw_85 fw_204 fw_1948) (c_vector l D cI cJ za zr fr_e0 (fr_m (fun _ => 0) 0) (5 : Int32) _ (fr_hm _ _) rfl) rfl rfl rfl (by decide +kernel : fb_hd yX12_vector 1) ⟨Nat.le_of_ble_eq_true rfl, Nat.le_of_ble_eq_true rfl⟩ rfl rfl rfl rfl rfl (Nat.le_of_ble_eq_true rfl) ⟨Nat.le_of_ble_eq_true rfl, Nat.le_of_ble_eq_true rfl⟩ dX12_reached_41 I) ?_
  refine lv_istore (lv' := [(5, .int (0 : Int32)), (4, .int (5 : Int32)), (3, .int (1 : Int32)), (2, .ref x2), (1, .ref x1), (0, .ref za)]) hx hb dX12_reached_44 hl (by decide) rfl (fun ls hl => ?_)
  refine lv_aload_n hx hb dX12_reached_46 rfl (lv_at hl 4 rfl) ?_
  refine lv_iload hx hb dX12_reached_47 (lv_at hl 0 rfl) ?_
  refine fb_zaC (n := 0) (v := (1 : Int32)) X I 2 2 rfl rfl (by decide) (by decide) (Nat.le_of_ble_eq_true rfl) pk_us dX12_reached_49 ?_
  refine lv_if_ne (tgt := 61) hx hb dX12_reached_50 (by decide) (fun _ => ?_) (fun c23 => absurd c23 (by decide))
  refine lv_aload_n hx hb dX12_reached_61 rfl (lv_at hl 4 rfl) ?_
  refine lv_iload hx hb dX12_reached_62 (lv_at hl 0 rfl) ?_
  refine lv_iconst (v := (1 : Int32)) hx hb dX12_reached_64 (by decide) ?_
  refine fb_zsC (n := 0) (wn := ([fb_o12 za zr fr_e0, fb_aw cI (zr 0) 16205 (fr_m (fun _ => 0) 0), fb_aw (D.1 20) x1 4096 (upd (upd (upd (upd (upd (upd (upd (fun _ => 0) 0 (1 : Int32)) 0 (1 : Int32)) 0 (1 : Int32)) 0 (1 : Int32)) 0 (1 : Int32)) 0 (1 : Int32)) 0 (1 : Int32)), fb_aw cI x2 4096 (upd (fun _ => 0) 0 (0 : Int32))] : List va_W).flatten) X I 2 2 rfl rfl (by decide) (by decide) (Nat.le_of_ble_eq_true rfl) rfl rfl dX12_reached_65 (fun H locs I => ?_)
  refine lv_iinc (v := (6 : Int32)) (lv' := [(4, .int (6 : Int32)), (5, .int (0 : Int32)), (3, .int (1 : Int32)), (2, .ref x2), (1, .ref x1), (0, .ref za)]) hx hb dX12_reached_66 hl (k := 1) rfl (by decide) (by decide) rfl (fun ls hl => ?_)
  refine lv_goto (tgt := 17) hx hb dX12_reached_69 (by decide) ?_
  refine lv_iload hx hb dX12_reached_17 (lv_at hl 0 rfl) ?_
  refine lv_bipush (v := (8 : Int32)) hx hb dX12_reached_19 (by decide) ?_
  refine lv_icmp_ge (tgt := 72) hx hb dX12_reached_21 (by decide) (fun c24 => absurd c24 (by decide)) (fun _ => ?_)
  refine lv_iload hx hb dX12_reached_24 (lv_at hl 0 rfl) ?_
  refine lv_if_ge (tgt := 38) hx hb dX12_reached_26 (by decide) (fun _ => ?_) (fun c25 => absurd (by decide) c25)
  refine lv_aload_n hx hb dX12_reached_38 rfl (lv_at hl 5 rfl) ?_
  refine lv_iload hx hb dX12_reached_39 (lv_at hl 0 rfl) ?_
  refine fb_gO (cs := [fb_o12 za zr fr_e0, fb_aw cI (zr 0) 16205 (fr_m (fun _ => 0) 0)]) (rs := [fb_aw (D.1 20) x1 4096 (upd (upd (upd (upd (upd (upd (upd (fun _ => 0) 0 (1 : Int32)) 0 (1 : Int32)) 0 (1 : Int32)) 0 (1 : Int32)) 0 (1 : Int32)) 0 (1 : Int32)) 0 (1 : Int32)), fb_aw cI x2 4096 (upd (fun _ => 0) 0 (0 : Int32))]) X I [0, 1, 2, 3] 4 rfl (by decide +kernel) rfl rfl (fun I => fb_rV (As := [.int (6 : Int32)]) (rest := []) X hl (fb_goodV fw_1945 fw_1947 fw_85 fw_204 fw_1948) (c_vector l D cI cJ za zr fr_e0 (fr_m (fun _ => 0) 0) (6 : Int32) _ (fr_hm _ _) rfl) rfl rfl rfl (by decide +kernel : fb_hd yX12_vector 1) ⟨Nat.le_of_ble_eq_true rfl, Nat.le_of_ble_eq_true rfl⟩ rfl rfl rfl rfl rfl (Nat.le_of_ble_eq_true rfl) ⟨Nat.le_of_ble_eq_true rfl, Nat.le_of_ble_eq_true rfl⟩ dX12_reached_41 I) ?_
  refine lv_istore (lv' := [(5, .int (0 : Int32)), (4, .int (6 : Int32)), (3, .int (1 : Int32)), (2, .ref x2), (1, .ref x1), (0, .ref za)]) hx hb dX12_reached_44 hl (by decide) rfl (fun ls hl => ?_)
  refine lv_aload_n hx hb dX12_reached_46 rfl (lv_at hl 4 rfl) ?_
  refine lv_iload hx hb dX12_reached_47 (lv_at hl 0 rfl) ?_
  refine fb_zaC (n := 0) (v := (1 : Int32)) X I 2 2 rfl rfl (by decide) (by decide) (Nat.le_of_ble_eq_true rfl) pk_us dX12_reached_49 ?_
  refine lv_if_ne (tgt := 61) hx hb dX12_reached_50 (by decide) (fun _ => ?_) (fun c26 => absurd c26 (by decide))
  refine lv_aload_n hx hb dX12_reached_61 rfl (lv_at hl 4 rfl) ?_
  refine lv_iload hx hb dX12_reached_62 (lv_at hl 0 rfl) ?_
  refine lv_iconst (v := (1 : Int32)) hx hb dX12_reached_64 (by decide) ?_
  refine fb_zsC (n := 0) (wn := ([fb_o12 za zr fr_e0, fb_aw cI (zr 0) 16205 (fr_m (fun _ => 0) 0), fb_aw (D.1 20) x1 4096 (upd (upd (upd (upd (upd (upd (upd (upd (fun _ => 0) 0 (1 : Int32)) 0 (1 : Int32)) 0 (1 : Int32)) 0 (1 : Int32)) 0 (1 : Int32)) 0 (1 : Int32)) 0 (1 : Int32)) 0 (1 : Int32)), fb_aw cI x2 4096 (upd (fun _ => 0) 0 (0 : Int32))] : List va_W).flatten) X I 2 2 rfl rfl (by decide) (by decide) (Nat.le_of_ble_eq_true rfl) rfl rfl dX12_reached_65 (fun H locs I => ?_)
  refine lv_iinc (v := (7 : Int32)) (lv' := [(4, .int (7 : Int32)), (5, .int (0 : Int32)), (3, .int (1 : Int32)), (2, .ref x2), (1, .ref x1), (0, .ref za)]) hx hb dX12_reached_66 hl (k := 1) rfl (by decide) (by decide) rfl (fun ls hl => ?_)
  refine lv_goto (tgt := 17) hx hb dX12_reached_69 (by decide) ?_
  refine lv_iload hx hb dX12_reached_17 (lv_at hl 0 rfl) ?_
  refine lv_bipush (v := (8 : Int32)) hx hb dX12_reached_19 (by decide) ?_
  refine lv_icmp_ge (tgt := 72) hx hb dX12_reached_21 (by decide) (fun c27 => absurd c27 (by decide)) (fun _ => ?_)
  refine lv_iload hx hb dX12_reached_24 (lv_at hl 0 rfl) ?_
  refine lv_if_ge (tgt := 38) hx hb dX12_reached_26 (by decide) (fun _ => ?_) (fun c28 => absurd (by decide) c28)
  refine lv_aload_n hx hb dX12_reached_38 rfl (lv_at hl 5 rfl) ?_
  refine lv_iload hx hb dX12_reached_39 (lv_at hl 0 rfl) ?_
  refine fb_gO (cs := [fb_o12 za zr fr_e0, fb_aw cI (zr 0) 16205 (fr_m (fun _ => 0) 0)]) (rs := [fb_aw (D.1 20) x1 4096 (upd (upd (upd (upd (upd (upd (upd (upd (fun _ => 0) 0 (1 : Int32)) 0 (1 : Int32)) 0 (1 : Int32)) 0 (1 : Int32)) 0 (1 : Int32)) 0 (1 : Int32)) 0 (1 : Int32)) 0 (1 : Int32)), fb_aw cI x2 4096 (upd (fun _ => 0) 0 (0 : Int32))]) X I [0, 1, 2, 3] 4 rfl (by decide +kernel) rfl rfl (fun I => fb_rV (As := [.int (7 : Int32)]) (rest := []) X hl (fb_goodV fw_1945 fw_1947 fw_85 fw_204 fw_1948) (c_vector l D cI cJ za zr fr_e0 (fr_m (fun _ => 0) 0) (7 : Int32) _ (fr_hm _ _) rfl) rfl rfl rfl (by decide +kernel : fb_hd yX12_vector 1) ⟨Nat.le_of_ble_eq_true rfl, Nat.le_of_ble_eq_true rfl⟩ rfl rfl rfl rfl rfl (Nat.le_of_ble_eq_true rfl) ⟨Nat.le_of_ble_eq_true rfl, Nat.le_of_ble_eq_true rfl⟩ dX12_reached_41 I) ?_
  refine lv_istore (lv' := [(5, .int (0 : Int32)), (4, .int (7 : Int32)), (3, .int (1 : Int32)), (2, .ref x2), (1, .ref x1), (0, .ref za)]) hx hb dX12_reached_44 hl (by decide) rfl (fun ls hl => ?_)
  refine lv_aload_n hx hb dX12_reached_46 rfl (lv_at hl 4 rfl) ?_
  refine lv_iload hx hb dX12_reached_47 (lv_at hl 0 rfl) ?_
  refine fb_zaC (n := 0) (v := (1 : Int32)) X I 2 2 rfl rfl (by decide) (by decide) (Nat.le_of_ble_eq_true rfl) pk_us dX12_reached_49 ?_
  refine lv_if_ne (tgt := 61) hx hb dX12_reached_50 (by decide) (fun _ => ?_) (fun c29 => absurd c29 (by decide))
  refine lv_aload_n hx hb dX12_reached_61 rfl (lv_at hl 4 rfl) ?_
  refine lv_iload hx hb dX12_reached_62 (lv_at hl 0 rfl) ?_
  refine lv_iconst (v := (1 : Int32)) hx hb dX12_reached_64 (by decide) ?_
  refine fb_zsC (n := 0) (wn := ([fb_o12 za zr fr_e0, fb_aw cI (zr 0) 16205 (fr_m (fun _ => 0) 0), fb_aw (D.1 20) x1 4096 (upd (upd (upd (upd (upd (upd (upd (upd (upd (fun _ => 0) 0 (1 : Int32)) 0 (1 : Int32)) 0 (1 : Int32)) 0 (1 : Int32)) 0 (1 : Int32)) 0 (1 : Int32)) 0 (1 : Int32)) 0 (1 : Int32)) 0 (1 : Int32)), fb_aw cI x2 4096 (upd (fun _ => 0) 0 (0 : Int32))] : List va_W).flatten) X I 2 2 rfl rfl (by decide) (by decide) (Nat.le_of_ble_eq_true rfl) rfl rfl dX12_reached_65 (fun H locs I => ?_)
  refine lv_iinc (v := (8 : Int32)) (lv' := [(4, .int (8 : Int32)), (5, .int (0 : Int32)), (3, .int (1 : Int32)), (2, .ref x2), (1, .ref x1), (0, .ref za)]) hx hb dX12_reached_66 hl (k := 1) rfl (by decide) (by decide) rfl (fun ls hl => ?_)
  refine lv_goto (tgt := 17) hx hb dX12_reached_69 (by decide) ?_
  refine lv_iload hx hb dX12_reached_17 (lv_at hl 0 rfl) ?_
  refine lv_bipush (v := (8 : Int32)) hx hb dX12_reached_19 (by decide) ?_
  refine lv_icmp_ge (tgt := 72) hx hb dX12_reached_21 (by decide) (fun _ => ?_) (fun c30 => absurd (by decide) c30)
  refine lv_iconst (v := (0 : Int32)) hx hb dX12_reached_72 (by decide) ?_
  refine lv_istore (lv' := [(4, .int (0 : Int32)), (5, .int (0 : Int32)), (3, .int (1 : Int32)), (2, .ref x2), (1, .ref x1), (0, .ref za)]) hx hb dX12_reached_73 hl (by decide) rfl (fun ls hl => ?_)
  exact bz_reached_75 (za := za) (zr := zr) (x1 := x1) (x2 := x2) X   (4095) 0 (by omega) (upd (upd (upd (upd (upd (upd (upd (upd (upd (fun _ => 0) 0 (1 : Int32)) 0 (1 : Int32)) 0 (1 : Int32)) 0 (1 : Int32)) 0 (1 : Int32)) 0 (1 : Int32)) 0 (1 : Int32)) 0 (1 : Int32)) 0 (1 : Int32)) (upd (fun _ => 0) 0 (0 : Int32)) (fun j _ => (fr_r0 _ j (fr_r0 _ j (fr_r0 _ j (fr_r0 _ j (fr_r0 _ j (fr_r0 _ j (fr_r0 _ j (fr_r0 _ j (fr_r00 j)))))))))) (fun j hj => by obtain rfl : j = 0 := (by omega); rfl) _ _ _ I I.2.2.1 (lv_sub hl [0, 2, 3, 4, 5] rfl)

set_option maxHeartbeats 4000000 in
set_option maxRecDepth 100000 in
theorem bz_reachable_13 {p : Program} {l : Launch} {e : Env} {s : State} {m : MethodId} {args : Array Value} {below : List Frame} {meth : Method} {c : Code} {D : va_G} {cI cJ : ClassId} {A : Nat → Prop} {za : Nat} {zr : Nat → Nat} {x2 : Nat} {w1 : fb_AR} (X : fb_Bx p s m args meth c cX12_reachable RX12 6 (some .int) D (fb_ty D cI cJ) A)  (hpr : ∀ j, j < 4096 → w1 j = 1) : ∀ (n zi : Nat) (hn : zi + n = 4096) (H : Heap) (locs : List Loc) (ls : Array Slot) (I : fb_In D A s.heap (([fb_o12 za zr fr_e0, fb_aw cI (zr 0) 16205 (fr_m (fun _ => 0) 0), fb_aw (D.1 20) x2 4096 w1] : List va_W).flatten) H locs) (hz : s.heap.size + 4096 ≤ H.size) (hl : lv_has ls 6 [(4, .int (nI zi)), (3, .int (4096 : Int32)), (2, .ref x2), (1, .int (nI zi)), (0, .ref za)]), W p l e ({ frames := 6, cells := 4098, slots := 16384, locals := 155 } : Room) s m args below meth c H locs (0 + 4098) (0 + 16384) (MQ below (fb_QIz (s.heap.size + 4096) D A (fun (r : Int32) (_ : Unit) => r = (nI 4096)) (fun (t : Unit) => ([fb_o12 za zr fr_e0, fb_aw cI (zr 0) 16205 (fr_m (fun _ => 0) 0)] : List va_W).flatten)) args s 4098 16384 A) (F0 m 13 ls []) := by
  intro n
  obtain ⟨hx, hb, hr, hml, hown, hts, hlk, hA, hK, hF⟩ := id X
  induction n with
  | zero =>
    intro zi hn H locs ls I hz hl
    have ziE : 4096 = zi := by omega
    subst ziE
    refine lv_iload hx hb dX12_reachable_13 (lv_at hl 0 rfl) ?_
    refine lv_iload_n hx hb dX12_reachable_15 rfl (lv_at hl 1 rfl) ?_
    refine lv_icmp_ge (tgt := 44) hx hb dX12_reachable_16 (by decide) (fun _ => ?_) (fun c4 => absurd (nI_le (a := 4096) (b := 4096) (by omega) (by omega)) c4)
    refine lv_iload_n hx hb dX12_reachable_44 rfl (lv_at hl 3 rfl) ?_
    have I : fb_In D A s.heap (([fb_o12 za zr fr_e0, fb_aw cI (zr 0) 16205 (fr_m (fun _ => 0) 0)] : List va_W).flatten) H _ := fb_dropB (bs := [fb_o12 za zr fr_e0, fb_aw cI (zr 0) 16205 (fr_m (fun _ => 0) 0), fb_aw (D.1 20) x2 4096 w1]) (bs' := [fb_o12 za zr fr_e0, fb_aw cI (zr 0) 16205 (fr_m (fun _ => 0) 0)]) (gs := [fb_aw (D.1 20) x2 4096 w1]) I 3 rfl [0, 1, 2] (by decide +kernel) rfl
    refine W.widen (k := 4098) (n := 16384) (by omega) (by omega) ?_
    exact fb_retIz hz (u := ()) X I rfl rfl dX12_reachable_45
  | succ n ih =>
    intro zi hn H locs ls I hz hl
    have ziL : zi < 4096 := by omega
    refine lv_iload hx hb dX12_reachable_13 (lv_at hl 0 rfl) ?_
    refine lv_iload_n hx hb dX12_reachable_15 rfl (lv_at hl 1 rfl) ?_
    refine lv_icmp_ge (tgt := 44) hx hb dX12_reachable_16 (by decide) (fun c5 => absurd c5 (nI_ge (a := zi) (b := 4096) (by omega) (by omega))) (fun _ => ?_)
    refine lv_aload_n hx hb dX12_reachable_19 rfl (lv_at hl 2 rfl) ?_
    refine lv_iload hx hb dX12_reachable_20 (lv_at hl 0 rfl) ?_
    refine fb_zaC (n := zi) (v := (1 : Int32)) X I 2 2 rfl rfl (nI_clamp (by omega)) (nI_pos (by omega)) (by omega) (hpr zi (by omega)) dX12_reachable_22 ?_
    refine lv_istore (lv' := [(5, .int (1 : Int32)), (4, .int (nI zi)), (3, .int (4096 : Int32)), (2, .ref x2), (1, .int (nI zi)), (0, .ref za)]) hx hb dX12_reachable_23 hl (by decide) rfl (fun ls hl => ?_)
    refine lv_iload_n hx hb dX12_reachable_25 rfl (lv_at hl 4 rfl) ?_
    refine lv_iload hx hb dX12_reachable_26 (lv_at hl 0 rfl) ?_
    refine lv_if_eq (tgt := 35) hx hb dX12_reachable_28 (by decide) (fun c6 => absurd c6 (by decide)) (fun _ => ?_)
    refine lv_iconst (v := (1 : Int32)) hx hb dX12_reachable_31 (by decide) ?_
    refine lv_goto (tgt := 36) hx hb dX12_reachable_32 (by decide) ?_
    refine lv_iadd hx hb dX12_reachable_36 ?_
    refine fb_tI (v := (nI (zi + 1))) (nI_add zi 1) ?_
    refine lv_istore_n (lv' := [(1, .int (nI (zi + 1))), (5, .int (1 : Int32)), (4, .int (nI zi)), (3, .int (4096 : Int32)), (2, .ref x2), (0, .ref za)]) hx hb dX12_reachable_37 rfl hl (by decide) rfl (fun ls hl => ?_)
    refine lv_iinc (v := (nI (zi + 1))) (lv' := [(4, .int (nI (zi + 1))), (1, .int (nI (zi + 1))), (5, .int (1 : Int32)), (3, .int (4096 : Int32)), (2, .ref x2), (0, .ref za)]) hx hb dX12_reachable_38 hl (k := 2) rfl (nI_add _ 1) (by decide) rfl (fun ls hl => ?_)
    refine lv_goto (tgt := 13) hx hb dX12_reachable_41 (by decide) ?_
    have I : fb_In D A s.heap (([fb_o12 za zr fr_e0, fb_aw cI (zr 0) 16205 (fr_m (fun _ => 0) 0), fb_aw (D.1 20) x2 4096 w1] : List va_W).flatten) _ _ := I
    exact ih (zi + 1) (by omega) _ _ _ I hz (lv_sub hl [0, 3, 4, 1, 5] rfl)
set_option maxHeartbeats 4000000 in
set_option maxRecDepth 100000 in
theorem cz_reachable (l : Launch) (D : va_G) (cI cJ : ClassId) (za : Nat) (zr : Nat → Nat) (sz : Nat)  : Met l yX12_reachable (Cond.code yX12_reachable cX12_reachable 6 (some .int) :: fb_all) ({ frames := 6, cells := 4098, slots := 16384, locals := 155 } : Room) (fb_PP D (fb_ty D cI cJ) [.ref za] (([fb_o12 za zr fr_e0, fb_aw cI (zr 0) 16205 (fr_m (fun _ => 0) 0)] : List va_W).flatten) sz) (fb_QIz (sz + 4096) D (va_A (([fb_o12 za zr fr_e0, fb_aw cI (zr 0) 16205 (fr_m (fun _ => 0) 0)] : List va_W).flatten) sz) (fun (r : Int32) (_ : Unit) => r = (nI 4096)) (fun (t : Unit) => ([fb_o12 za zr fr_e0, fb_aw cI (zr 0) 16205 (fr_m (fun _ => 0) 0)] : List va_W).flatten)) 4098 16384 (va_A (([fb_o12 za zr fr_e0, fb_aw cI (zr 0) 16205 (fr_m (fun _ => 0) 0)] : List va_W).flatten) sz) := by
  refine fb_entz (Qf := fun A => (fb_QIz (sz + 4096) D A (fun (r : Int32) (_ : Unit) => r = (nI 4096)) (fun (t : Unit) => ([fb_o12 za zr fr_e0, fb_aw cI (zr 0) 16205 (fr_m (fun _ => 0) 0)] : List va_W).flatten))) (by decide +kernel) (Nat.le_of_ble_eq_true rfl) ?_
  intro p e s m args below meth c A ls hsz X I hl hin
  subst hsz
  obtain ⟨hx, hb, hr, hml, hown, hts, hlk, hA, hK, hF⟩ := id X
  have hl : lv_has ls 6 [(0, .ref za)] := hl
  refine lv_iconst (v := (0 : Int32)) hx hb dX12_reachable_0 (by decide) ?_
  refine lv_istore_n (lv' := [(1, .int (0 : Int32)), (0, .ref za)]) hx hb dX12_reachable_1 rfl hl (by decide) rfl (fun ls hl => ?_)
  refine lv_aload_n hx hb dX12_reachable_2 rfl (lv_at hl 1 rfl) ?_
  refine fb_gRz (cs := [fb_o12 za zr fr_e0, fb_aw cI (zr 0) 16205 (fr_m (fun _ => 0) 0)]) (rs := []) (fun (t : fb_AR) (rr : Nat) => [fb_o12 za zr fr_e0, fb_aw cI (zr 0) 16205 (fr_m (fun _ => 0) 0), fb_aw (D.1 20) rr 4096 t]) (fun (t : fb_AR) (rr : Nat) => [fb_o12 za zr fr_e0, fb_aw cI (zr 0) 16205 (fr_m (fun _ => 0) 0), fb_aw (D.1 20) rr 4096 t]) X I [0, 1] 2 rfl (by decide +kernel) rfl rfl [0, 1, 2] 3 (fun _ _ => rfl) (by decide +kernel) (fun _ _ => rfl) (fun _ _ => rfl) (fun I => fb_rV (As := []) (rest := []) X hl (fb_goodV fw_2767 fw_2769 fw_188 fw_204 fw_2770) (cz_reached l D cI cJ za zr _ ) rfl rfl rfl (by decide +kernel : fb_hd yX12_reached 0) ⟨Nat.le_of_ble_eq_true rfl, Nat.le_of_ble_eq_true rfl⟩ rfl rfl rfl rfl rfl (Nat.le_of_ble_eq_true rfl) ⟨Nat.le_of_ble_eq_true rfl, Nat.le_of_ble_eq_true rfl⟩ dX12_reachable_3 I) ?_
  intro w1 x2 H locs e0 hz I
  have p3 : ∀ j, j < 4096 → w1 j = 1 := e0
  have I : fb_In D A s.heap (([fb_o12 za zr fr_e0, fb_aw cI (zr 0) 16205 (fr_m (fun _ => 0) 0), fb_aw (D.1 20) x2 4096 w1] : List va_W).flatten) H locs := I
  refine lv_astore_n (lv' := [(2, .ref x2), (1, .int (0 : Int32)), (0, .ref za)]) hx hb dX12_reachable_6 rfl hl (by decide) rfl (fun ls hl => ?_)
  refine lv_aload_n hx hb dX12_reachable_7 rfl (lv_at hl 0 rfl) ?_
  refine fb_alen (v := (4096 : Int32)) X I 2 2 rfl rfl rfl dX12_reachable_8 ?_
  refine lv_istore_n (lv' := [(3, .int (4096 : Int32)), (2, .ref x2), (1, .int (0 : Int32)), (0, .ref za)]) hx hb dX12_reachable_9 rfl hl (by decide) rfl (fun ls hl => ?_)
  refine lv_iconst (v := (0 : Int32)) hx hb dX12_reachable_10 (by decide) ?_
  refine lv_istore (lv' := [(4, .int (0 : Int32)), (3, .int (4096 : Int32)), (2, .ref x2), (1, .int (0 : Int32)), (0, .ref za)]) hx hb dX12_reachable_11 hl (by decide) rfl (fun ls hl => ?_)
  have I : fb_In D A s.heap (([fb_o12 za zr fr_e0, fb_aw cI (zr 0) 16205 (fr_m (fun _ => 0) 0), fb_aw (D.1 20) x2 4096 w1] : List va_W).flatten) _ _ := I
  exact bz_reachable_13 (za := za) (zr := zr) (x2 := x2) (w1 := w1) X  p3 (4096) 0 (by omega) _ _ _ I hz (lv_sub hl [0, 1, 2, 3, 4] rfl)

set_option maxHeartbeats 4000000 in
set_option maxRecDepth 100000 in
theorem cz_codes (l : Launch) (D : va_G) (cI cJ : ClassId) (za : Nat) (zr : Nat → Nat) (sz : Nat)  : Met l yX12_codes (Cond.code yX12_codes cX12_codes 1 (some .int) :: fb_all) ({ frames := 7, cells := 4098, slots := 16384, locals := 180 } : Room) (fb_PP D (fb_ty D cI cJ) [.ref za] (([fb_o12 za zr fr_e0, fb_aw cI (zr 0) 16205 (fr_m (fun _ => 0) 0)] : List va_W).flatten) sz) (fb_QIz (sz + 4096) D (va_A (([fb_o12 za zr fr_e0, fb_aw cI (zr 0) 16205 (fr_m (fun _ => 0) 0)] : List va_W).flatten) sz) (fun (r : Int32) (_ : Unit) => r = (nI 4096)) (fun (t : Unit) => ([fb_o12 za zr (upd fr_e0 19 (0 : Int32)), fb_aw cI (zr 0) 16205 (fr_m (fun _ => 0) 0)] : List va_W).flatten)) 4098 16384 (va_A (([fb_o12 za zr fr_e0, fb_aw cI (zr 0) 16205 (fr_m (fun _ => 0) 0)] : List va_W).flatten) sz) := by
  refine fb_entz (Qf := fun A => (fb_QIz (sz + 4096) D A (fun (r : Int32) (_ : Unit) => r = (nI 4096)) (fun (t : Unit) => ([fb_o12 za zr (upd fr_e0 19 (0 : Int32)), fb_aw cI (zr 0) 16205 (fr_m (fun _ => 0) 0)] : List va_W).flatten))) (by decide +kernel) (Nat.le_of_ble_eq_true rfl) ?_
  intro p e s m args below meth c A ls hsz X I hl hin
  subst hsz
  obtain ⟨hx, hb, hr, hml, hown, hts, hlk, hA, hK, hF⟩ := id X
  have hl : lv_has ls 1 [(0, .ref za)] := hl
  refine lv_aload_n hx hb dX12_codes_0 rfl (lv_at hl 0 rfl) ?_
  refine lv_iconst (v := (0 : Int32)) hx hb dX12_codes_1 (by decide) ?_
  refine fb_put X I (k := 19) (wn := ([fb_o12 za zr (upd fr_e0 19 (0 : Int32)), fb_aw cI (zr 0) 16205 (fr_m (fun _ => 0) 0)] : List va_W).flatten) fu_X12 tyX12 tyX12_ok nmX12 0 fb_h12 rfl (Nat.le_of_ble_eq_true rfl) fw_1983 rfl rfl rfl rfl rfl (Nat.le_of_ble_eq_true rfl) fb_r12_19 dX12_codes_2 (fun H locs I => ?_)
  refine lv_aload_n hx hb dX12_codes_5 rfl (lv_at hl 0 rfl) ?_
  have hz0 : s.heap.size ≤ H.size := I.2.2.1
  refine fb_gIz (cs := [fb_o12 za zr (upd fr_e0 19 (0 : Int32)), fb_aw cI (zr 0) 16205 (fr_m (fun _ => 0) 0)]) (rs := []) (fun (t : Unit) => [fb_o12 za zr (upd fr_e0 19 (0 : Int32)), fb_aw cI (zr 0) 16205 (fr_m (fun _ => 0) 0)]) (fun (t : Unit) => [fb_o12 za zr (upd fr_e0 19 (0 : Int32)), fb_aw cI (zr 0) 16205 (fr_m (fun _ => 0) 0)]) X I [0, 1] 2 rfl (by decide +kernel) rfl rfl [0, 1] 2 (fun _ => rfl) (by decide +kernel) (fun _ => rfl) (fun _ => rfl) (fun I => fb_rV (As := []) (rest := []) X hl (fb_goodV fw_2775 fw_2777 fw_189 fw_204 fw_2778) (cz_reachable l D cI cJ za zr _ ) rfl rfl rfl (by decide +kernel : fb_hd yX12_reachable 0) ⟨Nat.le_of_ble_eq_true rfl, Nat.le_of_ble_eq_true rfl⟩ rfl rfl rfl rfl rfl (Nat.le_of_ble_eq_true rfl) ⟨Nat.le_of_ble_eq_true rfl, Nat.le_of_ble_eq_true rfl⟩ dX12_codes_6 I) ?_
  intro r2 w1 H locs e0 hz I
  subst e0
  have I : fb_In D A s.heap (([fb_o12 za zr (upd fr_e0 19 (0 : Int32)), fb_aw cI (zr 0) 16205 (fr_m (fun _ => 0) 0)] : List va_W).flatten) H locs := I
  refine W.widen (k := 4098) (n := 16384) (by omega) (by omega) ?_
  exact fb_retIz (K := s.heap.size + 4096) (u := ()) (by omega) X I rfl rfl dX12_codes_9


