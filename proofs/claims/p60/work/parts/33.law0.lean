/-! THE CLAIM OUT OF ONE WALK OF THE LAW'S BODY. Your part is whole_start (and what it stands on); all else here is the same for every law, but numbers. -/
def R_law : String := "FerriteBoardLaw"
def lw_P (b : Addr) (xs : List Int32) (args : Array Value) (s : State) : Prop := args = #[.ref b] ∧ s.IntsAt b xs ∧ xs.length ≤ 260 ∧ (Jvm.Cond.and given_1 narrow_1).before args s = true
def lw_Q (_ : Array Value) (s : State) (o : Outcome) (t : State) : Prop := o = .returned (some (.int 1)) ∧ Framed s o t [] 600086 7301442
def lw_Z (below : List Frame) (a : Array Value) (s : State) : State → Prop := fun t => ∃ o, t.status = .running ∧ Ended t below o ∧ lw_Q a s o t
/-- the law's own end, with 1 on the stack, nothing written that was there before, its room as the claim has it -/
theorem lw_ret {p : Program} {l : Launch} {e : Env} {s : State} {m : MethodId} {below : List Frame} {meth : Method} {c : Code} {b : Nat} (hx : p.tables.exec = Jvm.exec) (hb : c.code = code) (hr : meth.sig.returnType = ret) (hlocks : meth.locks = false) {pc : Nat} {H : Heap} {ls : Array Slot} (hdg : decode code pc = .ok (.ireturn, 1)) : W p l e room_1 s m #[Value.ref b] below meth c H [] 600086 7301442 (lw_Z below #[Value.ref b] s) (F0 m pc ls [.int 1]) := by
  intro T hT X
  obtain ⟨fs, hret, hrun, hended, hW, hframe⟩ := X.leave (v := some (.int 1)) (hlocks := hlocks) (fun h => by rw [hr] at h; cases h)
  have hmeth' : T.vm.method? m = some meth := X.method'
  refine ⟨T.setFrames fs, ?_, .returned (some (.int 1)), hrun, hended, rfl, ⟨_, rfl⟩, hW, hframe⟩
  jvm_step X.here [X.here.top, hx, hb, hdg, hmeth', hr, ret, narrow_b1]
  (try refine ⟨rfl, ?_⟩); (try refine ⟨rfl, ?_⟩)
  first | (intro acts; rw [hret _ acts rfl rfl rfl]) | rw [hret _ _ rfl rfl rfl]
  exact Steps.refl _
/-- what holds at the law's entry: the machine, the code, the tables' words (any of lw_tbl by 'hts w (by decide +kernel)'), the script of L ints xs at the cell b, what the Statement gives of the start (any of its parts by flat_of_before) -/
def lw_At (p : Program) (s : State) (m : MethodId) (meth : Method) (c : Code) (b L : Nat) (xs : Nat → Int32) : Prop :=
  p.tables.exec = Jvm.exec ∧ c.code = code ∧ meth.sig.returnType = ret ∧ c.maxLocals = 18 ∧ s.vm.findClass R_law = some m.cls ∧ (∀ w ∈ lw_tbl, w.before #[Value.ref b] s = true) ∧ va_X b L xs s s.heap ∧ b < s.heap.size ∧ meth.locks = false ∧ (Jvm.Cond.and given_1 narrow_1).before #[Value.ref b] s = true

theorem fb_nIn : ∀ q ∈ fb_nM, Cond.methodLinkNest q.1 q.2.1 q.2.2.1 q.2.2.2 ∈ lw_tbl := by
  unfold fb_nM
  exact List.forall_mem_cons.mpr ⟨List.mem_of_getElem? (i := 469) (by decide +kernel), List.forall_mem_cons.mpr ⟨List.mem_of_getElem? (i := 602) (by decide +kernel), List.forall_mem_cons.mpr ⟨List.mem_of_getElem? (i := 699) (by decide +kernel), List.forall_mem_cons.mpr ⟨List.mem_of_getElem? (i := 721) (by decide +kernel), List.forall_mem_cons.mpr ⟨List.mem_of_getElem? (i := 722) (by decide +kernel), List.forall_mem_cons.mpr ⟨List.mem_of_getElem? (i := 786) (by decide +kernel), List.forall_mem_cons.mpr ⟨List.mem_of_getElem? (i := 805) (by decide +kernel), List.forall_mem_cons.mpr ⟨List.mem_of_getElem? (i := 893) (by decide +kernel), List.forall_mem_cons.mpr ⟨List.mem_of_getElem? (i := 910) (by decide +kernel), List.forall_mem_cons.mpr ⟨List.mem_of_getElem? (i := 963) (by decide +kernel), List.forall_mem_cons.mpr ⟨List.mem_of_getElem? (i := 964) (by decide +kernel), List.forall_mem_cons.mpr ⟨List.mem_of_getElem? (i := 971) (by decide +kernel), List.forall_mem_cons.mpr ⟨List.mem_of_getElem? (i := 1001) (by decide +kernel), List.forall_mem_cons.mpr ⟨List.mem_of_getElem? (i := 1018) (by decide +kernel), List.forall_mem_cons.mpr ⟨List.mem_of_getElem? (i := 75) (by decide +kernel), List.forall_mem_cons.mpr ⟨List.mem_of_getElem? (i := 100) (by decide +kernel), List.forall_mem_cons.mpr ⟨List.mem_of_getElem? (i := 151) (by decide +kernel), List.forall_mem_cons.mpr ⟨List.mem_of_getElem? (i := 239) (by decide +kernel), List.forall_mem_cons.mpr ⟨List.mem_of_getElem? (i := 245) (by decide +kernel), List.forall_mem_cons.mpr ⟨List.mem_of_getElem? (i := 373) (by decide +kernel), List.forall_mem_cons.mpr ⟨List.mem_of_getElem? (i := 378) (by decide +kernel), List.forall_mem_cons.mpr ⟨List.mem_of_getElem? (i := 401) (by decide +kernel), List.forall_mem_cons.mpr ⟨List.mem_of_getElem? (i := 432) (by decide +kernel), fun _ h => absurd h List.not_mem_nil⟩⟩⟩⟩⟩⟩⟩⟩⟩⟩⟩⟩⟩⟩⟩⟩⟩⟩⟩⟩⟩⟩⟩
theorem fb_NstOf {args : Array Value} {s : State} (hts : ∀ w ∈ lw_tbl, w.before args s = true) : fb_Nst s := ⟨fun q hq => va_Nw.of rfl (hts _ (fb_nIn q hq)), va_Nw.of rfl (hts (.fieldLinkNest "FerriteBoard$Machine" 210 "FerriteBoard" "BRANCH_FLAGS" "[I" "FerriteBoard") (List.mem_of_getElem? (i := 780) (by decide +kernel))), va_AO.of (hts _ (List.mem_of_getElem? (i := 149) (by decide +kernel)))⟩
theorem fb_FzOf {args : Array Value} {s : State} (hts : ∀ w ∈ lw_tbl, w.before args s = true) (hgv : (Jvm.Cond.and given_1 narrow_1).before args s = true) : fb_Fz (fun q : Nat => s.heap.size ≤ q) s s.heap := by
  have hs := flat_of_before _ hgv
  have h1 : (Cond.arrayOf (.static "FerriteBoard" "BRANCH_FLAGS" "[I") .int).before args s = true := hs _ (by decide +kernel)
  have h2 := va_eqt (hs (.eq (.length (.static "FerriteBoard" "BRANCH_FLAGS" "[I")) (.int 4)) (by decide +kernel))
  have e0 := va_eqt (hs (.eq (.elem (.static "FerriteBoard" "BRANCH_FLAGS" "[I") (.int 0)) (.int 2)) (by decide +kernel))
  have e1 := va_eqt (hs (.eq (.elem (.static "FerriteBoard" "BRANCH_FLAGS" "[I") (.int 1)) (.int 1)) (by decide +kernel))
  have e2 := va_eqt (hs (.eq (.elem (.static "FerriteBoard" "BRANCH_FLAGS" "[I") (.int 2)) (.int 16)) (by decide +kernel))
  have e3 := va_eqt (hs (.eq (.elem (.static "FerriteBoard" "BRANCH_FLAGS" "[I") (.int 3)) (.int 8)) (by decide +kernel))
  obtain ⟨t, ht, hT⟩ := va_Tof (N := 4) (f := fun j => .int (fb_bf j)) (A := fun q : Nat => s.heap.size ≤ q) (by decide) h1 h2 (fun j hj => by
    match j, hj with
    | 0, _ => exact e0
    | 1, _ => exact e1
    | 2, _ => exact e2
    | 3, _ => exact e3
    | j + 4, hj => omega) (fun a ha => Nat.not_le.mpr ha)
  exact ⟨t, va_Zof (hts _ (List.mem_of_getElem? (i := 781) (by decide +kernel))) (hts _ (fb_allIn _ fw_44)) ht (fun a ha => Nat.not_le.mpr ha), hT⟩
theorem fb_KnOf {args : Array Value} {s : State} (hts : ∀ w ∈ fb_all, w.before args s = true) : ∃ D : va_G, ∀ (k : Nat) (q : vw_C), vwCl[k]? = some q → u_Kn s q.1 q.2.1 q.2.2 (D.1 k) (D.2 k) := by
  obtain ⟨c0, i0, h0⟩ := u_known (C := RX0) (T := TX0) (N := 6) (n := 6) hts fu_X0 (hts _ fw_372)
  obtain ⟨c1, i1, h1⟩ := u_known (C := RX1) (T := TX1) (N := 9) (n := 9) hts fu_X1 (hts _ fw_150)
  obtain ⟨c2, i2, h2⟩ := u_known (C := RX2) (T := TX2) (N := 17) (n := 17) hts fu_X2 (hts _ fw_238)
  obtain ⟨c3, i3, h3⟩ := u_known (C := RX3) (T := TX3) (N := 5) (n := 5) hts fu_X3 (hts _ fw_99)
  obtain ⟨c4, i4, h4⟩ := u_known (C := RX4) (T := TX4) (N := 15) (n := 15) hts fu_X4 (hts _ fw_190)
  obtain ⟨c5, i5, h5⟩ := u_known (C := RX5) (T := TX5) (N := 14) (n := 14) hts fu_X5 (hts _ fw_244)
  obtain ⟨c6, i6, h6⟩ := u_known (C := RX6) (T := TX6) (N := 5) (n := 5) hts fu_X6 (hts _ fw_431)
  obtain ⟨c7, i7, h7⟩ := u_known (C := RX7) (T := TX7) (N := 8) (n := 8) hts fu_X7 (hts _ fw_400)
  obtain ⟨c8, i8, h8⟩ := u_known (C := RX8) (T := TX8) (N := 5) (n := 5) hts fu_X8 (hts _ fw_143)
  obtain ⟨c9, i9, h9⟩ := u_known (C := RX9) (T := TX9) (N := 6) (n := 6) hts fu_X9 (hts _ fw_74)
  obtain ⟨c10, i10, h10⟩ := u_known (C := RX10) (T := TX10) (N := 7) (n := 7) hts fu_X10 (hts _ fw_120)
  obtain ⟨c11, i11, h11⟩ := u_known (C := RX11) (T := TX11) (N := 10) (n := 10) hts fu_X11 (hts _ fw_66)
  refine ⟨(fun k => if k = 0 then c0 else if k = 1 then c1 else if k = 2 then c2 else if k = 3 then c3 else if k = 4 then c4 else if k = 5 then c5 else if k = 6 then c6 else if k = 7 then c7 else if k = 8 then c8 else if k = 9 then c9 else if k = 10 then c10 else c11, fun k => if k = 0 then i0 else if k = 1 then i1 else if k = 2 then i2 else if k = 3 then i3 else if k = 4 then i4 else if k = 5 then i5 else if k = 6 then i6 else if k = 7 then i7 else if k = 8 then i8 else if k = 9 then i9 else if k = 10 then i10 else i11), ?_⟩
  intro k q hq
  match k, hq with
  | 0, hq => cases hq; exact h0
  | 1, hq => cases hq; exact h1
  | 2, hq => cases hq; exact h2
  | 3, hq => cases hq; exact h3
  | 4, hq => cases hq; exact h4
  | 5, hq => cases hq; exact h5
  | 6, hq => cases hq; exact h6
  | 7, hq => cases hq; exact h7
  | 8, hq => cases hq; exact h8
  | 9, hq => cases hq; exact h9
  | 10, hq => cases hq; exact h10
  | 11, hq => cases hq; exact h11
  | k + 12, hq => simp [vwCl] at hq
theorem fb_tyOf {args : Array Value} {s : State} (hts : ∀ w ∈ fb_all, w.before args s = true) : ∃ cI cJ : ClassId, ∀ (k : Nat) (q : ClassId × FieldType), (fb_ty cI cJ)[k]? = some q → ArrOfT s q.1 q.2 ∧ va_RA s q.1 q.2 := by
  obtain ⟨cI, kI, pI, a1, a2, a3⟩ := Cond.arrayClass_spec (hts _ fw_96)
  obtain ⟨cJ, kJ, pJ, b1, b2, b3⟩ := Cond.arrayClass_spec (hts _ fw_97)
  refine ⟨cI, cJ, ?_⟩
  intro k q hq
  match k, hq with
  | 0, hq => cases hq; exact ⟨fun n z => ⟨fun k h => (by cases h), kI, a2, pI, a3⟩, a1⟩
  | 1, hq => cases hq; exact ⟨fun n z => ⟨fun k h => (by cases h), kJ, b2, pJ, b3⟩, b1⟩
  | k + 2, hq => simp [fb_ty] at hq
set_option maxHeartbeats 4000000 in
/-- cell: it answers some int, whatever the script -/
theorem c_L_cell (l : Launch) (b L : Nat) (xs : Nat → Int32) (i : Int32) (hi : ¬ i < 0) (hL : L < 2 ^ 31) : Met l yL_cell (Cond.code yL_cell cL_cell 2 (some .int) :: fb_all) ({ frames := 0, cells := 0, slots := 0, locals := 0 } : Room) (va_Pc [.ref b, .int i] (fun U => va_X b L xs U U.heap ∧ b < U.heap.size)) (vp_Si (fun _ => True)) 0 0 (fun _ => False) := by
  refine Met.ofW (cc := cL_cell) (maxL := 2) (ret := some .int) (by decide +kernel) rfl ?_
  intro p e s m args below meth c s₁ B hml hv
  obtain ⟨rfl, hT, hbl⟩ := hv
  have hx := B.exec
  have hb := B.bytes
  have hr := B.returns
  have hlk := B.notSynchronized
  have hts : ∀ w ∈ fb_all, w.before ([.ref b, .int i] : List Value).toArray s = true := fun w h => atoms_spec (ws := Cond.code yL_cell cL_cell 2 (some .int) :: fb_all) B.pre w (List.mem_cons_of_mem _ h)
  have hown : s.vm.findClass RL = some m.cls := findClass_of_methodNamed (x := yL_cell) B.named
  have hS : va_S (fun _ => False) s.heap s.heap [] := va_S.rf
  have hl := lv_entry [.ref b, .int i] (n := 2) (Nat.le_of_ble_eq_true rfl)
  rw [lg_entry_eq]
  generalize (lg_sl ([.ref b, .int i]) ++ List.replicate (2 - (lg_sl ([.ref b, .int i])).length) Slot.unset).toArray = ls at hl ⊢
  have hl : lv_has ls 2 [(0, .ref b), (1, .int i)] := hl
  refine lv_iload_n hx hb dL_cell_0 rfl (lv_at hl 1 rfl) ?_
  refine lv_aload_n hx hb dL_cell_1 rfl (lv_at hl 0 rfl) ?_
  refine va_slen hx hb hT hbl (fun h => h) hS dL_cell_2 ?_
  refine lv_icmp_ge (tgt := 12) hx hb dL_cell_3 (by decide) (fun c1 => ?_) (fun c1 => ?_)
  · refine lv_ldc hx hb hown (hts _ fw_1026) dL_cell_12 ?_
    refine lv_iload_n hx hb dL_cell_14 rfl (lv_at hl 1 rfl) ?_
    refine lv_iconst (v := (3 : Int32)) hx hb dL_cell_15 (by decide) ?_
    refine lv_iadd hx hb dL_cell_16 ?_
    refine lv_imul hx hb dL_cell_17 ?_
    exact W.zret hx hb hr rfl (fun t ht hW => ⟨_, rfl, trivial, ht⟩) (fun q h => by cases h) dL_cell_18
  · refine lv_aload_n hx hb dL_cell_6 rfl (lv_at hl 0 rfl) ?_
    refine lv_iload_n hx hb dL_cell_7 rfl (lv_at hl 1 rfl) ?_
    refine va_sld hx hb hT hbl (fun h => h) hS (fb_ir hL hi c1) dL_cell_8 ?_
    refine lv_goto (tgt := 18) hx hb dL_cell_9 (by decide) ?_
    exact W.zret hx hb hr rfl (fun t ht hW => ⟨_, rfl, trivial, ht⟩) (fun q h => by cases h) dL_cell_18
section LRA
variable {p : Program} {l : Launch} {e : Env} {s : State} {m : MethodId} {args : Array Value} {below : List Frame} {meth : Method} {c : Code} {H : Heap} {locs : List Loc} {cells slots : Nat} {Q : State → Prop} {D : va_G} {cI cJ : ClassId} {A : Nat → Prop} {pc : Nat} {ls : Array Slot} {lv : List (Nat × Value)} {rest : List Value} {ws : va_W}
set_option maxHeartbeats 4000000 in
theorem lr_cell {b L : Nat} {xs : Nat → Int32} {i : Int32} (X : fb_Bx p s m args meth c cL_law RL 18 (some .boolean) D (fb_ty cI cJ) A) (I : fb_In D A s.heap ws H locs) (hX : va_X b L xs s s.heap) (hbl : b < s.heap.size) (hbA : ¬ A b) (hL : L < 2 ^ 31) (hl : lv_has ls 18 lv) (hrest : (rest.map fun v => v.category).sum ≤ 8) (hcl : cells ≤ room_1.cells ∧ slots ≤ room_1.slots) (hi : ¬ i < 0) (hdg : decode cL_law pc = .ok (.invokestatic 105, 3))
    (kk : ∀ r : Int32, W p l e room_1 s m args below meth c H locs cells slots Q (F0 m (pc + 3) ls (.int r :: rest))) : W p l e room_1 s m args below meth c H locs cells slots Q (F0 m pc ls (.int i :: .ref b :: rest)) := by
  obtain ⟨hx, hb, hr, hml, hown, hts, hlk, hA, hK, hF⟩ := X
  refine fb_csi (va_runS (As := [.ref b, .int i]) (rest := rest) ⟨hx, hb, hml, hown, hts⟩ (c_L_cell l b L xs i hi hL) (va_cwS 2 hts (fb_goodS fw_1023 fw_1024 fw_43 fw_1025) rfl rfl rfl (by decide +kernel) ⟨Nat.le_of_ble_eq_true rfl, Nat.le_of_ble_eq_true rfl⟩) ⟨fun a U g mk q => ?_, fun U hU hW => ?_⟩ rfl rfl hl.1 rfl (lv_room hrest) hdg hcl) (fun r h => kk r)
  · obtain ⟨q0, q1, q2⟩ := q
    exact ⟨q0, va_X.moved (u := U) (U := U.calling g mk a) (Vm.Alike.refl U.vm) q1, q2⟩
  · subst hU
    exact ⟨rfl, va_X.moved hW.alike (hX.kept (I.2.2.2.1 b hbl hbA)), Nat.lt_of_lt_of_le hbl I.2.2.1⟩
theorem lr_below {x d : Int32} (X : fb_Bx p s m args meth c cL_law RL 18 (some .boolean) D (fb_ty cI cJ) A) (I : fb_In D A s.heap ws H locs) (hl : lv_has ls 18 lv) (hrest : (rest.map fun v => v.category).sum ≤ 8) (hcl : cells ≤ room_1.cells ∧ slots ≤ room_1.slots) (gn : ¬ d = 0) (hdg : decode cL_law pc = .ok (.invokestatic 9, 3))
    (kk : W p l e room_1 s m args below meth c H locs cells slots Q (F0 m (pc + 3) ls (.int (f_L_below x d) :: rest))) : W p l e room_1 s m args below meth c H locs cells slots Q (F0 m pc ls (.int d :: .int x :: rest)) :=
  fb_roI X I (fb_runSB (wc := []) (R := ws) (As := [.int x, .int d]) (rest := rest) X hl (fb_goodS fw_1019 fw_1020 fw_43 fw_1021) (c_L_below l D cI cJ x d _ gn) rfl rfl (by decide +kernel : fb_hd yL_below 2) ⟨Nat.le_of_ble_eq_true rfl, Nat.le_of_ble_eq_true rfl⟩ rfl rfl hrest hcl hdg I) kk
theorem lr_min {x y : Int32} (X : fb_Bx p s m args meth c cL_law RL 18 (some .boolean) D (fb_ty cI cJ) A) (htb : ∀ w ∈ lw_tbl, w.before args s = true) (hl : lv_has ls 18 lv) (hrest : (rest.map fun v => v.category).sum ≤ 8) (hcl : cells ≤ room_1.cells ∧ slots ≤ room_1.slots) (hdg : decode cL_law pc = .ok (.invokestatic 147, 3))
    (kk : W p l e room_1 s m args below meth c H locs cells slots Q (F0 m (pc + 3) ls (.int (if y < x then y else x) :: rest))) : W p l e room_1 s m args below meth c H locs cells slots Q (F0 m pc ls (.int y :: .int x :: rest)) := by
  obtain ⟨hx, hb, hr, hml, hown, hts, hlk, hA, hK, hF⟩ := X
  exact va_mmin hx hb (by rw [hml]; exact hl.1.symm) hown (htb _ (List.mem_of_getElem? (i := 1140) (by decide +kernel))) (htb _ (List.mem_of_getElem? (i := 1141) (by decide +kernel))) (htb _ (List.mem_of_getElem? (i := 64) (by decide +kernel))) (htb _ (List.mem_of_getElem? (i := 1142) (by decide +kernel))) (Nat.le_of_ble_eq_true rfl) (by have : room_1.locals = 378 := rfl; omega) hcl.1 hcl.2 hdg kk
end LRA
