/-! X11_at -/
def f_X11_at (zN : Nat) (zf : fb_AR) (l1 : Int32) : Int32 := (if l1 < 0 then (0 : Int32) else (if (nI zN) ≤ l1 then (0 : Int32) else (zf (l1).toNatClampNeg)))
set_option maxHeartbeats 4000000 in
set_option maxRecDepth 100000 in
theorem b_X11_at_0 {p : Program} {l : Launch} {e : Env} {s : State} {m : MethodId} {args : Array Value} {below : List Frame} {meth : Method} {c : Code} {D : va_G} {cI cJ : ClassId} {A : Nat → Prop} {za : Nat} {zN : Nat} {z : Int32} (X : fb_Bx p s m args meth c cX11_at RX11 2 (some .int) D (fb_ty D cI cJ) A) {zf : fb_AR} {l1 : Int32} {ls : Array Slot} (hN : zN < 2 ^ 31) (I : fb_In D A s.heap ((fb_aw cI za zN zf)) s.heap []) (hl : lv_has ls 2 [(0, .ref za), (1, .int l1)]) (E : z = f_X11_at zN zf l1) : W p l e ({ frames := 0, cells := 0, slots := 0, locals := 0 } : Room) s m args below meth c s.heap [] 0 0 (MQ below (vp_Si (fun r => r = z)) args s 0 0 (fun _ => False)) (F0 m 0 ls []) := by
  obtain ⟨hx, hb, hr, hml, hown, hts, hlk, hA, hK, hF⟩ := id X
  refine lv_iload_n hx hb dX11_at_0 rfl (lv_at hl 1 rfl) ?_
  refine lv_if_lt (tgt := 16) hx hb dX11_at_1 (by decide) (fun c1 => ?_) (fun c1 => ?_)
  · have E2 := (E.trans (if_pos c1))
    refine lv_iconst (v := (0 : Int32)) hx hb dX11_at_16 (by decide) ?_
    exact fb_retRI X E2 rfl dX11_at_17
  · have E3 := (E.trans (if_neg c1))
    refine lv_iload_n hx hb dX11_at_4 rfl (lv_at hl 1 rfl) ?_
    refine lv_aload_n hx hb dX11_at_5 rfl (lv_at hl 0 rfl) ?_
    refine fb_alen (v := nI zN) X I 0 0 rfl rfl rfl dX11_at_6 ?_
    refine lv_icmp_ge (tgt := 16) hx hb dX11_at_7 (by decide) (fun c4 => ?_) (fun c4 => ?_)
    · have E5 := (E3.trans (if_pos c4))
      refine lv_iconst (v := (0 : Int32)) hx hb dX11_at_16 (by decide) ?_
      exact fb_retRI X E5 rfl dX11_at_17
    · have E6 := (E3.trans (if_neg c4))
      refine lv_aload_n hx hb dX11_at_10 rfl (lv_at hl 0 rfl) ?_
      refine lv_iload_n hx hb dX11_at_11 rfl (lv_at hl 1 rfl) ?_
      refine fb_iald X I (i := l1) 0 0 rfl rfl (fb_ir hN c1 c4) dX11_at_12 ?_
      refine lv_goto (tgt := 17) hx hb dX11_at_13 (by decide) ?_
      exact fb_retRI X E6 rfl dX11_at_17
set_option maxHeartbeats 4000000 in
set_option maxRecDepth 100000 in
theorem c_X11_at (l : Launch) (D : va_G) (cI cJ : ClassId) (za : Nat) (zN : Nat) (zf : fb_AR) (l1 : Int32) (sz : Nat) (hN : zN < 2 ^ 31) : Met l yX11_at (Cond.code yX11_at cX11_at 2 (some .int) :: fb_all) ({ frames := 0, cells := 0, slots := 0, locals := 0 } : Room) (fb_PP D (fb_ty D cI cJ) [.ref za, .int l1] ((fb_aw cI za zN zf)) sz) (vp_Si (fun r => r = ((f_X11_at zN zf l1)))) 0 0 (fun _ => False) := by
  refine fb_entR (by decide +kernel) (Nat.le_of_ble_eq_true rfl) ?_
  intro p e s m args below meth c A ls X I hl hin
  exact b_X11_at_0 X hN I hl rfl
set_option maxHeartbeats 4000000 in
/-- at, over the static row of the branches' flags -/
theorem c_atS (l : Launch) (t : Nat) (i : Int32) : Met l yX11_at (Cond.code yX11_at cX11_at 2 (some .int) :: fb_all) ({ frames := 0, cells := 0, slots := 0, locals := 0 } : Room) (va_Pc [.ref t, .int i] (fun U => va_T .int t 4 (fun j => .int (fb_bf j)) (fun _ => False) U U.heap)) (vp_Si (fun r => r = f_X11_at 4 fb_bf i)) 0 0 (fun _ => False) := by
  refine Met.ofW (cc := cX11_at) (maxL := 2) (ret := some .int) (by decide +kernel) rfl ?_
  intro p e s m args below meth c s₁ B hml hv
  obtain ⟨rfl, hT⟩ := hv
  have hx := B.exec
  have hb := B.bytes
  have hr := B.returns
  have hlk := B.notSynchronized
  have hS : va_S (fun _ => False) s.heap s.heap [] := va_S.rf
  have hl := lv_entry [.ref t, .int i] (n := 2) (Nat.le_of_ble_eq_true rfl)
  rw [lg_entry_eq]
  generalize (lg_sl ([.ref t, .int i]) ++ List.replicate (2 - (lg_sl ([.ref t, .int i])).length) Slot.unset).toArray = ls at hl ⊢
  have hl : lv_has ls 2 [(0, .ref t), (1, .int i)] := hl
  refine lv_iload_n hx hb dX11_at_0 rfl (lv_at hl 1 rfl) ?_
  refine lv_if_lt (tgt := 16) hx hb dX11_at_1 (by decide) (fun c1 => ?_) (fun c1 => ?_)
  · refine lv_iconst (v := (0 : Int32)) hx hb dX11_at_16 (by decide) ?_
    exact W.zret hx hb hr rfl (fun t ht hW => ⟨_, rfl, (if_pos c1).symm, ht⟩) (fun q h => by cases h) dX11_at_17
  · refine lv_iload_n hx hb dX11_at_4 rfl (lv_at hl 1 rfl) ?_
    refine lv_aload_n hx hb dX11_at_5 rfl (lv_at hl 0 rfl) ?_
    refine va_tlen hx hb hT hS (v := nI 4) rfl dX11_at_6 ?_
    refine lv_icmp_ge (tgt := 16) hx hb dX11_at_7 (by decide) (fun c4 => ?_) (fun c4 => ?_)
    · refine lv_iconst (v := (0 : Int32)) hx hb dX11_at_16 (by decide) ?_
      exact W.zret hx hb hr rfl (fun t ht hW => ⟨_, rfl, ((if_neg c1).trans (if_pos c4)).symm, ht⟩) (fun q h => by cases h) dX11_at_17
    · refine lv_aload_n hx hb dX11_at_10 rfl (lv_at hl 0 rfl) ?_
      refine lv_iload_n hx hb dX11_at_11 rfl (lv_at hl 1 rfl) ?_
      refine va_ti hx hb hT hS (v := .int (fb_bf i.toNatClampNeg)) (fb_ir (by decide) c1 c4) rfl dX11_at_12 ?_
      refine lv_goto (tgt := 17) hx hb dX11_at_13 (by decide) ?_
      exact W.zret hx hb hr rfl (fun t ht hW => ⟨_, rfl, ((if_neg c1).trans (if_neg c4)).symm, ht⟩) (fun q h => by cases h) dX11_at_17
theorem fb_atS {p : Program} {l : Launch} {e : Env} {R : Room} {s : State} {m : MethodId} {args : Array Value} {below : List Frame} {meth : Method} {c : Code} {H : Heap} {locs : List Loc} {cells slots : Nat} {Q : State → Prop} {cc : ByteArray} {own : String} {nL : Nat} {ret : Option FieldType} {D : va_G} {tys : List (ClassId × FieldType)} {A : Nat → Prop} {ws : va_W} {pc : Nat} {ls : Array Slot} {lv : List (Nat × Value)} {rest : List Value} {tS index : Nat} {i : Int32}
    (X : fb_Bx p s m args meth c cc own nL ret D tys A) (I : fb_In D A s.heap ws H locs) (hl : lv_has ls nL lv) (hT : va_T .int tS 4 (fun j => .int (fb_bf j)) A s s.heap) (hnest : (own, index, yX11_at, "FerriteBoard") ∈ fb_nM) (hrest : (rest.map fun v => v.category).sum ≤ 8) (hR : 1 ≤ R.frames ∧ 8 + (2 + 11) ≤ R.locals) (hcl : cells ≤ R.cells ∧ slots ≤ R.slots) (hdg : decode cc pc = .ok (.invokestatic index, 3))
    (kk : W p l e R s m args below meth c H locs cells slots Q (F0 m (pc + 3) ls (.int (f_X11_at 4 fb_bf i) :: rest))) : W p l e R s m args below meth c H locs cells slots Q (F0 m pc ls (.int i :: .ref tS :: rest)) := by
  obtain ⟨hx, hb, hr, hml, hown, hts, hlk, hA, hK, hF⟩ := X
  refine fb_csi (va_runSN (As := [.ref tS, .int i]) (rest := rest) ⟨hx, hb, hml, hown, hts⟩ (c_atS l tS i) ⟨va_cnB 2 hts (fb_goodC fw_686) rfl rfl rfl (hK.2.use hnest) (hts _ fw_191) (by decide +kernel) hR, hts _ fw_685, trivial⟩ ⟨fun a U g mk q => ?_, fun U hU hW => ?_⟩ rfl rfl hl.1 rfl (lv_room hrest) hdg hcl) (fun r h => by subst h; exact kk)
  · obtain ⟨q0, q1⟩ := q
    exact ⟨q0, va_T.moved (u := U) (U := U.calling g mk a) (Vm.Alike.refl U.vm) q1⟩
  · subst hU
    exact ⟨rfl, va_T.narrow (va_T.kept (va_T.moved hW.alike hT) I.2.2.2.1) (fun _ h => h.elim)⟩

/-! X11_put -/
def f_X11_put (zN : Nat) (zf : fb_AR) (l1 : Int32) (l2 : Int32) : fb_AR := (if l1 < 0 then zf else (if (nI zN) ≤ l1 then zf else (upd zf (l1).toNatClampNeg l2)))
set_option maxHeartbeats 4000000 in
set_option maxRecDepth 100000 in
theorem b_X11_put_0 {p : Program} {l : Launch} {e : Env} {s : State} {m : MethodId} {args : Array Value} {below : List Frame} {meth : Method} {c : Code} {D : va_G} {cI cJ : ClassId} {A : Nat → Prop} {za : Nat} {zN : Nat} {z : fb_AR} (X : fb_Bx p s m args meth c cX11_put RX11 3 none D (fb_ty D cI cJ) A) {zf : fb_AR} {l1 : Int32} {l2 : Int32} {H : Heap} {locs : List Loc} {ls : Array Slot} (hN : zN < 2 ^ 31) (I : fb_In D A s.heap ((fb_aw cI za zN zf)) H locs) (hl : lv_has ls 3 [(0, .ref za), (1, .int l1), (2, .int l2)]) (E : z = f_X11_put zN zf l1 l2) : W p l e ({ frames := 0, cells := 0, slots := 0, locals := 0 } : Room) s m args below meth c H locs 0 0 (MQ below (fb_QV D A (fun (_ : Unit) => True) (fun (t : Unit) => (fb_aw cI za zN (z)))) args s 0 0 A) (F0 m 0 ls []) := by
  obtain ⟨hx, hb, hr, hml, hown, hts, hlk, hA, hK, hF⟩ := id X
  refine lv_iload_n hx hb dX11_put_0 rfl (lv_at hl 1 rfl) ?_
  refine lv_if_lt (tgt := 14) hx hb dX11_put_1 (by decide) (fun c1 => ?_) (fun c1 => ?_)
  · have E2 := (E.trans (if_pos c1))
    subst E2
    exact fb_retV (u := ()) X I trivial dX11_put_14
  · have E3 := (E.trans (if_neg c1))
    refine lv_iload_n hx hb dX11_put_4 rfl (lv_at hl 1 rfl) ?_
    refine lv_aload_n hx hb dX11_put_5 rfl (lv_at hl 0 rfl) ?_
    refine fb_alen (v := nI zN) X I 0 0 rfl rfl rfl dX11_put_6 ?_
    refine lv_icmp_ge (tgt := 14) hx hb dX11_put_7 (by decide) (fun c4 => ?_) (fun c4 => ?_)
    · have E5 := (E3.trans (if_pos c4))
      subst E5
      exact fb_retV (u := ()) X I trivial dX11_put_14
    · have E6 := (E3.trans (if_neg c4))
      refine lv_aload_n hx hb dX11_put_10 rfl (lv_at hl 0 rfl) ?_
      refine lv_iload_n hx hb dX11_put_11 rfl (lv_at hl 1 rfl) ?_
      refine lv_iload_n hx hb dX11_put_12 rfl (lv_at hl 2 rfl) ?_
      refine fb_iast (wn := (fb_aw cI za zN (upd zf (l1).toNatClampNeg l2))) X I (i := l1) 0 0 rfl rfl (fb_ir hN c1 c4) rfl dX11_put_13 (fun H locs I => ?_)
      subst E6
      exact fb_retV (u := ()) X I trivial dX11_put_14
set_option maxHeartbeats 4000000 in
set_option maxRecDepth 100000 in
theorem c_X11_put (l : Launch) (D : va_G) (cI cJ : ClassId) (za : Nat) (zN : Nat) (zf : fb_AR) (l1 : Int32) (l2 : Int32) (sz : Nat) (hN : zN < 2 ^ 31) : Met l yX11_put (Cond.code yX11_put cX11_put 3 none :: fb_all) ({ frames := 0, cells := 0, slots := 0, locals := 0 } : Room) (fb_PP D (fb_ty D cI cJ) [.ref za, .int l1, .int l2] ((fb_aw cI za zN zf)) sz) (fb_QV D (va_A ((fb_aw cI za zN zf)) sz) (fun (_ : Unit) => True) (fun (t : Unit) => (fb_aw cI za zN (((f_X11_put zN zf l1 l2)))))) 0 0 (va_A ((fb_aw cI za zN zf)) sz) := by
  refine fb_ent (Qf := fun A => (fb_QV D A (fun (_ : Unit) => True) (fun (t : Unit) => (fb_aw cI za zN (((f_X11_put zN zf l1 l2))))))) (by decide +kernel) (Nat.le_of_ble_eq_true rfl) ?_
  intro p e s m args below meth c A ls X I hl hin
  exact b_X11_put_0 X hN I hl rfl
/-! X11_isPort -/
def f_X11_isPort (l0 : Int32) : Int32 := (if l0 < (1792 : Int32) then (0 : Int32) else (if (2048 : Int32) ≤ l0 then (0 : Int32) else (1 : Int32)))
set_option maxHeartbeats 4000000 in
set_option maxRecDepth 100000 in
theorem b_X11_isPort_0 {p : Program} {l : Launch} {e : Env} {s : State} {m : MethodId} {args : Array Value} {below : List Frame} {meth : Method} {c : Code} {D : va_G} {cI cJ : ClassId} {A : Nat → Prop}  {z : Int32} (X : fb_Bx p s m args meth c cX11_isPort RX11 1 (some .boolean) D (fb_ty D cI cJ) A) {l0 : Int32} {ls : Array Slot}  (I : fb_In D A s.heap (([] : va_W)) s.heap []) (hl : lv_has ls 1 [(0, .int l0)]) (E : z = f_X11_isPort l0) : W p l e ({ frames := 0, cells := 0, slots := 0, locals := 0 } : Room) s m args below meth c s.heap [] 0 0 (MQ below (vp_Si (fun r => r = z)) args s 0 0 (fun _ => False)) (F0 m 0 ls []) := by
  obtain ⟨hx, hb, hr, hml, hown, hts, hlk, hA, hK, hF⟩ := id X
  refine lv_iload_n hx hb dX11_isPort_0 rfl (lv_at hl 0 rfl) ?_
  refine lv_sipush (v := (1792 : Int32)) hx hb dX11_isPort_1 (by decide) ?_
  refine lv_icmp_lt (tgt := 18) hx hb dX11_isPort_4 (by decide) (fun c1 => ?_) (fun c1 => ?_)
  · have E2 := (E.trans (if_pos c1))
    refine lv_iconst (v := (0 : Int32)) hx hb dX11_isPort_18 (by decide) ?_
    exact fb_retRI X E2 rfl dX11_isPort_19
  · have E3 := (E.trans (if_neg c1))
    refine lv_iload_n hx hb dX11_isPort_7 rfl (lv_at hl 0 rfl) ?_
    refine lv_sipush (v := (2048 : Int32)) hx hb dX11_isPort_8 (by decide) ?_
    refine lv_icmp_ge (tgt := 18) hx hb dX11_isPort_11 (by decide) (fun c4 => ?_) (fun c4 => ?_)
    · have E5 := (E3.trans (if_pos c4))
      refine lv_iconst (v := (0 : Int32)) hx hb dX11_isPort_18 (by decide) ?_
      exact fb_retRI X E5 rfl dX11_isPort_19
    · have E6 := (E3.trans (if_neg c4))
      refine lv_iconst (v := (1 : Int32)) hx hb dX11_isPort_14 (by decide) ?_
      refine lv_goto (tgt := 19) hx hb dX11_isPort_15 (by decide) ?_
      exact fb_retRI X E6 rfl dX11_isPort_19
set_option maxHeartbeats 4000000 in
set_option maxRecDepth 100000 in
theorem c_X11_isPort (l : Launch) (D : va_G) (cI cJ : ClassId)  (l0 : Int32) (sz : Nat)  : Met l yX11_isPort (Cond.code yX11_isPort cX11_isPort 1 (some .boolean) :: fb_all) ({ frames := 0, cells := 0, slots := 0, locals := 0 } : Room) (fb_PP D (fb_ty D cI cJ) [.int l0] (([] : va_W)) sz) (vp_Si (fun r => r = ((f_X11_isPort l0)))) 0 0 (fun _ => False) := by
  refine fb_entR (by decide +kernel) (Nat.le_of_ble_eq_true rfl) ?_
  intro p e s m args below meth c A ls X I hl hin
  exact b_X11_isPort_0 X  I hl rfl
/-! X11_isNoAddress -/
def f_X11_isNoAddress (l0 : Int32) : Int32 := (if l0 < 0 then (1 : Int32) else (if l0 ≤ (4095 : Int32) then (0 : Int32) else (1 : Int32)))
set_option maxHeartbeats 4000000 in
set_option maxRecDepth 100000 in
theorem b_X11_isNoAddress_0 {p : Program} {l : Launch} {e : Env} {s : State} {m : MethodId} {args : Array Value} {below : List Frame} {meth : Method} {c : Code} {D : va_G} {cI cJ : ClassId} {A : Nat → Prop}  {z : Int32} (X : fb_Bx p s m args meth c cX11_isNoAddress RX11 1 (some .boolean) D (fb_ty D cI cJ) A) {l0 : Int32} {ls : Array Slot}  (I : fb_In D A s.heap (([] : va_W)) s.heap []) (hl : lv_has ls 1 [(0, .int l0)]) (E : z = f_X11_isNoAddress l0) : W p l e ({ frames := 0, cells := 0, slots := 0, locals := 0 } : Room) s m args below meth c s.heap [] 0 0 (MQ below (vp_Si (fun r => r = z)) args s 0 0 (fun _ => False)) (F0 m 0 ls []) := by
  obtain ⟨hx, hb, hr, hml, hown, hts, hlk, hA, hK, hF⟩ := id X
  refine lv_iload_n hx hb dX11_isNoAddress_0 rfl (lv_at hl 0 rfl) ?_
  refine lv_if_lt (tgt := 11) hx hb dX11_isNoAddress_1 (by decide) (fun c1 => ?_) (fun c1 => ?_)
  · have E2 := (E.trans (if_pos c1))
    refine lv_iconst (v := (1 : Int32)) hx hb dX11_isNoAddress_11 (by decide) ?_
    refine lv_goto (tgt := 16) hx hb dX11_isNoAddress_12 (by decide) ?_
    exact fb_retRI X E2 rfl dX11_isNoAddress_16
  · have E3 := (E.trans (if_neg c1))
    refine lv_iload_n hx hb dX11_isNoAddress_4 rfl (lv_at hl 0 rfl) ?_
    refine lv_sipush (v := (4095 : Int32)) hx hb dX11_isNoAddress_5 (by decide) ?_
    refine lv_icmp_le (tgt := 15) hx hb dX11_isNoAddress_8 (by decide) (fun c4 => ?_) (fun c4 => ?_)
    · have E5 := (E3.trans (if_pos c4))
      refine lv_iconst (v := (0 : Int32)) hx hb dX11_isNoAddress_15 (by decide) ?_
      exact fb_retRI X E5 rfl dX11_isNoAddress_16
    · have E6 := (E3.trans (if_neg c4))
      refine lv_iconst (v := (1 : Int32)) hx hb dX11_isNoAddress_11 (by decide) ?_
      refine lv_goto (tgt := 16) hx hb dX11_isNoAddress_12 (by decide) ?_
      exact fb_retRI X E6 rfl dX11_isNoAddress_16
set_option maxHeartbeats 4000000 in
set_option maxRecDepth 100000 in
theorem c_X11_isNoAddress (l : Launch) (D : va_G) (cI cJ : ClassId)  (l0 : Int32) (sz : Nat)  : Met l yX11_isNoAddress (Cond.code yX11_isNoAddress cX11_isNoAddress 1 (some .boolean) :: fb_all) ({ frames := 0, cells := 0, slots := 0, locals := 0 } : Room) (fb_PP D (fb_ty D cI cJ) [.int l0] (([] : va_W)) sz) (vp_Si (fun r => r = ((f_X11_isNoAddress l0)))) 0 0 (fun _ => False) := by
  refine fb_entR (by decide +kernel) (Nat.le_of_ble_eq_true rfl) ?_
  intro p e s m args below meth c A ls X I hl hin
  exact b_X11_isNoAddress_0 X  I hl rfl
/-! X11_isNoByte -/
def f_X11_isNoByte (l0 : Int32) : Int32 := (if l0 < 0 then (1 : Int32) else (if l0 ≤ (255 : Int32) then (0 : Int32) else (1 : Int32)))
set_option maxHeartbeats 4000000 in
set_option maxRecDepth 100000 in
theorem b_X11_isNoByte_0 {p : Program} {l : Launch} {e : Env} {s : State} {m : MethodId} {args : Array Value} {below : List Frame} {meth : Method} {c : Code} {D : va_G} {cI cJ : ClassId} {A : Nat → Prop}  {z : Int32} (X : fb_Bx p s m args meth c cX11_isNoByte RX11 1 (some .boolean) D (fb_ty D cI cJ) A) {l0 : Int32} {ls : Array Slot}  (I : fb_In D A s.heap (([] : va_W)) s.heap []) (hl : lv_has ls 1 [(0, .int l0)]) (E : z = f_X11_isNoByte l0) : W p l e ({ frames := 0, cells := 0, slots := 0, locals := 0 } : Room) s m args below meth c s.heap [] 0 0 (MQ below (vp_Si (fun r => r = z)) args s 0 0 (fun _ => False)) (F0 m 0 ls []) := by
  obtain ⟨hx, hb, hr, hml, hown, hts, hlk, hA, hK, hF⟩ := id X
  refine lv_iload_n hx hb dX11_isNoByte_0 rfl (lv_at hl 0 rfl) ?_
  refine lv_if_lt (tgt := 11) hx hb dX11_isNoByte_1 (by decide) (fun c1 => ?_) (fun c1 => ?_)
  · have E2 := (E.trans (if_pos c1))
    refine lv_iconst (v := (1 : Int32)) hx hb dX11_isNoByte_11 (by decide) ?_
    refine lv_goto (tgt := 16) hx hb dX11_isNoByte_12 (by decide) ?_
    exact fb_retRI X E2 rfl dX11_isNoByte_16
  · have E3 := (E.trans (if_neg c1))
    refine lv_iload_n hx hb dX11_isNoByte_4 rfl (lv_at hl 0 rfl) ?_
    refine lv_sipush (v := (255 : Int32)) hx hb dX11_isNoByte_5 (by decide) ?_
    refine lv_icmp_le (tgt := 15) hx hb dX11_isNoByte_8 (by decide) (fun c4 => ?_) (fun c4 => ?_)
    · have E5 := (E3.trans (if_pos c4))
      refine lv_iconst (v := (0 : Int32)) hx hb dX11_isNoByte_15 (by decide) ?_
      exact fb_retRI X E5 rfl dX11_isNoByte_16
    · have E6 := (E3.trans (if_neg c4))
      refine lv_iconst (v := (1 : Int32)) hx hb dX11_isNoByte_11 (by decide) ?_
      refine lv_goto (tgt := 16) hx hb dX11_isNoByte_12 (by decide) ?_
      exact fb_retRI X E6 rfl dX11_isNoByte_16
set_option maxHeartbeats 4000000 in
set_option maxRecDepth 100000 in
theorem c_X11_isNoByte (l : Launch) (D : va_G) (cI cJ : ClassId)  (l0 : Int32) (sz : Nat)  : Met l yX11_isNoByte (Cond.code yX11_isNoByte cX11_isNoByte 1 (some .boolean) :: fb_all) ({ frames := 0, cells := 0, slots := 0, locals := 0 } : Room) (fb_PP D (fb_ty D cI cJ) [.int l0] (([] : va_W)) sz) (vp_Si (fun r => r = ((f_X11_isNoByte l0)))) 0 0 (fun _ => False) := by
  refine fb_entR (by decide +kernel) (Nat.le_of_ble_eq_true rfl) ?_
  intro p e s m args below meth c A ls X I hl hin
  exact b_X11_isNoByte_0 X  I hl rfl
/-! X11_isNoSpan -/
def f_X11_isNoSpan (l0 : Int32) : Int32 := (if l0 < (1 : Int32) then (1 : Int32) else (if l0 ≤ (5000 : Int32) then (0 : Int32) else (1 : Int32)))
set_option maxHeartbeats 4000000 in
set_option maxRecDepth 100000 in
theorem b_X11_isNoSpan_0 {p : Program} {l : Launch} {e : Env} {s : State} {m : MethodId} {args : Array Value} {below : List Frame} {meth : Method} {c : Code} {D : va_G} {cI cJ : ClassId} {A : Nat → Prop}  {z : Int32} (X : fb_Bx p s m args meth c cX11_isNoSpan RX11 1 (some .boolean) D (fb_ty D cI cJ) A) {l0 : Int32} {ls : Array Slot}  (I : fb_In D A s.heap (([] : va_W)) s.heap []) (hl : lv_has ls 1 [(0, .int l0)]) (E : z = f_X11_isNoSpan l0) : W p l e ({ frames := 0, cells := 0, slots := 0, locals := 0 } : Room) s m args below meth c s.heap [] 0 0 (MQ below (vp_Si (fun r => r = z)) args s 0 0 (fun _ => False)) (F0 m 0 ls []) := by
  obtain ⟨hx, hb, hr, hml, hown, hts, hlk, hA, hK, hF⟩ := id X
  refine lv_iload_n hx hb dX11_isNoSpan_0 rfl (lv_at hl 0 rfl) ?_
  refine lv_iconst (v := (1 : Int32)) hx hb dX11_isNoSpan_1 (by decide) ?_
  refine lv_icmp_lt (tgt := 12) hx hb dX11_isNoSpan_2 (by decide) (fun c1 => ?_) (fun c1 => ?_)
  · have E2 := (E.trans (if_pos c1))
    refine lv_iconst (v := (1 : Int32)) hx hb dX11_isNoSpan_12 (by decide) ?_
    refine lv_goto (tgt := 17) hx hb dX11_isNoSpan_13 (by decide) ?_
    exact fb_retRI X E2 rfl dX11_isNoSpan_17
  · have E3 := (E.trans (if_neg c1))
    refine lv_iload_n hx hb dX11_isNoSpan_5 rfl (lv_at hl 0 rfl) ?_
    refine lv_sipush (v := (5000 : Int32)) hx hb dX11_isNoSpan_6 (by decide) ?_
    refine lv_icmp_le (tgt := 16) hx hb dX11_isNoSpan_9 (by decide) (fun c4 => ?_) (fun c4 => ?_)
    · have E5 := (E3.trans (if_pos c4))
      refine lv_iconst (v := (0 : Int32)) hx hb dX11_isNoSpan_16 (by decide) ?_
      exact fb_retRI X E5 rfl dX11_isNoSpan_17
    · have E6 := (E3.trans (if_neg c4))
      refine lv_iconst (v := (1 : Int32)) hx hb dX11_isNoSpan_12 (by decide) ?_
      refine lv_goto (tgt := 17) hx hb dX11_isNoSpan_13 (by decide) ?_
      exact fb_retRI X E6 rfl dX11_isNoSpan_17
set_option maxHeartbeats 4000000 in
set_option maxRecDepth 100000 in
theorem c_X11_isNoSpan (l : Launch) (D : va_G) (cI cJ : ClassId)  (l0 : Int32) (sz : Nat)  : Met l yX11_isNoSpan (Cond.code yX11_isNoSpan cX11_isNoSpan 1 (some .boolean) :: fb_all) ({ frames := 0, cells := 0, slots := 0, locals := 0 } : Room) (fb_PP D (fb_ty D cI cJ) [.int l0] (([] : va_W)) sz) (vp_Si (fun r => r = ((f_X11_isNoSpan l0)))) 0 0 (fun _ => False) := by
  refine fb_entR (by decide +kernel) (Nat.le_of_ble_eq_true rfl) ?_
  intro p e s m args below meth c A ls X I hl hin
  exact b_X11_isNoSpan_0 X  I hl rfl
/-! X11_signed -/
def f_X11_signed (l0 : Int32) : Int32 := (if (128 : Int32) ≤ l0 then (l0 - (256 : Int32)) else l0)
set_option maxHeartbeats 4000000 in
set_option maxRecDepth 100000 in
theorem b_X11_signed_0 {p : Program} {l : Launch} {e : Env} {s : State} {m : MethodId} {args : Array Value} {below : List Frame} {meth : Method} {c : Code} {D : va_G} {cI cJ : ClassId} {A : Nat → Prop}  {z : Int32} (X : fb_Bx p s m args meth c cX11_signed RX11 1 (some .int) D (fb_ty D cI cJ) A) {l0 : Int32} {ls : Array Slot}  (I : fb_In D A s.heap (([] : va_W)) s.heap []) (hl : lv_has ls 1 [(0, .int l0)]) (E : z = f_X11_signed l0) : W p l e ({ frames := 0, cells := 0, slots := 0, locals := 0 } : Room) s m args below meth c s.heap [] 0 0 (MQ below (vp_Si (fun r => r = z)) args s 0 0 (fun _ => False)) (F0 m 0 ls []) := by
  obtain ⟨hx, hb, hr, hml, hown, hts, hlk, hA, hK, hF⟩ := id X
  refine lv_iload_n hx hb dX11_signed_0 rfl (lv_at hl 0 rfl) ?_
  refine lv_sipush (v := (128 : Int32)) hx hb dX11_signed_1 (by decide) ?_
  refine lv_icmp_ge (tgt := 11) hx hb dX11_signed_4 (by decide) (fun c1 => ?_) (fun c1 => ?_)
  · have E2 := (E.trans (if_pos c1))
    refine lv_iload_n hx hb dX11_signed_11 rfl (lv_at hl 0 rfl) ?_
    refine lv_sipush (v := (256 : Int32)) hx hb dX11_signed_12 (by decide) ?_
    refine lv_isub hx hb dX11_signed_15 ?_
    exact fb_retRI X E2 rfl dX11_signed_16
  · have E3 := (E.trans (if_neg c1))
    refine lv_iload_n hx hb dX11_signed_7 rfl (lv_at hl 0 rfl) ?_
    refine lv_goto (tgt := 16) hx hb dX11_signed_8 (by decide) ?_
    exact fb_retRI X E3 rfl dX11_signed_16
set_option maxHeartbeats 4000000 in
set_option maxRecDepth 100000 in
theorem c_X11_signed (l : Launch) (D : va_G) (cI cJ : ClassId)  (l0 : Int32) (sz : Nat)  : Met l yX11_signed (Cond.code yX11_signed cX11_signed 1 (some .int) :: fb_all) ({ frames := 0, cells := 0, slots := 0, locals := 0 } : Room) (fb_PP D (fb_ty D cI cJ) [.int l0] (([] : va_W)) sz) (vp_Si (fun r => r = ((f_X11_signed l0)))) 0 0 (fun _ => False) := by
  refine fb_entR (by decide +kernel) (Nat.le_of_ble_eq_true rfl) ?_
  intro p e s m args below meth c A ls X I hl hin
  exact b_X11_signed_0 X  I hl rfl
/-! X11_placeOf -/
def f_X11_placeOf (l0 : Int32) (l1 : Int32) : Int32 := (if (1792 : Int32) ≤ l0 then (if (2048 : Int32) ≤ l0 then (if (3072 : Int32) ≤ l0 then (((9984 : Int32) + l0) - (3072 : Int32)) else ((((1792 : Int32) + (l1 * (1024 : Int32))) + l0) - (2048 : Int32))) else (-1 : Int32)) else l0)
set_option maxHeartbeats 4000000 in
set_option maxRecDepth 100000 in
theorem b_X11_placeOf_0 {p : Program} {l : Launch} {e : Env} {s : State} {m : MethodId} {args : Array Value} {below : List Frame} {meth : Method} {c : Code} {D : va_G} {cI cJ : ClassId} {A : Nat → Prop}  {z : Int32} (X : fb_Bx p s m args meth c cX11_placeOf RX11 2 (some .int) D (fb_ty D cI cJ) A) {l0 : Int32} {l1 : Int32} {ls : Array Slot}  (I : fb_In D A s.heap (([] : va_W)) s.heap []) (hl : lv_has ls 2 [(0, .int l0), (1, .int l1)]) (E : z = f_X11_placeOf l0 l1) : W p l e ({ frames := 0, cells := 0, slots := 0, locals := 0 } : Room) s m args below meth c s.heap [] 0 0 (MQ below (vp_Si (fun r => r = z)) args s 0 0 (fun _ => False)) (F0 m 0 ls []) := by
  obtain ⟨hx, hb, hr, hml, hown, hts, hlk, hA, hK, hF⟩ := id X
  refine lv_iload_n hx hb dX11_placeOf_0 rfl (lv_at hl 0 rfl) ?_
  refine lv_sipush (v := (1792 : Int32)) hx hb dX11_placeOf_1 (by decide) ?_
  refine lv_icmp_ge (tgt := 9) hx hb dX11_placeOf_4 (by decide) (fun c1 => ?_) (fun c1 => ?_)
  · have E2 := (E.trans (if_pos c1))
    refine lv_iload_n hx hb dX11_placeOf_9 rfl (lv_at hl 0 rfl) ?_
    refine lv_sipush (v := (2048 : Int32)) hx hb dX11_placeOf_10 (by decide) ?_
    refine lv_icmp_ge (tgt := 18) hx hb dX11_placeOf_13 (by decide) (fun c4 => ?_) (fun c4 => ?_)
    · have E5 := (E2.trans (if_pos c4))
      refine lv_iload_n hx hb dX11_placeOf_18 rfl (lv_at hl 0 rfl) ?_
      refine lv_sipush (v := (3072 : Int32)) hx hb dX11_placeOf_19 (by decide) ?_
      refine lv_icmp_ge (tgt := 41) hx hb dX11_placeOf_22 (by decide) (fun c7 => ?_) (fun c7 => ?_)
      · have E8 := (E5.trans (if_pos c7))
        refine lv_sipush (v := (9984 : Int32)) hx hb dX11_placeOf_41 (by decide) ?_
        refine lv_iload_n hx hb dX11_placeOf_44 rfl (lv_at hl 0 rfl) ?_
        refine lv_iadd hx hb dX11_placeOf_45 ?_
        refine lv_sipush (v := (3072 : Int32)) hx hb dX11_placeOf_46 (by decide) ?_
        refine lv_isub hx hb dX11_placeOf_49 ?_
        exact fb_retRI X E8 rfl dX11_placeOf_50
      · have E9 := (E5.trans (if_neg c7))
        refine lv_sipush (v := (1792 : Int32)) hx hb dX11_placeOf_25 (by decide) ?_
        refine lv_iload_n hx hb dX11_placeOf_28 rfl (lv_at hl 1 rfl) ?_
        refine lv_sipush (v := (1024 : Int32)) hx hb dX11_placeOf_29 (by decide) ?_
        refine lv_imul hx hb dX11_placeOf_32 ?_
        refine lv_iadd hx hb dX11_placeOf_33 ?_
        refine lv_iload_n hx hb dX11_placeOf_34 rfl (lv_at hl 0 rfl) ?_
        refine lv_iadd hx hb dX11_placeOf_35 ?_
        refine lv_sipush (v := (2048 : Int32)) hx hb dX11_placeOf_36 (by decide) ?_
        refine lv_isub hx hb dX11_placeOf_39 ?_
        exact fb_retRI X E9 rfl dX11_placeOf_40
    · have E6 := (E2.trans (if_neg c4))
      refine lv_iconst (v := (-1 : Int32)) hx hb dX11_placeOf_16 (by decide) ?_
      exact fb_retRI X E6 rfl dX11_placeOf_17
  · have E3 := (E.trans (if_neg c1))
    refine lv_iload_n hx hb dX11_placeOf_7 rfl (lv_at hl 0 rfl) ?_
    exact fb_retRI X E3 rfl dX11_placeOf_8
set_option maxHeartbeats 4000000 in
set_option maxRecDepth 100000 in
theorem c_X11_placeOf (l : Launch) (D : va_G) (cI cJ : ClassId)  (l0 : Int32) (l1 : Int32) (sz : Nat)  : Met l yX11_placeOf (Cond.code yX11_placeOf cX11_placeOf 2 (some .int) :: fb_all) ({ frames := 0, cells := 0, slots := 0, locals := 0 } : Room) (fb_PP D (fb_ty D cI cJ) [.int l0, .int l1] (([] : va_W)) sz) (vp_Si (fun r => r = ((f_X11_placeOf l0 l1)))) 0 0 (fun _ => False) := by
  refine fb_entR (by decide +kernel) (Nat.le_of_ble_eq_true rfl) ?_
  intro p e s m args below meth c A ls X I hl hin
  exact b_X11_placeOf_0 X  I hl rfl
/-! X11_hasMode -/
def f_X11_hasMode (l0 : Int32) (l1 : Int32) : Int32 := (if l0 < (24 : Int32) then (if (16 : Int32) ≤ l0 then (if l1 < (2 : Int32) then (0 : Int32) else (if (6 : Int32) < l1 then (0 : Int32) else (1 : Int32))) else (if l1 < (1 : Int32) then (0 : Int32) else (if (6 : Int32) < l1 then (0 : Int32) else (1 : Int32)))) else (if l1 < (3 : Int32) then (0 : Int32) else (if (5 : Int32) < l1 then (0 : Int32) else (1 : Int32))))
set_option maxHeartbeats 4000000 in
set_option maxRecDepth 100000 in
theorem b_X11_hasMode_0 {p : Program} {l : Launch} {e : Env} {s : State} {m : MethodId} {args : Array Value} {below : List Frame} {meth : Method} {c : Code} {D : va_G} {cI cJ : ClassId} {A : Nat → Prop}  {z : Int32} (X : fb_Bx p s m args meth c cX11_hasMode RX11 3 (some .boolean) D (fb_ty D cI cJ) A) {l0 : Int32} {l1 : Int32} {ls : Array Slot}  (I : fb_In D A s.heap (([] : va_W)) s.heap []) (hl : lv_has ls 3 [(0, .int l0), (1, .int l1)]) (E : z = f_X11_hasMode l0 l1) : W p l e ({ frames := 0, cells := 0, slots := 0, locals := 0 } : Room) s m args below meth c s.heap [] 0 0 (MQ below (vp_Si (fun r => r = z)) args s 0 0 (fun _ => False)) (F0 m 0 ls []) := by
  obtain ⟨hx, hb, hr, hml, hown, hts, hlk, hA, hK, hF⟩ := id X
  refine lv_iload_n hx hb dX11_hasMode_0 rfl (lv_at hl 0 rfl) ?_
  refine lv_bipush (v := (24 : Int32)) hx hb dX11_hasMode_1 (by decide) ?_
  refine lv_icmp_lt (tgt := 22) hx hb dX11_hasMode_3 (by decide) (fun c1 => ?_) (fun c1 => ?_)
  · have E2 := (E.trans (if_pos c1))
    refine lv_iload_n hx hb dX11_hasMode_22 rfl (lv_at hl 0 rfl) ?_
    refine lv_bipush (v := (16 : Int32)) hx hb dX11_hasMode_23 (by decide) ?_
    refine lv_icmp_ge (tgt := 32) hx hb dX11_hasMode_25 (by decide) (fun c4 => ?_) (fun c4 => ?_)
    · have E5 := (E2.trans (if_pos c4))
      refine lv_iconst (v := (2 : Int32)) hx hb dX11_hasMode_32 (by decide) ?_
      refine lv_istore_n (lv' := [(2, .int (2 : Int32)), (0, .int l0), (1, .int l1)]) hx hb dX11_hasMode_33 rfl hl (by decide) rfl (fun ls hl => ?_)
      refine lv_iload_n hx hb dX11_hasMode_34 rfl (lv_at hl 2 rfl) ?_
      refine lv_iload_n hx hb dX11_hasMode_35 rfl (lv_at hl 0 rfl) ?_
      refine lv_icmp_lt (tgt := 49) hx hb dX11_hasMode_36 (by decide) (fun c7 => ?_) (fun c7 => ?_)
      · have E8 := (E5.trans (if_pos c7))
        refine lv_iconst (v := (0 : Int32)) hx hb dX11_hasMode_49 (by decide) ?_
        exact fb_retRI X E8 rfl dX11_hasMode_50
      · have E9 := (E5.trans (if_neg c7))
        refine lv_iload_n hx hb dX11_hasMode_39 rfl (lv_at hl 2 rfl) ?_
        refine lv_bipush (v := (6 : Int32)) hx hb dX11_hasMode_40 (by decide) ?_
        refine lv_icmp_gt (tgt := 49) hx hb dX11_hasMode_42 (by decide) (fun c10 => ?_) (fun c10 => ?_)
        · have E11 := (E9.trans (if_pos c10))
          refine lv_iconst (v := (0 : Int32)) hx hb dX11_hasMode_49 (by decide) ?_
          exact fb_retRI X E11 rfl dX11_hasMode_50
        · have E12 := (E9.trans (if_neg c10))
          refine lv_iconst (v := (1 : Int32)) hx hb dX11_hasMode_45 (by decide) ?_
          refine lv_goto (tgt := 50) hx hb dX11_hasMode_46 (by decide) ?_
          exact fb_retRI X E12 rfl dX11_hasMode_50
    · have E6 := (E2.trans (if_neg c4))
      refine lv_iconst (v := (1 : Int32)) hx hb dX11_hasMode_28 (by decide) ?_
      refine lv_goto (tgt := 33) hx hb dX11_hasMode_29 (by decide) ?_
      refine lv_istore_n (lv' := [(2, .int (1 : Int32)), (0, .int l0), (1, .int l1)]) hx hb dX11_hasMode_33 rfl hl (by decide) rfl (fun ls hl => ?_)
      refine lv_iload_n hx hb dX11_hasMode_34 rfl (lv_at hl 2 rfl) ?_
      refine lv_iload_n hx hb dX11_hasMode_35 rfl (lv_at hl 0 rfl) ?_
      refine lv_icmp_lt (tgt := 49) hx hb dX11_hasMode_36 (by decide) (fun c13 => ?_) (fun c13 => ?_)
      · have E14 := (E6.trans (if_pos c13))
        refine lv_iconst (v := (0 : Int32)) hx hb dX11_hasMode_49 (by decide) ?_
        exact fb_retRI X E14 rfl dX11_hasMode_50
      · have E15 := (E6.trans (if_neg c13))
        refine lv_iload_n hx hb dX11_hasMode_39 rfl (lv_at hl 2 rfl) ?_
        refine lv_bipush (v := (6 : Int32)) hx hb dX11_hasMode_40 (by decide) ?_
        refine lv_icmp_gt (tgt := 49) hx hb dX11_hasMode_42 (by decide) (fun c16 => ?_) (fun c16 => ?_)
        · have E17 := (E15.trans (if_pos c16))
          refine lv_iconst (v := (0 : Int32)) hx hb dX11_hasMode_49 (by decide) ?_
          exact fb_retRI X E17 rfl dX11_hasMode_50
        · have E18 := (E15.trans (if_neg c16))
          refine lv_iconst (v := (1 : Int32)) hx hb dX11_hasMode_45 (by decide) ?_
          refine lv_goto (tgt := 50) hx hb dX11_hasMode_46 (by decide) ?_
          exact fb_retRI X E18 rfl dX11_hasMode_50
  · have E3 := (E.trans (if_neg c1))
    refine lv_iload_n hx hb dX11_hasMode_6 rfl (lv_at hl 1 rfl) ?_
    refine lv_iconst (v := (3 : Int32)) hx hb dX11_hasMode_7 (by decide) ?_
    refine lv_icmp_lt (tgt := 20) hx hb dX11_hasMode_8 (by decide) (fun c19 => ?_) (fun c19 => ?_)
    · have E20 := (E3.trans (if_pos c19))
      refine lv_iconst (v := (0 : Int32)) hx hb dX11_hasMode_20 (by decide) ?_
      exact fb_retRI X E20 rfl dX11_hasMode_21
    · have E21 := (E3.trans (if_neg c19))
      refine lv_iload_n hx hb dX11_hasMode_11 rfl (lv_at hl 1 rfl) ?_
      refine lv_iconst (v := (5 : Int32)) hx hb dX11_hasMode_12 (by decide) ?_
      refine lv_icmp_gt (tgt := 20) hx hb dX11_hasMode_13 (by decide) (fun c22 => ?_) (fun c22 => ?_)
      · have E23 := (E21.trans (if_pos c22))
        refine lv_iconst (v := (0 : Int32)) hx hb dX11_hasMode_20 (by decide) ?_
        exact fb_retRI X E23 rfl dX11_hasMode_21
      · have E24 := (E21.trans (if_neg c22))
        refine lv_iconst (v := (1 : Int32)) hx hb dX11_hasMode_16 (by decide) ?_
        refine lv_goto (tgt := 21) hx hb dX11_hasMode_17 (by decide) ?_
        exact fb_retRI X E24 rfl dX11_hasMode_21
set_option maxHeartbeats 4000000 in
set_option maxRecDepth 100000 in
theorem c_X11_hasMode (l : Launch) (D : va_G) (cI cJ : ClassId)  (l0 : Int32) (l1 : Int32) (sz : Nat)  : Met l yX11_hasMode (Cond.code yX11_hasMode cX11_hasMode 3 (some .boolean) :: fb_all) ({ frames := 0, cells := 0, slots := 0, locals := 0 } : Room) (fb_PP D (fb_ty D cI cJ) [.int l0, .int l1] (([] : va_W)) sz) (vp_Si (fun r => r = ((f_X11_hasMode l0 l1)))) 0 0 (fun _ => False) := by
  refine fb_entR (by decide +kernel) (Nat.le_of_ble_eq_true rfl) ?_
  intro p e s m args below meth c A ls X I hl hin
  exact b_X11_hasMode_0 X  I hl rfl
/-! X11_lengthOf -/
def f_X11_lengthOf (l0 : Int32) : Int32 := (if (4 : Int32) ≤ (l0 >>> ((3 : Int32) &&& 31)) then (if l0 < (208 : Int32) then (if (f_X11_hasMode (l0 >>> ((3 : Int32) &&& 31)) (l0 &&& (7 : Int32))) = 0 then (0 : Int32) else (if (l0 &&& (7 : Int32)) = (3 : Int32) then (3 : Int32) else (if (l0 &&& (7 : Int32)) = (4 : Int32) then (3 : Int32) else (2 : Int32)))) else (if (217 : Int32) < l0 then (0 : Int32) else (2 : Int32))) else (1 : Int32))
set_option maxHeartbeats 4000000 in
set_option maxRecDepth 100000 in
theorem b_X11_lengthOf_0 {p : Program} {l : Launch} {e : Env} {s : State} {m : MethodId} {args : Array Value} {below : List Frame} {meth : Method} {c : Code} {D : va_G} {cI cJ : ClassId} {A : Nat → Prop}  {z : Int32} (X : fb_Bx p s m args meth c cX11_lengthOf RX11 3 (some .int) D (fb_ty D cI cJ) A) {l0 : Int32} {ls : Array Slot}  (I : fb_In D A s.heap (([] : va_W)) s.heap []) (hl : lv_has ls 3 [(0, .int l0)]) (E : z = f_X11_lengthOf l0) : W p l e ({ frames := 1, cells := 0, slots := 0, locals := 22 } : Room) s m args below meth c s.heap [] 0 0 (MQ below (vp_Si (fun r => r = z)) args s 0 0 (fun _ => False)) (F0 m 0 ls []) := by
  obtain ⟨hx, hb, hr, hml, hown, hts, hlk, hA, hK, hF⟩ := id X
  refine lv_iload_n hx hb dX11_lengthOf_0 rfl (lv_at hl 0 rfl) ?_
  refine lv_iconst (v := (3 : Int32)) hx hb dX11_lengthOf_1 (by decide) ?_
  refine lv_ishr hx hb dX11_lengthOf_2 ?_
  refine lv_istore_n (lv' := [(1, .int (l0 >>> ((3 : Int32) &&& 31))), (0, .int l0)]) hx hb dX11_lengthOf_3 rfl hl (by decide) rfl (fun ls hl => ?_)
  refine lv_iload_n hx hb dX11_lengthOf_4 rfl (lv_at hl 1 rfl) ?_
  refine lv_bipush (v := (7 : Int32)) hx hb dX11_lengthOf_5 (by decide) ?_
  refine lv_iand hx hb dX11_lengthOf_7 ?_
  refine lv_istore_n (lv' := [(2, .int (l0 &&& (7 : Int32))), (1, .int (l0 >>> ((3 : Int32) &&& 31))), (0, .int l0)]) hx hb dX11_lengthOf_8 rfl hl (by decide) rfl (fun ls hl => ?_)
  refine lv_iload_n hx hb dX11_lengthOf_9 rfl (lv_at hl 1 rfl) ?_
  refine lv_iconst (v := (4 : Int32)) hx hb dX11_lengthOf_10 (by decide) ?_
  refine lv_icmp_ge (tgt := 16) hx hb dX11_lengthOf_11 (by decide) (fun c1 => ?_) (fun c1 => ?_)
  · have E2 := (E.trans (if_pos c1))
    refine lv_iload_n hx hb dX11_lengthOf_16 rfl (lv_at hl 2 rfl) ?_
    refine lv_sipush (v := (208 : Int32)) hx hb dX11_lengthOf_17 (by decide) ?_
    refine lv_icmp_lt (tgt := 36) hx hb dX11_lengthOf_20 (by decide) (fun c4 => ?_) (fun c4 => ?_)
    · have E5 := (E2.trans (if_pos c4))
      refine lv_iload_n hx hb dX11_lengthOf_36 rfl (lv_at hl 1 rfl) ?_
      refine lv_iload_n hx hb dX11_lengthOf_37 rfl (lv_at hl 0 rfl) ?_
      refine fb_roI X I (fb_runS (As := [.int (l0 >>> ((3 : Int32) &&& 31)), .int (l0 &&& (7 : Int32))]) (rest := []) X I hl (c_X11_hasMode l D cI cJ (l0 >>> ((3 : Int32) &&& 31)) (l0 &&& (7 : Int32)) _) (fb_goodS fw_1060 fw_1055 fw_191 fw_1056) rfl rfl (by decide +kernel : fb_hd yX11_hasMode 2) ⟨Nat.le_of_ble_eq_true rfl, Nat.le_of_ble_eq_true rfl⟩ [] (by decide) rfl rfl rfl (Nat.le_of_ble_eq_true rfl) ⟨Nat.zero_le _, Nat.zero_le _⟩ dX11_lengthOf_38) ?_
      refine lv_if_ne (tgt := 46) hx hb dX11_lengthOf_41 (by decide) (fun c7 => ?_) (fun c7 => ?_)
      · have E8 := (E5.trans (if_neg c7))
        refine lv_iload_n hx hb dX11_lengthOf_46 rfl (lv_at hl 0 rfl) ?_
        refine lv_iconst (v := (3 : Int32)) hx hb dX11_lengthOf_47 (by decide) ?_
        refine lv_icmp_eq (tgt := 56) hx hb dX11_lengthOf_48 (by decide) (fun c10 => ?_) (fun c10 => ?_)
        · have E11 := (E8.trans (if_pos c10))
          refine lv_iconst (v := (3 : Int32)) hx hb dX11_lengthOf_56 (by decide) ?_
          refine lv_goto (tgt := 61) hx hb dX11_lengthOf_57 (by decide) ?_
          exact fb_retRI X E11 rfl dX11_lengthOf_61
        · have E12 := (E8.trans (if_neg c10))
          refine lv_iload_n hx hb dX11_lengthOf_51 rfl (lv_at hl 0 rfl) ?_
          refine lv_iconst (v := (4 : Int32)) hx hb dX11_lengthOf_52 (by decide) ?_
          refine lv_icmp_ne (tgt := 60) hx hb dX11_lengthOf_53 (by decide) (fun c13 => ?_) (fun c13 => ?_)
          · have E14 := (E12.trans (if_neg c13))
            refine lv_iconst (v := (2 : Int32)) hx hb dX11_lengthOf_60 (by decide) ?_
            exact fb_retRI X E14 rfl dX11_lengthOf_61
          · have E15 := (E12.trans (if_pos c13))
            refine lv_iconst (v := (3 : Int32)) hx hb dX11_lengthOf_56 (by decide) ?_
            refine lv_goto (tgt := 61) hx hb dX11_lengthOf_57 (by decide) ?_
            exact fb_retRI X E15 rfl dX11_lengthOf_61
      · have E9 := (E5.trans (if_pos c7))
        refine lv_iconst (v := (0 : Int32)) hx hb dX11_lengthOf_44 (by decide) ?_
        exact fb_retRI X E9 rfl dX11_lengthOf_45
    · have E6 := (E2.trans (if_neg c4))
      refine lv_iload_n hx hb dX11_lengthOf_23 rfl (lv_at hl 2 rfl) ?_
      refine lv_sipush (v := (217 : Int32)) hx hb dX11_lengthOf_24 (by decide) ?_
      refine lv_icmp_gt (tgt := 34) hx hb dX11_lengthOf_27 (by decide) (fun c16 => ?_) (fun c16 => ?_)
      · have E17 := (E6.trans (if_pos c16))
        refine lv_iconst (v := (0 : Int32)) hx hb dX11_lengthOf_34 (by decide) ?_
        exact fb_retRI X E17 rfl dX11_lengthOf_35
      · have E18 := (E6.trans (if_neg c16))
        refine lv_iconst (v := (2 : Int32)) hx hb dX11_lengthOf_30 (by decide) ?_
        refine lv_goto (tgt := 35) hx hb dX11_lengthOf_31 (by decide) ?_
        exact fb_retRI X E18 rfl dX11_lengthOf_35
  · have E3 := (E.trans (if_neg c1))
    refine lv_iconst (v := (1 : Int32)) hx hb dX11_lengthOf_14 (by decide) ?_
    exact fb_retRI X E3 rfl dX11_lengthOf_15
set_option maxHeartbeats 4000000 in
set_option maxRecDepth 100000 in
theorem c_X11_lengthOf (l : Launch) (D : va_G) (cI cJ : ClassId)  (l0 : Int32) (sz : Nat)  : Met l yX11_lengthOf (Cond.code yX11_lengthOf cX11_lengthOf 3 (some .int) :: fb_all) ({ frames := 1, cells := 0, slots := 0, locals := 22 } : Room) (fb_PP D (fb_ty D cI cJ) [.int l0] (([] : va_W)) sz) (vp_Si (fun r => r = ((f_X11_lengthOf l0)))) 0 0 (fun _ => False) := by
  refine fb_entR (by decide +kernel) (Nat.le_of_ble_eq_true rfl) ?_
  intro p e s m args below meth c A ls X I hl hin
  exact b_X11_lengthOf_0 X  I hl rfl
/-! X5_wanting -/
def f_X5_wanting (zp : fb_PS) : Int32 := (((zp).1 4) &&& ((zp).1 3))
set_option maxHeartbeats 4000000 in
set_option maxRecDepth 100000 in
theorem b_X5_wanting_0 {p : Program} {l : Launch} {e : Env} {s : State} {m : MethodId} {args : Array Value} {below : List Frame} {meth : Method} {c : Code} {D : va_G} {cI cJ : ClassId} {A : Nat → Prop} {zq : Nat → Nat} {z : Int32} (X : fb_Bx p s m args meth c cX5_wanting RX5 1 (some .int) D (fb_ty D cI cJ) A) {zp : fb_PS} {ls : Array Slot}  (I : fb_In D A s.heap ((fb_pw cI zq zp)) s.heap []) (hl : lv_has ls 1 [(0, .ref (zq 5))]) (E : z = f_X5_wanting zp) : W p l e ({ frames := 0, cells := 0, slots := 0, locals := 0 } : Room) s m args below meth c s.heap [] 0 0 (MQ below (vp_Si (fun r => r = z)) args s 0 0 (fun _ => False)) (F0 m 0 ls []) := by
  obtain ⟨hx, hb, hr, hml, hown, hts, hlk, hA, hK, hF⟩ := id X
  refine lv_aload_n hx hb dX5_wanting_0 rfl (lv_at hl 0 rfl) ?_
  refine fb_get X I (k := 4) fu_X5 0 rfl rfl (Nat.le_of_ble_eq_true rfl) fw_467 rfl rfl dX5_wanting_1 ?_
  refine lv_aload_n hx hb dX5_wanting_4 rfl (lv_at hl 0 rfl) ?_
  refine fb_get X I (k := 3) fu_X5 0 rfl rfl (Nat.le_of_ble_eq_true rfl) fw_465 rfl rfl dX5_wanting_5 ?_
  refine lv_iand hx hb dX5_wanting_8 ?_
  exact fb_retRI X E rfl dX5_wanting_9
set_option maxHeartbeats 4000000 in
set_option maxRecDepth 100000 in
theorem c_X5_wanting (l : Launch) (D : va_G) (cI cJ : ClassId) (zq : Nat → Nat) (zp : fb_PS)  (sz : Nat)  : Met l yX5_wanting (Cond.code yX5_wanting cX5_wanting 1 (some .int) :: fb_all) ({ frames := 0, cells := 0, slots := 0, locals := 0 } : Room) (fb_PP D (fb_ty D cI cJ) [.ref (zq 5)] ((fb_pw cI zq zp)) sz) (vp_Si (fun r => r = ((f_X5_wanting zp)))) 0 0 (fun _ => False) := by
  refine fb_entR (by decide +kernel) (Nat.le_of_ble_eq_true rfl) ?_
  intro p e s m args below meth c A ls X I hl hin
  exact b_X5_wanting_0 X  I hl rfl
/-! X5_outputsKept -/
def f_X5_outputsKept (zp : fb_PS) : Int32 := (if (40 : Int32) ≤ ((zp).1 6) then (40 : Int32) else ((zp).1 6))
set_option maxHeartbeats 4000000 in
set_option maxRecDepth 100000 in
theorem b_X5_outputsKept_0 {p : Program} {l : Launch} {e : Env} {s : State} {m : MethodId} {args : Array Value} {below : List Frame} {meth : Method} {c : Code} {D : va_G} {cI cJ : ClassId} {A : Nat → Prop} {zq : Nat → Nat} {z : Int32} (X : fb_Bx p s m args meth c cX5_outputsKept RX5 1 (some .int) D (fb_ty D cI cJ) A) {zp : fb_PS} {ls : Array Slot}  (I : fb_In D A s.heap ((fb_pw cI zq zp)) s.heap []) (hl : lv_has ls 1 [(0, .ref (zq 5))]) (E : z = f_X5_outputsKept zp) : W p l e ({ frames := 0, cells := 0, slots := 0, locals := 0 } : Room) s m args below meth c s.heap [] 0 0 (MQ below (vp_Si (fun r => r = z)) args s 0 0 (fun _ => False)) (F0 m 0 ls []) := by
  obtain ⟨hx, hb, hr, hml, hown, hts, hlk, hA, hK, hF⟩ := id X
  refine lv_aload_n hx hb dX5_outputsKept_0 rfl (lv_at hl 0 rfl) ?_
  refine fb_get X I (k := 6) fu_X5 0 rfl rfl (Nat.le_of_ble_eq_true rfl) fw_472 rfl rfl dX5_outputsKept_1 ?_
  refine lv_bipush (v := (40 : Int32)) hx hb dX5_outputsKept_4 (by decide) ?_
  refine lv_icmp_ge (tgt := 16) hx hb dX5_outputsKept_6 (by decide) (fun c1 => ?_) (fun c1 => ?_)
  · have E2 := (E.trans (if_pos c1))
    refine lv_bipush (v := (40 : Int32)) hx hb dX5_outputsKept_16 (by decide) ?_
    exact fb_retRI X E2 rfl dX5_outputsKept_18
  · have E3 := (E.trans (if_neg c1))
    refine lv_aload_n hx hb dX5_outputsKept_9 rfl (lv_at hl 0 rfl) ?_
    refine fb_get X I (k := 6) fu_X5 0 rfl rfl (Nat.le_of_ble_eq_true rfl) fw_472 rfl rfl dX5_outputsKept_10 ?_
    refine lv_goto (tgt := 18) hx hb dX5_outputsKept_13 (by decide) ?_
    exact fb_retRI X E3 rfl dX5_outputsKept_18
set_option maxHeartbeats 4000000 in
set_option maxRecDepth 100000 in
theorem c_X5_outputsKept (l : Launch) (D : va_G) (cI cJ : ClassId) (zq : Nat → Nat) (zp : fb_PS)  (sz : Nat)  : Met l yX5_outputsKept (Cond.code yX5_outputsKept cX5_outputsKept 1 (some .int) :: fb_all) ({ frames := 0, cells := 0, slots := 0, locals := 0 } : Room) (fb_PP D (fb_ty D cI cJ) [.ref (zq 5)] ((fb_pw cI zq zp)) sz) (vp_Si (fun r => r = ((f_X5_outputsKept zp)))) 0 0 (fun _ => False) := by
  refine fb_entR (by decide +kernel) (Nat.le_of_ble_eq_true rfl) ?_
  intro p e s m args below meth c A ls X I hl hin
  exact b_X5_outputsKept_0 X  I hl rfl
/-! X5_latest -/
def f_X5_latest (zp : fb_PS) (l1 : Int32) : Int32 := (f_X11_at 40 ((zp).2.2) (((((zp).1 6) - (1 : Int32)) - l1) - ((((zp).1 6) - (1 : Int32)) - l1) / (40 : Int32) * (40 : Int32)))
set_option maxHeartbeats 4000000 in
set_option maxRecDepth 100000 in
theorem b_X5_latest_0 {p : Program} {l : Launch} {e : Env} {s : State} {m : MethodId} {args : Array Value} {below : List Frame} {meth : Method} {c : Code} {D : va_G} {cI cJ : ClassId} {A : Nat → Prop} {zq : Nat → Nat} {z : Int32} (X : fb_Bx p s m args meth c cX5_latest RX5 2 (some .int) D (fb_ty D cI cJ) A) {zp : fb_PS} {l1 : Int32} {ls : Array Slot}  (I : fb_In D A s.heap ((fb_pw cI zq zp)) s.heap []) (hl : lv_has ls 2 [(0, .ref (zq 5)), (1, .int l1)]) (E : z = f_X5_latest zp l1) : W p l e ({ frames := 1, cells := 0, slots := 0, locals := 21 } : Room) s m args below meth c s.heap [] 0 0 (MQ below (vp_Si (fun r => r = z)) args s 0 0 (fun _ => False)) (F0 m 0 ls []) := by
  obtain ⟨hx, hb, hr, hml, hown, hts, hlk, hA, hK, hF⟩ := id X
  refine lv_aload_n hx hb dX5_latest_0 rfl (lv_at hl 0 rfl) ?_
  refine fb_get X I (k := 1) fu_X5 0 rfl rfl (Nat.le_of_ble_eq_true rfl) fw_461 rfl rfl dX5_latest_1 ?_
  refine lv_aload_n hx hb dX5_latest_4 rfl (lv_at hl 0 rfl) ?_
  refine fb_get X I (k := 6) fu_X5 0 rfl rfl (Nat.le_of_ble_eq_true rfl) fw_472 rfl rfl dX5_latest_5 ?_
  refine lv_iconst (v := (1 : Int32)) hx hb dX5_latest_8 (by decide) ?_
  refine lv_isub hx hb dX5_latest_9 ?_
  refine lv_iload_n hx hb dX5_latest_10 rfl (lv_at hl 1 rfl) ?_
  refine lv_isub hx hb dX5_latest_11 ?_
  refine lv_bipush (v := (40 : Int32)) hx hb dX5_latest_12 (by decide) ?_
  refine lv_irem hx hb dX5_latest_14 (by decide) ?_
  refine fb_roI X I (fb_runSN (As := [.ref (zq 7), .int (((((zp).1 6) - (1 : Int32)) - l1) - ((((zp).1 6) - (1 : Int32)) - l1) / (40 : Int32) * (40 : Int32))]) (rest := []) X I hl (c_X11_at l D cI cJ (zq 7) 40 ((zp).2.2) (((((zp).1 6) - (1 : Int32)) - l1) - ((((zp).1 6) - (1 : Int32)) - l1) / (40 : Int32) * (40 : Int32)) _ (by decide)) fw_686 rfl rfl (List.mem_of_getElem? (i := 39) rfl) fw_191 fw_685 (by decide +kernel : fb_hd yX11_at 2) ⟨Nat.le_of_ble_eq_true rfl, Nat.le_of_ble_eq_true rfl⟩ [2] (by decide) rfl rfl rfl (Nat.le_of_ble_eq_true rfl) ⟨Nat.zero_le _, Nat.zero_le _⟩ dX5_latest_15) ?_
  exact fb_retRI X E rfl dX5_latest_18
set_option maxHeartbeats 4000000 in
set_option maxRecDepth 100000 in
theorem c_X5_latest (l : Launch) (D : va_G) (cI cJ : ClassId) (zq : Nat → Nat) (zp : fb_PS) (l1 : Int32) (sz : Nat)  : Met l yX5_latest (Cond.code yX5_latest cX5_latest 2 (some .int) :: fb_all) ({ frames := 1, cells := 0, slots := 0, locals := 21 } : Room) (fb_PP D (fb_ty D cI cJ) [.ref (zq 5), .int l1] ((fb_pw cI zq zp)) sz) (vp_Si (fun r => r = ((f_X5_latest zp l1)))) 0 0 (fun _ => False) := by
  refine fb_entR (by decide +kernel) (Nat.le_of_ble_eq_true rfl) ?_
  intro p e s m args below meth c A ls X I hl hin
  exact b_X5_latest_0 X  I hl rfl
/-! X5_mixCounts -/
def f_X5_mixCounts (zp : fb_PS) (l1 : Int64) : Int64 := ((((((((((((l1 * (31 : Int64)) + ((((zp).1 2)).toInt64)) * (31 : Int64)) + ((((zp).1 3)).toInt64)) * (31 : Int64)) + ((((zp).1 4)).toInt64)) * (31 : Int64)) + ((((zp).1 8)).toInt64)) * (31 : Int64)) + ((((zp).1 5)).toInt64)) * (31 : Int64)) + ((((zp).1 6)).toInt64))
set_option maxHeartbeats 4000000 in
set_option maxRecDepth 100000 in
theorem b_X5_mixCounts_0 {p : Program} {l : Launch} {e : Env} {s : State} {m : MethodId} {args : Array Value} {below : List Frame} {meth : Method} {c : Code} {D : va_G} {cI cJ : ClassId} {A : Nat → Prop} {zq : Nat → Nat} {z : Int64} (X : fb_Bx p s m args meth c cX5_mixCounts RX5 3 (some .long) D (fb_ty D cI cJ) A) {zp : fb_PS} {l1 : Int64} {ls : Array Slot}  (I : fb_In D A s.heap ((fb_pw cI zq zp)) s.heap []) (hl : lv_has ls 3 [(0, .ref (zq 5)), (1, .long l1)]) (E : z = f_X5_mixCounts zp l1) : W p l e ({ frames := 0, cells := 0, slots := 0, locals := 0 } : Room) s m args below meth c s.heap [] 0 0 (MQ below (vp_Sl (fun r => r = z)) args s 0 0 (fun _ => False)) (F0 m 0 ls []) := by
  obtain ⟨hx, hb, hr, hml, hown, hts, hlk, hA, hK, hF⟩ := id X
  refine lv_lload_n hx hb dX5_mixCounts_0 rfl (lv_at hl 1 rfl) ?_
  refine lv_ldc2 hx hb hown (hts _ fw_1557) dX5_mixCounts_1 ?_
  refine lv_lmul hx hb dX5_mixCounts_4 ?_
  refine lv_aload_n hx hb dX5_mixCounts_5 rfl (lv_at hl 0 rfl) ?_
  refine fb_get X I (k := 2) fu_X5 0 rfl rfl (Nat.le_of_ble_eq_true rfl) fw_462 rfl rfl dX5_mixCounts_6 ?_
  refine lv_i2l (v := (((zp).1 2)).toInt64) hx hb dX5_mixCounts_9 rfl ?_
  refine lv_ladd hx hb dX5_mixCounts_10 ?_
  refine lv_lstore_n (lv' := [(1, .long ((l1 * (31 : Int64)) + ((((zp).1 2)).toInt64))), (0, .ref (zq 5))]) hx hb dX5_mixCounts_11 rfl hl (by decide) rfl (fun ls hl => ?_)
  refine lv_lload_n hx hb dX5_mixCounts_12 rfl (lv_at hl 0 rfl) ?_
  refine lv_ldc2 hx hb hown (hts _ fw_1557) dX5_mixCounts_13 ?_
  refine lv_lmul hx hb dX5_mixCounts_16 ?_
  refine lv_aload_n hx hb dX5_mixCounts_17 rfl (lv_at hl 1 rfl) ?_
  refine fb_get X I (k := 3) fu_X5 0 rfl rfl (Nat.le_of_ble_eq_true rfl) fw_465 rfl rfl dX5_mixCounts_18 ?_
  refine lv_i2l (v := (((zp).1 3)).toInt64) hx hb dX5_mixCounts_21 rfl ?_
  refine lv_ladd hx hb dX5_mixCounts_22 ?_
  refine lv_lstore_n (lv' := [(1, .long ((((l1 * (31 : Int64)) + ((((zp).1 2)).toInt64)) * (31 : Int64)) + ((((zp).1 3)).toInt64))), (0, .ref (zq 5))]) hx hb dX5_mixCounts_23 rfl hl (by decide) rfl (fun ls hl => ?_)
  refine lv_lload_n hx hb dX5_mixCounts_24 rfl (lv_at hl 0 rfl) ?_
  refine lv_ldc2 hx hb hown (hts _ fw_1557) dX5_mixCounts_25 ?_
  refine lv_lmul hx hb dX5_mixCounts_28 ?_
  refine lv_aload_n hx hb dX5_mixCounts_29 rfl (lv_at hl 1 rfl) ?_
  refine fb_get X I (k := 4) fu_X5 0 rfl rfl (Nat.le_of_ble_eq_true rfl) fw_467 rfl rfl dX5_mixCounts_30 ?_
  refine lv_i2l (v := (((zp).1 4)).toInt64) hx hb dX5_mixCounts_33 rfl ?_
  refine lv_ladd hx hb dX5_mixCounts_34 ?_
  refine lv_lstore_n (lv' := [(1, .long ((((((l1 * (31 : Int64)) + ((((zp).1 2)).toInt64)) * (31 : Int64)) + ((((zp).1 3)).toInt64)) * (31 : Int64)) + ((((zp).1 4)).toInt64))), (0, .ref (zq 5))]) hx hb dX5_mixCounts_35 rfl hl (by decide) rfl (fun ls hl => ?_)
  refine lv_lload_n hx hb dX5_mixCounts_36 rfl (lv_at hl 0 rfl) ?_
  refine lv_ldc2 hx hb hown (hts _ fw_1557) dX5_mixCounts_37 ?_
  refine lv_lmul hx hb dX5_mixCounts_40 ?_
  refine lv_aload_n hx hb dX5_mixCounts_41 rfl (lv_at hl 1 rfl) ?_
  refine fb_get X I (k := 8) fu_X5 0 rfl rfl (Nat.le_of_ble_eq_true rfl) fw_475 rfl rfl dX5_mixCounts_42 ?_
  refine lv_i2l (v := (((zp).1 8)).toInt64) hx hb dX5_mixCounts_45 rfl ?_
  refine lv_ladd hx hb dX5_mixCounts_46 ?_
  refine lv_lstore_n (lv' := [(1, .long ((((((((l1 * (31 : Int64)) + ((((zp).1 2)).toInt64)) * (31 : Int64)) + ((((zp).1 3)).toInt64)) * (31 : Int64)) + ((((zp).1 4)).toInt64)) * (31 : Int64)) + ((((zp).1 8)).toInt64))), (0, .ref (zq 5))]) hx hb dX5_mixCounts_47 rfl hl (by decide) rfl (fun ls hl => ?_)
  refine lv_lload_n hx hb dX5_mixCounts_48 rfl (lv_at hl 0 rfl) ?_
  refine lv_ldc2 hx hb hown (hts _ fw_1557) dX5_mixCounts_49 ?_
  refine lv_lmul hx hb dX5_mixCounts_52 ?_
  refine lv_aload_n hx hb dX5_mixCounts_53 rfl (lv_at hl 1 rfl) ?_
  refine fb_get X I (k := 5) fu_X5 0 rfl rfl (Nat.le_of_ble_eq_true rfl) fw_470 rfl rfl dX5_mixCounts_54 ?_
  refine lv_i2l (v := (((zp).1 5)).toInt64) hx hb dX5_mixCounts_57 rfl ?_
  refine lv_ladd hx hb dX5_mixCounts_58 ?_
  refine lv_lstore_n (lv' := [(1, .long ((((((((((l1 * (31 : Int64)) + ((((zp).1 2)).toInt64)) * (31 : Int64)) + ((((zp).1 3)).toInt64)) * (31 : Int64)) + ((((zp).1 4)).toInt64)) * (31 : Int64)) + ((((zp).1 8)).toInt64)) * (31 : Int64)) + ((((zp).1 5)).toInt64))), (0, .ref (zq 5))]) hx hb dX5_mixCounts_59 rfl hl (by decide) rfl (fun ls hl => ?_)
  refine lv_lload_n hx hb dX5_mixCounts_60 rfl (lv_at hl 0 rfl) ?_
  refine lv_ldc2 hx hb hown (hts _ fw_1557) dX5_mixCounts_61 ?_
  refine lv_lmul hx hb dX5_mixCounts_64 ?_
  refine lv_aload_n hx hb dX5_mixCounts_65 rfl (lv_at hl 1 rfl) ?_
  refine fb_get X I (k := 6) fu_X5 0 rfl rfl (Nat.le_of_ble_eq_true rfl) fw_472 rfl rfl dX5_mixCounts_66 ?_
  refine lv_i2l (v := (((zp).1 6)).toInt64) hx hb dX5_mixCounts_69 rfl ?_
  refine lv_ladd hx hb dX5_mixCounts_70 ?_
  exact fb_retRL X E dX5_mixCounts_71
set_option maxHeartbeats 4000000 in
set_option maxRecDepth 100000 in
theorem c_X5_mixCounts (l : Launch) (D : va_G) (cI cJ : ClassId) (zq : Nat → Nat) (zp : fb_PS) (l1 : Int64) (sz : Nat)  : Met l yX5_mixCounts (Cond.code yX5_mixCounts cX5_mixCounts 3 (some .long) :: fb_all) ({ frames := 0, cells := 0, slots := 0, locals := 0 } : Room) (fb_PP D (fb_ty D cI cJ) [.ref (zq 5), .long l1] ((fb_pw cI zq zp)) sz) (vp_Sl (fun r => r = ((f_X5_mixCounts zp l1)))) 0 0 (fun _ => False) := by
  refine fb_entR (by decide +kernel) (Nat.le_of_ble_eq_true rfl) ?_
  intro p e s m args below meth c A ls X I hl hin
  exact b_X5_mixCounts_0 X  I hl rfl
/-! X5_mixOutputs -/
def f_X5_mixOutputs_2  : Nat → fb_PS → Int64 → Int32 → Int64
  | 0, zp, _, _ => 0
  | n + 1, zp, l1, l3 => (if (f_X5_outputsKept zp) ≤ l3 then l1 else f_X5_mixOutputs_2 n zp ((l1 * (31 : Int64)) + (((f_X5_latest zp l3)).toInt64)) (l3 + (1 : Int32)))
def f_X5_mixOutputs (zp : fb_PS) (l1 : Int64) : Int64 := f_X5_mixOutputs_2 ((fb_mu (0 : Int32) (f_X5_outputsKept zp)) + 1) zp l1 (0 : Int32)
set_option maxHeartbeats 4000000 in
set_option maxRecDepth 100000 in
theorem b_X5_mixOutputs_2 {p : Program} {l : Launch} {e : Env} {s : State} {m : MethodId} {args : Array Value} {below : List Frame} {meth : Method} {c : Code} {D : va_G} {cI cJ : ClassId} {A : Nat → Prop} {zq : Nat → Nat} {z : Int64} (X : fb_Bx p s m args meth c cX5_mixOutputs RX5 4 (some .long) D (fb_ty D cI cJ) A)  : ∀ (n : Nat) {zp : fb_PS} {l1 : Int64} {l3 : Int32} {ls : Array Slot} (hm : (fb_mu l3 (f_X5_outputsKept zp)) < n) (I : fb_In D A s.heap ((fb_pw cI zq zp)) s.heap []) (hl : lv_has ls 4 [(0, .ref (zq 5)), (1, .long l1), (3, .int l3)]) (E : z = f_X5_mixOutputs_2 n zp l1 l3), W p l e ({ frames := 2, cells := 0, slots := 0, locals := 42 } : Room) s m args below meth c s.heap [] 0 0 (MQ below (vp_Sl (fun r => r = z)) args s 0 0 (fun _ => False)) (F0 m 2 ls []) := by
  intro n
  obtain ⟨hx, hb, hr, hml, hown, hts, hlk, hA, hK, hF⟩ := id X
  induction n with
  | zero =>
    intro zp l1 l3 ls hm
    exact absurd hm (Nat.not_lt_zero _)
  | succ n ih =>
    intro zp l1 l3 ls hm I hl E
    refine lv_iload_n hx hb dX5_mixOutputs_2 rfl (lv_at hl 2 rfl) ?_
    refine lv_aload_n hx hb dX5_mixOutputs_3 rfl (lv_at hl 0 rfl) ?_
    refine fb_roI X I (fb_runV (As := []) (rest := [.int l3]) (q0 := 0) X I hl (c_X5_outputsKept l D cI cJ zq zp _) (fb_goodV fw_1574 fw_1575 fw_1576 fw_199 fw_1577) rfl rfl rfl (by decide +kernel : fb_hd yX5_outputsKept 0) ⟨Nat.le_of_ble_eq_true rfl, Nat.le_of_ble_eq_true rfl⟩ [0, 1, 2] (by decide) rfl rfl rfl rfl rfl rfl (Nat.le_of_ble_eq_true rfl) ⟨Nat.zero_le _, Nat.zero_le _⟩ dX5_mixOutputs_4) ?_
    refine lv_icmp_ge (tgt := 29) hx hb dX5_mixOutputs_7 (by decide) (fun c1 => ?_) (fun c1 => ?_)
    · have E2 := (E.trans (if_pos c1))
      refine lv_lload_n hx hb dX5_mixOutputs_29 rfl (lv_at hl 1 rfl) ?_
      exact fb_retRL X E2 dX5_mixOutputs_30
    · have E3 := (E.trans (if_neg c1))
      refine lv_lload_n hx hb dX5_mixOutputs_10 rfl (lv_at hl 1 rfl) ?_
      refine lv_ldc2 hx hb hown (hts _ fw_1557) dX5_mixOutputs_11 ?_
      refine lv_lmul hx hb dX5_mixOutputs_14 ?_
      refine lv_aload_n hx hb dX5_mixOutputs_15 rfl (lv_at hl 0 rfl) ?_
      refine lv_iload_n hx hb dX5_mixOutputs_16 rfl (lv_at hl 2 rfl) ?_
      refine fb_roI X I (fb_runV (As := [.int l3]) (rest := [.long (l1 * (31 : Int64))]) (q0 := 0) X I hl (c_X5_latest l D cI cJ zq zp l3 _) (fb_goodV fw_1578 fw_1579 fw_1580 fw_199 fw_1581) rfl rfl rfl (by decide +kernel : fb_hd yX5_latest 1) ⟨Nat.le_of_ble_eq_true rfl, Nat.le_of_ble_eq_true rfl⟩ [0, 1, 2] (by decide) rfl rfl rfl rfl rfl rfl (Nat.le_of_ble_eq_true rfl) ⟨Nat.zero_le _, Nat.zero_le _⟩ dX5_mixOutputs_17) ?_
      refine lv_i2l (v := ((f_X5_latest zp l3)).toInt64) hx hb dX5_mixOutputs_20 rfl ?_
      refine lv_ladd hx hb dX5_mixOutputs_21 ?_
      refine lv_lstore_n (lv' := [(1, .long ((l1 * (31 : Int64)) + (((f_X5_latest zp l3)).toInt64))), (0, .ref (zq 5)), (3, .int l3)]) hx hb dX5_mixOutputs_22 rfl hl (by decide) rfl (fun ls hl => ?_)
      refine lv_iinc (v := (l3 + (1 : Int32))) (lv' := [(3, .int (l3 + (1 : Int32))), (1, .long ((l1 * (31 : Int64)) + (((f_X5_latest zp l3)).toInt64))), (0, .ref (zq 5))]) hx hb dX5_mixOutputs_23 hl (k := 2) rfl rfl (by decide) rfl (fun ls hl => ?_)
      refine lv_goto (tgt := 2) hx hb dX5_mixOutputs_26 (by decide) ?_
      exact ih (l1 := ((l1 * (31 : Int64)) + (((f_X5_latest zp l3)).toInt64))) (l3 := (l3 + (1 : Int32))) (fb_mu_ge c1 hm)  I (lv_sub hl [2, 1, 0] rfl) E3
set_option maxHeartbeats 4000000 in
set_option maxRecDepth 100000 in
theorem b_X5_mixOutputs_0 {p : Program} {l : Launch} {e : Env} {s : State} {m : MethodId} {args : Array Value} {below : List Frame} {meth : Method} {c : Code} {D : va_G} {cI cJ : ClassId} {A : Nat → Prop} {zq : Nat → Nat} {z : Int64} (X : fb_Bx p s m args meth c cX5_mixOutputs RX5 4 (some .long) D (fb_ty D cI cJ) A) {zp : fb_PS} {l1 : Int64} {ls : Array Slot}  (I : fb_In D A s.heap ((fb_pw cI zq zp)) s.heap []) (hl : lv_has ls 4 [(0, .ref (zq 5)), (1, .long l1)]) (E : z = f_X5_mixOutputs zp l1) : W p l e ({ frames := 2, cells := 0, slots := 0, locals := 42 } : Room) s m args below meth c s.heap [] 0 0 (MQ below (vp_Sl (fun r => r = z)) args s 0 0 (fun _ => False)) (F0 m 0 ls []) := by
  obtain ⟨hx, hb, hr, hml, hown, hts, hlk, hA, hK, hF⟩ := id X
  refine lv_iconst (v := (0 : Int32)) hx hb dX5_mixOutputs_0 (by decide) ?_
  refine lv_istore_n (lv' := [(3, .int (0 : Int32)), (0, .ref (zq 5)), (1, .long l1)]) hx hb dX5_mixOutputs_1 rfl hl (by decide) rfl (fun ls hl => ?_)
  exact b_X5_mixOutputs_2 X  ((fb_mu (0 : Int32) (f_X5_outputsKept zp)) + 1) (l1 := l1) (l3 := (0 : Int32)) (Nat.lt_succ_self _)  I (lv_sub hl [1, 2, 0] rfl) E
set_option maxHeartbeats 4000000 in
set_option maxRecDepth 100000 in
theorem c_X5_mixOutputs (l : Launch) (D : va_G) (cI cJ : ClassId) (zq : Nat → Nat) (zp : fb_PS) (l1 : Int64) (sz : Nat)  : Met l yX5_mixOutputs (Cond.code yX5_mixOutputs cX5_mixOutputs 4 (some .long) :: fb_all) ({ frames := 2, cells := 0, slots := 0, locals := 42 } : Room) (fb_PP D (fb_ty D cI cJ) [.ref (zq 5), .long l1] ((fb_pw cI zq zp)) sz) (vp_Sl (fun r => r = ((f_X5_mixOutputs zp l1)))) 0 0 (fun _ => False) := by
  refine fb_entR (by decide +kernel) (Nat.le_of_ble_eq_true rfl) ?_
  intro p e s m args below meth c A ls X I hl hin
  exact b_X5_mixOutputs_0 X  I hl rfl
/-! X5_firstWanting -/
def f_X5_firstWanting_2  : Nat → fb_PS → Int32 → Int32
  | 0, zp, _ => 0
  | n + 1, zp, l1 => (if (3 : Int32) ≤ l1 then l1 else (if (((f_X5_wanting zp) >>> (l1 &&& 31)) &&& (1 : Int32)) = 0 then f_X5_firstWanting_2 n zp (l1 + (1 : Int32)) else l1))
def f_X5_firstWanting (zp : fb_PS) : Int32 := f_X5_firstWanting_2 ((fb_mu (0 : Int32) 3) + 1) zp (0 : Int32)
set_option maxHeartbeats 4000000 in
set_option maxRecDepth 100000 in
theorem b_X5_firstWanting_2 {p : Program} {l : Launch} {e : Env} {s : State} {m : MethodId} {args : Array Value} {below : List Frame} {meth : Method} {c : Code} {D : va_G} {cI cJ : ClassId} {A : Nat → Prop} {zq : Nat → Nat} {z : Int32} (X : fb_Bx p s m args meth c cX5_firstWanting RX5 2 (some .int) D (fb_ty D cI cJ) A)  : ∀ (n : Nat) {zp : fb_PS} {l1 : Int32} {ls : Array Slot} (hm : (fb_mu l1 3) < n) (I : fb_In D A s.heap ((fb_pw cI zq zp)) s.heap []) (hl : lv_has ls 2 [(0, .ref (zq 5)), (1, .int l1)]) (E : z = f_X5_firstWanting_2 n zp l1), W p l e ({ frames := 1, cells := 0, slots := 0, locals := 20 } : Room) s m args below meth c s.heap [] 0 0 (MQ below (vp_Si (fun r => r = z)) args s 0 0 (fun _ => False)) (F0 m 2 ls []) := by
  intro n
  obtain ⟨hx, hb, hr, hml, hown, hts, hlk, hA, hK, hF⟩ := id X
  induction n with
  | zero =>
    intro zp l1 ls hm
    exact absurd hm (Nat.not_lt_zero _)
  | succ n ih =>
    intro zp l1 ls hm I hl E
    refine lv_iload_n hx hb dX5_firstWanting_2 rfl (lv_at hl 1 rfl) ?_
    refine lv_iconst (v := (3 : Int32)) hx hb dX5_firstWanting_3 (by decide) ?_
    refine lv_icmp_ge (tgt := 24) hx hb dX5_firstWanting_4 (by decide) (fun c1 => ?_) (fun c1 => ?_)
    · have E2 := (E.trans (if_pos c1))
      refine lv_iload_n hx hb dX5_firstWanting_24 rfl (lv_at hl 1 rfl) ?_
      exact fb_retRI X E2 rfl dX5_firstWanting_25
    · have E3 := (E.trans (if_neg c1))
      refine lv_aload_n hx hb dX5_firstWanting_7 rfl (lv_at hl 0 rfl) ?_
      refine fb_roI X I (fb_runV (As := []) (rest := []) (q0 := 0) X I hl (c_X5_wanting l D cI cJ zq zp _) (fb_goodV fw_1219 fw_1191 fw_1192 fw_199 fw_1193) rfl rfl rfl (by decide +kernel : fb_hd yX5_wanting 0) ⟨Nat.le_of_ble_eq_true rfl, Nat.le_of_ble_eq_true rfl⟩ [0, 1, 2] (by decide) rfl rfl rfl rfl rfl rfl (Nat.le_of_ble_eq_true rfl) ⟨Nat.zero_le _, Nat.zero_le _⟩ dX5_firstWanting_8) ?_
      refine lv_iload_n hx hb dX5_firstWanting_11 rfl (lv_at hl 1 rfl) ?_
      refine lv_ishr hx hb dX5_firstWanting_12 ?_
      refine lv_iconst (v := (1 : Int32)) hx hb dX5_firstWanting_13 (by decide) ?_
      refine lv_iand hx hb dX5_firstWanting_14 ?_
      refine lv_if_ne (tgt := 24) hx hb dX5_firstWanting_15 (by decide) (fun c4 => ?_) (fun c4 => ?_)
      · have E5 := (E3.trans (if_neg c4))
        refine lv_iload_n hx hb dX5_firstWanting_24 rfl (lv_at hl 1 rfl) ?_
        exact fb_retRI X E5 rfl dX5_firstWanting_25
      · have E6 := (E3.trans (if_pos c4))
        refine lv_iinc (v := (l1 + (1 : Int32))) (lv' := [(1, .int (l1 + (1 : Int32))), (0, .ref (zq 5))]) hx hb dX5_firstWanting_18 hl (k := 1) rfl rfl (by decide) rfl (fun ls hl => ?_)
        refine lv_goto (tgt := 2) hx hb dX5_firstWanting_21 (by decide) ?_
        exact ih (l1 := (l1 + (1 : Int32))) (fb_mu_ge c1 hm)  I (lv_sub hl [1, 0] rfl) E6
set_option maxHeartbeats 4000000 in
set_option maxRecDepth 100000 in
theorem b_X5_firstWanting_0 {p : Program} {l : Launch} {e : Env} {s : State} {m : MethodId} {args : Array Value} {below : List Frame} {meth : Method} {c : Code} {D : va_G} {cI cJ : ClassId} {A : Nat → Prop} {zq : Nat → Nat} {z : Int32} (X : fb_Bx p s m args meth c cX5_firstWanting RX5 2 (some .int) D (fb_ty D cI cJ) A) {zp : fb_PS} {ls : Array Slot}  (I : fb_In D A s.heap ((fb_pw cI zq zp)) s.heap []) (hl : lv_has ls 2 [(0, .ref (zq 5))]) (E : z = f_X5_firstWanting zp) : W p l e ({ frames := 1, cells := 0, slots := 0, locals := 20 } : Room) s m args below meth c s.heap [] 0 0 (MQ below (vp_Si (fun r => r = z)) args s 0 0 (fun _ => False)) (F0 m 0 ls []) := by
  obtain ⟨hx, hb, hr, hml, hown, hts, hlk, hA, hK, hF⟩ := id X
  refine lv_iconst (v := (0 : Int32)) hx hb dX5_firstWanting_0 (by decide) ?_
  refine lv_istore_n (lv' := [(1, .int (0 : Int32)), (0, .ref (zq 5))]) hx hb dX5_firstWanting_1 rfl hl (by decide) rfl (fun ls hl => ?_)
  exact b_X5_firstWanting_2 X  ((fb_mu (0 : Int32) 3) + 1) (l1 := (0 : Int32)) (Nat.lt_succ_self _)  I (lv_sub hl [1, 0] rfl) E
set_option maxHeartbeats 4000000 in
set_option maxRecDepth 100000 in
theorem c_X5_firstWanting (l : Launch) (D : va_G) (cI cJ : ClassId) (zq : Nat → Nat) (zp : fb_PS)  (sz : Nat)  : Met l yX5_firstWanting (Cond.code yX5_firstWanting cX5_firstWanting 2 (some .int) :: fb_all) ({ frames := 1, cells := 0, slots := 0, locals := 20 } : Room) (fb_PP D (fb_ty D cI cJ) [.ref (zq 5)] ((fb_pw cI zq zp)) sz) (vp_Si (fun r => r = ((f_X5_firstWanting zp)))) 0 0 (fun _ => False) := by
  refine fb_entR (by decide +kernel) (Nat.le_of_ble_eq_true rfl) ?_
  intro p e s m args below meth c A ls X I hl hin
  exact b_X5_firstWanting_0 X  I hl rfl
/-! X5_withLow -/
def f_X5_withLow (zp : fb_PS) (l1 : Int32) (l2 : Int32) : Int32 := (((l1 / (256 : Int32)) * (256 : Int32)) + l2)
set_option maxHeartbeats 4000000 in
set_option maxRecDepth 100000 in
theorem b_X5_withLow_0 {p : Program} {l : Launch} {e : Env} {s : State} {m : MethodId} {args : Array Value} {below : List Frame} {meth : Method} {c : Code} {D : va_G} {cI cJ : ClassId} {A : Nat → Prop} {zq : Nat → Nat} {z : Int32} (X : fb_Bx p s m args meth c cX5_withLow RX5 3 (some .int) D (fb_ty D cI cJ) A) {zp : fb_PS} {l1 : Int32} {l2 : Int32} {ls : Array Slot}  (I : fb_In D A s.heap ((fb_pw cI zq zp)) s.heap []) (hl : lv_has ls 3 [(0, .ref (zq 5)), (1, .int l1), (2, .int l2)]) (E : z = f_X5_withLow zp l1 l2) : W p l e ({ frames := 0, cells := 0, slots := 0, locals := 0 } : Room) s m args below meth c s.heap [] 0 0 (MQ below (vp_Si (fun r => r = z)) args s 0 0 (fun _ => False)) (F0 m 0 ls []) := by
  obtain ⟨hx, hb, hr, hml, hown, hts, hlk, hA, hK, hF⟩ := id X
  refine lv_iload_n hx hb dX5_withLow_0 rfl (lv_at hl 1 rfl) ?_
  refine lv_sipush (v := (256 : Int32)) hx hb dX5_withLow_1 (by decide) ?_
  refine lv_idiv hx hb dX5_withLow_4 (by decide) ?_
  refine lv_sipush (v := (256 : Int32)) hx hb dX5_withLow_5 (by decide) ?_
  refine lv_imul hx hb dX5_withLow_8 ?_
  refine lv_iload_n hx hb dX5_withLow_9 rfl (lv_at hl 2 rfl) ?_
  refine lv_iadd hx hb dX5_withLow_10 ?_
  exact fb_retRI X E rfl dX5_withLow_11
set_option maxHeartbeats 4000000 in
set_option maxRecDepth 100000 in
theorem c_X5_withLow (l : Launch) (D : va_G) (cI cJ : ClassId) (zq : Nat → Nat) (zp : fb_PS) (l1 : Int32) (l2 : Int32) (sz : Nat)  : Met l yX5_withLow (Cond.code yX5_withLow cX5_withLow 3 (some .int) :: fb_all) ({ frames := 0, cells := 0, slots := 0, locals := 0 } : Room) (fb_PP D (fb_ty D cI cJ) [.ref (zq 5), .int l1, .int l2] ((fb_pw cI zq zp)) sz) (vp_Si (fun r => r = ((f_X5_withLow zp l1 l2)))) 0 0 (fun _ => False) := by
  refine fb_entR (by decide +kernel) (Nat.le_of_ble_eq_true rfl) ?_
  intro p e s m args below meth c A ls X I hl hin
  exact b_X5_withLow_0 X  I hl rfl
/-! X5_withHigh -/
def f_X5_withHigh (zp : fb_PS) (l1 : Int32) (l2 : Int32) : Int32 := ((l2 * (256 : Int32)) + (l1 - l1 / (256 : Int32) * (256 : Int32)))
set_option maxHeartbeats 4000000 in
set_option maxRecDepth 100000 in
theorem b_X5_withHigh_0 {p : Program} {l : Launch} {e : Env} {s : State} {m : MethodId} {args : Array Value} {below : List Frame} {meth : Method} {c : Code} {D : va_G} {cI cJ : ClassId} {A : Nat → Prop} {zq : Nat → Nat} {z : Int32} (X : fb_Bx p s m args meth c cX5_withHigh RX5 3 (some .int) D (fb_ty D cI cJ) A) {zp : fb_PS} {l1 : Int32} {l2 : Int32} {ls : Array Slot}  (I : fb_In D A s.heap ((fb_pw cI zq zp)) s.heap []) (hl : lv_has ls 3 [(0, .ref (zq 5)), (1, .int l1), (2, .int l2)]) (E : z = f_X5_withHigh zp l1 l2) : W p l e ({ frames := 0, cells := 0, slots := 0, locals := 0 } : Room) s m args below meth c s.heap [] 0 0 (MQ below (vp_Si (fun r => r = z)) args s 0 0 (fun _ => False)) (F0 m 0 ls []) := by
  obtain ⟨hx, hb, hr, hml, hown, hts, hlk, hA, hK, hF⟩ := id X
  refine lv_iload_n hx hb dX5_withHigh_0 rfl (lv_at hl 2 rfl) ?_
  refine lv_sipush (v := (256 : Int32)) hx hb dX5_withHigh_1 (by decide) ?_
  refine lv_imul hx hb dX5_withHigh_4 ?_
  refine lv_iload_n hx hb dX5_withHigh_5 rfl (lv_at hl 1 rfl) ?_
  refine lv_sipush (v := (256 : Int32)) hx hb dX5_withHigh_6 (by decide) ?_
  refine lv_irem hx hb dX5_withHigh_9 (by decide) ?_
  refine lv_iadd hx hb dX5_withHigh_10 ?_
  exact fb_retRI X E rfl dX5_withHigh_11
set_option maxHeartbeats 4000000 in
set_option maxRecDepth 100000 in
theorem c_X5_withHigh (l : Launch) (D : va_G) (cI cJ : ClassId) (zq : Nat → Nat) (zp : fb_PS) (l1 : Int32) (l2 : Int32) (sz : Nat)  : Met l yX5_withHigh (Cond.code yX5_withHigh cX5_withHigh 3 (some .int) :: fb_all) ({ frames := 0, cells := 0, slots := 0, locals := 0 } : Room) (fb_PP D (fb_ty D cI cJ) [.ref (zq 5), .int l1, .int l2] ((fb_pw cI zq zp)) sz) (vp_Si (fun r => r = ((f_X5_withHigh zp l1 l2)))) 0 0 (fun _ => False) := by
  refine fb_entR (by decide +kernel) (Nat.le_of_ble_eq_true rfl) ?_
  intro p e s m args below meth c A ls X I hl hin
  exact b_X5_withHigh_0 X  I hl rfl
/-! X5_take -/
def f_X5_take (zp : fb_PS) (l1 : Int32) : fb_PS := (fb_pR (fb_pR (fb_pI zp ((f_X11_put 16 ((zp).2.1) ((zp).1 5) l1))) 5 ((((fb_pI zp ((f_X11_put 16 ((zp).2.1) ((zp).1 5) l1)))).1 5) + (1 : Int32))) 4 ((((fb_pR (fb_pI zp ((f_X11_put 16 ((zp).2.1) ((zp).1 5) l1))) 5 ((((fb_pI zp ((f_X11_put 16 ((zp).2.1) ((zp).1 5) l1)))).1 5) + (1 : Int32)))).1 4) ||| (2 : Int32)))
set_option maxHeartbeats 4000000 in
set_option maxRecDepth 100000 in
theorem b_X5_take_0 {p : Program} {l : Launch} {e : Env} {s : State} {m : MethodId} {args : Array Value} {below : List Frame} {meth : Method} {c : Code} {D : va_G} {cI cJ : ClassId} {A : Nat → Prop} {zq : Nat → Nat} {z : fb_PS} (X : fb_Bx p s m args meth c cX5_take RX5 2 none D (fb_ty D cI cJ) A) {zp : fb_PS} {l1 : Int32} {H : Heap} {locs : List Loc} {ls : Array Slot}  (I : fb_In D A s.heap ((fb_pw cI zq zp)) H locs) (hl : lv_has ls 2 [(0, .ref (zq 5)), (1, .int l1)]) (E : z = f_X5_take zp l1) : W p l e ({ frames := 1, cells := 0, slots := 0, locals := 22 } : Room) s m args below meth c H locs 0 0 (MQ below (fb_QV D A (fun (_ : Unit) => True) (fun (t : Unit) => (fb_pw cI zq (z)))) args s 0 0 A) (F0 m 0 ls []) := by
  obtain ⟨hx, hb, hr, hml, hown, hts, hlk, hA, hK, hF⟩ := id X
  refine lv_aload_n hx hb dX5_take_0 rfl (lv_at hl 0 rfl) ?_
  refine fb_get X I (k := 0) fu_X5 0 rfl rfl (Nat.le_of_ble_eq_true rfl) fw_460 rfl rfl dX5_take_1 ?_
  refine lv_aload_n hx hb dX5_take_4 rfl (lv_at hl 0 rfl) ?_
  refine fb_get X I (k := 5) fu_X5 0 rfl rfl (Nat.le_of_ble_eq_true rfl) fw_470 rfl rfl dX5_take_5 ?_
  refine lv_iload_n hx hb dX5_take_8 rfl (lv_at hl 1 rfl) ?_
  refine fb_goV (wn := fun (w1 : Unit) => (fb_pw cI zq (fb_pI zp ((f_X11_put 16 ((zp).2.1) ((zp).1 5) l1))))) X I (fb_runSN (As := [.ref (zq 6), .int ((zp).1 5), .int l1]) (rest := []) X I hl (c_X11_put l D cI cJ (zq 6) 16 ((zp).2.1) ((zp).1 5) l1 _ (by decide)) fw_756 rfl rfl (List.mem_of_getElem? (i := 32) rfl) fw_191 fw_755 (by decide +kernel : fb_hd yX11_put 3) ⟨Nat.le_of_ble_eq_true rfl, Nat.le_of_ble_eq_true rfl⟩ [1] (by decide) rfl rfl rfl (Nat.le_of_ble_eq_true rfl) ⟨Nat.zero_le _, Nat.zero_le _⟩ dX5_take_9) [1] [0, 2] [0, 2, 1] rfl rfl (by decide) (by decide) (by decide) (fun _ => rfl) ?_
  intro w1 H locs _ I
  refine lv_aload_n hx hb dX5_take_12 rfl (lv_at hl 0 rfl) ?_
  refine lv_dup hx hb dX5_take_13 rfl ?_
  refine fb_get X I (k := 5) fu_X5 0 rfl rfl (Nat.le_of_ble_eq_true rfl) fw_470 rfl rfl dX5_take_14 ?_
  refine lv_iconst (v := (1 : Int32)) hx hb dX5_take_17 (by decide) ?_
  refine lv_iadd hx hb dX5_take_18 ?_
  refine fb_put X I (k := 5) (wn := (fb_pw cI zq (fb_pR (fb_pI zp ((f_X11_put 16 ((zp).2.1) ((zp).1 5) l1))) 5 ((((fb_pI zp ((f_X11_put 16 ((zp).2.1) ((zp).1 5) l1)))).1 5) + (1 : Int32))))) fu_X5 tyX5 tyX5_ok nmX5 0 rfl rfl (Nat.le_of_ble_eq_true rfl) fw_470 rfl rfl rfl rfl rfl (Nat.le_of_ble_eq_true rfl) fb_ps5 dX5_take_19 (fun H locs I => ?_)
  refine lv_aload_n hx hb dX5_take_22 rfl (lv_at hl 0 rfl) ?_
  refine lv_dup hx hb dX5_take_23 rfl ?_
  refine fb_get X I (k := 4) fu_X5 0 rfl rfl (Nat.le_of_ble_eq_true rfl) fw_467 rfl rfl dX5_take_24 ?_
  refine lv_iconst (v := (2 : Int32)) hx hb dX5_take_27 (by decide) ?_
  refine lv_ior hx hb dX5_take_28 ?_
  refine fb_put X I (k := 4) (wn := (fb_pw cI zq (fb_pR (fb_pR (fb_pI zp ((f_X11_put 16 ((zp).2.1) ((zp).1 5) l1))) 5 ((((fb_pI zp ((f_X11_put 16 ((zp).2.1) ((zp).1 5) l1)))).1 5) + (1 : Int32))) 4 ((((fb_pR (fb_pI zp ((f_X11_put 16 ((zp).2.1) ((zp).1 5) l1))) 5 ((((fb_pI zp ((f_X11_put 16 ((zp).2.1) ((zp).1 5) l1)))).1 5) + (1 : Int32)))).1 4) ||| (2 : Int32))))) fu_X5 tyX5 tyX5_ok nmX5 0 rfl rfl (Nat.le_of_ble_eq_true rfl) fw_467 rfl rfl rfl rfl rfl (Nat.le_of_ble_eq_true rfl) fb_ps4 dX5_take_29 (fun H locs I => ?_)
  subst E
  exact fb_retV (u := ()) X I trivial dX5_take_32
set_option maxHeartbeats 4000000 in
set_option maxRecDepth 100000 in
theorem c_X5_take (l : Launch) (D : va_G) (cI cJ : ClassId) (zq : Nat → Nat) (zp : fb_PS) (l1 : Int32) (sz : Nat)  : Met l yX5_take (Cond.code yX5_take cX5_take 2 none :: fb_all) ({ frames := 1, cells := 0, slots := 0, locals := 22 } : Room) (fb_PP D (fb_ty D cI cJ) [.ref (zq 5), .int l1] ((fb_pw cI zq zp)) sz) (fb_QV D (va_A ((fb_pw cI zq zp)) sz) (fun (_ : Unit) => True) (fun (t : Unit) => (fb_pw cI zq (((f_X5_take zp l1)))))) 0 0 (va_A ((fb_pw cI zq zp)) sz) := by
  refine fb_ent (Qf := fun A => (fb_QV D A (fun (_ : Unit) => True) (fun (t : Unit) => (fb_pw cI zq (((f_X5_take zp l1))))))) (by decide +kernel) (Nat.le_of_ble_eq_true rfl) ?_
  intro p e s m args below meth c A ls X I hl hin
  exact b_X5_take_0 X  I hl rfl
/-! X5_clear -/
def f_X5_clear (zp : fb_PS) : fb_PS := (fb_pR (fb_pR (fb_pR (fb_pR (fb_pR (fb_pR (fb_pR (fb_pR (fb_pR (fb_pR (fb_pR (fb_pR zp 2 (0 : Int32)) 3 (0 : Int32)) 4 (0 : Int32)) 5 (0 : Int32)) 6 (0 : Int32)) 7 (0 : Int32)) 8 (0 : Int32)) 9 (0 : Int32)) 10 (1 : Int32)) 11 (0 : Int32)) 12 (0 : Int32)) 13 (0 : Int32))
set_option maxHeartbeats 4000000 in
set_option maxRecDepth 100000 in
theorem b_X5_clear_0 {p : Program} {l : Launch} {e : Env} {s : State} {m : MethodId} {args : Array Value} {below : List Frame} {meth : Method} {c : Code} {D : va_G} {cI cJ : ClassId} {A : Nat → Prop} {zq : Nat → Nat} {z : fb_PS} (X : fb_Bx p s m args meth c cX5_clear RX5 1 none D (fb_ty D cI cJ) A) {zp : fb_PS} {H : Heap} {locs : List Loc} {ls : Array Slot}  (I : fb_In D A s.heap ((fb_pw cI zq zp)) H locs) (hl : lv_has ls 1 [(0, .ref (zq 5))]) (E : z = f_X5_clear zp) : W p l e ({ frames := 0, cells := 0, slots := 0, locals := 0 } : Room) s m args below meth c H locs 0 0 (MQ below (fb_QV D A (fun (_ : Unit) => True) (fun (t : Unit) => (fb_pw cI zq (z)))) args s 0 0 A) (F0 m 0 ls []) := by
  obtain ⟨hx, hb, hr, hml, hown, hts, hlk, hA, hK, hF⟩ := id X
  refine lv_aload_n hx hb dX5_clear_0 rfl (lv_at hl 0 rfl) ?_
  refine lv_iconst (v := (0 : Int32)) hx hb dX5_clear_1 (by decide) ?_
  refine fb_put X I (k := 2) (wn := (fb_pw cI zq (fb_pR zp 2 (0 : Int32)))) fu_X5 tyX5 tyX5_ok nmX5 0 rfl rfl (Nat.le_of_ble_eq_true rfl) fw_462 rfl rfl rfl rfl rfl (Nat.le_of_ble_eq_true rfl) fb_ps2 dX5_clear_2 (fun H locs I => ?_)
  refine lv_aload_n hx hb dX5_clear_5 rfl (lv_at hl 0 rfl) ?_
  refine lv_iconst (v := (0 : Int32)) hx hb dX5_clear_6 (by decide) ?_
  refine fb_put X I (k := 3) (wn := (fb_pw cI zq (fb_pR (fb_pR zp 2 (0 : Int32)) 3 (0 : Int32)))) fu_X5 tyX5 tyX5_ok nmX5 0 rfl rfl (Nat.le_of_ble_eq_true rfl) fw_465 rfl rfl rfl rfl rfl (Nat.le_of_ble_eq_true rfl) fb_ps3 dX5_clear_7 (fun H locs I => ?_)
  refine lv_aload_n hx hb dX5_clear_10 rfl (lv_at hl 0 rfl) ?_
  refine lv_iconst (v := (0 : Int32)) hx hb dX5_clear_11 (by decide) ?_
  refine fb_put X I (k := 4) (wn := (fb_pw cI zq (fb_pR (fb_pR (fb_pR zp 2 (0 : Int32)) 3 (0 : Int32)) 4 (0 : Int32)))) fu_X5 tyX5 tyX5_ok nmX5 0 rfl rfl (Nat.le_of_ble_eq_true rfl) fw_467 rfl rfl rfl rfl rfl (Nat.le_of_ble_eq_true rfl) fb_ps4 dX5_clear_12 (fun H locs I => ?_)
  refine lv_aload_n hx hb dX5_clear_15 rfl (lv_at hl 0 rfl) ?_
  refine lv_iconst (v := (0 : Int32)) hx hb dX5_clear_16 (by decide) ?_
  refine fb_put X I (k := 5) (wn := (fb_pw cI zq (fb_pR (fb_pR (fb_pR (fb_pR zp 2 (0 : Int32)) 3 (0 : Int32)) 4 (0 : Int32)) 5 (0 : Int32)))) fu_X5 tyX5 tyX5_ok nmX5 0 rfl rfl (Nat.le_of_ble_eq_true rfl) fw_470 rfl rfl rfl rfl rfl (Nat.le_of_ble_eq_true rfl) fb_ps5 dX5_clear_17 (fun H locs I => ?_)
  refine lv_aload_n hx hb dX5_clear_20 rfl (lv_at hl 0 rfl) ?_
  refine lv_iconst (v := (0 : Int32)) hx hb dX5_clear_21 (by decide) ?_
  refine fb_put X I (k := 6) (wn := (fb_pw cI zq (fb_pR (fb_pR (fb_pR (fb_pR (fb_pR zp 2 (0 : Int32)) 3 (0 : Int32)) 4 (0 : Int32)) 5 (0 : Int32)) 6 (0 : Int32)))) fu_X5 tyX5 tyX5_ok nmX5 0 rfl rfl (Nat.le_of_ble_eq_true rfl) fw_472 rfl rfl rfl rfl rfl (Nat.le_of_ble_eq_true rfl) fb_ps6 dX5_clear_22 (fun H locs I => ?_)
  refine lv_aload_n hx hb dX5_clear_25 rfl (lv_at hl 0 rfl) ?_
  refine lv_iconst (v := (0 : Int32)) hx hb dX5_clear_26 (by decide) ?_
  refine fb_put X I (k := 7) (wn := (fb_pw cI zq (fb_pR (fb_pR (fb_pR (fb_pR (fb_pR (fb_pR zp 2 (0 : Int32)) 3 (0 : Int32)) 4 (0 : Int32)) 5 (0 : Int32)) 6 (0 : Int32)) 7 (0 : Int32)))) fu_X5 tyX5 tyX5_ok nmX5 0 rfl rfl (Nat.le_of_ble_eq_true rfl) fw_474 rfl rfl rfl rfl rfl (Nat.le_of_ble_eq_true rfl) fb_ps7 dX5_clear_27 (fun H locs I => ?_)
  refine lv_aload_n hx hb dX5_clear_30 rfl (lv_at hl 0 rfl) ?_
  refine lv_iconst (v := (0 : Int32)) hx hb dX5_clear_31 (by decide) ?_
  refine fb_put X I (k := 8) (wn := (fb_pw cI zq (fb_pR (fb_pR (fb_pR (fb_pR (fb_pR (fb_pR (fb_pR zp 2 (0 : Int32)) 3 (0 : Int32)) 4 (0 : Int32)) 5 (0 : Int32)) 6 (0 : Int32)) 7 (0 : Int32)) 8 (0 : Int32)))) fu_X5 tyX5 tyX5_ok nmX5 0 rfl rfl (Nat.le_of_ble_eq_true rfl) fw_475 rfl rfl rfl rfl rfl (Nat.le_of_ble_eq_true rfl) fb_ps8 dX5_clear_32 (fun H locs I => ?_)
  refine lv_aload_n hx hb dX5_clear_35 rfl (lv_at hl 0 rfl) ?_
  refine lv_iconst (v := (0 : Int32)) hx hb dX5_clear_36 (by decide) ?_
  refine fb_put X I (k := 9) (wn := (fb_pw cI zq (fb_pR (fb_pR (fb_pR (fb_pR (fb_pR (fb_pR (fb_pR (fb_pR zp 2 (0 : Int32)) 3 (0 : Int32)) 4 (0 : Int32)) 5 (0 : Int32)) 6 (0 : Int32)) 7 (0 : Int32)) 8 (0 : Int32)) 9 (0 : Int32)))) fu_X5 tyX5 tyX5_ok nmX5 0 rfl rfl (Nat.le_of_ble_eq_true rfl) fw_477 rfl rfl rfl rfl rfl (Nat.le_of_ble_eq_true rfl) fb_ps9 dX5_clear_37 (fun H locs I => ?_)
  refine lv_aload_n hx hb dX5_clear_40 rfl (lv_at hl 0 rfl) ?_
  refine lv_iconst (v := (1 : Int32)) hx hb dX5_clear_41 (by decide) ?_
  refine fb_put X I (k := 10) (wn := (fb_pw cI zq (fb_pR (fb_pR (fb_pR (fb_pR (fb_pR (fb_pR (fb_pR (fb_pR (fb_pR zp 2 (0 : Int32)) 3 (0 : Int32)) 4 (0 : Int32)) 5 (0 : Int32)) 6 (0 : Int32)) 7 (0 : Int32)) 8 (0 : Int32)) 9 (0 : Int32)) 10 (1 : Int32)))) fu_X5 tyX5 tyX5_ok nmX5 0 rfl rfl (Nat.le_of_ble_eq_true rfl) fw_478 rfl rfl rfl rfl rfl (Nat.le_of_ble_eq_true rfl) fb_ps10 dX5_clear_42 (fun H locs I => ?_)
  refine lv_aload_n hx hb dX5_clear_45 rfl (lv_at hl 0 rfl) ?_
  refine lv_iconst (v := (0 : Int32)) hx hb dX5_clear_46 (by decide) ?_
  refine fb_put X I (k := 11) (wn := (fb_pw cI zq (fb_pR (fb_pR (fb_pR (fb_pR (fb_pR (fb_pR (fb_pR (fb_pR (fb_pR (fb_pR zp 2 (0 : Int32)) 3 (0 : Int32)) 4 (0 : Int32)) 5 (0 : Int32)) 6 (0 : Int32)) 7 (0 : Int32)) 8 (0 : Int32)) 9 (0 : Int32)) 10 (1 : Int32)) 11 (0 : Int32)))) fu_X5 tyX5 tyX5_ok nmX5 0 rfl rfl (Nat.le_of_ble_eq_true rfl) fw_479 rfl rfl rfl rfl rfl (Nat.le_of_ble_eq_true rfl) fb_ps11 dX5_clear_47 (fun H locs I => ?_)
  refine lv_aload_n hx hb dX5_clear_50 rfl (lv_at hl 0 rfl) ?_
  refine lv_iconst (v := (0 : Int32)) hx hb dX5_clear_51 (by decide) ?_
  refine fb_put X I (k := 12) (wn := (fb_pw cI zq (fb_pR (fb_pR (fb_pR (fb_pR (fb_pR (fb_pR (fb_pR (fb_pR (fb_pR (fb_pR (fb_pR zp 2 (0 : Int32)) 3 (0 : Int32)) 4 (0 : Int32)) 5 (0 : Int32)) 6 (0 : Int32)) 7 (0 : Int32)) 8 (0 : Int32)) 9 (0 : Int32)) 10 (1 : Int32)) 11 (0 : Int32)) 12 (0 : Int32)))) fu_X5 tyX5 tyX5_ok nmX5 0 rfl rfl (Nat.le_of_ble_eq_true rfl) fw_481 rfl rfl rfl rfl rfl (Nat.le_of_ble_eq_true rfl) fb_ps12 dX5_clear_52 (fun H locs I => ?_)
  refine lv_aload_n hx hb dX5_clear_55 rfl (lv_at hl 0 rfl) ?_
  refine lv_iconst (v := (0 : Int32)) hx hb dX5_clear_56 (by decide) ?_
  refine fb_put X I (k := 13) (wn := (fb_pw cI zq (fb_pR (fb_pR (fb_pR (fb_pR (fb_pR (fb_pR (fb_pR (fb_pR (fb_pR (fb_pR (fb_pR (fb_pR zp 2 (0 : Int32)) 3 (0 : Int32)) 4 (0 : Int32)) 5 (0 : Int32)) 6 (0 : Int32)) 7 (0 : Int32)) 8 (0 : Int32)) 9 (0 : Int32)) 10 (1 : Int32)) 11 (0 : Int32)) 12 (0 : Int32)) 13 (0 : Int32)))) fu_X5 tyX5 tyX5_ok nmX5 0 rfl rfl (Nat.le_of_ble_eq_true rfl) fw_483 rfl rfl rfl rfl rfl (Nat.le_of_ble_eq_true rfl) fb_ps13 dX5_clear_57 (fun H locs I => ?_)
  subst E
  exact fb_retV (u := ()) X I trivial dX5_clear_60
set_option maxHeartbeats 4000000 in
set_option maxRecDepth 100000 in
theorem c_X5_clear (l : Launch) (D : va_G) (cI cJ : ClassId) (zq : Nat → Nat) (zp : fb_PS)  (sz : Nat)  : Met l yX5_clear (Cond.code yX5_clear cX5_clear 1 none :: fb_all) ({ frames := 0, cells := 0, slots := 0, locals := 0 } : Room) (fb_PP D (fb_ty D cI cJ) [.ref (zq 5)] ((fb_pw cI zq zp)) sz) (fb_QV D (va_A ((fb_pw cI zq zp)) sz) (fun (_ : Unit) => True) (fun (t : Unit) => (fb_pw cI zq (((f_X5_clear zp)))))) 0 0 (va_A ((fb_pw cI zq zp)) sz) := by
  refine fb_ent (Qf := fun A => (fb_QV D A (fun (_ : Unit) => True) (fun (t : Unit) => (fb_pw cI zq (((f_X5_clear zp))))))) (by decide +kernel) (Nat.le_of_ble_eq_true rfl) ?_
  intro p e s m args below meth c A ls X I hl hin
  exact b_X5_clear_0 X  I hl rfl
/-! X5_wind -/
def f_X5_wind (zp : fb_PS) : fb_PS := (if ((zp).1 7) = 0 then (fb_pR zp 8 (65536 : Int32)) else (fb_pR zp 8 ((zp).1 7)))
set_option maxHeartbeats 4000000 in
set_option maxRecDepth 100000 in
theorem b_X5_wind_0 {p : Program} {l : Launch} {e : Env} {s : State} {m : MethodId} {args : Array Value} {below : List Frame} {meth : Method} {c : Code} {D : va_G} {cI cJ : ClassId} {A : Nat → Prop} {zq : Nat → Nat} {z : fb_PS} (X : fb_Bx p s m args meth c cX5_wind RX5 1 none D (fb_ty D cI cJ) A) {zp : fb_PS} {H : Heap} {locs : List Loc} {ls : Array Slot}  (I : fb_In D A s.heap ((fb_pw cI zq zp)) H locs) (hl : lv_has ls 1 [(0, .ref (zq 5))]) (E : z = f_X5_wind zp) : W p l e ({ frames := 0, cells := 0, slots := 0, locals := 0 } : Room) s m args below meth c H locs 0 0 (MQ below (fb_QV D A (fun (_ : Unit) => True) (fun (t : Unit) => (fb_pw cI zq (z)))) args s 0 0 A) (F0 m 0 ls []) := by
  obtain ⟨hx, hb, hr, hml, hown, hts, hlk, hA, hK, hF⟩ := id X
  refine lv_aload_n hx hb dX5_wind_0 rfl (lv_at hl 0 rfl) ?_
  refine lv_aload_n hx hb dX5_wind_1 rfl (lv_at hl 0 rfl) ?_
  refine fb_get X I (k := 7) fu_X5 0 rfl rfl (Nat.le_of_ble_eq_true rfl) fw_474 rfl rfl dX5_wind_2 ?_
  refine lv_if_ne (tgt := 13) hx hb dX5_wind_5 (by decide) (fun c1 => ?_) (fun c1 => ?_)
  · have E2 := (E.trans (if_neg c1))
    refine lv_aload_n hx hb dX5_wind_13 rfl (lv_at hl 0 rfl) ?_
    refine fb_get X I (k := 7) fu_X5 0 rfl rfl (Nat.le_of_ble_eq_true rfl) fw_474 rfl rfl dX5_wind_14 ?_
    refine fb_put X I (k := 8) (wn := (fb_pw cI zq (fb_pR zp 8 ((zp).1 7)))) fu_X5 tyX5 tyX5_ok nmX5 0 rfl rfl (Nat.le_of_ble_eq_true rfl) fw_475 rfl rfl rfl rfl rfl (Nat.le_of_ble_eq_true rfl) fb_ps8 dX5_wind_17 (fun H locs I => ?_)
    subst E2
    exact fb_retV (u := ()) X I trivial dX5_wind_20
  · have E3 := (E.trans (if_pos c1))
    refine lv_ldc hx hb hown (hts _ fw_1327) dX5_wind_8 ?_
    refine lv_goto (tgt := 17) hx hb dX5_wind_10 (by decide) ?_
    refine fb_put X I (k := 8) (wn := (fb_pw cI zq (fb_pR zp 8 (65536 : Int32)))) fu_X5 tyX5 tyX5_ok nmX5 0 rfl rfl (Nat.le_of_ble_eq_true rfl) fw_475 rfl rfl rfl rfl rfl (Nat.le_of_ble_eq_true rfl) fb_ps8 dX5_wind_17 (fun H locs I => ?_)
    subst E3
    exact fb_retV (u := ()) X I trivial dX5_wind_20
set_option maxHeartbeats 4000000 in
set_option maxRecDepth 100000 in
theorem c_X5_wind (l : Launch) (D : va_G) (cI cJ : ClassId) (zq : Nat → Nat) (zp : fb_PS)  (sz : Nat)  : Met l yX5_wind (Cond.code yX5_wind cX5_wind 1 none :: fb_all) ({ frames := 0, cells := 0, slots := 0, locals := 0 } : Room) (fb_PP D (fb_ty D cI cJ) [.ref (zq 5)] ((fb_pw cI zq zp)) sz) (fb_QV D (va_A ((fb_pw cI zq zp)) sz) (fun (_ : Unit) => True) (fun (t : Unit) => (fb_pw cI zq (((f_X5_wind zp)))))) 0 0 (va_A ((fb_pw cI zq zp)) sz) := by
  refine fb_ent (Qf := fun A => (fb_QV D A (fun (_ : Unit) => True) (fun (t : Unit) => (fb_pw cI zq (((f_X5_wind zp))))))) (by decide +kernel) (Nat.le_of_ble_eq_true rfl) ?_
  intro p e s m args below meth c A ls X I hl hin
  exact b_X5_wind_0 X  I hl rfl
/-! X5_nextRandom -/
def f_X5_nextRandom (zp : fb_PS) : Int32 × fb_PS := (if (((zp).1 10) &&& (1 : Int32)) = 0 then (((((fb_pR zp 10 (((zp).1 10) / (2 : Int32)))).1 10) - (((fb_pR zp 10 (((zp).1 10) / (2 : Int32)))).1 10) / (256 : Int32) * (256 : Int32)), (fb_pR zp 10 (((zp).1 10) / (2 : Int32)))) else (((((fb_pR zp 10 ((((zp).1 10) / (2 : Int32)) ^^^ (46080 : Int32)))).1 10) - (((fb_pR zp 10 ((((zp).1 10) / (2 : Int32)) ^^^ (46080 : Int32)))).1 10) / (256 : Int32) * (256 : Int32)), (fb_pR zp 10 ((((zp).1 10) / (2 : Int32)) ^^^ (46080 : Int32)))))
set_option maxHeartbeats 4000000 in
set_option maxRecDepth 100000 in
theorem b_X5_nextRandom_0 {p : Program} {l : Launch} {e : Env} {s : State} {m : MethodId} {args : Array Value} {below : List Frame} {meth : Method} {c : Code} {D : va_G} {cI cJ : ClassId} {A : Nat → Prop} {zq : Nat → Nat} {z : Int32 × fb_PS} (X : fb_Bx p s m args meth c cX5_nextRandom RX5 1 (some .int) D (fb_ty D cI cJ) A) {zp : fb_PS} {H : Heap} {locs : List Loc} {ls : Array Slot}  (I : fb_In D A s.heap ((fb_pw cI zq zp)) H locs) (hl : lv_has ls 1 [(0, .ref (zq 5))]) (E : z = f_X5_nextRandom zp) : W p l e ({ frames := 0, cells := 0, slots := 0, locals := 0 } : Room) s m args below meth c H locs 0 0 (MQ below (fb_QI D A (fun (r : Int32) (_ : Unit) => r = z.1) (fun (t : Unit) => (fb_pw cI zq (z.2)))) args s 0 0 A) (F0 m 0 ls []) := by
  obtain ⟨hx, hb, hr, hml, hown, hts, hlk, hA, hK, hF⟩ := id X
  refine lv_aload_n hx hb dX5_nextRandom_0 rfl (lv_at hl 0 rfl) ?_
  refine lv_aload_n hx hb dX5_nextRandom_1 rfl (lv_at hl 0 rfl) ?_
  refine fb_get X I (k := 10) fu_X5 0 rfl rfl (Nat.le_of_ble_eq_true rfl) fw_478 rfl rfl dX5_nextRandom_2 ?_
  refine lv_iconst (v := (1 : Int32)) hx hb dX5_nextRandom_5 (by decide) ?_
  refine lv_iand hx hb dX5_nextRandom_6 ?_
  refine lv_if_ne (tgt := 19) hx hb dX5_nextRandom_7 (by decide) (fun c1 => ?_) (fun c1 => ?_)
  · have E2 := (E.trans (if_neg c1))
    refine lv_aload_n hx hb dX5_nextRandom_19 rfl (lv_at hl 0 rfl) ?_
    refine fb_get X I (k := 10) fu_X5 0 rfl rfl (Nat.le_of_ble_eq_true rfl) fw_478 rfl rfl dX5_nextRandom_20 ?_
    refine lv_iconst (v := (2 : Int32)) hx hb dX5_nextRandom_23 (by decide) ?_
    refine lv_idiv hx hb dX5_nextRandom_24 (by decide) ?_
    refine lv_ldc hx hb hown (hts _ fw_1348) dX5_nextRandom_25 ?_
    refine lv_ixor hx hb dX5_nextRandom_27 ?_
    refine fb_put X I (k := 10) (wn := (fb_pw cI zq (fb_pR zp 10 ((((zp).1 10) / (2 : Int32)) ^^^ (46080 : Int32))))) fu_X5 tyX5 tyX5_ok nmX5 0 rfl rfl (Nat.le_of_ble_eq_true rfl) fw_478 rfl rfl rfl rfl rfl (Nat.le_of_ble_eq_true rfl) fb_ps10 dX5_nextRandom_28 (fun H locs I => ?_)
    refine lv_aload_n hx hb dX5_nextRandom_31 rfl (lv_at hl 0 rfl) ?_
    refine fb_get X I (k := 10) fu_X5 0 rfl rfl (Nat.le_of_ble_eq_true rfl) fw_478 rfl rfl dX5_nextRandom_32 ?_
    refine lv_sipush (v := (256 : Int32)) hx hb dX5_nextRandom_35 (by decide) ?_
    refine lv_irem hx hb dX5_nextRandom_38 (by decide) ?_
    subst E2
    exact fb_retI (u := ()) X I rfl rfl dX5_nextRandom_39
  · have E3 := (E.trans (if_pos c1))
    refine lv_aload_n hx hb dX5_nextRandom_10 rfl (lv_at hl 0 rfl) ?_
    refine fb_get X I (k := 10) fu_X5 0 rfl rfl (Nat.le_of_ble_eq_true rfl) fw_478 rfl rfl dX5_nextRandom_11 ?_
    refine lv_iconst (v := (2 : Int32)) hx hb dX5_nextRandom_14 (by decide) ?_
    refine lv_idiv hx hb dX5_nextRandom_15 (by decide) ?_
    refine lv_goto (tgt := 28) hx hb dX5_nextRandom_16 (by decide) ?_
    refine fb_put X I (k := 10) (wn := (fb_pw cI zq (fb_pR zp 10 (((zp).1 10) / (2 : Int32))))) fu_X5 tyX5 tyX5_ok nmX5 0 rfl rfl (Nat.le_of_ble_eq_true rfl) fw_478 rfl rfl rfl rfl rfl (Nat.le_of_ble_eq_true rfl) fb_ps10 dX5_nextRandom_28 (fun H locs I => ?_)
    refine lv_aload_n hx hb dX5_nextRandom_31 rfl (lv_at hl 0 rfl) ?_
    refine fb_get X I (k := 10) fu_X5 0 rfl rfl (Nat.le_of_ble_eq_true rfl) fw_478 rfl rfl dX5_nextRandom_32 ?_
    refine lv_sipush (v := (256 : Int32)) hx hb dX5_nextRandom_35 (by decide) ?_
    refine lv_irem hx hb dX5_nextRandom_38 (by decide) ?_
    subst E3
    exact fb_retI (u := ()) X I rfl rfl dX5_nextRandom_39
set_option maxHeartbeats 4000000 in
set_option maxRecDepth 100000 in
theorem c_X5_nextRandom (l : Launch) (D : va_G) (cI cJ : ClassId) (zq : Nat → Nat) (zp : fb_PS)  (sz : Nat)  : Met l yX5_nextRandom (Cond.code yX5_nextRandom cX5_nextRandom 1 (some .int) :: fb_all) ({ frames := 0, cells := 0, slots := 0, locals := 0 } : Room) (fb_PP D (fb_ty D cI cJ) [.ref (zq 5)] ((fb_pw cI zq zp)) sz) (fb_QI D (va_A ((fb_pw cI zq zp)) sz) (fun (r : Int32) (_ : Unit) => r = ((f_X5_nextRandom zp)).1) (fun (t : Unit) => (fb_pw cI zq (((f_X5_nextRandom zp)).2)))) 0 0 (va_A ((fb_pw cI zq zp)) sz) := by
  refine fb_ent (Qf := fun A => (fb_QI D A (fun (r : Int32) (_ : Unit) => r = ((f_X5_nextRandom zp)).1) (fun (t : Unit) => (fb_pw cI zq (((f_X5_nextRandom zp)).2))))) (by decide +kernel) (Nat.le_of_ble_eq_true rfl) ?_
  intro p e s m args below meth c A ls X I hl hin
  exact b_X5_nextRandom_0 X  I hl rfl
/-! X5_ring -/
def f_X5_ring (zp : fb_PS) : fb_PS := (if ((((fb_pR zp 4 (((zp).1 4) ||| (1 : Int32)))).1 9) &&& (2 : Int32)) = 0 then (fb_pR (fb_pR zp 4 (((zp).1 4) ||| (1 : Int32))) 9 ((((fb_pR zp 4 (((zp).1 4) ||| (1 : Int32)))).1 9) &&& (-2 : Int32))) else ((f_X5_wind (fb_pR zp 4 (((zp).1 4) ||| (1 : Int32))))))
set_option maxHeartbeats 4000000 in
set_option maxRecDepth 100000 in
theorem b_X5_ring_0 {p : Program} {l : Launch} {e : Env} {s : State} {m : MethodId} {args : Array Value} {below : List Frame} {meth : Method} {c : Code} {D : va_G} {cI cJ : ClassId} {A : Nat → Prop} {zq : Nat → Nat} {z : fb_PS} (X : fb_Bx p s m args meth c cX5_ring RX5 1 none D (fb_ty D cI cJ) A) {zp : fb_PS} {H : Heap} {locs : List Loc} {ls : Array Slot}  (I : fb_In D A s.heap ((fb_pw cI zq zp)) H locs) (hl : lv_has ls 1 [(0, .ref (zq 5))]) (E : z = f_X5_ring zp) : W p l e ({ frames := 1, cells := 0, slots := 0, locals := 20 } : Room) s m args below meth c H locs 0 0 (MQ below (fb_QV D A (fun (_ : Unit) => True) (fun (t : Unit) => (fb_pw cI zq (z)))) args s 0 0 A) (F0 m 0 ls []) := by
  obtain ⟨hx, hb, hr, hml, hown, hts, hlk, hA, hK, hF⟩ := id X
  refine lv_aload_n hx hb dX5_ring_0 rfl (lv_at hl 0 rfl) ?_
  refine lv_dup hx hb dX5_ring_1 rfl ?_
  refine fb_get X I (k := 4) fu_X5 0 rfl rfl (Nat.le_of_ble_eq_true rfl) fw_467 rfl rfl dX5_ring_2 ?_
  refine lv_iconst (v := (1 : Int32)) hx hb dX5_ring_5 (by decide) ?_
  refine lv_ior hx hb dX5_ring_6 ?_
  refine fb_put X I (k := 4) (wn := (fb_pw cI zq (fb_pR zp 4 (((zp).1 4) ||| (1 : Int32))))) fu_X5 tyX5 tyX5_ok nmX5 0 rfl rfl (Nat.le_of_ble_eq_true rfl) fw_467 rfl rfl rfl rfl rfl (Nat.le_of_ble_eq_true rfl) fb_ps4 dX5_ring_7 (fun H locs I => ?_)
  refine lv_aload_n hx hb dX5_ring_10 rfl (lv_at hl 0 rfl) ?_
  refine fb_get X I (k := 9) fu_X5 0 rfl rfl (Nat.le_of_ble_eq_true rfl) fw_477 rfl rfl dX5_ring_11 ?_
  refine lv_iconst (v := (2 : Int32)) hx hb dX5_ring_14 (by decide) ?_
  refine lv_iand hx hb dX5_ring_15 ?_
  refine lv_if_eq (tgt := 26) hx hb dX5_ring_16 (by decide) (fun c1 => ?_) (fun c1 => ?_)
  · have E2 := (E.trans (if_pos c1))
    refine lv_aload_n hx hb dX5_ring_26 rfl (lv_at hl 0 rfl) ?_
    refine lv_dup hx hb dX5_ring_27 rfl ?_
    refine fb_get X I (k := 9) fu_X5 0 rfl rfl (Nat.le_of_ble_eq_true rfl) fw_477 rfl rfl dX5_ring_28 ?_
    refine lv_bipush (v := (-2 : Int32)) hx hb dX5_ring_31 (by decide) ?_
    refine lv_iand hx hb dX5_ring_33 ?_
    refine fb_put X I (k := 9) (wn := (fb_pw cI zq (fb_pR (fb_pR zp 4 (((zp).1 4) ||| (1 : Int32))) 9 ((((fb_pR zp 4 (((zp).1 4) ||| (1 : Int32)))).1 9) &&& (-2 : Int32))))) fu_X5 tyX5 tyX5_ok nmX5 0 rfl rfl (Nat.le_of_ble_eq_true rfl) fw_477 rfl rfl rfl rfl rfl (Nat.le_of_ble_eq_true rfl) fb_ps9 dX5_ring_34 (fun H locs I => ?_)
    subst E2
    exact fb_retV (u := ()) X I trivial dX5_ring_37
  · have E3 := (E.trans (if_neg c1))
    refine lv_aload_n hx hb dX5_ring_19 rfl (lv_at hl 0 rfl) ?_
    refine fb_goV (wn := fun (w4 : Unit) => (fb_pw cI zq ((f_X5_wind (fb_pR zp 4 (((zp).1 4) ||| (1 : Int32))))))) X I (fb_runV (As := []) (rest := []) (q0 := 0) X I hl (c_X5_wind l D cI cJ zq (fb_pR zp 4 (((zp).1 4) ||| (1 : Int32))) _) (fb_goodV fw_1323 fw_1325 fw_67 fw_199 fw_1326) rfl rfl rfl (by decide +kernel : fb_hd yX5_wind 0) ⟨Nat.le_of_ble_eq_true rfl, Nat.le_of_ble_eq_true rfl⟩ [0, 1, 2] (by decide) rfl rfl rfl rfl rfl rfl (Nat.le_of_ble_eq_true rfl) ⟨Nat.zero_le _, Nat.zero_le _⟩ dX5_ring_20) [0, 1, 2] [] [0, 1, 2] rfl rfl (by decide) (by decide) (by decide) (fun _ => rfl) ?_
    intro w4 H locs _ I
    refine lv_goto (tgt := 37) hx hb dX5_ring_23 (by decide) ?_
    subst E3
    exact fb_retV (u := ()) X I trivial dX5_ring_37
set_option maxHeartbeats 4000000 in
set_option maxRecDepth 100000 in
theorem c_X5_ring (l : Launch) (D : va_G) (cI cJ : ClassId) (zq : Nat → Nat) (zp : fb_PS)  (sz : Nat)  : Met l yX5_ring (Cond.code yX5_ring cX5_ring 1 none :: fb_all) ({ frames := 1, cells := 0, slots := 0, locals := 20 } : Room) (fb_PP D (fb_ty D cI cJ) [.ref (zq 5)] ((fb_pw cI zq zp)) sz) (fb_QV D (va_A ((fb_pw cI zq zp)) sz) (fun (_ : Unit) => True) (fun (t : Unit) => (fb_pw cI zq (((f_X5_ring zp)))))) 0 0 (va_A ((fb_pw cI zq zp)) sz) := by
  refine fb_ent (Qf := fun A => (fb_QV D A (fun (_ : Unit) => True) (fun (t : Unit) => (fb_pw cI zq (((f_X5_ring zp))))))) (by decide +kernel) (Nat.le_of_ble_eq_true rfl) ?_
  intro p e s m args below meth c A ls X I hl hin
  exact b_X5_ring_0 X  I hl rfl
/-! X5_pass -/
def f_X5_pass_2  : Nat → fb_PS → Int32 → Int32 → fb_PS
  | 0, zp, _, _ => zp
  | n + 1, zp, l1, l2 => (if l1 ≤ l2 then zp else (if (((zp).1 9) &&& (1 : Int32)) = 0 then zp else (if (((fb_pR zp 8 (((zp).1 8) - (1 : Int32)))).1 8) = 0 then f_X5_pass_2 n ((f_X5_ring (fb_pR zp 8 (((zp).1 8) - (1 : Int32))))) l1 (l2 + (1 : Int32)) else f_X5_pass_2 n (fb_pR zp 8 (((zp).1 8) - (1 : Int32))) l1 (l2 + (1 : Int32)))))
def f_X5_pass (zp : fb_PS) (l1 : Int32) : fb_PS := f_X5_pass_2 ((fb_mu (0 : Int32) l1) + 1) zp l1 (0 : Int32)
set_option maxHeartbeats 4000000 in
set_option maxRecDepth 100000 in
theorem b_X5_pass_2 {p : Program} {l : Launch} {e : Env} {s : State} {m : MethodId} {args : Array Value} {below : List Frame} {meth : Method} {c : Code} {D : va_G} {cI cJ : ClassId} {A : Nat → Prop} {zq : Nat → Nat} {z : fb_PS} (X : fb_Bx p s m args meth c cX5_pass RX5 3 none D (fb_ty D cI cJ) A)  : ∀ (n : Nat) {zp : fb_PS} {l1 : Int32} {l2 : Int32} {H : Heap} {locs : List Loc} {ls : Array Slot} (hm : (fb_mu l2 l1) < n) (I : fb_In D A s.heap ((fb_pw cI zq zp)) H locs) (hl : lv_has ls 3 [(0, .ref (zq 5)), (1, .int l1), (2, .int l2)]) (E : z = f_X5_pass_2 n zp l1 l2), W p l e ({ frames := 2, cells := 0, slots := 0, locals := 40 } : Room) s m args below meth c H locs 0 0 (MQ below (fb_QV D A (fun (_ : Unit) => True) (fun (t : Unit) => (fb_pw cI zq (z)))) args s 0 0 A) (F0 m 2 ls []) := by
  intro n
  obtain ⟨hx, hb, hr, hml, hown, hts, hlk, hA, hK, hF⟩ := id X
  induction n with
  | zero =>
    intro zp l1 l2 H locs ls hm
    exact absurd hm (Nat.not_lt_zero _)
  | succ n ih =>
    intro zp l1 l2 H locs ls hm I hl E
    refine lv_iload_n hx hb dX5_pass_2 rfl (lv_at hl 2 rfl) ?_
    refine lv_iload_n hx hb dX5_pass_3 rfl (lv_at hl 1 rfl) ?_
    refine lv_icmp_ge (tgt := 43) hx hb dX5_pass_4 (by decide) (fun c1 => ?_) (fun c1 => ?_)
    · have E2 := (E.trans (if_pos c1))
      subst E2
      exact fb_retV (u := ()) X I trivial dX5_pass_43
    · have E3 := (E.trans (if_neg c1))
      refine lv_aload_n hx hb dX5_pass_7 rfl (lv_at hl 0 rfl) ?_
      refine fb_get X I (k := 9) fu_X5 0 rfl rfl (Nat.le_of_ble_eq_true rfl) fw_477 rfl rfl dX5_pass_8 ?_
      refine lv_iconst (v := (1 : Int32)) hx hb dX5_pass_11 (by decide) ?_
      refine lv_iand hx hb dX5_pass_12 ?_
      refine lv_if_eq (tgt := 43) hx hb dX5_pass_13 (by decide) (fun c4 => ?_) (fun c4 => ?_)
      · have E5 := (E3.trans (if_pos c4))
        subst E5
        exact fb_retV (u := ()) X I trivial dX5_pass_43
      · have E6 := (E3.trans (if_neg c4))
        refine lv_aload_n hx hb dX5_pass_16 rfl (lv_at hl 0 rfl) ?_
        refine lv_dup hx hb dX5_pass_17 rfl ?_
        refine fb_get X I (k := 8) fu_X5 0 rfl rfl (Nat.le_of_ble_eq_true rfl) fw_475 rfl rfl dX5_pass_18 ?_
        refine lv_iconst (v := (1 : Int32)) hx hb dX5_pass_21 (by decide) ?_
        refine lv_isub hx hb dX5_pass_22 ?_
        refine fb_put X I (k := 8) (wn := (fb_pw cI zq (fb_pR zp 8 (((zp).1 8) - (1 : Int32))))) fu_X5 tyX5 tyX5_ok nmX5 0 rfl rfl (Nat.le_of_ble_eq_true rfl) fw_475 rfl rfl rfl rfl rfl (Nat.le_of_ble_eq_true rfl) fb_ps8 dX5_pass_23 (fun H locs I => ?_)
        refine lv_aload_n hx hb dX5_pass_26 rfl (lv_at hl 0 rfl) ?_
        refine fb_get X I (k := 8) fu_X5 0 rfl rfl (Nat.le_of_ble_eq_true rfl) fw_475 rfl rfl dX5_pass_27 ?_
        refine lv_if_ne (tgt := 37) hx hb dX5_pass_30 (by decide) (fun c7 => ?_) (fun c7 => ?_)
        · have E8 := (E6.trans (if_neg c7))
          refine lv_iinc (v := (l2 + (1 : Int32))) (lv' := [(2, .int (l2 + (1 : Int32))), (0, .ref (zq 5)), (1, .int l1)]) hx hb dX5_pass_37 hl (k := 2) rfl rfl (by decide) rfl (fun ls hl => ?_)
          refine lv_goto (tgt := 2) hx hb dX5_pass_40 (by decide) ?_
          exact ih (l1 := l1) (l2 := (l2 + (1 : Int32))) (fb_mu_ge c1 hm)  I (lv_sub hl [1, 2, 0] rfl) E8
        · have E9 := (E6.trans (if_pos c7))
          refine lv_aload_n hx hb dX5_pass_33 rfl (lv_at hl 0 rfl) ?_
          refine fb_goV (wn := fun (w10 : Unit) => (fb_pw cI zq ((f_X5_ring (fb_pR zp 8 (((zp).1 8) - (1 : Int32))))))) X I (fb_runV (As := []) (rest := []) (q0 := 0) X I hl (c_X5_ring l D cI cJ zq (fb_pR zp 8 (((zp).1 8) - (1 : Int32))) _) (fb_goodV fw_1373 fw_1375 fw_77 fw_199 fw_1376) rfl rfl rfl (by decide +kernel : fb_hd yX5_ring 0) ⟨Nat.le_of_ble_eq_true rfl, Nat.le_of_ble_eq_true rfl⟩ [0, 1, 2] (by decide) rfl rfl rfl rfl rfl rfl (Nat.le_of_ble_eq_true rfl) ⟨Nat.zero_le _, Nat.zero_le _⟩ dX5_pass_34) [0, 1, 2] [] [0, 1, 2] rfl rfl (by decide) (by decide) (by decide) (fun _ => rfl) ?_
          intro w10 H locs _ I
          refine lv_iinc (v := (l2 + (1 : Int32))) (lv' := [(2, .int (l2 + (1 : Int32))), (0, .ref (zq 5)), (1, .int l1)]) hx hb dX5_pass_37 hl (k := 2) rfl rfl (by decide) rfl (fun ls hl => ?_)
          refine lv_goto (tgt := 2) hx hb dX5_pass_40 (by decide) ?_
          exact ih (l1 := l1) (l2 := (l2 + (1 : Int32))) (fb_mu_ge c1 hm)  I (lv_sub hl [1, 2, 0] rfl) E9
set_option maxHeartbeats 4000000 in
set_option maxRecDepth 100000 in
theorem b_X5_pass_0 {p : Program} {l : Launch} {e : Env} {s : State} {m : MethodId} {args : Array Value} {below : List Frame} {meth : Method} {c : Code} {D : va_G} {cI cJ : ClassId} {A : Nat → Prop} {zq : Nat → Nat} {z : fb_PS} (X : fb_Bx p s m args meth c cX5_pass RX5 3 none D (fb_ty D cI cJ) A) {zp : fb_PS} {l1 : Int32} {H : Heap} {locs : List Loc} {ls : Array Slot}  (I : fb_In D A s.heap ((fb_pw cI zq zp)) H locs) (hl : lv_has ls 3 [(0, .ref (zq 5)), (1, .int l1)]) (E : z = f_X5_pass zp l1) : W p l e ({ frames := 2, cells := 0, slots := 0, locals := 40 } : Room) s m args below meth c H locs 0 0 (MQ below (fb_QV D A (fun (_ : Unit) => True) (fun (t : Unit) => (fb_pw cI zq (z)))) args s 0 0 A) (F0 m 0 ls []) := by
  obtain ⟨hx, hb, hr, hml, hown, hts, hlk, hA, hK, hF⟩ := id X
  refine lv_iconst (v := (0 : Int32)) hx hb dX5_pass_0 (by decide) ?_
  refine lv_istore_n (lv' := [(2, .int (0 : Int32)), (0, .ref (zq 5)), (1, .int l1)]) hx hb dX5_pass_1 rfl hl (by decide) rfl (fun ls hl => ?_)
  exact b_X5_pass_2 X  ((fb_mu (0 : Int32) l1) + 1) (l1 := l1) (l2 := (0 : Int32)) (Nat.lt_succ_self _)  I (lv_sub hl [1, 2, 0] rfl) E
set_option maxHeartbeats 4000000 in
set_option maxRecDepth 100000 in
theorem c_X5_pass (l : Launch) (D : va_G) (cI cJ : ClassId) (zq : Nat → Nat) (zp : fb_PS) (l1 : Int32) (sz : Nat)  : Met l yX5_pass (Cond.code yX5_pass cX5_pass 3 none :: fb_all) ({ frames := 2, cells := 0, slots := 0, locals := 40 } : Room) (fb_PP D (fb_ty D cI cJ) [.ref (zq 5), .int l1] ((fb_pw cI zq zp)) sz) (fb_QV D (va_A ((fb_pw cI zq zp)) sz) (fun (_ : Unit) => True) (fun (t : Unit) => (fb_pw cI zq (((f_X5_pass zp l1)))))) 0 0 (va_A ((fb_pw cI zq zp)) sz) := by
  refine fb_ent (Qf := fun A => (fb_QV D A (fun (_ : Unit) => True) (fun (t : Unit) => (fb_pw cI zq (((f_X5_pass zp l1))))))) (by decide +kernel) (Nat.le_of_ble_eq_true rfl) ?_
  intro p e s m args below meth c A ls X I hl hin
  exact b_X5_pass_0 X  I hl rfl
/-! X5_firstInput -/
def f_X5_firstInput_26  : Nat → fb_PS → Int32 → Int32 → Int32 × fb_PS
  | 0, zp, _, _ => (0, zp)
  | n + 1, zp, l1, l2 => (if (nI 16) ≤ l2 then (l1, (fb_pR zp 5 (((zp).1 5) - (1 : Int32)))) else f_X5_firstInput_26 n (fb_pI zp (upd ((zp).2.1) ((l2 - (1 : Int32))).toNatClampNeg (((zp).2.1) (l2).toNatClampNeg))) l1 (l2 + (1 : Int32)))
def f_X5_firstInput (zp : fb_PS) : Int32 × fb_PS := (if ((zp).1 5) = 0 then ((0 : Int32), zp) else (if (nI 16) = 0 then ((0 : Int32), zp) else f_X5_firstInput_26 ((fb_mu (1 : Int32) (nI 16)) + 1) zp (((zp).2.1) ((0 : Int32)).toNatClampNeg) (1 : Int32)))
set_option maxHeartbeats 4000000 in
set_option maxRecDepth 100000 in
theorem b_X5_firstInput_26 {p : Program} {l : Launch} {e : Env} {s : State} {m : MethodId} {args : Array Value} {below : List Frame} {meth : Method} {c : Code} {D : va_G} {cI cJ : ClassId} {A : Nat → Prop} {zq : Nat → Nat} {z : Int32 × fb_PS} (X : fb_Bx p s m args meth c cX5_firstInput RX5 3 (some .int) D (fb_ty D cI cJ) A)  : ∀ (n : Nat) {zp : fb_PS} {l1 : Int32} {l2 : Int32} {H : Heap} {locs : List Loc} {ls : Array Slot} (hm : (fb_mu l2 (nI 16)) < n) (hv : 1 ≤ (l2).toInt) (I : fb_In D A s.heap ((fb_pw cI zq zp)) H locs) (hl : lv_has ls 3 [(0, .ref (zq 5)), (1, .int l1), (2, .int l2)]) (E : z = f_X5_firstInput_26 n zp l1 l2), W p l e ({ frames := 0, cells := 0, slots := 0, locals := 0 } : Room) s m args below meth c H locs 0 0 (MQ below (fb_QI D A (fun (r : Int32) (_ : Unit) => r = z.1) (fun (t : Unit) => (fb_pw cI zq (z.2)))) args s 0 0 A) (F0 m 26 ls []) := by
  intro n
  obtain ⟨hx, hb, hr, hml, hown, hts, hlk, hA, hK, hF⟩ := id X
  induction n with
  | zero =>
    intro zp l1 l2 H locs ls hm
    exact absurd hm (Nat.not_lt_zero _)
  | succ n ih =>
    intro zp l1 l2 H locs ls hm hv I hl E
    refine lv_iload_n hx hb dX5_firstInput_26 rfl (lv_at hl 2 rfl) ?_
    refine lv_aload_n hx hb dX5_firstInput_27 rfl (lv_at hl 0 rfl) ?_
    refine fb_get X I (k := 0) fu_X5 0 rfl rfl (Nat.le_of_ble_eq_true rfl) fw_460 rfl rfl dX5_firstInput_28 ?_
    refine fb_alen (v := nI 16) X I 1 0 rfl rfl rfl dX5_firstInput_31 ?_
    refine lv_icmp_ge (tgt := 55) hx hb dX5_firstInput_32 (by decide) (fun c7 => ?_) (fun c7 => ?_)
    · have E8 := (E.trans (if_pos c7))
      refine lv_aload_n hx hb dX5_firstInput_55 rfl (lv_at hl 0 rfl) ?_
      refine lv_dup hx hb dX5_firstInput_56 rfl ?_
      refine fb_get X I (k := 5) fu_X5 0 rfl rfl (Nat.le_of_ble_eq_true rfl) fw_470 rfl rfl dX5_firstInput_57 ?_
      refine lv_iconst (v := (1 : Int32)) hx hb dX5_firstInput_60 (by decide) ?_
      refine lv_isub hx hb dX5_firstInput_61 ?_
      refine fb_put X I (k := 5) (wn := (fb_pw cI zq (fb_pR zp 5 (((zp).1 5) - (1 : Int32))))) fu_X5 tyX5 tyX5_ok nmX5 0 rfl rfl (Nat.le_of_ble_eq_true rfl) fw_470 rfl rfl rfl rfl rfl (Nat.le_of_ble_eq_true rfl) fb_ps5 dX5_firstInput_62 (fun H locs I => ?_)
      refine lv_iload_n hx hb dX5_firstInput_65 rfl (lv_at hl 1 rfl) ?_
      subst E8
      exact fb_retI (u := ()) X I rfl rfl dX5_firstInput_66
    · have E9 := (E.trans (if_neg c7))
      refine lv_aload_n hx hb dX5_firstInput_35 rfl (lv_at hl 0 rfl) ?_
      refine fb_get X I (k := 0) fu_X5 0 rfl rfl (Nat.le_of_ble_eq_true rfl) fw_460 rfl rfl dX5_firstInput_36 ?_
      refine lv_iload_n hx hb dX5_firstInput_39 rfl (lv_at hl 2 rfl) ?_
      refine lv_iconst (v := (1 : Int32)) hx hb dX5_firstInput_40 (by decide) ?_
      refine lv_isub hx hb dX5_firstInput_41 ?_
      refine lv_aload_n hx hb dX5_firstInput_42 rfl (lv_at hl 0 rfl) ?_
      refine fb_get X I (k := 0) fu_X5 0 rfl rfl (Nat.le_of_ble_eq_true rfl) fw_460 rfl rfl dX5_firstInput_43 ?_
      refine lv_iload_n hx hb dX5_firstInput_46 rfl (lv_at hl 2 rfl) ?_
      refine fb_iald X I (i := l2) 1 0 rfl rfl (fb_ir (by decide) (fb_in1n hv) c7) dX5_firstInput_47 ?_
      refine fb_iast (wn := (fb_pw cI zq (fb_pI zp (upd ((zp).2.1) ((l2 - (1 : Int32))).toNatClampNeg (((zp).2.1) (l2).toNatClampNeg))))) X I (i := (l2 - (1 : Int32))) 1 0 rfl rfl (fb_ir (by decide) (fb_in1p hv) (fb_in1q hv c7)) rfl dX5_firstInput_48 (fun H locs I => ?_)
      refine lv_iinc (v := (l2 + (1 : Int32))) (lv' := [(2, .int (l2 + (1 : Int32))), (0, .ref (zq 5)), (1, .int l1)]) hx hb dX5_firstInput_49 hl (k := 2) rfl rfl (by decide) rfl (fun ls hl => ?_)
      refine lv_goto (tgt := 26) hx hb dX5_firstInput_52 (by decide) ?_
      exact ih (l1 := l1) (l2 := (l2 + (1 : Int32))) (fb_mu_ge c7 hm) (fb_in1 c7 hv) I (lv_sub hl [1, 2, 0] rfl) E9
set_option maxHeartbeats 4000000 in
set_option maxRecDepth 100000 in
theorem b_X5_firstInput_0 {p : Program} {l : Launch} {e : Env} {s : State} {m : MethodId} {args : Array Value} {below : List Frame} {meth : Method} {c : Code} {D : va_G} {cI cJ : ClassId} {A : Nat → Prop} {zq : Nat → Nat} {z : Int32 × fb_PS} (X : fb_Bx p s m args meth c cX5_firstInput RX5 3 (some .int) D (fb_ty D cI cJ) A) {zp : fb_PS} {H : Heap} {locs : List Loc} {ls : Array Slot}  (I : fb_In D A s.heap ((fb_pw cI zq zp)) H locs) (hl : lv_has ls 3 [(0, .ref (zq 5))]) (E : z = f_X5_firstInput zp) : W p l e ({ frames := 0, cells := 0, slots := 0, locals := 0 } : Room) s m args below meth c H locs 0 0 (MQ below (fb_QI D A (fun (r : Int32) (_ : Unit) => r = z.1) (fun (t : Unit) => (fb_pw cI zq (z.2)))) args s 0 0 A) (F0 m 0 ls []) := by
  obtain ⟨hx, hb, hr, hml, hown, hts, hlk, hA, hK, hF⟩ := id X
  refine lv_aload_n hx hb dX5_firstInput_0 rfl (lv_at hl 0 rfl) ?_
  refine fb_get X I (k := 5) fu_X5 0 rfl rfl (Nat.le_of_ble_eq_true rfl) fw_470 rfl rfl dX5_firstInput_1 ?_
  refine lv_if_eq (tgt := 15) hx hb dX5_firstInput_4 (by decide) (fun c1 => ?_) (fun c1 => ?_)
  · have E2 := (E.trans (if_pos c1))
    refine lv_iconst (v := (0 : Int32)) hx hb dX5_firstInput_15 (by decide) ?_
    subst E2
    exact fb_retI (u := ()) X I rfl rfl dX5_firstInput_16
  · have E3 := (E.trans (if_neg c1))
    refine lv_aload_n hx hb dX5_firstInput_7 rfl (lv_at hl 0 rfl) ?_
    refine fb_get X I (k := 0) fu_X5 0 rfl rfl (Nat.le_of_ble_eq_true rfl) fw_460 rfl rfl dX5_firstInput_8 ?_
    refine fb_alen (v := nI 16) X I 1 0 rfl rfl rfl dX5_firstInput_11 ?_
    refine lv_if_ne (tgt := 17) hx hb dX5_firstInput_12 (by decide) (fun c4 => ?_) (fun c4 => ?_)
    · have E5 := (E3.trans (if_neg c4))
      refine lv_aload_n hx hb dX5_firstInput_17 rfl (lv_at hl 0 rfl) ?_
      refine fb_get X I (k := 0) fu_X5 0 rfl rfl (Nat.le_of_ble_eq_true rfl) fw_460 rfl rfl dX5_firstInput_18 ?_
      refine lv_iconst (v := (0 : Int32)) hx hb dX5_firstInput_21 (by decide) ?_
      refine fb_iald X I (i := (0 : Int32)) 1 0 rfl rfl (fb_ir (by decide) (by decide) (by decide)) dX5_firstInput_22 ?_
      refine lv_istore_n (lv' := [(1, .int (((zp).2.1) ((0 : Int32)).toNatClampNeg)), (0, .ref (zq 5))]) hx hb dX5_firstInput_23 rfl hl (by decide) rfl (fun ls hl => ?_)
      refine lv_iconst (v := (1 : Int32)) hx hb dX5_firstInput_24 (by decide) ?_
      refine lv_istore_n (lv' := [(2, .int (1 : Int32)), (1, .int (((zp).2.1) ((0 : Int32)).toNatClampNeg)), (0, .ref (zq 5))]) hx hb dX5_firstInput_25 rfl hl (by decide) rfl (fun ls hl => ?_)
      exact b_X5_firstInput_26 X  ((fb_mu (1 : Int32) (nI 16)) + 1) (l1 := (((zp).2.1) ((0 : Int32)).toNatClampNeg)) (l2 := (1 : Int32)) (Nat.lt_succ_self _) (by decide) I (lv_sub hl [2, 1, 0] rfl) E5
    · have E6 := (E3.trans (if_pos c4))
      refine lv_iconst (v := (0 : Int32)) hx hb dX5_firstInput_15 (by decide) ?_
      subst E6
      exact fb_retI (u := ()) X I rfl rfl dX5_firstInput_16
set_option maxHeartbeats 4000000 in
set_option maxRecDepth 100000 in
theorem c_X5_firstInput (l : Launch) (D : va_G) (cI cJ : ClassId) (zq : Nat → Nat) (zp : fb_PS)  (sz : Nat)  : Met l yX5_firstInput (Cond.code yX5_firstInput cX5_firstInput 3 (some .int) :: fb_all) ({ frames := 0, cells := 0, slots := 0, locals := 0 } : Room) (fb_PP D (fb_ty D cI cJ) [.ref (zq 5)] ((fb_pw cI zq zp)) sz) (fb_QI D (va_A ((fb_pw cI zq zp)) sz) (fun (r : Int32) (_ : Unit) => r = ((f_X5_firstInput zp)).1) (fun (t : Unit) => (fb_pw cI zq (((f_X5_firstInput zp)).2)))) 0 0 (va_A ((fb_pw cI zq zp)) sz) := by
  refine fb_ent (Qf := fun A => (fb_QI D A (fun (r : Int32) (_ : Unit) => r = ((f_X5_firstInput zp)).1) (fun (t : Unit) => (fb_pw cI zq (((f_X5_firstInput zp)).2))))) (by decide +kernel) (Nat.le_of_ble_eq_true rfl) ?_
  intro p e s m args below meth c A ls X I hl hin
  exact b_X5_firstInput_0 X  I hl rfl
/-! X5_copyFrom -/
def f_X5_copyFrom (zp : fb_PS) (zr : fb_PS) : fb_PS := (fb_pR zr 13 0)
set_option maxHeartbeats 4000000 in
set_option maxRecDepth 100000 in
theorem b_X5_copyFrom_0 {p : Program} {l : Launch} {e : Env} {s : State} {m : MethodId} {args : Array Value} {below : List Frame} {meth : Method} {c : Code} {D : va_G} {cI cJ : ClassId} {A : Nat → Prop} {zq : Nat → Nat} {zq2 : Nat → Nat} {z : fb_PS} (X : fb_Bx p s m args meth c cX5_copyFrom RX5 2 none D (fb_ty D cI cJ) A) {zp : fb_PS} {zr : fb_PS} {H : Heap} {locs : List Loc} {ls : Array Slot}  (I : fb_In D A s.heap ((fb_pw cI zq zp) ++ (fb_pw cI zq2 zr)) H locs) (hl : lv_has ls 2 [(0, .ref (zq 5)), (1, .ref (zq2 5))]) (E : z = f_X5_copyFrom zp zr) : W p l e ({ frames := 1, cells := 0, slots := 0, locals := 40 } : Room) s m args below meth c H locs 0 0 (MQ below (fb_QV D A (fun (_ : Unit) => True) (fun (t : Unit) => (fb_pw cI zq (z)) ++ (fb_pw cI zq2 zr))) args s 0 0 A) (F0 m 0 ls []) := by
  obtain ⟨hx, hb, hr, hml, hown, hts, hlk, hA, hK, hF⟩ := id X
  refine lv_aload_n hx hb dX5_copyFrom_0 rfl (lv_at hl 1 rfl) ?_
  refine fb_get X I (k := 0) fu_X5 3 rfl rfl (Nat.le_of_ble_eq_true rfl) fw_460 rfl rfl dX5_copyFrom_1 ?_
  refine lv_iconst (v := (0 : Int32)) hx hb dX5_copyFrom_4 (by decide) ?_
  refine lv_aload_n hx hb dX5_copyFrom_5 rfl (lv_at hl 0 rfl) ?_
  refine fb_get X I (k := 0) fu_X5 0 rfl rfl (Nat.le_of_ble_eq_true rfl) fw_460 rfl rfl dX5_copyFrom_6 ?_
  refine lv_iconst (v := (0 : Int32)) hx hb dX5_copyFrom_9 (by decide) ?_
  refine lv_bipush (v := (16 : Int32)) hx hb dX5_copyFrom_10 (by decide) ?_
  refine fb_copyA (wn := (fb_pw cI zq (fb_pI zp ((zr).2.1))) ++ (fb_pw cI zq2 zr)) X I hl fw_1184 fw_1131 fw_1130 fw_216 4 1 0 0 rfl rfl rfl rfl (by decide) rfl (Nat.le_of_ble_eq_true rfl) (Nat.le_of_ble_eq_true rfl) dX5_copyFrom_12 (fun H locs I => ?_)
  refine lv_aload_n hx hb dX5_copyFrom_15 rfl (lv_at hl 1 rfl) ?_
  refine fb_get X I (k := 1) fu_X5 3 rfl rfl (Nat.le_of_ble_eq_true rfl) fw_461 rfl rfl dX5_copyFrom_16 ?_
  refine lv_iconst (v := (0 : Int32)) hx hb dX5_copyFrom_19 (by decide) ?_
  refine lv_aload_n hx hb dX5_copyFrom_20 rfl (lv_at hl 0 rfl) ?_
  refine fb_get X I (k := 1) fu_X5 0 rfl rfl (Nat.le_of_ble_eq_true rfl) fw_461 rfl rfl dX5_copyFrom_21 ?_
  refine lv_iconst (v := (0 : Int32)) hx hb dX5_copyFrom_24 (by decide) ?_
  refine lv_bipush (v := (40 : Int32)) hx hb dX5_copyFrom_25 (by decide) ?_
  refine fb_copyA (wn := (fb_pw cI zq (fb_pO (fb_pI zp ((zr).2.1)) ((zr).2.2))) ++ (fb_pw cI zq2 zr)) X I hl fw_1184 fw_1131 fw_1130 fw_216 5 2 0 0 rfl rfl rfl rfl (by decide) rfl (Nat.le_of_ble_eq_true rfl) (Nat.le_of_ble_eq_true rfl) dX5_copyFrom_27 (fun H locs I => ?_)
  refine lv_aload_n hx hb dX5_copyFrom_30 rfl (lv_at hl 0 rfl) ?_
  refine lv_aload_n hx hb dX5_copyFrom_31 rfl (lv_at hl 1 rfl) ?_
  refine fb_get X I (k := 2) fu_X5 3 rfl rfl (Nat.le_of_ble_eq_true rfl) fw_462 rfl rfl dX5_copyFrom_32 ?_
  refine fb_put X I (k := 2) (wn := (fb_pw cI zq (fb_pR (fb_pO (fb_pI zp ((zr).2.1)) ((zr).2.2)) 2 ((zr).1 2))) ++ (fb_pw cI zq2 zr)) fu_X5 tyX5 tyX5_ok nmX5 0 rfl rfl (Nat.le_of_ble_eq_true rfl) fw_462 rfl rfl rfl rfl rfl (Nat.le_of_ble_eq_true rfl) fb_psa2 dX5_copyFrom_35 (fun H locs I => ?_)
  refine lv_aload_n hx hb dX5_copyFrom_38 rfl (lv_at hl 0 rfl) ?_
  refine lv_aload_n hx hb dX5_copyFrom_39 rfl (lv_at hl 1 rfl) ?_
  refine fb_get X I (k := 3) fu_X5 3 rfl rfl (Nat.le_of_ble_eq_true rfl) fw_465 rfl rfl dX5_copyFrom_40 ?_
  refine fb_put X I (k := 3) (wn := (fb_pw cI zq (fb_pR (fb_pR (fb_pO (fb_pI zp ((zr).2.1)) ((zr).2.2)) 2 ((zr).1 2)) 3 ((zr).1 3))) ++ (fb_pw cI zq2 zr)) fu_X5 tyX5 tyX5_ok nmX5 0 rfl rfl (Nat.le_of_ble_eq_true rfl) fw_465 rfl rfl rfl rfl rfl (Nat.le_of_ble_eq_true rfl) fb_psa3 dX5_copyFrom_43 (fun H locs I => ?_)
  refine lv_aload_n hx hb dX5_copyFrom_46 rfl (lv_at hl 0 rfl) ?_
  refine lv_aload_n hx hb dX5_copyFrom_47 rfl (lv_at hl 1 rfl) ?_
  refine fb_get X I (k := 4) fu_X5 3 rfl rfl (Nat.le_of_ble_eq_true rfl) fw_467 rfl rfl dX5_copyFrom_48 ?_
  refine fb_put X I (k := 4) (wn := (fb_pw cI zq (fb_pR (fb_pR (fb_pR (fb_pO (fb_pI zp ((zr).2.1)) ((zr).2.2)) 2 ((zr).1 2)) 3 ((zr).1 3)) 4 ((zr).1 4))) ++ (fb_pw cI zq2 zr)) fu_X5 tyX5 tyX5_ok nmX5 0 rfl rfl (Nat.le_of_ble_eq_true rfl) fw_467 rfl rfl rfl rfl rfl (Nat.le_of_ble_eq_true rfl) fb_psa4 dX5_copyFrom_51 (fun H locs I => ?_)
  refine lv_aload_n hx hb dX5_copyFrom_54 rfl (lv_at hl 0 rfl) ?_
  refine lv_aload_n hx hb dX5_copyFrom_55 rfl (lv_at hl 1 rfl) ?_
  refine fb_get X I (k := 5) fu_X5 3 rfl rfl (Nat.le_of_ble_eq_true rfl) fw_470 rfl rfl dX5_copyFrom_56 ?_
  refine fb_put X I (k := 5) (wn := (fb_pw cI zq (fb_pR (fb_pR (fb_pR (fb_pR (fb_pO (fb_pI zp ((zr).2.1)) ((zr).2.2)) 2 ((zr).1 2)) 3 ((zr).1 3)) 4 ((zr).1 4)) 5 ((zr).1 5))) ++ (fb_pw cI zq2 zr)) fu_X5 tyX5 tyX5_ok nmX5 0 rfl rfl (Nat.le_of_ble_eq_true rfl) fw_470 rfl rfl rfl rfl rfl (Nat.le_of_ble_eq_true rfl) fb_psa5 dX5_copyFrom_59 (fun H locs I => ?_)
  refine lv_aload_n hx hb dX5_copyFrom_62 rfl (lv_at hl 0 rfl) ?_
  refine lv_aload_n hx hb dX5_copyFrom_63 rfl (lv_at hl 1 rfl) ?_
  refine fb_get X I (k := 6) fu_X5 3 rfl rfl (Nat.le_of_ble_eq_true rfl) fw_472 rfl rfl dX5_copyFrom_64 ?_
  refine fb_put X I (k := 6) (wn := (fb_pw cI zq (fb_pR (fb_pR (fb_pR (fb_pR (fb_pR (fb_pO (fb_pI zp ((zr).2.1)) ((zr).2.2)) 2 ((zr).1 2)) 3 ((zr).1 3)) 4 ((zr).1 4)) 5 ((zr).1 5)) 6 ((zr).1 6))) ++ (fb_pw cI zq2 zr)) fu_X5 tyX5 tyX5_ok nmX5 0 rfl rfl (Nat.le_of_ble_eq_true rfl) fw_472 rfl rfl rfl rfl rfl (Nat.le_of_ble_eq_true rfl) fb_psa6 dX5_copyFrom_67 (fun H locs I => ?_)
  refine lv_aload_n hx hb dX5_copyFrom_70 rfl (lv_at hl 0 rfl) ?_
  refine lv_aload_n hx hb dX5_copyFrom_71 rfl (lv_at hl 1 rfl) ?_
  refine fb_get X I (k := 7) fu_X5 3 rfl rfl (Nat.le_of_ble_eq_true rfl) fw_474 rfl rfl dX5_copyFrom_72 ?_
  refine fb_put X I (k := 7) (wn := (fb_pw cI zq (fb_pR (fb_pR (fb_pR (fb_pR (fb_pR (fb_pR (fb_pO (fb_pI zp ((zr).2.1)) ((zr).2.2)) 2 ((zr).1 2)) 3 ((zr).1 3)) 4 ((zr).1 4)) 5 ((zr).1 5)) 6 ((zr).1 6)) 7 ((zr).1 7))) ++ (fb_pw cI zq2 zr)) fu_X5 tyX5 tyX5_ok nmX5 0 rfl rfl (Nat.le_of_ble_eq_true rfl) fw_474 rfl rfl rfl rfl rfl (Nat.le_of_ble_eq_true rfl) fb_psa7 dX5_copyFrom_75 (fun H locs I => ?_)
  refine lv_aload_n hx hb dX5_copyFrom_78 rfl (lv_at hl 0 rfl) ?_
  refine lv_aload_n hx hb dX5_copyFrom_79 rfl (lv_at hl 1 rfl) ?_
  refine fb_get X I (k := 8) fu_X5 3 rfl rfl (Nat.le_of_ble_eq_true rfl) fw_475 rfl rfl dX5_copyFrom_80 ?_
  refine fb_put X I (k := 8) (wn := (fb_pw cI zq (fb_pR (fb_pR (fb_pR (fb_pR (fb_pR (fb_pR (fb_pR (fb_pO (fb_pI zp ((zr).2.1)) ((zr).2.2)) 2 ((zr).1 2)) 3 ((zr).1 3)) 4 ((zr).1 4)) 5 ((zr).1 5)) 6 ((zr).1 6)) 7 ((zr).1 7)) 8 ((zr).1 8))) ++ (fb_pw cI zq2 zr)) fu_X5 tyX5 tyX5_ok nmX5 0 rfl rfl (Nat.le_of_ble_eq_true rfl) fw_475 rfl rfl rfl rfl rfl (Nat.le_of_ble_eq_true rfl) fb_psa8 dX5_copyFrom_83 (fun H locs I => ?_)
  refine lv_aload_n hx hb dX5_copyFrom_86 rfl (lv_at hl 0 rfl) ?_
  refine lv_aload_n hx hb dX5_copyFrom_87 rfl (lv_at hl 1 rfl) ?_
  refine fb_get X I (k := 9) fu_X5 3 rfl rfl (Nat.le_of_ble_eq_true rfl) fw_477 rfl rfl dX5_copyFrom_88 ?_
  refine fb_put X I (k := 9) (wn := (fb_pw cI zq (fb_pR (fb_pR (fb_pR (fb_pR (fb_pR (fb_pR (fb_pR (fb_pR (fb_pO (fb_pI zp ((zr).2.1)) ((zr).2.2)) 2 ((zr).1 2)) 3 ((zr).1 3)) 4 ((zr).1 4)) 5 ((zr).1 5)) 6 ((zr).1 6)) 7 ((zr).1 7)) 8 ((zr).1 8)) 9 ((zr).1 9))) ++ (fb_pw cI zq2 zr)) fu_X5 tyX5 tyX5_ok nmX5 0 rfl rfl (Nat.le_of_ble_eq_true rfl) fw_477 rfl rfl rfl rfl rfl (Nat.le_of_ble_eq_true rfl) fb_psa9 dX5_copyFrom_91 (fun H locs I => ?_)
  refine lv_aload_n hx hb dX5_copyFrom_94 rfl (lv_at hl 0 rfl) ?_
  refine lv_aload_n hx hb dX5_copyFrom_95 rfl (lv_at hl 1 rfl) ?_
  refine fb_get X I (k := 10) fu_X5 3 rfl rfl (Nat.le_of_ble_eq_true rfl) fw_478 rfl rfl dX5_copyFrom_96 ?_
  refine fb_put X I (k := 10) (wn := (fb_pw cI zq (fb_pR (fb_pR (fb_pR (fb_pR (fb_pR (fb_pR (fb_pR (fb_pR (fb_pR (fb_pO (fb_pI zp ((zr).2.1)) ((zr).2.2)) 2 ((zr).1 2)) 3 ((zr).1 3)) 4 ((zr).1 4)) 5 ((zr).1 5)) 6 ((zr).1 6)) 7 ((zr).1 7)) 8 ((zr).1 8)) 9 ((zr).1 9)) 10 ((zr).1 10))) ++ (fb_pw cI zq2 zr)) fu_X5 tyX5 tyX5_ok nmX5 0 rfl rfl (Nat.le_of_ble_eq_true rfl) fw_478 rfl rfl rfl rfl rfl (Nat.le_of_ble_eq_true rfl) fb_psa10 dX5_copyFrom_99 (fun H locs I => ?_)
  refine lv_aload_n hx hb dX5_copyFrom_102 rfl (lv_at hl 0 rfl) ?_
  refine lv_aload_n hx hb dX5_copyFrom_103 rfl (lv_at hl 1 rfl) ?_
  refine fb_get X I (k := 11) fu_X5 3 rfl rfl (Nat.le_of_ble_eq_true rfl) fw_479 rfl rfl dX5_copyFrom_104 ?_
  refine fb_put X I (k := 11) (wn := (fb_pw cI zq (fb_pR (fb_pR (fb_pR (fb_pR (fb_pR (fb_pR (fb_pR (fb_pR (fb_pR (fb_pR (fb_pO (fb_pI zp ((zr).2.1)) ((zr).2.2)) 2 ((zr).1 2)) 3 ((zr).1 3)) 4 ((zr).1 4)) 5 ((zr).1 5)) 6 ((zr).1 6)) 7 ((zr).1 7)) 8 ((zr).1 8)) 9 ((zr).1 9)) 10 ((zr).1 10)) 11 ((zr).1 11))) ++ (fb_pw cI zq2 zr)) fu_X5 tyX5 tyX5_ok nmX5 0 rfl rfl (Nat.le_of_ble_eq_true rfl) fw_479 rfl rfl rfl rfl rfl (Nat.le_of_ble_eq_true rfl) fb_psa11 dX5_copyFrom_107 (fun H locs I => ?_)
  refine lv_aload_n hx hb dX5_copyFrom_110 rfl (lv_at hl 0 rfl) ?_
  refine lv_aload_n hx hb dX5_copyFrom_111 rfl (lv_at hl 1 rfl) ?_
  refine fb_get X I (k := 12) fu_X5 3 rfl rfl (Nat.le_of_ble_eq_true rfl) fw_481 rfl rfl dX5_copyFrom_112 ?_
  refine fb_put X I (k := 12) (wn := (fb_pw cI zq (fb_pR (fb_pR (fb_pR (fb_pR (fb_pR (fb_pR (fb_pR (fb_pR (fb_pR (fb_pR (fb_pR (fb_pO (fb_pI zp ((zr).2.1)) ((zr).2.2)) 2 ((zr).1 2)) 3 ((zr).1 3)) 4 ((zr).1 4)) 5 ((zr).1 5)) 6 ((zr).1 6)) 7 ((zr).1 7)) 8 ((zr).1 8)) 9 ((zr).1 9)) 10 ((zr).1 10)) 11 ((zr).1 11)) 12 ((zr).1 12))) ++ (fb_pw cI zq2 zr)) fu_X5 tyX5 tyX5_ok nmX5 0 rfl rfl (Nat.le_of_ble_eq_true rfl) fw_481 rfl rfl rfl rfl rfl (Nat.le_of_ble_eq_true rfl) fb_psa12 dX5_copyFrom_115 (fun H locs I => ?_)
  refine lv_aload_n hx hb dX5_copyFrom_118 rfl (lv_at hl 0 rfl) ?_
  refine lv_iconst (v := (0 : Int32)) hx hb dX5_copyFrom_119 (by decide) ?_
  refine fb_put X I (k := 13) (wn := (fb_pw cI zq (fb_pR (fb_pR (fb_pR (fb_pR (fb_pR (fb_pR (fb_pR (fb_pR (fb_pR (fb_pR (fb_pR (fb_pR (fb_pO (fb_pI zp ((zr).2.1)) ((zr).2.2)) 2 ((zr).1 2)) 3 ((zr).1 3)) 4 ((zr).1 4)) 5 ((zr).1 5)) 6 ((zr).1 6)) 7 ((zr).1 7)) 8 ((zr).1 8)) 9 ((zr).1 9)) 10 ((zr).1 10)) 11 ((zr).1 11)) 12 ((zr).1 12)) 13 (0 : Int32))) ++ (fb_pw cI zq2 zr)) fu_X5 tyX5 tyX5_ok nmX5 0 rfl rfl (Nat.le_of_ble_eq_true rfl) fw_483 rfl rfl rfl rfl rfl (Nat.le_of_ble_eq_true rfl) fb_psa13 dX5_copyFrom_120 (fun H locs I => ?_)
  have I : fb_In D A s.heap ((fb_pw cI zq (fb_pR zr 13 0)) ++ (fb_pw cI zq2 zr)) H locs := I
  subst E
  exact fb_retV (u := ()) X I trivial dX5_copyFrom_123
set_option maxHeartbeats 4000000 in
set_option maxRecDepth 100000 in
theorem c_X5_copyFrom (l : Launch) (D : va_G) (cI cJ : ClassId) (zq : Nat → Nat) (zp : fb_PS) (zq2 : Nat → Nat) (zr : fb_PS)  (sz : Nat)  : Met l yX5_copyFrom (Cond.code yX5_copyFrom cX5_copyFrom 2 none :: fb_all) ({ frames := 1, cells := 0, slots := 0, locals := 40 } : Room) (fb_PP D (fb_ty D cI cJ) [.ref (zq 5), .ref (zq2 5)] ((fb_pw cI zq zp) ++ (fb_pw cI zq2 zr)) sz) (fb_QV D (va_A ((fb_pw cI zq zp) ++ (fb_pw cI zq2 zr)) sz) (fun (_ : Unit) => True) (fun (t : Unit) => (fb_pw cI zq (((f_X5_copyFrom zp zr)))) ++ (fb_pw cI zq2 zr))) 0 0 (va_A ((fb_pw cI zq zp) ++ (fb_pw cI zq2 zr)) sz) := by
  refine fb_ent (Qf := fun A => (fb_QV D A (fun (_ : Unit) => True) (fun (t : Unit) => (fb_pw cI zq (((f_X5_copyFrom zp zr)))) ++ (fb_pw cI zq2 zr)))) (by decide +kernel) (Nat.le_of_ble_eq_true rfl) ?_
  intro p e s m args below meth c A ls X I hl hin
  exact b_X5_copyFrom_0 X  I hl rfl
/-! X5_read -/
def f_X5_read (zp : fb_PS) (l1 : Int32) (l2 : Int32) : Int32 × fb_PS := (if l1 = (0 : Int32) then (((zp).1 2), zp) else (if l1 = (1 : Int32) then (((zp).1 3), zp) else (if l1 = (2 : Int32) then (((zp).1 4), zp) else (if l1 = (3 : Int32) then ((((zp).1 6) - ((zp).1 6) / (256 : Int32) * (256 : Int32)), zp) else (if l1 = (4 : Int32) then (((f_X5_firstInput zp).1), ((f_X5_firstInput zp).2)) else (if l1 = (5 : Int32) then (((zp).1 5), zp) else (if l1 = (6 : Int32) then ((((zp).1 8) - ((zp).1 8) / (256 : Int32) * (256 : Int32)), zp) else (if l1 = (7 : Int32) then (((((zp).1 8) / (256 : Int32)) - (((zp).1 8) / (256 : Int32)) / (256 : Int32) * (256 : Int32)), zp) else (if l1 = (8 : Int32) then (((zp).1 9), zp) else (if l1 = (9 : Int32) then (((f_X5_nextRandom zp).1), ((f_X5_nextRandom zp).2)) else (if l1 = (10 : Int32) then ((((zp).1 11) - ((zp).1 11) / (256 : Int32) * (256 : Int32)), zp) else (if l1 = (11 : Int32) then ((((zp).1 11) / (256 : Int32)), zp) else (if l1 = (12 : Int32) then ((((zp).1 12) - ((zp).1 12) / (256 : Int32) * (256 : Int32)), zp) else (if l1 = (13 : Int32) then ((((zp).1 12) / (256 : Int32)), zp) else (if l1 = (14 : Int32) then ((0 : Int32), zp) else (if l1 = (15 : Int32) then ((l2 - l2 / (256 : Int32) * (256 : Int32)), zp) else ((0 : Int32), zp)))))))))))))))))
set_option maxHeartbeats 4000000 in
set_option maxRecDepth 100000 in
theorem b_X5_read_0 {p : Program} {l : Launch} {e : Env} {s : State} {m : MethodId} {args : Array Value} {below : List Frame} {meth : Method} {c : Code} {D : va_G} {cI cJ : ClassId} {A : Nat → Prop} {zq : Nat → Nat} {z : Int32 × fb_PS} (X : fb_Bx p s m args meth c cX5_read RX5 3 (some .int) D (fb_ty D cI cJ) A) {zp : fb_PS} {l1 : Int32} {l2 : Int32} {H : Heap} {locs : List Loc} {ls : Array Slot}  (I : fb_In D A s.heap ((fb_pw cI zq zp)) H locs) (hl : lv_has ls 3 [(0, .ref (zq 5)), (1, .int l1), (2, .int l2)]) (E : z = f_X5_read zp l1 l2) : W p l e ({ frames := 1, cells := 0, slots := 0, locals := 22 } : Room) s m args below meth c H locs 0 0 (MQ below (fb_QI D A (fun (r : Int32) (_ : Unit) => r = z.1) (fun (t : Unit) => (fb_pw cI zq (z.2)))) args s 0 0 A) (F0 m 0 ls []) := by
  obtain ⟨hx, hb, hr, hml, hown, hts, hlk, hA, hK, hF⟩ := id X
  refine lv_iload_n hx hb dX5_read_0 rfl (lv_at hl 1 rfl) ?_
  by_cases c1 : l1 = (0 : Int32)
  · have E2 := (E.trans (if_pos c1))
    refine lv_tableIn (tgt := 80) hx hb dX5_read_1 (by rw [c1]; decide) (by rw [c1]; decide) (by rw [c1]; rfl) (by decide) ?_
    refine lv_aload_n hx hb dX5_read_80 rfl (lv_at hl 0 rfl) ?_
    refine fb_get X I (k := 2) fu_X5 0 rfl rfl (Nat.le_of_ble_eq_true rfl) fw_462 rfl rfl dX5_read_81 ?_
    subst E2
    exact fb_retI (u := ()) X I rfl rfl dX5_read_84
  have E3 := (E.trans (if_neg c1))
  by_cases c4 : l1 = (1 : Int32)
  · have E5 := (E3.trans (if_pos c4))
    refine lv_tableIn (tgt := 85) hx hb dX5_read_1 (by rw [c4]; decide) (by rw [c4]; decide) (by rw [c4]; rfl) (by decide) ?_
    refine lv_aload_n hx hb dX5_read_85 rfl (lv_at hl 0 rfl) ?_
    refine fb_get X I (k := 3) fu_X5 0 rfl rfl (Nat.le_of_ble_eq_true rfl) fw_465 rfl rfl dX5_read_86 ?_
    subst E5
    exact fb_retI (u := ()) X I rfl rfl dX5_read_89
  have E6 := (E3.trans (if_neg c4))
  by_cases c7 : l1 = (2 : Int32)
  · have E8 := (E6.trans (if_pos c7))
    refine lv_tableIn (tgt := 90) hx hb dX5_read_1 (by rw [c7]; decide) (by rw [c7]; decide) (by rw [c7]; rfl) (by decide) ?_
    refine lv_aload_n hx hb dX5_read_90 rfl (lv_at hl 0 rfl) ?_
    refine fb_get X I (k := 4) fu_X5 0 rfl rfl (Nat.le_of_ble_eq_true rfl) fw_467 rfl rfl dX5_read_91 ?_
    subst E8
    exact fb_retI (u := ()) X I rfl rfl dX5_read_94
  have E9 := (E6.trans (if_neg c7))
  by_cases c10 : l1 = (3 : Int32)
  · have E11 := (E9.trans (if_pos c10))
    refine lv_tableIn (tgt := 95) hx hb dX5_read_1 (by rw [c10]; decide) (by rw [c10]; decide) (by rw [c10]; rfl) (by decide) ?_
    refine lv_aload_n hx hb dX5_read_95 rfl (lv_at hl 0 rfl) ?_
    refine fb_get X I (k := 6) fu_X5 0 rfl rfl (Nat.le_of_ble_eq_true rfl) fw_472 rfl rfl dX5_read_96 ?_
    refine lv_sipush (v := (256 : Int32)) hx hb dX5_read_99 (by decide) ?_
    refine lv_irem hx hb dX5_read_102 (by decide) ?_
    subst E11
    exact fb_retI (u := ()) X I rfl rfl dX5_read_103
  have E12 := (E9.trans (if_neg c10))
  by_cases c13 : l1 = (4 : Int32)
  · have E14 := (E12.trans (if_pos c13))
    refine lv_tableIn (tgt := 104) hx hb dX5_read_1 (by rw [c13]; decide) (by rw [c13]; decide) (by rw [c13]; rfl) (by decide) ?_
    refine lv_aload_n hx hb dX5_read_104 rfl (lv_at hl 0 rfl) ?_
    refine fb_goI (wn := fun (w15 : Unit) => (fb_pw cI zq ((f_X5_firstInput zp).2))) X I (fb_runV (As := []) (rest := []) (q0 := 0) X I hl (c_X5_firstInput l D cI cJ zq zp _) (fb_goodV fw_1340 fw_1342 fw_70 fw_199 fw_1343) rfl rfl rfl (by decide +kernel : fb_hd yX5_firstInput 0) ⟨Nat.le_of_ble_eq_true rfl, Nat.le_of_ble_eq_true rfl⟩ [0, 1, 2] (by decide) rfl rfl rfl rfl rfl rfl (Nat.le_of_ble_eq_true rfl) ⟨Nat.zero_le _, Nat.zero_le _⟩ dX5_read_105) [0, 1, 2] [] [0, 1, 2] rfl rfl (by decide) (by decide) (by decide) (fun _ => rfl) ?_
    intro r16 w15 H locs e0 I
    subst e0
    subst E14
    exact fb_retI (u := ()) X I rfl rfl dX5_read_108
  have E17 := (E12.trans (if_neg c13))
  by_cases c18 : l1 = (5 : Int32)
  · have E19 := (E17.trans (if_pos c18))
    refine lv_tableIn (tgt := 109) hx hb dX5_read_1 (by rw [c18]; decide) (by rw [c18]; decide) (by rw [c18]; rfl) (by decide) ?_
    refine lv_aload_n hx hb dX5_read_109 rfl (lv_at hl 0 rfl) ?_
    refine fb_get X I (k := 5) fu_X5 0 rfl rfl (Nat.le_of_ble_eq_true rfl) fw_470 rfl rfl dX5_read_110 ?_
    subst E19
    exact fb_retI (u := ()) X I rfl rfl dX5_read_113
  have E20 := (E17.trans (if_neg c18))
  by_cases c21 : l1 = (6 : Int32)
  · have E22 := (E20.trans (if_pos c21))
    refine lv_tableIn (tgt := 114) hx hb dX5_read_1 (by rw [c21]; decide) (by rw [c21]; decide) (by rw [c21]; rfl) (by decide) ?_
    refine lv_aload_n hx hb dX5_read_114 rfl (lv_at hl 0 rfl) ?_
    refine fb_get X I (k := 8) fu_X5 0 rfl rfl (Nat.le_of_ble_eq_true rfl) fw_475 rfl rfl dX5_read_115 ?_
    refine lv_sipush (v := (256 : Int32)) hx hb dX5_read_118 (by decide) ?_
    refine lv_irem hx hb dX5_read_121 (by decide) ?_
    subst E22
    exact fb_retI (u := ()) X I rfl rfl dX5_read_122
  have E23 := (E20.trans (if_neg c21))
  by_cases c24 : l1 = (7 : Int32)
  · have E25 := (E23.trans (if_pos c24))
    refine lv_tableIn (tgt := 123) hx hb dX5_read_1 (by rw [c24]; decide) (by rw [c24]; decide) (by rw [c24]; rfl) (by decide) ?_
    refine lv_aload_n hx hb dX5_read_123 rfl (lv_at hl 0 rfl) ?_
    refine fb_get X I (k := 8) fu_X5 0 rfl rfl (Nat.le_of_ble_eq_true rfl) fw_475 rfl rfl dX5_read_124 ?_
    refine lv_sipush (v := (256 : Int32)) hx hb dX5_read_127 (by decide) ?_
    refine lv_idiv hx hb dX5_read_130 (by decide) ?_
    refine lv_sipush (v := (256 : Int32)) hx hb dX5_read_131 (by decide) ?_
    refine lv_irem hx hb dX5_read_134 (by decide) ?_
    subst E25
    exact fb_retI (u := ()) X I rfl rfl dX5_read_135
  have E26 := (E23.trans (if_neg c24))
  by_cases c27 : l1 = (8 : Int32)
  · have E28 := (E26.trans (if_pos c27))
    refine lv_tableIn (tgt := 136) hx hb dX5_read_1 (by rw [c27]; decide) (by rw [c27]; decide) (by rw [c27]; rfl) (by decide) ?_
    refine lv_aload_n hx hb dX5_read_136 rfl (lv_at hl 0 rfl) ?_
    refine fb_get X I (k := 9) fu_X5 0 rfl rfl (Nat.le_of_ble_eq_true rfl) fw_477 rfl rfl dX5_read_137 ?_
    subst E28
    exact fb_retI (u := ()) X I rfl rfl dX5_read_140
  have E29 := (E26.trans (if_neg c27))
  by_cases c30 : l1 = (9 : Int32)
  · have E31 := (E29.trans (if_pos c30))
    refine lv_tableIn (tgt := 141) hx hb dX5_read_1 (by rw [c30]; decide) (by rw [c30]; decide) (by rw [c30]; rfl) (by decide) ?_
    refine lv_aload_n hx hb dX5_read_141 rfl (lv_at hl 0 rfl) ?_
    refine fb_goI (wn := fun (w32 : Unit) => (fb_pw cI zq ((f_X5_nextRandom zp).2))) X I (fb_runV (As := []) (rest := []) (q0 := 0) X I hl (c_X5_nextRandom l D cI cJ zq zp _) (fb_goodV fw_1344 fw_1346 fw_71 fw_199 fw_1347) rfl rfl rfl (by decide +kernel : fb_hd yX5_nextRandom 0) ⟨Nat.le_of_ble_eq_true rfl, Nat.le_of_ble_eq_true rfl⟩ [0, 1, 2] (by decide) rfl rfl rfl rfl rfl rfl (Nat.le_of_ble_eq_true rfl) ⟨Nat.zero_le _, Nat.zero_le _⟩ dX5_read_142) [0, 1, 2] [] [0, 1, 2] rfl rfl (by decide) (by decide) (by decide) (fun _ => rfl) ?_
    intro r33 w32 H locs e0 I
    subst e0
    subst E31
    exact fb_retI (u := ()) X I rfl rfl dX5_read_145
  have E34 := (E29.trans (if_neg c30))
  by_cases c35 : l1 = (10 : Int32)
  · have E36 := (E34.trans (if_pos c35))
    refine lv_tableIn (tgt := 146) hx hb dX5_read_1 (by rw [c35]; decide) (by rw [c35]; decide) (by rw [c35]; rfl) (by decide) ?_
    refine lv_aload_n hx hb dX5_read_146 rfl (lv_at hl 0 rfl) ?_
    refine fb_get X I (k := 11) fu_X5 0 rfl rfl (Nat.le_of_ble_eq_true rfl) fw_479 rfl rfl dX5_read_147 ?_
    refine lv_sipush (v := (256 : Int32)) hx hb dX5_read_150 (by decide) ?_
    refine lv_irem hx hb dX5_read_153 (by decide) ?_
    subst E36
    exact fb_retI (u := ()) X I rfl rfl dX5_read_154
  have E37 := (E34.trans (if_neg c35))
  by_cases c38 : l1 = (11 : Int32)
  · have E39 := (E37.trans (if_pos c38))
    refine lv_tableIn (tgt := 155) hx hb dX5_read_1 (by rw [c38]; decide) (by rw [c38]; decide) (by rw [c38]; rfl) (by decide) ?_
    refine lv_aload_n hx hb dX5_read_155 rfl (lv_at hl 0 rfl) ?_
    refine fb_get X I (k := 11) fu_X5 0 rfl rfl (Nat.le_of_ble_eq_true rfl) fw_479 rfl rfl dX5_read_156 ?_
    refine lv_sipush (v := (256 : Int32)) hx hb dX5_read_159 (by decide) ?_
    refine lv_idiv hx hb dX5_read_162 (by decide) ?_
    subst E39
    exact fb_retI (u := ()) X I rfl rfl dX5_read_163
  have E40 := (E37.trans (if_neg c38))
  by_cases c41 : l1 = (12 : Int32)
  · have E42 := (E40.trans (if_pos c41))
    refine lv_tableIn (tgt := 164) hx hb dX5_read_1 (by rw [c41]; decide) (by rw [c41]; decide) (by rw [c41]; rfl) (by decide) ?_
    refine lv_aload_n hx hb dX5_read_164 rfl (lv_at hl 0 rfl) ?_
    refine fb_get X I (k := 12) fu_X5 0 rfl rfl (Nat.le_of_ble_eq_true rfl) fw_481 rfl rfl dX5_read_165 ?_
    refine lv_sipush (v := (256 : Int32)) hx hb dX5_read_168 (by decide) ?_
    refine lv_irem hx hb dX5_read_171 (by decide) ?_
    subst E42
    exact fb_retI (u := ()) X I rfl rfl dX5_read_172
  have E43 := (E40.trans (if_neg c41))
  by_cases c44 : l1 = (13 : Int32)
  · have E45 := (E43.trans (if_pos c44))
    refine lv_tableIn (tgt := 173) hx hb dX5_read_1 (by rw [c44]; decide) (by rw [c44]; decide) (by rw [c44]; rfl) (by decide) ?_
    refine lv_aload_n hx hb dX5_read_173 rfl (lv_at hl 0 rfl) ?_
    refine fb_get X I (k := 12) fu_X5 0 rfl rfl (Nat.le_of_ble_eq_true rfl) fw_481 rfl rfl dX5_read_174 ?_
    refine lv_sipush (v := (256 : Int32)) hx hb dX5_read_177 (by decide) ?_
    refine lv_idiv hx hb dX5_read_180 (by decide) ?_
    subst E45
    exact fb_retI (u := ()) X I rfl rfl dX5_read_181
  have E46 := (E43.trans (if_neg c44))
  by_cases c47 : l1 = (14 : Int32)
  · have E48 := (E46.trans (if_pos c47))
    refine lv_tableIn (tgt := 188) hx hb dX5_read_1 (by rw [c47]; decide) (by rw [c47]; decide) (by rw [c47]; rfl) (by decide) ?_
    refine lv_iconst (v := (0 : Int32)) hx hb dX5_read_188 (by decide) ?_
    subst E48
    exact fb_retI (u := ()) X I rfl rfl dX5_read_189
  have E49 := (E46.trans (if_neg c47))
  by_cases c50 : l1 = (15 : Int32)
  · have E51 := (E49.trans (if_pos c50))
    refine lv_tableIn (tgt := 182) hx hb dX5_read_1 (by rw [c50]; decide) (by rw [c50]; decide) (by rw [c50]; rfl) (by decide) ?_
    refine lv_iload_n hx hb dX5_read_182 rfl (lv_at hl 2 rfl) ?_
    refine lv_sipush (v := (256 : Int32)) hx hb dX5_read_183 (by decide) ?_
    refine lv_irem hx hb dX5_read_186 (by decide) ?_
    subst E51
    exact fb_retI (u := ()) X I rfl rfl dX5_read_187
  have E52 := (E49.trans (if_neg c50))
  refine lv_tableOut (tgt := 188) hx hb dX5_read_1 (fb_tab_0_16 c1 c4 c7 c10 c13 c18 c21 c24 c27 c30 c35 c38 c41 c44 c47 c50) (by decide) ?_
  refine lv_iconst (v := (0 : Int32)) hx hb dX5_read_188 (by decide) ?_
  subst E52
  exact fb_retI (u := ()) X I rfl rfl dX5_read_189
set_option maxHeartbeats 4000000 in
set_option maxRecDepth 100000 in
theorem c_X5_read (l : Launch) (D : va_G) (cI cJ : ClassId) (zq : Nat → Nat) (zp : fb_PS) (l1 : Int32) (l2 : Int32) (sz : Nat)  : Met l yX5_read (Cond.code yX5_read cX5_read 3 (some .int) :: fb_all) ({ frames := 1, cells := 0, slots := 0, locals := 22 } : Room) (fb_PP D (fb_ty D cI cJ) [.ref (zq 5), .int l1, .int l2] ((fb_pw cI zq zp)) sz) (fb_QI D (va_A ((fb_pw cI zq zp)) sz) (fun (r : Int32) (_ : Unit) => r = ((f_X5_read zp l1 l2)).1) (fun (t : Unit) => (fb_pw cI zq (((f_X5_read zp l1 l2)).2)))) 0 0 (va_A ((fb_pw cI zq zp)) sz) := by
  refine fb_ent (Qf := fun A => (fb_QI D A (fun (r : Int32) (_ : Unit) => r = ((f_X5_read zp l1 l2)).1) (fun (t : Unit) => (fb_pw cI zq (((f_X5_read zp l1 l2)).2))))) (by decide +kernel) (Nat.le_of_ble_eq_true rfl) ?_
  intro p e s m args below meth c A ls X I hl hin
  exact b_X5_read_0 X  I hl rfl
/-! X5_write -/
def f_X5_write (zp : fb_PS) (l1 : Int32) (l2 : Int32) : fb_PS := (if l1 = (0 : Int32) then (fb_pR zp 2 (l2 - l2 / (8 : Int32) * (8 : Int32))) else (if l1 = (1 : Int32) then (fb_pR zp 3 (l2 - l2 / (16 : Int32) * (16 : Int32))) else (if l1 = (2 : Int32) then (fb_pR zp 4 (((zp).1 4) &&& (l2 ^^^ (-1 : Int32)))) else (if l1 = (3 : Int32) then (fb_pR (fb_pO zp ((f_X11_put 40 ((zp).2.2) (((zp).1 6) - ((zp).1 6) / (40 : Int32) * (40 : Int32)) l2))) 6 ((((fb_pO zp ((f_X11_put 40 ((zp).2.2) (((zp).1 6) - ((zp).1 6) / (40 : Int32) * (40 : Int32)) l2)))).1 6) + (1 : Int32))) else (if l1 = (4 : Int32) then zp else (if l1 = (5 : Int32) then zp else (if l1 = (6 : Int32) then (fb_pR zp 7 (f_X5_withLow zp ((zp).1 7) l2)) else (if l1 = (7 : Int32) then (fb_pR zp 7 (f_X5_withHigh zp ((zp).1 7) l2)) else (if l1 = (8 : Int32) then (if (l2 &&& (1 : Int32)) ≤ (((zp).1 9) &&& (1 : Int32)) then (fb_pR zp 9 (l2 - l2 / (4 : Int32) * (4 : Int32))) else (fb_pR ((f_X5_wind zp)) 9 (l2 - l2 / (4 : Int32) * (4 : Int32)))) else (if l1 = (9 : Int32) then (fb_pR zp 10 (l2 + (256 : Int32))) else (if l1 = (10 : Int32) then (fb_pR zp 11 (f_X5_withLow zp ((zp).1 11) l2)) else (if l1 = (11 : Int32) then (fb_pR zp 11 (f_X5_withHigh zp ((zp).1 11) l2)) else (if l1 = (12 : Int32) then (fb_pR zp 12 (f_X5_withLow zp ((zp).1 12) l2)) else (if l1 = (13 : Int32) then (fb_pR zp 12 (f_X5_withHigh zp ((zp).1 12) l2)) else (if l1 = (14 : Int32) then (fb_pR zp 13 l2) else zp)))))))))))))))
set_option maxHeartbeats 4000000 in
set_option maxRecDepth 100000 in
theorem b_X5_write_0 {p : Program} {l : Launch} {e : Env} {s : State} {m : MethodId} {args : Array Value} {below : List Frame} {meth : Method} {c : Code} {D : va_G} {cI cJ : ClassId} {A : Nat → Prop} {zq : Nat → Nat} {z : fb_PS} (X : fb_Bx p s m args meth c cX5_write RX5 3 none D (fb_ty D cI cJ) A) {zp : fb_PS} {l1 : Int32} {l2 : Int32} {H : Heap} {locs : List Loc} {ls : Array Slot}  (I : fb_In D A s.heap ((fb_pw cI zq zp)) H locs) (hl : lv_has ls 3 [(0, .ref (zq 5)), (1, .int l1), (2, .int l2)]) (E : z = f_X5_write zp l1 l2) : W p l e ({ frames := 1, cells := 0, slots := 0, locals := 22 } : Room) s m args below meth c H locs 0 0 (MQ below (fb_QV D A (fun (_ : Unit) => True) (fun (t : Unit) => (fb_pw cI zq (z)))) args s 0 0 A) (F0 m 0 ls []) := by
  obtain ⟨hx, hb, hr, hml, hown, hts, hlk, hA, hK, hF⟩ := id X
  refine lv_iload_n hx hb dX5_write_0 rfl (lv_at hl 1 rfl) ?_
  by_cases c1 : l1 = (0 : Int32)
  · have E2 := (E.trans (if_pos c1))
    refine lv_tableIn (tgt := 76) hx hb dX5_write_1 (by rw [c1]; decide) (by rw [c1]; decide) (by rw [c1]; rfl) (by decide) ?_
    refine lv_aload_n hx hb dX5_write_76 rfl (lv_at hl 0 rfl) ?_
    refine lv_iload_n hx hb dX5_write_77 rfl (lv_at hl 2 rfl) ?_
    refine lv_bipush (v := (8 : Int32)) hx hb dX5_write_78 (by decide) ?_
    refine lv_irem hx hb dX5_write_80 (by decide) ?_
    refine fb_put X I (k := 2) (wn := (fb_pw cI zq (fb_pR zp 2 (l2 - l2 / (8 : Int32) * (8 : Int32))))) fu_X5 tyX5 tyX5_ok nmX5 0 rfl rfl (Nat.le_of_ble_eq_true rfl) fw_462 rfl rfl rfl rfl rfl (Nat.le_of_ble_eq_true rfl) fb_ps2 dX5_write_81 (fun H locs I => ?_)
    refine lv_goto (tgt := 283) hx hb dX5_write_84 (by decide) ?_
    subst E2
    exact fb_retV (u := ()) X I trivial dX5_write_283
  have E3 := (E.trans (if_neg c1))
  by_cases c4 : l1 = (1 : Int32)
  · have E5 := (E3.trans (if_pos c4))
    refine lv_tableIn (tgt := 87) hx hb dX5_write_1 (by rw [c4]; decide) (by rw [c4]; decide) (by rw [c4]; rfl) (by decide) ?_
    refine lv_aload_n hx hb dX5_write_87 rfl (lv_at hl 0 rfl) ?_
    refine lv_iload_n hx hb dX5_write_88 rfl (lv_at hl 2 rfl) ?_
    refine lv_bipush (v := (16 : Int32)) hx hb dX5_write_89 (by decide) ?_
    refine lv_irem hx hb dX5_write_91 (by decide) ?_
    refine fb_put X I (k := 3) (wn := (fb_pw cI zq (fb_pR zp 3 (l2 - l2 / (16 : Int32) * (16 : Int32))))) fu_X5 tyX5 tyX5_ok nmX5 0 rfl rfl (Nat.le_of_ble_eq_true rfl) fw_465 rfl rfl rfl rfl rfl (Nat.le_of_ble_eq_true rfl) fb_ps3 dX5_write_92 (fun H locs I => ?_)
    refine lv_goto (tgt := 283) hx hb dX5_write_95 (by decide) ?_
    subst E5
    exact fb_retV (u := ()) X I trivial dX5_write_283
  have E6 := (E3.trans (if_neg c4))
  by_cases c7 : l1 = (2 : Int32)
  · have E8 := (E6.trans (if_pos c7))
    refine lv_tableIn (tgt := 98) hx hb dX5_write_1 (by rw [c7]; decide) (by rw [c7]; decide) (by rw [c7]; rfl) (by decide) ?_
    refine lv_aload_n hx hb dX5_write_98 rfl (lv_at hl 0 rfl) ?_
    refine lv_dup hx hb dX5_write_99 rfl ?_
    refine fb_get X I (k := 4) fu_X5 0 rfl rfl (Nat.le_of_ble_eq_true rfl) fw_467 rfl rfl dX5_write_100 ?_
    refine lv_iload_n hx hb dX5_write_103 rfl (lv_at hl 2 rfl) ?_
    refine lv_iconst (v := (-1 : Int32)) hx hb dX5_write_104 (by decide) ?_
    refine lv_ixor hx hb dX5_write_105 ?_
    refine lv_iand hx hb dX5_write_106 ?_
    refine fb_put X I (k := 4) (wn := (fb_pw cI zq (fb_pR zp 4 (((zp).1 4) &&& (l2 ^^^ (-1 : Int32)))))) fu_X5 tyX5 tyX5_ok nmX5 0 rfl rfl (Nat.le_of_ble_eq_true rfl) fw_467 rfl rfl rfl rfl rfl (Nat.le_of_ble_eq_true rfl) fb_ps4 dX5_write_107 (fun H locs I => ?_)
    refine lv_goto (tgt := 283) hx hb dX5_write_110 (by decide) ?_
    subst E8
    exact fb_retV (u := ()) X I trivial dX5_write_283
  have E9 := (E6.trans (if_neg c7))
  by_cases c10 : l1 = (3 : Int32)
  · have E11 := (E9.trans (if_pos c10))
    refine lv_tableIn (tgt := 113) hx hb dX5_write_1 (by rw [c10]; decide) (by rw [c10]; decide) (by rw [c10]; rfl) (by decide) ?_
    refine lv_aload_n hx hb dX5_write_113 rfl (lv_at hl 0 rfl) ?_
    refine fb_get X I (k := 1) fu_X5 0 rfl rfl (Nat.le_of_ble_eq_true rfl) fw_461 rfl rfl dX5_write_114 ?_
    refine lv_aload_n hx hb dX5_write_117 rfl (lv_at hl 0 rfl) ?_
    refine fb_get X I (k := 6) fu_X5 0 rfl rfl (Nat.le_of_ble_eq_true rfl) fw_472 rfl rfl dX5_write_118 ?_
    refine lv_bipush (v := (40 : Int32)) hx hb dX5_write_121 (by decide) ?_
    refine lv_irem hx hb dX5_write_123 (by decide) ?_
    refine lv_iload_n hx hb dX5_write_124 rfl (lv_at hl 2 rfl) ?_
    refine fb_goV (wn := fun (w12 : Unit) => (fb_pw cI zq (fb_pO zp ((f_X11_put 40 ((zp).2.2) (((zp).1 6) - ((zp).1 6) / (40 : Int32) * (40 : Int32)) l2))))) X I (fb_runSN (As := [.ref (zq 7), .int (((zp).1 6) - ((zp).1 6) / (40 : Int32) * (40 : Int32)), .int l2]) (rest := []) X I hl (c_X11_put l D cI cJ (zq 7) 40 ((zp).2.2) (((zp).1 6) - ((zp).1 6) / (40 : Int32) * (40 : Int32)) l2 _ (by decide)) fw_756 rfl rfl (List.mem_of_getElem? (i := 32) rfl) fw_191 fw_755 (by decide +kernel : fb_hd yX11_put 3) ⟨Nat.le_of_ble_eq_true rfl, Nat.le_of_ble_eq_true rfl⟩ [2] (by decide) rfl rfl rfl (Nat.le_of_ble_eq_true rfl) ⟨Nat.zero_le _, Nat.zero_le _⟩ dX5_write_125) [2] [0, 1] [0, 1, 2] rfl rfl (by decide) (by decide) (by decide) (fun _ => rfl) ?_
    intro w12 H locs _ I
    refine lv_aload_n hx hb dX5_write_128 rfl (lv_at hl 0 rfl) ?_
    refine lv_dup hx hb dX5_write_129 rfl ?_
    refine fb_get X I (k := 6) fu_X5 0 rfl rfl (Nat.le_of_ble_eq_true rfl) fw_472 rfl rfl dX5_write_130 ?_
    refine lv_iconst (v := (1 : Int32)) hx hb dX5_write_133 (by decide) ?_
    refine lv_iadd hx hb dX5_write_134 ?_
    refine fb_put X I (k := 6) (wn := (fb_pw cI zq (fb_pR (fb_pO zp ((f_X11_put 40 ((zp).2.2) (((zp).1 6) - ((zp).1 6) / (40 : Int32) * (40 : Int32)) l2))) 6 ((((fb_pO zp ((f_X11_put 40 ((zp).2.2) (((zp).1 6) - ((zp).1 6) / (40 : Int32) * (40 : Int32)) l2)))).1 6) + (1 : Int32))))) fu_X5 tyX5 tyX5_ok nmX5 0 rfl rfl (Nat.le_of_ble_eq_true rfl) fw_472 rfl rfl rfl rfl rfl (Nat.le_of_ble_eq_true rfl) fb_ps6 dX5_write_135 (fun H locs I => ?_)
    refine lv_goto (tgt := 283) hx hb dX5_write_138 (by decide) ?_
    subst E11
    exact fb_retV (u := ()) X I trivial dX5_write_283
  have E13 := (E9.trans (if_neg c10))
  by_cases c14 : l1 = (4 : Int32)
  · have E15 := (E13.trans (if_pos c14))
    refine lv_tableIn (tgt := 283) hx hb dX5_write_1 (by rw [c14]; decide) (by rw [c14]; decide) (by rw [c14]; rfl) (by decide) ?_
    subst E15
    exact fb_retV (u := ()) X I trivial dX5_write_283
  have E16 := (E13.trans (if_neg c14))
  by_cases c17 : l1 = (5 : Int32)
  · have E18 := (E16.trans (if_pos c17))
    refine lv_tableIn (tgt := 283) hx hb dX5_write_1 (by rw [c17]; decide) (by rw [c17]; decide) (by rw [c17]; rfl) (by decide) ?_
    subst E18
    exact fb_retV (u := ()) X I trivial dX5_write_283
  have E19 := (E16.trans (if_neg c17))
  by_cases c20 : l1 = (6 : Int32)
  · have E21 := (E19.trans (if_pos c20))
    refine lv_tableIn (tgt := 141) hx hb dX5_write_1 (by rw [c20]; decide) (by rw [c20]; decide) (by rw [c20]; rfl) (by decide) ?_
    refine lv_aload_n hx hb dX5_write_141 rfl (lv_at hl 0 rfl) ?_
    refine lv_aload_n hx hb dX5_write_142 rfl (lv_at hl 0 rfl) ?_
    refine lv_aload_n hx hb dX5_write_143 rfl (lv_at hl 0 rfl) ?_
    refine fb_get X I (k := 7) fu_X5 0 rfl rfl (Nat.le_of_ble_eq_true rfl) fw_474 rfl rfl dX5_write_144 ?_
    refine lv_iload_n hx hb dX5_write_147 rfl (lv_at hl 2 rfl) ?_
    refine fb_roI X I (fb_runV (As := [.int ((zp).1 7), .int l2]) (rest := [.ref (zq 5)]) (q0 := 0) X I hl (c_X5_withLow l D cI cJ zq zp ((zp).1 7) l2 _) (fb_goodV fw_1315 fw_1317 fw_65 fw_199 fw_1318) rfl rfl rfl (by decide +kernel : fb_hd yX5_withLow 2) ⟨Nat.le_of_ble_eq_true rfl, Nat.le_of_ble_eq_true rfl⟩ [0, 1, 2] (by decide) rfl rfl rfl rfl rfl rfl (Nat.le_of_ble_eq_true rfl) ⟨Nat.zero_le _, Nat.zero_le _⟩ dX5_write_148) ?_
    refine fb_put X I (k := 7) (wn := (fb_pw cI zq (fb_pR zp 7 (f_X5_withLow zp ((zp).1 7) l2)))) fu_X5 tyX5 tyX5_ok nmX5 0 rfl rfl (Nat.le_of_ble_eq_true rfl) fw_474 rfl rfl rfl rfl rfl (Nat.le_of_ble_eq_true rfl) fb_ps7 dX5_write_151 (fun H locs I => ?_)
    refine lv_goto (tgt := 283) hx hb dX5_write_154 (by decide) ?_
    subst E21
    exact fb_retV (u := ()) X I trivial dX5_write_283
  have E22 := (E19.trans (if_neg c20))
  by_cases c23 : l1 = (7 : Int32)
  · have E24 := (E22.trans (if_pos c23))
    refine lv_tableIn (tgt := 157) hx hb dX5_write_1 (by rw [c23]; decide) (by rw [c23]; decide) (by rw [c23]; rfl) (by decide) ?_
    refine lv_aload_n hx hb dX5_write_157 rfl (lv_at hl 0 rfl) ?_
    refine lv_aload_n hx hb dX5_write_158 rfl (lv_at hl 0 rfl) ?_
    refine lv_aload_n hx hb dX5_write_159 rfl (lv_at hl 0 rfl) ?_
    refine fb_get X I (k := 7) fu_X5 0 rfl rfl (Nat.le_of_ble_eq_true rfl) fw_474 rfl rfl dX5_write_160 ?_
    refine lv_iload_n hx hb dX5_write_163 rfl (lv_at hl 2 rfl) ?_
    refine fb_roI X I (fb_runV (As := [.int ((zp).1 7), .int l2]) (rest := [.ref (zq 5)]) (q0 := 0) X I hl (c_X5_withHigh l D cI cJ zq zp ((zp).1 7) l2 _) (fb_goodV fw_1319 fw_1321 fw_66 fw_199 fw_1322) rfl rfl rfl (by decide +kernel : fb_hd yX5_withHigh 2) ⟨Nat.le_of_ble_eq_true rfl, Nat.le_of_ble_eq_true rfl⟩ [0, 1, 2] (by decide) rfl rfl rfl rfl rfl rfl (Nat.le_of_ble_eq_true rfl) ⟨Nat.zero_le _, Nat.zero_le _⟩ dX5_write_164) ?_
    refine fb_put X I (k := 7) (wn := (fb_pw cI zq (fb_pR zp 7 (f_X5_withHigh zp ((zp).1 7) l2)))) fu_X5 tyX5 tyX5_ok nmX5 0 rfl rfl (Nat.le_of_ble_eq_true rfl) fw_474 rfl rfl rfl rfl rfl (Nat.le_of_ble_eq_true rfl) fb_ps7 dX5_write_167 (fun H locs I => ?_)
    refine lv_goto (tgt := 283) hx hb dX5_write_170 (by decide) ?_
    subst E24
    exact fb_retV (u := ()) X I trivial dX5_write_283
  have E25 := (E22.trans (if_neg c23))
  by_cases c26 : l1 = (8 : Int32)
  · have E27 := (E25.trans (if_pos c26))
    refine lv_tableIn (tgt := 173) hx hb dX5_write_1 (by rw [c26]; decide) (by rw [c26]; decide) (by rw [c26]; rfl) (by decide) ?_
    refine lv_iload_n hx hb dX5_write_173 rfl (lv_at hl 2 rfl) ?_
    refine lv_iconst (v := (1 : Int32)) hx hb dX5_write_174 (by decide) ?_
    refine lv_iand hx hb dX5_write_175 ?_
    refine lv_aload_n hx hb dX5_write_176 rfl (lv_at hl 0 rfl) ?_
    refine fb_get X I (k := 9) fu_X5 0 rfl rfl (Nat.le_of_ble_eq_true rfl) fw_477 rfl rfl dX5_write_177 ?_
    refine lv_iconst (v := (1 : Int32)) hx hb dX5_write_180 (by decide) ?_
    refine lv_iand hx hb dX5_write_181 ?_
    refine lv_icmp_le (tgt := 189) hx hb dX5_write_182 (by decide) (fun c28 => ?_) (fun c28 => ?_)
    · have E29 := (E27.trans (if_pos c28))
      refine lv_aload_n hx hb dX5_write_189 rfl (lv_at hl 0 rfl) ?_
      refine lv_iload_n hx hb dX5_write_190 rfl (lv_at hl 2 rfl) ?_
      refine lv_iconst (v := (4 : Int32)) hx hb dX5_write_191 (by decide) ?_
      refine lv_irem hx hb dX5_write_192 (by decide) ?_
      refine fb_put X I (k := 9) (wn := (fb_pw cI zq (fb_pR zp 9 (l2 - l2 / (4 : Int32) * (4 : Int32))))) fu_X5 tyX5 tyX5_ok nmX5 0 rfl rfl (Nat.le_of_ble_eq_true rfl) fw_477 rfl rfl rfl rfl rfl (Nat.le_of_ble_eq_true rfl) fb_ps9 dX5_write_193 (fun H locs I => ?_)
      refine lv_goto (tgt := 283) hx hb dX5_write_196 (by decide) ?_
      subst E29
      exact fb_retV (u := ()) X I trivial dX5_write_283
    · have E30 := (E27.trans (if_neg c28))
      refine lv_aload_n hx hb dX5_write_185 rfl (lv_at hl 0 rfl) ?_
      refine fb_goV (wn := fun (w31 : Unit) => (fb_pw cI zq ((f_X5_wind zp)))) X I (fb_runV (As := []) (rest := []) (q0 := 0) X I hl (c_X5_wind l D cI cJ zq zp _) (fb_goodV fw_1323 fw_1325 fw_67 fw_199 fw_1326) rfl rfl rfl (by decide +kernel : fb_hd yX5_wind 0) ⟨Nat.le_of_ble_eq_true rfl, Nat.le_of_ble_eq_true rfl⟩ [0, 1, 2] (by decide) rfl rfl rfl rfl rfl rfl (Nat.le_of_ble_eq_true rfl) ⟨Nat.zero_le _, Nat.zero_le _⟩ dX5_write_186) [0, 1, 2] [] [0, 1, 2] rfl rfl (by decide) (by decide) (by decide) (fun _ => rfl) ?_
      intro w31 H locs _ I
      refine lv_aload_n hx hb dX5_write_189 rfl (lv_at hl 0 rfl) ?_
      refine lv_iload_n hx hb dX5_write_190 rfl (lv_at hl 2 rfl) ?_
      refine lv_iconst (v := (4 : Int32)) hx hb dX5_write_191 (by decide) ?_
      refine lv_irem hx hb dX5_write_192 (by decide) ?_
      refine fb_put X I (k := 9) (wn := (fb_pw cI zq (fb_pR ((f_X5_wind zp)) 9 (l2 - l2 / (4 : Int32) * (4 : Int32))))) fu_X5 tyX5 tyX5_ok nmX5 0 rfl rfl (Nat.le_of_ble_eq_true rfl) fw_477 rfl rfl rfl rfl rfl (Nat.le_of_ble_eq_true rfl) fb_ps9 dX5_write_193 (fun H locs I => ?_)
      refine lv_goto (tgt := 283) hx hb dX5_write_196 (by decide) ?_
      subst E30
      exact fb_retV (u := ()) X I trivial dX5_write_283
  have E32 := (E25.trans (if_neg c26))
  by_cases c33 : l1 = (9 : Int32)
  · have E34 := (E32.trans (if_pos c33))
    refine lv_tableIn (tgt := 199) hx hb dX5_write_1 (by rw [c33]; decide) (by rw [c33]; decide) (by rw [c33]; rfl) (by decide) ?_
    refine lv_aload_n hx hb dX5_write_199 rfl (lv_at hl 0 rfl) ?_
    refine lv_iload_n hx hb dX5_write_200 rfl (lv_at hl 2 rfl) ?_
    refine lv_sipush (v := (256 : Int32)) hx hb dX5_write_201 (by decide) ?_
    refine lv_iadd hx hb dX5_write_204 ?_
    refine fb_put X I (k := 10) (wn := (fb_pw cI zq (fb_pR zp 10 (l2 + (256 : Int32))))) fu_X5 tyX5 tyX5_ok nmX5 0 rfl rfl (Nat.le_of_ble_eq_true rfl) fw_478 rfl rfl rfl rfl rfl (Nat.le_of_ble_eq_true rfl) fb_ps10 dX5_write_205 (fun H locs I => ?_)
    refine lv_goto (tgt := 283) hx hb dX5_write_208 (by decide) ?_
    subst E34
    exact fb_retV (u := ()) X I trivial dX5_write_283
  have E35 := (E32.trans (if_neg c33))
  by_cases c36 : l1 = (10 : Int32)
  · have E37 := (E35.trans (if_pos c36))
    refine lv_tableIn (tgt := 211) hx hb dX5_write_1 (by rw [c36]; decide) (by rw [c36]; decide) (by rw [c36]; rfl) (by decide) ?_
    refine lv_aload_n hx hb dX5_write_211 rfl (lv_at hl 0 rfl) ?_
    refine lv_aload_n hx hb dX5_write_212 rfl (lv_at hl 0 rfl) ?_
    refine lv_aload_n hx hb dX5_write_213 rfl (lv_at hl 0 rfl) ?_
    refine fb_get X I (k := 11) fu_X5 0 rfl rfl (Nat.le_of_ble_eq_true rfl) fw_479 rfl rfl dX5_write_214 ?_
    refine lv_iload_n hx hb dX5_write_217 rfl (lv_at hl 2 rfl) ?_
    refine fb_roI X I (fb_runV (As := [.int ((zp).1 11), .int l2]) (rest := [.ref (zq 5)]) (q0 := 0) X I hl (c_X5_withLow l D cI cJ zq zp ((zp).1 11) l2 _) (fb_goodV fw_1315 fw_1317 fw_65 fw_199 fw_1318) rfl rfl rfl (by decide +kernel : fb_hd yX5_withLow 2) ⟨Nat.le_of_ble_eq_true rfl, Nat.le_of_ble_eq_true rfl⟩ [0, 1, 2] (by decide) rfl rfl rfl rfl rfl rfl (Nat.le_of_ble_eq_true rfl) ⟨Nat.zero_le _, Nat.zero_le _⟩ dX5_write_218) ?_
    refine fb_put X I (k := 11) (wn := (fb_pw cI zq (fb_pR zp 11 (f_X5_withLow zp ((zp).1 11) l2)))) fu_X5 tyX5 tyX5_ok nmX5 0 rfl rfl (Nat.le_of_ble_eq_true rfl) fw_479 rfl rfl rfl rfl rfl (Nat.le_of_ble_eq_true rfl) fb_ps11 dX5_write_221 (fun H locs I => ?_)
    refine lv_goto (tgt := 283) hx hb dX5_write_224 (by decide) ?_
    subst E37
    exact fb_retV (u := ()) X I trivial dX5_write_283
  have E38 := (E35.trans (if_neg c36))
  by_cases c39 : l1 = (11 : Int32)
  · have E40 := (E38.trans (if_pos c39))
    refine lv_tableIn (tgt := 227) hx hb dX5_write_1 (by rw [c39]; decide) (by rw [c39]; decide) (by rw [c39]; rfl) (by decide) ?_
    refine lv_aload_n hx hb dX5_write_227 rfl (lv_at hl 0 rfl) ?_
    refine lv_aload_n hx hb dX5_write_228 rfl (lv_at hl 0 rfl) ?_
    refine lv_aload_n hx hb dX5_write_229 rfl (lv_at hl 0 rfl) ?_
    refine fb_get X I (k := 11) fu_X5 0 rfl rfl (Nat.le_of_ble_eq_true rfl) fw_479 rfl rfl dX5_write_230 ?_
    refine lv_iload_n hx hb dX5_write_233 rfl (lv_at hl 2 rfl) ?_
    refine fb_roI X I (fb_runV (As := [.int ((zp).1 11), .int l2]) (rest := [.ref (zq 5)]) (q0 := 0) X I hl (c_X5_withHigh l D cI cJ zq zp ((zp).1 11) l2 _) (fb_goodV fw_1319 fw_1321 fw_66 fw_199 fw_1322) rfl rfl rfl (by decide +kernel : fb_hd yX5_withHigh 2) ⟨Nat.le_of_ble_eq_true rfl, Nat.le_of_ble_eq_true rfl⟩ [0, 1, 2] (by decide) rfl rfl rfl rfl rfl rfl (Nat.le_of_ble_eq_true rfl) ⟨Nat.zero_le _, Nat.zero_le _⟩ dX5_write_234) ?_
    refine fb_put X I (k := 11) (wn := (fb_pw cI zq (fb_pR zp 11 (f_X5_withHigh zp ((zp).1 11) l2)))) fu_X5 tyX5 tyX5_ok nmX5 0 rfl rfl (Nat.le_of_ble_eq_true rfl) fw_479 rfl rfl rfl rfl rfl (Nat.le_of_ble_eq_true rfl) fb_ps11 dX5_write_237 (fun H locs I => ?_)
    refine lv_goto (tgt := 283) hx hb dX5_write_240 (by decide) ?_
    subst E40
    exact fb_retV (u := ()) X I trivial dX5_write_283
  have E41 := (E38.trans (if_neg c39))
  by_cases c42 : l1 = (12 : Int32)
  · have E43 := (E41.trans (if_pos c42))
    refine lv_tableIn (tgt := 243) hx hb dX5_write_1 (by rw [c42]; decide) (by rw [c42]; decide) (by rw [c42]; rfl) (by decide) ?_
    refine lv_aload_n hx hb dX5_write_243 rfl (lv_at hl 0 rfl) ?_
    refine lv_aload_n hx hb dX5_write_244 rfl (lv_at hl 0 rfl) ?_
    refine lv_aload_n hx hb dX5_write_245 rfl (lv_at hl 0 rfl) ?_
    refine fb_get X I (k := 12) fu_X5 0 rfl rfl (Nat.le_of_ble_eq_true rfl) fw_481 rfl rfl dX5_write_246 ?_
    refine lv_iload_n hx hb dX5_write_249 rfl (lv_at hl 2 rfl) ?_
    refine fb_roI X I (fb_runV (As := [.int ((zp).1 12), .int l2]) (rest := [.ref (zq 5)]) (q0 := 0) X I hl (c_X5_withLow l D cI cJ zq zp ((zp).1 12) l2 _) (fb_goodV fw_1315 fw_1317 fw_65 fw_199 fw_1318) rfl rfl rfl (by decide +kernel : fb_hd yX5_withLow 2) ⟨Nat.le_of_ble_eq_true rfl, Nat.le_of_ble_eq_true rfl⟩ [0, 1, 2] (by decide) rfl rfl rfl rfl rfl rfl (Nat.le_of_ble_eq_true rfl) ⟨Nat.zero_le _, Nat.zero_le _⟩ dX5_write_250) ?_
    refine fb_put X I (k := 12) (wn := (fb_pw cI zq (fb_pR zp 12 (f_X5_withLow zp ((zp).1 12) l2)))) fu_X5 tyX5 tyX5_ok nmX5 0 rfl rfl (Nat.le_of_ble_eq_true rfl) fw_481 rfl rfl rfl rfl rfl (Nat.le_of_ble_eq_true rfl) fb_ps12 dX5_write_253 (fun H locs I => ?_)
    refine lv_goto (tgt := 283) hx hb dX5_write_256 (by decide) ?_
    subst E43
    exact fb_retV (u := ()) X I trivial dX5_write_283
  have E44 := (E41.trans (if_neg c42))
  by_cases c45 : l1 = (13 : Int32)
  · have E46 := (E44.trans (if_pos c45))
    refine lv_tableIn (tgt := 259) hx hb dX5_write_1 (by rw [c45]; decide) (by rw [c45]; decide) (by rw [c45]; rfl) (by decide) ?_
    refine lv_aload_n hx hb dX5_write_259 rfl (lv_at hl 0 rfl) ?_
    refine lv_aload_n hx hb dX5_write_260 rfl (lv_at hl 0 rfl) ?_
    refine lv_aload_n hx hb dX5_write_261 rfl (lv_at hl 0 rfl) ?_
    refine fb_get X I (k := 12) fu_X5 0 rfl rfl (Nat.le_of_ble_eq_true rfl) fw_481 rfl rfl dX5_write_262 ?_
    refine lv_iload_n hx hb dX5_write_265 rfl (lv_at hl 2 rfl) ?_
    refine fb_roI X I (fb_runV (As := [.int ((zp).1 12), .int l2]) (rest := [.ref (zq 5)]) (q0 := 0) X I hl (c_X5_withHigh l D cI cJ zq zp ((zp).1 12) l2 _) (fb_goodV fw_1319 fw_1321 fw_66 fw_199 fw_1322) rfl rfl rfl (by decide +kernel : fb_hd yX5_withHigh 2) ⟨Nat.le_of_ble_eq_true rfl, Nat.le_of_ble_eq_true rfl⟩ [0, 1, 2] (by decide) rfl rfl rfl rfl rfl rfl (Nat.le_of_ble_eq_true rfl) ⟨Nat.zero_le _, Nat.zero_le _⟩ dX5_write_266) ?_
    refine fb_put X I (k := 12) (wn := (fb_pw cI zq (fb_pR zp 12 (f_X5_withHigh zp ((zp).1 12) l2)))) fu_X5 tyX5 tyX5_ok nmX5 0 rfl rfl (Nat.le_of_ble_eq_true rfl) fw_481 rfl rfl rfl rfl rfl (Nat.le_of_ble_eq_true rfl) fb_ps12 dX5_write_269 (fun H locs I => ?_)
    refine lv_goto (tgt := 283) hx hb dX5_write_272 (by decide) ?_
    subst E46
    exact fb_retV (u := ()) X I trivial dX5_write_283
  have E47 := (E44.trans (if_neg c45))
  by_cases c48 : l1 = (14 : Int32)
  · have E49 := (E47.trans (if_pos c48))
    refine lv_tableIn (tgt := 275) hx hb dX5_write_1 (by rw [c48]; decide) (by rw [c48]; decide) (by rw [c48]; rfl) (by decide) ?_
    refine lv_aload_n hx hb dX5_write_275 rfl (lv_at hl 0 rfl) ?_
    refine lv_iload_n hx hb dX5_write_276 rfl (lv_at hl 2 rfl) ?_
    refine fb_put X I (k := 13) (wn := (fb_pw cI zq (fb_pR zp 13 l2))) fu_X5 tyX5 tyX5_ok nmX5 0 rfl rfl (Nat.le_of_ble_eq_true rfl) fw_483 rfl rfl rfl rfl rfl (Nat.le_of_ble_eq_true rfl) fb_ps13 dX5_write_277 (fun H locs I => ?_)
    refine lv_goto (tgt := 283) hx hb dX5_write_280 (by decide) ?_
    subst E49
    exact fb_retV (u := ()) X I trivial dX5_write_283
  have E50 := (E47.trans (if_neg c48))
  refine lv_tableOut (tgt := 283) hx hb dX5_write_1 (fb_tab_0_15 c1 c4 c7 c10 c14 c17 c20 c23 c26 c33 c36 c39 c42 c45 c48) (by decide) ?_
  subst E50
  exact fb_retV (u := ()) X I trivial dX5_write_283
set_option maxHeartbeats 4000000 in
set_option maxRecDepth 100000 in
theorem c_X5_write (l : Launch) (D : va_G) (cI cJ : ClassId) (zq : Nat → Nat) (zp : fb_PS) (l1 : Int32) (l2 : Int32) (sz : Nat)  : Met l yX5_write (Cond.code yX5_write cX5_write 3 none :: fb_all) ({ frames := 1, cells := 0, slots := 0, locals := 22 } : Room) (fb_PP D (fb_ty D cI cJ) [.ref (zq 5), .int l1, .int l2] ((fb_pw cI zq zp)) sz) (fb_QV D (va_A ((fb_pw cI zq zp)) sz) (fun (_ : Unit) => True) (fun (t : Unit) => (fb_pw cI zq (((f_X5_write zp l1 l2)))))) 0 0 (va_A ((fb_pw cI zq zp)) sz) := by
  refine fb_ent (Qf := fun A => (fb_QV D A (fun (_ : Unit) => True) (fun (t : Unit) => (fb_pw cI zq (((f_X5_write zp l1 l2))))))) (by decide +kernel) (Nat.le_of_ble_eq_true rfl) ?_
  intro p e s m args below meth c A ls X I hl hin
  exact b_X5_write_0 X  I hl rfl
/-! J7_fill_53178 -/
def f_J7_fill_53178 (_ : Nat) (_ : fb_AR) (l1 : Int32) : fb_AR := fun _ => l1
set_option maxHeartbeats 4000000 in
set_option maxRecDepth 100000 in
theorem b_J7_fill_53178_5 {p : Program} {l : Launch} {e : Env} {s : State} {m : MethodId} {args : Array Value} {below : List Frame} {meth : Method} {c : Code} {D : va_G} {cI cJ : ClassId} {A : Nat → Prop} {za zN : Nat} {l1 : Int32} (X : fb_Bx p s m args meth c cJ7_fill_53178 RJ7 4 none D (fb_ty D cI cJ) A) (hN : zN < 2 ^ 31) : ∀ (n : Nat) {zf : fb_AR} {j : Nat} {l2 : Int32} {H : Heap} {locs : List Loc} {ls : Array Slot} (hm : zN - j < n) (hj : j ≤ zN) (e2 : l2 = nI j) (hv : ∀ i, i < j → zf i = l1) (I : fb_In D A s.heap (fb_aw cI za zN zf) H locs) (hl : lv_has ls 4 [(0, .ref za), (1, .int l1), (2, .int l2), (3, .int (nI zN))]), W p l e ({ frames := 0, cells := 0, slots := 0, locals := 0 } : Room) s m args below meth c H locs 0 0 (MQ below (fb_QV D A (fun (_ : Unit) => True) (fun (_ : Unit) => (fb_aw cI za zN (fun _ => l1)))) args s 0 0 A) (F0 m 5 ls []) := by
  intro n
  obtain ⟨hx, hb, hr, hml, hown, hts, hlk, hA, hK, hF⟩ := id X
  induction n with
  | zero =>
    intro zf j l2 H locs ls hm
    exact absurd hm (Nat.not_lt_zero _)
  | succ n ih =>
    intro zf j l2 H locs ls hm hj e2 hv I hl
    refine lv_iload_n hx hb dJ7_fill_53178_5 rfl (lv_at hl 2 rfl) ?_
    refine lv_iload_n hx hb dJ7_fill_53178_6 rfl (lv_at hl 3 rfl) ?_
    refine lv_icmp_ge (tgt := 20) hx hb dJ7_fill_53178_7 (by decide) (fun c1 => ?_) (fun c1 => ?_)
    · have h9 : zN ≤ j := Nat.le_of_not_lt fun q => by rw [e2] at c1; exact nI_ge q hN c1
      have I := I.row 0 (f := zf) (g := fun _ => l1) (wn := fb_aw cI za zN (fun _ => l1)) rfl (fun i hi => hv i (by omega)) rfl
      exact fb_retV (u := ()) X I trivial dJ7_fill_53178_20
    · have h9 : j < zN := Nat.lt_of_not_le fun q => c1 (by rw [e2]; exact nI_le q (by omega))
      refine lv_aload_n hx hb dJ7_fill_53178_10 rfl (lv_at hl 0 rfl) ?_
      refine lv_iload_n hx hb dJ7_fill_53178_11 rfl (lv_at hl 2 rfl) ?_
      refine lv_iload_n hx hb dJ7_fill_53178_12 rfl (lv_at hl 1 rfl) ?_
      refine fb_iast (wn := (fb_aw cI za zN (upd zf (l2).toNatClampNeg l1))) X I (i := l2) 0 0 rfl rfl (by rw [e2]; exact vp_in_nI h9 hN) rfl dJ7_fill_53178_13 (fun H locs I => ?_)
      refine lv_iinc (v := (l2 + (1 : Int32))) (lv' := [(2, .int (l2 + (1 : Int32))), (0, .ref za), (1, .int l1), (3, .int (nI zN))]) hx hb dJ7_fill_53178_14 hl (k := 2) rfl rfl (by decide) rfl (fun ls hl => ?_)
      refine lv_goto (tgt := 5) hx hb dJ7_fill_53178_17 (by decide) ?_
      refine ih (j := j + 1) (l2 := (l2 + (1 : Int32))) (by omega) h9 (by rw [e2]; exact nI_1 j) (fun i hi => ?_) I (lv_sub hl [1, 2, 0, 3] rfl)
      have e3 : l2.toNatClampNeg = j := by rw [e2]; exact nI_clamp (by omega)
      rw [e3]
      by_cases h8 : i = j
      · rw [h8]; exact pk_us
      · rw [pk_un h8]; exact hv i (by omega)
set_option maxHeartbeats 4000000 in
set_option maxRecDepth 100000 in
theorem c_J7_fill_53178 (l : Launch) (D : va_G) (cI cJ : ClassId) (za : Nat) (zN : Nat) (zf : fb_AR) (l1 : Int32) (sz : Nat) (hN : zN < 2 ^ 31) : Met l yJ7_fill_53178 (Cond.code yJ7_fill_53178 cJ7_fill_53178 4 none :: fb_all) ({ frames := 0, cells := 0, slots := 0, locals := 0 } : Room) (fb_PP D (fb_ty D cI cJ) [.ref za, .int l1] (fb_aw cI za zN zf) sz) (fb_QV D (va_A (fb_aw cI za zN zf) sz) (fun (_ : Unit) => True) (fun (_ : Unit) => (fb_aw cI za zN (f_J7_fill_53178 zN zf l1)))) 0 0 (va_A (fb_aw cI za zN zf) sz) := by
  refine fb_ent (Qf := fun A => (fb_QV D A (fun (_ : Unit) => True) (fun (_ : Unit) => (fb_aw cI za zN (f_J7_fill_53178 zN zf l1))))) (by decide +kernel) (Nat.le_of_ble_eq_true rfl) ?_
  intro p e s m args below meth c A ls X I hl hin
  obtain ⟨hx, hb, hr, hml, hown, hts, hlk, hA, hK, hF⟩ := id X
  have hl : lv_has ls 4 [(0, .ref za), (1, .int l1)] := hl
  refine lv_iconst (v := (0 : Int32)) hx hb dJ7_fill_53178_0 (by decide) ?_
  refine lv_istore_n (lv' := [(2, .int (0 : Int32)), (0, .ref za), (1, .int l1)]) hx hb dJ7_fill_53178_1 rfl hl (by decide) rfl (fun ls hl => ?_)
  refine lv_aload_n hx hb dJ7_fill_53178_2 rfl (lv_at hl 1 rfl) ?_
  refine fb_alen (v := nI zN) X I 0 0 rfl rfl rfl dJ7_fill_53178_3 ?_
  refine lv_istore_n (lv' := [(3, .int (nI zN)), (2, .int (0 : Int32)), (0, .ref za), (1, .int l1)]) hx hb dJ7_fill_53178_4 rfl hl (by decide) rfl (fun ls hl => ?_)
  exact b_J7_fill_53178_5 X hN (zN - 0 + 1) (zf := zf) (j := 0) (by omega) (Nat.zero_le _) nI_0.symm (fun i hi => absurd hi (Nat.not_lt_zero i)) I (lv_sub hl [2, 3, 1, 0] rfl)

