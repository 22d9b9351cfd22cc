/-! X11_at -/
def f_X11_at (zN : Nat) (zf : fb_AR) (l1 : Int32) : Int32 := (if l1 < 0 then (0 : Int32) else (if (nI zN) ≤ l1 then (0 : Int32) else (zf (l1).toNatClampNeg)))
set_option maxHeartbeats 4000000 in
set_option maxRecDepth 100000 in
theorem b_X11_at_0 {p : Program} {l : Launch} {e : Env} {s : State} {m : MethodId} {args : Array Value} {below : List Frame} {meth : Method} {c : Code} {D : va_G} {cI cJ : ClassId} {A : Nat → Prop} {za : Nat} {zN : Nat} {z : Int32} (X : fb_Bx p s m args meth c cX11_at RX11 2 (some .int) D (fb_ty D cI cJ) A) {zf : fb_AR} {l1 : Int32} {ls : Array Slot} (hN : zN < 2 ^ 31) (I : fb_In D A s.heap ((fb_aw cI za zN zf)) s.heap []) (hl : lv_has ls 2 [(0, .ref za), (1, .int l1)]) (E : z = f_X11_at zN zf l1) : W p l e ({ frames := 0, cells := 0, slots := 0, locals := 0 } : Room) s m args below meth c s.heap [] 0 0 (MQ below (vp_Si (fun r => r = z)) args s 0 0 (fun _ => False)) (F0 m 0 ls []) := by
  obtain ⟨hx, hb, hr, hml, hown, hts, hlk, hA, hK, hF⟩ := id X
  refine lv_iload_n hx hb dX11_at_0 rfl (lv_at hl 1 rfl) ?_
  refine lv_if_lt (tgt := 16) hx hb dX11_at_1 (by decide) (fun c1 => ?_) (fun c1 => ?_)
  · have E2 := (E.trans (if_pos c1))
    refine lv_iconst (v := (0 : Int32)) hx hb dX11_at_16 (by decide) ?_
    exact fb_retRI X E2 rfl dX11_at_17
  · have E3 := (E.trans (if_neg c1))
    refine lv_iload_n hx hb dX11_at_4 rfl (lv_at hl 1 rfl) ?_
    refine lv_aload_n hx hb dX11_at_5 rfl (lv_at hl 0 rfl) ?_
    refine fb_alen (v := nI zN) X I 0 0 rfl rfl rfl dX11_at_6 ?_
    refine lv_icmp_ge (tgt := 16) hx hb dX11_at_7 (by decide) (fun c4 => ?_) (fun c4 => ?_)
    · have E5 := (E3.trans (if_pos c4))
      refine lv_iconst (v := (0 : Int32)) hx hb dX11_at_16 (by decide) ?_
      exact fb_retRI X E5 rfl dX11_at_17
    · have E6 := (E3.trans (if_neg c4))
      refine lv_aload_n hx hb dX11_at_10 rfl (lv_at hl 0 rfl) ?_
      refine lv_iload_n hx hb dX11_at_11 rfl (lv_at hl 1 rfl) ?_
      refine fb_iald X I (i := l1) 0 0 rfl rfl (fb_ir hN c1 c4) dX11_at_12 ?_
      refine lv_goto (tgt := 17) hx hb dX11_at_13 (by decide) ?_
      exact fb_retRI X E6 rfl dX11_at_17
set_option maxHeartbeats 4000000 in
set_option maxRecDepth 100000 in
theorem c_X11_at (l : Launch) (D : va_G) (cI cJ : ClassId) (za : Nat) (zN : Nat) (zf : fb_AR) (l1 : Int32) (sz : Nat) (hN : zN < 2 ^ 31) : Met l yX11_at (Cond.code yX11_at cX11_at 2 (some .int) :: fb_all) ({ frames := 0, cells := 0, slots := 0, locals := 0 } : Room) (fb_PP D (fb_ty D cI cJ) [.ref za, .int l1] ((fb_aw cI za zN zf)) sz) (vp_Si (fun r => r = ((f_X11_at zN zf l1)))) 0 0 (fun _ => False) := by
  refine fb_entR (by decide +kernel) (Nat.le_of_ble_eq_true rfl) ?_
  intro p e s m args below meth c A ls X I hl hin
  exact b_X11_at_0 X hN I hl rfl
/-! X11_put -/
def f_X11_put (zN : Nat) (zf : fb_AR) (l1 : Int32) (l2 : Int32) : fb_AR := (if l1 < 0 then zf else (if (nI zN) ≤ l1 then zf else (upd zf (l1).toNatClampNeg l2)))
set_option maxHeartbeats 4000000 in
set_option maxRecDepth 100000 in
theorem b_X11_put_0 {p : Program} {l : Launch} {e : Env} {s : State} {m : MethodId} {args : Array Value} {below : List Frame} {meth : Method} {c : Code} {D : va_G} {cI cJ : ClassId} {A : Nat → Prop} {za : Nat} {zN : Nat} {z : fb_AR} (X : fb_Bx p s m args meth c cX11_put RX11 3 none D (fb_ty D cI cJ) A) {zf : fb_AR} {l1 : Int32} {l2 : Int32} {H : Heap} {locs : List Loc} {ls : Array Slot} (hN : zN < 2 ^ 31) (I : fb_In D A s.heap ((fb_aw cI za zN zf)) H locs) (hl : lv_has ls 3 [(0, .ref za), (1, .int l1), (2, .int l2)]) (E : z = f_X11_put zN zf l1 l2) : W p l e ({ frames := 0, cells := 0, slots := 0, locals := 0 } : Room) s m args below meth c H locs 0 0 (MQ below (fb_QV D A (fun (_ : Unit) => True) (fun (t : Unit) => (fb_aw cI za zN (z)))) args s 0 0 A) (F0 m 0 ls []) := by
  obtain ⟨hx, hb, hr, hml, hown, hts, hlk, hA, hK, hF⟩ := id X
  refine lv_iload_n hx hb dX11_put_0 rfl (lv_at hl 1 rfl) ?_
  refine lv_if_lt (tgt := 14) hx hb dX11_put_1 (by decide) (fun c1 => ?_) (fun c1 => ?_)
  · have E2 := (E.trans (if_pos c1))
    subst E2
    exact fb_retV (u := ()) X I trivial dX11_put_14
  · have E3 := (E.trans (if_neg c1))
    refine lv_iload_n hx hb dX11_put_4 rfl (lv_at hl 1 rfl) ?_
    refine lv_aload_n hx hb dX11_put_5 rfl (lv_at hl 0 rfl) ?_
    refine fb_alen (v := nI zN) X I 0 0 rfl rfl rfl dX11_put_6 ?_
    refine lv_icmp_ge (tgt := 14) hx hb dX11_put_7 (by decide) (fun c4 => ?_) (fun c4 => ?_)
    · have E5 := (E3.trans (if_pos c4))
      subst E5
      exact fb_retV (u := ()) X I trivial dX11_put_14
    · have E6 := (E3.trans (if_neg c4))
      refine lv_aload_n hx hb dX11_put_10 rfl (lv_at hl 0 rfl) ?_
      refine lv_iload_n hx hb dX11_put_11 rfl (lv_at hl 1 rfl) ?_
      refine lv_iload_n hx hb dX11_put_12 rfl (lv_at hl 2 rfl) ?_
      refine fb_iast (wn := (fb_aw cI za zN (upd zf (l1).toNatClampNeg l2))) X I (i := l1) 0 0 rfl rfl (fb_ir hN c1 c4) rfl dX11_put_13 (fun H locs I => ?_)
      subst E6
      exact fb_retV (u := ()) X I trivial dX11_put_14
set_option maxHeartbeats 4000000 in
set_option maxRecDepth 100000 in
theorem c_X11_put (l : Launch) (D : va_G) (cI cJ : ClassId) (za : Nat) (zN : Nat) (zf : fb_AR) (l1 : Int32) (l2 : Int32) (sz : Nat) (hN : zN < 2 ^ 31) : Met l yX11_put (Cond.code yX11_put cX11_put 3 none :: fb_all) ({ frames := 0, cells := 0, slots := 0, locals := 0 } : Room) (fb_PP D (fb_ty D cI cJ) [.ref za, .int l1, .int l2] ((fb_aw cI za zN zf)) sz) (fb_QV D (va_A ((fb_aw cI za zN zf)) sz) (fun (_ : Unit) => True) (fun (t : Unit) => (fb_aw cI za zN (((f_X11_put zN zf l1 l2)))))) 0 0 (va_A ((fb_aw cI za zN zf)) sz) := by
  refine fb_ent (Qf := fun A => (fb_QV D A (fun (_ : Unit) => True) (fun (t : Unit) => (fb_aw cI za zN (((f_X11_put zN zf l1 l2))))))) (by decide +kernel) (Nat.le_of_ble_eq_true rfl) ?_
  intro p e s m args below meth c A ls X I hl hin
  exact b_X11_put_0 X hN I hl rfl
/-! X11_signed -/
def f_X11_signed (l0 : Int32) : Int32 := (if (128 : Int32) ≤ l0 then (l0 - (256 : Int32)) else l0)
set_option maxHeartbeats 4000000 in
set_option maxRecDepth 100000 in
theorem b_X11_signed_0 {p : Program} {l : Launch} {e : Env} {s : State} {m : MethodId} {args : Array Value} {below : List Frame} {meth : Method} {c : Code} {D : va_G} {cI cJ : ClassId} {A : Nat → Prop}  {z : Int32} (X : fb_Bx p s m args meth c cX11_signed RX11 1 (some .int) D (fb_ty D cI cJ) A) {l0 : Int32} {ls : Array Slot}  (I : fb_In D A s.heap (([] : va_W)) s.heap []) (hl : lv_has ls 1 [(0, .int l0)]) (E : z = f_X11_signed l0) : W p l e ({ frames := 0, cells := 0, slots := 0, locals := 0 } : Room) s m args below meth c s.heap [] 0 0 (MQ below (vp_Si (fun r => r = z)) args s 0 0 (fun _ => False)) (F0 m 0 ls []) := by
  obtain ⟨hx, hb, hr, hml, hown, hts, hlk, hA, hK, hF⟩ := id X
  refine lv_iload_n hx hb dX11_signed_0 rfl (lv_at hl 0 rfl) ?_
  refine lv_sipush (v := (128 : Int32)) hx hb dX11_signed_1 (by decide) ?_
  refine lv_icmp_ge (tgt := 11) hx hb dX11_signed_4 (by decide) (fun c1 => ?_) (fun c1 => ?_)
  · have E2 := (E.trans (if_pos c1))
    refine lv_iload_n hx hb dX11_signed_11 rfl (lv_at hl 0 rfl) ?_
    refine lv_sipush (v := (256 : Int32)) hx hb dX11_signed_12 (by decide) ?_
    refine lv_isub hx hb dX11_signed_15 ?_
    exact fb_retRI X E2 rfl dX11_signed_16
  · have E3 := (E.trans (if_neg c1))
    refine lv_iload_n hx hb dX11_signed_7 rfl (lv_at hl 0 rfl) ?_
    refine lv_goto (tgt := 16) hx hb dX11_signed_8 (by decide) ?_
    exact fb_retRI X E3 rfl dX11_signed_16
set_option maxHeartbeats 4000000 in
set_option maxRecDepth 100000 in
theorem c_X11_signed (l : Launch) (D : va_G) (cI cJ : ClassId)  (l0 : Int32) (sz : Nat)  : Met l yX11_signed (Cond.code yX11_signed cX11_signed 1 (some .int) :: fb_all) ({ frames := 0, cells := 0, slots := 0, locals := 0 } : Room) (fb_PP D (fb_ty D cI cJ) [.int l0] (([] : va_W)) sz) (vp_Si (fun r => r = ((f_X11_signed l0)))) 0 0 (fun _ => False) := by
  refine fb_entR (by decide +kernel) (Nat.le_of_ble_eq_true rfl) ?_
  intro p e s m args below meth c A ls X I hl hin
  exact b_X11_signed_0 X  I hl rfl
/-! X11_placeOf -/
def f_X11_placeOf (l0 : Int32) (l1 : Int32) : Int32 := (if (1792 : Int32) ≤ l0 then (if (2048 : Int32) ≤ l0 then (if (3072 : Int32) ≤ l0 then (((9984 : Int32) + l0) - (3072 : Int32)) else ((((1792 : Int32) + (l1 * (1024 : Int32))) + l0) - (2048 : Int32))) else (-1 : Int32)) else l0)
set_option maxHeartbeats 4000000 in
set_option maxRecDepth 100000 in
theorem b_X11_placeOf_0 {p : Program} {l : Launch} {e : Env} {s : State} {m : MethodId} {args : Array Value} {below : List Frame} {meth : Method} {c : Code} {D : va_G} {cI cJ : ClassId} {A : Nat → Prop}  {z : Int32} (X : fb_Bx p s m args meth c cX11_placeOf RX11 2 (some .int) D (fb_ty D cI cJ) A) {l0 : Int32} {l1 : Int32} {ls : Array Slot}  (I : fb_In D A s.heap (([] : va_W)) s.heap []) (hl : lv_has ls 2 [(0, .int l0), (1, .int l1)]) (E : z = f_X11_placeOf l0 l1) : W p l e ({ frames := 0, cells := 0, slots := 0, locals := 0 } : Room) s m args below meth c s.heap [] 0 0 (MQ below (vp_Si (fun r => r = z)) args s 0 0 (fun _ => False)) (F0 m 0 ls []) := by
  obtain ⟨hx, hb, hr, hml, hown, hts, hlk, hA, hK, hF⟩ := id X
  refine lv_iload_n hx hb dX11_placeOf_0 rfl (lv_at hl 0 rfl) ?_
  refine lv_sipush (v := (1792 : Int32)) hx hb dX11_placeOf_1 (by decide) ?_
  refine lv_icmp_ge (tgt := 9) hx hb dX11_placeOf_4 (by decide) (fun c1 => ?_) (fun c1 => ?_)
  · have E2 := (E.trans (if_pos c1))
    refine lv_iload_n hx hb dX11_placeOf_9 rfl (lv_at hl 0 rfl) ?_
    refine lv_sipush (v := (2048 : Int32)) hx hb dX11_placeOf_10 (by decide) ?_
    refine lv_icmp_ge (tgt := 18) hx hb dX11_placeOf_13 (by decide) (fun c4 => ?_) (fun c4 => ?_)
    · have E5 := (E2.trans (if_pos c4))
      refine lv_iload_n hx hb dX11_placeOf_18 rfl (lv_at hl 0 rfl) ?_
      refine lv_sipush (v := (3072 : Int32)) hx hb dX11_placeOf_19 (by decide) ?_
      refine lv_icmp_ge (tgt := 41) hx hb dX11_placeOf_22 (by decide) (fun c7 => ?_) (fun c7 => ?_)
      · have E8 := (E5.trans (if_pos c7))
        refine lv_sipush (v := (9984 : Int32)) hx hb dX11_placeOf_41 (by decide) ?_
        refine lv_iload_n hx hb dX11_placeOf_44 rfl (lv_at hl 0 rfl) ?_
        refine lv_iadd hx hb dX11_placeOf_45 ?_
        refine lv_sipush (v := (3072 : Int32)) hx hb dX11_placeOf_46 (by decide) ?_
        refine lv_isub hx hb dX11_placeOf_49 ?_
        exact fb_retRI X E8 rfl dX11_placeOf_50
      · have E9 := (E5.trans (if_neg c7))
        refine lv_sipush (v := (1792 : Int32)) hx hb dX11_placeOf_25 (by decide) ?_
        refine lv_iload_n hx hb dX11_placeOf_28 rfl (lv_at hl 1 rfl) ?_
        refine lv_sipush (v := (1024 : Int32)) hx hb dX11_placeOf_29 (by decide) ?_
        refine lv_imul hx hb dX11_placeOf_32 ?_
        refine lv_iadd hx hb dX11_placeOf_33 ?_
        refine lv_iload_n hx hb dX11_placeOf_34 rfl (lv_at hl 0 rfl) ?_
        refine lv_iadd hx hb dX11_placeOf_35 ?_
        refine lv_sipush (v := (2048 : Int32)) hx hb dX11_placeOf_36 (by decide) ?_
        refine lv_isub hx hb dX11_placeOf_39 ?_
        exact fb_retRI X E9 rfl dX11_placeOf_40
    · have E6 := (E2.trans (if_neg c4))
      refine lv_iconst (v := (-1 : Int32)) hx hb dX11_placeOf_16 (by decide) ?_
      exact fb_retRI X E6 rfl dX11_placeOf_17
  · have E3 := (E.trans (if_neg c1))
    refine lv_iload_n hx hb dX11_placeOf_7 rfl (lv_at hl 0 rfl) ?_
    exact fb_retRI X E3 rfl dX11_placeOf_8
set_option maxHeartbeats 4000000 in
set_option maxRecDepth 100000 in
theorem c_X11_placeOf (l : Launch) (D : va_G) (cI cJ : ClassId)  (l0 : Int32) (l1 : Int32) (sz : Nat)  : Met l yX11_placeOf (Cond.code yX11_placeOf cX11_placeOf 2 (some .int) :: fb_all) ({ frames := 0, cells := 0, slots := 0, locals := 0 } : Room) (fb_PP D (fb_ty D cI cJ) [.int l0, .int l1] (([] : va_W)) sz) (vp_Si (fun r => r = ((f_X11_placeOf l0 l1)))) 0 0 (fun _ => False) := by
  refine fb_entR (by decide +kernel) (Nat.le_of_ble_eq_true rfl) ?_
  intro p e s m args below meth c A ls X I hl hin
  exact b_X11_placeOf_0 X  I hl rfl
/-! X11_hasMode -/
def f_X11_hasMode (l0 : Int32) (l1 : Int32) : Int32 := (if l0 < (24 : Int32) then (if (16 : Int32) ≤ l0 then (if l1 < (2 : Int32) then (0 : Int32) else (if (6 : Int32) < l1 then (0 : Int32) else (1 : Int32))) else (if l1 < (1 : Int32) then (0 : Int32) else (if (6 : Int32) < l1 then (0 : Int32) else (1 : Int32)))) else (if l1 < (3 : Int32) then (0 : Int32) else (if (5 : Int32) < l1 then (0 : Int32) else (1 : Int32))))
set_option maxHeartbeats 4000000 in
set_option maxRecDepth 100000 in
theorem b_X11_hasMode_0 {p : Program} {l : Launch} {e : Env} {s : State} {m : MethodId} {args : Array Value} {below : List Frame} {meth : Method} {c : Code} {D : va_G} {cI cJ : ClassId} {A : Nat → Prop}  {z : Int32} (X : fb_Bx p s m args meth c cX11_hasMode RX11 3 (some .boolean) D (fb_ty D cI cJ) A) {l0 : Int32} {l1 : Int32} {ls : Array Slot}  (I : fb_In D A s.heap (([] : va_W)) s.heap []) (hl : lv_has ls 3 [(0, .int l0), (1, .int l1)]) (E : z = f_X11_hasMode l0 l1) : W p l e ({ frames := 0, cells := 0, slots := 0, locals := 0 } : Room) s m args below meth c s.heap [] 0 0 (MQ below (vp_Si (fun r => r = z)) args s 0 0 (fun _ => False)) (F0 m 0 ls []) := by
  obtain ⟨hx, hb, hr, hml, hown, hts, hlk, hA, hK, hF⟩ := id X
  refine lv_iload_n hx hb dX11_hasMode_0 rfl (lv_at hl 0 rfl) ?_
  refine lv_bipush (v := (24 : Int32)) hx hb dX11_hasMode_1 (by decide) ?_
  refine lv_icmp_lt (tgt := 22) hx hb dX11_hasMode_3 (by decide) (fun c1 => ?_) (fun c1 => ?_)
  · have E2 := (E.trans (if_pos c1))
    refine lv_iload_n hx hb dX11_hasMode_22 rfl (lv_at hl 0 rfl) ?_
    refine lv_bipush (v := (16 : Int32)) hx hb dX11_hasMode_23 (by decide) ?_
    refine lv_icmp_ge (tgt := 32) hx hb dX11_hasMode_25 (by decide) (fun c4 => ?_) (fun c4 => ?_)
    · have E5 := (E2.trans (if_pos c4))
      refine lv_iconst (v := (2 : Int32)) hx hb dX11_hasMode_32 (by decide) ?_
      refine lv_istore_n (lv' := [(2, .int (2 : Int32)), (0, .int l0), (1, .int l1)]) hx hb dX11_hasMode_33 rfl hl (by decide) rfl (fun ls hl => ?_)
      refine lv_iload_n hx hb dX11_hasMode_34 rfl (lv_at hl 2 rfl) ?_
      refine lv_iload_n hx hb dX11_hasMode_35 rfl (lv_at hl 0 rfl) ?_
      refine lv_icmp_lt (tgt := 49) hx hb dX11_hasMode_36 (by decide) (fun c7 => ?_) (fun c7 => ?_)
      · have E8 := (E5.trans (if_pos c7))
        refine lv_iconst (v := (0 : Int32)) hx hb dX11_hasMode_49 (by decide) ?_
        exact fb_retRI X E8 rfl dX11_hasMode_50
      · have E9 := (E5.trans (if_neg c7))
        refine lv_iload_n hx hb dX11_hasMode_39 rfl (lv_at hl 2 rfl) ?_
        refine lv_bipush (v := (6 : Int32)) hx hb dX11_hasMode_40 (by decide) ?_
        refine lv_icmp_gt (tgt := 49) hx hb dX11_hasMode_42 (by decide) (fun c10 => ?_) (fun c10 => ?_)
        · have E11 := (E9.trans (if_pos c10))
          refine lv_iconst (v := (0 : Int32)) hx hb dX11_hasMode_49 (by decide) ?_
          exact fb_retRI X E11 rfl dX11_hasMode_50
        · have E12 := (E9.trans (if_neg c10))
          refine lv_iconst (v := (1 : Int32)) hx hb dX11_hasMode_45 (by decide) ?_
          refine lv_goto (tgt := 50) hx hb dX11_hasMode_46 (by decide) ?_
          exact fb_retRI X E12 rfl dX11_hasMode_50
    · have E6 := (E2.trans (if_neg c4))
      refine lv_iconst (v := (1 : Int32)) hx hb dX11_hasMode_28 (by decide) ?_
      refine lv_goto (tgt := 33) hx hb dX11_hasMode_29 (by decide) ?_
      refine lv_istore_n (lv' := [(2, .int (1 : Int32)), (0, .int l0), (1, .int l1)]) hx hb dX11_hasMode_33 rfl hl (by decide) rfl (fun ls hl => ?_)
      refine lv_iload_n hx hb dX11_hasMode_34 rfl (lv_at hl 2 rfl) ?_
      refine lv_iload_n hx hb dX11_hasMode_35 rfl (lv_at hl 0 rfl) ?_
      refine lv_icmp_lt (tgt := 49) hx hb dX11_hasMode_36 (by decide) (fun c13 => ?_) (fun c13 => ?_)
      · have E14 := (E6.trans (if_pos c13))
        refine lv_iconst (v := (0 : Int32)) hx hb dX11_hasMode_49 (by decide) ?_
        exact fb_retRI X E14 rfl dX11_hasMode_50
      · have E15 := (E6.trans (if_neg c13))
        refine lv_iload_n hx hb dX11_hasMode_39 rfl (lv_at hl 2 rfl) ?_
        refine lv_bipush (v := (6 : Int32)) hx hb dX11_hasMode_40 (by decide) ?_
        refine lv_icmp_gt (tgt := 49) hx hb dX11_hasMode_42 (by decide) (fun c16 => ?_) (fun c16 => ?_)
        · have E17 := (E15.trans (if_pos c16))
          refine lv_iconst (v := (0 : Int32)) hx hb dX11_hasMode_49 (by decide) ?_
          exact fb_retRI X E17 rfl dX11_hasMode_50
        · have E18 := (E15.trans (if_neg c16))
          refine lv_iconst (v := (1 : Int32)) hx hb dX11_hasMode_45 (by decide) ?_
          refine lv_goto (tgt := 50) hx hb dX11_hasMode_46 (by decide) ?_
          exact fb_retRI X E18 rfl dX11_hasMode_50
  · have E3 := (E.trans (if_neg c1))
    refine lv_iload_n hx hb dX11_hasMode_6 rfl (lv_at hl 1 rfl) ?_
    refine lv_iconst (v := (3 : Int32)) hx hb dX11_hasMode_7 (by decide) ?_
    refine lv_icmp_lt (tgt := 20) hx hb dX11_hasMode_8 (by decide) (fun c19 => ?_) (fun c19 => ?_)
    · have E20 := (E3.trans (if_pos c19))
      refine lv_iconst (v := (0 : Int32)) hx hb dX11_hasMode_20 (by decide) ?_
      exact fb_retRI X E20 rfl dX11_hasMode_21
    · have E21 := (E3.trans (if_neg c19))
      refine lv_iload_n hx hb dX11_hasMode_11 rfl (lv_at hl 1 rfl) ?_
      refine lv_iconst (v := (5 : Int32)) hx hb dX11_hasMode_12 (by decide) ?_
      refine lv_icmp_gt (tgt := 20) hx hb dX11_hasMode_13 (by decide) (fun c22 => ?_) (fun c22 => ?_)
      · have E23 := (E21.trans (if_pos c22))
        refine lv_iconst (v := (0 : Int32)) hx hb dX11_hasMode_20 (by decide) ?_
        exact fb_retRI X E23 rfl dX11_hasMode_21
      · have E24 := (E21.trans (if_neg c22))
        refine lv_iconst (v := (1 : Int32)) hx hb dX11_hasMode_16 (by decide) ?_
        refine lv_goto (tgt := 21) hx hb dX11_hasMode_17 (by decide) ?_
        exact fb_retRI X E24 rfl dX11_hasMode_21
set_option maxHeartbeats 4000000 in
set_option maxRecDepth 100000 in
theorem c_X11_hasMode (l : Launch) (D : va_G) (cI cJ : ClassId)  (l0 : Int32) (l1 : Int32) (sz : Nat)  : Met l yX11_hasMode (Cond.code yX11_hasMode cX11_hasMode 3 (some .boolean) :: fb_all) ({ frames := 0, cells := 0, slots := 0, locals := 0 } : Room) (fb_PP D (fb_ty D cI cJ) [.int l0, .int l1] (([] : va_W)) sz) (vp_Si (fun r => r = ((f_X11_hasMode l0 l1)))) 0 0 (fun _ => False) := by
  refine fb_entR (by decide +kernel) (Nat.le_of_ble_eq_true rfl) ?_
  intro p e s m args below meth c A ls X I hl hin
  exact b_X11_hasMode_0 X  I hl rfl
/-! X11_lengthOf -/
def f_X11_lengthOf (l0 : Int32) : Int32 := (if (4 : Int32) ≤ (l0 >>> ((3 : Int32) &&& 31)) then (if l0 < (208 : Int32) then (if (f_X11_hasMode (l0 >>> ((3 : Int32) &&& 31)) (l0 &&& (7 : Int32))) = 0 then (0 : Int32) else (if (l0 &&& (7 : Int32)) = (3 : Int32) then (3 : Int32) else (if (l0 &&& (7 : Int32)) = (4 : Int32) then (3 : Int32) else (2 : Int32)))) else (if (217 : Int32) < l0 then (0 : Int32) else (2 : Int32))) else (1 : Int32))
set_option maxHeartbeats 4000000 in
set_option maxRecDepth 100000 in
theorem b_X11_lengthOf_0 {p : Program} {l : Launch} {e : Env} {s : State} {m : MethodId} {args : Array Value} {below : List Frame} {meth : Method} {c : Code} {D : va_G} {cI cJ : ClassId} {A : Nat → Prop}  {z : Int32} (X : fb_Bx p s m args meth c cX11_lengthOf RX11 3 (some .int) D (fb_ty D cI cJ) A) {l0 : Int32} {ls : Array Slot}  (I : fb_In D A s.heap (([] : va_W)) s.heap []) (hl : lv_has ls 3 [(0, .int l0)]) (E : z = f_X11_lengthOf l0) : W p l e ({ frames := 1, cells := 0, slots := 0, locals := 22 } : Room) s m args below meth c s.heap [] 0 0 (MQ below (vp_Si (fun r => r = z)) args s 0 0 (fun _ => False)) (F0 m 0 ls []) := by
  obtain ⟨hx, hb, hr, hml, hown, hts, hlk, hA, hK, hF⟩ := id X
  refine lv_iload_n hx hb dX11_lengthOf_0 rfl (lv_at hl 0 rfl) ?_
  refine lv_iconst (v := (3 : Int32)) hx hb dX11_lengthOf_1 (by decide) ?_
  refine lv_ishr hx hb dX11_lengthOf_2 ?_
  refine lv_istore_n (lv' := [(1, .int (l0 >>> ((3 : Int32) &&& 31))), (0, .int l0)]) hx hb dX11_lengthOf_3 rfl hl (by decide) rfl (fun ls hl => ?_)
  refine lv_iload_n hx hb dX11_lengthOf_4 rfl (lv_at hl 1 rfl) ?_
  refine lv_bipush (v := (7 : Int32)) hx hb dX11_lengthOf_5 (by decide) ?_
  refine lv_iand hx hb dX11_lengthOf_7 ?_
  refine lv_istore_n (lv' := [(2, .int (l0 &&& (7 : Int32))), (1, .int (l0 >>> ((3 : Int32) &&& 31))), (0, .int l0)]) hx hb dX11_lengthOf_8 rfl hl (by decide) rfl (fun ls hl => ?_)
  refine lv_iload_n hx hb dX11_lengthOf_9 rfl (lv_at hl 1 rfl) ?_
  refine lv_iconst (v := (4 : Int32)) hx hb dX11_lengthOf_10 (by decide) ?_
  refine lv_icmp_ge (tgt := 16) hx hb dX11_lengthOf_11 (by decide) (fun c1 => ?_) (fun c1 => ?_)
  · have E2 := (E.trans (if_pos c1))
    refine lv_iload_n hx hb dX11_lengthOf_16 rfl (lv_at hl 2 rfl) ?_
    refine lv_sipush (v := (208 : Int32)) hx hb dX11_lengthOf_17 (by decide) ?_
    refine lv_icmp_lt (tgt := 36) hx hb dX11_lengthOf_20 (by decide) (fun c4 => ?_) (fun c4 => ?_)
    · have E5 := (E2.trans (if_pos c4))
      refine lv_iload_n hx hb dX11_lengthOf_36 rfl (lv_at hl 1 rfl) ?_
      refine lv_iload_n hx hb dX11_lengthOf_37 rfl (lv_at hl 0 rfl) ?_
      refine fb_roI X I (fb_runS (As := [.int (l0 >>> ((3 : Int32) &&& 31)), .int (l0 &&& (7 : Int32))]) (rest := []) X I hl (c_X11_hasMode l D cI cJ (l0 >>> ((3 : Int32) &&& 31)) (l0 &&& (7 : Int32)) _) (fb_goodS fw_1060 fw_1055 fw_191 fw_1056) rfl rfl (by decide +kernel : fb_hd yX11_hasMode 2) ⟨Nat.le_of_ble_eq_true rfl, Nat.le_of_ble_eq_true rfl⟩ [] (by decide) rfl rfl rfl (Nat.le_of_ble_eq_true rfl) ⟨Nat.zero_le _, Nat.zero_le _⟩ dX11_lengthOf_38) ?_
      refine lv_if_ne (tgt := 46) hx hb dX11_lengthOf_41 (by decide) (fun c7 => ?_) (fun c7 => ?_)
      · have E8 := (E5.trans (if_neg c7))
        refine lv_iload_n hx hb dX11_lengthOf_46 rfl (lv_at hl 0 rfl) ?_
        refine lv_iconst (v := (3 : Int32)) hx hb dX11_lengthOf_47 (by decide) ?_
        refine lv_icmp_eq (tgt := 56) hx hb dX11_lengthOf_48 (by decide) (fun c10 => ?_) (fun c10 => ?_)
        · have E11 := (E8.trans (if_pos c10))
          refine lv_iconst (v := (3 : Int32)) hx hb dX11_lengthOf_56 (by decide) ?_
          refine lv_goto (tgt := 61) hx hb dX11_lengthOf_57 (by decide) ?_
          exact fb_retRI X E11 rfl dX11_lengthOf_61
        · have E12 := (E8.trans (if_neg c10))
          refine lv_iload_n hx hb dX11_lengthOf_51 rfl (lv_at hl 0 rfl) ?_
          refine lv_iconst (v := (4 : Int32)) hx hb dX11_lengthOf_52 (by decide) ?_
          refine lv_icmp_ne (tgt := 60) hx hb dX11_lengthOf_53 (by decide) (fun c13 => ?_) (fun c13 => ?_)
          · have E14 := (E12.trans (if_neg c13))
            refine lv_iconst (v := (2 : Int32)) hx hb dX11_lengthOf_60 (by decide) ?_
            exact fb_retRI X E14 rfl dX11_lengthOf_61
          · have E15 := (E12.trans (if_pos c13))
            refine lv_iconst (v := (3 : Int32)) hx hb dX11_lengthOf_56 (by decide) ?_
            refine lv_goto (tgt := 61) hx hb dX11_lengthOf_57 (by decide) ?_
            exact fb_retRI X E15 rfl dX11_lengthOf_61
      · have E9 := (E5.trans (if_pos c7))
        refine lv_iconst (v := (0 : Int32)) hx hb dX11_lengthOf_44 (by decide) ?_
        exact fb_retRI X E9 rfl dX11_lengthOf_45
    · have E6 := (E2.trans (if_neg c4))
      refine lv_iload_n hx hb dX11_lengthOf_23 rfl (lv_at hl 2 rfl) ?_
      refine lv_sipush (v := (217 : Int32)) hx hb dX11_lengthOf_24 (by decide) ?_
      refine lv_icmp_gt (tgt := 34) hx hb dX11_lengthOf_27 (by decide) (fun c16 => ?_) (fun c16 => ?_)
      · have E17 := (E6.trans (if_pos c16))
        refine lv_iconst (v := (0 : Int32)) hx hb dX11_lengthOf_34 (by decide) ?_
        exact fb_retRI X E17 rfl dX11_lengthOf_35
      · have E18 := (E6.trans (if_neg c16))
        refine lv_iconst (v := (2 : Int32)) hx hb dX11_lengthOf_30 (by decide) ?_
        refine lv_goto (tgt := 35) hx hb dX11_lengthOf_31 (by decide) ?_
        exact fb_retRI X E18 rfl dX11_lengthOf_35
  · have E3 := (E.trans (if_neg c1))
    refine lv_iconst (v := (1 : Int32)) hx hb dX11_lengthOf_14 (by decide) ?_
    exact fb_retRI X E3 rfl dX11_lengthOf_15
set_option maxHeartbeats 4000000 in
set_option maxRecDepth 100000 in
theorem c_X11_lengthOf (l : Launch) (D : va_G) (cI cJ : ClassId)  (l0 : Int32) (sz : Nat)  : Met l yX11_lengthOf (Cond.code yX11_lengthOf cX11_lengthOf 3 (some .int) :: fb_all) ({ frames := 1, cells := 0, slots := 0, locals := 22 } : Room) (fb_PP D (fb_ty D cI cJ) [.int l0] (([] : va_W)) sz) (vp_Si (fun r => r = ((f_X11_lengthOf l0)))) 0 0 (fun _ => False) := by
  refine fb_entR (by decide +kernel) (Nat.le_of_ble_eq_true rfl) ?_
  intro p e s m args below meth c A ls X I hl hin
  exact b_X11_lengthOf_0 X  I hl rfl
/-! X5_clear -/
def f_X5_clear (zp : fb_PS) : fb_PS := (fb_pR (fb_pR (fb_pR (fb_pR (fb_pR (fb_pR (fb_pR (fb_pR (fb_pR (fb_pR (fb_pR (fb_pR zp 2 (0 : Int32)) 3 (0 : Int32)) 4 (0 : Int32)) 5 (0 : Int32)) 6 (0 : Int32)) 7 (0 : Int32)) 8 (0 : Int32)) 9 (0 : Int32)) 10 (1 : Int32)) 11 (0 : Int32)) 12 (0 : Int32)) 13 (0 : Int32))
set_option maxHeartbeats 4000000 in
set_option maxRecDepth 100000 in
theorem b_X5_clear_0 {p : Program} {l : Launch} {e : Env} {s : State} {m : MethodId} {args : Array Value} {below : List Frame} {meth : Method} {c : Code} {D : va_G} {cI cJ : ClassId} {A : Nat → Prop} {zq : Nat → Nat} {z : fb_PS} (X : fb_Bx p s m args meth c cX5_clear RX5 1 none D (fb_ty D cI cJ) A) {zp : fb_PS} {H : Heap} {locs : List Loc} {ls : Array Slot}  (I : fb_In D A s.heap ((fb_pw cI zq zp)) H locs) (hl : lv_has ls 1 [(0, .ref (zq 5))]) (E : z = f_X5_clear zp) : W p l e ({ frames := 0, cells := 0, slots := 0, locals := 0 } : Room) s m args below meth c H locs 0 0 (MQ below (fb_QV D A (fun (_ : Unit) => True) (fun (t : Unit) => (fb_pw cI zq (z)))) args s 0 0 A) (F0 m 0 ls []) := by
  obtain ⟨hx, hb, hr, hml, hown, hts, hlk, hA, hK, hF⟩ := id X
  refine lv_aload_n hx hb dX5_clear_0 rfl (lv_at hl 0 rfl) ?_
  refine lv_iconst (v := (0 : Int32)) hx hb dX5_clear_1 (by decide) ?_
  refine fb_put X I (k := 2) (wn := (fb_pw cI zq (fb_pR zp 2 (0 : Int32)))) fu_X5 tyX5 tyX5_ok nmX5 0 rfl rfl (Nat.le_of_ble_eq_true rfl) fw_462 rfl rfl rfl rfl rfl (Nat.le_of_ble_eq_true rfl) fb_ps2 dX5_clear_2 (fun H locs I => ?_)
  refine lv_aload_n hx hb dX5_clear_5 rfl (lv_at hl 0 rfl) ?_
  refine lv_iconst (v := (0 : Int32)) hx hb dX5_clear_6 (by decide) ?_
  refine fb_put X I (k := 3) (wn := (fb_pw cI zq (fb_pR (fb_pR zp 2 (0 : Int32)) 3 (0 : Int32)))) fu_X5 tyX5 tyX5_ok nmX5 0 rfl rfl (Nat.le_of_ble_eq_true rfl) fw_465 rfl rfl rfl rfl rfl (Nat.le_of_ble_eq_true rfl) fb_ps3 dX5_clear_7 (fun H locs I => ?_)
  refine lv_aload_n hx hb dX5_clear_10 rfl (lv_at hl 0 rfl) ?_
  refine lv_iconst (v := (0 : Int32)) hx hb dX5_clear_11 (by decide) ?_
  refine fb_put X I (k := 4) (wn := (fb_pw cI zq (fb_pR (fb_pR (fb_pR zp 2 (0 : Int32)) 3 (0 : Int32)) 4 (0 : Int32)))) fu_X5 tyX5 tyX5_ok nmX5 0 rfl rfl (Nat.le_of_ble_eq_true rfl) fw_467 rfl rfl rfl rfl rfl (Nat.le_of_ble_eq_true rfl) fb_ps4 dX5_clear_12 (fun H locs I => ?_)
  refine lv_aload_n hx hb dX5_clear_15 rfl (lv_at hl 0 rfl) ?_
  refine lv_iconst (v := (0 : Int32)) hx hb dX5_clear_16 (by decide) ?_
  refine fb_put X I (k := 5) (wn := (fb_pw cI zq (fb_pR (fb_pR (fb_pR (fb_pR zp 2 (0 : Int32)) 3 (0 : Int32)) 4 (0 : Int32)) 5 (0 : Int32)))) fu_X5 tyX5 tyX5_ok nmX5 0 rfl rfl (Nat.le_of_ble_eq_true rfl) fw_470 rfl rfl rfl rfl rfl (Nat.le_of_ble_eq_true rfl) fb_ps5 dX5_clear_17 (fun H locs I => ?_)
  refine lv_aload_n hx hb dX5_clear_20 rfl (lv_at hl 0 rfl) ?_
  refine lv_iconst (v := (0 : Int32)) hx hb dX5_clear_21 (by decide) ?_
  refine fb_put X I (k := 6) (wn := (fb_pw cI zq (fb_pR (fb_pR (fb_pR (fb_pR (fb_pR zp 2 (0 : Int32)) 3 (0 : Int32)) 4 (0 : Int32)) 5 (0 : Int32)) 6 (0 : Int32)))) fu_X5 tyX5 tyX5_ok nmX5 0 rfl rfl (Nat.le_of_ble_eq_true rfl) fw_472 rfl rfl rfl rfl rfl (Nat.le_of_ble_eq_true rfl) fb_ps6 dX5_clear_22 (fun H locs I => ?_)
  refine lv_aload_n hx hb dX5_clear_25 rfl (lv_at hl 0 rfl) ?_
  refine lv_iconst (v := (0 : Int32)) hx hb dX5_clear_26 (by decide) ?_
  refine fb_put X I (k := 7) (wn := (fb_pw cI zq (fb_pR (fb_pR (fb_pR (fb_pR (fb_pR (fb_pR zp 2 (0 : Int32)) 3 (0 : Int32)) 4 (0 : Int32)) 5 (0 : Int32)) 6 (0 : Int32)) 7 (0 : Int32)))) fu_X5 tyX5 tyX5_ok nmX5 0 rfl rfl (Nat.le_of_ble_eq_true rfl) fw_474 rfl rfl rfl rfl rfl (Nat.le_of_ble_eq_true rfl) fb_ps7 dX5_clear_27 (fun H locs I => ?_)
  refine lv_aload_n hx hb dX5_clear_30 rfl (lv_at hl 0 rfl) ?_
  refine lv_iconst (v := (0 : Int32)) hx hb dX5_clear_31 (by decide) ?_
  refine fb_put X I (k := 8) (wn := (fb_pw cI zq (fb_pR (fb_pR (fb_pR (fb_pR (fb_pR (fb_pR (fb_pR zp 2 (0 : Int32)) 3 (0 : Int32)) 4 (0 : Int32)) 5 (0 : Int32)) 6 (0 : Int32)) 7 (0 : Int32)) 8 (0 : Int32)))) fu_X5 tyX5 tyX5_ok nmX5 0 rfl rfl (Nat.le_of_ble_eq_true rfl) fw_475 rfl rfl rfl rfl rfl (Nat.le_of_ble_eq_true rfl) fb_ps8 dX5_clear_32 (fun H locs I => ?_)
  refine lv_aload_n hx hb dX5_clear_35 rfl (lv_at hl 0 rfl) ?_
  refine lv_iconst (v := (0 : Int32)) hx hb dX5_clear_36 (by decide) ?_
  refine fb_put X I (k := 9) (wn := (fb_pw cI zq (fb_pR (fb_pR (fb_pR (fb_pR (fb_pR (fb_pR (fb_pR (fb_pR zp 2 (0 : Int32)) 3 (0 : Int32)) 4 (0 : Int32)) 5 (0 : Int32)) 6 (0 : Int32)) 7 (0 : Int32)) 8 (0 : Int32)) 9 (0 : Int32)))) fu_X5 tyX5 tyX5_ok nmX5 0 rfl rfl (Nat.le_of_ble_eq_true rfl) fw_477 rfl rfl rfl rfl rfl (Nat.le_of_ble_eq_true rfl) fb_ps9 dX5_clear_37 (fun H locs I => ?_)
  refine lv_aload_n hx hb dX5_clear_40 rfl (lv_at hl 0 rfl) ?_
  refine lv_iconst (v := (1 : Int32)) hx hb dX5_clear_41 (by decide) ?_
  refine fb_put X I (k := 10) (wn := (fb_pw cI zq (fb_pR (fb_pR (fb_pR (fb_pR (fb_pR (fb_pR (fb_pR (fb_pR (fb_pR zp 2 (0 : Int32)) 3 (0 : Int32)) 4 (0 : Int32)) 5 (0 : Int32)) 6 (0 : Int32)) 7 (0 : Int32)) 8 (0 : Int32)) 9 (0 : Int32)) 10 (1 : Int32)))) fu_X5 tyX5 tyX5_ok nmX5 0 rfl rfl (Nat.le_of_ble_eq_true rfl) fw_478 rfl rfl rfl rfl rfl (Nat.le_of_ble_eq_true rfl) fb_ps10 dX5_clear_42 (fun H locs I => ?_)
  refine lv_aload_n hx hb dX5_clear_45 rfl (lv_at hl 0 rfl) ?_
  refine lv_iconst (v := (0 : Int32)) hx hb dX5_clear_46 (by decide) ?_
  refine fb_put X I (k := 11) (wn := (fb_pw cI zq (fb_pR (fb_pR (fb_pR (fb_pR (fb_pR (fb_pR (fb_pR (fb_pR (fb_pR (fb_pR zp 2 (0 : Int32)) 3 (0 : Int32)) 4 (0 : Int32)) 5 (0 : Int32)) 6 (0 : Int32)) 7 (0 : Int32)) 8 (0 : Int32)) 9 (0 : Int32)) 10 (1 : Int32)) 11 (0 : Int32)))) fu_X5 tyX5 tyX5_ok nmX5 0 rfl rfl (Nat.le_of_ble_eq_true rfl) fw_479 rfl rfl rfl rfl rfl (Nat.le_of_ble_eq_true rfl) fb_ps11 dX5_clear_47 (fun H locs I => ?_)
  refine lv_aload_n hx hb dX5_clear_50 rfl (lv_at hl 0 rfl) ?_
  refine lv_iconst (v := (0 : Int32)) hx hb dX5_clear_51 (by decide) ?_
  refine fb_put X I (k := 12) (wn := (fb_pw cI zq (fb_pR (fb_pR (fb_pR (fb_pR (fb_pR (fb_pR (fb_pR (fb_pR (fb_pR (fb_pR (fb_pR zp 2 (0 : Int32)) 3 (0 : Int32)) 4 (0 : Int32)) 5 (0 : Int32)) 6 (0 : Int32)) 7 (0 : Int32)) 8 (0 : Int32)) 9 (0 : Int32)) 10 (1 : Int32)) 11 (0 : Int32)) 12 (0 : Int32)))) fu_X5 tyX5 tyX5_ok nmX5 0 rfl rfl (Nat.le_of_ble_eq_true rfl) fw_481 rfl rfl rfl rfl rfl (Nat.le_of_ble_eq_true rfl) fb_ps12 dX5_clear_52 (fun H locs I => ?_)
  refine lv_aload_n hx hb dX5_clear_55 rfl (lv_at hl 0 rfl) ?_
  refine lv_iconst (v := (0 : Int32)) hx hb dX5_clear_56 (by decide) ?_
  refine fb_put X I (k := 13) (wn := (fb_pw cI zq (fb_pR (fb_pR (fb_pR (fb_pR (fb_pR (fb_pR (fb_pR (fb_pR (fb_pR (fb_pR (fb_pR (fb_pR zp 2 (0 : Int32)) 3 (0 : Int32)) 4 (0 : Int32)) 5 (0 : Int32)) 6 (0 : Int32)) 7 (0 : Int32)) 8 (0 : Int32)) 9 (0 : Int32)) 10 (1 : Int32)) 11 (0 : Int32)) 12 (0 : Int32)) 13 (0 : Int32)))) fu_X5 tyX5 tyX5_ok nmX5 0 rfl rfl (Nat.le_of_ble_eq_true rfl) fw_483 rfl rfl rfl rfl rfl (Nat.le_of_ble_eq_true rfl) fb_ps13 dX5_clear_57 (fun H locs I => ?_)
  subst E
  exact fb_retV (u := ()) X I trivial dX5_clear_60
set_option maxHeartbeats 4000000 in
set_option maxRecDepth 100000 in
theorem c_X5_clear (l : Launch) (D : va_G) (cI cJ : ClassId) (zq : Nat → Nat) (zp : fb_PS)  (sz : Nat)  : Met l yX5_clear (Cond.code yX5_clear cX5_clear 1 none :: fb_all) ({ frames := 0, cells := 0, slots := 0, locals := 0 } : Room) (fb_PP D (fb_ty D cI cJ) [.ref (zq 5)] ((fb_pw cI zq zp)) sz) (fb_QV D (va_A ((fb_pw cI zq zp)) sz) (fun (_ : Unit) => True) (fun (t : Unit) => (fb_pw cI zq (((f_X5_clear zp)))))) 0 0 (va_A ((fb_pw cI zq zp)) sz) := by
  refine fb_ent (Qf := fun A => (fb_QV D A (fun (_ : Unit) => True) (fun (t : Unit) => (fb_pw cI zq (((f_X5_clear zp))))))) (by decide +kernel) (Nat.le_of_ble_eq_true rfl) ?_
  intro p e s m args below meth c A ls X I hl hin
  exact b_X5_clear_0 X  I hl rfl
/-! J7_fill_53178 -/
def f_J7_fill_53178 (_ : Nat) (_ : fb_AR) (l1 : Int32) : fb_AR := fun _ => l1
set_option maxHeartbeats 4000000 in
set_option maxRecDepth 100000 in
theorem b_J7_fill_53178_5 {p : Program} {l : Launch} {e : Env} {s : State} {m : MethodId} {args : Array Value} {below : List Frame} {meth : Method} {c : Code} {D : va_G} {cI cJ : ClassId} {A : Nat → Prop} {za zN : Nat} {l1 : Int32} (X : fb_Bx p s m args meth c cJ7_fill_53178 RJ7 4 none D (fb_ty D cI cJ) A) (hN : zN < 2 ^ 31) : ∀ (n : Nat) {zf : fb_AR} {j : Nat} {l2 : Int32} {H : Heap} {locs : List Loc} {ls : Array Slot} (hm : zN - j < n) (hj : j ≤ zN) (e2 : l2 = nI j) (hv : ∀ i, i < j → zf i = l1) (I : fb_In D A s.heap (fb_aw cI za zN zf) H locs) (hl : lv_has ls 4 [(0, .ref za), (1, .int l1), (2, .int l2), (3, .int (nI zN))]), W p l e ({ frames := 0, cells := 0, slots := 0, locals := 0 } : Room) s m args below meth c H locs 0 0 (MQ below (fb_QV D A (fun (_ : Unit) => True) (fun (_ : Unit) => (fb_aw cI za zN (fun _ => l1)))) args s 0 0 A) (F0 m 5 ls []) := by
  intro n
  obtain ⟨hx, hb, hr, hml, hown, hts, hlk, hA, hK, hF⟩ := id X
  induction n with
  | zero =>
    intro zf j l2 H locs ls hm
    exact absurd hm (Nat.not_lt_zero _)
  | succ n ih =>
    intro zf j l2 H locs ls hm hj e2 hv I hl
    refine lv_iload_n hx hb dJ7_fill_53178_5 rfl (lv_at hl 2 rfl) ?_
    refine lv_iload_n hx hb dJ7_fill_53178_6 rfl (lv_at hl 3 rfl) ?_
    refine lv_icmp_ge (tgt := 20) hx hb dJ7_fill_53178_7 (by decide) (fun c1 => ?_) (fun c1 => ?_)
    · have h9 : zN ≤ j := Nat.le_of_not_lt fun q => by rw [e2] at c1; exact nI_ge q hN c1
      have I := I.row 0 (f := zf) (g := fun _ => l1) (wn := fb_aw cI za zN (fun _ => l1)) rfl (fun i hi => hv i (by omega)) rfl
      exact fb_retV (u := ()) X I trivial dJ7_fill_53178_20
    · have h9 : j < zN := Nat.lt_of_not_le fun q => c1 (by rw [e2]; exact nI_le q (by omega))
      refine lv_aload_n hx hb dJ7_fill_53178_10 rfl (lv_at hl 0 rfl) ?_
      refine lv_iload_n hx hb dJ7_fill_53178_11 rfl (lv_at hl 2 rfl) ?_
      refine lv_iload_n hx hb dJ7_fill_53178_12 rfl (lv_at hl 1 rfl) ?_
      refine fb_iast (wn := (fb_aw cI za zN (upd zf (l2).toNatClampNeg l1))) X I (i := l2) 0 0 rfl rfl (by rw [e2]; exact vp_in_nI h9 hN) rfl dJ7_fill_53178_13 (fun H locs I => ?_)
      refine lv_iinc (v := (l2 + (1 : Int32))) (lv' := [(2, .int (l2 + (1 : Int32))), (0, .ref za), (1, .int l1), (3, .int (nI zN))]) hx hb dJ7_fill_53178_14 hl (k := 2) rfl rfl (by decide) rfl (fun ls hl => ?_)
      refine lv_goto (tgt := 5) hx hb dJ7_fill_53178_17 (by decide) ?_
      refine ih (j := j + 1) (l2 := (l2 + (1 : Int32))) (by omega) h9 (by rw [e2]; exact nI_1 j) (fun i hi => ?_) I (lv_sub hl [1, 2, 0, 3] rfl)
      have e3 : l2.toNatClampNeg = j := by rw [e2]; exact nI_clamp (by omega)
      rw [e3]
      by_cases h8 : i = j
      · rw [h8]; exact pk_us
      · rw [pk_un h8]; exact hv i (by omega)
set_option maxHeartbeats 4000000 in
set_option maxRecDepth 100000 in
theorem c_J7_fill_53178 (l : Launch) (D : va_G) (cI cJ : ClassId) (za : Nat) (zN : Nat) (zf : fb_AR) (l1 : Int32) (sz : Nat) (hN : zN < 2 ^ 31) : Met l yJ7_fill_53178 (Cond.code yJ7_fill_53178 cJ7_fill_53178 4 none :: fb_all) ({ frames := 0, cells := 0, slots := 0, locals := 0 } : Room) (fb_PP D (fb_ty D cI cJ) [.ref za, .int l1] (fb_aw cI za zN zf) sz) (fb_QV D (va_A (fb_aw cI za zN zf) sz) (fun (_ : Unit) => True) (fun (_ : Unit) => (fb_aw cI za zN (f_J7_fill_53178 zN zf l1)))) 0 0 (va_A (fb_aw cI za zN zf) sz) := by
  refine fb_ent (Qf := fun A => (fb_QV D A (fun (_ : Unit) => True) (fun (_ : Unit) => (fb_aw cI za zN (f_J7_fill_53178 zN zf l1))))) (by decide +kernel) (Nat.le_of_ble_eq_true rfl) ?_
  intro p e s m args below meth c A ls X I hl hin
  obtain ⟨hx, hb, hr, hml, hown, hts, hlk, hA, hK, hF⟩ := id X
  have hl : lv_has ls 4 [(0, .ref za), (1, .int l1)] := hl
  refine lv_iconst (v := (0 : Int32)) hx hb dJ7_fill_53178_0 (by decide) ?_
  refine lv_istore_n (lv' := [(2, .int (0 : Int32)), (0, .ref za), (1, .int l1)]) hx hb dJ7_fill_53178_1 rfl hl (by decide) rfl (fun ls hl => ?_)
  refine lv_aload_n hx hb dJ7_fill_53178_2 rfl (lv_at hl 1 rfl) ?_
  refine fb_alen (v := nI zN) X I 0 0 rfl rfl rfl dJ7_fill_53178_3 ?_
  refine lv_istore_n (lv' := [(3, .int (nI zN)), (2, .int (0 : Int32)), (0, .ref za), (1, .int l1)]) hx hb dJ7_fill_53178_4 rfl hl (by decide) rfl (fun ls hl => ?_)
  exact b_J7_fill_53178_5 X hN (zN - 0 + 1) (zf := zf) (j := 0) (by omega) (Nat.zero_le _) nI_0.symm (fun i hi => absurd hi (Nat.not_lt_zero i)) I (lv_sub hl [2, 3, 1, 0] rfl)


