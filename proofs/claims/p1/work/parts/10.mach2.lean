/-! X2_multiply -/
def f_X2_multiply_44 (zs : fb_MS) (l1 : Int32) (k0 : Int32) (k1 : Int32) : fb_MS := (fb_sR ((f_X2_zn ((f_X2_setFlag zs k1 k0)) (l1 - l1 / (256 : Int32) * (256 : Int32))).2) 5 ((f_X2_zn ((f_X2_setFlag zs k1 k0)) (l1 - l1 / (256 : Int32) * (256 : Int32))).1))
def f_X2_multiply (zs : fb_MS) : fb_MS := (if (((fb_sR (fb_sR zs 15 (((zs).1 15) + (8 : Int32))) 6 ((((zs).1 5) * ((zs).1 6)) / (256 : Int32)))).1 6) = 0 then f_X2_multiply_44 (fb_sR (fb_sR zs 15 (((zs).1 15) + (8 : Int32))) 6 ((((zs).1 5) * ((zs).1 6)) / (256 : Int32))) (((zs).1 5) * ((zs).1 6)) (0 : Int32) (1 : Int32) else f_X2_multiply_44 (fb_sR (fb_sR zs 15 (((zs).1 15) + (8 : Int32))) 6 ((((zs).1 5) * ((zs).1 6)) / (256 : Int32))) (((zs).1 5) * ((zs).1 6)) (1 : Int32) (1 : Int32))
set_option maxHeartbeats 4000000 in
set_option maxRecDepth 100000 in
theorem b_X2_multiply_44 {p : Program} {l : Launch} {e : Env} {s : State} {m : MethodId} {args : Array Value} {below : List Frame} {meth : Method} {c : Code} {D : va_G} {cI cJ : ClassId} {A : Nat → Prop} {zq : Nat → Nat} {z : fb_MS} (X : fb_Bx p s m args meth c cX2_multiply RX2 2 none D (fb_ty D cI cJ) A) {zs : fb_MS} {zw : fb_AR} {l1 : Int32} {k0 : Int32} {k1 : Int32} {H : Heap} {locs : List Loc} {ls : Array Slot}  (I : fb_In D A s.heap ((fb_mw cI zq zs zw)) H locs) (hl : lv_has ls 2 [(0, .ref (zq 0)), (1, .int l1)]) (E : z = f_X2_multiply_44 zs l1 k0 k1) : W p l e ({ frames := 1, cells := 0, slots := 0, locals := 22 } : Room) s m args below meth c H locs 0 0 (MQ below (fb_QV D A (fun (_ : fb_AR) => True) (fun (t : fb_AR) => (fb_mw cI zq (z) (t)))) args s 0 0 A) (F0 m 44 ls [.int k0, .int k1, .ref (zq 0)]) := by
  obtain ⟨hx, hb, hr, hml, hown, hts, hlk, hA, hK, hF⟩ := id X
  refine fb_goV (wn := fun (w4 : fb_AR) => (fb_mw cI zq ((f_X2_setFlag zs k1 k0)) (w4))) X I (fb_runV (As := [.int k1, .int k0]) (rest := []) (q0 := 0) X I hl (c_X2_setFlag l D cI cJ zq zs zw k1 k0 _) (fb_goodV fw_1246 fw_1248 fw_51 fw_198 fw_1249) rfl rfl rfl (by decide +kernel : fb_hd yX2_setFlag 2) ⟨Nat.le_of_ble_eq_true rfl, Nat.le_of_ble_eq_true rfl⟩ [0, 1, 2, 3, 4, 5, 6, 7] (by decide) rfl rfl rfl rfl rfl rfl (Nat.le_of_ble_eq_true rfl) ⟨Nat.zero_le _, Nat.zero_le _⟩ dX2_multiply_44) [0, 1, 2, 3, 4, 5, 6, 7] [] [0, 1, 2, 3, 4, 5, 6, 7] rfl rfl (by decide) (by decide) (by decide) (fun _ => rfl) ?_
  intro w4 H locs _ I
  refine lv_aload_n hx hb dX2_multiply_47 rfl (lv_at hl 0 rfl) ?_
  refine lv_aload_n hx hb dX2_multiply_48 rfl (lv_at hl 0 rfl) ?_
  refine lv_iload_n hx hb dX2_multiply_49 rfl (lv_at hl 1 rfl) ?_
  refine lv_sipush (v := (256 : Int32)) hx hb dX2_multiply_50 (by decide) ?_
  refine lv_irem hx hb dX2_multiply_53 (by decide) ?_
  refine fb_goI (wn := fun (w5 : fb_AR) => (fb_mw cI zq ((f_X2_zn ((f_X2_setFlag zs k1 k0)) (l1 - l1 / (256 : Int32) * (256 : Int32))).2) (w5))) X I (fb_runV (As := [.int (l1 - l1 / (256 : Int32) * (256 : Int32))]) (rest := [.ref (zq 0)]) (q0 := 0) X I hl (c_X2_zn l D cI cJ zq ((f_X2_setFlag zs k1 k0)) (w4) (l1 - l1 / (256 : Int32) * (256 : Int32)) _) (fb_goodV fw_1254 fw_1256 fw_53 fw_198 fw_1257) rfl rfl rfl (by decide +kernel : fb_hd yX2_zn 1) ⟨Nat.le_of_ble_eq_true rfl, Nat.le_of_ble_eq_true rfl⟩ [0, 1, 2, 3, 4, 5, 6, 7] (by decide) rfl rfl rfl rfl rfl rfl (Nat.le_of_ble_eq_true rfl) ⟨Nat.zero_le _, Nat.zero_le _⟩ dX2_multiply_54) [0, 1, 2, 3, 4, 5, 6, 7] [] [0, 1, 2, 3, 4, 5, 6, 7] rfl rfl (by decide) (by decide) (by decide) (fun _ => rfl) ?_
  intro r6 w5 H locs e0 I
  subst e0
  refine fb_put X I (k := 5) (wn := (fb_mw cI zq (fb_sR ((f_X2_zn ((f_X2_setFlag zs k1 k0)) (l1 - l1 / (256 : Int32) * (256 : Int32))).2) 5 ((f_X2_zn ((f_X2_setFlag zs k1 k0)) (l1 - l1 / (256 : Int32) * (256 : Int32))).1)) (w5))) fu_X2 tyX2 tyX2_ok nmX2 0 rfl rfl (Nat.le_of_ble_eq_true rfl) fw_524 rfl rfl rfl rfl rfl (Nat.le_of_ble_eq_true rfl) fb_ms5 dX2_multiply_57 (fun H locs I => ?_)
  subst E
  exact fb_retV (u := ((w5))) X I trivial dX2_multiply_60
set_option maxHeartbeats 4000000 in
set_option maxRecDepth 100000 in
theorem b_X2_multiply_0 {p : Program} {l : Launch} {e : Env} {s : State} {m : MethodId} {args : Array Value} {below : List Frame} {meth : Method} {c : Code} {D : va_G} {cI cJ : ClassId} {A : Nat → Prop} {zq : Nat → Nat} {z : fb_MS} (X : fb_Bx p s m args meth c cX2_multiply RX2 2 none D (fb_ty D cI cJ) A) {zs : fb_MS} {zw : fb_AR} {H : Heap} {locs : List Loc} {ls : Array Slot}  (I : fb_In D A s.heap ((fb_mw cI zq zs zw)) H locs) (hl : lv_has ls 2 [(0, .ref (zq 0))]) (E : z = f_X2_multiply zs) : W p l e ({ frames := 1, cells := 0, slots := 0, locals := 22 } : Room) s m args below meth c H locs 0 0 (MQ below (fb_QV D A (fun (_ : fb_AR) => True) (fun (t : fb_AR) => (fb_mw cI zq (z) (t)))) args s 0 0 A) (F0 m 0 ls []) := by
  obtain ⟨hx, hb, hr, hml, hown, hts, hlk, hA, hK, hF⟩ := id X
  refine lv_aload_n hx hb dX2_multiply_0 rfl (lv_at hl 0 rfl) ?_
  refine fb_get X I (k := 5) fu_X2 0 rfl rfl (Nat.le_of_ble_eq_true rfl) fw_524 rfl rfl dX2_multiply_1 ?_
  refine lv_aload_n hx hb dX2_multiply_4 rfl (lv_at hl 0 rfl) ?_
  refine fb_get X I (k := 6) fu_X2 0 rfl rfl (Nat.le_of_ble_eq_true rfl) fw_526 rfl rfl dX2_multiply_5 ?_
  refine lv_imul hx hb dX2_multiply_8 ?_
  refine lv_istore_n (lv' := [(1, .int (((zs).1 5) * ((zs).1 6))), (0, .ref (zq 0))]) hx hb dX2_multiply_9 rfl hl (by decide) rfl (fun ls hl => ?_)
  refine lv_aload_n hx hb dX2_multiply_10 rfl (lv_at hl 1 rfl) ?_
  refine lv_dup hx hb dX2_multiply_11 rfl ?_
  refine fb_get X I (k := 15) fu_X2 0 rfl rfl (Nat.le_of_ble_eq_true rfl) fw_545 rfl rfl dX2_multiply_12 ?_
  refine lv_bipush (v := (8 : Int32)) hx hb dX2_multiply_15 (by decide) ?_
  refine lv_iadd hx hb dX2_multiply_17 ?_
  refine fb_put X I (k := 15) (wn := (fb_mw cI zq (fb_sR zs 15 (((zs).1 15) + (8 : Int32))) zw)) fu_X2 tyX2 tyX2_ok nmX2 0 rfl rfl (Nat.le_of_ble_eq_true rfl) fw_545 rfl rfl rfl rfl rfl (Nat.le_of_ble_eq_true rfl) fb_ms15 dX2_multiply_18 (fun H locs I => ?_)
  refine lv_aload_n hx hb dX2_multiply_21 rfl (lv_at hl 1 rfl) ?_
  refine lv_iload_n hx hb dX2_multiply_22 rfl (lv_at hl 0 rfl) ?_
  refine lv_sipush (v := (256 : Int32)) hx hb dX2_multiply_23 (by decide) ?_
  refine lv_idiv hx hb dX2_multiply_26 (by decide) ?_
  refine fb_put X I (k := 6) (wn := (fb_mw cI zq (fb_sR (fb_sR zs 15 (((zs).1 15) + (8 : Int32))) 6 ((((zs).1 5) * ((zs).1 6)) / (256 : Int32))) zw)) fu_X2 tyX2 tyX2_ok nmX2 0 rfl rfl (Nat.le_of_ble_eq_true rfl) fw_526 rfl rfl rfl rfl rfl (Nat.le_of_ble_eq_true rfl) fb_ms6 dX2_multiply_27 (fun H locs I => ?_)
  refine lv_aload_n hx hb dX2_multiply_30 rfl (lv_at hl 1 rfl) ?_
  refine lv_iconst (v := (1 : Int32)) hx hb dX2_multiply_31 (by decide) ?_
  refine lv_aload_n hx hb dX2_multiply_32 rfl (lv_at hl 1 rfl) ?_
  refine fb_get X I (k := 6) fu_X2 0 rfl rfl (Nat.le_of_ble_eq_true rfl) fw_526 rfl rfl dX2_multiply_33 ?_
  refine lv_if_eq (tgt := 43) hx hb dX2_multiply_36 (by decide) (fun c1 => ?_) (fun c1 => ?_)
  · have E2 := (E.trans (if_pos c1))
    refine lv_iconst (v := (0 : Int32)) hx hb dX2_multiply_43 (by decide) ?_
    exact b_X2_multiply_44 X  (l1 := (((zs).1 5) * ((zs).1 6))) (k0 := (0 : Int32)) (k1 := (1 : Int32)) I (lv_sub hl [1, 0] rfl) E2
  · have E3 := (E.trans (if_neg c1))
    refine lv_iconst (v := (1 : Int32)) hx hb dX2_multiply_39 (by decide) ?_
    refine lv_goto (tgt := 44) hx hb dX2_multiply_40 (by decide) ?_
    exact b_X2_multiply_44 X  (l1 := (((zs).1 5) * ((zs).1 6))) (k0 := (1 : Int32)) (k1 := (1 : Int32)) I (lv_sub hl [1, 0] rfl) E3
set_option maxHeartbeats 4000000 in
set_option maxRecDepth 100000 in
theorem c_X2_multiply (l : Launch) (D : va_G) (cI cJ : ClassId) (zq : Nat → Nat) (zs : fb_MS) (zw : fb_AR)  (sz : Nat)  : Met l yX2_multiply (Cond.code yX2_multiply cX2_multiply 2 none :: fb_all) ({ frames := 1, cells := 0, slots := 0, locals := 22 } : Room) (fb_PP D (fb_ty D cI cJ) [.ref (zq 0)] ((fb_mw cI zq zs zw)) sz) (fb_QV D (va_A ((fb_mw cI zq zs zw)) sz) (fun (_ : fb_AR) => True) (fun (t : fb_AR) => (fb_mw cI zq (((f_X2_multiply zs))) (t)))) 0 0 (va_A ((fb_mw cI zq zs zw)) sz) := by
  refine fb_ent (Qf := fun A => (fb_QV D A (fun (_ : fb_AR) => True) (fun (t : fb_AR) => (fb_mw cI zq (((f_X2_multiply zs))) (t))))) (by decide +kernel) (Nat.le_of_ble_eq_true rfl) ?_
  intro p e s m args below meth c A ls X I hl hin
  exact b_X2_multiply_0 X  I hl rfl
/-! X2_divide -/
def f_X2_divide_26 (zs : fb_MS) (k0 : Int32) (k1 : Int32) : fb_MS := (if ((((f_X2_setFlag zs k1 k0))).1 6) = 0 then ((f_X2_setFlag zs k1 k0)) else (fb_sR (fb_sR ((f_X2_zn ((f_X2_setFlag zs k1 k0)) (((((f_X2_setFlag zs k1 k0))).1 5) / ((((f_X2_setFlag zs k1 k0))).1 6))).2) 5 ((f_X2_zn ((f_X2_setFlag zs k1 k0)) (((((f_X2_setFlag zs k1 k0))).1 5) / ((((f_X2_setFlag zs k1 k0))).1 6))).1)) 6 (((((f_X2_setFlag zs k1 k0))).1 5) - ((((f_X2_setFlag zs k1 k0))).1 5) / ((((f_X2_setFlag zs k1 k0))).1 6) * ((((f_X2_setFlag zs k1 k0))).1 6))))
def f_X2_divide (zs : fb_MS) : fb_MS := (if (((fb_sR zs 15 (((zs).1 15) + (8 : Int32)))).1 6) = 0 then f_X2_divide_26 (fb_sR zs 15 (((zs).1 15) + (8 : Int32))) (1 : Int32) (8 : Int32) else f_X2_divide_26 (fb_sR zs 15 (((zs).1 15) + (8 : Int32))) (0 : Int32) (8 : Int32))
set_option maxHeartbeats 4000000 in
set_option maxRecDepth 100000 in
theorem b_X2_divide_26 {p : Program} {l : Launch} {e : Env} {s : State} {m : MethodId} {args : Array Value} {below : List Frame} {meth : Method} {c : Code} {D : va_G} {cI cJ : ClassId} {A : Nat → Prop} {zq : Nat → Nat} {z : fb_MS} (X : fb_Bx p s m args meth c cX2_divide RX2 2 none D (fb_ty D cI cJ) A) {zs : fb_MS} {zw : fb_AR} {k0 : Int32} {k1 : Int32} {H : Heap} {locs : List Loc} {ls : Array Slot}  (I : fb_In D A s.heap ((fb_mw cI zq zs zw)) H locs) (hl : lv_has ls 2 [(0, .ref (zq 0))]) (E : z = f_X2_divide_26 zs k0 k1) : W p l e ({ frames := 1, cells := 0, slots := 0, locals := 22 } : Room) s m args below meth c H locs 0 0 (MQ below (fb_QV D A (fun (_ : fb_AR) => True) (fun (t : fb_AR) => (fb_mw cI zq (z) (t)))) args s 0 0 A) (F0 m 26 ls [.int k0, .int k1, .ref (zq 0)]) := by
  obtain ⟨hx, hb, hr, hml, hown, hts, hlk, hA, hK, hF⟩ := id X
  refine fb_goV (wn := fun (w4 : fb_AR) => (fb_mw cI zq ((f_X2_setFlag zs k1 k0)) (w4))) X I (fb_runV (As := [.int k1, .int k0]) (rest := []) (q0 := 0) X I hl (c_X2_setFlag l D cI cJ zq zs zw k1 k0 _) (fb_goodV fw_1246 fw_1248 fw_51 fw_198 fw_1249) rfl rfl rfl (by decide +kernel : fb_hd yX2_setFlag 2) ⟨Nat.le_of_ble_eq_true rfl, Nat.le_of_ble_eq_true rfl⟩ [0, 1, 2, 3, 4, 5, 6, 7] (by decide) rfl rfl rfl rfl rfl rfl (Nat.le_of_ble_eq_true rfl) ⟨Nat.zero_le _, Nat.zero_le _⟩ dX2_divide_26) [0, 1, 2, 3, 4, 5, 6, 7] [] [0, 1, 2, 3, 4, 5, 6, 7] rfl rfl (by decide) (by decide) (by decide) (fun _ => rfl) ?_
  intro w4 H locs _ I
  refine lv_aload_n hx hb dX2_divide_29 rfl (lv_at hl 0 rfl) ?_
  refine fb_get X I (k := 6) fu_X2 0 rfl rfl (Nat.le_of_ble_eq_true rfl) fw_526 rfl rfl dX2_divide_30 ?_
  refine lv_if_ne (tgt := 37) hx hb dX2_divide_33 (by decide) (fun c5 => ?_) (fun c5 => ?_)
  · have E6 := (E.trans (if_neg c5))
    refine lv_aload_n hx hb dX2_divide_37 rfl (lv_at hl 0 rfl) ?_
    refine fb_get X I (k := 5) fu_X2 0 rfl rfl (Nat.le_of_ble_eq_true rfl) fw_524 rfl rfl dX2_divide_38 ?_
    refine lv_aload_n hx hb dX2_divide_41 rfl (lv_at hl 0 rfl) ?_
    refine fb_get X I (k := 6) fu_X2 0 rfl rfl (Nat.le_of_ble_eq_true rfl) fw_526 rfl rfl dX2_divide_42 ?_
    refine lv_irem hx hb dX2_divide_45 c5 ?_
    refine lv_istore_n (lv' := [(1, .int (((((f_X2_setFlag zs k1 k0))).1 5) - ((((f_X2_setFlag zs k1 k0))).1 5) / ((((f_X2_setFlag zs k1 k0))).1 6) * ((((f_X2_setFlag zs k1 k0))).1 6))), (0, .ref (zq 0))]) hx hb dX2_divide_46 rfl hl (by decide) rfl (fun ls hl => ?_)
    refine lv_aload_n hx hb dX2_divide_47 rfl (lv_at hl 1 rfl) ?_
    refine lv_aload_n hx hb dX2_divide_48 rfl (lv_at hl 1 rfl) ?_
    refine lv_aload_n hx hb dX2_divide_49 rfl (lv_at hl 1 rfl) ?_
    refine fb_get X I (k := 5) fu_X2 0 rfl rfl (Nat.le_of_ble_eq_true rfl) fw_524 rfl rfl dX2_divide_50 ?_
    refine lv_aload_n hx hb dX2_divide_53 rfl (lv_at hl 1 rfl) ?_
    refine fb_get X I (k := 6) fu_X2 0 rfl rfl (Nat.le_of_ble_eq_true rfl) fw_526 rfl rfl dX2_divide_54 ?_
    refine lv_idiv hx hb dX2_divide_57 c5 ?_
    refine fb_goI (wn := fun (w8 : fb_AR) => (fb_mw cI zq ((f_X2_zn ((f_X2_setFlag zs k1 k0)) (((((f_X2_setFlag zs k1 k0))).1 5) / ((((f_X2_setFlag zs k1 k0))).1 6))).2) (w8))) X I (fb_runV (As := [.int (((((f_X2_setFlag zs k1 k0))).1 5) / ((((f_X2_setFlag zs k1 k0))).1 6))]) (rest := [.ref (zq 0)]) (q0 := 0) X I hl (c_X2_zn l D cI cJ zq ((f_X2_setFlag zs k1 k0)) (w4) (((((f_X2_setFlag zs k1 k0))).1 5) / ((((f_X2_setFlag zs k1 k0))).1 6)) _) (fb_goodV fw_1254 fw_1256 fw_53 fw_198 fw_1257) rfl rfl rfl (by decide +kernel : fb_hd yX2_zn 1) ⟨Nat.le_of_ble_eq_true rfl, Nat.le_of_ble_eq_true rfl⟩ [0, 1, 2, 3, 4, 5, 6, 7] (by decide) rfl rfl rfl rfl rfl rfl (Nat.le_of_ble_eq_true rfl) ⟨Nat.zero_le _, Nat.zero_le _⟩ dX2_divide_58) [0, 1, 2, 3, 4, 5, 6, 7] [] [0, 1, 2, 3, 4, 5, 6, 7] rfl rfl (by decide) (by decide) (by decide) (fun _ => rfl) ?_
    intro r9 w8 H locs e0 I
    subst e0
    refine fb_put X I (k := 5) (wn := (fb_mw cI zq (fb_sR ((f_X2_zn ((f_X2_setFlag zs k1 k0)) (((((f_X2_setFlag zs k1 k0))).1 5) / ((((f_X2_setFlag zs k1 k0))).1 6))).2) 5 ((f_X2_zn ((f_X2_setFlag zs k1 k0)) (((((f_X2_setFlag zs k1 k0))).1 5) / ((((f_X2_setFlag zs k1 k0))).1 6))).1)) (w8))) fu_X2 tyX2 tyX2_ok nmX2 0 rfl rfl (Nat.le_of_ble_eq_true rfl) fw_524 rfl rfl rfl rfl rfl (Nat.le_of_ble_eq_true rfl) fb_ms5 dX2_divide_61 (fun H locs I => ?_)
    refine lv_aload_n hx hb dX2_divide_64 rfl (lv_at hl 1 rfl) ?_
    refine lv_iload_n hx hb dX2_divide_65 rfl (lv_at hl 0 rfl) ?_
    refine fb_put X I (k := 6) (wn := (fb_mw cI zq (fb_sR (fb_sR ((f_X2_zn ((f_X2_setFlag zs k1 k0)) (((((f_X2_setFlag zs k1 k0))).1 5) / ((((f_X2_setFlag zs k1 k0))).1 6))).2) 5 ((f_X2_zn ((f_X2_setFlag zs k1 k0)) (((((f_X2_setFlag zs k1 k0))).1 5) / ((((f_X2_setFlag zs k1 k0))).1 6))).1)) 6 (((((f_X2_setFlag zs k1 k0))).1 5) - ((((f_X2_setFlag zs k1 k0))).1 5) / ((((f_X2_setFlag zs k1 k0))).1 6) * ((((f_X2_setFlag zs k1 k0))).1 6))) (w8))) fu_X2 tyX2 tyX2_ok nmX2 0 rfl rfl (Nat.le_of_ble_eq_true rfl) fw_526 rfl rfl rfl rfl rfl (Nat.le_of_ble_eq_true rfl) fb_ms6 dX2_divide_66 (fun H locs I => ?_)
    subst E6
    exact fb_retV (u := ((w8))) X I trivial dX2_divide_69
  · have E7 := (E.trans (if_pos c5))
    subst E7
    exact fb_retV (u := ((w4))) X I trivial dX2_divide_36
set_option maxHeartbeats 4000000 in
set_option maxRecDepth 100000 in
theorem b_X2_divide_0 {p : Program} {l : Launch} {e : Env} {s : State} {m : MethodId} {args : Array Value} {below : List Frame} {meth : Method} {c : Code} {D : va_G} {cI cJ : ClassId} {A : Nat → Prop} {zq : Nat → Nat} {z : fb_MS} (X : fb_Bx p s m args meth c cX2_divide RX2 2 none D (fb_ty D cI cJ) A) {zs : fb_MS} {zw : fb_AR} {H : Heap} {locs : List Loc} {ls : Array Slot}  (I : fb_In D A s.heap ((fb_mw cI zq zs zw)) H locs) (hl : lv_has ls 2 [(0, .ref (zq 0))]) (E : z = f_X2_divide zs) : W p l e ({ frames := 1, cells := 0, slots := 0, locals := 22 } : Room) s m args below meth c H locs 0 0 (MQ below (fb_QV D A (fun (_ : fb_AR) => True) (fun (t : fb_AR) => (fb_mw cI zq (z) (t)))) args s 0 0 A) (F0 m 0 ls []) := by
  obtain ⟨hx, hb, hr, hml, hown, hts, hlk, hA, hK, hF⟩ := id X
  refine lv_aload_n hx hb dX2_divide_0 rfl (lv_at hl 0 rfl) ?_
  refine lv_dup hx hb dX2_divide_1 rfl ?_
  refine fb_get X I (k := 15) fu_X2 0 rfl rfl (Nat.le_of_ble_eq_true rfl) fw_545 rfl rfl dX2_divide_2 ?_
  refine lv_bipush (v := (8 : Int32)) hx hb dX2_divide_5 (by decide) ?_
  refine lv_iadd hx hb dX2_divide_7 ?_
  refine fb_put X I (k := 15) (wn := (fb_mw cI zq (fb_sR zs 15 (((zs).1 15) + (8 : Int32))) zw)) fu_X2 tyX2 tyX2_ok nmX2 0 rfl rfl (Nat.le_of_ble_eq_true rfl) fw_545 rfl rfl rfl rfl rfl (Nat.le_of_ble_eq_true rfl) fb_ms15 dX2_divide_8 (fun H locs I => ?_)
  refine lv_aload_n hx hb dX2_divide_11 rfl (lv_at hl 0 rfl) ?_
  refine lv_bipush (v := (8 : Int32)) hx hb dX2_divide_12 (by decide) ?_
  refine lv_aload_n hx hb dX2_divide_14 rfl (lv_at hl 0 rfl) ?_
  refine fb_get X I (k := 6) fu_X2 0 rfl rfl (Nat.le_of_ble_eq_true rfl) fw_526 rfl rfl dX2_divide_15 ?_
  refine lv_if_ne (tgt := 25) hx hb dX2_divide_18 (by decide) (fun c1 => ?_) (fun c1 => ?_)
  · have E2 := (E.trans (if_neg c1))
    refine lv_iconst (v := (0 : Int32)) hx hb dX2_divide_25 (by decide) ?_
    exact b_X2_divide_26 X  (k0 := (0 : Int32)) (k1 := (8 : Int32)) I (lv_sub hl [0] rfl) E2
  · have E3 := (E.trans (if_pos c1))
    refine lv_iconst (v := (1 : Int32)) hx hb dX2_divide_21 (by decide) ?_
    refine lv_goto (tgt := 26) hx hb dX2_divide_22 (by decide) ?_
    exact b_X2_divide_26 X  (k0 := (1 : Int32)) (k1 := (8 : Int32)) I (lv_sub hl [0] rfl) E3
set_option maxHeartbeats 4000000 in
set_option maxRecDepth 100000 in
theorem c_X2_divide (l : Launch) (D : va_G) (cI cJ : ClassId) (zq : Nat → Nat) (zs : fb_MS) (zw : fb_AR)  (sz : Nat)  : Met l yX2_divide (Cond.code yX2_divide cX2_divide 2 none :: fb_all) ({ frames := 1, cells := 0, slots := 0, locals := 22 } : Room) (fb_PP D (fb_ty D cI cJ) [.ref (zq 0)] ((fb_mw cI zq zs zw)) sz) (fb_QV D (va_A ((fb_mw cI zq zs zw)) sz) (fun (_ : fb_AR) => True) (fun (t : fb_AR) => (fb_mw cI zq (((f_X2_divide zs))) (t)))) 0 0 (va_A ((fb_mw cI zq zs zw)) sz) := by
  refine fb_ent (Qf := fun A => (fb_QV D A (fun (_ : fb_AR) => True) (fun (t : fb_AR) => (fb_mw cI zq (((f_X2_divide zs))) (t))))) (by decide +kernel) (Nat.le_of_ble_eq_true rfl) ?_
  intro p e s m args below meth c A ls X I hl hin
  exact b_X2_divide_0 X  I hl rfl
/-! X2_shifted -/
def f_X2_shifted_53 (zs : fb_MS) (l2 : Int32) (l3 : Int32) (l4 : Int32) (k0 : Int32) (k1 : Int32) : Int32 × fb_MS := (if l4 = 0 then (((f_X2_zn ((f_X2_setFlag zs k1 k0)) ((l2 / (2 : Int32)) + (l3 * (128 : Int32)))).1), ((f_X2_zn ((f_X2_setFlag zs k1 k0)) ((l2 / (2 : Int32)) + (l3 * (128 : Int32)))).2)) else (((f_X2_zn ((f_X2_setFlag zs k1 k0)) (((l2 * (2 : Int32)) - (l2 * (2 : Int32)) / (256 : Int32) * (256 : Int32)) + l3)).1), ((f_X2_zn ((f_X2_setFlag zs k1 k0)) (((l2 * (2 : Int32)) - (l2 * (2 : Int32)) / (256 : Int32) * (256 : Int32)) + l3)).2)))
def f_X2_shifted_44 (zs : fb_MS) (l2 : Int32) (l3 : Int32) (l4 : Int32) (k0 : Int32) (k1 : Int32) (k2 : Int32) : Int32 × fb_MS := (if (k1 &&& k0) = 0 then f_X2_shifted_53 zs l2 l3 l4 (0 : Int32) k2 else f_X2_shifted_53 zs l2 l3 l4 (1 : Int32) k2)
def f_X2_shifted_27 (zs : fb_MS) (l2 : Int32) (l3 : Int32) (k0 : Int32) : Int32 × fb_MS := (if k0 = 0 then f_X2_shifted_44 zs l2 l3 k0 (1 : Int32) l2 (1 : Int32) else f_X2_shifted_44 zs l2 l3 k0 (128 : Int32) l2 (1 : Int32))
def f_X2_shifted_15 (zs : fb_MS) (l1 : Int32) (l2 : Int32) (k0 : Int32) : Int32 × fb_MS := (if (l1 &&& (1 : Int32)) = 0 then f_X2_shifted_27 zs l2 k0 (1 : Int32) else f_X2_shifted_27 zs l2 k0 (0 : Int32))
def f_X2_shifted (zs : fb_MS) (l1 : Int32) (l2 : Int32) : Int32 × fb_MS := (if l1 < (2 : Int32) then f_X2_shifted_15 zs l1 l2 (0 : Int32) else f_X2_shifted_15 zs l1 l2 (((zs).1 8) &&& (1 : Int32)))
set_option maxHeartbeats 4000000 in
set_option maxRecDepth 100000 in
theorem b_X2_shifted_53 {p : Program} {l : Launch} {e : Env} {s : State} {m : MethodId} {args : Array Value} {below : List Frame} {meth : Method} {c : Code} {D : va_G} {cI cJ : ClassId} {A : Nat → Prop} {zq : Nat → Nat} {z : Int32 × fb_MS} (X : fb_Bx p s m args meth c cX2_shifted RX2 5 (some .int) D (fb_ty D cI cJ) A) {zs : fb_MS} {zw : fb_AR} {l2 : Int32} {l3 : Int32} {l4 : Int32} {k0 : Int32} {k1 : Int32} {H : Heap} {locs : List Loc} {ls : Array Slot}  (I : fb_In D A s.heap ((fb_mw cI zq zs zw)) H locs) (hl : lv_has ls 5 [(0, .ref (zq 0)), (2, .int l2), (3, .int l3), (4, .int l4)]) (E : z = f_X2_shifted_53 zs l2 l3 l4 k0 k1) : W p l e ({ frames := 1, cells := 0, slots := 0, locals := 22 } : Room) s m args below meth c H locs 0 0 (MQ below (fb_QI D A (fun (r : Int32) (_ : fb_AR) => r = z.1) (fun (t : fb_AR) => (fb_mw cI zq (z.2) (t)))) args s 0 0 A) (F0 m 53 ls [.int k0, .int k1, .ref (zq 0)]) := by
  obtain ⟨hx, hb, hr, hml, hown, hts, hlk, hA, hK, hF⟩ := id X
  refine fb_goV (wn := fun (w13 : fb_AR) => (fb_mw cI zq ((f_X2_setFlag zs k1 k0)) (w13))) X I (fb_runV (As := [.int k1, .int k0]) (rest := []) (q0 := 0) X I hl (c_X2_setFlag l D cI cJ zq zs zw k1 k0 _) (fb_goodV fw_1246 fw_1248 fw_51 fw_198 fw_1249) rfl rfl rfl (by decide +kernel : fb_hd yX2_setFlag 2) ⟨Nat.le_of_ble_eq_true rfl, Nat.le_of_ble_eq_true rfl⟩ [0, 1, 2, 3, 4, 5, 6, 7] (by decide) rfl rfl rfl rfl rfl rfl (Nat.le_of_ble_eq_true rfl) ⟨Nat.zero_le _, Nat.zero_le _⟩ dX2_shifted_53) [0, 1, 2, 3, 4, 5, 6, 7] [] [0, 1, 2, 3, 4, 5, 6, 7] rfl rfl (by decide) (by decide) (by decide) (fun _ => rfl) ?_
  intro w13 H locs _ I
  refine lv_aload_n hx hb dX2_shifted_56 rfl (lv_at hl 0 rfl) ?_
  refine lv_iload hx hb dX2_shifted_57 (lv_at hl 3 rfl) ?_
  refine lv_if_eq (tgt := 74) hx hb dX2_shifted_59 (by decide) (fun c14 => ?_) (fun c14 => ?_)
  · have E15 := (E.trans (if_pos c14))
    refine lv_iload_n hx hb dX2_shifted_74 rfl (lv_at hl 1 rfl) ?_
    refine lv_iconst (v := (2 : Int32)) hx hb dX2_shifted_75 (by decide) ?_
    refine lv_idiv hx hb dX2_shifted_76 (by decide) ?_
    refine lv_iload_n hx hb dX2_shifted_77 rfl (lv_at hl 2 rfl) ?_
    refine lv_sipush (v := (128 : Int32)) hx hb dX2_shifted_78 (by decide) ?_
    refine lv_imul hx hb dX2_shifted_81 ?_
    refine lv_iadd hx hb dX2_shifted_82 ?_
    refine fb_goI (wn := fun (w17 : fb_AR) => (fb_mw cI zq ((f_X2_zn ((f_X2_setFlag zs k1 k0)) ((l2 / (2 : Int32)) + (l3 * (128 : Int32)))).2) (w17))) X I (fb_runV (As := [.int ((l2 / (2 : Int32)) + (l3 * (128 : Int32)))]) (rest := []) (q0 := 0) X I hl (c_X2_zn l D cI cJ zq ((f_X2_setFlag zs k1 k0)) (w13) ((l2 / (2 : Int32)) + (l3 * (128 : Int32))) _) (fb_goodV fw_1254 fw_1256 fw_53 fw_198 fw_1257) rfl rfl rfl (by decide +kernel : fb_hd yX2_zn 1) ⟨Nat.le_of_ble_eq_true rfl, Nat.le_of_ble_eq_true rfl⟩ [0, 1, 2, 3, 4, 5, 6, 7] (by decide) rfl rfl rfl rfl rfl rfl (Nat.le_of_ble_eq_true rfl) ⟨Nat.zero_le _, Nat.zero_le _⟩ dX2_shifted_83) [0, 1, 2, 3, 4, 5, 6, 7] [] [0, 1, 2, 3, 4, 5, 6, 7] rfl rfl (by decide) (by decide) (by decide) (fun _ => rfl) ?_
    intro r18 w17 H locs e0 I
    subst e0
    subst E15
    exact fb_retI (u := ((w17))) X I rfl rfl dX2_shifted_86
  · have E16 := (E.trans (if_neg c14))
    refine lv_iload_n hx hb dX2_shifted_62 rfl (lv_at hl 1 rfl) ?_
    refine lv_iconst (v := (2 : Int32)) hx hb dX2_shifted_63 (by decide) ?_
    refine lv_imul hx hb dX2_shifted_64 ?_
    refine lv_sipush (v := (256 : Int32)) hx hb dX2_shifted_65 (by decide) ?_
    refine lv_irem hx hb dX2_shifted_68 (by decide) ?_
    refine lv_iload_n hx hb dX2_shifted_69 rfl (lv_at hl 2 rfl) ?_
    refine lv_iadd hx hb dX2_shifted_70 ?_
    refine lv_goto (tgt := 83) hx hb dX2_shifted_71 (by decide) ?_
    refine fb_goI (wn := fun (w19 : fb_AR) => (fb_mw cI zq ((f_X2_zn ((f_X2_setFlag zs k1 k0)) (((l2 * (2 : Int32)) - (l2 * (2 : Int32)) / (256 : Int32) * (256 : Int32)) + l3)).2) (w19))) X I (fb_runV (As := [.int (((l2 * (2 : Int32)) - (l2 * (2 : Int32)) / (256 : Int32) * (256 : Int32)) + l3)]) (rest := []) (q0 := 0) X I hl (c_X2_zn l D cI cJ zq ((f_X2_setFlag zs k1 k0)) (w13) (((l2 * (2 : Int32)) - (l2 * (2 : Int32)) / (256 : Int32) * (256 : Int32)) + l3) _) (fb_goodV fw_1254 fw_1256 fw_53 fw_198 fw_1257) rfl rfl rfl (by decide +kernel : fb_hd yX2_zn 1) ⟨Nat.le_of_ble_eq_true rfl, Nat.le_of_ble_eq_true rfl⟩ [0, 1, 2, 3, 4, 5, 6, 7] (by decide) rfl rfl rfl rfl rfl rfl (Nat.le_of_ble_eq_true rfl) ⟨Nat.zero_le _, Nat.zero_le _⟩ dX2_shifted_83) [0, 1, 2, 3, 4, 5, 6, 7] [] [0, 1, 2, 3, 4, 5, 6, 7] rfl rfl (by decide) (by decide) (by decide) (fun _ => rfl) ?_
    intro r20 w19 H locs e0 I
    subst e0
    subst E16
    exact fb_retI (u := ((w19))) X I rfl rfl dX2_shifted_86
set_option maxHeartbeats 4000000 in
set_option maxRecDepth 100000 in
theorem b_X2_shifted_44 {p : Program} {l : Launch} {e : Env} {s : State} {m : MethodId} {args : Array Value} {below : List Frame} {meth : Method} {c : Code} {D : va_G} {cI cJ : ClassId} {A : Nat → Prop} {zq : Nat → Nat} {z : Int32 × fb_MS} (X : fb_Bx p s m args meth c cX2_shifted RX2 5 (some .int) D (fb_ty D cI cJ) A) {zs : fb_MS} {zw : fb_AR} {l2 : Int32} {l3 : Int32} {l4 : Int32} {k0 : Int32} {k1 : Int32} {k2 : Int32} {H : Heap} {locs : List Loc} {ls : Array Slot}  (I : fb_In D A s.heap ((fb_mw cI zq zs zw)) H locs) (hl : lv_has ls 5 [(0, .ref (zq 0)), (2, .int l2), (3, .int l3), (4, .int l4)]) (E : z = f_X2_shifted_44 zs l2 l3 l4 k0 k1 k2) : W p l e ({ frames := 1, cells := 0, slots := 0, locals := 22 } : Room) s m args below meth c H locs 0 0 (MQ below (fb_QI D A (fun (r : Int32) (_ : fb_AR) => r = z.1) (fun (t : fb_AR) => (fb_mw cI zq (z.2) (t)))) args s 0 0 A) (F0 m 44 ls [.int k0, .int k1, .int k2, .ref (zq 0)]) := by
  obtain ⟨hx, hb, hr, hml, hown, hts, hlk, hA, hK, hF⟩ := id X
  refine lv_iand hx hb dX2_shifted_44 ?_
  refine lv_if_eq (tgt := 52) hx hb dX2_shifted_45 (by decide) (fun c10 => ?_) (fun c10 => ?_)
  · have E11 := (E.trans (if_pos c10))
    refine lv_iconst (v := (0 : Int32)) hx hb dX2_shifted_52 (by decide) ?_
    exact b_X2_shifted_53 X  (l2 := l2) (l3 := l3) (l4 := l4) (k0 := (0 : Int32)) (k1 := k2) I (lv_sub hl [0, 1, 2, 3] rfl) E11
  · have E12 := (E.trans (if_neg c10))
    refine lv_iconst (v := (1 : Int32)) hx hb dX2_shifted_48 (by decide) ?_
    refine lv_goto (tgt := 53) hx hb dX2_shifted_49 (by decide) ?_
    exact b_X2_shifted_53 X  (l2 := l2) (l3 := l3) (l4 := l4) (k0 := (1 : Int32)) (k1 := k2) I (lv_sub hl [0, 1, 2, 3] rfl) E12
set_option maxHeartbeats 4000000 in
set_option maxRecDepth 100000 in
theorem b_X2_shifted_27 {p : Program} {l : Launch} {e : Env} {s : State} {m : MethodId} {args : Array Value} {below : List Frame} {meth : Method} {c : Code} {D : va_G} {cI cJ : ClassId} {A : Nat → Prop} {zq : Nat → Nat} {z : Int32 × fb_MS} (X : fb_Bx p s m args meth c cX2_shifted RX2 5 (some .int) D (fb_ty D cI cJ) A) {zs : fb_MS} {zw : fb_AR} {l2 : Int32} {l3 : Int32} {k0 : Int32} {H : Heap} {locs : List Loc} {ls : Array Slot}  (I : fb_In D A s.heap ((fb_mw cI zq zs zw)) H locs) (hl : lv_has ls 5 [(0, .ref (zq 0)), (2, .int l2), (3, .int l3)]) (E : z = f_X2_shifted_27 zs l2 l3 k0) : W p l e ({ frames := 1, cells := 0, slots := 0, locals := 22 } : Room) s m args below meth c H locs 0 0 (MQ below (fb_QI D A (fun (r : Int32) (_ : fb_AR) => r = z.1) (fun (t : fb_AR) => (fb_mw cI zq (z.2) (t)))) args s 0 0 A) (F0 m 27 ls [.int k0]) := by
  obtain ⟨hx, hb, hr, hml, hown, hts, hlk, hA, hK, hF⟩ := id X
  refine lv_istore (lv' := [(4, .int k0), (0, .ref (zq 0)), (2, .int l2), (3, .int l3)]) hx hb dX2_shifted_27 hl (by decide) rfl (fun ls hl => ?_)
  refine lv_aload_n hx hb dX2_shifted_29 rfl (lv_at hl 1 rfl) ?_
  refine lv_iconst (v := (1 : Int32)) hx hb dX2_shifted_30 (by decide) ?_
  refine lv_iload_n hx hb dX2_shifted_31 rfl (lv_at hl 2 rfl) ?_
  refine lv_iload hx hb dX2_shifted_32 (lv_at hl 0 rfl) ?_
  refine lv_if_eq (tgt := 43) hx hb dX2_shifted_34 (by decide) (fun c7 => ?_) (fun c7 => ?_)
  · have E8 := (E.trans (if_pos c7))
    refine lv_iconst (v := (1 : Int32)) hx hb dX2_shifted_43 (by decide) ?_
    exact b_X2_shifted_44 X  (l2 := l2) (l3 := l3) (l4 := k0) (k0 := (1 : Int32)) (k1 := l2) (k2 := (1 : Int32)) I (lv_sub hl [1, 2, 3, 0] rfl) E8
  · have E9 := (E.trans (if_neg c7))
    refine lv_sipush (v := (128 : Int32)) hx hb dX2_shifted_37 (by decide) ?_
    refine lv_goto (tgt := 44) hx hb dX2_shifted_40 (by decide) ?_
    exact b_X2_shifted_44 X  (l2 := l2) (l3 := l3) (l4 := k0) (k0 := (128 : Int32)) (k1 := l2) (k2 := (1 : Int32)) I (lv_sub hl [1, 2, 3, 0] rfl) E9
set_option maxHeartbeats 4000000 in
set_option maxRecDepth 100000 in
theorem b_X2_shifted_15 {p : Program} {l : Launch} {e : Env} {s : State} {m : MethodId} {args : Array Value} {below : List Frame} {meth : Method} {c : Code} {D : va_G} {cI cJ : ClassId} {A : Nat → Prop} {zq : Nat → Nat} {z : Int32 × fb_MS} (X : fb_Bx p s m args meth c cX2_shifted RX2 5 (some .int) D (fb_ty D cI cJ) A) {zs : fb_MS} {zw : fb_AR} {l1 : Int32} {l2 : Int32} {k0 : Int32} {H : Heap} {locs : List Loc} {ls : Array Slot}  (I : fb_In D A s.heap ((fb_mw cI zq zs zw)) H locs) (hl : lv_has ls 5 [(0, .ref (zq 0)), (1, .int l1), (2, .int l2)]) (E : z = f_X2_shifted_15 zs l1 l2 k0) : W p l e ({ frames := 1, cells := 0, slots := 0, locals := 22 } : Room) s m args below meth c H locs 0 0 (MQ below (fb_QI D A (fun (r : Int32) (_ : fb_AR) => r = z.1) (fun (t : fb_AR) => (fb_mw cI zq (z.2) (t)))) args s 0 0 A) (F0 m 15 ls [.int k0]) := by
  obtain ⟨hx, hb, hr, hml, hown, hts, hlk, hA, hK, hF⟩ := id X
  refine lv_istore_n (lv' := [(3, .int k0), (0, .ref (zq 0)), (1, .int l1), (2, .int l2)]) hx hb dX2_shifted_15 rfl hl (by decide) rfl (fun ls hl => ?_)
  refine lv_iload_n hx hb dX2_shifted_16 rfl (lv_at hl 2 rfl) ?_
  refine lv_iconst (v := (1 : Int32)) hx hb dX2_shifted_17 (by decide) ?_
  refine lv_iand hx hb dX2_shifted_18 ?_
  refine lv_if_ne (tgt := 26) hx hb dX2_shifted_19 (by decide) (fun c4 => ?_) (fun c4 => ?_)
  · have E5 := (E.trans (if_neg c4))
    refine lv_iconst (v := (0 : Int32)) hx hb dX2_shifted_26 (by decide) ?_
    exact b_X2_shifted_27 X  (l2 := l2) (l3 := k0) (k0 := (0 : Int32)) I (lv_sub hl [1, 3, 0] rfl) E5
  · have E6 := (E.trans (if_pos c4))
    refine lv_iconst (v := (1 : Int32)) hx hb dX2_shifted_22 (by decide) ?_
    refine lv_goto (tgt := 27) hx hb dX2_shifted_23 (by decide) ?_
    exact b_X2_shifted_27 X  (l2 := l2) (l3 := k0) (k0 := (1 : Int32)) I (lv_sub hl [1, 3, 0] rfl) E6
set_option maxHeartbeats 4000000 in
set_option maxRecDepth 100000 in
theorem b_X2_shifted_0 {p : Program} {l : Launch} {e : Env} {s : State} {m : MethodId} {args : Array Value} {below : List Frame} {meth : Method} {c : Code} {D : va_G} {cI cJ : ClassId} {A : Nat → Prop} {zq : Nat → Nat} {z : Int32 × fb_MS} (X : fb_Bx p s m args meth c cX2_shifted RX2 5 (some .int) D (fb_ty D cI cJ) A) {zs : fb_MS} {zw : fb_AR} {l1 : Int32} {l2 : Int32} {H : Heap} {locs : List Loc} {ls : Array Slot}  (I : fb_In D A s.heap ((fb_mw cI zq zs zw)) H locs) (hl : lv_has ls 5 [(0, .ref (zq 0)), (1, .int l1), (2, .int l2)]) (E : z = f_X2_shifted zs l1 l2) : W p l e ({ frames := 1, cells := 0, slots := 0, locals := 22 } : Room) s m args below meth c H locs 0 0 (MQ below (fb_QI D A (fun (r : Int32) (_ : fb_AR) => r = z.1) (fun (t : fb_AR) => (fb_mw cI zq (z.2) (t)))) args s 0 0 A) (F0 m 0 ls []) := by
  obtain ⟨hx, hb, hr, hml, hown, hts, hlk, hA, hK, hF⟩ := id X
  refine lv_iload_n hx hb dX2_shifted_0 rfl (lv_at hl 1 rfl) ?_
  refine lv_iconst (v := (2 : Int32)) hx hb dX2_shifted_1 (by decide) ?_
  refine lv_icmp_lt (tgt := 14) hx hb dX2_shifted_2 (by decide) (fun c1 => ?_) (fun c1 => ?_)
  · have E2 := (E.trans (if_pos c1))
    refine lv_iconst (v := (0 : Int32)) hx hb dX2_shifted_14 (by decide) ?_
    exact b_X2_shifted_15 X  (l1 := l1) (l2 := l2) (k0 := (0 : Int32)) I (lv_sub hl [0, 1, 2] rfl) E2
  · have E3 := (E.trans (if_neg c1))
    refine lv_aload_n hx hb dX2_shifted_5 rfl (lv_at hl 0 rfl) ?_
    refine fb_get X I (k := 8) fu_X2 0 rfl rfl (Nat.le_of_ble_eq_true rfl) fw_530 rfl rfl dX2_shifted_6 ?_
    refine lv_iconst (v := (1 : Int32)) hx hb dX2_shifted_9 (by decide) ?_
    refine lv_iand hx hb dX2_shifted_10 ?_
    refine lv_goto (tgt := 15) hx hb dX2_shifted_11 (by decide) ?_
    exact b_X2_shifted_15 X  (l1 := l1) (l2 := l2) (k0 := (((zs).1 8) &&& (1 : Int32))) I (lv_sub hl [0, 1, 2] rfl) E3
set_option maxHeartbeats 4000000 in
set_option maxRecDepth 100000 in
theorem c_X2_shifted (l : Launch) (D : va_G) (cI cJ : ClassId) (zq : Nat → Nat) (zs : fb_MS) (zw : fb_AR) (l1 : Int32) (l2 : Int32) (sz : Nat)  : Met l yX2_shifted (Cond.code yX2_shifted cX2_shifted 5 (some .int) :: fb_all) ({ frames := 1, cells := 0, slots := 0, locals := 22 } : Room) (fb_PP D (fb_ty D cI cJ) [.ref (zq 0), .int l1, .int l2] ((fb_mw cI zq zs zw)) sz) (fb_QI D (va_A ((fb_mw cI zq zs zw)) sz) (fun (r : Int32) (_ : fb_AR) => r = ((f_X2_shifted zs l1 l2)).1) (fun (t : fb_AR) => (fb_mw cI zq (((f_X2_shifted zs l1 l2)).2) (t)))) 0 0 (va_A ((fb_mw cI zq zs zw)) sz) := by
  refine fb_ent (Qf := fun A => (fb_QI D A (fun (r : Int32) (_ : fb_AR) => r = ((f_X2_shifted zs l1 l2)).1) (fun (t : fb_AR) => (fb_mw cI zq (((f_X2_shifted zs l1 l2)).2) (t))))) (by decide +kernel) (Nat.le_of_ble_eq_true rfl) ?_
  intro p e s m args below meth c A ls X I hl hin
  exact b_X2_shifted_0 X  I hl rfl
/-! X2_changed -/
def f_X2_changed (zs : fb_MS) (l1 : Int32) (l2 : Int32) : Int32 × fb_MS := (if l1 = (18 : Int32) then (((f_X2_zn zs ((l2 + (1 : Int32)) &&& (255 : Int32))).1), ((f_X2_zn zs ((l2 + (1 : Int32)) &&& (255 : Int32))).2)) else (if l1 = (19 : Int32) then (((f_X2_zn zs ((l2 - (1 : Int32)) &&& (255 : Int32))).1), ((f_X2_zn zs ((l2 - (1 : Int32)) &&& (255 : Int32))).2)) else (((f_X2_shifted zs (l1 - (20 : Int32)) l2).1), ((f_X2_shifted zs (l1 - (20 : Int32)) l2).2))))
set_option maxHeartbeats 4000000 in
set_option maxRecDepth 100000 in
theorem b_X2_changed_0 {p : Program} {l : Launch} {e : Env} {s : State} {m : MethodId} {args : Array Value} {below : List Frame} {meth : Method} {c : Code} {D : va_G} {cI cJ : ClassId} {A : Nat → Prop} {zq : Nat → Nat} {z : Int32 × fb_MS} (X : fb_Bx p s m args meth c cX2_changed RX2 3 (some .int) D (fb_ty D cI cJ) A) {zs : fb_MS} {zw : fb_AR} {l1 : Int32} {l2 : Int32} {H : Heap} {locs : List Loc} {ls : Array Slot}  (I : fb_In D A s.heap ((fb_mw cI zq zs zw)) H locs) (hl : lv_has ls 3 [(0, .ref (zq 0)), (1, .int l1), (2, .int l2)]) (E : z = f_X2_changed zs l1 l2) : W p l e ({ frames := 2, cells := 0, slots := 0, locals := 46 } : Room) s m args below meth c H locs 0 0 (MQ below (fb_QI D A (fun (r : Int32) (_ : fb_AR) => r = z.1) (fun (t : fb_AR) => (fb_mw cI zq (z.2) (t)))) args s 0 0 A) (F0 m 0 ls []) := by
  obtain ⟨hx, hb, hr, hml, hown, hts, hlk, hA, hK, hF⟩ := id X
  refine lv_iload_n hx hb dX2_changed_0 rfl (lv_at hl 1 rfl) ?_
  refine lv_bipush (v := (18 : Int32)) hx hb dX2_changed_1 (by decide) ?_
  refine lv_icmp_ne (tgt := 18) hx hb dX2_changed_3 (by decide) (fun c1 => ?_) (fun c1 => ?_)
  · have E2 := (E.trans (if_neg c1))
    refine lv_iload_n hx hb dX2_changed_18 rfl (lv_at hl 1 rfl) ?_
    refine lv_bipush (v := (19 : Int32)) hx hb dX2_changed_19 (by decide) ?_
    refine lv_icmp_ne (tgt := 36) hx hb dX2_changed_21 (by decide) (fun c4 => ?_) (fun c4 => ?_)
    · have E5 := (E2.trans (if_neg c4))
      refine lv_aload_n hx hb dX2_changed_36 rfl (lv_at hl 0 rfl) ?_
      refine lv_iload_n hx hb dX2_changed_37 rfl (lv_at hl 1 rfl) ?_
      refine lv_bipush (v := (20 : Int32)) hx hb dX2_changed_38 (by decide) ?_
      refine lv_isub hx hb dX2_changed_40 ?_
      refine lv_iload_n hx hb dX2_changed_41 rfl (lv_at hl 2 rfl) ?_
      refine fb_goI (wn := fun (w7 : fb_AR) => (fb_mw cI zq ((f_X2_shifted zs (l1 - (20 : Int32)) l2).2) (w7))) X I (fb_runV (As := [.int (l1 - (20 : Int32)), .int l2]) (rest := []) (q0 := 0) X I hl (c_X2_shifted l D cI cJ zq zs zw (l1 - (20 : Int32)) l2 _) (fb_goodV fw_1274 fw_1276 fw_58 fw_198 fw_1277) rfl rfl rfl (by decide +kernel : fb_hd yX2_shifted 2) ⟨Nat.le_of_ble_eq_true rfl, Nat.le_of_ble_eq_true rfl⟩ [0, 1, 2, 3, 4, 5, 6, 7] (by decide) rfl rfl rfl rfl rfl rfl (Nat.le_of_ble_eq_true rfl) ⟨Nat.zero_le _, Nat.zero_le _⟩ dX2_changed_42) [0, 1, 2, 3, 4, 5, 6, 7] [] [0, 1, 2, 3, 4, 5, 6, 7] rfl rfl (by decide) (by decide) (by decide) (fun _ => rfl) ?_
      intro r8 w7 H locs e0 I
      subst e0
      subst E5
      exact fb_retI (u := ((w7))) X I rfl rfl dX2_changed_45
    · have E6 := (E2.trans (if_pos c4))
      refine lv_aload_n hx hb dX2_changed_24 rfl (lv_at hl 0 rfl) ?_
      refine lv_iload_n hx hb dX2_changed_25 rfl (lv_at hl 2 rfl) ?_
      refine lv_iconst (v := (1 : Int32)) hx hb dX2_changed_26 (by decide) ?_
      refine lv_isub hx hb dX2_changed_27 ?_
      refine lv_sipush (v := (255 : Int32)) hx hb dX2_changed_28 (by decide) ?_
      refine lv_iand hx hb dX2_changed_31 ?_
      refine fb_goI (wn := fun (w9 : fb_AR) => (fb_mw cI zq ((f_X2_zn zs ((l2 - (1 : Int32)) &&& (255 : Int32))).2) (w9))) X I (fb_runV (As := [.int ((l2 - (1 : Int32)) &&& (255 : Int32))]) (rest := []) (q0 := 0) X I hl (c_X2_zn l D cI cJ zq zs zw ((l2 - (1 : Int32)) &&& (255 : Int32)) _) (fb_goodV fw_1254 fw_1256 fw_53 fw_198 fw_1257) rfl rfl rfl (by decide +kernel : fb_hd yX2_zn 1) ⟨Nat.le_of_ble_eq_true rfl, Nat.le_of_ble_eq_true rfl⟩ [0, 1, 2, 3, 4, 5, 6, 7] (by decide) rfl rfl rfl rfl rfl rfl (Nat.le_of_ble_eq_true rfl) ⟨Nat.zero_le _, Nat.zero_le _⟩ dX2_changed_32) [0, 1, 2, 3, 4, 5, 6, 7] [] [0, 1, 2, 3, 4, 5, 6, 7] rfl rfl (by decide) (by decide) (by decide) (fun _ => rfl) ?_
      intro r10 w9 H locs e0 I
      subst e0
      subst E6
      exact fb_retI (u := ((w9))) X I rfl rfl dX2_changed_35
  · have E3 := (E.trans (if_pos c1))
    refine lv_aload_n hx hb dX2_changed_6 rfl (lv_at hl 0 rfl) ?_
    refine lv_iload_n hx hb dX2_changed_7 rfl (lv_at hl 2 rfl) ?_
    refine lv_iconst (v := (1 : Int32)) hx hb dX2_changed_8 (by decide) ?_
    refine lv_iadd hx hb dX2_changed_9 ?_
    refine lv_sipush (v := (255 : Int32)) hx hb dX2_changed_10 (by decide) ?_
    refine lv_iand hx hb dX2_changed_13 ?_
    refine fb_goI (wn := fun (w11 : fb_AR) => (fb_mw cI zq ((f_X2_zn zs ((l2 + (1 : Int32)) &&& (255 : Int32))).2) (w11))) X I (fb_runV (As := [.int ((l2 + (1 : Int32)) &&& (255 : Int32))]) (rest := []) (q0 := 0) X I hl (c_X2_zn l D cI cJ zq zs zw ((l2 + (1 : Int32)) &&& (255 : Int32)) _) (fb_goodV fw_1254 fw_1256 fw_53 fw_198 fw_1257) rfl rfl rfl (by decide +kernel : fb_hd yX2_zn 1) ⟨Nat.le_of_ble_eq_true rfl, Nat.le_of_ble_eq_true rfl⟩ [0, 1, 2, 3, 4, 5, 6, 7] (by decide) rfl rfl rfl rfl rfl rfl (Nat.le_of_ble_eq_true rfl) ⟨Nat.zero_le _, Nat.zero_le _⟩ dX2_changed_14) [0, 1, 2, 3, 4, 5, 6, 7] [] [0, 1, 2, 3, 4, 5, 6, 7] rfl rfl (by decide) (by decide) (by decide) (fun _ => rfl) ?_
    intro r12 w11 H locs e0 I
    subst e0
    subst E3
    exact fb_retI (u := ((w11))) X I rfl rfl dX2_changed_17
set_option maxHeartbeats 4000000 in
set_option maxRecDepth 100000 in
theorem c_X2_changed (l : Launch) (D : va_G) (cI cJ : ClassId) (zq : Nat → Nat) (zs : fb_MS) (zw : fb_AR) (l1 : Int32) (l2 : Int32) (sz : Nat)  : Met l yX2_changed (Cond.code yX2_changed cX2_changed 3 (some .int) :: fb_all) ({ frames := 2, cells := 0, slots := 0, locals := 46 } : Room) (fb_PP D (fb_ty D cI cJ) [.ref (zq 0), .int l1, .int l2] ((fb_mw cI zq zs zw)) sz) (fb_QI D (va_A ((fb_mw cI zq zs zw)) sz) (fun (r : Int32) (_ : fb_AR) => r = ((f_X2_changed zs l1 l2)).1) (fun (t : fb_AR) => (fb_mw cI zq (((f_X2_changed zs l1 l2)).2) (t)))) 0 0 (va_A ((fb_mw cI zq zs zw)) sz) := by
  refine fb_ent (Qf := fun A => (fb_QI D A (fun (r : Int32) (_ : fb_AR) => r = ((f_X2_changed zs l1 l2)).1) (fun (t : fb_AR) => (fb_mw cI zq (((f_X2_changed zs l1 l2)).2) (t))))) (by decide +kernel) (Nat.le_of_ble_eq_true rfl) ?_
  intro p e s m args below meth c A ls X I hl hin
  exact b_X2_changed_0 X  I hl rfl
/-! X2_add -/
def f_X2_add_30 (zs : fb_MS) (l1 : Int32) (l4 : Int32) (k0 : Int32) (k1 : Int32) : fb_MS := (if (((((((f_X2_setFlag zs k1 k0))).1 5) ^^^ l4) &&& (l1 ^^^ l4)) &&& (128 : Int32)) = 0 then (fb_sR ((f_X2_zn ((f_X2_setFlag ((f_X2_setFlag zs k1 k0)) (8 : Int32) (0 : Int32))) l4).2) 5 ((f_X2_zn ((f_X2_setFlag ((f_X2_setFlag zs k1 k0)) (8 : Int32) (0 : Int32))) l4).1)) else (fb_sR ((f_X2_zn ((f_X2_setFlag ((f_X2_setFlag zs k1 k0)) (8 : Int32) (1 : Int32))) l4).2) 5 ((f_X2_zn ((f_X2_setFlag ((f_X2_setFlag zs k1 k0)) (8 : Int32) (1 : Int32))) l4).1)))
def f_X2_add (zs : fb_MS) (l1 : Int32) (l2 : Int32) : fb_MS := (if ((((zs).1 5) + l1) + l2) ≤ (255 : Int32) then f_X2_add_30 zs l1 (((((zs).1 5) + l1) + l2) &&& (255 : Int32)) (0 : Int32) (1 : Int32) else f_X2_add_30 zs l1 (((((zs).1 5) + l1) + l2) &&& (255 : Int32)) (1 : Int32) (1 : Int32))
set_option maxHeartbeats 4000000 in
set_option maxRecDepth 100000 in
theorem b_X2_add_30 {p : Program} {l : Launch} {e : Env} {s : State} {m : MethodId} {args : Array Value} {below : List Frame} {meth : Method} {c : Code} {D : va_G} {cI cJ : ClassId} {A : Nat → Prop} {zq : Nat → Nat} {z : fb_MS} (X : fb_Bx p s m args meth c cX2_add RX2 5 none D (fb_ty D cI cJ) A) {zs : fb_MS} {zw : fb_AR} {l1 : Int32} {l4 : Int32} {k0 : Int32} {k1 : Int32} {H : Heap} {locs : List Loc} {ls : Array Slot}  (I : fb_In D A s.heap ((fb_mw cI zq zs zw)) H locs) (hl : lv_has ls 5 [(0, .ref (zq 0)), (1, .int l1), (4, .int l4)]) (E : z = f_X2_add_30 zs l1 l4 k0 k1) : W p l e ({ frames := 1, cells := 0, slots := 0, locals := 22 } : Room) s m args below meth c H locs 0 0 (MQ below (fb_QV D A (fun (_ : fb_AR) => True) (fun (t : fb_AR) => (fb_mw cI zq (z) (t)))) args s 0 0 A) (F0 m 30 ls [.int k0, .int k1, .ref (zq 0)]) := by
  obtain ⟨hx, hb, hr, hml, hown, hts, hlk, hA, hK, hF⟩ := id X
  refine fb_goV (wn := fun (w4 : fb_AR) => (fb_mw cI zq ((f_X2_setFlag zs k1 k0)) (w4))) X I (fb_runV (As := [.int k1, .int k0]) (rest := []) (q0 := 0) X I hl (c_X2_setFlag l D cI cJ zq zs zw k1 k0 _) (fb_goodV fw_1246 fw_1248 fw_51 fw_198 fw_1249) rfl rfl rfl (by decide +kernel : fb_hd yX2_setFlag 2) ⟨Nat.le_of_ble_eq_true rfl, Nat.le_of_ble_eq_true rfl⟩ [0, 1, 2, 3, 4, 5, 6, 7] (by decide) rfl rfl rfl rfl rfl rfl (Nat.le_of_ble_eq_true rfl) ⟨Nat.zero_le _, Nat.zero_le _⟩ dX2_add_30) [0, 1, 2, 3, 4, 5, 6, 7] [] [0, 1, 2, 3, 4, 5, 6, 7] rfl rfl (by decide) (by decide) (by decide) (fun _ => rfl) ?_
  intro w4 H locs _ I
  refine lv_aload_n hx hb dX2_add_33 rfl (lv_at hl 0 rfl) ?_
  refine lv_bipush (v := (8 : Int32)) hx hb dX2_add_34 (by decide) ?_
  refine lv_aload_n hx hb dX2_add_36 rfl (lv_at hl 0 rfl) ?_
  refine fb_get X I (k := 5) fu_X2 0 rfl rfl (Nat.le_of_ble_eq_true rfl) fw_524 rfl rfl dX2_add_37 ?_
  refine lv_iload hx hb dX2_add_40 (lv_at hl 2 rfl) ?_
  refine lv_ixor hx hb dX2_add_42 ?_
  refine lv_iload_n hx hb dX2_add_43 rfl (lv_at hl 1 rfl) ?_
  refine lv_iload hx hb dX2_add_44 (lv_at hl 2 rfl) ?_
  refine lv_ixor hx hb dX2_add_46 ?_
  refine lv_iand hx hb dX2_add_47 ?_
  refine lv_sipush (v := (128 : Int32)) hx hb dX2_add_48 (by decide) ?_
  refine lv_iand hx hb dX2_add_51 ?_
  refine lv_if_eq (tgt := 59) hx hb dX2_add_52 (by decide) (fun c5 => ?_) (fun c5 => ?_)
  · have E6 := (E.trans (if_pos c5))
    refine lv_iconst (v := (0 : Int32)) hx hb dX2_add_59 (by decide) ?_
    refine fb_goV (wn := fun (w8 : fb_AR) => (fb_mw cI zq ((f_X2_setFlag ((f_X2_setFlag zs k1 k0)) (8 : Int32) (0 : Int32))) (w8))) X I (fb_runV (As := [.int (8 : Int32), .int (0 : Int32)]) (rest := []) (q0 := 0) X I hl (c_X2_setFlag l D cI cJ zq ((f_X2_setFlag zs k1 k0)) (w4) (8 : Int32) (0 : Int32) _) (fb_goodV fw_1246 fw_1248 fw_51 fw_198 fw_1249) rfl rfl rfl (by decide +kernel : fb_hd yX2_setFlag 2) ⟨Nat.le_of_ble_eq_true rfl, Nat.le_of_ble_eq_true rfl⟩ [0, 1, 2, 3, 4, 5, 6, 7] (by decide) rfl rfl rfl rfl rfl rfl (Nat.le_of_ble_eq_true rfl) ⟨Nat.zero_le _, Nat.zero_le _⟩ dX2_add_60) [0, 1, 2, 3, 4, 5, 6, 7] [] [0, 1, 2, 3, 4, 5, 6, 7] rfl rfl (by decide) (by decide) (by decide) (fun _ => rfl) ?_
    intro w8 H locs _ I
    refine lv_aload_n hx hb dX2_add_63 rfl (lv_at hl 0 rfl) ?_
    refine lv_aload_n hx hb dX2_add_64 rfl (lv_at hl 0 rfl) ?_
    refine lv_iload hx hb dX2_add_65 (lv_at hl 2 rfl) ?_
    refine fb_goI (wn := fun (w9 : fb_AR) => (fb_mw cI zq ((f_X2_zn ((f_X2_setFlag ((f_X2_setFlag zs k1 k0)) (8 : Int32) (0 : Int32))) l4).2) (w9))) X I (fb_runV (As := [.int l4]) (rest := [.ref (zq 0)]) (q0 := 0) X I hl (c_X2_zn l D cI cJ zq ((f_X2_setFlag ((f_X2_setFlag zs k1 k0)) (8 : Int32) (0 : Int32))) (w8) l4 _) (fb_goodV fw_1254 fw_1256 fw_53 fw_198 fw_1257) rfl rfl rfl (by decide +kernel : fb_hd yX2_zn 1) ⟨Nat.le_of_ble_eq_true rfl, Nat.le_of_ble_eq_true rfl⟩ [0, 1, 2, 3, 4, 5, 6, 7] (by decide) rfl rfl rfl rfl rfl rfl (Nat.le_of_ble_eq_true rfl) ⟨Nat.zero_le _, Nat.zero_le _⟩ dX2_add_67) [0, 1, 2, 3, 4, 5, 6, 7] [] [0, 1, 2, 3, 4, 5, 6, 7] rfl rfl (by decide) (by decide) (by decide) (fun _ => rfl) ?_
    intro r10 w9 H locs e0 I
    subst e0
    refine fb_put X I (k := 5) (wn := (fb_mw cI zq (fb_sR ((f_X2_zn ((f_X2_setFlag ((f_X2_setFlag zs k1 k0)) (8 : Int32) (0 : Int32))) l4).2) 5 ((f_X2_zn ((f_X2_setFlag ((f_X2_setFlag zs k1 k0)) (8 : Int32) (0 : Int32))) l4).1)) (w9))) fu_X2 tyX2 tyX2_ok nmX2 0 rfl rfl (Nat.le_of_ble_eq_true rfl) fw_524 rfl rfl rfl rfl rfl (Nat.le_of_ble_eq_true rfl) fb_ms5 dX2_add_70 (fun H locs I => ?_)
    subst E6
    exact fb_retV (u := ((w9))) X I trivial dX2_add_73
  · have E7 := (E.trans (if_neg c5))
    refine lv_iconst (v := (1 : Int32)) hx hb dX2_add_55 (by decide) ?_
    refine lv_goto (tgt := 60) hx hb dX2_add_56 (by decide) ?_
    refine fb_goV (wn := fun (w11 : fb_AR) => (fb_mw cI zq ((f_X2_setFlag ((f_X2_setFlag zs k1 k0)) (8 : Int32) (1 : Int32))) (w11))) X I (fb_runV (As := [.int (8 : Int32), .int (1 : Int32)]) (rest := []) (q0 := 0) X I hl (c_X2_setFlag l D cI cJ zq ((f_X2_setFlag zs k1 k0)) (w4) (8 : Int32) (1 : Int32) _) (fb_goodV fw_1246 fw_1248 fw_51 fw_198 fw_1249) rfl rfl rfl (by decide +kernel : fb_hd yX2_setFlag 2) ⟨Nat.le_of_ble_eq_true rfl, Nat.le_of_ble_eq_true rfl⟩ [0, 1, 2, 3, 4, 5, 6, 7] (by decide) rfl rfl rfl rfl rfl rfl (Nat.le_of_ble_eq_true rfl) ⟨Nat.zero_le _, Nat.zero_le _⟩ dX2_add_60) [0, 1, 2, 3, 4, 5, 6, 7] [] [0, 1, 2, 3, 4, 5, 6, 7] rfl rfl (by decide) (by decide) (by decide) (fun _ => rfl) ?_
    intro w11 H locs _ I
    refine lv_aload_n hx hb dX2_add_63 rfl (lv_at hl 0 rfl) ?_
    refine lv_aload_n hx hb dX2_add_64 rfl (lv_at hl 0 rfl) ?_
    refine lv_iload hx hb dX2_add_65 (lv_at hl 2 rfl) ?_
    refine fb_goI (wn := fun (w12 : fb_AR) => (fb_mw cI zq ((f_X2_zn ((f_X2_setFlag ((f_X2_setFlag zs k1 k0)) (8 : Int32) (1 : Int32))) l4).2) (w12))) X I (fb_runV (As := [.int l4]) (rest := [.ref (zq 0)]) (q0 := 0) X I hl (c_X2_zn l D cI cJ zq ((f_X2_setFlag ((f_X2_setFlag zs k1 k0)) (8 : Int32) (1 : Int32))) (w11) l4 _) (fb_goodV fw_1254 fw_1256 fw_53 fw_198 fw_1257) rfl rfl rfl (by decide +kernel : fb_hd yX2_zn 1) ⟨Nat.le_of_ble_eq_true rfl, Nat.le_of_ble_eq_true rfl⟩ [0, 1, 2, 3, 4, 5, 6, 7] (by decide) rfl rfl rfl rfl rfl rfl (Nat.le_of_ble_eq_true rfl) ⟨Nat.zero_le _, Nat.zero_le _⟩ dX2_add_67) [0, 1, 2, 3, 4, 5, 6, 7] [] [0, 1, 2, 3, 4, 5, 6, 7] rfl rfl (by decide) (by decide) (by decide) (fun _ => rfl) ?_
    intro r13 w12 H locs e0 I
    subst e0
    refine fb_put X I (k := 5) (wn := (fb_mw cI zq (fb_sR ((f_X2_zn ((f_X2_setFlag ((f_X2_setFlag zs k1 k0)) (8 : Int32) (1 : Int32))) l4).2) 5 ((f_X2_zn ((f_X2_setFlag ((f_X2_setFlag zs k1 k0)) (8 : Int32) (1 : Int32))) l4).1)) (w12))) fu_X2 tyX2 tyX2_ok nmX2 0 rfl rfl (Nat.le_of_ble_eq_true rfl) fw_524 rfl rfl rfl rfl rfl (Nat.le_of_ble_eq_true rfl) fb_ms5 dX2_add_70 (fun H locs I => ?_)
    subst E7
    exact fb_retV (u := ((w12))) X I trivial dX2_add_73
set_option maxHeartbeats 4000000 in
set_option maxRecDepth 100000 in
theorem b_X2_add_0 {p : Program} {l : Launch} {e : Env} {s : State} {m : MethodId} {args : Array Value} {below : List Frame} {meth : Method} {c : Code} {D : va_G} {cI cJ : ClassId} {A : Nat → Prop} {zq : Nat → Nat} {z : fb_MS} (X : fb_Bx p s m args meth c cX2_add RX2 5 none D (fb_ty D cI cJ) A) {zs : fb_MS} {zw : fb_AR} {l1 : Int32} {l2 : Int32} {H : Heap} {locs : List Loc} {ls : Array Slot}  (I : fb_In D A s.heap ((fb_mw cI zq zs zw)) H locs) (hl : lv_has ls 5 [(0, .ref (zq 0)), (1, .int l1), (2, .int l2)]) (E : z = f_X2_add zs l1 l2) : W p l e ({ frames := 1, cells := 0, slots := 0, locals := 22 } : Room) s m args below meth c H locs 0 0 (MQ below (fb_QV D A (fun (_ : fb_AR) => True) (fun (t : fb_AR) => (fb_mw cI zq (z) (t)))) args s 0 0 A) (F0 m 0 ls []) := by
  obtain ⟨hx, hb, hr, hml, hown, hts, hlk, hA, hK, hF⟩ := id X
  refine lv_aload_n hx hb dX2_add_0 rfl (lv_at hl 0 rfl) ?_
  refine fb_get X I (k := 5) fu_X2 0 rfl rfl (Nat.le_of_ble_eq_true rfl) fw_524 rfl rfl dX2_add_1 ?_
  refine lv_iload_n hx hb dX2_add_4 rfl (lv_at hl 1 rfl) ?_
  refine lv_iadd hx hb dX2_add_5 ?_
  refine lv_iload_n hx hb dX2_add_6 rfl (lv_at hl 2 rfl) ?_
  refine lv_iadd hx hb dX2_add_7 ?_
  refine lv_istore_n (lv' := [(3, .int ((((zs).1 5) + l1) + l2)), (0, .ref (zq 0)), (1, .int l1), (2, .int l2)]) hx hb dX2_add_8 rfl hl (by decide) rfl (fun ls hl => ?_)
  refine lv_iload_n hx hb dX2_add_9 rfl (lv_at hl 0 rfl) ?_
  refine lv_sipush (v := (255 : Int32)) hx hb dX2_add_10 (by decide) ?_
  refine lv_iand hx hb dX2_add_13 ?_
  refine lv_istore (lv' := [(4, .int (((((zs).1 5) + l1) + l2) &&& (255 : Int32))), (3, .int ((((zs).1 5) + l1) + l2)), (0, .ref (zq 0)), (1, .int l1), (2, .int l2)]) hx hb dX2_add_14 hl (by decide) rfl (fun ls hl => ?_)
  refine lv_aload_n hx hb dX2_add_16 rfl (lv_at hl 2 rfl) ?_
  refine lv_iconst (v := (1 : Int32)) hx hb dX2_add_17 (by decide) ?_
  refine lv_iload_n hx hb dX2_add_18 rfl (lv_at hl 1 rfl) ?_
  refine lv_sipush (v := (255 : Int32)) hx hb dX2_add_19 (by decide) ?_
  refine lv_icmp_le (tgt := 29) hx hb dX2_add_22 (by decide) (fun c1 => ?_) (fun c1 => ?_)
  · have E2 := (E.trans (if_pos c1))
    refine lv_iconst (v := (0 : Int32)) hx hb dX2_add_29 (by decide) ?_
    exact b_X2_add_30 X  (l1 := l1) (l4 := (((((zs).1 5) + l1) + l2) &&& (255 : Int32))) (k0 := (0 : Int32)) (k1 := (1 : Int32)) I (lv_sub hl [2, 3, 0] rfl) E2
  · have E3 := (E.trans (if_neg c1))
    refine lv_iconst (v := (1 : Int32)) hx hb dX2_add_25 (by decide) ?_
    refine lv_goto (tgt := 30) hx hb dX2_add_26 (by decide) ?_
    exact b_X2_add_30 X  (l1 := l1) (l4 := (((((zs).1 5) + l1) + l2) &&& (255 : Int32))) (k0 := (1 : Int32)) (k1 := (1 : Int32)) I (lv_sub hl [2, 3, 0] rfl) E3
set_option maxHeartbeats 4000000 in
set_option maxRecDepth 100000 in
theorem c_X2_add (l : Launch) (D : va_G) (cI cJ : ClassId) (zq : Nat → Nat) (zs : fb_MS) (zw : fb_AR) (l1 : Int32) (l2 : Int32) (sz : Nat)  : Met l yX2_add (Cond.code yX2_add cX2_add 5 none :: fb_all) ({ frames := 1, cells := 0, slots := 0, locals := 22 } : Room) (fb_PP D (fb_ty D cI cJ) [.ref (zq 0), .int l1, .int l2] ((fb_mw cI zq zs zw)) sz) (fb_QV D (va_A ((fb_mw cI zq zs zw)) sz) (fun (_ : fb_AR) => True) (fun (t : fb_AR) => (fb_mw cI zq (((f_X2_add zs l1 l2))) (t)))) 0 0 (va_A ((fb_mw cI zq zs zw)) sz) := by
  refine fb_ent (Qf := fun A => (fb_QV D A (fun (_ : fb_AR) => True) (fun (t : fb_AR) => (fb_mw cI zq (((f_X2_add zs l1 l2))) (t))))) (by decide +kernel) (Nat.le_of_ble_eq_true rfl) ?_
  intro p e s m args below meth c A ls X I hl hin
  exact b_X2_add_0 X  I hl rfl
/-! X2_compare -/
def f_X2_compare_12 (zs : fb_MS) (l1 : Int32) (l2 : Int32) (k0 : Int32) (k1 : Int32) : fb_MS := ((f_X2_zn ((f_X2_setFlag zs k1 k0)) ((l1 - l2) &&& (255 : Int32))).2)
def f_X2_compare (zs : fb_MS) (l1 : Int32) (l2 : Int32) : fb_MS := (if l1 < l2 then f_X2_compare_12 zs l1 l2 (0 : Int32) (1 : Int32) else f_X2_compare_12 zs l1 l2 (1 : Int32) (1 : Int32))
set_option maxHeartbeats 4000000 in
set_option maxRecDepth 100000 in
theorem b_X2_compare_12 {p : Program} {l : Launch} {e : Env} {s : State} {m : MethodId} {args : Array Value} {below : List Frame} {meth : Method} {c : Code} {D : va_G} {cI cJ : ClassId} {A : Nat → Prop} {zq : Nat → Nat} {z : fb_MS} (X : fb_Bx p s m args meth c cX2_compare RX2 3 none D (fb_ty D cI cJ) A) {zs : fb_MS} {zw : fb_AR} {l1 : Int32} {l2 : Int32} {k0 : Int32} {k1 : Int32} {H : Heap} {locs : List Loc} {ls : Array Slot}  (I : fb_In D A s.heap ((fb_mw cI zq zs zw)) H locs) (hl : lv_has ls 3 [(0, .ref (zq 0)), (1, .int l1), (2, .int l2)]) (E : z = f_X2_compare_12 zs l1 l2 k0 k1) : W p l e ({ frames := 1, cells := 0, slots := 0, locals := 22 } : Room) s m args below meth c H locs 0 0 (MQ below (fb_QV D A (fun (_ : fb_AR) => True) (fun (t : fb_AR) => (fb_mw cI zq (z) (t)))) args s 0 0 A) (F0 m 12 ls [.int k0, .int k1, .ref (zq 0)]) := by
  obtain ⟨hx, hb, hr, hml, hown, hts, hlk, hA, hK, hF⟩ := id X
  refine fb_goV (wn := fun (w4 : fb_AR) => (fb_mw cI zq ((f_X2_setFlag zs k1 k0)) (w4))) X I (fb_runV (As := [.int k1, .int k0]) (rest := []) (q0 := 0) X I hl (c_X2_setFlag l D cI cJ zq zs zw k1 k0 _) (fb_goodV fw_1246 fw_1248 fw_51 fw_198 fw_1249) rfl rfl rfl (by decide +kernel : fb_hd yX2_setFlag 2) ⟨Nat.le_of_ble_eq_true rfl, Nat.le_of_ble_eq_true rfl⟩ [0, 1, 2, 3, 4, 5, 6, 7] (by decide) rfl rfl rfl rfl rfl rfl (Nat.le_of_ble_eq_true rfl) ⟨Nat.zero_le _, Nat.zero_le _⟩ dX2_compare_12) [0, 1, 2, 3, 4, 5, 6, 7] [] [0, 1, 2, 3, 4, 5, 6, 7] rfl rfl (by decide) (by decide) (by decide) (fun _ => rfl) ?_
  intro w4 H locs _ I
  refine lv_aload_n hx hb dX2_compare_15 rfl (lv_at hl 0 rfl) ?_
  refine lv_iload_n hx hb dX2_compare_16 rfl (lv_at hl 1 rfl) ?_
  refine lv_iload_n hx hb dX2_compare_17 rfl (lv_at hl 2 rfl) ?_
  refine lv_isub hx hb dX2_compare_18 ?_
  refine lv_sipush (v := (255 : Int32)) hx hb dX2_compare_19 (by decide) ?_
  refine lv_iand hx hb dX2_compare_22 ?_
  refine fb_goI (wn := fun (w5 : fb_AR) => (fb_mw cI zq ((f_X2_zn ((f_X2_setFlag zs k1 k0)) ((l1 - l2) &&& (255 : Int32))).2) (w5))) X I (fb_runV (As := [.int ((l1 - l2) &&& (255 : Int32))]) (rest := []) (q0 := 0) X I hl (c_X2_zn l D cI cJ zq ((f_X2_setFlag zs k1 k0)) (w4) ((l1 - l2) &&& (255 : Int32)) _) (fb_goodV fw_1254 fw_1256 fw_53 fw_198 fw_1257) rfl rfl rfl (by decide +kernel : fb_hd yX2_zn 1) ⟨Nat.le_of_ble_eq_true rfl, Nat.le_of_ble_eq_true rfl⟩ [0, 1, 2, 3, 4, 5, 6, 7] (by decide) rfl rfl rfl rfl rfl rfl (Nat.le_of_ble_eq_true rfl) ⟨Nat.zero_le _, Nat.zero_le _⟩ dX2_compare_23) [0, 1, 2, 3, 4, 5, 6, 7] [] [0, 1, 2, 3, 4, 5, 6, 7] rfl rfl (by decide) (by decide) (by decide) (fun _ => rfl) ?_
  intro r6 w5 H locs e0 I
  subst e0
  refine lv_pop hx hb dX2_compare_26 rfl ?_
  subst E
  exact fb_retV (u := ((w5))) X I trivial dX2_compare_27
set_option maxHeartbeats 4000000 in
set_option maxRecDepth 100000 in
theorem b_X2_compare_0 {p : Program} {l : Launch} {e : Env} {s : State} {m : MethodId} {args : Array Value} {below : List Frame} {meth : Method} {c : Code} {D : va_G} {cI cJ : ClassId} {A : Nat → Prop} {zq : Nat → Nat} {z : fb_MS} (X : fb_Bx p s m args meth c cX2_compare RX2 3 none D (fb_ty D cI cJ) A) {zs : fb_MS} {zw : fb_AR} {l1 : Int32} {l2 : Int32} {H : Heap} {locs : List Loc} {ls : Array Slot}  (I : fb_In D A s.heap ((fb_mw cI zq zs zw)) H locs) (hl : lv_has ls 3 [(0, .ref (zq 0)), (1, .int l1), (2, .int l2)]) (E : z = f_X2_compare zs l1 l2) : W p l e ({ frames := 1, cells := 0, slots := 0, locals := 22 } : Room) s m args below meth c H locs 0 0 (MQ below (fb_QV D A (fun (_ : fb_AR) => True) (fun (t : fb_AR) => (fb_mw cI zq (z) (t)))) args s 0 0 A) (F0 m 0 ls []) := by
  obtain ⟨hx, hb, hr, hml, hown, hts, hlk, hA, hK, hF⟩ := id X
  refine lv_aload_n hx hb dX2_compare_0 rfl (lv_at hl 0 rfl) ?_
  refine lv_iconst (v := (1 : Int32)) hx hb dX2_compare_1 (by decide) ?_
  refine lv_iload_n hx hb dX2_compare_2 rfl (lv_at hl 1 rfl) ?_
  refine lv_iload_n hx hb dX2_compare_3 rfl (lv_at hl 2 rfl) ?_
  refine lv_icmp_lt (tgt := 11) hx hb dX2_compare_4 (by decide) (fun c1 => ?_) (fun c1 => ?_)
  · have E2 := (E.trans (if_pos c1))
    refine lv_iconst (v := (0 : Int32)) hx hb dX2_compare_11 (by decide) ?_
    exact b_X2_compare_12 X  (l1 := l1) (l2 := l2) (k0 := (0 : Int32)) (k1 := (1 : Int32)) I (lv_sub hl [0, 1, 2] rfl) E2
  · have E3 := (E.trans (if_neg c1))
    refine lv_iconst (v := (1 : Int32)) hx hb dX2_compare_7 (by decide) ?_
    refine lv_goto (tgt := 12) hx hb dX2_compare_8 (by decide) ?_
    exact b_X2_compare_12 X  (l1 := l1) (l2 := l2) (k0 := (1 : Int32)) (k1 := (1 : Int32)) I (lv_sub hl [0, 1, 2] rfl) E3
set_option maxHeartbeats 4000000 in
set_option maxRecDepth 100000 in
theorem c_X2_compare (l : Launch) (D : va_G) (cI cJ : ClassId) (zq : Nat → Nat) (zs : fb_MS) (zw : fb_AR) (l1 : Int32) (l2 : Int32) (sz : Nat)  : Met l yX2_compare (Cond.code yX2_compare cX2_compare 3 none :: fb_all) ({ frames := 1, cells := 0, slots := 0, locals := 22 } : Room) (fb_PP D (fb_ty D cI cJ) [.ref (zq 0), .int l1, .int l2] ((fb_mw cI zq zs zw)) sz) (fb_QV D (va_A ((fb_mw cI zq zs zw)) sz) (fun (_ : fb_AR) => True) (fun (t : fb_AR) => (fb_mw cI zq (((f_X2_compare zs l1 l2))) (t)))) 0 0 (va_A ((fb_mw cI zq zs zw)) sz) := by
  refine fb_ent (Qf := fun A => (fb_QV D A (fun (_ : fb_AR) => True) (fun (t : fb_AR) => (fb_mw cI zq (((f_X2_compare zs l1 l2))) (t))))) (by decide +kernel) (Nat.le_of_ble_eq_true rfl) ?_
  intro p e s m args below meth c A ls X I hl hin
  exact b_X2_compare_0 X  I hl rfl
/-! X2_target -/
def f_X2_target_74 (zs : fb_MS) (l1 : Int32) (l4 : Int32) : Int32 × fb_MS := (if l1 = (6 : Int32) then (((l4 + ((zs).1 6)) &&& (4095 : Int32)), zs) else ((l4 &&& (4095 : Int32)), zs))
def f_X2_target_31 (zs : fb_MS) (l1 : Int32) (l2 : Int32) (l4 : Int32) : Int32 × fb_MS := (if l1 < (5 : Int32) then f_X2_target_74 zs l1 l4 else f_X2_target_74 ((f_X2_touch ((f_X2_touch zs l2)) ((l2 + (1 : Int32)) &&& (255 : Int32)))) l1 ((f_X2_shown ((f_X2_touch ((f_X2_touch zs l2)) ((l2 + (1 : Int32)) &&& (255 : Int32)))) l2) + ((256 : Int32) * (f_X2_shown ((f_X2_touch ((f_X2_touch zs l2)) ((l2 + (1 : Int32)) &&& (255 : Int32)))) ((l2 + (1 : Int32)) &&& (255 : Int32))))))
def f_X2_target_17 (zs : fb_MS) (l1 : Int32) (l2 : Int32) (l4 : Int32) : Int32 × fb_MS := (if l1 = (4 : Int32) then f_X2_target_31 zs l1 l2 (l4 + ((zs).1 6)) else f_X2_target_31 zs l1 l2 l4)
def f_X2_target (zs : fb_MS) (l1 : Int32) (l2 : Int32) (l3 : Int32) : Int32 × fb_MS := (if l1 = (2 : Int32) then f_X2_target_17 zs l1 l2 l2 else f_X2_target_17 zs l1 l2 (l2 + ((256 : Int32) * l3)))
set_option maxHeartbeats 4000000 in
set_option maxRecDepth 100000 in
theorem b_X2_target_74 {p : Program} {l : Launch} {e : Env} {s : State} {m : MethodId} {args : Array Value} {below : List Frame} {meth : Method} {c : Code} {D : va_G} {cI cJ : ClassId} {A : Nat → Prop} {zq : Nat → Nat} {z : Int32 × fb_MS} (X : fb_Bx p s m args meth c cX2_target RX2 6 (some .int) D (fb_ty D cI cJ) A) {zs : fb_MS} {zw : fb_AR} {l1 : Int32} {l4 : Int32} {H : Heap} {locs : List Loc} {ls : Array Slot}  (I : fb_In D A s.heap ((fb_mw cI zq zs zw)) H locs) (hl : lv_has ls 6 [(0, .ref (zq 0)), (1, .int l1), (4, .int l4)]) (E : z = f_X2_target_74 zs l1 l4) : W p l e ({ frames := 2, cells := 0, slots := 0, locals := 43 } : Room) s m args below meth c H locs 0 0 (MQ below (fb_QI D A (fun (r : Int32) (_ : fb_AR) => r = z.1) (fun (t : fb_AR) => (fb_mw cI zq (z.2) (t)))) args s 0 0 A) (F0 m 74 ls []) := by
  obtain ⟨hx, hb, hr, hml, hown, hts, hlk, hA, hK, hF⟩ := id X
  refine lv_iload_n hx hb dX2_target_74 rfl (lv_at hl 1 rfl) ?_
  refine lv_bipush (v := (6 : Int32)) hx hb dX2_target_75 (by decide) ?_
  refine lv_icmp_ne (tgt := 89) hx hb dX2_target_77 (by decide) (fun c12 => ?_) (fun c12 => ?_)
  · have E13 := (E.trans (if_neg c12))
    refine lv_iload hx hb dX2_target_89 (lv_at hl 2 rfl) ?_
    refine lv_sipush (v := (4095 : Int32)) hx hb dX2_target_91 (by decide) ?_
    refine lv_iand hx hb dX2_target_94 ?_
    subst E13
    exact fb_retI (u := (zw)) X I rfl rfl dX2_target_95
  · have E14 := (E.trans (if_pos c12))
    refine lv_iload hx hb dX2_target_80 (lv_at hl 2 rfl) ?_
    refine lv_aload_n hx hb dX2_target_82 rfl (lv_at hl 0 rfl) ?_
    refine fb_get X I (k := 6) fu_X2 0 rfl rfl (Nat.le_of_ble_eq_true rfl) fw_526 rfl rfl dX2_target_83 ?_
    refine lv_iadd hx hb dX2_target_86 ?_
    refine lv_istore (lv' := [(4, .int (l4 + ((zs).1 6))), (0, .ref (zq 0)), (1, .int l1)]) hx hb dX2_target_87 hl (by decide) rfl (fun ls hl => ?_)
    refine lv_iload hx hb dX2_target_89 (lv_at hl 0 rfl) ?_
    refine lv_sipush (v := (4095 : Int32)) hx hb dX2_target_91 (by decide) ?_
    refine lv_iand hx hb dX2_target_94 ?_
    subst E14
    exact fb_retI (u := (zw)) X I rfl rfl dX2_target_95
set_option maxHeartbeats 4000000 in
set_option maxRecDepth 100000 in
theorem b_X2_target_31 {p : Program} {l : Launch} {e : Env} {s : State} {m : MethodId} {args : Array Value} {below : List Frame} {meth : Method} {c : Code} {D : va_G} {cI cJ : ClassId} {A : Nat → Prop} {zq : Nat → Nat} {z : Int32 × fb_MS} (X : fb_Bx p s m args meth c cX2_target RX2 6 (some .int) D (fb_ty D cI cJ) A) {zs : fb_MS} {zw : fb_AR} {l1 : Int32} {l2 : Int32} {l4 : Int32} {H : Heap} {locs : List Loc} {ls : Array Slot}  (I : fb_In D A s.heap ((fb_mw cI zq zs zw)) H locs) (hl : lv_has ls 6 [(0, .ref (zq 0)), (1, .int l1), (2, .int l2), (4, .int l4)]) (E : z = f_X2_target_31 zs l1 l2 l4) : W p l e ({ frames := 2, cells := 0, slots := 0, locals := 43 } : Room) s m args below meth c H locs 0 0 (MQ below (fb_QI D A (fun (r : Int32) (_ : fb_AR) => r = z.1) (fun (t : fb_AR) => (fb_mw cI zq (z.2) (t)))) args s 0 0 A) (F0 m 31 ls []) := by
  obtain ⟨hx, hb, hr, hml, hown, hts, hlk, hA, hK, hF⟩ := id X
  refine lv_iload_n hx hb dX2_target_31 rfl (lv_at hl 1 rfl) ?_
  refine lv_iconst (v := (5 : Int32)) hx hb dX2_target_32 (by decide) ?_
  refine lv_icmp_lt (tgt := 74) hx hb dX2_target_33 (by decide) (fun c7 => ?_) (fun c7 => ?_)
  · have E8 := (E.trans (if_pos c7))
    exact b_X2_target_74 X  (l1 := l1) (l4 := l4) I (lv_sub hl [0, 1, 3] rfl) E8
  · have E9 := (E.trans (if_neg c7))
    refine lv_iload_n hx hb dX2_target_36 rfl (lv_at hl 2 rfl) ?_
    refine lv_iconst (v := (1 : Int32)) hx hb dX2_target_37 (by decide) ?_
    refine lv_iadd hx hb dX2_target_38 ?_
    refine lv_sipush (v := (255 : Int32)) hx hb dX2_target_39 (by decide) ?_
    refine lv_iand hx hb dX2_target_42 ?_
    refine lv_istore (lv' := [(5, .int ((l2 + (1 : Int32)) &&& (255 : Int32))), (0, .ref (zq 0)), (1, .int l1), (2, .int l2), (4, .int l4)]) hx hb dX2_target_43 hl (by decide) rfl (fun ls hl => ?_)
    refine lv_aload_n hx hb dX2_target_45 rfl (lv_at hl 1 rfl) ?_
    refine lv_iload_n hx hb dX2_target_46 rfl (lv_at hl 3 rfl) ?_
    refine fb_goV (wn := fun (w10 : fb_AR) => (fb_mw cI zq ((f_X2_touch zs l2)) (w10))) X I (fb_runV (As := [.int l2]) (rest := []) (q0 := 0) X I hl (c_X2_touch l D cI cJ zq zs zw l2 _) (fb_goodV fw_1211 fw_1213 fw_45 fw_198 fw_1214) rfl rfl rfl (by decide +kernel : fb_hd yX2_touch 1) ⟨Nat.le_of_ble_eq_true rfl, Nat.le_of_ble_eq_true rfl⟩ [0, 1, 2, 3, 4, 5, 6, 7] (by decide) rfl rfl rfl rfl rfl rfl (Nat.le_of_ble_eq_true rfl) ⟨Nat.zero_le _, Nat.zero_le _⟩ dX2_target_47) [0, 1, 2, 3, 4, 5, 6, 7] [] [0, 1, 2, 3, 4, 5, 6, 7] rfl rfl (by decide) (by decide) (by decide) (fun _ => rfl) ?_
    intro w10 H locs _ I
    refine lv_aload_n hx hb dX2_target_50 rfl (lv_at hl 1 rfl) ?_
    refine lv_iload hx hb dX2_target_51 (lv_at hl 0 rfl) ?_
    refine fb_goV (wn := fun (w11 : fb_AR) => (fb_mw cI zq ((f_X2_touch ((f_X2_touch zs l2)) ((l2 + (1 : Int32)) &&& (255 : Int32)))) (w11))) X I (fb_runV (As := [.int ((l2 + (1 : Int32)) &&& (255 : Int32))]) (rest := []) (q0 := 0) X I hl (c_X2_touch l D cI cJ zq ((f_X2_touch zs l2)) (w10) ((l2 + (1 : Int32)) &&& (255 : Int32)) _) (fb_goodV fw_1211 fw_1213 fw_45 fw_198 fw_1214) rfl rfl rfl (by decide +kernel : fb_hd yX2_touch 1) ⟨Nat.le_of_ble_eq_true rfl, Nat.le_of_ble_eq_true rfl⟩ [0, 1, 2, 3, 4, 5, 6, 7] (by decide) rfl rfl rfl rfl rfl rfl (Nat.le_of_ble_eq_true rfl) ⟨Nat.zero_le _, Nat.zero_le _⟩ dX2_target_53) [0, 1, 2, 3, 4, 5, 6, 7] [] [0, 1, 2, 3, 4, 5, 6, 7] rfl rfl (by decide) (by decide) (by decide) (fun _ => rfl) ?_
    intro w11 H locs _ I
    refine lv_aload_n hx hb dX2_target_56 rfl (lv_at hl 1 rfl) ?_
    refine lv_iload_n hx hb dX2_target_57 rfl (lv_at hl 3 rfl) ?_
    refine fb_roI X I (fb_runV (As := [.int l2]) (rest := []) (q0 := 0) X I hl (c_X2_shown l D cI cJ zq ((f_X2_touch ((f_X2_touch zs l2)) ((l2 + (1 : Int32)) &&& (255 : Int32)))) (w11) l2 _) (fb_goodV fw_1224 fw_1225 fw_1226 fw_198 fw_1227) rfl rfl rfl (by decide +kernel : fb_hd yX2_shown 1) ⟨Nat.le_of_ble_eq_true rfl, Nat.le_of_ble_eq_true rfl⟩ [0, 1, 2, 3, 4, 5, 6, 7] (by decide) rfl rfl rfl rfl rfl rfl (Nat.le_of_ble_eq_true rfl) ⟨Nat.zero_le _, Nat.zero_le _⟩ dX2_target_58) ?_
    refine lv_sipush (v := (256 : Int32)) hx hb dX2_target_61 (by decide) ?_
    refine lv_aload_n hx hb dX2_target_64 rfl (lv_at hl 1 rfl) ?_
    refine lv_iload hx hb dX2_target_65 (lv_at hl 0 rfl) ?_
    refine fb_roI X I (fb_runV (As := [.int ((l2 + (1 : Int32)) &&& (255 : Int32))]) (rest := [.int (256 : Int32), .int (f_X2_shown ((f_X2_touch ((f_X2_touch zs l2)) ((l2 + (1 : Int32)) &&& (255 : Int32)))) l2)]) (q0 := 0) X I hl (c_X2_shown l D cI cJ zq ((f_X2_touch ((f_X2_touch zs l2)) ((l2 + (1 : Int32)) &&& (255 : Int32)))) (w11) ((l2 + (1 : Int32)) &&& (255 : Int32)) _) (fb_goodV fw_1224 fw_1225 fw_1226 fw_198 fw_1227) rfl rfl rfl (by decide +kernel : fb_hd yX2_shown 1) ⟨Nat.le_of_ble_eq_true rfl, Nat.le_of_ble_eq_true rfl⟩ [0, 1, 2, 3, 4, 5, 6, 7] (by decide) rfl rfl rfl rfl rfl rfl (Nat.le_of_ble_eq_true rfl) ⟨Nat.zero_le _, Nat.zero_le _⟩ dX2_target_67) ?_
    refine lv_imul hx hb dX2_target_70 ?_
    refine lv_iadd hx hb dX2_target_71 ?_
    refine lv_istore (lv' := [(4, .int ((f_X2_shown ((f_X2_touch ((f_X2_touch zs l2)) ((l2 + (1 : Int32)) &&& (255 : Int32)))) l2) + ((256 : Int32) * (f_X2_shown ((f_X2_touch ((f_X2_touch zs l2)) ((l2 + (1 : Int32)) &&& (255 : Int32)))) ((l2 + (1 : Int32)) &&& (255 : Int32)))))), (5, .int ((l2 + (1 : Int32)) &&& (255 : Int32))), (0, .ref (zq 0)), (1, .int l1), (2, .int l2)]) hx hb dX2_target_72 hl (by decide) rfl (fun ls hl => ?_)
    exact b_X2_target_74 X  (l1 := l1) (l4 := ((f_X2_shown ((f_X2_touch ((f_X2_touch zs l2)) ((l2 + (1 : Int32)) &&& (255 : Int32)))) l2) + ((256 : Int32) * (f_X2_shown ((f_X2_touch ((f_X2_touch zs l2)) ((l2 + (1 : Int32)) &&& (255 : Int32)))) ((l2 + (1 : Int32)) &&& (255 : Int32)))))) I (lv_sub hl [2, 3, 0] rfl) E9
set_option maxHeartbeats 4000000 in
set_option maxRecDepth 100000 in
theorem b_X2_target_17 {p : Program} {l : Launch} {e : Env} {s : State} {m : MethodId} {args : Array Value} {below : List Frame} {meth : Method} {c : Code} {D : va_G} {cI cJ : ClassId} {A : Nat → Prop} {zq : Nat → Nat} {z : Int32 × fb_MS} (X : fb_Bx p s m args meth c cX2_target RX2 6 (some .int) D (fb_ty D cI cJ) A) {zs : fb_MS} {zw : fb_AR} {l1 : Int32} {l2 : Int32} {l4 : Int32} {H : Heap} {locs : List Loc} {ls : Array Slot}  (I : fb_In D A s.heap ((fb_mw cI zq zs zw)) H locs) (hl : lv_has ls 6 [(0, .ref (zq 0)), (1, .int l1), (2, .int l2), (4, .int l4)]) (E : z = f_X2_target_17 zs l1 l2 l4) : W p l e ({ frames := 2, cells := 0, slots := 0, locals := 43 } : Room) s m args below meth c H locs 0 0 (MQ below (fb_QI D A (fun (r : Int32) (_ : fb_AR) => r = z.1) (fun (t : fb_AR) => (fb_mw cI zq (z.2) (t)))) args s 0 0 A) (F0 m 17 ls []) := by
  obtain ⟨hx, hb, hr, hml, hown, hts, hlk, hA, hK, hF⟩ := id X
  refine lv_iload_n hx hb dX2_target_17 rfl (lv_at hl 1 rfl) ?_
  refine lv_iconst (v := (4 : Int32)) hx hb dX2_target_18 (by decide) ?_
  refine lv_icmp_ne (tgt := 31) hx hb dX2_target_19 (by decide) (fun c4 => ?_) (fun c4 => ?_)
  · have E5 := (E.trans (if_neg c4))
    exact b_X2_target_31 X  (l1 := l1) (l2 := l2) (l4 := l4) I (lv_sub hl [0, 1, 2, 3] rfl) E5
  · have E6 := (E.trans (if_pos c4))
    refine lv_iload hx hb dX2_target_22 (lv_at hl 3 rfl) ?_
    refine lv_aload_n hx hb dX2_target_24 rfl (lv_at hl 0 rfl) ?_
    refine fb_get X I (k := 6) fu_X2 0 rfl rfl (Nat.le_of_ble_eq_true rfl) fw_526 rfl rfl dX2_target_25 ?_
    refine lv_iadd hx hb dX2_target_28 ?_
    refine lv_istore (lv' := [(4, .int (l4 + ((zs).1 6))), (0, .ref (zq 0)), (1, .int l1), (2, .int l2)]) hx hb dX2_target_29 hl (by decide) rfl (fun ls hl => ?_)
    exact b_X2_target_31 X  (l1 := l1) (l2 := l2) (l4 := (l4 + ((zs).1 6))) I (lv_sub hl [1, 2, 3, 0] rfl) E6
set_option maxHeartbeats 4000000 in
set_option maxRecDepth 100000 in
theorem b_X2_target_0 {p : Program} {l : Launch} {e : Env} {s : State} {m : MethodId} {args : Array Value} {below : List Frame} {meth : Method} {c : Code} {D : va_G} {cI cJ : ClassId} {A : Nat → Prop} {zq : Nat → Nat} {z : Int32 × fb_MS} (X : fb_Bx p s m args meth c cX2_target RX2 6 (some .int) D (fb_ty D cI cJ) A) {zs : fb_MS} {zw : fb_AR} {l1 : Int32} {l2 : Int32} {l3 : Int32} {H : Heap} {locs : List Loc} {ls : Array Slot}  (I : fb_In D A s.heap ((fb_mw cI zq zs zw)) H locs) (hl : lv_has ls 6 [(0, .ref (zq 0)), (1, .int l1), (2, .int l2), (3, .int l3)]) (E : z = f_X2_target zs l1 l2 l3) : W p l e ({ frames := 2, cells := 0, slots := 0, locals := 43 } : Room) s m args below meth c H locs 0 0 (MQ below (fb_QI D A (fun (r : Int32) (_ : fb_AR) => r = z.1) (fun (t : fb_AR) => (fb_mw cI zq (z.2) (t)))) args s 0 0 A) (F0 m 0 ls []) := by
  obtain ⟨hx, hb, hr, hml, hown, hts, hlk, hA, hK, hF⟩ := id X
  refine lv_iload_n hx hb dX2_target_0 rfl (lv_at hl 2 rfl) ?_
  refine lv_sipush (v := (256 : Int32)) hx hb dX2_target_1 (by decide) ?_
  refine lv_iload_n hx hb dX2_target_4 rfl (lv_at hl 3 rfl) ?_
  refine lv_imul hx hb dX2_target_5 ?_
  refine lv_iadd hx hb dX2_target_6 ?_
  refine lv_istore (lv' := [(4, .int (l2 + ((256 : Int32) * l3))), (0, .ref (zq 0)), (1, .int l1), (2, .int l2), (3, .int l3)]) hx hb dX2_target_7 hl (by decide) rfl (fun ls hl => ?_)
  refine lv_iload_n hx hb dX2_target_9 rfl (lv_at hl 2 rfl) ?_
  refine lv_iconst (v := (2 : Int32)) hx hb dX2_target_10 (by decide) ?_
  refine lv_icmp_ne (tgt := 17) hx hb dX2_target_11 (by decide) (fun c1 => ?_) (fun c1 => ?_)
  · have E2 := (E.trans (if_neg c1))
    exact b_X2_target_17 X  (l1 := l1) (l2 := l2) (l4 := (l2 + ((256 : Int32) * l3))) I (lv_sub hl [1, 2, 3, 0] rfl) E2
  · have E3 := (E.trans (if_pos c1))
    refine lv_iload_n hx hb dX2_target_14 rfl (lv_at hl 3 rfl) ?_
    refine lv_istore (lv' := [(4, .int l2), (0, .ref (zq 0)), (1, .int l1), (2, .int l2), (3, .int l3)]) hx hb dX2_target_15 hl (by decide) rfl (fun ls hl => ?_)
    exact b_X2_target_17 X  (l1 := l1) (l2 := l2) (l4 := l2) I (lv_sub hl [1, 2, 3, 0] rfl) E3
set_option maxHeartbeats 4000000 in
set_option maxRecDepth 100000 in
theorem c_X2_target (l : Launch) (D : va_G) (cI cJ : ClassId) (zq : Nat → Nat) (zs : fb_MS) (zw : fb_AR) (l1 : Int32) (l2 : Int32) (l3 : Int32) (sz : Nat)  : Met l yX2_target (Cond.code yX2_target cX2_target 6 (some .int) :: fb_all) ({ frames := 2, cells := 0, slots := 0, locals := 43 } : Room) (fb_PP D (fb_ty D cI cJ) [.ref (zq 0), .int l1, .int l2, .int l3] ((fb_mw cI zq zs zw)) sz) (fb_QI D (va_A ((fb_mw cI zq zs zw)) sz) (fun (r : Int32) (_ : fb_AR) => r = ((f_X2_target zs l1 l2 l3)).1) (fun (t : fb_AR) => (fb_mw cI zq (((f_X2_target zs l1 l2 l3)).2) (t)))) 0 0 (va_A ((fb_mw cI zq zs zw)) sz) := by
  refine fb_ent (Qf := fun A => (fb_QI D A (fun (r : Int32) (_ : fb_AR) => r = ((f_X2_target zs l1 l2 l3)).1) (fun (t : fb_AR) => (fb_mw cI zq (((f_X2_target zs l1 l2 l3)).2) (t))))) (by decide +kernel) (Nat.le_of_ble_eq_true rfl) ?_
  intro p e s m args below meth c A ls X I hl hin
  exact b_X2_target_0 X  I hl rfl
/-! X2_read -/
def f_X2_read (zs : fb_MS) (l1 : Int32) : Int32 × fb_MS := (if (f_X11_isPort l1) = 0 then ((f_X2_shown ((f_X2_touch zs l1)) l1), ((f_X2_touch zs l1))) else (((f_X5_read (((f_X2_touch zs l1))).2.2.2.2.2 (l1 - (1792 : Int32)) ((((f_X2_touch zs l1))).1 11)).1), (fb_sP ((f_X2_touch zs l1)) ((f_X5_read (((f_X2_touch zs l1))).2.2.2.2.2 (l1 - (1792 : Int32)) ((((f_X2_touch zs l1))).1 11)).2))))
set_option maxHeartbeats 4000000 in
set_option maxRecDepth 100000 in
theorem b_X2_read_0 {p : Program} {l : Launch} {e : Env} {s : State} {m : MethodId} {args : Array Value} {below : List Frame} {meth : Method} {c : Code} {D : va_G} {cI cJ : ClassId} {A : Nat → Prop} {zq : Nat → Nat} {z : Int32 × fb_MS} (X : fb_Bx p s m args meth c cX2_read RX2 2 (some .int) D (fb_ty D cI cJ) A) {zs : fb_MS} {zw : fb_AR} {l1 : Int32} {H : Heap} {locs : List Loc} {ls : Array Slot}  (I : fb_In D A s.heap ((fb_mw cI zq zs zw)) H locs) (hl : lv_has ls 2 [(0, .ref (zq 0)), (1, .int l1)]) (E : z = f_X2_read zs l1) : W p l e ({ frames := 2, cells := 0, slots := 0, locals := 44 } : Room) s m args below meth c H locs 0 0 (MQ below (fb_QI D A (fun (r : Int32) (_ : fb_AR) => r = z.1) (fun (t : fb_AR) => (fb_mw cI zq (z.2) (t)))) args s 0 0 A) (F0 m 0 ls []) := by
  obtain ⟨hx, hb, hr, hml, hown, hts, hlk, hA, hK, hF⟩ := id X
  refine lv_aload_n hx hb dX2_read_0 rfl (lv_at hl 0 rfl) ?_
  refine lv_iload_n hx hb dX2_read_1 rfl (lv_at hl 1 rfl) ?_
  refine fb_goV (wn := fun (w1 : fb_AR) => (fb_mw cI zq ((f_X2_touch zs l1)) (w1))) X I (fb_runV (As := [.int l1]) (rest := []) (q0 := 0) X I hl (c_X2_touch l D cI cJ zq zs zw l1 _) (fb_goodV fw_1211 fw_1213 fw_45 fw_198 fw_1214) rfl rfl rfl (by decide +kernel : fb_hd yX2_touch 1) ⟨Nat.le_of_ble_eq_true rfl, Nat.le_of_ble_eq_true rfl⟩ [0, 1, 2, 3, 4, 5, 6, 7] (by decide) rfl rfl rfl rfl rfl rfl (Nat.le_of_ble_eq_true rfl) ⟨Nat.zero_le _, Nat.zero_le _⟩ dX2_read_2) [0, 1, 2, 3, 4, 5, 6, 7] [] [0, 1, 2, 3, 4, 5, 6, 7] rfl rfl (by decide) (by decide) (by decide) (fun _ => rfl) ?_
  intro w1 H locs _ I
  refine lv_iload_n hx hb dX2_read_5 rfl (lv_at hl 1 rfl) ?_
  refine fb_roI X I (fb_runSN (As := [.int l1]) (rest := []) X I hl (c_X11_isPort l D cI cJ l1 _) fw_1309 rfl rfl (List.mem_of_getElem? (i := 31) rfl) fw_191 fw_1308 (by decide +kernel : fb_hd yX11_isPort 1) ⟨Nat.le_of_ble_eq_true rfl, Nat.le_of_ble_eq_true rfl⟩ [] (by decide) rfl rfl rfl (Nat.le_of_ble_eq_true rfl) ⟨Nat.zero_le _, Nat.zero_le _⟩ dX2_read_6) ?_
  refine lv_if_eq (tgt := 31) hx hb dX2_read_9 (by decide) (fun c2 => ?_) (fun c2 => ?_)
  · have E3 := (E.trans (if_pos c2))
    refine lv_aload_n hx hb dX2_read_31 rfl (lv_at hl 0 rfl) ?_
    refine lv_iload_n hx hb dX2_read_32 rfl (lv_at hl 1 rfl) ?_
    refine fb_roI X I (fb_runV (As := [.int l1]) (rest := []) (q0 := 0) X I hl (c_X2_shown l D cI cJ zq ((f_X2_touch zs l1)) (w1) l1 _) (fb_goodV fw_1224 fw_1225 fw_1226 fw_198 fw_1227) rfl rfl rfl (by decide +kernel : fb_hd yX2_shown 1) ⟨Nat.le_of_ble_eq_true rfl, Nat.le_of_ble_eq_true rfl⟩ [0, 1, 2, 3, 4, 5, 6, 7] (by decide) rfl rfl rfl rfl rfl rfl (Nat.le_of_ble_eq_true rfl) ⟨Nat.zero_le _, Nat.zero_le _⟩ dX2_read_33) ?_
    subst E3
    exact fb_retI (u := ((w1))) X I rfl rfl dX2_read_36
  · have E4 := (E.trans (if_neg c2))
    refine lv_aload_n hx hb dX2_read_12 rfl (lv_at hl 0 rfl) ?_
    refine fb_get X I (k := 4) fu_X2 0 rfl rfl (Nat.le_of_ble_eq_true rfl) fw_522 rfl rfl dX2_read_13 ?_
    refine lv_iload_n hx hb dX2_read_16 rfl (lv_at hl 1 rfl) ?_
    refine lv_sipush (v := (1792 : Int32)) hx hb dX2_read_17 (by decide) ?_
    refine lv_isub hx hb dX2_read_20 ?_
    refine lv_aload_n hx hb dX2_read_21 rfl (lv_at hl 0 rfl) ?_
    refine fb_get X I (k := 11) fu_X2 0 rfl rfl (Nat.le_of_ble_eq_true rfl) fw_537 rfl rfl dX2_read_22 ?_
    refine fb_goI (wn := fun (w5 : Unit) => (fb_mw cI zq (fb_sP ((f_X2_touch zs l1)) ((f_X5_read (((f_X2_touch zs l1))).2.2.2.2.2 (l1 - (1792 : Int32)) ((((f_X2_touch zs l1))).1 11)).2)) (w1))) X I (fb_runV (As := [.int (l1 - (1792 : Int32)), .int ((((f_X2_touch zs l1))).1 11)]) (rest := []) (q0 := 5) X I hl (c_X5_read l D cI cJ zq (((f_X2_touch zs l1))).2.2.2.2.2 (l1 - (1792 : Int32)) ((((f_X2_touch zs l1))).1 11) _) (fb_goodV fw_1336 fw_1337 fw_1338 fw_199 fw_1339) rfl rfl rfl (by decide +kernel : fb_hd yX5_read 2) ⟨Nat.le_of_ble_eq_true rfl, Nat.le_of_ble_eq_true rfl⟩ [5, 6, 7] (by decide) rfl rfl rfl rfl rfl rfl (Nat.le_of_ble_eq_true rfl) ⟨Nat.zero_le _, Nat.zero_le _⟩ dX2_read_25) [5, 6, 7] [0, 1, 2, 3, 4] [0, 1, 2, 3, 4, 5, 6, 7] rfl rfl (by decide) (by decide) (by decide) (fun _ => rfl) ?_
    intro r6 w5 H locs e0 I
    subst e0
    refine lv_goto (tgt := 36) hx hb dX2_read_28 (by decide) ?_
    subst E4
    exact fb_retI (u := ((w1))) X I rfl rfl dX2_read_36
set_option maxHeartbeats 4000000 in
set_option maxRecDepth 100000 in
theorem c_X2_read (l : Launch) (D : va_G) (cI cJ : ClassId) (zq : Nat → Nat) (zs : fb_MS) (zw : fb_AR) (l1 : Int32) (sz : Nat)  : Met l yX2_read (Cond.code yX2_read cX2_read 2 (some .int) :: fb_all) ({ frames := 2, cells := 0, slots := 0, locals := 44 } : Room) (fb_PP D (fb_ty D cI cJ) [.ref (zq 0), .int l1] ((fb_mw cI zq zs zw)) sz) (fb_QI D (va_A ((fb_mw cI zq zs zw)) sz) (fun (r : Int32) (_ : fb_AR) => r = ((f_X2_read zs l1)).1) (fun (t : fb_AR) => (fb_mw cI zq (((f_X2_read zs l1)).2) (t)))) 0 0 (va_A ((fb_mw cI zq zs zw)) sz) := by
  refine fb_ent (Qf := fun A => (fb_QI D A (fun (r : Int32) (_ : fb_AR) => r = ((f_X2_read zs l1)).1) (fun (t : fb_AR) => (fb_mw cI zq (((f_X2_read zs l1)).2) (t))))) (by decide +kernel) (Nat.le_of_ble_eq_true rfl) ?_
  intro p e s m args below meth c A ls X I hl hin
  exact b_X2_read_0 X  I hl rfl
/-! X2_store -/
def f_X2_store (zs : fb_MS) (l1 : Int32) (l2 : Int32) : fb_MS := (if (5888 : Int32) ≤ (f_X11_placeOf l1 (((zs).2.2.2.2.2).1 2)) then zs else (fb_sM zs ((f_X11_put 11008 ((zs).2.1) (f_X11_placeOf l1 (((zs).2.2.2.2.2).1 2)) l2))))
set_option maxHeartbeats 4000000 in
set_option maxRecDepth 100000 in
theorem b_X2_store_0 {p : Program} {l : Launch} {e : Env} {s : State} {m : MethodId} {args : Array Value} {below : List Frame} {meth : Method} {c : Code} {D : va_G} {cI cJ : ClassId} {A : Nat → Prop} {zq : Nat → Nat} {z : fb_MS} (X : fb_Bx p s m args meth c cX2_store RX2 4 none D (fb_ty D cI cJ) A) {zs : fb_MS} {zw : fb_AR} {l1 : Int32} {l2 : Int32} {H : Heap} {locs : List Loc} {ls : Array Slot}  (I : fb_In D A s.heap ((fb_mw cI zq zs zw)) H locs) (hl : lv_has ls 4 [(0, .ref (zq 0)), (1, .int l1), (2, .int l2)]) (E : z = f_X2_store zs l1 l2) : W p l e ({ frames := 1, cells := 0, slots := 0, locals := 22 } : Room) s m args below meth c H locs 0 0 (MQ below (fb_QV D A (fun (_ : fb_AR) => True) (fun (t : fb_AR) => (fb_mw cI zq (z) (t)))) args s 0 0 A) (F0 m 0 ls []) := by
  obtain ⟨hx, hb, hr, hml, hown, hts, hlk, hA, hK, hF⟩ := id X
  refine lv_iload_n hx hb dX2_store_0 rfl (lv_at hl 1 rfl) ?_
  refine lv_aload_n hx hb dX2_store_1 rfl (lv_at hl 0 rfl) ?_
  refine fb_get X I (k := 4) fu_X2 0 rfl rfl (Nat.le_of_ble_eq_true rfl) fw_522 rfl rfl dX2_store_2 ?_
  refine fb_get X I (k := 2) fu_X5 5 rfl rfl (Nat.le_of_ble_eq_true rfl) fw_463 rfl rfl dX2_store_5 ?_
  refine fb_roI X I (fb_runSN (As := [.int l1, .int (((zs).2.2.2.2.2).1 2)]) (rest := []) X I hl (c_X11_placeOf l D cI cJ l1 (((zs).2.2.2.2.2).1 2) _) fw_1116 rfl rfl (List.mem_of_getElem? (i := 28) rfl) fw_191 fw_1115 (by decide +kernel : fb_hd yX11_placeOf 2) ⟨Nat.le_of_ble_eq_true rfl, Nat.le_of_ble_eq_true rfl⟩ [] (by decide) rfl rfl rfl (Nat.le_of_ble_eq_true rfl) ⟨Nat.zero_le _, Nat.zero_le _⟩ dX2_store_8) ?_
  refine lv_istore_n (lv' := [(3, .int (f_X11_placeOf l1 (((zs).2.2.2.2.2).1 2))), (0, .ref (zq 0)), (1, .int l1), (2, .int l2)]) hx hb dX2_store_11 rfl hl (by decide) rfl (fun ls hl => ?_)
  refine lv_iload_n hx hb dX2_store_12 rfl (lv_at hl 0 rfl) ?_
  refine lv_sipush (v := (5888 : Int32)) hx hb dX2_store_13 (by decide) ?_
  refine lv_icmp_ge (tgt := 28) hx hb dX2_store_16 (by decide) (fun c1 => ?_) (fun c1 => ?_)
  · have E2 := (E.trans (if_pos c1))
    subst E2
    exact fb_retV (u := (zw)) X I trivial dX2_store_28
  · have E3 := (E.trans (if_neg c1))
    refine lv_aload_n hx hb dX2_store_19 rfl (lv_at hl 1 rfl) ?_
    refine fb_get X I (k := 0) fu_X2 0 rfl rfl (Nat.le_of_ble_eq_true rfl) fw_514 rfl rfl dX2_store_20 ?_
    refine lv_iload_n hx hb dX2_store_23 rfl (lv_at hl 0 rfl) ?_
    refine lv_iload_n hx hb dX2_store_24 rfl (lv_at hl 3 rfl) ?_
    refine fb_goV (wn := fun (w4 : Unit) => (fb_mw cI zq (fb_sM zs ((f_X11_put 11008 ((zs).2.1) (f_X11_placeOf l1 (((zs).2.2.2.2.2).1 2)) l2))) zw)) X I (fb_runSN (As := [.ref (zq 1), .int (f_X11_placeOf l1 (((zs).2.2.2.2.2).1 2)), .int l2]) (rest := []) X I hl (c_X11_put l D cI cJ (zq 1) 11008 ((zs).2.1) (f_X11_placeOf l1 (((zs).2.2.2.2.2).1 2)) l2 _ (by decide)) fw_756 rfl rfl (List.mem_of_getElem? (i := 27) rfl) fw_191 fw_755 (by decide +kernel : fb_hd yX11_put 3) ⟨Nat.le_of_ble_eq_true rfl, Nat.le_of_ble_eq_true rfl⟩ [1] (by decide) rfl rfl rfl (Nat.le_of_ble_eq_true rfl) ⟨Nat.zero_le _, Nat.zero_le _⟩ dX2_store_25) [1] [0, 2, 3, 4, 5, 6, 7] [0, 7, 1, 2, 3, 4, 5, 6] rfl rfl (by decide) (by decide) (by decide) (fun _ => rfl) ?_
    intro w4 H locs _ I
    subst E3
    exact fb_retV (u := (zw)) X I trivial dX2_store_28
set_option maxHeartbeats 4000000 in
set_option maxRecDepth 100000 in
theorem c_X2_store (l : Launch) (D : va_G) (cI cJ : ClassId) (zq : Nat → Nat) (zs : fb_MS) (zw : fb_AR) (l1 : Int32) (l2 : Int32) (sz : Nat)  : Met l yX2_store (Cond.code yX2_store cX2_store 4 none :: fb_all) ({ frames := 1, cells := 0, slots := 0, locals := 22 } : Room) (fb_PP D (fb_ty D cI cJ) [.ref (zq 0), .int l1, .int l2] ((fb_mw cI zq zs zw)) sz) (fb_QV D (va_A ((fb_mw cI zq zs zw)) sz) (fun (_ : fb_AR) => True) (fun (t : fb_AR) => (fb_mw cI zq (((f_X2_store zs l1 l2))) (t)))) 0 0 (va_A ((fb_mw cI zq zs zw)) sz) := by
  refine fb_ent (Qf := fun A => (fb_QV D A (fun (_ : fb_AR) => True) (fun (t : fb_AR) => (fb_mw cI zq (((f_X2_store zs l1 l2))) (t))))) (by decide +kernel) (Nat.le_of_ble_eq_true rfl) ?_
  intro p e s m args below meth c A ls X I hl hin
  exact b_X2_store_0 X  I hl rfl
/-! X2_write -/
def f_X2_write (zs : fb_MS) (l1 : Int32) (l2 : Int32) : fb_MS := (if (f_X11_isPort l1) = 0 then ((f_X2_store ((f_X2_touch zs (l1 + (4096 : Int32)))) l1 l2)) else (fb_sP ((f_X2_touch zs (l1 + (4096 : Int32)))) ((f_X5_write (((f_X2_touch zs (l1 + (4096 : Int32))))).2.2.2.2.2 (l1 - (1792 : Int32)) l2))))
set_option maxHeartbeats 4000000 in
set_option maxRecDepth 100000 in
theorem b_X2_write_0 {p : Program} {l : Launch} {e : Env} {s : State} {m : MethodId} {args : Array Value} {below : List Frame} {meth : Method} {c : Code} {D : va_G} {cI cJ : ClassId} {A : Nat → Prop} {zq : Nat → Nat} {z : fb_MS} (X : fb_Bx p s m args meth c cX2_write RX2 3 none D (fb_ty D cI cJ) A) {zs : fb_MS} {zw : fb_AR} {l1 : Int32} {l2 : Int32} {H : Heap} {locs : List Loc} {ls : Array Slot}  (I : fb_In D A s.heap ((fb_mw cI zq zs zw)) H locs) (hl : lv_has ls 3 [(0, .ref (zq 0)), (1, .int l1), (2, .int l2)]) (E : z = f_X2_write zs l1 l2) : W p l e ({ frames := 2, cells := 0, slots := 0, locals := 45 } : Room) s m args below meth c H locs 0 0 (MQ below (fb_QV D A (fun (_ : fb_AR) => True) (fun (t : fb_AR) => (fb_mw cI zq (z) (t)))) args s 0 0 A) (F0 m 0 ls []) := by
  obtain ⟨hx, hb, hr, hml, hown, hts, hlk, hA, hK, hF⟩ := id X
  refine lv_aload_n hx hb dX2_write_0 rfl (lv_at hl 0 rfl) ?_
  refine lv_iload_n hx hb dX2_write_1 rfl (lv_at hl 1 rfl) ?_
  refine lv_sipush (v := (4096 : Int32)) hx hb dX2_write_2 (by decide) ?_
  refine lv_iadd hx hb dX2_write_5 ?_
  refine fb_goV (wn := fun (w1 : fb_AR) => (fb_mw cI zq ((f_X2_touch zs (l1 + (4096 : Int32)))) (w1))) X I (fb_runV (As := [.int (l1 + (4096 : Int32))]) (rest := []) (q0 := 0) X I hl (c_X2_touch l D cI cJ zq zs zw (l1 + (4096 : Int32)) _) (fb_goodV fw_1211 fw_1213 fw_45 fw_198 fw_1214) rfl rfl rfl (by decide +kernel : fb_hd yX2_touch 1) ⟨Nat.le_of_ble_eq_true rfl, Nat.le_of_ble_eq_true rfl⟩ [0, 1, 2, 3, 4, 5, 6, 7] (by decide) rfl rfl rfl rfl rfl rfl (Nat.le_of_ble_eq_true rfl) ⟨Nat.zero_le _, Nat.zero_le _⟩ dX2_write_6) [0, 1, 2, 3, 4, 5, 6, 7] [] [0, 1, 2, 3, 4, 5, 6, 7] rfl rfl (by decide) (by decide) (by decide) (fun _ => rfl) ?_
  intro w1 H locs _ I
  refine lv_iload_n hx hb dX2_write_9 rfl (lv_at hl 1 rfl) ?_
  refine fb_roI X I (fb_runSN (As := [.int l1]) (rest := []) X I hl (c_X11_isPort l D cI cJ l1 _) fw_1309 rfl rfl (List.mem_of_getElem? (i := 31) rfl) fw_191 fw_1308 (by decide +kernel : fb_hd yX11_isPort 1) ⟨Nat.le_of_ble_eq_true rfl, Nat.le_of_ble_eq_true rfl⟩ [] (by decide) rfl rfl rfl (Nat.le_of_ble_eq_true rfl) ⟨Nat.zero_le _, Nat.zero_le _⟩ dX2_write_10) ?_
  refine lv_if_eq (tgt := 32) hx hb dX2_write_13 (by decide) (fun c2 => ?_) (fun c2 => ?_)
  · have E3 := (E.trans (if_pos c2))
    refine lv_aload_n hx hb dX2_write_32 rfl (lv_at hl 0 rfl) ?_
    refine lv_iload_n hx hb dX2_write_33 rfl (lv_at hl 1 rfl) ?_
    refine lv_iload_n hx hb dX2_write_34 rfl (lv_at hl 2 rfl) ?_
    refine fb_goV (wn := fun (w5 : fb_AR) => (fb_mw cI zq ((f_X2_store ((f_X2_touch zs (l1 + (4096 : Int32)))) l1 l2)) (w5))) X I (fb_runV (As := [.int l1, .int l2]) (rest := []) (q0 := 0) X I hl (c_X2_store l D cI cJ zq ((f_X2_touch zs (l1 + (4096 : Int32)))) (w1) l1 l2 _) (fb_goodV fw_1328 fw_1330 fw_68 fw_198 fw_1331) rfl rfl rfl (by decide +kernel : fb_hd yX2_store 2) ⟨Nat.le_of_ble_eq_true rfl, Nat.le_of_ble_eq_true rfl⟩ [0, 1, 2, 3, 4, 5, 6, 7] (by decide) rfl rfl rfl rfl rfl rfl (Nat.le_of_ble_eq_true rfl) ⟨Nat.zero_le _, Nat.zero_le _⟩ dX2_write_35) [0, 1, 2, 3, 4, 5, 6, 7] [] [0, 1, 2, 3, 4, 5, 6, 7] rfl rfl (by decide) (by decide) (by decide) (fun _ => rfl) ?_
    intro w5 H locs _ I
    subst E3
    exact fb_retV (u := ((w5))) X I trivial dX2_write_38
  · have E4 := (E.trans (if_neg c2))
    refine lv_aload_n hx hb dX2_write_16 rfl (lv_at hl 0 rfl) ?_
    refine fb_get X I (k := 4) fu_X2 0 rfl rfl (Nat.le_of_ble_eq_true rfl) fw_522 rfl rfl dX2_write_17 ?_
    refine lv_iload_n hx hb dX2_write_20 rfl (lv_at hl 1 rfl) ?_
    refine lv_sipush (v := (1792 : Int32)) hx hb dX2_write_21 (by decide) ?_
    refine lv_isub hx hb dX2_write_24 ?_
    refine lv_iload_n hx hb dX2_write_25 rfl (lv_at hl 2 rfl) ?_
    refine fb_goV (wn := fun (w6 : Unit) => (fb_mw cI zq (fb_sP ((f_X2_touch zs (l1 + (4096 : Int32)))) ((f_X5_write (((f_X2_touch zs (l1 + (4096 : Int32))))).2.2.2.2.2 (l1 - (1792 : Int32)) l2))) (w1))) X I (fb_runV (As := [.int (l1 - (1792 : Int32)), .int l2]) (rest := []) (q0 := 5) X I hl (c_X5_write l D cI cJ zq (((f_X2_touch zs (l1 + (4096 : Int32))))).2.2.2.2.2 (l1 - (1792 : Int32)) l2 _) (fb_goodV fw_1310 fw_1311 fw_1312 fw_199 fw_1313) rfl rfl rfl (by decide +kernel : fb_hd yX5_write 2) ⟨Nat.le_of_ble_eq_true rfl, Nat.le_of_ble_eq_true rfl⟩ [5, 6, 7] (by decide) rfl rfl rfl rfl rfl rfl (Nat.le_of_ble_eq_true rfl) ⟨Nat.zero_le _, Nat.zero_le _⟩ dX2_write_26) [5, 6, 7] [0, 1, 2, 3, 4] [0, 1, 2, 3, 4, 5, 6, 7] rfl rfl (by decide) (by decide) (by decide) (fun _ => rfl) ?_
    intro w6 H locs _ I
    refine lv_goto (tgt := 38) hx hb dX2_write_29 (by decide) ?_
    subst E4
    exact fb_retV (u := ((w1))) X I trivial dX2_write_38
set_option maxHeartbeats 4000000 in
set_option maxRecDepth 100000 in
theorem c_X2_write (l : Launch) (D : va_G) (cI cJ : ClassId) (zq : Nat → Nat) (zs : fb_MS) (zw : fb_AR) (l1 : Int32) (l2 : Int32) (sz : Nat)  : Met l yX2_write (Cond.code yX2_write cX2_write 3 none :: fb_all) ({ frames := 2, cells := 0, slots := 0, locals := 45 } : Room) (fb_PP D (fb_ty D cI cJ) [.ref (zq 0), .int l1, .int l2] ((fb_mw cI zq zs zw)) sz) (fb_QV D (va_A ((fb_mw cI zq zs zw)) sz) (fun (_ : fb_AR) => True) (fun (t : fb_AR) => (fb_mw cI zq (((f_X2_write zs l1 l2))) (t)))) 0 0 (va_A ((fb_mw cI zq zs zw)) sz) := by
  refine fb_ent (Qf := fun A => (fb_QV D A (fun (_ : fb_AR) => True) (fun (t : fb_AR) => (fb_mw cI zq (((f_X2_write zs l1 l2))) (t))))) (by decide +kernel) (Nat.le_of_ble_eq_true rfl) ?_
  intro p e s m args below meth c A ls X I hl hin
  exact b_X2_write_0 X  I hl rfl
