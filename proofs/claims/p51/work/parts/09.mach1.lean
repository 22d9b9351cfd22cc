/-! X2_shown -/
def f_X2_shown (zs : fb_MS) (l1 : Int32) : Int32 := (f_X11_at 11008 ((zs).2.1) (f_X11_placeOf (l1 &&& (4095 : Int32)) (((zs).2.2.2.2.2).1 2)))
set_option maxHeartbeats 4000000 in
set_option maxRecDepth 100000 in
theorem b_X2_shown_0 {p : Program} {l : Launch} {e : Env} {s : State} {m : MethodId} {args : Array Value} {below : List Frame} {meth : Method} {c : Code} {D : va_G} {cI cJ : ClassId} {A : Nat → Prop} {zq : Nat → Nat} {z : Int32} (X : fb_Bx p s m args meth c cX2_shown RX2 2 (some .int) D (fb_ty D cI cJ) A) {zs : fb_MS} {zw : fb_AR} {l1 : Int32} {ls : Array Slot}  (I : fb_In D A s.heap ((fb_mw cI zq zs zw)) s.heap []) (hl : lv_has ls 2 [(0, .ref (zq 0)), (1, .int l1)]) (E : z = f_X2_shown zs l1) : W p l e ({ frames := 1, cells := 0, slots := 0, locals := 21 } : Room) s m args below meth c s.heap [] 0 0 (MQ below (vp_Si (fun r => r = z)) args s 0 0 (fun _ => False)) (F0 m 0 ls []) := by
  obtain ⟨hx, hb, hr, hml, hown, hts, hlk, hA, hK, hF⟩ := id X
  refine lv_aload_n hx hb dX2_shown_0 rfl (lv_at hl 0 rfl) ?_
  refine fb_get X I (k := 0) fu_X2 0 rfl rfl (Nat.le_of_ble_eq_true rfl) fw_514 rfl rfl dX2_shown_1 ?_
  refine lv_iload_n hx hb dX2_shown_4 rfl (lv_at hl 1 rfl) ?_
  refine lv_sipush (v := (4095 : Int32)) hx hb dX2_shown_5 (by decide) ?_
  refine lv_iand hx hb dX2_shown_8 ?_
  refine lv_aload_n hx hb dX2_shown_9 rfl (lv_at hl 0 rfl) ?_
  refine fb_get X I (k := 4) fu_X2 0 rfl rfl (Nat.le_of_ble_eq_true rfl) fw_522 rfl rfl dX2_shown_10 ?_
  refine fb_get X I (k := 2) fu_X5 5 rfl rfl (Nat.le_of_ble_eq_true rfl) fw_463 rfl rfl dX2_shown_13 ?_
  refine fb_roI X I (fb_runSN (As := [.int (l1 &&& (4095 : Int32)), .int (((zs).2.2.2.2.2).1 2)]) (rest := [.ref (zq 1)]) X I hl (c_X11_placeOf l D cI cJ (l1 &&& (4095 : Int32)) (((zs).2.2.2.2.2).1 2) _) fw_1116 rfl rfl (List.mem_of_getElem? (i := 28) rfl) fw_191 fw_1115 (by decide +kernel : fb_hd yX11_placeOf 2) ⟨Nat.le_of_ble_eq_true rfl, Nat.le_of_ble_eq_true rfl⟩ [] (by decide) rfl rfl rfl (Nat.le_of_ble_eq_true rfl) ⟨Nat.zero_le _, Nat.zero_le _⟩ dX2_shown_16) ?_
  refine fb_roI X I (fb_runSN (As := [.ref (zq 1), .int (f_X11_placeOf (l1 &&& (4095 : Int32)) (((zs).2.2.2.2.2).1 2))]) (rest := []) X I hl (c_X11_at l D cI cJ (zq 1) 11008 ((zs).2.1) (f_X11_placeOf (l1 &&& (4095 : Int32)) (((zs).2.2.2.2.2).1 2)) _ (by decide)) fw_686 rfl rfl (List.mem_of_getElem? (i := 9) rfl) fw_191 fw_685 (by decide +kernel : fb_hd yX11_at 2) ⟨Nat.le_of_ble_eq_true rfl, Nat.le_of_ble_eq_true rfl⟩ [1] (by decide) rfl rfl rfl (Nat.le_of_ble_eq_true rfl) ⟨Nat.zero_le _, Nat.zero_le _⟩ dX2_shown_19) ?_
  exact fb_retRI X E rfl dX2_shown_22
set_option maxHeartbeats 4000000 in
set_option maxRecDepth 100000 in
theorem c_X2_shown (l : Launch) (D : va_G) (cI cJ : ClassId) (zq : Nat → Nat) (zs : fb_MS) (zw : fb_AR) (l1 : Int32) (sz : Nat)  : Met l yX2_shown (Cond.code yX2_shown cX2_shown 2 (some .int) :: fb_all) ({ frames := 1, cells := 0, slots := 0, locals := 21 } : Room) (fb_PP D (fb_ty D cI cJ) [.ref (zq 0), .int l1] ((fb_mw cI zq zs zw)) sz) (vp_Si (fun r => r = ((f_X2_shown zs l1)))) 0 0 (fun _ => False) := by
  refine fb_entR (by decide +kernel) (Nat.le_of_ble_eq_true rfl) ?_
  intro p e s m args below meth c A ls X I hl hin
  exact b_X2_shown_0 X  I hl rfl
/-! X2_wordAt -/
def f_X2_wordAt (zs : fb_MS) (l1 : Int32) : Int32 := ((f_X2_shown zs l1) + ((256 : Int32) * (f_X2_shown zs (l1 + (1 : Int32)))))
set_option maxHeartbeats 4000000 in
set_option maxRecDepth 100000 in
theorem b_X2_wordAt_0 {p : Program} {l : Launch} {e : Env} {s : State} {m : MethodId} {args : Array Value} {below : List Frame} {meth : Method} {c : Code} {D : va_G} {cI cJ : ClassId} {A : Nat → Prop} {zq : Nat → Nat} {z : Int32} (X : fb_Bx p s m args meth c cX2_wordAt RX2 2 (some .int) D (fb_ty D cI cJ) A) {zs : fb_MS} {zw : fb_AR} {l1 : Int32} {ls : Array Slot}  (I : fb_In D A s.heap ((fb_mw cI zq zs zw)) s.heap []) (hl : lv_has ls 2 [(0, .ref (zq 0)), (1, .int l1)]) (E : z = f_X2_wordAt zs l1) : W p l e ({ frames := 2, cells := 0, slots := 0, locals := 42 } : Room) s m args below meth c s.heap [] 0 0 (MQ below (vp_Si (fun r => r = z)) args s 0 0 (fun _ => False)) (F0 m 0 ls []) := by
  obtain ⟨hx, hb, hr, hml, hown, hts, hlk, hA, hK, hF⟩ := id X
  refine lv_aload_n hx hb dX2_wordAt_0 rfl (lv_at hl 0 rfl) ?_
  refine lv_iload_n hx hb dX2_wordAt_1 rfl (lv_at hl 1 rfl) ?_
  refine fb_roI X I (fb_runV (As := [.int l1]) (rest := []) (q0 := 0) X I hl (c_X2_shown l D cI cJ zq zs zw l1 _) (fb_goodV fw_1224 fw_1225 fw_1226 fw_198 fw_1227) rfl rfl rfl (by decide +kernel : fb_hd yX2_shown 1) ⟨Nat.le_of_ble_eq_true rfl, Nat.le_of_ble_eq_true rfl⟩ [0, 1, 2, 3, 4, 5, 6, 7] (by decide) rfl rfl rfl rfl rfl rfl (Nat.le_of_ble_eq_true rfl) ⟨Nat.zero_le _, Nat.zero_le _⟩ dX2_wordAt_2) ?_
  refine lv_sipush (v := (256 : Int32)) hx hb dX2_wordAt_5 (by decide) ?_
  refine lv_aload_n hx hb dX2_wordAt_8 rfl (lv_at hl 0 rfl) ?_
  refine lv_iload_n hx hb dX2_wordAt_9 rfl (lv_at hl 1 rfl) ?_
  refine lv_iconst (v := (1 : Int32)) hx hb dX2_wordAt_10 (by decide) ?_
  refine lv_iadd hx hb dX2_wordAt_11 ?_
  refine fb_roI X I (fb_runV (As := [.int (l1 + (1 : Int32))]) (rest := [.int (256 : Int32), .int (f_X2_shown zs l1)]) (q0 := 0) X I hl (c_X2_shown l D cI cJ zq zs zw (l1 + (1 : Int32)) _) (fb_goodV fw_1224 fw_1225 fw_1226 fw_198 fw_1227) rfl rfl rfl (by decide +kernel : fb_hd yX2_shown 1) ⟨Nat.le_of_ble_eq_true rfl, Nat.le_of_ble_eq_true rfl⟩ [0, 1, 2, 3, 4, 5, 6, 7] (by decide) rfl rfl rfl rfl rfl rfl (Nat.le_of_ble_eq_true rfl) ⟨Nat.zero_le _, Nat.zero_le _⟩ dX2_wordAt_12) ?_
  refine lv_imul hx hb dX2_wordAt_15 ?_
  refine lv_iadd hx hb dX2_wordAt_16 ?_
  exact fb_retRI X E rfl dX2_wordAt_17
set_option maxHeartbeats 4000000 in
set_option maxRecDepth 100000 in
theorem c_X2_wordAt (l : Launch) (D : va_G) (cI cJ : ClassId) (zq : Nat → Nat) (zs : fb_MS) (zw : fb_AR) (l1 : Int32) (sz : Nat)  : Met l yX2_wordAt (Cond.code yX2_wordAt cX2_wordAt 2 (some .int) :: fb_all) ({ frames := 2, cells := 0, slots := 0, locals := 42 } : Room) (fb_PP D (fb_ty D cI cJ) [.ref (zq 0), .int l1] ((fb_mw cI zq zs zw)) sz) (vp_Si (fun r => r = ((f_X2_wordAt zs l1)))) 0 0 (fun _ => False) := by
  refine fb_entR (by decide +kernel) (Nat.le_of_ble_eq_true rfl) ?_
  intro p e s m args below meth c A ls X I hl hin
  exact b_X2_wordAt_0 X  I hl rfl
/-! X2_vector -/
def f_X2_vector (zs : fb_MS) (l1 : Int32) : Int32 := (((f_X11_at 11008 ((zs).2.1) ((10992 : Int32) + ((2 : Int32) * l1))) + ((256 : Int32) * (f_X11_at 11008 ((zs).2.1) (((10992 : Int32) + ((2 : Int32) * l1)) + (1 : Int32))))) &&& (4095 : Int32))
set_option maxHeartbeats 4000000 in
set_option maxRecDepth 100000 in
theorem b_X2_vector_0 {p : Program} {l : Launch} {e : Env} {s : State} {m : MethodId} {args : Array Value} {below : List Frame} {meth : Method} {c : Code} {D : va_G} {cI cJ : ClassId} {A : Nat → Prop} {zq : Nat → Nat} {z : Int32} (X : fb_Bx p s m args meth c cX2_vector RX2 3 (some .int) D (fb_ty D cI cJ) A) {zs : fb_MS} {zw : fb_AR} {l1 : Int32} {ls : Array Slot}  (I : fb_In D A s.heap ((fb_mw cI zq zs zw)) s.heap []) (hl : lv_has ls 3 [(0, .ref (zq 0)), (1, .int l1)]) (E : z = f_X2_vector zs l1) : W p l e ({ frames := 1, cells := 0, slots := 0, locals := 21 } : Room) s m args below meth c s.heap [] 0 0 (MQ below (vp_Si (fun r => r = z)) args s 0 0 (fun _ => False)) (F0 m 0 ls []) := by
  obtain ⟨hx, hb, hr, hml, hown, hts, hlk, hA, hK, hF⟩ := id X
  refine lv_sipush (v := (10992 : Int32)) hx hb dX2_vector_0 (by decide) ?_
  refine lv_iconst (v := (2 : Int32)) hx hb dX2_vector_3 (by decide) ?_
  refine lv_iload_n hx hb dX2_vector_4 rfl (lv_at hl 1 rfl) ?_
  refine lv_imul hx hb dX2_vector_5 ?_
  refine lv_iadd hx hb dX2_vector_6 ?_
  refine lv_istore_n (lv' := [(2, .int ((10992 : Int32) + ((2 : Int32) * l1))), (0, .ref (zq 0)), (1, .int l1)]) hx hb dX2_vector_7 rfl hl (by decide) rfl (fun ls hl => ?_)
  refine lv_aload_n hx hb dX2_vector_8 rfl (lv_at hl 1 rfl) ?_
  refine fb_get X I (k := 0) fu_X2 0 rfl rfl (Nat.le_of_ble_eq_true rfl) fw_514 rfl rfl dX2_vector_9 ?_
  refine lv_iload_n hx hb dX2_vector_12 rfl (lv_at hl 0 rfl) ?_
  refine fb_roI X I (fb_runSN (As := [.ref (zq 1), .int ((10992 : Int32) + ((2 : Int32) * l1))]) (rest := []) X I hl (c_X11_at l D cI cJ (zq 1) 11008 ((zs).2.1) ((10992 : Int32) + ((2 : Int32) * l1)) _ (by decide)) fw_686 rfl rfl (List.mem_of_getElem? (i := 9) rfl) fw_191 fw_685 (by decide +kernel : fb_hd yX11_at 2) ⟨Nat.le_of_ble_eq_true rfl, Nat.le_of_ble_eq_true rfl⟩ [1] (by decide) rfl rfl rfl (Nat.le_of_ble_eq_true rfl) ⟨Nat.zero_le _, Nat.zero_le _⟩ dX2_vector_13) ?_
  refine lv_sipush (v := (256 : Int32)) hx hb dX2_vector_16 (by decide) ?_
  refine lv_aload_n hx hb dX2_vector_19 rfl (lv_at hl 1 rfl) ?_
  refine fb_get X I (k := 0) fu_X2 0 rfl rfl (Nat.le_of_ble_eq_true rfl) fw_514 rfl rfl dX2_vector_20 ?_
  refine lv_iload_n hx hb dX2_vector_23 rfl (lv_at hl 0 rfl) ?_
  refine lv_iconst (v := (1 : Int32)) hx hb dX2_vector_24 (by decide) ?_
  refine lv_iadd hx hb dX2_vector_25 ?_
  refine fb_roI X I (fb_runSN (As := [.ref (zq 1), .int (((10992 : Int32) + ((2 : Int32) * l1)) + (1 : Int32))]) (rest := [.int (256 : Int32), .int (f_X11_at 11008 ((zs).2.1) ((10992 : Int32) + ((2 : Int32) * l1)))]) X I hl (c_X11_at l D cI cJ (zq 1) 11008 ((zs).2.1) (((10992 : Int32) + ((2 : Int32) * l1)) + (1 : Int32)) _ (by decide)) fw_686 rfl rfl (List.mem_of_getElem? (i := 9) rfl) fw_191 fw_685 (by decide +kernel : fb_hd yX11_at 2) ⟨Nat.le_of_ble_eq_true rfl, Nat.le_of_ble_eq_true rfl⟩ [1] (by decide) rfl rfl rfl (Nat.le_of_ble_eq_true rfl) ⟨Nat.zero_le _, Nat.zero_le _⟩ dX2_vector_26) ?_
  refine lv_imul hx hb dX2_vector_29 ?_
  refine lv_iadd hx hb dX2_vector_30 ?_
  refine lv_sipush (v := (4095 : Int32)) hx hb dX2_vector_31 (by decide) ?_
  refine lv_iand hx hb dX2_vector_34 ?_
  exact fb_retRI X E rfl dX2_vector_35
set_option maxHeartbeats 4000000 in
set_option maxRecDepth 100000 in
theorem c_X2_vector (l : Launch) (D : va_G) (cI cJ : ClassId) (zq : Nat → Nat) (zs : fb_MS) (zw : fb_AR) (l1 : Int32) (sz : Nat)  : Met l yX2_vector (Cond.code yX2_vector cX2_vector 3 (some .int) :: fb_all) ({ frames := 1, cells := 0, slots := 0, locals := 21 } : Room) (fb_PP D (fb_ty D cI cJ) [.ref (zq 0), .int l1] ((fb_mw cI zq zs zw)) sz) (vp_Si (fun r => r = ((f_X2_vector zs l1)))) 0 0 (fun _ => False) := by
  refine fb_entR (by decide +kernel) (Nat.le_of_ble_eq_true rfl) ?_
  intro p e s m args below meth c A ls X I hl hin
  exact b_X2_vector_0 X  I hl rfl
/-! X2_operand -/
def f_X2_operand (zs : fb_MS) (l1 : Int32) : Int32 := (if (2 : Int32) ≤ (f_X11_lengthOf (f_X2_shown zs l1)) then (if (f_X2_shown zs l1) < (208 : Int32) then (if (f_X11_lengthOf (f_X2_shown zs l1)) = (2 : Int32) then (f_X2_shown zs (l1 + (1 : Int32))) else (f_X2_wordAt zs (l1 + (1 : Int32)))) else (((l1 + (2 : Int32)) + (f_X11_signed (f_X2_shown zs (l1 + (1 : Int32))))) &&& (4095 : Int32))) else (-1 : Int32))
set_option maxHeartbeats 4000000 in
set_option maxRecDepth 100000 in
theorem b_X2_operand_0 {p : Program} {l : Launch} {e : Env} {s : State} {m : MethodId} {args : Array Value} {below : List Frame} {meth : Method} {c : Code} {D : va_G} {cI cJ : ClassId} {A : Nat → Prop} {zq : Nat → Nat} {z : Int32} (X : fb_Bx p s m args meth c cX2_operand RX2 4 (some .int) D (fb_ty D cI cJ) A) {zs : fb_MS} {zw : fb_AR} {l1 : Int32} {ls : Array Slot}  (I : fb_In D A s.heap ((fb_mw cI zq zs zw)) s.heap []) (hl : lv_has ls 4 [(0, .ref (zq 0)), (1, .int l1)]) (E : z = f_X2_operand zs l1) : W p l e ({ frames := 3, cells := 0, slots := 0, locals := 63 } : Room) s m args below meth c s.heap [] 0 0 (MQ below (vp_Si (fun r => r = z)) args s 0 0 (fun _ => False)) (F0 m 0 ls []) := by
  obtain ⟨hx, hb, hr, hml, hown, hts, hlk, hA, hK, hF⟩ := id X
  refine lv_aload_n hx hb dX2_operand_0 rfl (lv_at hl 0 rfl) ?_
  refine lv_iload_n hx hb dX2_operand_1 rfl (lv_at hl 1 rfl) ?_
  refine fb_roI X I (fb_runV (As := [.int l1]) (rest := []) (q0 := 0) X I hl (c_X2_shown l D cI cJ zq zs zw l1 _) (fb_goodV fw_1224 fw_1225 fw_1226 fw_198 fw_1227) rfl rfl rfl (by decide +kernel : fb_hd yX2_shown 1) ⟨Nat.le_of_ble_eq_true rfl, Nat.le_of_ble_eq_true rfl⟩ [0, 1, 2, 3, 4, 5, 6, 7] (by decide) rfl rfl rfl rfl rfl rfl (Nat.le_of_ble_eq_true rfl) ⟨Nat.zero_le _, Nat.zero_le _⟩ dX2_operand_2) ?_
  refine lv_istore_n (lv' := [(2, .int (f_X2_shown zs l1)), (0, .ref (zq 0)), (1, .int l1)]) hx hb dX2_operand_5 rfl hl (by decide) rfl (fun ls hl => ?_)
  refine lv_iload_n hx hb dX2_operand_6 rfl (lv_at hl 0 rfl) ?_
  refine fb_roI X I (fb_runSN (As := [.int (f_X2_shown zs l1)]) (rest := []) X I hl (c_X11_lengthOf l D cI cJ (f_X2_shown zs l1) _) fw_1059 rfl rfl (List.mem_of_getElem? (i := 29) rfl) fw_191 fw_1058 (by decide +kernel : fb_hd yX11_lengthOf 1) ⟨Nat.le_of_ble_eq_true rfl, Nat.le_of_ble_eq_true rfl⟩ [] (by decide) rfl rfl rfl (Nat.le_of_ble_eq_true rfl) ⟨Nat.zero_le _, Nat.zero_le _⟩ dX2_operand_7) ?_
  refine lv_istore_n (lv' := [(3, .int (f_X11_lengthOf (f_X2_shown zs l1))), (2, .int (f_X2_shown zs l1)), (0, .ref (zq 0)), (1, .int l1)]) hx hb dX2_operand_10 rfl hl (by decide) rfl (fun ls hl => ?_)
  refine lv_iload_n hx hb dX2_operand_11 rfl (lv_at hl 0 rfl) ?_
  refine lv_iconst (v := (2 : Int32)) hx hb dX2_operand_12 (by decide) ?_
  refine lv_icmp_ge (tgt := 18) hx hb dX2_operand_13 (by decide) (fun c1 => ?_) (fun c1 => ?_)
  · have E2 := (E.trans (if_pos c1))
    refine lv_iload_n hx hb dX2_operand_18 rfl (lv_at hl 1 rfl) ?_
    refine lv_sipush (v := (208 : Int32)) hx hb dX2_operand_19 (by decide) ?_
    refine lv_icmp_lt (tgt := 44) hx hb dX2_operand_22 (by decide) (fun c4 => ?_) (fun c4 => ?_)
    · have E5 := (E2.trans (if_pos c4))
      refine lv_iload_n hx hb dX2_operand_44 rfl (lv_at hl 0 rfl) ?_
      refine lv_iconst (v := (2 : Int32)) hx hb dX2_operand_45 (by decide) ?_
      refine lv_icmp_ne (tgt := 59) hx hb dX2_operand_46 (by decide) (fun c7 => ?_) (fun c7 => ?_)
      · have E8 := (E5.trans (if_neg c7))
        refine lv_aload_n hx hb dX2_operand_59 rfl (lv_at hl 2 rfl) ?_
        refine lv_iload_n hx hb dX2_operand_60 rfl (lv_at hl 3 rfl) ?_
        refine lv_iconst (v := (1 : Int32)) hx hb dX2_operand_61 (by decide) ?_
        refine lv_iadd hx hb dX2_operand_62 ?_
        refine fb_roI X I (fb_runV (As := [.int (l1 + (1 : Int32))]) (rest := []) (q0 := 0) X I hl (c_X2_wordAt l D cI cJ zq zs zw (l1 + (1 : Int32)) _) (fb_goodV fw_1535 fw_1536 fw_1537 fw_198 fw_1538) rfl rfl rfl (by decide +kernel : fb_hd yX2_wordAt 1) ⟨Nat.le_of_ble_eq_true rfl, Nat.le_of_ble_eq_true rfl⟩ [0, 1, 2, 3, 4, 5, 6, 7] (by decide) rfl rfl rfl rfl rfl rfl (Nat.le_of_ble_eq_true rfl) ⟨Nat.zero_le _, Nat.zero_le _⟩ dX2_operand_63) ?_
        exact fb_retRI X E8 rfl dX2_operand_66
      · have E9 := (E5.trans (if_pos c7))
        refine lv_aload_n hx hb dX2_operand_49 rfl (lv_at hl 2 rfl) ?_
        refine lv_iload_n hx hb dX2_operand_50 rfl (lv_at hl 3 rfl) ?_
        refine lv_iconst (v := (1 : Int32)) hx hb dX2_operand_51 (by decide) ?_
        refine lv_iadd hx hb dX2_operand_52 ?_
        refine fb_roI X I (fb_runV (As := [.int (l1 + (1 : Int32))]) (rest := []) (q0 := 0) X I hl (c_X2_shown l D cI cJ zq zs zw (l1 + (1 : Int32)) _) (fb_goodV fw_1224 fw_1225 fw_1226 fw_198 fw_1227) rfl rfl rfl (by decide +kernel : fb_hd yX2_shown 1) ⟨Nat.le_of_ble_eq_true rfl, Nat.le_of_ble_eq_true rfl⟩ [0, 1, 2, 3, 4, 5, 6, 7] (by decide) rfl rfl rfl rfl rfl rfl (Nat.le_of_ble_eq_true rfl) ⟨Nat.zero_le _, Nat.zero_le _⟩ dX2_operand_53) ?_
        refine lv_goto (tgt := 66) hx hb dX2_operand_56 (by decide) ?_
        exact fb_retRI X E9 rfl dX2_operand_66
    · have E6 := (E2.trans (if_neg c4))
      refine lv_iload_n hx hb dX2_operand_25 rfl (lv_at hl 3 rfl) ?_
      refine lv_iconst (v := (2 : Int32)) hx hb dX2_operand_26 (by decide) ?_
      refine lv_iadd hx hb dX2_operand_27 ?_
      refine lv_aload_n hx hb dX2_operand_28 rfl (lv_at hl 2 rfl) ?_
      refine lv_iload_n hx hb dX2_operand_29 rfl (lv_at hl 3 rfl) ?_
      refine lv_iconst (v := (1 : Int32)) hx hb dX2_operand_30 (by decide) ?_
      refine lv_iadd hx hb dX2_operand_31 ?_
      refine fb_roI X I (fb_runV (As := [.int (l1 + (1 : Int32))]) (rest := [.int (l1 + (2 : Int32))]) (q0 := 0) X I hl (c_X2_shown l D cI cJ zq zs zw (l1 + (1 : Int32)) _) (fb_goodV fw_1224 fw_1225 fw_1226 fw_198 fw_1227) rfl rfl rfl (by decide +kernel : fb_hd yX2_shown 1) ⟨Nat.le_of_ble_eq_true rfl, Nat.le_of_ble_eq_true rfl⟩ [0, 1, 2, 3, 4, 5, 6, 7] (by decide) rfl rfl rfl rfl rfl rfl (Nat.le_of_ble_eq_true rfl) ⟨Nat.zero_le _, Nat.zero_le _⟩ dX2_operand_32) ?_
      refine fb_roI X I (fb_runSN (As := [.int (f_X2_shown zs (l1 + (1 : Int32)))]) (rest := [.int (l1 + (2 : Int32))]) X I hl (c_X11_signed l D cI cJ (f_X2_shown zs (l1 + (1 : Int32))) _) fw_1290 rfl rfl (List.mem_of_getElem? (i := 30) rfl) fw_191 fw_1289 (by decide +kernel : fb_hd yX11_signed 1) ⟨Nat.le_of_ble_eq_true rfl, Nat.le_of_ble_eq_true rfl⟩ [] (by decide) rfl rfl rfl (Nat.le_of_ble_eq_true rfl) ⟨Nat.zero_le _, Nat.zero_le _⟩ dX2_operand_35) ?_
      refine lv_iadd hx hb dX2_operand_38 ?_
      refine lv_sipush (v := (4095 : Int32)) hx hb dX2_operand_39 (by decide) ?_
      refine lv_iand hx hb dX2_operand_42 ?_
      exact fb_retRI X E6 rfl dX2_operand_43
  · have E3 := (E.trans (if_neg c1))
    refine lv_iconst (v := (-1 : Int32)) hx hb dX2_operand_16 (by decide) ?_
    exact fb_retRI X E3 rfl dX2_operand_17
set_option maxHeartbeats 4000000 in
set_option maxRecDepth 100000 in
theorem c_X2_operand (l : Launch) (D : va_G) (cI cJ : ClassId) (zq : Nat → Nat) (zs : fb_MS) (zw : fb_AR) (l1 : Int32) (sz : Nat)  : Met l yX2_operand (Cond.code yX2_operand cX2_operand 4 (some .int) :: fb_all) ({ frames := 3, cells := 0, slots := 0, locals := 63 } : Room) (fb_PP D (fb_ty D cI cJ) [.ref (zq 0), .int l1] ((fb_mw cI zq zs zw)) sz) (vp_Si (fun r => r = ((f_X2_operand zs l1)))) 0 0 (fun _ => False) := by
  refine fb_entR (by decide +kernel) (Nat.le_of_ble_eq_true rfl) ?_
  intro p e s m args below meth c A ls X I hl hin
  exact b_X2_operand_0 X  I hl rfl
