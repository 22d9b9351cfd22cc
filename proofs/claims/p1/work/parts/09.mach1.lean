/-! X2_endReason -/
def f_X2_endReason (zs : fb_MS) : Int32 := (if ((zs).1 10) = (2 : Int32) then (4 : Int32) else (if ((zs).1 10) = (3 : Int32) then (5 : Int32) else (0 : Int32)))
set_option maxHeartbeats 4000000 in
set_option maxRecDepth 100000 in
theorem b_X2_endReason_0 {p : Program} {l : Launch} {e : Env} {s : State} {m : MethodId} {args : Array Value} {below : List Frame} {meth : Method} {c : Code} {D : va_G} {cI cJ : ClassId} {A : Nat → Prop} {zq : Nat → Nat} {z : Int32} (X : fb_Bx p s m args meth c cX2_endReason RX2 1 (some .int) D (fb_ty D cI cJ) A) {zs : fb_MS} {zw : fb_AR} {ls : Array Slot}  (I : fb_In D A s.heap ((fb_mw cI zq zs zw)) s.heap []) (hl : lv_has ls 1 [(0, .ref (zq 0))]) (E : z = f_X2_endReason zs) : W p l e ({ frames := 0, cells := 0, slots := 0, locals := 0 } : Room) s m args below meth c s.heap [] 0 0 (MQ below (vp_Si (fun r => r = z)) args s 0 0 (fun _ => False)) (F0 m 0 ls []) := by
  obtain ⟨hx, hb, hr, hml, hown, hts, hlk, hA, hK, hF⟩ := id X
  refine lv_aload_n hx hb dX2_endReason_0 rfl (lv_at hl 0 rfl) ?_
  refine fb_get X I (k := 10) fu_X2 0 rfl rfl (Nat.le_of_ble_eq_true rfl) fw_535 rfl rfl dX2_endReason_1 ?_
  refine lv_iconst (v := (2 : Int32)) hx hb dX2_endReason_4 (by decide) ?_
  refine lv_icmp_ne (tgt := 12) hx hb dX2_endReason_5 (by decide) (fun c1 => ?_) (fun c1 => ?_)
  · have E2 := (E.trans (if_neg c1))
    refine lv_aload_n hx hb dX2_endReason_12 rfl (lv_at hl 0 rfl) ?_
    refine fb_get X I (k := 10) fu_X2 0 rfl rfl (Nat.le_of_ble_eq_true rfl) fw_535 rfl rfl dX2_endReason_13 ?_
    refine lv_iconst (v := (3 : Int32)) hx hb dX2_endReason_16 (by decide) ?_
    refine lv_icmp_ne (tgt := 24) hx hb dX2_endReason_17 (by decide) (fun c4 => ?_) (fun c4 => ?_)
    · have E5 := (E2.trans (if_neg c4))
      refine lv_iconst (v := (0 : Int32)) hx hb dX2_endReason_24 (by decide) ?_
      exact fb_retRI X E5 rfl dX2_endReason_25
    · have E6 := (E2.trans (if_pos c4))
      refine lv_iconst (v := (5 : Int32)) hx hb dX2_endReason_20 (by decide) ?_
      refine lv_goto (tgt := 25) hx hb dX2_endReason_21 (by decide) ?_
      exact fb_retRI X E6 rfl dX2_endReason_25
  · have E3 := (E.trans (if_pos c1))
    refine lv_iconst (v := (4 : Int32)) hx hb dX2_endReason_8 (by decide) ?_
    refine lv_goto (tgt := 25) hx hb dX2_endReason_9 (by decide) ?_
    exact fb_retRI X E3 rfl dX2_endReason_25
set_option maxHeartbeats 4000000 in
set_option maxRecDepth 100000 in
theorem c_X2_endReason (l : Launch) (D : va_G) (cI cJ : ClassId) (zq : Nat → Nat) (zs : fb_MS) (zw : fb_AR)  (sz : Nat)  : Met l yX2_endReason (Cond.code yX2_endReason cX2_endReason 1 (some .int) :: fb_all) ({ frames := 0, cells := 0, slots := 0, locals := 0 } : Room) (fb_PP D (fb_ty D cI cJ) [.ref (zq 0)] ((fb_mw cI zq zs zw)) sz) (vp_Si (fun r => r = ((f_X2_endReason zs)))) 0 0 (fun _ => False) := by
  refine fb_entR (by decide +kernel) (Nat.le_of_ble_eq_true rfl) ?_
  intro p e s m args below meth c A ls X I hl hin
  exact b_X2_endReason_0 X  I hl rfl
/-! X2_isReady -/
def f_X2_isReady (zs : fb_MS) : Int32 := (if ((zs).1 10) = 0 then (if (fb_bI (zs).2.2.2.2.1) = 0 then (if (((zs).1 8) &&& (4 : Int32)) = 0 then (if (f_X5_wanting (zs).2.2.2.2.2) = 0 then (1 : Int32) else (0 : Int32)) else (1 : Int32)) else (0 : Int32)) else (0 : Int32))
set_option maxHeartbeats 4000000 in
set_option maxRecDepth 100000 in
theorem b_X2_isReady_0 {p : Program} {l : Launch} {e : Env} {s : State} {m : MethodId} {args : Array Value} {below : List Frame} {meth : Method} {c : Code} {D : va_G} {cI cJ : ClassId} {A : Nat → Prop} {zq : Nat → Nat} {z : Int32} (X : fb_Bx p s m args meth c cX2_isReady RX2 1 (some .boolean) D (fb_ty D cI cJ) A) {zs : fb_MS} {zw : fb_AR} {ls : Array Slot}  (I : fb_In D A s.heap ((fb_mw cI zq zs zw)) s.heap []) (hl : lv_has ls 1 [(0, .ref (zq 0))]) (E : z = f_X2_isReady zs) : W p l e ({ frames := 1, cells := 0, slots := 0, locals := 20 } : Room) s m args below meth c s.heap [] 0 0 (MQ below (vp_Si (fun r => r = z)) args s 0 0 (fun _ => False)) (F0 m 0 ls []) := by
  obtain ⟨hx, hb, hr, hml, hown, hts, hlk, hA, hK, hF⟩ := id X
  refine lv_aload_n hx hb dX2_isReady_0 rfl (lv_at hl 0 rfl) ?_
  refine fb_get X I (k := 10) fu_X2 0 rfl rfl (Nat.le_of_ble_eq_true rfl) fw_535 rfl rfl dX2_isReady_1 ?_
  refine lv_if_ne (tgt := 37) hx hb dX2_isReady_4 (by decide) (fun c1 => ?_) (fun c1 => ?_)
  · have E2 := (E.trans (if_neg c1))
    refine lv_iconst (v := (0 : Int32)) hx hb dX2_isReady_37 (by decide) ?_
    exact fb_retRI X E2 rfl dX2_isReady_38
  · have E3 := (E.trans (if_pos c1))
    refine lv_aload_n hx hb dX2_isReady_7 rfl (lv_at hl 0 rfl) ?_
    refine fb_get X I (k := 16) fu_X2 0 rfl rfl (Nat.le_of_ble_eq_true rfl) fw_546 rfl rfl dX2_isReady_8 ?_
    refine lv_if_ne (tgt := 37) hx hb dX2_isReady_11 (by decide) (fun c4 => ?_) (fun c4 => ?_)
    · have E5 := (E3.trans (if_neg c4))
      refine lv_iconst (v := (0 : Int32)) hx hb dX2_isReady_37 (by decide) ?_
      exact fb_retRI X E5 rfl dX2_isReady_38
    · have E6 := (E3.trans (if_pos c4))
      refine lv_aload_n hx hb dX2_isReady_14 rfl (lv_at hl 0 rfl) ?_
      refine fb_get X I (k := 8) fu_X2 0 rfl rfl (Nat.le_of_ble_eq_true rfl) fw_530 rfl rfl dX2_isReady_15 ?_
      refine lv_iconst (v := (4 : Int32)) hx hb dX2_isReady_18 (by decide) ?_
      refine lv_iand hx hb dX2_isReady_19 ?_
      refine lv_if_ne (tgt := 33) hx hb dX2_isReady_20 (by decide) (fun c7 => ?_) (fun c7 => ?_)
      · have E8 := (E6.trans (if_neg c7))
        refine lv_iconst (v := (1 : Int32)) hx hb dX2_isReady_33 (by decide) ?_
        refine lv_goto (tgt := 38) hx hb dX2_isReady_34 (by decide) ?_
        exact fb_retRI X E8 rfl dX2_isReady_38
      · have E9 := (E6.trans (if_pos c7))
        refine lv_aload_n hx hb dX2_isReady_23 rfl (lv_at hl 0 rfl) ?_
        refine fb_get X I (k := 4) fu_X2 0 rfl rfl (Nat.le_of_ble_eq_true rfl) fw_522 rfl rfl dX2_isReady_24 ?_
        refine fb_roI X I (fb_runV (As := []) (rest := []) (q0 := 5) X I hl (c_X5_wanting l D cI cJ zq (zs).2.2.2.2.2 _) (fb_goodV fw_1190 fw_1191 fw_1192 fw_199 fw_1193) rfl rfl rfl (by decide +kernel : fb_hd yX5_wanting 0) ⟨Nat.le_of_ble_eq_true rfl, Nat.le_of_ble_eq_true rfl⟩ [5, 6, 7] (by decide) rfl rfl rfl rfl rfl rfl (Nat.le_of_ble_eq_true rfl) ⟨Nat.zero_le _, Nat.zero_le _⟩ dX2_isReady_27) ?_
        refine lv_if_ne (tgt := 37) hx hb dX2_isReady_30 (by decide) (fun c10 => ?_) (fun c10 => ?_)
        · have E11 := (E9.trans (if_neg c10))
          refine lv_iconst (v := (0 : Int32)) hx hb dX2_isReady_37 (by decide) ?_
          exact fb_retRI X E11 rfl dX2_isReady_38
        · have E12 := (E9.trans (if_pos c10))
          refine lv_iconst (v := (1 : Int32)) hx hb dX2_isReady_33 (by decide) ?_
          refine lv_goto (tgt := 38) hx hb dX2_isReady_34 (by decide) ?_
          exact fb_retRI X E12 rfl dX2_isReady_38
set_option maxHeartbeats 4000000 in
set_option maxRecDepth 100000 in
theorem c_X2_isReady (l : Launch) (D : va_G) (cI cJ : ClassId) (zq : Nat → Nat) (zs : fb_MS) (zw : fb_AR)  (sz : Nat)  : Met l yX2_isReady (Cond.code yX2_isReady cX2_isReady 1 (some .boolean) :: fb_all) ({ frames := 1, cells := 0, slots := 0, locals := 20 } : Room) (fb_PP D (fb_ty D cI cJ) [.ref (zq 0)] ((fb_mw cI zq zs zw)) sz) (vp_Si (fun r => r = ((f_X2_isReady zs)))) 0 0 (fun _ => False) := by
  refine fb_entR (by decide +kernel) (Nat.le_of_ble_eq_true rfl) ?_
  intro p e s m args below meth c A ls X I hl hin
  exact b_X2_isReady_0 X  I hl rfl
/-! X2_isReadyAt -/
def f_X2_isReadyAt (zs : fb_MS) (l1 : Int32) : Int32 := (if ((zs).1 9) = l1 then (if (f_X2_isReady zs) = 0 then (0 : Int32) else (1 : Int32)) else (0 : Int32))
set_option maxHeartbeats 4000000 in
set_option maxRecDepth 100000 in
theorem b_X2_isReadyAt_0 {p : Program} {l : Launch} {e : Env} {s : State} {m : MethodId} {args : Array Value} {below : List Frame} {meth : Method} {c : Code} {D : va_G} {cI cJ : ClassId} {A : Nat → Prop} {zq : Nat → Nat} {z : Int32} (X : fb_Bx p s m args meth c cX2_isReadyAt RX2 2 (some .boolean) D (fb_ty D cI cJ) A) {zs : fb_MS} {zw : fb_AR} {l1 : Int32} {ls : Array Slot}  (I : fb_In D A s.heap ((fb_mw cI zq zs zw)) s.heap []) (hl : lv_has ls 2 [(0, .ref (zq 0)), (1, .int l1)]) (E : z = f_X2_isReadyAt zs l1) : W p l e ({ frames := 2, cells := 0, slots := 0, locals := 40 } : Room) s m args below meth c s.heap [] 0 0 (MQ below (vp_Si (fun r => r = z)) args s 0 0 (fun _ => False)) (F0 m 0 ls []) := by
  obtain ⟨hx, hb, hr, hml, hown, hts, hlk, hA, hK, hF⟩ := id X
  refine lv_aload_n hx hb dX2_isReadyAt_0 rfl (lv_at hl 0 rfl) ?_
  refine fb_get X I (k := 9) fu_X2 0 rfl rfl (Nat.le_of_ble_eq_true rfl) fw_533 rfl rfl dX2_isReadyAt_1 ?_
  refine lv_iload_n hx hb dX2_isReadyAt_4 rfl (lv_at hl 1 rfl) ?_
  refine lv_icmp_ne (tgt := 19) hx hb dX2_isReadyAt_5 (by decide) (fun c1 => ?_) (fun c1 => ?_)
  · have E2 := (E.trans (if_neg c1))
    refine lv_iconst (v := (0 : Int32)) hx hb dX2_isReadyAt_19 (by decide) ?_
    exact fb_retRI X E2 rfl dX2_isReadyAt_20
  · have E3 := (E.trans (if_pos c1))
    refine lv_aload_n hx hb dX2_isReadyAt_8 rfl (lv_at hl 0 rfl) ?_
    refine fb_roI X I (fb_runV (As := []) (rest := []) (q0 := 0) X I hl (c_X2_isReady l D cI cJ zq zs zw _) (fb_goodV fw_1907 fw_1382 fw_1383 fw_198 fw_1384) rfl rfl rfl (by decide +kernel : fb_hd yX2_isReady 0) ⟨Nat.le_of_ble_eq_true rfl, Nat.le_of_ble_eq_true rfl⟩ [0, 1, 2, 3, 4, 5, 6, 7] (by decide) rfl rfl rfl rfl rfl rfl (Nat.le_of_ble_eq_true rfl) ⟨Nat.zero_le _, Nat.zero_le _⟩ dX2_isReadyAt_9) ?_
    refine lv_if_eq (tgt := 19) hx hb dX2_isReadyAt_12 (by decide) (fun c4 => ?_) (fun c4 => ?_)
    · have E5 := (E3.trans (if_pos c4))
      refine lv_iconst (v := (0 : Int32)) hx hb dX2_isReadyAt_19 (by decide) ?_
      exact fb_retRI X E5 rfl dX2_isReadyAt_20
    · have E6 := (E3.trans (if_neg c4))
      refine lv_iconst (v := (1 : Int32)) hx hb dX2_isReadyAt_15 (by decide) ?_
      refine lv_goto (tgt := 20) hx hb dX2_isReadyAt_16 (by decide) ?_
      exact fb_retRI X E6 rfl dX2_isReadyAt_20
set_option maxHeartbeats 4000000 in
set_option maxRecDepth 100000 in
theorem c_X2_isReadyAt (l : Launch) (D : va_G) (cI cJ : ClassId) (zq : Nat → Nat) (zs : fb_MS) (zw : fb_AR) (l1 : Int32) (sz : Nat)  : Met l yX2_isReadyAt (Cond.code yX2_isReadyAt cX2_isReadyAt 2 (some .boolean) :: fb_all) ({ frames := 2, cells := 0, slots := 0, locals := 40 } : Room) (fb_PP D (fb_ty D cI cJ) [.ref (zq 0), .int l1] ((fb_mw cI zq zs zw)) sz) (vp_Si (fun r => r = ((f_X2_isReadyAt zs l1)))) 0 0 (fun _ => False) := by
  refine fb_entR (by decide +kernel) (Nat.le_of_ble_eq_true rfl) ?_
  intro p e s m args below meth c A ls X I hl hin
  exact b_X2_isReadyAt_0 X  I hl rfl
/-! X2_shown -/
def f_X2_shown (zs : fb_MS) (l1 : Int32) : Int32 := (f_X11_at 11008 ((zs).2.1) (f_X11_placeOf (l1 &&& (4095 : Int32)) (((zs).2.2.2.2.2).1 2)))
set_option maxHeartbeats 4000000 in
set_option maxRecDepth 100000 in
theorem b_X2_shown_0 {p : Program} {l : Launch} {e : Env} {s : State} {m : MethodId} {args : Array Value} {below : List Frame} {meth : Method} {c : Code} {D : va_G} {cI cJ : ClassId} {A : Nat → Prop} {zq : Nat → Nat} {z : Int32} (X : fb_Bx p s m args meth c cX2_shown RX2 2 (some .int) D (fb_ty D cI cJ) A) {zs : fb_MS} {zw : fb_AR} {l1 : Int32} {ls : Array Slot}  (I : fb_In D A s.heap ((fb_mw cI zq zs zw)) s.heap []) (hl : lv_has ls 2 [(0, .ref (zq 0)), (1, .int l1)]) (E : z = f_X2_shown zs l1) : W p l e ({ frames := 1, cells := 0, slots := 0, locals := 21 } : Room) s m args below meth c s.heap [] 0 0 (MQ below (vp_Si (fun r => r = z)) args s 0 0 (fun _ => False)) (F0 m 0 ls []) := by
  obtain ⟨hx, hb, hr, hml, hown, hts, hlk, hA, hK, hF⟩ := id X
  refine lv_aload_n hx hb dX2_shown_0 rfl (lv_at hl 0 rfl) ?_
  refine fb_get X I (k := 0) fu_X2 0 rfl rfl (Nat.le_of_ble_eq_true rfl) fw_514 rfl rfl dX2_shown_1 ?_
  refine lv_iload_n hx hb dX2_shown_4 rfl (lv_at hl 1 rfl) ?_
  refine lv_sipush (v := (4095 : Int32)) hx hb dX2_shown_5 (by decide) ?_
  refine lv_iand hx hb dX2_shown_8 ?_
  refine lv_aload_n hx hb dX2_shown_9 rfl (lv_at hl 0 rfl) ?_
  refine fb_get X I (k := 4) fu_X2 0 rfl rfl (Nat.le_of_ble_eq_true rfl) fw_522 rfl rfl dX2_shown_10 ?_
  refine fb_get X I (k := 2) fu_X5 5 rfl rfl (Nat.le_of_ble_eq_true rfl) fw_463 rfl rfl dX2_shown_13 ?_
  refine fb_roI X I (fb_runSN (As := [.int (l1 &&& (4095 : Int32)), .int (((zs).2.2.2.2.2).1 2)]) (rest := [.ref (zq 1)]) X I hl (c_X11_placeOf l D cI cJ (l1 &&& (4095 : Int32)) (((zs).2.2.2.2.2).1 2) _) fw_1116 rfl rfl (List.mem_of_getElem? (i := 28) rfl) fw_191 fw_1115 (by decide +kernel : fb_hd yX11_placeOf 2) ⟨Nat.le_of_ble_eq_true rfl, Nat.le_of_ble_eq_true rfl⟩ [] (by decide) rfl rfl rfl (Nat.le_of_ble_eq_true rfl) ⟨Nat.zero_le _, Nat.zero_le _⟩ dX2_shown_16) ?_
  refine fb_roI X I (fb_runSN (As := [.ref (zq 1), .int (f_X11_placeOf (l1 &&& (4095 : Int32)) (((zs).2.2.2.2.2).1 2))]) (rest := []) X I hl (c_X11_at l D cI cJ (zq 1) 11008 ((zs).2.1) (f_X11_placeOf (l1 &&& (4095 : Int32)) (((zs).2.2.2.2.2).1 2)) _ (by decide)) fw_686 rfl rfl (List.mem_of_getElem? (i := 9) rfl) fw_191 fw_685 (by decide +kernel : fb_hd yX11_at 2) ⟨Nat.le_of_ble_eq_true rfl, Nat.le_of_ble_eq_true rfl⟩ [1] (by decide) rfl rfl rfl (Nat.le_of_ble_eq_true rfl) ⟨Nat.zero_le _, Nat.zero_le _⟩ dX2_shown_19) ?_
  exact fb_retRI X E rfl dX2_shown_22
set_option maxHeartbeats 4000000 in
set_option maxRecDepth 100000 in
theorem c_X2_shown (l : Launch) (D : va_G) (cI cJ : ClassId) (zq : Nat → Nat) (zs : fb_MS) (zw : fb_AR) (l1 : Int32) (sz : Nat)  : Met l yX2_shown (Cond.code yX2_shown cX2_shown 2 (some .int) :: fb_all) ({ frames := 1, cells := 0, slots := 0, locals := 21 } : Room) (fb_PP D (fb_ty D cI cJ) [.ref (zq 0), .int l1] ((fb_mw cI zq zs zw)) sz) (vp_Si (fun r => r = ((f_X2_shown zs l1)))) 0 0 (fun _ => False) := by
  refine fb_entR (by decide +kernel) (Nat.le_of_ble_eq_true rfl) ?_
  intro p e s m args below meth c A ls X I hl hin
  exact b_X2_shown_0 X  I hl rfl
/-! X2_wordAt -/
def f_X2_wordAt (zs : fb_MS) (l1 : Int32) : Int32 := ((f_X2_shown zs l1) + ((256 : Int32) * (f_X2_shown zs (l1 + (1 : Int32)))))
set_option maxHeartbeats 4000000 in
set_option maxRecDepth 100000 in
theorem b_X2_wordAt_0 {p : Program} {l : Launch} {e : Env} {s : State} {m : MethodId} {args : Array Value} {below : List Frame} {meth : Method} {c : Code} {D : va_G} {cI cJ : ClassId} {A : Nat → Prop} {zq : Nat → Nat} {z : Int32} (X : fb_Bx p s m args meth c cX2_wordAt RX2 2 (some .int) D (fb_ty D cI cJ) A) {zs : fb_MS} {zw : fb_AR} {l1 : Int32} {ls : Array Slot}  (I : fb_In D A s.heap ((fb_mw cI zq zs zw)) s.heap []) (hl : lv_has ls 2 [(0, .ref (zq 0)), (1, .int l1)]) (E : z = f_X2_wordAt zs l1) : W p l e ({ frames := 2, cells := 0, slots := 0, locals := 42 } : Room) s m args below meth c s.heap [] 0 0 (MQ below (vp_Si (fun r => r = z)) args s 0 0 (fun _ => False)) (F0 m 0 ls []) := by
  obtain ⟨hx, hb, hr, hml, hown, hts, hlk, hA, hK, hF⟩ := id X
  refine lv_aload_n hx hb dX2_wordAt_0 rfl (lv_at hl 0 rfl) ?_
  refine lv_iload_n hx hb dX2_wordAt_1 rfl (lv_at hl 1 rfl) ?_
  refine fb_roI X I (fb_runV (As := [.int l1]) (rest := []) (q0 := 0) X I hl (c_X2_shown l D cI cJ zq zs zw l1 _) (fb_goodV fw_1224 fw_1225 fw_1226 fw_198 fw_1227) rfl rfl rfl (by decide +kernel : fb_hd yX2_shown 1) ⟨Nat.le_of_ble_eq_true rfl, Nat.le_of_ble_eq_true rfl⟩ [0, 1, 2, 3, 4, 5, 6, 7] (by decide) rfl rfl rfl rfl rfl rfl (Nat.le_of_ble_eq_true rfl) ⟨Nat.zero_le _, Nat.zero_le _⟩ dX2_wordAt_2) ?_
  refine lv_sipush (v := (256 : Int32)) hx hb dX2_wordAt_5 (by decide) ?_
  refine lv_aload_n hx hb dX2_wordAt_8 rfl (lv_at hl 0 rfl) ?_
  refine lv_iload_n hx hb dX2_wordAt_9 rfl (lv_at hl 1 rfl) ?_
  refine lv_iconst (v := (1 : Int32)) hx hb dX2_wordAt_10 (by decide) ?_
  refine lv_iadd hx hb dX2_wordAt_11 ?_
  refine fb_roI X I (fb_runV (As := [.int (l1 + (1 : Int32))]) (rest := [.int (256 : Int32), .int (f_X2_shown zs l1)]) (q0 := 0) X I hl (c_X2_shown l D cI cJ zq zs zw (l1 + (1 : Int32)) _) (fb_goodV fw_1224 fw_1225 fw_1226 fw_198 fw_1227) rfl rfl rfl (by decide +kernel : fb_hd yX2_shown 1) ⟨Nat.le_of_ble_eq_true rfl, Nat.le_of_ble_eq_true rfl⟩ [0, 1, 2, 3, 4, 5, 6, 7] (by decide) rfl rfl rfl rfl rfl rfl (Nat.le_of_ble_eq_true rfl) ⟨Nat.zero_le _, Nat.zero_le _⟩ dX2_wordAt_12) ?_
  refine lv_imul hx hb dX2_wordAt_15 ?_
  refine lv_iadd hx hb dX2_wordAt_16 ?_
  exact fb_retRI X E rfl dX2_wordAt_17
set_option maxHeartbeats 4000000 in
set_option maxRecDepth 100000 in
theorem c_X2_wordAt (l : Launch) (D : va_G) (cI cJ : ClassId) (zq : Nat → Nat) (zs : fb_MS) (zw : fb_AR) (l1 : Int32) (sz : Nat)  : Met l yX2_wordAt (Cond.code yX2_wordAt cX2_wordAt 2 (some .int) :: fb_all) ({ frames := 2, cells := 0, slots := 0, locals := 42 } : Room) (fb_PP D (fb_ty D cI cJ) [.ref (zq 0), .int l1] ((fb_mw cI zq zs zw)) sz) (vp_Si (fun r => r = ((f_X2_wordAt zs l1)))) 0 0 (fun _ => False) := by
  refine fb_entR (by decide +kernel) (Nat.le_of_ble_eq_true rfl) ?_
  intro p e s m args below meth c A ls X I hl hin
  exact b_X2_wordAt_0 X  I hl rfl
/-! X2_vector -/
def f_X2_vector (zs : fb_MS) (l1 : Int32) : Int32 := (((f_X11_at 11008 ((zs).2.1) ((10992 : Int32) + ((2 : Int32) * l1))) + ((256 : Int32) * (f_X11_at 11008 ((zs).2.1) (((10992 : Int32) + ((2 : Int32) * l1)) + (1 : Int32))))) &&& (4095 : Int32))
set_option maxHeartbeats 4000000 in
set_option maxRecDepth 100000 in
theorem b_X2_vector_0 {p : Program} {l : Launch} {e : Env} {s : State} {m : MethodId} {args : Array Value} {below : List Frame} {meth : Method} {c : Code} {D : va_G} {cI cJ : ClassId} {A : Nat → Prop} {zq : Nat → Nat} {z : Int32} (X : fb_Bx p s m args meth c cX2_vector RX2 3 (some .int) D (fb_ty D cI cJ) A) {zs : fb_MS} {zw : fb_AR} {l1 : Int32} {ls : Array Slot}  (I : fb_In D A s.heap ((fb_mw cI zq zs zw)) s.heap []) (hl : lv_has ls 3 [(0, .ref (zq 0)), (1, .int l1)]) (E : z = f_X2_vector zs l1) : W p l e ({ frames := 1, cells := 0, slots := 0, locals := 21 } : Room) s m args below meth c s.heap [] 0 0 (MQ below (vp_Si (fun r => r = z)) args s 0 0 (fun _ => False)) (F0 m 0 ls []) := by
  obtain ⟨hx, hb, hr, hml, hown, hts, hlk, hA, hK, hF⟩ := id X
  refine lv_sipush (v := (10992 : Int32)) hx hb dX2_vector_0 (by decide) ?_
  refine lv_iconst (v := (2 : Int32)) hx hb dX2_vector_3 (by decide) ?_
  refine lv_iload_n hx hb dX2_vector_4 rfl (lv_at hl 1 rfl) ?_
  refine lv_imul hx hb dX2_vector_5 ?_
  refine lv_iadd hx hb dX2_vector_6 ?_
  refine lv_istore_n (lv' := [(2, .int ((10992 : Int32) + ((2 : Int32) * l1))), (0, .ref (zq 0)), (1, .int l1)]) hx hb dX2_vector_7 rfl hl (by decide) rfl (fun ls hl => ?_)
  refine lv_aload_n hx hb dX2_vector_8 rfl (lv_at hl 1 rfl) ?_
  refine fb_get X I (k := 0) fu_X2 0 rfl rfl (Nat.le_of_ble_eq_true rfl) fw_514 rfl rfl dX2_vector_9 ?_
  refine lv_iload_n hx hb dX2_vector_12 rfl (lv_at hl 0 rfl) ?_
  refine fb_roI X I (fb_runSN (As := [.ref (zq 1), .int ((10992 : Int32) + ((2 : Int32) * l1))]) (rest := []) X I hl (c_X11_at l D cI cJ (zq 1) 11008 ((zs).2.1) ((10992 : Int32) + ((2 : Int32) * l1)) _ (by decide)) fw_686 rfl rfl (List.mem_of_getElem? (i := 9) rfl) fw_191 fw_685 (by decide +kernel : fb_hd yX11_at 2) ⟨Nat.le_of_ble_eq_true rfl, Nat.le_of_ble_eq_true rfl⟩ [1] (by decide) rfl rfl rfl (Nat.le_of_ble_eq_true rfl) ⟨Nat.zero_le _, Nat.zero_le _⟩ dX2_vector_13) ?_
  refine lv_sipush (v := (256 : Int32)) hx hb dX2_vector_16 (by decide) ?_
  refine lv_aload_n hx hb dX2_vector_19 rfl (lv_at hl 1 rfl) ?_
  refine fb_get X I (k := 0) fu_X2 0 rfl rfl (Nat.le_of_ble_eq_true rfl) fw_514 rfl rfl dX2_vector_20 ?_
  refine lv_iload_n hx hb dX2_vector_23 rfl (lv_at hl 0 rfl) ?_
  refine lv_iconst (v := (1 : Int32)) hx hb dX2_vector_24 (by decide) ?_
  refine lv_iadd hx hb dX2_vector_25 ?_
  refine fb_roI X I (fb_runSN (As := [.ref (zq 1), .int (((10992 : Int32) + ((2 : Int32) * l1)) + (1 : Int32))]) (rest := [.int (256 : Int32), .int (f_X11_at 11008 ((zs).2.1) ((10992 : Int32) + ((2 : Int32) * l1)))]) X I hl (c_X11_at l D cI cJ (zq 1) 11008 ((zs).2.1) (((10992 : Int32) + ((2 : Int32) * l1)) + (1 : Int32)) _ (by decide)) fw_686 rfl rfl (List.mem_of_getElem? (i := 9) rfl) fw_191 fw_685 (by decide +kernel : fb_hd yX11_at 2) ⟨Nat.le_of_ble_eq_true rfl, Nat.le_of_ble_eq_true rfl⟩ [1] (by decide) rfl rfl rfl (Nat.le_of_ble_eq_true rfl) ⟨Nat.zero_le _, Nat.zero_le _⟩ dX2_vector_26) ?_
  refine lv_imul hx hb dX2_vector_29 ?_
  refine lv_iadd hx hb dX2_vector_30 ?_
  refine lv_sipush (v := (4095 : Int32)) hx hb dX2_vector_31 (by decide) ?_
  refine lv_iand hx hb dX2_vector_34 ?_
  exact fb_retRI X E rfl dX2_vector_35
set_option maxHeartbeats 4000000 in
set_option maxRecDepth 100000 in
theorem c_X2_vector (l : Launch) (D : va_G) (cI cJ : ClassId) (zq : Nat → Nat) (zs : fb_MS) (zw : fb_AR) (l1 : Int32) (sz : Nat)  : Met l yX2_vector (Cond.code yX2_vector cX2_vector 3 (some .int) :: fb_all) ({ frames := 1, cells := 0, slots := 0, locals := 21 } : Room) (fb_PP D (fb_ty D cI cJ) [.ref (zq 0), .int l1] ((fb_mw cI zq zs zw)) sz) (vp_Si (fun r => r = ((f_X2_vector zs l1)))) 0 0 (fun _ => False) := by
  refine fb_entR (by decide +kernel) (Nat.le_of_ble_eq_true rfl) ?_
  intro p e s m args below meth c A ls X I hl hin
  exact b_X2_vector_0 X  I hl rfl
/-! X2_operand -/
def f_X2_operand (zs : fb_MS) (l1 : Int32) : Int32 := (if (2 : Int32) ≤ (f_X11_lengthOf (f_X2_shown zs l1)) then (if (f_X2_shown zs l1) < (208 : Int32) then (if (f_X11_lengthOf (f_X2_shown zs l1)) = (2 : Int32) then (f_X2_shown zs (l1 + (1 : Int32))) else (f_X2_wordAt zs (l1 + (1 : Int32)))) else (((l1 + (2 : Int32)) + (f_X11_signed (f_X2_shown zs (l1 + (1 : Int32))))) &&& (4095 : Int32))) else (-1 : Int32))
set_option maxHeartbeats 4000000 in
set_option maxRecDepth 100000 in
theorem b_X2_operand_0 {p : Program} {l : Launch} {e : Env} {s : State} {m : MethodId} {args : Array Value} {below : List Frame} {meth : Method} {c : Code} {D : va_G} {cI cJ : ClassId} {A : Nat → Prop} {zq : Nat → Nat} {z : Int32} (X : fb_Bx p s m args meth c cX2_operand RX2 4 (some .int) D (fb_ty D cI cJ) A) {zs : fb_MS} {zw : fb_AR} {l1 : Int32} {ls : Array Slot}  (I : fb_In D A s.heap ((fb_mw cI zq zs zw)) s.heap []) (hl : lv_has ls 4 [(0, .ref (zq 0)), (1, .int l1)]) (E : z = f_X2_operand zs l1) : W p l e ({ frames := 3, cells := 0, slots := 0, locals := 63 } : Room) s m args below meth c s.heap [] 0 0 (MQ below (vp_Si (fun r => r = z)) args s 0 0 (fun _ => False)) (F0 m 0 ls []) := by
  obtain ⟨hx, hb, hr, hml, hown, hts, hlk, hA, hK, hF⟩ := id X
  refine lv_aload_n hx hb dX2_operand_0 rfl (lv_at hl 0 rfl) ?_
  refine lv_iload_n hx hb dX2_operand_1 rfl (lv_at hl 1 rfl) ?_
  refine fb_roI X I (fb_runV (As := [.int l1]) (rest := []) (q0 := 0) X I hl (c_X2_shown l D cI cJ zq zs zw l1 _) (fb_goodV fw_1224 fw_1225 fw_1226 fw_198 fw_1227) rfl rfl rfl (by decide +kernel : fb_hd yX2_shown 1) ⟨Nat.le_of_ble_eq_true rfl, Nat.le_of_ble_eq_true rfl⟩ [0, 1, 2, 3, 4, 5, 6, 7] (by decide) rfl rfl rfl rfl rfl rfl (Nat.le_of_ble_eq_true rfl) ⟨Nat.zero_le _, Nat.zero_le _⟩ dX2_operand_2) ?_
  refine lv_istore_n (lv' := [(2, .int (f_X2_shown zs l1)), (0, .ref (zq 0)), (1, .int l1)]) hx hb dX2_operand_5 rfl hl (by decide) rfl (fun ls hl => ?_)
  refine lv_iload_n hx hb dX2_operand_6 rfl (lv_at hl 0 rfl) ?_
  refine fb_roI X I (fb_runSN (As := [.int (f_X2_shown zs l1)]) (rest := []) X I hl (c_X11_lengthOf l D cI cJ (f_X2_shown zs l1) _) fw_1059 rfl rfl (List.mem_of_getElem? (i := 29) rfl) fw_191 fw_1058 (by decide +kernel : fb_hd yX11_lengthOf 1) ⟨Nat.le_of_ble_eq_true rfl, Nat.le_of_ble_eq_true rfl⟩ [] (by decide) rfl rfl rfl (Nat.le_of_ble_eq_true rfl) ⟨Nat.zero_le _, Nat.zero_le _⟩ dX2_operand_7) ?_
  refine lv_istore_n (lv' := [(3, .int (f_X11_lengthOf (f_X2_shown zs l1))), (2, .int (f_X2_shown zs l1)), (0, .ref (zq 0)), (1, .int l1)]) hx hb dX2_operand_10 rfl hl (by decide) rfl (fun ls hl => ?_)
  refine lv_iload_n hx hb dX2_operand_11 rfl (lv_at hl 0 rfl) ?_
  refine lv_iconst (v := (2 : Int32)) hx hb dX2_operand_12 (by decide) ?_
  refine lv_icmp_ge (tgt := 18) hx hb dX2_operand_13 (by decide) (fun c1 => ?_) (fun c1 => ?_)
  · have E2 := (E.trans (if_pos c1))
    refine lv_iload_n hx hb dX2_operand_18 rfl (lv_at hl 1 rfl) ?_
    refine lv_sipush (v := (208 : Int32)) hx hb dX2_operand_19 (by decide) ?_
    refine lv_icmp_lt (tgt := 44) hx hb dX2_operand_22 (by decide) (fun c4 => ?_) (fun c4 => ?_)
    · have E5 := (E2.trans (if_pos c4))
      refine lv_iload_n hx hb dX2_operand_44 rfl (lv_at hl 0 rfl) ?_
      refine lv_iconst (v := (2 : Int32)) hx hb dX2_operand_45 (by decide) ?_
      refine lv_icmp_ne (tgt := 59) hx hb dX2_operand_46 (by decide) (fun c7 => ?_) (fun c7 => ?_)
      · have E8 := (E5.trans (if_neg c7))
        refine lv_aload_n hx hb dX2_operand_59 rfl (lv_at hl 2 rfl) ?_
        refine lv_iload_n hx hb dX2_operand_60 rfl (lv_at hl 3 rfl) ?_
        refine lv_iconst (v := (1 : Int32)) hx hb dX2_operand_61 (by decide) ?_
        refine lv_iadd hx hb dX2_operand_62 ?_
        refine fb_roI X I (fb_runV (As := [.int (l1 + (1 : Int32))]) (rest := []) (q0 := 0) X I hl (c_X2_wordAt l D cI cJ zq zs zw (l1 + (1 : Int32)) _) (fb_goodV fw_1535 fw_1536 fw_1537 fw_198 fw_1538) rfl rfl rfl (by decide +kernel : fb_hd yX2_wordAt 1) ⟨Nat.le_of_ble_eq_true rfl, Nat.le_of_ble_eq_true rfl⟩ [0, 1, 2, 3, 4, 5, 6, 7] (by decide) rfl rfl rfl rfl rfl rfl (Nat.le_of_ble_eq_true rfl) ⟨Nat.zero_le _, Nat.zero_le _⟩ dX2_operand_63) ?_
        exact fb_retRI X E8 rfl dX2_operand_66
      · have E9 := (E5.trans (if_pos c7))
        refine lv_aload_n hx hb dX2_operand_49 rfl (lv_at hl 2 rfl) ?_
        refine lv_iload_n hx hb dX2_operand_50 rfl (lv_at hl 3 rfl) ?_
        refine lv_iconst (v := (1 : Int32)) hx hb dX2_operand_51 (by decide) ?_
        refine lv_iadd hx hb dX2_operand_52 ?_
        refine fb_roI X I (fb_runV (As := [.int (l1 + (1 : Int32))]) (rest := []) (q0 := 0) X I hl (c_X2_shown l D cI cJ zq zs zw (l1 + (1 : Int32)) _) (fb_goodV fw_1224 fw_1225 fw_1226 fw_198 fw_1227) rfl rfl rfl (by decide +kernel : fb_hd yX2_shown 1) ⟨Nat.le_of_ble_eq_true rfl, Nat.le_of_ble_eq_true rfl⟩ [0, 1, 2, 3, 4, 5, 6, 7] (by decide) rfl rfl rfl rfl rfl rfl (Nat.le_of_ble_eq_true rfl) ⟨Nat.zero_le _, Nat.zero_le _⟩ dX2_operand_53) ?_
        refine lv_goto (tgt := 66) hx hb dX2_operand_56 (by decide) ?_
        exact fb_retRI X E9 rfl dX2_operand_66
    · have E6 := (E2.trans (if_neg c4))
      refine lv_iload_n hx hb dX2_operand_25 rfl (lv_at hl 3 rfl) ?_
      refine lv_iconst (v := (2 : Int32)) hx hb dX2_operand_26 (by decide) ?_
      refine lv_iadd hx hb dX2_operand_27 ?_
      refine lv_aload_n hx hb dX2_operand_28 rfl (lv_at hl 2 rfl) ?_
      refine lv_iload_n hx hb dX2_operand_29 rfl (lv_at hl 3 rfl) ?_
      refine lv_iconst (v := (1 : Int32)) hx hb dX2_operand_30 (by decide) ?_
      refine lv_iadd hx hb dX2_operand_31 ?_
      refine fb_roI X I (fb_runV (As := [.int (l1 + (1 : Int32))]) (rest := [.int (l1 + (2 : Int32))]) (q0 := 0) X I hl (c_X2_shown l D cI cJ zq zs zw (l1 + (1 : Int32)) _) (fb_goodV fw_1224 fw_1225 fw_1226 fw_198 fw_1227) rfl rfl rfl (by decide +kernel : fb_hd yX2_shown 1) ⟨Nat.le_of_ble_eq_true rfl, Nat.le_of_ble_eq_true rfl⟩ [0, 1, 2, 3, 4, 5, 6, 7] (by decide) rfl rfl rfl rfl rfl rfl (Nat.le_of_ble_eq_true rfl) ⟨Nat.zero_le _, Nat.zero_le _⟩ dX2_operand_32) ?_
      refine fb_roI X I (fb_runSN (As := [.int (f_X2_shown zs (l1 + (1 : Int32)))]) (rest := [.int (l1 + (2 : Int32))]) X I hl (c_X11_signed l D cI cJ (f_X2_shown zs (l1 + (1 : Int32))) _) fw_1290 rfl rfl (List.mem_of_getElem? (i := 30) rfl) fw_191 fw_1289 (by decide +kernel : fb_hd yX11_signed 1) ⟨Nat.le_of_ble_eq_true rfl, Nat.le_of_ble_eq_true rfl⟩ [] (by decide) rfl rfl rfl (Nat.le_of_ble_eq_true rfl) ⟨Nat.zero_le _, Nat.zero_le _⟩ dX2_operand_35) ?_
      refine lv_iadd hx hb dX2_operand_38 ?_
      refine lv_sipush (v := (4095 : Int32)) hx hb dX2_operand_39 (by decide) ?_
      refine lv_iand hx hb dX2_operand_42 ?_
      exact fb_retRI X E6 rfl dX2_operand_43
  · have E3 := (E.trans (if_neg c1))
    refine lv_iconst (v := (-1 : Int32)) hx hb dX2_operand_16 (by decide) ?_
    exact fb_retRI X E3 rfl dX2_operand_17
set_option maxHeartbeats 4000000 in
set_option maxRecDepth 100000 in
theorem c_X2_operand (l : Launch) (D : va_G) (cI cJ : ClassId) (zq : Nat → Nat) (zs : fb_MS) (zw : fb_AR) (l1 : Int32) (sz : Nat)  : Met l yX2_operand (Cond.code yX2_operand cX2_operand 4 (some .int) :: fb_all) ({ frames := 3, cells := 0, slots := 0, locals := 63 } : Room) (fb_PP D (fb_ty D cI cJ) [.ref (zq 0), .int l1] ((fb_mw cI zq zs zw)) sz) (vp_Si (fun r => r = ((f_X2_operand zs l1)))) 0 0 (fun _ => False) := by
  refine fb_entR (by decide +kernel) (Nat.le_of_ble_eq_true rfl) ?_
  intro p e s m args below meth c A ls X I hl hin
  exact b_X2_operand_0 X  I hl rfl
/-! X2_mixRegisters -/
def f_X2_mixRegisters (zs : fb_MS) (l1 : Int64) : Int64 := ((((((((((((((((l1 * (31 : Int64)) + ((((zs).1 5)).toInt64)) * (31 : Int64)) + ((((zs).1 6)).toInt64)) * (31 : Int64)) + ((((zs).1 7)).toInt64)) * (31 : Int64)) + ((((zs).1 8)).toInt64)) * (31 : Int64)) + ((((zs).1 9)).toInt64)) * (31 : Int64)) + ((((zs).1 10)).toInt64)) * (31 : Int64)) + ((((zs).1 11)).toInt64)) * (31 : Int64)) + ((((zs).1 12)).toInt64))
set_option maxHeartbeats 4000000 in
set_option maxRecDepth 100000 in
theorem b_X2_mixRegisters_0 {p : Program} {l : Launch} {e : Env} {s : State} {m : MethodId} {args : Array Value} {below : List Frame} {meth : Method} {c : Code} {D : va_G} {cI cJ : ClassId} {A : Nat → Prop} {zq : Nat → Nat} {z : Int64} (X : fb_Bx p s m args meth c cX2_mixRegisters RX2 3 (some .long) D (fb_ty D cI cJ) A) {zs : fb_MS} {zw : fb_AR} {l1 : Int64} {ls : Array Slot}  (I : fb_In D A s.heap ((fb_mw cI zq zs zw)) s.heap []) (hl : lv_has ls 3 [(0, .ref (zq 0)), (1, .long l1)]) (E : z = f_X2_mixRegisters zs l1) : W p l e ({ frames := 0, cells := 0, slots := 0, locals := 0 } : Room) s m args below meth c s.heap [] 0 0 (MQ below (vp_Sl (fun r => r = z)) args s 0 0 (fun _ => False)) (F0 m 0 ls []) := by
  obtain ⟨hx, hb, hr, hml, hown, hts, hlk, hA, hK, hF⟩ := id X
  refine lv_lload_n hx hb dX2_mixRegisters_0 rfl (lv_at hl 1 rfl) ?_
  refine lv_ldc2 hx hb hown (hts _ fw_1552) dX2_mixRegisters_1 ?_
  refine lv_lmul hx hb dX2_mixRegisters_4 ?_
  refine lv_aload_n hx hb dX2_mixRegisters_5 rfl (lv_at hl 0 rfl) ?_
  refine fb_get X I (k := 5) fu_X2 0 rfl rfl (Nat.le_of_ble_eq_true rfl) fw_524 rfl rfl dX2_mixRegisters_6 ?_
  refine lv_i2l (v := (((zs).1 5)).toInt64) hx hb dX2_mixRegisters_9 rfl ?_
  refine lv_ladd hx hb dX2_mixRegisters_10 ?_
  refine lv_lstore_n (lv' := [(1, .long ((l1 * (31 : Int64)) + ((((zs).1 5)).toInt64))), (0, .ref (zq 0))]) hx hb dX2_mixRegisters_11 rfl hl (by decide) rfl (fun ls hl => ?_)
  refine lv_lload_n hx hb dX2_mixRegisters_12 rfl (lv_at hl 0 rfl) ?_
  refine lv_ldc2 hx hb hown (hts _ fw_1552) dX2_mixRegisters_13 ?_
  refine lv_lmul hx hb dX2_mixRegisters_16 ?_
  refine lv_aload_n hx hb dX2_mixRegisters_17 rfl (lv_at hl 1 rfl) ?_
  refine fb_get X I (k := 6) fu_X2 0 rfl rfl (Nat.le_of_ble_eq_true rfl) fw_526 rfl rfl dX2_mixRegisters_18 ?_
  refine lv_i2l (v := (((zs).1 6)).toInt64) hx hb dX2_mixRegisters_21 rfl ?_
  refine lv_ladd hx hb dX2_mixRegisters_22 ?_
  refine lv_lstore_n (lv' := [(1, .long ((((l1 * (31 : Int64)) + ((((zs).1 5)).toInt64)) * (31 : Int64)) + ((((zs).1 6)).toInt64))), (0, .ref (zq 0))]) hx hb dX2_mixRegisters_23 rfl hl (by decide) rfl (fun ls hl => ?_)
  refine lv_lload_n hx hb dX2_mixRegisters_24 rfl (lv_at hl 0 rfl) ?_
  refine lv_ldc2 hx hb hown (hts _ fw_1552) dX2_mixRegisters_25 ?_
  refine lv_lmul hx hb dX2_mixRegisters_28 ?_
  refine lv_aload_n hx hb dX2_mixRegisters_29 rfl (lv_at hl 1 rfl) ?_
  refine fb_get X I (k := 7) fu_X2 0 rfl rfl (Nat.le_of_ble_eq_true rfl) fw_528 rfl rfl dX2_mixRegisters_30 ?_
  refine lv_i2l (v := (((zs).1 7)).toInt64) hx hb dX2_mixRegisters_33 rfl ?_
  refine lv_ladd hx hb dX2_mixRegisters_34 ?_
  refine lv_lstore_n (lv' := [(1, .long ((((((l1 * (31 : Int64)) + ((((zs).1 5)).toInt64)) * (31 : Int64)) + ((((zs).1 6)).toInt64)) * (31 : Int64)) + ((((zs).1 7)).toInt64))), (0, .ref (zq 0))]) hx hb dX2_mixRegisters_35 rfl hl (by decide) rfl (fun ls hl => ?_)
  refine lv_lload_n hx hb dX2_mixRegisters_36 rfl (lv_at hl 0 rfl) ?_
  refine lv_ldc2 hx hb hown (hts _ fw_1552) dX2_mixRegisters_37 ?_
  refine lv_lmul hx hb dX2_mixRegisters_40 ?_
  refine lv_aload_n hx hb dX2_mixRegisters_41 rfl (lv_at hl 1 rfl) ?_
  refine fb_get X I (k := 8) fu_X2 0 rfl rfl (Nat.le_of_ble_eq_true rfl) fw_530 rfl rfl dX2_mixRegisters_42 ?_
  refine lv_i2l (v := (((zs).1 8)).toInt64) hx hb dX2_mixRegisters_45 rfl ?_
  refine lv_ladd hx hb dX2_mixRegisters_46 ?_
  refine lv_lstore_n (lv' := [(1, .long ((((((((l1 * (31 : Int64)) + ((((zs).1 5)).toInt64)) * (31 : Int64)) + ((((zs).1 6)).toInt64)) * (31 : Int64)) + ((((zs).1 7)).toInt64)) * (31 : Int64)) + ((((zs).1 8)).toInt64))), (0, .ref (zq 0))]) hx hb dX2_mixRegisters_47 rfl hl (by decide) rfl (fun ls hl => ?_)
  refine lv_lload_n hx hb dX2_mixRegisters_48 rfl (lv_at hl 0 rfl) ?_
  refine lv_ldc2 hx hb hown (hts _ fw_1552) dX2_mixRegisters_49 ?_
  refine lv_lmul hx hb dX2_mixRegisters_52 ?_
  refine lv_aload_n hx hb dX2_mixRegisters_53 rfl (lv_at hl 1 rfl) ?_
  refine fb_get X I (k := 9) fu_X2 0 rfl rfl (Nat.le_of_ble_eq_true rfl) fw_533 rfl rfl dX2_mixRegisters_54 ?_
  refine lv_i2l (v := (((zs).1 9)).toInt64) hx hb dX2_mixRegisters_57 rfl ?_
  refine lv_ladd hx hb dX2_mixRegisters_58 ?_
  refine lv_lstore_n (lv' := [(1, .long ((((((((((l1 * (31 : Int64)) + ((((zs).1 5)).toInt64)) * (31 : Int64)) + ((((zs).1 6)).toInt64)) * (31 : Int64)) + ((((zs).1 7)).toInt64)) * (31 : Int64)) + ((((zs).1 8)).toInt64)) * (31 : Int64)) + ((((zs).1 9)).toInt64))), (0, .ref (zq 0))]) hx hb dX2_mixRegisters_59 rfl hl (by decide) rfl (fun ls hl => ?_)
  refine lv_lload_n hx hb dX2_mixRegisters_60 rfl (lv_at hl 0 rfl) ?_
  refine lv_ldc2 hx hb hown (hts _ fw_1552) dX2_mixRegisters_61 ?_
  refine lv_lmul hx hb dX2_mixRegisters_64 ?_
  refine lv_aload_n hx hb dX2_mixRegisters_65 rfl (lv_at hl 1 rfl) ?_
  refine fb_get X I (k := 10) fu_X2 0 rfl rfl (Nat.le_of_ble_eq_true rfl) fw_535 rfl rfl dX2_mixRegisters_66 ?_
  refine lv_i2l (v := (((zs).1 10)).toInt64) hx hb dX2_mixRegisters_69 rfl ?_
  refine lv_ladd hx hb dX2_mixRegisters_70 ?_
  refine lv_lstore_n (lv' := [(1, .long ((((((((((((l1 * (31 : Int64)) + ((((zs).1 5)).toInt64)) * (31 : Int64)) + ((((zs).1 6)).toInt64)) * (31 : Int64)) + ((((zs).1 7)).toInt64)) * (31 : Int64)) + ((((zs).1 8)).toInt64)) * (31 : Int64)) + ((((zs).1 9)).toInt64)) * (31 : Int64)) + ((((zs).1 10)).toInt64))), (0, .ref (zq 0))]) hx hb dX2_mixRegisters_71 rfl hl (by decide) rfl (fun ls hl => ?_)
  refine lv_lload_n hx hb dX2_mixRegisters_72 rfl (lv_at hl 0 rfl) ?_
  refine lv_ldc2 hx hb hown (hts _ fw_1552) dX2_mixRegisters_73 ?_
  refine lv_lmul hx hb dX2_mixRegisters_76 ?_
  refine lv_aload_n hx hb dX2_mixRegisters_77 rfl (lv_at hl 1 rfl) ?_
  refine fb_get X I (k := 11) fu_X2 0 rfl rfl (Nat.le_of_ble_eq_true rfl) fw_537 rfl rfl dX2_mixRegisters_78 ?_
  refine lv_i2l (v := (((zs).1 11)).toInt64) hx hb dX2_mixRegisters_81 rfl ?_
  refine lv_ladd hx hb dX2_mixRegisters_82 ?_
  refine lv_lstore_n (lv' := [(1, .long ((((((((((((((l1 * (31 : Int64)) + ((((zs).1 5)).toInt64)) * (31 : Int64)) + ((((zs).1 6)).toInt64)) * (31 : Int64)) + ((((zs).1 7)).toInt64)) * (31 : Int64)) + ((((zs).1 8)).toInt64)) * (31 : Int64)) + ((((zs).1 9)).toInt64)) * (31 : Int64)) + ((((zs).1 10)).toInt64)) * (31 : Int64)) + ((((zs).1 11)).toInt64))), (0, .ref (zq 0))]) hx hb dX2_mixRegisters_83 rfl hl (by decide) rfl (fun ls hl => ?_)
  refine lv_lload_n hx hb dX2_mixRegisters_84 rfl (lv_at hl 0 rfl) ?_
  refine lv_ldc2 hx hb hown (hts _ fw_1552) dX2_mixRegisters_85 ?_
  refine lv_lmul hx hb dX2_mixRegisters_88 ?_
  refine lv_aload_n hx hb dX2_mixRegisters_89 rfl (lv_at hl 1 rfl) ?_
  refine fb_get X I (k := 12) fu_X2 0 rfl rfl (Nat.le_of_ble_eq_true rfl) fw_539 rfl rfl dX2_mixRegisters_90 ?_
  refine lv_i2l (v := (((zs).1 12)).toInt64) hx hb dX2_mixRegisters_93 rfl ?_
  refine lv_ladd hx hb dX2_mixRegisters_94 ?_
  exact fb_retRL X E dX2_mixRegisters_95
set_option maxHeartbeats 4000000 in
set_option maxRecDepth 100000 in
theorem c_X2_mixRegisters (l : Launch) (D : va_G) (cI cJ : ClassId) (zq : Nat → Nat) (zs : fb_MS) (zw : fb_AR) (l1 : Int64) (sz : Nat)  : Met l yX2_mixRegisters (Cond.code yX2_mixRegisters cX2_mixRegisters 3 (some .long) :: fb_all) ({ frames := 0, cells := 0, slots := 0, locals := 0 } : Room) (fb_PP D (fb_ty D cI cJ) [.ref (zq 0), .long l1] ((fb_mw cI zq zs zw)) sz) (vp_Sl (fun r => r = ((f_X2_mixRegisters zs l1)))) 0 0 (fun _ => False) := by
  refine fb_entR (by decide +kernel) (Nat.le_of_ble_eq_true rfl) ?_
  intro p e s m args below meth c A ls X I hl hin
  exact b_X2_mixRegisters_0 X  I hl rfl
/-! X2_busiest -/
def f_X2_busiest_6  : Nat → fb_MS → Int32 → Int32 → Int32 → Int32
  | 0, zs, _, _, _ => 0
  | n + 1, zs, l1, l2, l3 => (if (4096 : Int32) ≤ l3 then l1 else (if (f_X11_at 4096 ((zs).2.2.1) l3) ≤ l2 then f_X2_busiest_6 n zs l1 l2 (l3 + (1 : Int32)) else f_X2_busiest_6 n zs l3 (f_X11_at 4096 ((zs).2.2.1) l3) (l3 + (1 : Int32))))
def f_X2_busiest (zs : fb_MS) : Int32 := f_X2_busiest_6 ((fb_mu (0 : Int32) 4096) + 1) zs (-1 : Int32) (0 : Int32) (0 : Int32)
set_option maxHeartbeats 4000000 in
set_option maxRecDepth 100000 in
theorem b_X2_busiest_6 {p : Program} {l : Launch} {e : Env} {s : State} {m : MethodId} {args : Array Value} {below : List Frame} {meth : Method} {c : Code} {D : va_G} {cI cJ : ClassId} {A : Nat → Prop} {zq : Nat → Nat} {z : Int32} (X : fb_Bx p s m args meth c cX2_busiest RX2 4 (some .int) D (fb_ty D cI cJ) A)  : ∀ (n : Nat) {zs : fb_MS} {zw : fb_AR} {l1 : Int32} {l2 : Int32} {l3 : Int32} {ls : Array Slot} (hm : (fb_mu l3 4096) < n) (I : fb_In D A s.heap ((fb_mw cI zq zs zw)) s.heap []) (hl : lv_has ls 4 [(0, .ref (zq 0)), (1, .int l1), (2, .int l2), (3, .int l3)]) (E : z = f_X2_busiest_6 n zs l1 l2 l3), W p l e ({ frames := 1, cells := 0, slots := 0, locals := 21 } : Room) s m args below meth c s.heap [] 0 0 (MQ below (vp_Si (fun r => r = z)) args s 0 0 (fun _ => False)) (F0 m 6 ls []) := by
  intro n
  obtain ⟨hx, hb, hr, hml, hown, hts, hlk, hA, hK, hF⟩ := id X
  induction n with
  | zero =>
    intro zs zw l1 l2 l3 ls hm
    exact absurd hm (Nat.not_lt_zero _)
  | succ n ih =>
    intro zs zw l1 l2 l3 ls hm I hl E
    refine lv_iload_n hx hb dX2_busiest_6 rfl (lv_at hl 3 rfl) ?_
    refine lv_sipush (v := (4096 : Int32)) hx hb dX2_busiest_7 (by decide) ?_
    refine lv_icmp_ge (tgt := 42) hx hb dX2_busiest_10 (by decide) (fun c1 => ?_) (fun c1 => ?_)
    · have E2 := (E.trans (if_pos c1))
      refine lv_iload_n hx hb dX2_busiest_42 rfl (lv_at hl 1 rfl) ?_
      exact fb_retRI X E2 rfl dX2_busiest_43
    · have E3 := (E.trans (if_neg c1))
      refine lv_aload_n hx hb dX2_busiest_13 rfl (lv_at hl 0 rfl) ?_
      refine fb_get X I (k := 1) fu_X2 0 rfl rfl (Nat.le_of_ble_eq_true rfl) fw_516 rfl rfl dX2_busiest_14 ?_
      refine lv_iload_n hx hb dX2_busiest_17 rfl (lv_at hl 3 rfl) ?_
      refine fb_roI X I (fb_runSN (As := [.ref (zq 2), .int l3]) (rest := []) X I hl (c_X11_at l D cI cJ (zq 2) 4096 ((zs).2.2.1) l3 _ (by decide)) fw_686 rfl rfl (List.mem_of_getElem? (i := 9) rfl) fw_191 fw_685 (by decide +kernel : fb_hd yX11_at 2) ⟨Nat.le_of_ble_eq_true rfl, Nat.le_of_ble_eq_true rfl⟩ [2] (by decide) rfl rfl rfl (Nat.le_of_ble_eq_true rfl) ⟨Nat.zero_le _, Nat.zero_le _⟩ dX2_busiest_18) ?_
      refine lv_iload_n hx hb dX2_busiest_21 rfl (lv_at hl 2 rfl) ?_
      refine lv_icmp_le (tgt := 36) hx hb dX2_busiest_22 (by decide) (fun c4 => ?_) (fun c4 => ?_)
      · have E5 := (E3.trans (if_pos c4))
        refine lv_iinc (v := (l3 + (1 : Int32))) (lv' := [(3, .int (l3 + (1 : Int32))), (0, .ref (zq 0)), (1, .int l1), (2, .int l2)]) hx hb dX2_busiest_36 hl (k := 3) rfl rfl (by decide) rfl (fun ls hl => ?_)
        refine lv_goto (tgt := 6) hx hb dX2_busiest_39 (by decide) ?_
        exact ih (l1 := l1) (l2 := l2) (l3 := (l3 + (1 : Int32))) (fb_mu_ge c1 hm)  I (lv_sub hl [1, 2, 3, 0] rfl) E5
      · have E6 := (E3.trans (if_neg c4))
        refine lv_aload_n hx hb dX2_busiest_25 rfl (lv_at hl 0 rfl) ?_
        refine fb_get X I (k := 1) fu_X2 0 rfl rfl (Nat.le_of_ble_eq_true rfl) fw_516 rfl rfl dX2_busiest_26 ?_
        refine lv_iload_n hx hb dX2_busiest_29 rfl (lv_at hl 3 rfl) ?_
        refine fb_roI X I (fb_runSN (As := [.ref (zq 2), .int l3]) (rest := []) X I hl (c_X11_at l D cI cJ (zq 2) 4096 ((zs).2.2.1) l3 _ (by decide)) fw_686 rfl rfl (List.mem_of_getElem? (i := 9) rfl) fw_191 fw_685 (by decide +kernel : fb_hd yX11_at 2) ⟨Nat.le_of_ble_eq_true rfl, Nat.le_of_ble_eq_true rfl⟩ [2] (by decide) rfl rfl rfl (Nat.le_of_ble_eq_true rfl) ⟨Nat.zero_le _, Nat.zero_le _⟩ dX2_busiest_30) ?_
        refine lv_istore_n (lv' := [(2, .int (f_X11_at 4096 ((zs).2.2.1) l3)), (0, .ref (zq 0)), (1, .int l1), (3, .int l3)]) hx hb dX2_busiest_33 rfl hl (by decide) rfl (fun ls hl => ?_)
        refine lv_iload_n hx hb dX2_busiest_34 rfl (lv_at hl 3 rfl) ?_
        refine lv_istore_n (lv' := [(1, .int l3), (2, .int (f_X11_at 4096 ((zs).2.2.1) l3)), (0, .ref (zq 0)), (3, .int l3)]) hx hb dX2_busiest_35 rfl hl (by decide) rfl (fun ls hl => ?_)
        refine lv_iinc (v := (l3 + (1 : Int32))) (lv' := [(3, .int (l3 + (1 : Int32))), (1, .int l3), (2, .int (f_X11_at 4096 ((zs).2.2.1) l3)), (0, .ref (zq 0))]) hx hb dX2_busiest_36 hl (k := 3) rfl rfl (by decide) rfl (fun ls hl => ?_)
        refine lv_goto (tgt := 6) hx hb dX2_busiest_39 (by decide) ?_
        exact ih (l1 := l3) (l2 := (f_X11_at 4096 ((zs).2.2.1) l3)) (l3 := (l3 + (1 : Int32))) (fb_mu_ge c1 hm)  I (lv_sub hl [3, 1, 2, 0] rfl) E6
set_option maxHeartbeats 4000000 in
set_option maxRecDepth 100000 in
theorem b_X2_busiest_0 {p : Program} {l : Launch} {e : Env} {s : State} {m : MethodId} {args : Array Value} {below : List Frame} {meth : Method} {c : Code} {D : va_G} {cI cJ : ClassId} {A : Nat → Prop} {zq : Nat → Nat} {z : Int32} (X : fb_Bx p s m args meth c cX2_busiest RX2 4 (some .int) D (fb_ty D cI cJ) A) {zs : fb_MS} {zw : fb_AR} {ls : Array Slot}  (I : fb_In D A s.heap ((fb_mw cI zq zs zw)) s.heap []) (hl : lv_has ls 4 [(0, .ref (zq 0))]) (E : z = f_X2_busiest zs) : W p l e ({ frames := 1, cells := 0, slots := 0, locals := 21 } : Room) s m args below meth c s.heap [] 0 0 (MQ below (vp_Si (fun r => r = z)) args s 0 0 (fun _ => False)) (F0 m 0 ls []) := by
  obtain ⟨hx, hb, hr, hml, hown, hts, hlk, hA, hK, hF⟩ := id X
  refine lv_iconst (v := (-1 : Int32)) hx hb dX2_busiest_0 (by decide) ?_
  refine lv_istore_n (lv' := [(1, .int (-1 : Int32)), (0, .ref (zq 0))]) hx hb dX2_busiest_1 rfl hl (by decide) rfl (fun ls hl => ?_)
  refine lv_iconst (v := (0 : Int32)) hx hb dX2_busiest_2 (by decide) ?_
  refine lv_istore_n (lv' := [(2, .int (0 : Int32)), (1, .int (-1 : Int32)), (0, .ref (zq 0))]) hx hb dX2_busiest_3 rfl hl (by decide) rfl (fun ls hl => ?_)
  refine lv_iconst (v := (0 : Int32)) hx hb dX2_busiest_4 (by decide) ?_
  refine lv_istore_n (lv' := [(3, .int (0 : Int32)), (2, .int (0 : Int32)), (1, .int (-1 : Int32)), (0, .ref (zq 0))]) hx hb dX2_busiest_5 rfl hl (by decide) rfl (fun ls hl => ?_)
  exact b_X2_busiest_6 X  ((fb_mu (0 : Int32) 4096) + 1) (l1 := (-1 : Int32)) (l2 := (0 : Int32)) (l3 := (0 : Int32)) (Nat.lt_succ_self _)  I (lv_sub hl [3, 2, 1, 0] rfl) E
set_option maxHeartbeats 4000000 in
set_option maxRecDepth 100000 in
theorem c_X2_busiest (l : Launch) (D : va_G) (cI cJ : ClassId) (zq : Nat → Nat) (zs : fb_MS) (zw : fb_AR)  (sz : Nat)  : Met l yX2_busiest (Cond.code yX2_busiest cX2_busiest 4 (some .int) :: fb_all) ({ frames := 1, cells := 0, slots := 0, locals := 21 } : Room) (fb_PP D (fb_ty D cI cJ) [.ref (zq 0)] ((fb_mw cI zq zs zw)) sz) (vp_Si (fun r => r = ((f_X2_busiest zs)))) 0 0 (fun _ => False) := by
  refine fb_entR (by decide +kernel) (Nat.le_of_ble_eq_true rfl) ?_
  intro p e s m args below meth c A ls X I hl hin
  exact b_X2_busiest_0 X  I hl rfl
/-! X2_mixCalls -/
def f_X2_mixCalls_19  : Nat → fb_MS → Int64 → Int32 → Int64
  | 0, zs, _, _ => 0
  | n + 1, zs, l1, l3 => (if l3 < 0 then l1 else f_X2_mixCalls_19 n zs ((l1 * (31 : Int64)) + (((f_X11_at 40 ((zs).2.2.2.1) l3)).toInt64)) (l3 + (-1 : Int32)))
def f_X2_mixCalls (zs : fb_MS) (l1 : Int64) : Int64 := f_X2_mixCalls_19 ((fb_md (((zs).1 13) - (1 : Int32))) + 1) zs ((l1 * (31 : Int64)) + ((((zs).1 13)).toInt64)) (((zs).1 13) - (1 : Int32))
set_option maxHeartbeats 4000000 in
set_option maxRecDepth 100000 in
theorem b_X2_mixCalls_19 {p : Program} {l : Launch} {e : Env} {s : State} {m : MethodId} {args : Array Value} {below : List Frame} {meth : Method} {c : Code} {D : va_G} {cI cJ : ClassId} {A : Nat → Prop} {zq : Nat → Nat} {z : Int64} (X : fb_Bx p s m args meth c cX2_mixCalls RX2 4 (some .long) D (fb_ty D cI cJ) A)  : ∀ (n : Nat) {zs : fb_MS} {zw : fb_AR} {l1 : Int64} {l3 : Int32} {ls : Array Slot} (hm : (fb_md l3) < n) (I : fb_In D A s.heap ((fb_mw cI zq zs zw)) s.heap []) (hl : lv_has ls 4 [(0, .ref (zq 0)), (1, .long l1), (3, .int l3)]) (E : z = f_X2_mixCalls_19 n zs l1 l3), W p l e ({ frames := 1, cells := 0, slots := 0, locals := 21 } : Room) s m args below meth c s.heap [] 0 0 (MQ below (vp_Sl (fun r => r = z)) args s 0 0 (fun _ => False)) (F0 m 19 ls []) := by
  intro n
  obtain ⟨hx, hb, hr, hml, hown, hts, hlk, hA, hK, hF⟩ := id X
  induction n with
  | zero =>
    intro zs zw l1 l3 ls hm
    exact absurd hm (Nat.not_lt_zero _)
  | succ n ih =>
    intro zs zw l1 l3 ls hm I hl E
    refine lv_iload_n hx hb dX2_mixCalls_19 rfl (lv_at hl 2 rfl) ?_
    refine lv_if_lt (tgt := 45) hx hb dX2_mixCalls_20 (by decide) (fun c1 => ?_) (fun c1 => ?_)
    · have E2 := (E.trans (if_pos c1))
      refine lv_lload_n hx hb dX2_mixCalls_45 rfl (lv_at hl 1 rfl) ?_
      exact fb_retRL X E2 dX2_mixCalls_46
    · have E3 := (E.trans (if_neg c1))
      refine lv_lload_n hx hb dX2_mixCalls_23 rfl (lv_at hl 1 rfl) ?_
      refine lv_ldc2 hx hb hown (hts _ fw_1552) dX2_mixCalls_24 ?_
      refine lv_lmul hx hb dX2_mixCalls_27 ?_
      refine lv_aload_n hx hb dX2_mixCalls_28 rfl (lv_at hl 0 rfl) ?_
      refine fb_get X I (k := 2) fu_X2 0 rfl rfl (Nat.le_of_ble_eq_true rfl) fw_518 rfl rfl dX2_mixCalls_29 ?_
      refine lv_iload_n hx hb dX2_mixCalls_32 rfl (lv_at hl 2 rfl) ?_
      refine fb_roI X I (fb_runSN (As := [.ref (zq 3), .int l3]) (rest := [.long (l1 * (31 : Int64))]) X I hl (c_X11_at l D cI cJ (zq 3) 40 ((zs).2.2.2.1) l3 _ (by decide)) fw_686 rfl rfl (List.mem_of_getElem? (i := 9) rfl) fw_191 fw_685 (by decide +kernel : fb_hd yX11_at 2) ⟨Nat.le_of_ble_eq_true rfl, Nat.le_of_ble_eq_true rfl⟩ [3] (by decide) rfl rfl rfl (Nat.le_of_ble_eq_true rfl) ⟨Nat.zero_le _, Nat.zero_le _⟩ dX2_mixCalls_33) ?_
      refine lv_i2l (v := ((f_X11_at 40 ((zs).2.2.2.1) l3)).toInt64) hx hb dX2_mixCalls_36 rfl ?_
      refine lv_ladd hx hb dX2_mixCalls_37 ?_
      refine lv_lstore_n (lv' := [(1, .long ((l1 * (31 : Int64)) + (((f_X11_at 40 ((zs).2.2.2.1) l3)).toInt64))), (0, .ref (zq 0)), (3, .int l3)]) hx hb dX2_mixCalls_38 rfl hl (by decide) rfl (fun ls hl => ?_)
      refine lv_iinc (v := (l3 + (-1 : Int32))) (lv' := [(3, .int (l3 + (-1 : Int32))), (1, .long ((l1 * (31 : Int64)) + (((f_X11_at 40 ((zs).2.2.2.1) l3)).toInt64))), (0, .ref (zq 0))]) hx hb dX2_mixCalls_39 hl (k := 2) rfl rfl (by decide) rfl (fun ls hl => ?_)
      refine lv_goto (tgt := 19) hx hb dX2_mixCalls_42 (by decide) ?_
      exact ih (l1 := ((l1 * (31 : Int64)) + (((f_X11_at 40 ((zs).2.2.2.1) l3)).toInt64))) (l3 := (l3 + (-1 : Int32))) (fb_md_lt c1 hm)  I (lv_sub hl [2, 1, 0] rfl) E3
set_option maxHeartbeats 4000000 in
set_option maxRecDepth 100000 in
theorem b_X2_mixCalls_0 {p : Program} {l : Launch} {e : Env} {s : State} {m : MethodId} {args : Array Value} {below : List Frame} {meth : Method} {c : Code} {D : va_G} {cI cJ : ClassId} {A : Nat → Prop} {zq : Nat → Nat} {z : Int64} (X : fb_Bx p s m args meth c cX2_mixCalls RX2 4 (some .long) D (fb_ty D cI cJ) A) {zs : fb_MS} {zw : fb_AR} {l1 : Int64} {ls : Array Slot}  (I : fb_In D A s.heap ((fb_mw cI zq zs zw)) s.heap []) (hl : lv_has ls 4 [(0, .ref (zq 0)), (1, .long l1)]) (E : z = f_X2_mixCalls zs l1) : W p l e ({ frames := 1, cells := 0, slots := 0, locals := 21 } : Room) s m args below meth c s.heap [] 0 0 (MQ below (vp_Sl (fun r => r = z)) args s 0 0 (fun _ => False)) (F0 m 0 ls []) := by
  obtain ⟨hx, hb, hr, hml, hown, hts, hlk, hA, hK, hF⟩ := id X
  refine lv_lload_n hx hb dX2_mixCalls_0 rfl (lv_at hl 1 rfl) ?_
  refine lv_ldc2 hx hb hown (hts _ fw_1552) dX2_mixCalls_1 ?_
  refine lv_lmul hx hb dX2_mixCalls_4 ?_
  refine lv_aload_n hx hb dX2_mixCalls_5 rfl (lv_at hl 0 rfl) ?_
  refine fb_get X I (k := 13) fu_X2 0 rfl rfl (Nat.le_of_ble_eq_true rfl) fw_541 rfl rfl dX2_mixCalls_6 ?_
  refine lv_i2l (v := (((zs).1 13)).toInt64) hx hb dX2_mixCalls_9 rfl ?_
  refine lv_ladd hx hb dX2_mixCalls_10 ?_
  refine lv_lstore_n (lv' := [(1, .long ((l1 * (31 : Int64)) + ((((zs).1 13)).toInt64))), (0, .ref (zq 0))]) hx hb dX2_mixCalls_11 rfl hl (by decide) rfl (fun ls hl => ?_)
  refine lv_aload_n hx hb dX2_mixCalls_12 rfl (lv_at hl 1 rfl) ?_
  refine fb_get X I (k := 13) fu_X2 0 rfl rfl (Nat.le_of_ble_eq_true rfl) fw_541 rfl rfl dX2_mixCalls_13 ?_
  refine lv_iconst (v := (1 : Int32)) hx hb dX2_mixCalls_16 (by decide) ?_
  refine lv_isub hx hb dX2_mixCalls_17 ?_
  refine lv_istore_n (lv' := [(3, .int (((zs).1 13) - (1 : Int32))), (1, .long ((l1 * (31 : Int64)) + ((((zs).1 13)).toInt64))), (0, .ref (zq 0))]) hx hb dX2_mixCalls_18 rfl hl (by decide) rfl (fun ls hl => ?_)
  exact b_X2_mixCalls_19 X  ((fb_md (((zs).1 13) - (1 : Int32))) + 1) (l1 := ((l1 * (31 : Int64)) + ((((zs).1 13)).toInt64))) (l3 := (((zs).1 13) - (1 : Int32))) (Nat.lt_succ_self _)  I (lv_sub hl [2, 1, 0] rfl) E
set_option maxHeartbeats 4000000 in
set_option maxRecDepth 100000 in
theorem c_X2_mixCalls (l : Launch) (D : va_G) (cI cJ : ClassId) (zq : Nat → Nat) (zs : fb_MS) (zw : fb_AR) (l1 : Int64) (sz : Nat)  : Met l yX2_mixCalls (Cond.code yX2_mixCalls cX2_mixCalls 4 (some .long) :: fb_all) ({ frames := 1, cells := 0, slots := 0, locals := 21 } : Room) (fb_PP D (fb_ty D cI cJ) [.ref (zq 0), .long l1] ((fb_mw cI zq zs zw)) sz) (vp_Sl (fun r => r = ((f_X2_mixCalls zs l1)))) 0 0 (fun _ => False) := by
  refine fb_entR (by decide +kernel) (Nat.le_of_ble_eq_true rfl) ?_
  intro p e s m args below meth c A ls X I hl hin
  exact b_X2_mixCalls_0 X  I hl rfl
/-! X2_zn -/
def f_X2_zn (zs : fb_MS) (l1 : Int32) : Int32 × fb_MS := (if l1 = 0 then (if l1 < (128 : Int32) then (l1, (fb_sR zs 8 (((((zs).1 8) &&& (-19 : Int32)) ||| (2 : Int32)) ||| (0 : Int32)))) else (l1, (fb_sR zs 8 (((((zs).1 8) &&& (-19 : Int32)) ||| (2 : Int32)) ||| (16 : Int32))))) else (if l1 < (128 : Int32) then (l1, (fb_sR zs 8 (((((zs).1 8) &&& (-19 : Int32)) ||| (0 : Int32)) ||| (0 : Int32)))) else (l1, (fb_sR zs 8 (((((zs).1 8) &&& (-19 : Int32)) ||| (0 : Int32)) ||| (16 : Int32))))))
set_option maxHeartbeats 4000000 in
set_option maxRecDepth 100000 in
theorem b_X2_zn_0 {p : Program} {l : Launch} {e : Env} {s : State} {m : MethodId} {args : Array Value} {below : List Frame} {meth : Method} {c : Code} {D : va_G} {cI cJ : ClassId} {A : Nat → Prop} {zq : Nat → Nat} {z : Int32 × fb_MS} (X : fb_Bx p s m args meth c cX2_zn RX2 2 (some .int) D (fb_ty D cI cJ) A) {zs : fb_MS} {zw : fb_AR} {l1 : Int32} {H : Heap} {locs : List Loc} {ls : Array Slot}  (I : fb_In D A s.heap ((fb_mw cI zq zs zw)) H locs) (hl : lv_has ls 2 [(0, .ref (zq 0)), (1, .int l1)]) (E : z = f_X2_zn zs l1) : W p l e ({ frames := 0, cells := 0, slots := 0, locals := 0 } : Room) s m args below meth c H locs 0 0 (MQ below (fb_QI D A (fun (r : Int32) (_ : fb_AR) => r = z.1) (fun (t : fb_AR) => (fb_mw cI zq (z.2) (t)))) args s 0 0 A) (F0 m 0 ls []) := by
  obtain ⟨hx, hb, hr, hml, hown, hts, hlk, hA, hK, hF⟩ := id X
  refine lv_aload_n hx hb dX2_zn_0 rfl (lv_at hl 0 rfl) ?_
  refine lv_aload_n hx hb dX2_zn_1 rfl (lv_at hl 0 rfl) ?_
  refine fb_get X I (k := 8) fu_X2 0 rfl rfl (Nat.le_of_ble_eq_true rfl) fw_530 rfl rfl dX2_zn_2 ?_
  refine lv_bipush (v := (-19 : Int32)) hx hb dX2_zn_5 (by decide) ?_
  refine lv_iand hx hb dX2_zn_7 ?_
  refine lv_iload_n hx hb dX2_zn_8 rfl (lv_at hl 1 rfl) ?_
  refine lv_if_ne (tgt := 16) hx hb dX2_zn_9 (by decide) (fun c1 => ?_) (fun c1 => ?_)
  · have E2 := (E.trans (if_neg c1))
    refine lv_iconst (v := (0 : Int32)) hx hb dX2_zn_16 (by decide) ?_
    refine lv_ior hx hb dX2_zn_17 ?_
    refine lv_iload_n hx hb dX2_zn_18 rfl (lv_at hl 1 rfl) ?_
    refine lv_sipush (v := (128 : Int32)) hx hb dX2_zn_19 (by decide) ?_
    refine lv_icmp_lt (tgt := 30) hx hb dX2_zn_22 (by decide) (fun c4 => ?_) (fun c4 => ?_)
    · have E5 := (E2.trans (if_pos c4))
      refine lv_iconst (v := (0 : Int32)) hx hb dX2_zn_30 (by decide) ?_
      refine lv_ior hx hb dX2_zn_31 ?_
      refine fb_put X I (k := 8) (wn := (fb_mw cI zq (fb_sR zs 8 (((((zs).1 8) &&& (-19 : Int32)) ||| (0 : Int32)) ||| (0 : Int32))) zw)) fu_X2 tyX2 tyX2_ok nmX2 0 rfl rfl (Nat.le_of_ble_eq_true rfl) fw_530 rfl rfl rfl rfl rfl (Nat.le_of_ble_eq_true rfl) fb_ms8 dX2_zn_32 (fun H locs I => ?_)
      refine lv_iload_n hx hb dX2_zn_35 rfl (lv_at hl 1 rfl) ?_
      subst E5
      exact fb_retI (u := (zw)) X I rfl rfl dX2_zn_36
    · have E6 := (E2.trans (if_neg c4))
      refine lv_bipush (v := (16 : Int32)) hx hb dX2_zn_25 (by decide) ?_
      refine lv_goto (tgt := 31) hx hb dX2_zn_27 (by decide) ?_
      refine lv_ior hx hb dX2_zn_31 ?_
      refine fb_put X I (k := 8) (wn := (fb_mw cI zq (fb_sR zs 8 (((((zs).1 8) &&& (-19 : Int32)) ||| (0 : Int32)) ||| (16 : Int32))) zw)) fu_X2 tyX2 tyX2_ok nmX2 0 rfl rfl (Nat.le_of_ble_eq_true rfl) fw_530 rfl rfl rfl rfl rfl (Nat.le_of_ble_eq_true rfl) fb_ms8 dX2_zn_32 (fun H locs I => ?_)
      refine lv_iload_n hx hb dX2_zn_35 rfl (lv_at hl 1 rfl) ?_
      subst E6
      exact fb_retI (u := (zw)) X I rfl rfl dX2_zn_36
  · have E3 := (E.trans (if_pos c1))
    refine lv_iconst (v := (2 : Int32)) hx hb dX2_zn_12 (by decide) ?_
    refine lv_goto (tgt := 17) hx hb dX2_zn_13 (by decide) ?_
    refine lv_ior hx hb dX2_zn_17 ?_
    refine lv_iload_n hx hb dX2_zn_18 rfl (lv_at hl 1 rfl) ?_
    refine lv_sipush (v := (128 : Int32)) hx hb dX2_zn_19 (by decide) ?_
    refine lv_icmp_lt (tgt := 30) hx hb dX2_zn_22 (by decide) (fun c7 => ?_) (fun c7 => ?_)
    · have E8 := (E3.trans (if_pos c7))
      refine lv_iconst (v := (0 : Int32)) hx hb dX2_zn_30 (by decide) ?_
      refine lv_ior hx hb dX2_zn_31 ?_
      refine fb_put X I (k := 8) (wn := (fb_mw cI zq (fb_sR zs 8 (((((zs).1 8) &&& (-19 : Int32)) ||| (2 : Int32)) ||| (0 : Int32))) zw)) fu_X2 tyX2 tyX2_ok nmX2 0 rfl rfl (Nat.le_of_ble_eq_true rfl) fw_530 rfl rfl rfl rfl rfl (Nat.le_of_ble_eq_true rfl) fb_ms8 dX2_zn_32 (fun H locs I => ?_)
      refine lv_iload_n hx hb dX2_zn_35 rfl (lv_at hl 1 rfl) ?_
      subst E8
      exact fb_retI (u := (zw)) X I rfl rfl dX2_zn_36
    · have E9 := (E3.trans (if_neg c7))
      refine lv_bipush (v := (16 : Int32)) hx hb dX2_zn_25 (by decide) ?_
      refine lv_goto (tgt := 31) hx hb dX2_zn_27 (by decide) ?_
      refine lv_ior hx hb dX2_zn_31 ?_
      refine fb_put X I (k := 8) (wn := (fb_mw cI zq (fb_sR zs 8 (((((zs).1 8) &&& (-19 : Int32)) ||| (2 : Int32)) ||| (16 : Int32))) zw)) fu_X2 tyX2 tyX2_ok nmX2 0 rfl rfl (Nat.le_of_ble_eq_true rfl) fw_530 rfl rfl rfl rfl rfl (Nat.le_of_ble_eq_true rfl) fb_ms8 dX2_zn_32 (fun H locs I => ?_)
      refine lv_iload_n hx hb dX2_zn_35 rfl (lv_at hl 1 rfl) ?_
      subst E9
      exact fb_retI (u := (zw)) X I rfl rfl dX2_zn_36
set_option maxHeartbeats 4000000 in
set_option maxRecDepth 100000 in
theorem c_X2_zn (l : Launch) (D : va_G) (cI cJ : ClassId) (zq : Nat → Nat) (zs : fb_MS) (zw : fb_AR) (l1 : Int32) (sz : Nat)  : Met l yX2_zn (Cond.code yX2_zn cX2_zn 2 (some .int) :: fb_all) ({ frames := 0, cells := 0, slots := 0, locals := 0 } : Room) (fb_PP D (fb_ty D cI cJ) [.ref (zq 0), .int l1] ((fb_mw cI zq zs zw)) sz) (fb_QI D (va_A ((fb_mw cI zq zs zw)) sz) (fun (r : Int32) (_ : fb_AR) => r = ((f_X2_zn zs l1)).1) (fun (t : fb_AR) => (fb_mw cI zq (((f_X2_zn zs l1)).2) (t)))) 0 0 (va_A ((fb_mw cI zq zs zw)) sz) := by
  refine fb_ent (Qf := fun A => (fb_QI D A (fun (r : Int32) (_ : fb_AR) => r = ((f_X2_zn zs l1)).1) (fun (t : fb_AR) => (fb_mw cI zq (((f_X2_zn zs l1)).2) (t))))) (by decide +kernel) (Nat.le_of_ble_eq_true rfl) ?_
  intro p e s m args below meth c A ls X I hl hin
  exact b_X2_zn_0 X  I hl rfl
/-! X2_setFlag -/
def f_X2_setFlag (zs : fb_MS) (l1 : Int32) (l2 : Int32) : fb_MS := (if l2 = 0 then (fb_sR zs 8 (((zs).1 8) &&& (l1 ^^^ (-1 : Int32)))) else (fb_sR zs 8 (((zs).1 8) ||| l1)))
set_option maxHeartbeats 4000000 in
set_option maxRecDepth 100000 in
theorem b_X2_setFlag_0 {p : Program} {l : Launch} {e : Env} {s : State} {m : MethodId} {args : Array Value} {below : List Frame} {meth : Method} {c : Code} {D : va_G} {cI cJ : ClassId} {A : Nat → Prop} {zq : Nat → Nat} {z : fb_MS} (X : fb_Bx p s m args meth c cX2_setFlag RX2 3 none D (fb_ty D cI cJ) A) {zs : fb_MS} {zw : fb_AR} {l1 : Int32} {l2 : Int32} {H : Heap} {locs : List Loc} {ls : Array Slot}  (I : fb_In D A s.heap ((fb_mw cI zq zs zw)) H locs) (hl : lv_has ls 3 [(0, .ref (zq 0)), (1, .int l1), (2, .int l2)]) (E : z = f_X2_setFlag zs l1 l2) : W p l e ({ frames := 0, cells := 0, slots := 0, locals := 0 } : Room) s m args below meth c H locs 0 0 (MQ below (fb_QV D A (fun (_ : fb_AR) => True) (fun (t : fb_AR) => (fb_mw cI zq (z) (t)))) args s 0 0 A) (F0 m 0 ls []) := by
  obtain ⟨hx, hb, hr, hml, hown, hts, hlk, hA, hK, hF⟩ := id X
  refine lv_aload_n hx hb dX2_setFlag_0 rfl (lv_at hl 0 rfl) ?_
  refine lv_iload_n hx hb dX2_setFlag_1 rfl (lv_at hl 2 rfl) ?_
  refine lv_if_eq (tgt := 14) hx hb dX2_setFlag_2 (by decide) (fun c1 => ?_) (fun c1 => ?_)
  · have E2 := (E.trans (if_pos c1))
    refine lv_aload_n hx hb dX2_setFlag_14 rfl (lv_at hl 0 rfl) ?_
    refine fb_get X I (k := 8) fu_X2 0 rfl rfl (Nat.le_of_ble_eq_true rfl) fw_530 rfl rfl dX2_setFlag_15 ?_
    refine lv_iload_n hx hb dX2_setFlag_18 rfl (lv_at hl 1 rfl) ?_
    refine lv_iconst (v := (-1 : Int32)) hx hb dX2_setFlag_19 (by decide) ?_
    refine lv_ixor hx hb dX2_setFlag_20 ?_
    refine lv_iand hx hb dX2_setFlag_21 ?_
    refine fb_put X I (k := 8) (wn := (fb_mw cI zq (fb_sR zs 8 (((zs).1 8) &&& (l1 ^^^ (-1 : Int32)))) zw)) fu_X2 tyX2 tyX2_ok nmX2 0 rfl rfl (Nat.le_of_ble_eq_true rfl) fw_530 rfl rfl rfl rfl rfl (Nat.le_of_ble_eq_true rfl) fb_ms8 dX2_setFlag_22 (fun H locs I => ?_)
    subst E2
    exact fb_retV (u := (zw)) X I trivial dX2_setFlag_25
  · have E3 := (E.trans (if_neg c1))
    refine lv_aload_n hx hb dX2_setFlag_5 rfl (lv_at hl 0 rfl) ?_
    refine fb_get X I (k := 8) fu_X2 0 rfl rfl (Nat.le_of_ble_eq_true rfl) fw_530 rfl rfl dX2_setFlag_6 ?_
    refine lv_iload_n hx hb dX2_setFlag_9 rfl (lv_at hl 1 rfl) ?_
    refine lv_ior hx hb dX2_setFlag_10 ?_
    refine lv_goto (tgt := 22) hx hb dX2_setFlag_11 (by decide) ?_
    refine fb_put X I (k := 8) (wn := (fb_mw cI zq (fb_sR zs 8 (((zs).1 8) ||| l1)) zw)) fu_X2 tyX2 tyX2_ok nmX2 0 rfl rfl (Nat.le_of_ble_eq_true rfl) fw_530 rfl rfl rfl rfl rfl (Nat.le_of_ble_eq_true rfl) fb_ms8 dX2_setFlag_22 (fun H locs I => ?_)
    subst E3
    exact fb_retV (u := (zw)) X I trivial dX2_setFlag_25
set_option maxHeartbeats 4000000 in
set_option maxRecDepth 100000 in
theorem c_X2_setFlag (l : Launch) (D : va_G) (cI cJ : ClassId) (zq : Nat → Nat) (zs : fb_MS) (zw : fb_AR) (l1 : Int32) (l2 : Int32) (sz : Nat)  : Met l yX2_setFlag (Cond.code yX2_setFlag cX2_setFlag 3 none :: fb_all) ({ frames := 0, cells := 0, slots := 0, locals := 0 } : Room) (fb_PP D (fb_ty D cI cJ) [.ref (zq 0), .int l1, .int l2] ((fb_mw cI zq zs zw)) sz) (fb_QV D (va_A ((fb_mw cI zq zs zw)) sz) (fun (_ : fb_AR) => True) (fun (t : fb_AR) => (fb_mw cI zq (((f_X2_setFlag zs l1 l2))) (t)))) 0 0 (va_A ((fb_mw cI zq zs zw)) sz) := by
  refine fb_ent (Qf := fun A => (fb_QV D A (fun (_ : fb_AR) => True) (fun (t : fb_AR) => (fb_mw cI zq (((f_X2_setFlag zs l1 l2))) (t))))) (by decide +kernel) (Nat.le_of_ble_eq_true rfl) ?_
  intro p e s m args below meth c A ls X I hl hin
  exact b_X2_setFlag_0 X  I hl rfl
/-! X2_touch -/
def f_X2_touch (zs : fb_MS) (l1 : Int32) : fb_MS := (fb_sR zs 14 (((zs).1 14) + (1 : Int32)))
set_option maxHeartbeats 4000000 in
set_option maxRecDepth 100000 in
theorem b_X2_touch_0 {p : Program} {l : Launch} {e : Env} {s : State} {m : MethodId} {args : Array Value} {below : List Frame} {meth : Method} {c : Code} {D : va_G} {cI cJ : ClassId} {A : Nat → Prop} {zq : Nat → Nat} {z : fb_MS} (X : fb_Bx p s m args meth c cX2_touch RX2 2 none D (fb_ty D cI cJ) A) {zs : fb_MS} {zw : fb_AR} {l1 : Int32} {H : Heap} {locs : List Loc} {ls : Array Slot}  (I : fb_In D A s.heap ((fb_mw cI zq zs zw)) H locs) (hl : lv_has ls 2 [(0, .ref (zq 0)), (1, .int l1)]) (E : z = f_X2_touch zs l1) : W p l e ({ frames := 1, cells := 0, slots := 0, locals := 22 } : Room) s m args below meth c H locs 0 0 (MQ below (fb_QV D A (fun (_ : fb_AR) => True) (fun (t : fb_AR) => (fb_mw cI zq (z) (t)))) args s 0 0 A) (F0 m 0 ls []) := by
  obtain ⟨hx, hb, hr, hml, hown, hts, hlk, hA, hK, hF⟩ := id X
  refine lv_aload_n hx hb dX2_touch_0 rfl (lv_at hl 0 rfl) ?_
  refine fb_get X I (k := 3) fu_X2 0 rfl rfl (Nat.le_of_ble_eq_true rfl) fw_520 rfl rfl dX2_touch_1 ?_
  refine lv_aload_n hx hb dX2_touch_4 rfl (lv_at hl 0 rfl) ?_
  refine fb_get X I (k := 14) fu_X2 0 rfl rfl (Nat.le_of_ble_eq_true rfl) fw_543 rfl rfl dX2_touch_5 ?_
  refine lv_iload_n hx hb dX2_touch_8 rfl (lv_at hl 1 rfl) ?_
  refine fb_goV (wn := fun (w1 : Unit) => (fb_mw cI zq zs ((f_X11_put 8 zw ((zs).1 14) l1)))) X I (fb_runSN (As := [.ref (zq 4), .int ((zs).1 14), .int l1]) (rest := []) X I hl (c_X11_put l D cI cJ (zq 4) 8 zw ((zs).1 14) l1 _ (by decide)) fw_756 rfl rfl (List.mem_of_getElem? (i := 27) rfl) fw_191 fw_755 (by decide +kernel : fb_hd yX11_put 3) ⟨Nat.le_of_ble_eq_true rfl, Nat.le_of_ble_eq_true rfl⟩ [4] (by decide) rfl rfl rfl (Nat.le_of_ble_eq_true rfl) ⟨Nat.zero_le _, Nat.zero_le _⟩ dX2_touch_9) [4] [0, 1, 2, 3, 5, 6, 7] [0, 1, 2, 3, 7, 4, 5, 6] rfl rfl (by decide) (by decide) (by decide) (fun _ => rfl) ?_
  intro w1 H locs _ I
  refine lv_aload_n hx hb dX2_touch_12 rfl (lv_at hl 0 rfl) ?_
  refine lv_dup hx hb dX2_touch_13 rfl ?_
  refine fb_get X I (k := 14) fu_X2 0 rfl rfl (Nat.le_of_ble_eq_true rfl) fw_543 rfl rfl dX2_touch_14 ?_
  refine lv_iconst (v := (1 : Int32)) hx hb dX2_touch_17 (by decide) ?_
  refine lv_iadd hx hb dX2_touch_18 ?_
  refine fb_put X I (k := 14) (wn := (fb_mw cI zq (fb_sR zs 14 (((zs).1 14) + (1 : Int32))) ((f_X11_put 8 zw ((zs).1 14) l1)))) fu_X2 tyX2 tyX2_ok nmX2 0 rfl rfl (Nat.le_of_ble_eq_true rfl) fw_543 rfl rfl rfl rfl rfl (Nat.le_of_ble_eq_true rfl) fb_ms14 dX2_touch_19 (fun H locs I => ?_)
  subst E
  exact fb_retV (u := (((f_X11_put 8 zw ((zs).1 14) l1)))) X I trivial dX2_touch_22
set_option maxHeartbeats 4000000 in
set_option maxRecDepth 100000 in
theorem c_X2_touch (l : Launch) (D : va_G) (cI cJ : ClassId) (zq : Nat → Nat) (zs : fb_MS) (zw : fb_AR) (l1 : Int32) (sz : Nat)  : Met l yX2_touch (Cond.code yX2_touch cX2_touch 2 none :: fb_all) ({ frames := 1, cells := 0, slots := 0, locals := 22 } : Room) (fb_PP D (fb_ty D cI cJ) [.ref (zq 0), .int l1] ((fb_mw cI zq zs zw)) sz) (fb_QV D (va_A ((fb_mw cI zq zs zw)) sz) (fun (_ : fb_AR) => True) (fun (t : fb_AR) => (fb_mw cI zq (((f_X2_touch zs l1))) (t)))) 0 0 (va_A ((fb_mw cI zq zs zw)) sz) := by
  refine fb_ent (Qf := fun A => (fb_QV D A (fun (_ : fb_AR) => True) (fun (t : fb_AR) => (fb_mw cI zq (((f_X2_touch zs l1))) (t))))) (by decide +kernel) (Nat.le_of_ble_eq_true rfl) ?_
  intro p e s m args below meth c A ls X I hl hin
  exact b_X2_touch_0 X  I hl rfl
/-! X2_push -/
def f_X2_push (zs : fb_MS) (l1 : Int32) : fb_MS := (fb_sR (fb_sM (fb_sR zs 14 (((zs).1 14) + (1 : Int32))) ((f_X11_put 11008 (((fb_sR zs 14 (((zs).1 14) + (1 : Int32)))).2.1) ((256 : Int32) + (((fb_sR zs 14 (((zs).1 14) + (1 : Int32)))).1 7)) l1))) 7 (((((fb_sM (fb_sR zs 14 (((zs).1 14) + (1 : Int32))) ((f_X11_put 11008 (((fb_sR zs 14 (((zs).1 14) + (1 : Int32)))).2.1) ((256 : Int32) + (((fb_sR zs 14 (((zs).1 14) + (1 : Int32)))).1 7)) l1)))).1 7) - (1 : Int32)) &&& (255 : Int32)))
set_option maxHeartbeats 4000000 in
set_option maxRecDepth 100000 in
theorem b_X2_push_0 {p : Program} {l : Launch} {e : Env} {s : State} {m : MethodId} {args : Array Value} {below : List Frame} {meth : Method} {c : Code} {D : va_G} {cI cJ : ClassId} {A : Nat → Prop} {zq : Nat → Nat} {z : fb_MS} (X : fb_Bx p s m args meth c cX2_push RX2 2 none D (fb_ty D cI cJ) A) {zs : fb_MS} {zw : fb_AR} {l1 : Int32} {H : Heap} {locs : List Loc} {ls : Array Slot}  (I : fb_In D A s.heap ((fb_mw cI zq zs zw)) H locs) (hl : lv_has ls 2 [(0, .ref (zq 0)), (1, .int l1)]) (E : z = f_X2_push zs l1) : W p l e ({ frames := 1, cells := 0, slots := 0, locals := 22 } : Room) s m args below meth c H locs 0 0 (MQ below (fb_QV D A (fun (_ : fb_AR) => True) (fun (t : fb_AR) => (fb_mw cI zq (z) (t)))) args s 0 0 A) (F0 m 0 ls []) := by
  obtain ⟨hx, hb, hr, hml, hown, hts, hlk, hA, hK, hF⟩ := id X
  refine lv_aload_n hx hb dX2_push_0 rfl (lv_at hl 0 rfl) ?_
  refine fb_get X I (k := 3) fu_X2 0 rfl rfl (Nat.le_of_ble_eq_true rfl) fw_520 rfl rfl dX2_push_1 ?_
  refine lv_aload_n hx hb dX2_push_4 rfl (lv_at hl 0 rfl) ?_
  refine fb_get X I (k := 14) fu_X2 0 rfl rfl (Nat.le_of_ble_eq_true rfl) fw_543 rfl rfl dX2_push_5 ?_
  refine lv_sipush (v := (256 : Int32)) hx hb dX2_push_8 (by decide) ?_
  refine lv_aload_n hx hb dX2_push_11 rfl (lv_at hl 0 rfl) ?_
  refine fb_get X I (k := 7) fu_X2 0 rfl rfl (Nat.le_of_ble_eq_true rfl) fw_528 rfl rfl dX2_push_12 ?_
  refine lv_iadd hx hb dX2_push_15 ?_
  refine lv_sipush (v := (4096 : Int32)) hx hb dX2_push_16 (by decide) ?_
  refine lv_iadd hx hb dX2_push_19 ?_
  refine fb_goV (wn := fun (w1 : Unit) => (fb_mw cI zq zs ((f_X11_put 8 zw ((zs).1 14) (((256 : Int32) + ((zs).1 7)) + (4096 : Int32)))))) X I (fb_runSN (As := [.ref (zq 4), .int ((zs).1 14), .int (((256 : Int32) + ((zs).1 7)) + (4096 : Int32))]) (rest := []) X I hl (c_X11_put l D cI cJ (zq 4) 8 zw ((zs).1 14) (((256 : Int32) + ((zs).1 7)) + (4096 : Int32)) _ (by decide)) fw_756 rfl rfl (List.mem_of_getElem? (i := 27) rfl) fw_191 fw_755 (by decide +kernel : fb_hd yX11_put 3) ⟨Nat.le_of_ble_eq_true rfl, Nat.le_of_ble_eq_true rfl⟩ [4] (by decide) rfl rfl rfl (Nat.le_of_ble_eq_true rfl) ⟨Nat.zero_le _, Nat.zero_le _⟩ dX2_push_20) [4] [0, 1, 2, 3, 5, 6, 7] [0, 1, 2, 3, 7, 4, 5, 6] rfl rfl (by decide) (by decide) (by decide) (fun _ => rfl) ?_
  intro w1 H locs _ I
  refine lv_aload_n hx hb dX2_push_23 rfl (lv_at hl 0 rfl) ?_
  refine lv_dup hx hb dX2_push_24 rfl ?_
  refine fb_get X I (k := 14) fu_X2 0 rfl rfl (Nat.le_of_ble_eq_true rfl) fw_543 rfl rfl dX2_push_25 ?_
  refine lv_iconst (v := (1 : Int32)) hx hb dX2_push_28 (by decide) ?_
  refine lv_iadd hx hb dX2_push_29 ?_
  refine fb_put X I (k := 14) (wn := (fb_mw cI zq (fb_sR zs 14 (((zs).1 14) + (1 : Int32))) ((f_X11_put 8 zw ((zs).1 14) (((256 : Int32) + ((zs).1 7)) + (4096 : Int32)))))) fu_X2 tyX2 tyX2_ok nmX2 0 rfl rfl (Nat.le_of_ble_eq_true rfl) fw_543 rfl rfl rfl rfl rfl (Nat.le_of_ble_eq_true rfl) fb_ms14 dX2_push_30 (fun H locs I => ?_)
  refine lv_aload_n hx hb dX2_push_33 rfl (lv_at hl 0 rfl) ?_
  refine fb_get X I (k := 0) fu_X2 0 rfl rfl (Nat.le_of_ble_eq_true rfl) fw_514 rfl rfl dX2_push_34 ?_
  refine lv_sipush (v := (256 : Int32)) hx hb dX2_push_37 (by decide) ?_
  refine lv_aload_n hx hb dX2_push_40 rfl (lv_at hl 0 rfl) ?_
  refine fb_get X I (k := 7) fu_X2 0 rfl rfl (Nat.le_of_ble_eq_true rfl) fw_528 rfl rfl dX2_push_41 ?_
  refine lv_iadd hx hb dX2_push_44 ?_
  refine lv_iload_n hx hb dX2_push_45 rfl (lv_at hl 1 rfl) ?_
  refine fb_goV (wn := fun (w2 : Unit) => (fb_mw cI zq (fb_sM (fb_sR zs 14 (((zs).1 14) + (1 : Int32))) ((f_X11_put 11008 (((fb_sR zs 14 (((zs).1 14) + (1 : Int32)))).2.1) ((256 : Int32) + (((fb_sR zs 14 (((zs).1 14) + (1 : Int32)))).1 7)) l1))) ((f_X11_put 8 zw ((zs).1 14) (((256 : Int32) + ((zs).1 7)) + (4096 : Int32)))))) X I (fb_runSN (As := [.ref (zq 1), .int ((256 : Int32) + (((fb_sR zs 14 (((zs).1 14) + (1 : Int32)))).1 7)), .int l1]) (rest := []) X I hl (c_X11_put l D cI cJ (zq 1) 11008 (((fb_sR zs 14 (((zs).1 14) + (1 : Int32)))).2.1) ((256 : Int32) + (((fb_sR zs 14 (((zs).1 14) + (1 : Int32)))).1 7)) l1 _ (by decide)) fw_756 rfl rfl (List.mem_of_getElem? (i := 27) rfl) fw_191 fw_755 (by decide +kernel : fb_hd yX11_put 3) ⟨Nat.le_of_ble_eq_true rfl, Nat.le_of_ble_eq_true rfl⟩ [1] (by decide) rfl rfl rfl (Nat.le_of_ble_eq_true rfl) ⟨Nat.zero_le _, Nat.zero_le _⟩ dX2_push_46) [1] [0, 2, 3, 4, 5, 6, 7] [0, 7, 1, 2, 3, 4, 5, 6] rfl rfl (by decide) (by decide) (by decide) (fun _ => rfl) ?_
  intro w2 H locs _ I
  refine lv_aload_n hx hb dX2_push_49 rfl (lv_at hl 0 rfl) ?_
  refine lv_aload_n hx hb dX2_push_50 rfl (lv_at hl 0 rfl) ?_
  refine fb_get X I (k := 7) fu_X2 0 rfl rfl (Nat.le_of_ble_eq_true rfl) fw_528 rfl rfl dX2_push_51 ?_
  refine lv_iconst (v := (1 : Int32)) hx hb dX2_push_54 (by decide) ?_
  refine lv_isub hx hb dX2_push_55 ?_
  refine lv_sipush (v := (255 : Int32)) hx hb dX2_push_56 (by decide) ?_
  refine lv_iand hx hb dX2_push_59 ?_
  refine fb_put X I (k := 7) (wn := (fb_mw cI zq (fb_sR (fb_sM (fb_sR zs 14 (((zs).1 14) + (1 : Int32))) ((f_X11_put 11008 (((fb_sR zs 14 (((zs).1 14) + (1 : Int32)))).2.1) ((256 : Int32) + (((fb_sR zs 14 (((zs).1 14) + (1 : Int32)))).1 7)) l1))) 7 (((((fb_sM (fb_sR zs 14 (((zs).1 14) + (1 : Int32))) ((f_X11_put 11008 (((fb_sR zs 14 (((zs).1 14) + (1 : Int32)))).2.1) ((256 : Int32) + (((fb_sR zs 14 (((zs).1 14) + (1 : Int32)))).1 7)) l1)))).1 7) - (1 : Int32)) &&& (255 : Int32))) ((f_X11_put 8 zw ((zs).1 14) (((256 : Int32) + ((zs).1 7)) + (4096 : Int32)))))) fu_X2 tyX2 tyX2_ok nmX2 0 rfl rfl (Nat.le_of_ble_eq_true rfl) fw_528 rfl rfl rfl rfl rfl (Nat.le_of_ble_eq_true rfl) fb_ms7 dX2_push_60 (fun H locs I => ?_)
  subst E
  exact fb_retV (u := (((f_X11_put 8 zw ((zs).1 14) (((256 : Int32) + ((zs).1 7)) + (4096 : Int32)))))) X I trivial dX2_push_63
set_option maxHeartbeats 4000000 in
set_option maxRecDepth 100000 in
theorem c_X2_push (l : Launch) (D : va_G) (cI cJ : ClassId) (zq : Nat → Nat) (zs : fb_MS) (zw : fb_AR) (l1 : Int32) (sz : Nat)  : Met l yX2_push (Cond.code yX2_push cX2_push 2 none :: fb_all) ({ frames := 1, cells := 0, slots := 0, locals := 22 } : Room) (fb_PP D (fb_ty D cI cJ) [.ref (zq 0), .int l1] ((fb_mw cI zq zs zw)) sz) (fb_QV D (va_A ((fb_mw cI zq zs zw)) sz) (fun (_ : fb_AR) => True) (fun (t : fb_AR) => (fb_mw cI zq (((f_X2_push zs l1))) (t)))) 0 0 (va_A ((fb_mw cI zq zs zw)) sz) := by
  refine fb_ent (Qf := fun A => (fb_QV D A (fun (_ : fb_AR) => True) (fun (t : fb_AR) => (fb_mw cI zq (((f_X2_push zs l1))) (t))))) (by decide +kernel) (Nat.le_of_ble_eq_true rfl) ?_
  intro p e s m args below meth c A ls X I hl hin
  exact b_X2_push_0 X  I hl rfl
/-! X2_pull -/
def f_X2_pull (zs : fb_MS) : Int32 × fb_MS := ((f_X11_at 11008 (((fb_sR (fb_sR zs 7 ((((zs).1 7) + (1 : Int32)) &&& (255 : Int32))) 14 ((((fb_sR zs 7 ((((zs).1 7) + (1 : Int32)) &&& (255 : Int32)))).1 14) + (1 : Int32)))).2.1) ((256 : Int32) + (((fb_sR (fb_sR zs 7 ((((zs).1 7) + (1 : Int32)) &&& (255 : Int32))) 14 ((((fb_sR zs 7 ((((zs).1 7) + (1 : Int32)) &&& (255 : Int32)))).1 14) + (1 : Int32)))).1 7))), (fb_sR (fb_sR zs 7 ((((zs).1 7) + (1 : Int32)) &&& (255 : Int32))) 14 ((((fb_sR zs 7 ((((zs).1 7) + (1 : Int32)) &&& (255 : Int32)))).1 14) + (1 : Int32))))
set_option maxHeartbeats 4000000 in
set_option maxRecDepth 100000 in
theorem b_X2_pull_0 {p : Program} {l : Launch} {e : Env} {s : State} {m : MethodId} {args : Array Value} {below : List Frame} {meth : Method} {c : Code} {D : va_G} {cI cJ : ClassId} {A : Nat → Prop} {zq : Nat → Nat} {z : Int32 × fb_MS} (X : fb_Bx p s m args meth c cX2_pull RX2 1 (some .int) D (fb_ty D cI cJ) A) {zs : fb_MS} {zw : fb_AR} {H : Heap} {locs : List Loc} {ls : Array Slot}  (I : fb_In D A s.heap ((fb_mw cI zq zs zw)) H locs) (hl : lv_has ls 1 [(0, .ref (zq 0))]) (E : z = f_X2_pull zs) : W p l e ({ frames := 1, cells := 0, slots := 0, locals := 22 } : Room) s m args below meth c H locs 0 0 (MQ below (fb_QI D A (fun (r : Int32) (_ : fb_AR) => r = z.1) (fun (t : fb_AR) => (fb_mw cI zq (z.2) (t)))) args s 0 0 A) (F0 m 0 ls []) := by
  obtain ⟨hx, hb, hr, hml, hown, hts, hlk, hA, hK, hF⟩ := id X
  refine lv_aload_n hx hb dX2_pull_0 rfl (lv_at hl 0 rfl) ?_
  refine lv_aload_n hx hb dX2_pull_1 rfl (lv_at hl 0 rfl) ?_
  refine fb_get X I (k := 7) fu_X2 0 rfl rfl (Nat.le_of_ble_eq_true rfl) fw_528 rfl rfl dX2_pull_2 ?_
  refine lv_iconst (v := (1 : Int32)) hx hb dX2_pull_5 (by decide) ?_
  refine lv_iadd hx hb dX2_pull_6 ?_
  refine lv_sipush (v := (255 : Int32)) hx hb dX2_pull_7 (by decide) ?_
  refine lv_iand hx hb dX2_pull_10 ?_
  refine fb_put X I (k := 7) (wn := (fb_mw cI zq (fb_sR zs 7 ((((zs).1 7) + (1 : Int32)) &&& (255 : Int32))) zw)) fu_X2 tyX2 tyX2_ok nmX2 0 rfl rfl (Nat.le_of_ble_eq_true rfl) fw_528 rfl rfl rfl rfl rfl (Nat.le_of_ble_eq_true rfl) fb_ms7 dX2_pull_11 (fun H locs I => ?_)
  refine lv_aload_n hx hb dX2_pull_14 rfl (lv_at hl 0 rfl) ?_
  refine fb_get X I (k := 3) fu_X2 0 rfl rfl (Nat.le_of_ble_eq_true rfl) fw_520 rfl rfl dX2_pull_15 ?_
  refine lv_aload_n hx hb dX2_pull_18 rfl (lv_at hl 0 rfl) ?_
  refine fb_get X I (k := 14) fu_X2 0 rfl rfl (Nat.le_of_ble_eq_true rfl) fw_543 rfl rfl dX2_pull_19 ?_
  refine lv_sipush (v := (256 : Int32)) hx hb dX2_pull_22 (by decide) ?_
  refine lv_aload_n hx hb dX2_pull_25 rfl (lv_at hl 0 rfl) ?_
  refine fb_get X I (k := 7) fu_X2 0 rfl rfl (Nat.le_of_ble_eq_true rfl) fw_528 rfl rfl dX2_pull_26 ?_
  refine lv_iadd hx hb dX2_pull_29 ?_
  refine fb_goV (wn := fun (w1 : Unit) => (fb_mw cI zq (fb_sR zs 7 ((((zs).1 7) + (1 : Int32)) &&& (255 : Int32))) ((f_X11_put 8 zw (((fb_sR zs 7 ((((zs).1 7) + (1 : Int32)) &&& (255 : Int32)))).1 14) ((256 : Int32) + (((fb_sR zs 7 ((((zs).1 7) + (1 : Int32)) &&& (255 : Int32)))).1 7)))))) X I (fb_runSN (As := [.ref (zq 4), .int (((fb_sR zs 7 ((((zs).1 7) + (1 : Int32)) &&& (255 : Int32)))).1 14), .int ((256 : Int32) + (((fb_sR zs 7 ((((zs).1 7) + (1 : Int32)) &&& (255 : Int32)))).1 7))]) (rest := []) X I hl (c_X11_put l D cI cJ (zq 4) 8 zw (((fb_sR zs 7 ((((zs).1 7) + (1 : Int32)) &&& (255 : Int32)))).1 14) ((256 : Int32) + (((fb_sR zs 7 ((((zs).1 7) + (1 : Int32)) &&& (255 : Int32)))).1 7)) _ (by decide)) fw_756 rfl rfl (List.mem_of_getElem? (i := 27) rfl) fw_191 fw_755 (by decide +kernel : fb_hd yX11_put 3) ⟨Nat.le_of_ble_eq_true rfl, Nat.le_of_ble_eq_true rfl⟩ [4] (by decide) rfl rfl rfl (Nat.le_of_ble_eq_true rfl) ⟨Nat.zero_le _, Nat.zero_le _⟩ dX2_pull_30) [4] [0, 1, 2, 3, 5, 6, 7] [0, 1, 2, 3, 7, 4, 5, 6] rfl rfl (by decide) (by decide) (by decide) (fun _ => rfl) ?_
  intro w1 H locs _ I
  refine lv_aload_n hx hb dX2_pull_33 rfl (lv_at hl 0 rfl) ?_
  refine lv_dup hx hb dX2_pull_34 rfl ?_
  refine fb_get X I (k := 14) fu_X2 0 rfl rfl (Nat.le_of_ble_eq_true rfl) fw_543 rfl rfl dX2_pull_35 ?_
  refine lv_iconst (v := (1 : Int32)) hx hb dX2_pull_38 (by decide) ?_
  refine lv_iadd hx hb dX2_pull_39 ?_
  refine fb_put X I (k := 14) (wn := (fb_mw cI zq (fb_sR (fb_sR zs 7 ((((zs).1 7) + (1 : Int32)) &&& (255 : Int32))) 14 ((((fb_sR zs 7 ((((zs).1 7) + (1 : Int32)) &&& (255 : Int32)))).1 14) + (1 : Int32))) ((f_X11_put 8 zw (((fb_sR zs 7 ((((zs).1 7) + (1 : Int32)) &&& (255 : Int32)))).1 14) ((256 : Int32) + (((fb_sR zs 7 ((((zs).1 7) + (1 : Int32)) &&& (255 : Int32)))).1 7)))))) fu_X2 tyX2 tyX2_ok nmX2 0 rfl rfl (Nat.le_of_ble_eq_true rfl) fw_543 rfl rfl rfl rfl rfl (Nat.le_of_ble_eq_true rfl) fb_ms14 dX2_pull_40 (fun H locs I => ?_)
  refine lv_aload_n hx hb dX2_pull_43 rfl (lv_at hl 0 rfl) ?_
  refine fb_get X I (k := 0) fu_X2 0 rfl rfl (Nat.le_of_ble_eq_true rfl) fw_514 rfl rfl dX2_pull_44 ?_
  refine lv_sipush (v := (256 : Int32)) hx hb dX2_pull_47 (by decide) ?_
  refine lv_aload_n hx hb dX2_pull_50 rfl (lv_at hl 0 rfl) ?_
  refine fb_get X I (k := 7) fu_X2 0 rfl rfl (Nat.le_of_ble_eq_true rfl) fw_528 rfl rfl dX2_pull_51 ?_
  refine lv_iadd hx hb dX2_pull_54 ?_
  refine fb_roI X I (fb_runSN (As := [.ref (zq 1), .int ((256 : Int32) + (((fb_sR (fb_sR zs 7 ((((zs).1 7) + (1 : Int32)) &&& (255 : Int32))) 14 ((((fb_sR zs 7 ((((zs).1 7) + (1 : Int32)) &&& (255 : Int32)))).1 14) + (1 : Int32)))).1 7))]) (rest := []) X I hl (c_X11_at l D cI cJ (zq 1) 11008 (((fb_sR (fb_sR zs 7 ((((zs).1 7) + (1 : Int32)) &&& (255 : Int32))) 14 ((((fb_sR zs 7 ((((zs).1 7) + (1 : Int32)) &&& (255 : Int32)))).1 14) + (1 : Int32)))).2.1) ((256 : Int32) + (((fb_sR (fb_sR zs 7 ((((zs).1 7) + (1 : Int32)) &&& (255 : Int32))) 14 ((((fb_sR zs 7 ((((zs).1 7) + (1 : Int32)) &&& (255 : Int32)))).1 14) + (1 : Int32)))).1 7)) _ (by decide)) fw_686 rfl rfl (List.mem_of_getElem? (i := 9) rfl) fw_191 fw_685 (by decide +kernel : fb_hd yX11_at 2) ⟨Nat.le_of_ble_eq_true rfl, Nat.le_of_ble_eq_true rfl⟩ [1] (by decide) rfl rfl rfl (Nat.le_of_ble_eq_true rfl) ⟨Nat.zero_le _, Nat.zero_le _⟩ dX2_pull_55) ?_
  subst E
  exact fb_retI (u := (((f_X11_put 8 zw (((fb_sR zs 7 ((((zs).1 7) + (1 : Int32)) &&& (255 : Int32)))).1 14) ((256 : Int32) + (((fb_sR zs 7 ((((zs).1 7) + (1 : Int32)) &&& (255 : Int32)))).1 7)))))) X I rfl rfl dX2_pull_58
set_option maxHeartbeats 4000000 in
set_option maxRecDepth 100000 in
theorem c_X2_pull (l : Launch) (D : va_G) (cI cJ : ClassId) (zq : Nat → Nat) (zs : fb_MS) (zw : fb_AR)  (sz : Nat)  : Met l yX2_pull (Cond.code yX2_pull cX2_pull 1 (some .int) :: fb_all) ({ frames := 1, cells := 0, slots := 0, locals := 22 } : Room) (fb_PP D (fb_ty D cI cJ) [.ref (zq 0)] ((fb_mw cI zq zs zw)) sz) (fb_QI D (va_A ((fb_mw cI zq zs zw)) sz) (fun (r : Int32) (_ : fb_AR) => r = ((f_X2_pull zs)).1) (fun (t : fb_AR) => (fb_mw cI zq (((f_X2_pull zs)).2) (t)))) 0 0 (va_A ((fb_mw cI zq zs zw)) sz) := by
  refine fb_ent (Qf := fun A => (fb_QI D A (fun (r : Int32) (_ : fb_AR) => r = ((f_X2_pull zs)).1) (fun (t : fb_AR) => (fb_mw cI zq (((f_X2_pull zs)).2) (t))))) (by decide +kernel) (Nat.le_of_ble_eq_true rfl) ?_
  intro p e s m args below meth c A ls X I hl hin
  exact b_X2_pull_0 X  I hl rfl
/-! X2_pushAddress -/
def f_X2_pushAddress (zs : fb_MS) (l1 : Int32) : fb_MS := ((f_X2_push ((f_X2_push zs (l1 / (256 : Int32)))) (l1 - l1 / (256 : Int32) * (256 : Int32))))
set_option maxHeartbeats 4000000 in
set_option maxRecDepth 100000 in
theorem b_X2_pushAddress_0 {p : Program} {l : Launch} {e : Env} {s : State} {m : MethodId} {args : Array Value} {below : List Frame} {meth : Method} {c : Code} {D : va_G} {cI cJ : ClassId} {A : Nat → Prop} {zq : Nat → Nat} {z : fb_MS} (X : fb_Bx p s m args meth c cX2_pushAddress RX2 2 none D (fb_ty D cI cJ) A) {zs : fb_MS} {zw : fb_AR} {l1 : Int32} {H : Heap} {locs : List Loc} {ls : Array Slot}  (I : fb_In D A s.heap ((fb_mw cI zq zs zw)) H locs) (hl : lv_has ls 2 [(0, .ref (zq 0)), (1, .int l1)]) (E : z = f_X2_pushAddress zs l1) : W p l e ({ frames := 2, cells := 0, slots := 0, locals := 43 } : Room) s m args below meth c H locs 0 0 (MQ below (fb_QV D A (fun (_ : fb_AR) => True) (fun (t : fb_AR) => (fb_mw cI zq (z) (t)))) args s 0 0 A) (F0 m 0 ls []) := by
  obtain ⟨hx, hb, hr, hml, hown, hts, hlk, hA, hK, hF⟩ := id X
  refine lv_aload_n hx hb dX2_pushAddress_0 rfl (lv_at hl 0 rfl) ?_
  refine lv_iload_n hx hb dX2_pushAddress_1 rfl (lv_at hl 1 rfl) ?_
  refine lv_sipush (v := (256 : Int32)) hx hb dX2_pushAddress_2 (by decide) ?_
  refine lv_idiv hx hb dX2_pushAddress_5 (by decide) ?_
  refine fb_goV (wn := fun (w1 : fb_AR) => (fb_mw cI zq ((f_X2_push zs (l1 / (256 : Int32)))) (w1))) X I (fb_runV (As := [.int (l1 / (256 : Int32))]) (rest := []) (q0 := 0) X I hl (c_X2_push l D cI cJ zq zs zw (l1 / (256 : Int32)) _) (fb_goodV fw_1207 fw_1209 fw_44 fw_198 fw_1210) rfl rfl rfl (by decide +kernel : fb_hd yX2_push 1) ⟨Nat.le_of_ble_eq_true rfl, Nat.le_of_ble_eq_true rfl⟩ [0, 1, 2, 3, 4, 5, 6, 7] (by decide) rfl rfl rfl rfl rfl rfl (Nat.le_of_ble_eq_true rfl) ⟨Nat.zero_le _, Nat.zero_le _⟩ dX2_pushAddress_6) [0, 1, 2, 3, 4, 5, 6, 7] [] [0, 1, 2, 3, 4, 5, 6, 7] rfl rfl (by decide) (by decide) (by decide) (fun _ => rfl) ?_
  intro w1 H locs _ I
  refine lv_aload_n hx hb dX2_pushAddress_9 rfl (lv_at hl 0 rfl) ?_
  refine lv_iload_n hx hb dX2_pushAddress_10 rfl (lv_at hl 1 rfl) ?_
  refine lv_sipush (v := (256 : Int32)) hx hb dX2_pushAddress_11 (by decide) ?_
  refine lv_irem hx hb dX2_pushAddress_14 (by decide) ?_
  refine fb_goV (wn := fun (w2 : fb_AR) => (fb_mw cI zq ((f_X2_push ((f_X2_push zs (l1 / (256 : Int32)))) (l1 - l1 / (256 : Int32) * (256 : Int32)))) (w2))) X I (fb_runV (As := [.int (l1 - l1 / (256 : Int32) * (256 : Int32))]) (rest := []) (q0 := 0) X I hl (c_X2_push l D cI cJ zq ((f_X2_push zs (l1 / (256 : Int32)))) (w1) (l1 - l1 / (256 : Int32) * (256 : Int32)) _) (fb_goodV fw_1207 fw_1209 fw_44 fw_198 fw_1210) rfl rfl rfl (by decide +kernel : fb_hd yX2_push 1) ⟨Nat.le_of_ble_eq_true rfl, Nat.le_of_ble_eq_true rfl⟩ [0, 1, 2, 3, 4, 5, 6, 7] (by decide) rfl rfl rfl rfl rfl rfl (Nat.le_of_ble_eq_true rfl) ⟨Nat.zero_le _, Nat.zero_le _⟩ dX2_pushAddress_15) [0, 1, 2, 3, 4, 5, 6, 7] [] [0, 1, 2, 3, 4, 5, 6, 7] rfl rfl (by decide) (by decide) (by decide) (fun _ => rfl) ?_
  intro w2 H locs _ I
  subst E
  exact fb_retV (u := ((w2))) X I trivial dX2_pushAddress_18
set_option maxHeartbeats 4000000 in
set_option maxRecDepth 100000 in
theorem c_X2_pushAddress (l : Launch) (D : va_G) (cI cJ : ClassId) (zq : Nat → Nat) (zs : fb_MS) (zw : fb_AR) (l1 : Int32) (sz : Nat)  : Met l yX2_pushAddress (Cond.code yX2_pushAddress cX2_pushAddress 2 none :: fb_all) ({ frames := 2, cells := 0, slots := 0, locals := 43 } : Room) (fb_PP D (fb_ty D cI cJ) [.ref (zq 0), .int l1] ((fb_mw cI zq zs zw)) sz) (fb_QV D (va_A ((fb_mw cI zq zs zw)) sz) (fun (_ : fb_AR) => True) (fun (t : fb_AR) => (fb_mw cI zq (((f_X2_pushAddress zs l1))) (t)))) 0 0 (va_A ((fb_mw cI zq zs zw)) sz) := by
  refine fb_ent (Qf := fun A => (fb_QV D A (fun (_ : fb_AR) => True) (fun (t : fb_AR) => (fb_mw cI zq (((f_X2_pushAddress zs l1))) (t))))) (by decide +kernel) (Nat.le_of_ble_eq_true rfl) ?_
  intro p e s m args below meth c A ls X I hl hin
  exact b_X2_pushAddress_0 X  I hl rfl
/-! X2_pullAddress -/
def f_X2_pullAddress (zs : fb_MS) : Int32 × fb_MS := (((((f_X2_pull zs).1) + ((256 : Int32) * ((f_X2_pull ((f_X2_pull zs).2)).1))) &&& (4095 : Int32)), ((f_X2_pull ((f_X2_pull zs).2)).2))
set_option maxHeartbeats 4000000 in
set_option maxRecDepth 100000 in
theorem b_X2_pullAddress_0 {p : Program} {l : Launch} {e : Env} {s : State} {m : MethodId} {args : Array Value} {below : List Frame} {meth : Method} {c : Code} {D : va_G} {cI cJ : ClassId} {A : Nat → Prop} {zq : Nat → Nat} {z : Int32 × fb_MS} (X : fb_Bx p s m args meth c cX2_pullAddress RX2 2 (some .int) D (fb_ty D cI cJ) A) {zs : fb_MS} {zw : fb_AR} {H : Heap} {locs : List Loc} {ls : Array Slot}  (I : fb_In D A s.heap ((fb_mw cI zq zs zw)) H locs) (hl : lv_has ls 2 [(0, .ref (zq 0))]) (E : z = f_X2_pullAddress zs) : W p l e ({ frames := 2, cells := 0, slots := 0, locals := 42 } : Room) s m args below meth c H locs 0 0 (MQ below (fb_QI D A (fun (r : Int32) (_ : fb_AR) => r = z.1) (fun (t : fb_AR) => (fb_mw cI zq (z.2) (t)))) args s 0 0 A) (F0 m 0 ls []) := by
  obtain ⟨hx, hb, hr, hml, hown, hts, hlk, hA, hK, hF⟩ := id X
  refine lv_aload_n hx hb dX2_pullAddress_0 rfl (lv_at hl 0 rfl) ?_
  refine fb_goI (wn := fun (w1 : fb_AR) => (fb_mw cI zq ((f_X2_pull zs).2) (w1))) X I (fb_runV (As := []) (rest := []) (q0 := 0) X I hl (c_X2_pull l D cI cJ zq zs zw _) (fb_goodV fw_1238 fw_1240 fw_49 fw_198 fw_1241) rfl rfl rfl (by decide +kernel : fb_hd yX2_pull 0) ⟨Nat.le_of_ble_eq_true rfl, Nat.le_of_ble_eq_true rfl⟩ [0, 1, 2, 3, 4, 5, 6, 7] (by decide) rfl rfl rfl rfl rfl rfl (Nat.le_of_ble_eq_true rfl) ⟨Nat.zero_le _, Nat.zero_le _⟩ dX2_pullAddress_1) [0, 1, 2, 3, 4, 5, 6, 7] [] [0, 1, 2, 3, 4, 5, 6, 7] rfl rfl (by decide) (by decide) (by decide) (fun _ => rfl) ?_
  intro r2 w1 H locs e0 I
  subst e0
  refine lv_istore_n (lv' := [(1, .int ((f_X2_pull zs).1)), (0, .ref (zq 0))]) hx hb dX2_pullAddress_4 rfl hl (by decide) rfl (fun ls hl => ?_)
  refine lv_iload_n hx hb dX2_pullAddress_5 rfl (lv_at hl 0 rfl) ?_
  refine lv_sipush (v := (256 : Int32)) hx hb dX2_pullAddress_6 (by decide) ?_
  refine lv_aload_n hx hb dX2_pullAddress_9 rfl (lv_at hl 1 rfl) ?_
  refine fb_goI (wn := fun (w3 : fb_AR) => (fb_mw cI zq ((f_X2_pull ((f_X2_pull zs).2)).2) (w3))) X I (fb_runV (As := []) (rest := [.int (256 : Int32), .int ((f_X2_pull zs).1)]) (q0 := 0) X I hl (c_X2_pull l D cI cJ zq ((f_X2_pull zs).2) (w1) _) (fb_goodV fw_1238 fw_1240 fw_49 fw_198 fw_1241) rfl rfl rfl (by decide +kernel : fb_hd yX2_pull 0) ⟨Nat.le_of_ble_eq_true rfl, Nat.le_of_ble_eq_true rfl⟩ [0, 1, 2, 3, 4, 5, 6, 7] (by decide) rfl rfl rfl rfl rfl rfl (Nat.le_of_ble_eq_true rfl) ⟨Nat.zero_le _, Nat.zero_le _⟩ dX2_pullAddress_10) [0, 1, 2, 3, 4, 5, 6, 7] [] [0, 1, 2, 3, 4, 5, 6, 7] rfl rfl (by decide) (by decide) (by decide) (fun _ => rfl) ?_
  intro r4 w3 H locs e0 I
  subst e0
  refine lv_imul hx hb dX2_pullAddress_13 ?_
  refine lv_iadd hx hb dX2_pullAddress_14 ?_
  refine lv_sipush (v := (4095 : Int32)) hx hb dX2_pullAddress_15 (by decide) ?_
  refine lv_iand hx hb dX2_pullAddress_18 ?_
  subst E
  exact fb_retI (u := ((w3))) X I rfl rfl dX2_pullAddress_19
set_option maxHeartbeats 4000000 in
set_option maxRecDepth 100000 in
theorem c_X2_pullAddress (l : Launch) (D : va_G) (cI cJ : ClassId) (zq : Nat → Nat) (zs : fb_MS) (zw : fb_AR)  (sz : Nat)  : Met l yX2_pullAddress (Cond.code yX2_pullAddress cX2_pullAddress 2 (some .int) :: fb_all) ({ frames := 2, cells := 0, slots := 0, locals := 42 } : Room) (fb_PP D (fb_ty D cI cJ) [.ref (zq 0)] ((fb_mw cI zq zs zw)) sz) (fb_QI D (va_A ((fb_mw cI zq zs zw)) sz) (fun (r : Int32) (_ : fb_AR) => r = ((f_X2_pullAddress zs)).1) (fun (t : fb_AR) => (fb_mw cI zq (((f_X2_pullAddress zs)).2) (t)))) 0 0 (va_A ((fb_mw cI zq zs zw)) sz) := by
  refine fb_ent (Qf := fun A => (fb_QI D A (fun (r : Int32) (_ : fb_AR) => r = ((f_X2_pullAddress zs)).1) (fun (t : fb_AR) => (fb_mw cI zq (((f_X2_pullAddress zs)).2) (t))))) (by decide +kernel) (Nat.le_of_ble_eq_true rfl) ?_
  intro p e s m args below meth c A ls X I hl hin
  exact b_X2_pullAddress_0 X  I hl rfl
/-! X2_endCall -/
def f_X2_endCall (zs : fb_MS) : fb_MS := (if ((zs).1 13) ≤ 0 then zs else (fb_sR zs 13 (((zs).1 13) - (1 : Int32))))
set_option maxHeartbeats 4000000 in
set_option maxRecDepth 100000 in
theorem b_X2_endCall_0 {p : Program} {l : Launch} {e : Env} {s : State} {m : MethodId} {args : Array Value} {below : List Frame} {meth : Method} {c : Code} {D : va_G} {cI cJ : ClassId} {A : Nat → Prop} {zq : Nat → Nat} {z : fb_MS} (X : fb_Bx p s m args meth c cX2_endCall RX2 1 none D (fb_ty D cI cJ) A) {zs : fb_MS} {zw : fb_AR} {H : Heap} {locs : List Loc} {ls : Array Slot}  (I : fb_In D A s.heap ((fb_mw cI zq zs zw)) H locs) (hl : lv_has ls 1 [(0, .ref (zq 0))]) (E : z = f_X2_endCall zs) : W p l e ({ frames := 0, cells := 0, slots := 0, locals := 0 } : Room) s m args below meth c H locs 0 0 (MQ below (fb_QV D A (fun (_ : fb_AR) => True) (fun (t : fb_AR) => (fb_mw cI zq (z) (t)))) args s 0 0 A) (F0 m 0 ls []) := by
  obtain ⟨hx, hb, hr, hml, hown, hts, hlk, hA, hK, hF⟩ := id X
  refine lv_aload_n hx hb dX2_endCall_0 rfl (lv_at hl 0 rfl) ?_
  refine fb_get X I (k := 13) fu_X2 0 rfl rfl (Nat.le_of_ble_eq_true rfl) fw_541 rfl rfl dX2_endCall_1 ?_
  refine lv_if_le (tgt := 17) hx hb dX2_endCall_4 (by decide) (fun c1 => ?_) (fun c1 => ?_)
  · have E2 := (E.trans (if_pos c1))
    subst E2
    exact fb_retV (u := (zw)) X I trivial dX2_endCall_17
  · have E3 := (E.trans (if_neg c1))
    refine lv_aload_n hx hb dX2_endCall_7 rfl (lv_at hl 0 rfl) ?_
    refine lv_dup hx hb dX2_endCall_8 rfl ?_
    refine fb_get X I (k := 13) fu_X2 0 rfl rfl (Nat.le_of_ble_eq_true rfl) fw_541 rfl rfl dX2_endCall_9 ?_
    refine lv_iconst (v := (1 : Int32)) hx hb dX2_endCall_12 (by decide) ?_
    refine lv_isub hx hb dX2_endCall_13 ?_
    refine fb_put X I (k := 13) (wn := (fb_mw cI zq (fb_sR zs 13 (((zs).1 13) - (1 : Int32))) zw)) fu_X2 tyX2 tyX2_ok nmX2 0 rfl rfl (Nat.le_of_ble_eq_true rfl) fw_541 rfl rfl rfl rfl rfl (Nat.le_of_ble_eq_true rfl) fb_ms13 dX2_endCall_14 (fun H locs I => ?_)
    subst E3
    exact fb_retV (u := (zw)) X I trivial dX2_endCall_17
set_option maxHeartbeats 4000000 in
set_option maxRecDepth 100000 in
theorem c_X2_endCall (l : Launch) (D : va_G) (cI cJ : ClassId) (zq : Nat → Nat) (zs : fb_MS) (zw : fb_AR)  (sz : Nat)  : Met l yX2_endCall (Cond.code yX2_endCall cX2_endCall 1 none :: fb_all) ({ frames := 0, cells := 0, slots := 0, locals := 0 } : Room) (fb_PP D (fb_ty D cI cJ) [.ref (zq 0)] ((fb_mw cI zq zs zw)) sz) (fb_QV D (va_A ((fb_mw cI zq zs zw)) sz) (fun (_ : fb_AR) => True) (fun (t : fb_AR) => (fb_mw cI zq (((f_X2_endCall zs))) (t)))) 0 0 (va_A ((fb_mw cI zq zs zw)) sz) := by
  refine fb_ent (Qf := fun A => (fb_QV D A (fun (_ : fb_AR) => True) (fun (t : fb_AR) => (fb_mw cI zq (((f_X2_endCall zs))) (t))))) (by decide +kernel) (Nat.le_of_ble_eq_true rfl) ?_
  intro p e s m args below meth c A ls X I hl hin
  exact b_X2_endCall_0 X  I hl rfl
/-! X2_beginCall -/
def f_X2_beginCall_30 (zs : fb_MS) (l1 : Int32) : fb_MS := (fb_sR (fb_sK zs ((f_X11_put 40 ((zs).2.2.2.1) ((zs).1 13) l1))) 13 ((((fb_sK zs ((f_X11_put 40 ((zs).2.2.2.1) ((zs).1 13) l1)))).1 13) + (1 : Int32)))
def f_X2_beginCall (zs : fb_MS) (l1 : Int32) : fb_MS := (if ((zs).1 13) < (40 : Int32) then f_X2_beginCall_30 zs l1 else f_X2_beginCall_30 (fb_sR (fb_sK zs (va_cpy ((zs).2.2.2.1) ((zs).2.2.2.1) 1 0 39)) 13 (39 : Int32)) l1)
set_option maxHeartbeats 4000000 in
set_option maxRecDepth 100000 in
theorem b_X2_beginCall_30 {p : Program} {l : Launch} {e : Env} {s : State} {m : MethodId} {args : Array Value} {below : List Frame} {meth : Method} {c : Code} {D : va_G} {cI cJ : ClassId} {A : Nat → Prop} {zq : Nat → Nat} {z : fb_MS} (X : fb_Bx p s m args meth c cX2_beginCall RX2 2 none D (fb_ty D cI cJ) A) {zs : fb_MS} {zw : fb_AR} {l1 : Int32} {H : Heap} {locs : List Loc} {ls : Array Slot}  (I : fb_In D A s.heap ((fb_mw cI zq zs zw)) H locs) (hl : lv_has ls 2 [(0, .ref (zq 0)), (1, .int l1)]) (E : z = f_X2_beginCall_30 zs l1) : W p l e ({ frames := 1, cells := 0, slots := 0, locals := 40 } : Room) s m args below meth c H locs 0 0 (MQ below (fb_QV D A (fun (_ : fb_AR) => True) (fun (t : fb_AR) => (fb_mw cI zq (z) (t)))) args s 0 0 A) (F0 m 30 ls []) := by
  obtain ⟨hx, hb, hr, hml, hown, hts, hlk, hA, hK, hF⟩ := id X
  refine lv_aload_n hx hb dX2_beginCall_30 rfl (lv_at hl 0 rfl) ?_
  refine fb_get X I (k := 2) fu_X2 0 rfl rfl (Nat.le_of_ble_eq_true rfl) fw_518 rfl rfl dX2_beginCall_31 ?_
  refine lv_aload_n hx hb dX2_beginCall_34 rfl (lv_at hl 0 rfl) ?_
  refine fb_get X I (k := 13) fu_X2 0 rfl rfl (Nat.le_of_ble_eq_true rfl) fw_541 rfl rfl dX2_beginCall_35 ?_
  refine lv_iload_n hx hb dX2_beginCall_38 rfl (lv_at hl 1 rfl) ?_
  refine fb_goV (wn := fun (w4 : Unit) => (fb_mw cI zq (fb_sK zs ((f_X11_put 40 ((zs).2.2.2.1) ((zs).1 13) l1))) zw)) X I (fb_runSN (As := [.ref (zq 3), .int ((zs).1 13), .int l1]) (rest := []) X I hl (c_X11_put l D cI cJ (zq 3) 40 ((zs).2.2.2.1) ((zs).1 13) l1 _ (by decide)) fw_756 rfl rfl (List.mem_of_getElem? (i := 27) rfl) fw_191 fw_755 (by decide +kernel : fb_hd yX11_put 3) ⟨Nat.le_of_ble_eq_true rfl, Nat.le_of_ble_eq_true rfl⟩ [3] (by decide) rfl rfl rfl (Nat.le_of_ble_eq_true rfl) ⟨Nat.zero_le _, Nat.zero_le _⟩ dX2_beginCall_39) [3] [0, 1, 2, 4, 5, 6, 7] [0, 1, 2, 7, 3, 4, 5, 6] rfl rfl (by decide) (by decide) (by decide) (fun _ => rfl) ?_
  intro w4 H locs _ I
  refine lv_aload_n hx hb dX2_beginCall_42 rfl (lv_at hl 0 rfl) ?_
  refine lv_dup hx hb dX2_beginCall_43 rfl ?_
  refine fb_get X I (k := 13) fu_X2 0 rfl rfl (Nat.le_of_ble_eq_true rfl) fw_541 rfl rfl dX2_beginCall_44 ?_
  refine lv_iconst (v := (1 : Int32)) hx hb dX2_beginCall_47 (by decide) ?_
  refine lv_iadd hx hb dX2_beginCall_48 ?_
  refine fb_put X I (k := 13) (wn := (fb_mw cI zq (fb_sR (fb_sK zs ((f_X11_put 40 ((zs).2.2.2.1) ((zs).1 13) l1))) 13 ((((fb_sK zs ((f_X11_put 40 ((zs).2.2.2.1) ((zs).1 13) l1)))).1 13) + (1 : Int32))) zw)) fu_X2 tyX2 tyX2_ok nmX2 0 rfl rfl (Nat.le_of_ble_eq_true rfl) fw_541 rfl rfl rfl rfl rfl (Nat.le_of_ble_eq_true rfl) fb_ms13 dX2_beginCall_49 (fun H locs I => ?_)
  subst E
  exact fb_retV (u := (zw)) X I trivial dX2_beginCall_52
set_option maxHeartbeats 4000000 in
set_option maxRecDepth 100000 in
theorem b_X2_beginCall_0 {p : Program} {l : Launch} {e : Env} {s : State} {m : MethodId} {args : Array Value} {below : List Frame} {meth : Method} {c : Code} {D : va_G} {cI cJ : ClassId} {A : Nat → Prop} {zq : Nat → Nat} {z : fb_MS} (X : fb_Bx p s m args meth c cX2_beginCall RX2 2 none D (fb_ty D cI cJ) A) {zs : fb_MS} {zw : fb_AR} {l1 : Int32} {H : Heap} {locs : List Loc} {ls : Array Slot}  (I : fb_In D A s.heap ((fb_mw cI zq zs zw)) H locs) (hl : lv_has ls 2 [(0, .ref (zq 0)), (1, .int l1)]) (E : z = f_X2_beginCall zs l1) : W p l e ({ frames := 1, cells := 0, slots := 0, locals := 40 } : Room) s m args below meth c H locs 0 0 (MQ below (fb_QV D A (fun (_ : fb_AR) => True) (fun (t : fb_AR) => (fb_mw cI zq (z) (t)))) args s 0 0 A) (F0 m 0 ls []) := by
  obtain ⟨hx, hb, hr, hml, hown, hts, hlk, hA, hK, hF⟩ := id X
  refine lv_aload_n hx hb dX2_beginCall_0 rfl (lv_at hl 0 rfl) ?_
  refine fb_get X I (k := 13) fu_X2 0 rfl rfl (Nat.le_of_ble_eq_true rfl) fw_541 rfl rfl dX2_beginCall_1 ?_
  refine lv_bipush (v := (40 : Int32)) hx hb dX2_beginCall_4 (by decide) ?_
  refine lv_icmp_lt (tgt := 30) hx hb dX2_beginCall_6 (by decide) (fun c1 => ?_) (fun c1 => ?_)
  · have E2 := (E.trans (if_pos c1))
    exact b_X2_beginCall_30 X  (l1 := l1) I (lv_sub hl [0, 1] rfl) E2
  · have E3 := (E.trans (if_neg c1))
    refine lv_aload_n hx hb dX2_beginCall_9 rfl (lv_at hl 0 rfl) ?_
    refine fb_get X I (k := 2) fu_X2 0 rfl rfl (Nat.le_of_ble_eq_true rfl) fw_518 rfl rfl dX2_beginCall_10 ?_
    refine lv_iconst (v := (1 : Int32)) hx hb dX2_beginCall_13 (by decide) ?_
    refine lv_aload_n hx hb dX2_beginCall_14 rfl (lv_at hl 0 rfl) ?_
    refine fb_get X I (k := 2) fu_X2 0 rfl rfl (Nat.le_of_ble_eq_true rfl) fw_518 rfl rfl dX2_beginCall_15 ?_
    refine lv_iconst (v := (0 : Int32)) hx hb dX2_beginCall_18 (by decide) ?_
    refine lv_bipush (v := (39 : Int32)) hx hb dX2_beginCall_19 (by decide) ?_
    refine fb_copy (wn := (fb_mw cI zq (fb_sK zs (va_cpy ((zs).2.2.2.1) ((zs).2.2.2.1) 1 0 39)) zw)) X I hl fw_1179 fw_1131 fw_1130 fw_216 3 3 0 0 rfl rfl rfl rfl (by decide) (by decide) (by decide) (by decide) (by decide) rfl (Nat.le_of_ble_eq_true rfl) (Nat.le_of_ble_eq_true rfl) dX2_beginCall_21 (fun H locs I => ?_)
    refine lv_aload_n hx hb dX2_beginCall_24 rfl (lv_at hl 0 rfl) ?_
    refine lv_bipush (v := (39 : Int32)) hx hb dX2_beginCall_25 (by decide) ?_
    refine fb_put X I (k := 13) (wn := (fb_mw cI zq (fb_sR (fb_sK zs (va_cpy ((zs).2.2.2.1) ((zs).2.2.2.1) 1 0 39)) 13 (39 : Int32)) zw)) fu_X2 tyX2 tyX2_ok nmX2 0 rfl rfl (Nat.le_of_ble_eq_true rfl) fw_541 rfl rfl rfl rfl rfl (Nat.le_of_ble_eq_true rfl) fb_ms13 dX2_beginCall_27 (fun H locs I => ?_)
    exact b_X2_beginCall_30 X  (l1 := l1) I (lv_sub hl [0, 1] rfl) E3
set_option maxHeartbeats 4000000 in
set_option maxRecDepth 100000 in
theorem c_X2_beginCall (l : Launch) (D : va_G) (cI cJ : ClassId) (zq : Nat → Nat) (zs : fb_MS) (zw : fb_AR) (l1 : Int32) (sz : Nat)  : Met l yX2_beginCall (Cond.code yX2_beginCall cX2_beginCall 2 none :: fb_all) ({ frames := 1, cells := 0, slots := 0, locals := 40 } : Room) (fb_PP D (fb_ty D cI cJ) [.ref (zq 0), .int l1] ((fb_mw cI zq zs zw)) sz) (fb_QV D (va_A ((fb_mw cI zq zs zw)) sz) (fun (_ : fb_AR) => True) (fun (t : fb_AR) => (fb_mw cI zq (((f_X2_beginCall zs l1))) (t)))) 0 0 (va_A ((fb_mw cI zq zs zw)) sz) := by
  refine fb_ent (Qf := fun A => (fb_QV D A (fun (_ : fb_AR) => True) (fun (t : fb_AR) => (fb_mw cI zq (((f_X2_beginCall zs l1))) (t))))) (by decide +kernel) (Nat.le_of_ble_eq_true rfl) ?_
  intro p e s m args below meth c A ls X I hl hin
  exact b_X2_beginCall_0 X  I hl rfl
/-! X2_enter -/
def f_X2_enter (zs : fb_MS) (l1 : Int32) (l2 : Int32) : fb_MS := (fb_sR ((f_X2_touch ((f_X2_touch (fb_sR ((f_X2_push ((f_X2_push ((f_X2_push ((f_X2_beginCall zs l2)) (((((f_X2_beginCall zs l2))).1 9) / (256 : Int32)))) (((((f_X2_push ((f_X2_beginCall zs l2)) (((((f_X2_beginCall zs l2))).1 9) / (256 : Int32))))).1 9) - ((((f_X2_push ((f_X2_beginCall zs l2)) (((((f_X2_beginCall zs l2))).1 9) / (256 : Int32))))).1 9) / (256 : Int32) * (256 : Int32)))) ((((f_X2_push ((f_X2_push ((f_X2_beginCall zs l2)) (((((f_X2_beginCall zs l2))).1 9) / (256 : Int32)))) (((((f_X2_push ((f_X2_beginCall zs l2)) (((((f_X2_beginCall zs l2))).1 9) / (256 : Int32))))).1 9) - ((((f_X2_push ((f_X2_beginCall zs l2)) (((((f_X2_beginCall zs l2))).1 9) / (256 : Int32))))).1 9) / (256 : Int32) * (256 : Int32))))).1 8))) 8 (((((f_X2_push ((f_X2_push ((f_X2_push ((f_X2_beginCall zs l2)) (((((f_X2_beginCall zs l2))).1 9) / (256 : Int32)))) (((((f_X2_push ((f_X2_beginCall zs l2)) (((((f_X2_beginCall zs l2))).1 9) / (256 : Int32))))).1 9) - ((((f_X2_push ((f_X2_beginCall zs l2)) (((((f_X2_beginCall zs l2))).1 9) / (256 : Int32))))).1 9) / (256 : Int32) * (256 : Int32)))) ((((f_X2_push ((f_X2_push ((f_X2_beginCall zs l2)) (((((f_X2_beginCall zs l2))).1 9) / (256 : Int32)))) (((((f_X2_push ((f_X2_beginCall zs l2)) (((((f_X2_beginCall zs l2))).1 9) / (256 : Int32))))).1 9) - ((((f_X2_push ((f_X2_beginCall zs l2)) (((((f_X2_beginCall zs l2))).1 9) / (256 : Int32))))).1 9) / (256 : Int32) * (256 : Int32))))).1 8)))).1 8) ||| (4 : Int32))) ((4080 : Int32) + ((2 : Int32) * l1)))) (((4080 : Int32) + ((2 : Int32) * l1)) + (1 : Int32)))) 9 (f_X2_vector ((f_X2_touch ((f_X2_touch (fb_sR ((f_X2_push ((f_X2_push ((f_X2_push ((f_X2_beginCall zs l2)) (((((f_X2_beginCall zs l2))).1 9) / (256 : Int32)))) (((((f_X2_push ((f_X2_beginCall zs l2)) (((((f_X2_beginCall zs l2))).1 9) / (256 : Int32))))).1 9) - ((((f_X2_push ((f_X2_beginCall zs l2)) (((((f_X2_beginCall zs l2))).1 9) / (256 : Int32))))).1 9) / (256 : Int32) * (256 : Int32)))) ((((f_X2_push ((f_X2_push ((f_X2_beginCall zs l2)) (((((f_X2_beginCall zs l2))).1 9) / (256 : Int32)))) (((((f_X2_push ((f_X2_beginCall zs l2)) (((((f_X2_beginCall zs l2))).1 9) / (256 : Int32))))).1 9) - ((((f_X2_push ((f_X2_beginCall zs l2)) (((((f_X2_beginCall zs l2))).1 9) / (256 : Int32))))).1 9) / (256 : Int32) * (256 : Int32))))).1 8))) 8 (((((f_X2_push ((f_X2_push ((f_X2_push ((f_X2_beginCall zs l2)) (((((f_X2_beginCall zs l2))).1 9) / (256 : Int32)))) (((((f_X2_push ((f_X2_beginCall zs l2)) (((((f_X2_beginCall zs l2))).1 9) / (256 : Int32))))).1 9) - ((((f_X2_push ((f_X2_beginCall zs l2)) (((((f_X2_beginCall zs l2))).1 9) / (256 : Int32))))).1 9) / (256 : Int32) * (256 : Int32)))) ((((f_X2_push ((f_X2_push ((f_X2_beginCall zs l2)) (((((f_X2_beginCall zs l2))).1 9) / (256 : Int32)))) (((((f_X2_push ((f_X2_beginCall zs l2)) (((((f_X2_beginCall zs l2))).1 9) / (256 : Int32))))).1 9) - ((((f_X2_push ((f_X2_beginCall zs l2)) (((((f_X2_beginCall zs l2))).1 9) / (256 : Int32))))).1 9) / (256 : Int32) * (256 : Int32))))).1 8)))).1 8) ||| (4 : Int32))) ((4080 : Int32) + ((2 : Int32) * l1)))) (((4080 : Int32) + ((2 : Int32) * l1)) + (1 : Int32)))) l1))
set_option maxHeartbeats 4000000 in
set_option maxRecDepth 100000 in
theorem b_X2_enter_0 {p : Program} {l : Launch} {e : Env} {s : State} {m : MethodId} {args : Array Value} {below : List Frame} {meth : Method} {c : Code} {D : va_G} {cI cJ : ClassId} {A : Nat → Prop} {zq : Nat → Nat} {z : fb_MS} (X : fb_Bx p s m args meth c cX2_enter RX2 3 none D (fb_ty D cI cJ) A) {zs : fb_MS} {zw : fb_AR} {l1 : Int32} {l2 : Int32} {H : Heap} {locs : List Loc} {ls : Array Slot}  (I : fb_In D A s.heap ((fb_mw cI zq zs zw)) H locs) (hl : lv_has ls 3 [(0, .ref (zq 0)), (1, .int l1), (2, .int l2)]) (E : z = f_X2_enter zs l1 l2) : W p l e ({ frames := 2, cells := 0, slots := 0, locals := 61 } : Room) s m args below meth c H locs 0 0 (MQ below (fb_QV D A (fun (_ : fb_AR) => True) (fun (t : fb_AR) => (fb_mw cI zq (z) (t)))) args s 0 0 A) (F0 m 0 ls []) := by
  obtain ⟨hx, hb, hr, hml, hown, hts, hlk, hA, hK, hF⟩ := id X
  refine lv_aload_n hx hb dX2_enter_0 rfl (lv_at hl 0 rfl) ?_
  refine lv_iload_n hx hb dX2_enter_1 rfl (lv_at hl 2 rfl) ?_
  refine fb_goV (wn := fun (w1 : fb_AR) => (fb_mw cI zq ((f_X2_beginCall zs l2)) (w1))) X I (fb_runV (As := [.int l2]) (rest := []) (q0 := 0) X I hl (c_X2_beginCall l D cI cJ zq zs zw l2 _) (fb_goodV fw_1202 fw_1204 fw_43 fw_198 fw_1205) rfl rfl rfl (by decide +kernel : fb_hd yX2_beginCall 1) ⟨Nat.le_of_ble_eq_true rfl, Nat.le_of_ble_eq_true rfl⟩ [0, 1, 2, 3, 4, 5, 6, 7] (by decide) rfl rfl rfl rfl rfl rfl (Nat.le_of_ble_eq_true rfl) ⟨Nat.zero_le _, Nat.zero_le _⟩ dX2_enter_2) [0, 1, 2, 3, 4, 5, 6, 7] [] [0, 1, 2, 3, 4, 5, 6, 7] rfl rfl (by decide) (by decide) (by decide) (fun _ => rfl) ?_
  intro w1 H locs _ I
  refine lv_aload_n hx hb dX2_enter_5 rfl (lv_at hl 0 rfl) ?_
  refine lv_aload_n hx hb dX2_enter_6 rfl (lv_at hl 0 rfl) ?_
  refine fb_get X I (k := 9) fu_X2 0 rfl rfl (Nat.le_of_ble_eq_true rfl) fw_533 rfl rfl dX2_enter_7 ?_
  refine lv_sipush (v := (256 : Int32)) hx hb dX2_enter_10 (by decide) ?_
  refine lv_idiv hx hb dX2_enter_13 (by decide) ?_
  refine fb_goV (wn := fun (w2 : fb_AR) => (fb_mw cI zq ((f_X2_push ((f_X2_beginCall zs l2)) (((((f_X2_beginCall zs l2))).1 9) / (256 : Int32)))) (w2))) X I (fb_runV (As := [.int (((((f_X2_beginCall zs l2))).1 9) / (256 : Int32))]) (rest := []) (q0 := 0) X I hl (c_X2_push l D cI cJ zq ((f_X2_beginCall zs l2)) (w1) (((((f_X2_beginCall zs l2))).1 9) / (256 : Int32)) _) (fb_goodV fw_1207 fw_1209 fw_44 fw_198 fw_1210) rfl rfl rfl (by decide +kernel : fb_hd yX2_push 1) ⟨Nat.le_of_ble_eq_true rfl, Nat.le_of_ble_eq_true rfl⟩ [0, 1, 2, 3, 4, 5, 6, 7] (by decide) rfl rfl rfl rfl rfl rfl (Nat.le_of_ble_eq_true rfl) ⟨Nat.zero_le _, Nat.zero_le _⟩ dX2_enter_14) [0, 1, 2, 3, 4, 5, 6, 7] [] [0, 1, 2, 3, 4, 5, 6, 7] rfl rfl (by decide) (by decide) (by decide) (fun _ => rfl) ?_
  intro w2 H locs _ I
  refine lv_aload_n hx hb dX2_enter_17 rfl (lv_at hl 0 rfl) ?_
  refine lv_aload_n hx hb dX2_enter_18 rfl (lv_at hl 0 rfl) ?_
  refine fb_get X I (k := 9) fu_X2 0 rfl rfl (Nat.le_of_ble_eq_true rfl) fw_533 rfl rfl dX2_enter_19 ?_
  refine lv_sipush (v := (256 : Int32)) hx hb dX2_enter_22 (by decide) ?_
  refine lv_irem hx hb dX2_enter_25 (by decide) ?_
  refine fb_goV (wn := fun (w3 : fb_AR) => (fb_mw cI zq ((f_X2_push ((f_X2_push ((f_X2_beginCall zs l2)) (((((f_X2_beginCall zs l2))).1 9) / (256 : Int32)))) (((((f_X2_push ((f_X2_beginCall zs l2)) (((((f_X2_beginCall zs l2))).1 9) / (256 : Int32))))).1 9) - ((((f_X2_push ((f_X2_beginCall zs l2)) (((((f_X2_beginCall zs l2))).1 9) / (256 : Int32))))).1 9) / (256 : Int32) * (256 : Int32)))) (w3))) X I (fb_runV (As := [.int (((((f_X2_push ((f_X2_beginCall zs l2)) (((((f_X2_beginCall zs l2))).1 9) / (256 : Int32))))).1 9) - ((((f_X2_push ((f_X2_beginCall zs l2)) (((((f_X2_beginCall zs l2))).1 9) / (256 : Int32))))).1 9) / (256 : Int32) * (256 : Int32))]) (rest := []) (q0 := 0) X I hl (c_X2_push l D cI cJ zq ((f_X2_push ((f_X2_beginCall zs l2)) (((((f_X2_beginCall zs l2))).1 9) / (256 : Int32)))) (w2) (((((f_X2_push ((f_X2_beginCall zs l2)) (((((f_X2_beginCall zs l2))).1 9) / (256 : Int32))))).1 9) - ((((f_X2_push ((f_X2_beginCall zs l2)) (((((f_X2_beginCall zs l2))).1 9) / (256 : Int32))))).1 9) / (256 : Int32) * (256 : Int32)) _) (fb_goodV fw_1207 fw_1209 fw_44 fw_198 fw_1210) rfl rfl rfl (by decide +kernel : fb_hd yX2_push 1) ⟨Nat.le_of_ble_eq_true rfl, Nat.le_of_ble_eq_true rfl⟩ [0, 1, 2, 3, 4, 5, 6, 7] (by decide) rfl rfl rfl rfl rfl rfl (Nat.le_of_ble_eq_true rfl) ⟨Nat.zero_le _, Nat.zero_le _⟩ dX2_enter_26) [0, 1, 2, 3, 4, 5, 6, 7] [] [0, 1, 2, 3, 4, 5, 6, 7] rfl rfl (by decide) (by decide) (by decide) (fun _ => rfl) ?_
  intro w3 H locs _ I
  refine lv_aload_n hx hb dX2_enter_29 rfl (lv_at hl 0 rfl) ?_
  refine lv_aload_n hx hb dX2_enter_30 rfl (lv_at hl 0 rfl) ?_
  refine fb_get X I (k := 8) fu_X2 0 rfl rfl (Nat.le_of_ble_eq_true rfl) fw_530 rfl rfl dX2_enter_31 ?_
  refine fb_goV (wn := fun (w4 : fb_AR) => (fb_mw cI zq ((f_X2_push ((f_X2_push ((f_X2_push ((f_X2_beginCall zs l2)) (((((f_X2_beginCall zs l2))).1 9) / (256 : Int32)))) (((((f_X2_push ((f_X2_beginCall zs l2)) (((((f_X2_beginCall zs l2))).1 9) / (256 : Int32))))).1 9) - ((((f_X2_push ((f_X2_beginCall zs l2)) (((((f_X2_beginCall zs l2))).1 9) / (256 : Int32))))).1 9) / (256 : Int32) * (256 : Int32)))) ((((f_X2_push ((f_X2_push ((f_X2_beginCall zs l2)) (((((f_X2_beginCall zs l2))).1 9) / (256 : Int32)))) (((((f_X2_push ((f_X2_beginCall zs l2)) (((((f_X2_beginCall zs l2))).1 9) / (256 : Int32))))).1 9) - ((((f_X2_push ((f_X2_beginCall zs l2)) (((((f_X2_beginCall zs l2))).1 9) / (256 : Int32))))).1 9) / (256 : Int32) * (256 : Int32))))).1 8))) (w4))) X I (fb_runV (As := [.int ((((f_X2_push ((f_X2_push ((f_X2_beginCall zs l2)) (((((f_X2_beginCall zs l2))).1 9) / (256 : Int32)))) (((((f_X2_push ((f_X2_beginCall zs l2)) (((((f_X2_beginCall zs l2))).1 9) / (256 : Int32))))).1 9) - ((((f_X2_push ((f_X2_beginCall zs l2)) (((((f_X2_beginCall zs l2))).1 9) / (256 : Int32))))).1 9) / (256 : Int32) * (256 : Int32))))).1 8)]) (rest := []) (q0 := 0) X I hl (c_X2_push l D cI cJ zq ((f_X2_push ((f_X2_push ((f_X2_beginCall zs l2)) (((((f_X2_beginCall zs l2))).1 9) / (256 : Int32)))) (((((f_X2_push ((f_X2_beginCall zs l2)) (((((f_X2_beginCall zs l2))).1 9) / (256 : Int32))))).1 9) - ((((f_X2_push ((f_X2_beginCall zs l2)) (((((f_X2_beginCall zs l2))).1 9) / (256 : Int32))))).1 9) / (256 : Int32) * (256 : Int32)))) (w3) ((((f_X2_push ((f_X2_push ((f_X2_beginCall zs l2)) (((((f_X2_beginCall zs l2))).1 9) / (256 : Int32)))) (((((f_X2_push ((f_X2_beginCall zs l2)) (((((f_X2_beginCall zs l2))).1 9) / (256 : Int32))))).1 9) - ((((f_X2_push ((f_X2_beginCall zs l2)) (((((f_X2_beginCall zs l2))).1 9) / (256 : Int32))))).1 9) / (256 : Int32) * (256 : Int32))))).1 8) _) (fb_goodV fw_1207 fw_1209 fw_44 fw_198 fw_1210) rfl rfl rfl (by decide +kernel : fb_hd yX2_push 1) ⟨Nat.le_of_ble_eq_true rfl, Nat.le_of_ble_eq_true rfl⟩ [0, 1, 2, 3, 4, 5, 6, 7] (by decide) rfl rfl rfl rfl rfl rfl (Nat.le_of_ble_eq_true rfl) ⟨Nat.zero_le _, Nat.zero_le _⟩ dX2_enter_34) [0, 1, 2, 3, 4, 5, 6, 7] [] [0, 1, 2, 3, 4, 5, 6, 7] rfl rfl (by decide) (by decide) (by decide) (fun _ => rfl) ?_
  intro w4 H locs _ I
  refine lv_aload_n hx hb dX2_enter_37 rfl (lv_at hl 0 rfl) ?_
  refine lv_dup hx hb dX2_enter_38 rfl ?_
  refine fb_get X I (k := 8) fu_X2 0 rfl rfl (Nat.le_of_ble_eq_true rfl) fw_530 rfl rfl dX2_enter_39 ?_
  refine lv_iconst (v := (4 : Int32)) hx hb dX2_enter_42 (by decide) ?_
  refine lv_ior hx hb dX2_enter_43 ?_
  refine fb_put X I (k := 8) (wn := (fb_mw cI zq (fb_sR ((f_X2_push ((f_X2_push ((f_X2_push ((f_X2_beginCall zs l2)) (((((f_X2_beginCall zs l2))).1 9) / (256 : Int32)))) (((((f_X2_push ((f_X2_beginCall zs l2)) (((((f_X2_beginCall zs l2))).1 9) / (256 : Int32))))).1 9) - ((((f_X2_push ((f_X2_beginCall zs l2)) (((((f_X2_beginCall zs l2))).1 9) / (256 : Int32))))).1 9) / (256 : Int32) * (256 : Int32)))) ((((f_X2_push ((f_X2_push ((f_X2_beginCall zs l2)) (((((f_X2_beginCall zs l2))).1 9) / (256 : Int32)))) (((((f_X2_push ((f_X2_beginCall zs l2)) (((((f_X2_beginCall zs l2))).1 9) / (256 : Int32))))).1 9) - ((((f_X2_push ((f_X2_beginCall zs l2)) (((((f_X2_beginCall zs l2))).1 9) / (256 : Int32))))).1 9) / (256 : Int32) * (256 : Int32))))).1 8))) 8 (((((f_X2_push ((f_X2_push ((f_X2_push ((f_X2_beginCall zs l2)) (((((f_X2_beginCall zs l2))).1 9) / (256 : Int32)))) (((((f_X2_push ((f_X2_beginCall zs l2)) (((((f_X2_beginCall zs l2))).1 9) / (256 : Int32))))).1 9) - ((((f_X2_push ((f_X2_beginCall zs l2)) (((((f_X2_beginCall zs l2))).1 9) / (256 : Int32))))).1 9) / (256 : Int32) * (256 : Int32)))) ((((f_X2_push ((f_X2_push ((f_X2_beginCall zs l2)) (((((f_X2_beginCall zs l2))).1 9) / (256 : Int32)))) (((((f_X2_push ((f_X2_beginCall zs l2)) (((((f_X2_beginCall zs l2))).1 9) / (256 : Int32))))).1 9) - ((((f_X2_push ((f_X2_beginCall zs l2)) (((((f_X2_beginCall zs l2))).1 9) / (256 : Int32))))).1 9) / (256 : Int32) * (256 : Int32))))).1 8)))).1 8) ||| (4 : Int32))) (w4))) fu_X2 tyX2 tyX2_ok nmX2 0 rfl rfl (Nat.le_of_ble_eq_true rfl) fw_530 rfl rfl rfl rfl rfl (Nat.le_of_ble_eq_true rfl) fb_ms8 dX2_enter_44 (fun H locs I => ?_)
  refine lv_aload_n hx hb dX2_enter_47 rfl (lv_at hl 0 rfl) ?_
  refine lv_sipush (v := (4080 : Int32)) hx hb dX2_enter_48 (by decide) ?_
  refine lv_iconst (v := (2 : Int32)) hx hb dX2_enter_51 (by decide) ?_
  refine lv_iload_n hx hb dX2_enter_52 rfl (lv_at hl 1 rfl) ?_
  refine lv_imul hx hb dX2_enter_53 ?_
  refine lv_iadd hx hb dX2_enter_54 ?_
  refine fb_goV (wn := fun (w5 : fb_AR) => (fb_mw cI zq ((f_X2_touch (fb_sR ((f_X2_push ((f_X2_push ((f_X2_push ((f_X2_beginCall zs l2)) (((((f_X2_beginCall zs l2))).1 9) / (256 : Int32)))) (((((f_X2_push ((f_X2_beginCall zs l2)) (((((f_X2_beginCall zs l2))).1 9) / (256 : Int32))))).1 9) - ((((f_X2_push ((f_X2_beginCall zs l2)) (((((f_X2_beginCall zs l2))).1 9) / (256 : Int32))))).1 9) / (256 : Int32) * (256 : Int32)))) ((((f_X2_push ((f_X2_push ((f_X2_beginCall zs l2)) (((((f_X2_beginCall zs l2))).1 9) / (256 : Int32)))) (((((f_X2_push ((f_X2_beginCall zs l2)) (((((f_X2_beginCall zs l2))).1 9) / (256 : Int32))))).1 9) - ((((f_X2_push ((f_X2_beginCall zs l2)) (((((f_X2_beginCall zs l2))).1 9) / (256 : Int32))))).1 9) / (256 : Int32) * (256 : Int32))))).1 8))) 8 (((((f_X2_push ((f_X2_push ((f_X2_push ((f_X2_beginCall zs l2)) (((((f_X2_beginCall zs l2))).1 9) / (256 : Int32)))) (((((f_X2_push ((f_X2_beginCall zs l2)) (((((f_X2_beginCall zs l2))).1 9) / (256 : Int32))))).1 9) - ((((f_X2_push ((f_X2_beginCall zs l2)) (((((f_X2_beginCall zs l2))).1 9) / (256 : Int32))))).1 9) / (256 : Int32) * (256 : Int32)))) ((((f_X2_push ((f_X2_push ((f_X2_beginCall zs l2)) (((((f_X2_beginCall zs l2))).1 9) / (256 : Int32)))) (((((f_X2_push ((f_X2_beginCall zs l2)) (((((f_X2_beginCall zs l2))).1 9) / (256 : Int32))))).1 9) - ((((f_X2_push ((f_X2_beginCall zs l2)) (((((f_X2_beginCall zs l2))).1 9) / (256 : Int32))))).1 9) / (256 : Int32) * (256 : Int32))))).1 8)))).1 8) ||| (4 : Int32))) ((4080 : Int32) + ((2 : Int32) * l1)))) (w5))) X I (fb_runV (As := [.int ((4080 : Int32) + ((2 : Int32) * l1))]) (rest := []) (q0 := 0) X I hl (c_X2_touch l D cI cJ zq (fb_sR ((f_X2_push ((f_X2_push ((f_X2_push ((f_X2_beginCall zs l2)) (((((f_X2_beginCall zs l2))).1 9) / (256 : Int32)))) (((((f_X2_push ((f_X2_beginCall zs l2)) (((((f_X2_beginCall zs l2))).1 9) / (256 : Int32))))).1 9) - ((((f_X2_push ((f_X2_beginCall zs l2)) (((((f_X2_beginCall zs l2))).1 9) / (256 : Int32))))).1 9) / (256 : Int32) * (256 : Int32)))) ((((f_X2_push ((f_X2_push ((f_X2_beginCall zs l2)) (((((f_X2_beginCall zs l2))).1 9) / (256 : Int32)))) (((((f_X2_push ((f_X2_beginCall zs l2)) (((((f_X2_beginCall zs l2))).1 9) / (256 : Int32))))).1 9) - ((((f_X2_push ((f_X2_beginCall zs l2)) (((((f_X2_beginCall zs l2))).1 9) / (256 : Int32))))).1 9) / (256 : Int32) * (256 : Int32))))).1 8))) 8 (((((f_X2_push ((f_X2_push ((f_X2_push ((f_X2_beginCall zs l2)) (((((f_X2_beginCall zs l2))).1 9) / (256 : Int32)))) (((((f_X2_push ((f_X2_beginCall zs l2)) (((((f_X2_beginCall zs l2))).1 9) / (256 : Int32))))).1 9) - ((((f_X2_push ((f_X2_beginCall zs l2)) (((((f_X2_beginCall zs l2))).1 9) / (256 : Int32))))).1 9) / (256 : Int32) * (256 : Int32)))) ((((f_X2_push ((f_X2_push ((f_X2_beginCall zs l2)) (((((f_X2_beginCall zs l2))).1 9) / (256 : Int32)))) (((((f_X2_push ((f_X2_beginCall zs l2)) (((((f_X2_beginCall zs l2))).1 9) / (256 : Int32))))).1 9) - ((((f_X2_push ((f_X2_beginCall zs l2)) (((((f_X2_beginCall zs l2))).1 9) / (256 : Int32))))).1 9) / (256 : Int32) * (256 : Int32))))).1 8)))).1 8) ||| (4 : Int32))) (w4) ((4080 : Int32) + ((2 : Int32) * l1)) _) (fb_goodV fw_1211 fw_1213 fw_45 fw_198 fw_1214) rfl rfl rfl (by decide +kernel : fb_hd yX2_touch 1) ⟨Nat.le_of_ble_eq_true rfl, Nat.le_of_ble_eq_true rfl⟩ [0, 1, 2, 3, 4, 5, 6, 7] (by decide) rfl rfl rfl rfl rfl rfl (Nat.le_of_ble_eq_true rfl) ⟨Nat.zero_le _, Nat.zero_le _⟩ dX2_enter_55) [0, 1, 2, 3, 4, 5, 6, 7] [] [0, 1, 2, 3, 4, 5, 6, 7] rfl rfl (by decide) (by decide) (by decide) (fun _ => rfl) ?_
  intro w5 H locs _ I
  refine lv_aload_n hx hb dX2_enter_58 rfl (lv_at hl 0 rfl) ?_
  refine lv_sipush (v := (4080 : Int32)) hx hb dX2_enter_59 (by decide) ?_
  refine lv_iconst (v := (2 : Int32)) hx hb dX2_enter_62 (by decide) ?_
  refine lv_iload_n hx hb dX2_enter_63 rfl (lv_at hl 1 rfl) ?_
  refine lv_imul hx hb dX2_enter_64 ?_
  refine lv_iadd hx hb dX2_enter_65 ?_
  refine lv_iconst (v := (1 : Int32)) hx hb dX2_enter_66 (by decide) ?_
  refine lv_iadd hx hb dX2_enter_67 ?_
  refine fb_goV (wn := fun (w6 : fb_AR) => (fb_mw cI zq ((f_X2_touch ((f_X2_touch (fb_sR ((f_X2_push ((f_X2_push ((f_X2_push ((f_X2_beginCall zs l2)) (((((f_X2_beginCall zs l2))).1 9) / (256 : Int32)))) (((((f_X2_push ((f_X2_beginCall zs l2)) (((((f_X2_beginCall zs l2))).1 9) / (256 : Int32))))).1 9) - ((((f_X2_push ((f_X2_beginCall zs l2)) (((((f_X2_beginCall zs l2))).1 9) / (256 : Int32))))).1 9) / (256 : Int32) * (256 : Int32)))) ((((f_X2_push ((f_X2_push ((f_X2_beginCall zs l2)) (((((f_X2_beginCall zs l2))).1 9) / (256 : Int32)))) (((((f_X2_push ((f_X2_beginCall zs l2)) (((((f_X2_beginCall zs l2))).1 9) / (256 : Int32))))).1 9) - ((((f_X2_push ((f_X2_beginCall zs l2)) (((((f_X2_beginCall zs l2))).1 9) / (256 : Int32))))).1 9) / (256 : Int32) * (256 : Int32))))).1 8))) 8 (((((f_X2_push ((f_X2_push ((f_X2_push ((f_X2_beginCall zs l2)) (((((f_X2_beginCall zs l2))).1 9) / (256 : Int32)))) (((((f_X2_push ((f_X2_beginCall zs l2)) (((((f_X2_beginCall zs l2))).1 9) / (256 : Int32))))).1 9) - ((((f_X2_push ((f_X2_beginCall zs l2)) (((((f_X2_beginCall zs l2))).1 9) / (256 : Int32))))).1 9) / (256 : Int32) * (256 : Int32)))) ((((f_X2_push ((f_X2_push ((f_X2_beginCall zs l2)) (((((f_X2_beginCall zs l2))).1 9) / (256 : Int32)))) (((((f_X2_push ((f_X2_beginCall zs l2)) (((((f_X2_beginCall zs l2))).1 9) / (256 : Int32))))).1 9) - ((((f_X2_push ((f_X2_beginCall zs l2)) (((((f_X2_beginCall zs l2))).1 9) / (256 : Int32))))).1 9) / (256 : Int32) * (256 : Int32))))).1 8)))).1 8) ||| (4 : Int32))) ((4080 : Int32) + ((2 : Int32) * l1)))) (((4080 : Int32) + ((2 : Int32) * l1)) + (1 : Int32)))) (w6))) X I (fb_runV (As := [.int (((4080 : Int32) + ((2 : Int32) * l1)) + (1 : Int32))]) (rest := []) (q0 := 0) X I hl (c_X2_touch l D cI cJ zq ((f_X2_touch (fb_sR ((f_X2_push ((f_X2_push ((f_X2_push ((f_X2_beginCall zs l2)) (((((f_X2_beginCall zs l2))).1 9) / (256 : Int32)))) (((((f_X2_push ((f_X2_beginCall zs l2)) (((((f_X2_beginCall zs l2))).1 9) / (256 : Int32))))).1 9) - ((((f_X2_push ((f_X2_beginCall zs l2)) (((((f_X2_beginCall zs l2))).1 9) / (256 : Int32))))).1 9) / (256 : Int32) * (256 : Int32)))) ((((f_X2_push ((f_X2_push ((f_X2_beginCall zs l2)) (((((f_X2_beginCall zs l2))).1 9) / (256 : Int32)))) (((((f_X2_push ((f_X2_beginCall zs l2)) (((((f_X2_beginCall zs l2))).1 9) / (256 : Int32))))).1 9) - ((((f_X2_push ((f_X2_beginCall zs l2)) (((((f_X2_beginCall zs l2))).1 9) / (256 : Int32))))).1 9) / (256 : Int32) * (256 : Int32))))).1 8))) 8 (((((f_X2_push ((f_X2_push ((f_X2_push ((f_X2_beginCall zs l2)) (((((f_X2_beginCall zs l2))).1 9) / (256 : Int32)))) (((((f_X2_push ((f_X2_beginCall zs l2)) (((((f_X2_beginCall zs l2))).1 9) / (256 : Int32))))).1 9) - ((((f_X2_push ((f_X2_beginCall zs l2)) (((((f_X2_beginCall zs l2))).1 9) / (256 : Int32))))).1 9) / (256 : Int32) * (256 : Int32)))) ((((f_X2_push ((f_X2_push ((f_X2_beginCall zs l2)) (((((f_X2_beginCall zs l2))).1 9) / (256 : Int32)))) (((((f_X2_push ((f_X2_beginCall zs l2)) (((((f_X2_beginCall zs l2))).1 9) / (256 : Int32))))).1 9) - ((((f_X2_push ((f_X2_beginCall zs l2)) (((((f_X2_beginCall zs l2))).1 9) / (256 : Int32))))).1 9) / (256 : Int32) * (256 : Int32))))).1 8)))).1 8) ||| (4 : Int32))) ((4080 : Int32) + ((2 : Int32) * l1)))) (w5) (((4080 : Int32) + ((2 : Int32) * l1)) + (1 : Int32)) _) (fb_goodV fw_1211 fw_1213 fw_45 fw_198 fw_1214) rfl rfl rfl (by decide +kernel : fb_hd yX2_touch 1) ⟨Nat.le_of_ble_eq_true rfl, Nat.le_of_ble_eq_true rfl⟩ [0, 1, 2, 3, 4, 5, 6, 7] (by decide) rfl rfl rfl rfl rfl rfl (Nat.le_of_ble_eq_true rfl) ⟨Nat.zero_le _, Nat.zero_le _⟩ dX2_enter_68) [0, 1, 2, 3, 4, 5, 6, 7] [] [0, 1, 2, 3, 4, 5, 6, 7] rfl rfl (by decide) (by decide) (by decide) (fun _ => rfl) ?_
  intro w6 H locs _ I
  refine lv_aload_n hx hb dX2_enter_71 rfl (lv_at hl 0 rfl) ?_
  refine lv_aload_n hx hb dX2_enter_72 rfl (lv_at hl 0 rfl) ?_
  refine lv_iload_n hx hb dX2_enter_73 rfl (lv_at hl 1 rfl) ?_
  refine fb_roI X I (fb_runV (As := [.int l1]) (rest := [.ref (zq 0)]) (q0 := 0) X I hl (c_X2_vector l D cI cJ zq ((f_X2_touch ((f_X2_touch (fb_sR ((f_X2_push ((f_X2_push ((f_X2_push ((f_X2_beginCall zs l2)) (((((f_X2_beginCall zs l2))).1 9) / (256 : Int32)))) (((((f_X2_push ((f_X2_beginCall zs l2)) (((((f_X2_beginCall zs l2))).1 9) / (256 : Int32))))).1 9) - ((((f_X2_push ((f_X2_beginCall zs l2)) (((((f_X2_beginCall zs l2))).1 9) / (256 : Int32))))).1 9) / (256 : Int32) * (256 : Int32)))) ((((f_X2_push ((f_X2_push ((f_X2_beginCall zs l2)) (((((f_X2_beginCall zs l2))).1 9) / (256 : Int32)))) (((((f_X2_push ((f_X2_beginCall zs l2)) (((((f_X2_beginCall zs l2))).1 9) / (256 : Int32))))).1 9) - ((((f_X2_push ((f_X2_beginCall zs l2)) (((((f_X2_beginCall zs l2))).1 9) / (256 : Int32))))).1 9) / (256 : Int32) * (256 : Int32))))).1 8))) 8 (((((f_X2_push ((f_X2_push ((f_X2_push ((f_X2_beginCall zs l2)) (((((f_X2_beginCall zs l2))).1 9) / (256 : Int32)))) (((((f_X2_push ((f_X2_beginCall zs l2)) (((((f_X2_beginCall zs l2))).1 9) / (256 : Int32))))).1 9) - ((((f_X2_push ((f_X2_beginCall zs l2)) (((((f_X2_beginCall zs l2))).1 9) / (256 : Int32))))).1 9) / (256 : Int32) * (256 : Int32)))) ((((f_X2_push ((f_X2_push ((f_X2_beginCall zs l2)) (((((f_X2_beginCall zs l2))).1 9) / (256 : Int32)))) (((((f_X2_push ((f_X2_beginCall zs l2)) (((((f_X2_beginCall zs l2))).1 9) / (256 : Int32))))).1 9) - ((((f_X2_push ((f_X2_beginCall zs l2)) (((((f_X2_beginCall zs l2))).1 9) / (256 : Int32))))).1 9) / (256 : Int32) * (256 : Int32))))).1 8)))).1 8) ||| (4 : Int32))) ((4080 : Int32) + ((2 : Int32) * l1)))) (((4080 : Int32) + ((2 : Int32) * l1)) + (1 : Int32)))) (w6) l1 _) (fb_goodV fw_680 fw_681 fw_682 fw_198 fw_683) rfl rfl rfl (by decide +kernel : fb_hd yX2_vector 1) ⟨Nat.le_of_ble_eq_true rfl, Nat.le_of_ble_eq_true rfl⟩ [0, 1, 2, 3, 4, 5, 6, 7] (by decide) rfl rfl rfl rfl rfl rfl (Nat.le_of_ble_eq_true rfl) ⟨Nat.zero_le _, Nat.zero_le _⟩ dX2_enter_74) ?_
  refine fb_put X I (k := 9) (wn := (fb_mw cI zq (fb_sR ((f_X2_touch ((f_X2_touch (fb_sR ((f_X2_push ((f_X2_push ((f_X2_push ((f_X2_beginCall zs l2)) (((((f_X2_beginCall zs l2))).1 9) / (256 : Int32)))) (((((f_X2_push ((f_X2_beginCall zs l2)) (((((f_X2_beginCall zs l2))).1 9) / (256 : Int32))))).1 9) - ((((f_X2_push ((f_X2_beginCall zs l2)) (((((f_X2_beginCall zs l2))).1 9) / (256 : Int32))))).1 9) / (256 : Int32) * (256 : Int32)))) ((((f_X2_push ((f_X2_push ((f_X2_beginCall zs l2)) (((((f_X2_beginCall zs l2))).1 9) / (256 : Int32)))) (((((f_X2_push ((f_X2_beginCall zs l2)) (((((f_X2_beginCall zs l2))).1 9) / (256 : Int32))))).1 9) - ((((f_X2_push ((f_X2_beginCall zs l2)) (((((f_X2_beginCall zs l2))).1 9) / (256 : Int32))))).1 9) / (256 : Int32) * (256 : Int32))))).1 8))) 8 (((((f_X2_push ((f_X2_push ((f_X2_push ((f_X2_beginCall zs l2)) (((((f_X2_beginCall zs l2))).1 9) / (256 : Int32)))) (((((f_X2_push ((f_X2_beginCall zs l2)) (((((f_X2_beginCall zs l2))).1 9) / (256 : Int32))))).1 9) - ((((f_X2_push ((f_X2_beginCall zs l2)) (((((f_X2_beginCall zs l2))).1 9) / (256 : Int32))))).1 9) / (256 : Int32) * (256 : Int32)))) ((((f_X2_push ((f_X2_push ((f_X2_beginCall zs l2)) (((((f_X2_beginCall zs l2))).1 9) / (256 : Int32)))) (((((f_X2_push ((f_X2_beginCall zs l2)) (((((f_X2_beginCall zs l2))).1 9) / (256 : Int32))))).1 9) - ((((f_X2_push ((f_X2_beginCall zs l2)) (((((f_X2_beginCall zs l2))).1 9) / (256 : Int32))))).1 9) / (256 : Int32) * (256 : Int32))))).1 8)))).1 8) ||| (4 : Int32))) ((4080 : Int32) + ((2 : Int32) * l1)))) (((4080 : Int32) + ((2 : Int32) * l1)) + (1 : Int32)))) 9 (f_X2_vector ((f_X2_touch ((f_X2_touch (fb_sR ((f_X2_push ((f_X2_push ((f_X2_push ((f_X2_beginCall zs l2)) (((((f_X2_beginCall zs l2))).1 9) / (256 : Int32)))) (((((f_X2_push ((f_X2_beginCall zs l2)) (((((f_X2_beginCall zs l2))).1 9) / (256 : Int32))))).1 9) - ((((f_X2_push ((f_X2_beginCall zs l2)) (((((f_X2_beginCall zs l2))).1 9) / (256 : Int32))))).1 9) / (256 : Int32) * (256 : Int32)))) ((((f_X2_push ((f_X2_push ((f_X2_beginCall zs l2)) (((((f_X2_beginCall zs l2))).1 9) / (256 : Int32)))) (((((f_X2_push ((f_X2_beginCall zs l2)) (((((f_X2_beginCall zs l2))).1 9) / (256 : Int32))))).1 9) - ((((f_X2_push ((f_X2_beginCall zs l2)) (((((f_X2_beginCall zs l2))).1 9) / (256 : Int32))))).1 9) / (256 : Int32) * (256 : Int32))))).1 8))) 8 (((((f_X2_push ((f_X2_push ((f_X2_push ((f_X2_beginCall zs l2)) (((((f_X2_beginCall zs l2))).1 9) / (256 : Int32)))) (((((f_X2_push ((f_X2_beginCall zs l2)) (((((f_X2_beginCall zs l2))).1 9) / (256 : Int32))))).1 9) - ((((f_X2_push ((f_X2_beginCall zs l2)) (((((f_X2_beginCall zs l2))).1 9) / (256 : Int32))))).1 9) / (256 : Int32) * (256 : Int32)))) ((((f_X2_push ((f_X2_push ((f_X2_beginCall zs l2)) (((((f_X2_beginCall zs l2))).1 9) / (256 : Int32)))) (((((f_X2_push ((f_X2_beginCall zs l2)) (((((f_X2_beginCall zs l2))).1 9) / (256 : Int32))))).1 9) - ((((f_X2_push ((f_X2_beginCall zs l2)) (((((f_X2_beginCall zs l2))).1 9) / (256 : Int32))))).1 9) / (256 : Int32) * (256 : Int32))))).1 8)))).1 8) ||| (4 : Int32))) ((4080 : Int32) + ((2 : Int32) * l1)))) (((4080 : Int32) + ((2 : Int32) * l1)) + (1 : Int32)))) l1)) (w6))) fu_X2 tyX2 tyX2_ok nmX2 0 rfl rfl (Nat.le_of_ble_eq_true rfl) fw_533 rfl rfl rfl rfl rfl (Nat.le_of_ble_eq_true rfl) fb_ms9 dX2_enter_77 (fun H locs I => ?_)
  subst E
  exact fb_retV (u := ((w6))) X I trivial dX2_enter_80
set_option maxHeartbeats 4000000 in
set_option maxRecDepth 100000 in
theorem c_X2_enter (l : Launch) (D : va_G) (cI cJ : ClassId) (zq : Nat → Nat) (zs : fb_MS) (zw : fb_AR) (l1 : Int32) (l2 : Int32) (sz : Nat)  : Met l yX2_enter (Cond.code yX2_enter cX2_enter 3 none :: fb_all) ({ frames := 2, cells := 0, slots := 0, locals := 61 } : Room) (fb_PP D (fb_ty D cI cJ) [.ref (zq 0), .int l1, .int l2] ((fb_mw cI zq zs zw)) sz) (fb_QV D (va_A ((fb_mw cI zq zs zw)) sz) (fun (_ : fb_AR) => True) (fun (t : fb_AR) => (fb_mw cI zq (((f_X2_enter zs l1 l2))) (t)))) 0 0 (va_A ((fb_mw cI zq zs zw)) sz) := by
  refine fb_ent (Qf := fun A => (fb_QV D A (fun (_ : fb_AR) => True) (fun (t : fb_AR) => (fb_mw cI zq (((f_X2_enter zs l1 l2))) (t))))) (by decide +kernel) (Nat.le_of_ble_eq_true rfl) ?_
  intro p e s m args below meth c A ls X I hl hin
  exact b_X2_enter_0 X  I hl rfl
/-! X2_takeBy -/
def f_X2_takeBy (zs : fb_MS) (l1 : Int32) : fb_MS := ((f_X2_enter (fb_sR zs 10 (0 : Int32)) l1 (((fb_sR zs 10 (0 : Int32))).1 9)))
set_option maxHeartbeats 4000000 in
set_option maxRecDepth 100000 in
theorem b_X2_takeBy_0 {p : Program} {l : Launch} {e : Env} {s : State} {m : MethodId} {args : Array Value} {below : List Frame} {meth : Method} {c : Code} {D : va_G} {cI cJ : ClassId} {A : Nat → Prop} {zq : Nat → Nat} {z : fb_MS} (X : fb_Bx p s m args meth c cX2_takeBy RX2 2 none D (fb_ty D cI cJ) A) {zs : fb_MS} {zw : fb_AR} {l1 : Int32} {H : Heap} {locs : List Loc} {ls : Array Slot}  (I : fb_In D A s.heap ((fb_mw cI zq zs zw)) H locs) (hl : lv_has ls 2 [(0, .ref (zq 0)), (1, .int l1)]) (E : z = f_X2_takeBy zs l1) : W p l e ({ frames := 3, cells := 0, slots := 0, locals := 83 } : Room) s m args below meth c H locs 0 0 (MQ below (fb_QV D A (fun (_ : fb_AR) => True) (fun (t : fb_AR) => (fb_mw cI zq (z) (t)))) args s 0 0 A) (F0 m 0 ls []) := by
  obtain ⟨hx, hb, hr, hml, hown, hts, hlk, hA, hK, hF⟩ := id X
  refine lv_aload_n hx hb dX2_takeBy_0 rfl (lv_at hl 0 rfl) ?_
  refine lv_iconst (v := (0 : Int32)) hx hb dX2_takeBy_1 (by decide) ?_
  refine fb_put X I (k := 10) (wn := (fb_mw cI zq (fb_sR zs 10 (0 : Int32)) zw)) fu_X2 tyX2 tyX2_ok nmX2 0 rfl rfl (Nat.le_of_ble_eq_true rfl) fw_535 rfl rfl rfl rfl rfl (Nat.le_of_ble_eq_true rfl) fb_ms10 dX2_takeBy_2 (fun H locs I => ?_)
  refine lv_aload_n hx hb dX2_takeBy_5 rfl (lv_at hl 0 rfl) ?_
  refine lv_iload_n hx hb dX2_takeBy_6 rfl (lv_at hl 1 rfl) ?_
  refine lv_aload_n hx hb dX2_takeBy_7 rfl (lv_at hl 0 rfl) ?_
  refine fb_get X I (k := 9) fu_X2 0 rfl rfl (Nat.le_of_ble_eq_true rfl) fw_533 rfl rfl dX2_takeBy_8 ?_
  refine fb_goV (wn := fun (w1 : fb_AR) => (fb_mw cI zq ((f_X2_enter (fb_sR zs 10 (0 : Int32)) l1 (((fb_sR zs 10 (0 : Int32))).1 9))) (w1))) X I (fb_runV (As := [.int l1, .int (((fb_sR zs 10 (0 : Int32))).1 9)]) (rest := []) (q0 := 0) X I hl (c_X2_enter l D cI cJ zq (fb_sR zs 10 (0 : Int32)) zw l1 (((fb_sR zs 10 (0 : Int32))).1 9) _) (fb_goodV fw_1198 fw_1200 fw_42 fw_198 fw_1201) rfl rfl rfl (by decide +kernel : fb_hd yX2_enter 2) ⟨Nat.le_of_ble_eq_true rfl, Nat.le_of_ble_eq_true rfl⟩ [0, 1, 2, 3, 4, 5, 6, 7] (by decide) rfl rfl rfl rfl rfl rfl (Nat.le_of_ble_eq_true rfl) ⟨Nat.zero_le _, Nat.zero_le _⟩ dX2_takeBy_11) [0, 1, 2, 3, 4, 5, 6, 7] [] [0, 1, 2, 3, 4, 5, 6, 7] rfl rfl (by decide) (by decide) (by decide) (fun _ => rfl) ?_
  intro w1 H locs _ I
  subst E
  exact fb_retV (u := ((w1))) X I trivial dX2_takeBy_14
set_option maxHeartbeats 4000000 in
set_option maxRecDepth 100000 in
theorem c_X2_takeBy (l : Launch) (D : va_G) (cI cJ : ClassId) (zq : Nat → Nat) (zs : fb_MS) (zw : fb_AR) (l1 : Int32) (sz : Nat)  : Met l yX2_takeBy (Cond.code yX2_takeBy cX2_takeBy 2 none :: fb_all) ({ frames := 3, cells := 0, slots := 0, locals := 83 } : Room) (fb_PP D (fb_ty D cI cJ) [.ref (zq 0), .int l1] ((fb_mw cI zq zs zw)) sz) (fb_QV D (va_A ((fb_mw cI zq zs zw)) sz) (fun (_ : fb_AR) => True) (fun (t : fb_AR) => (fb_mw cI zq (((f_X2_takeBy zs l1))) (t)))) 0 0 (va_A ((fb_mw cI zq zs zw)) sz) := by
  refine fb_ent (Qf := fun A => (fb_QV D A (fun (_ : fb_AR) => True) (fun (t : fb_AR) => (fb_mw cI zq (((f_X2_takeBy zs l1))) (t))))) (by decide +kernel) (Nat.le_of_ble_eq_true rfl) ?_
  intro p e s m args below meth c A ls X I hl hin
  exact b_X2_takeBy_0 X  I hl rfl
