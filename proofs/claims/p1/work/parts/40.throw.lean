/-! the class throws, laid by throw.py -/
theorem ok_out0 : f_X5_outputsKept (fb_s0).2.2.2.2.2 = 0 := by decide

set_option maxHeartbeats 4000000 in
set_option maxRecDepth 100000 in
theorem x_trim_a (l : Launch) (D : va_G) (cI cJ : ClassId) (zb : Nat) (zr0 : Nat) (zr1 : Nat) (zr2 : Nat) (zr3 : Nat) (zr4 : Nat) (zr5 : Nat) (zr6 : Nat) (zr7 : Nat) (zr8 : Nat) (zr9 : Nat) (l1 : Int32)  (sz : Nat) (hst : l.stackTraces = false) (h0 : l1 < 0) : vx_Met l yX11_trim (Cond.code yX11_trim cX11_trim 2 (some .int) :: fb_all) ({ frames := 6, cells := 1, slots := 6, locals := 82 } : Room) (fb_PP D (fb_ty D cI cJ) [.ref zb, .int l1] (([fb_o11 zb zr0 zr1 zr2 zr3 zr4 zr5 zr6 zr7 zr8 zr9] : List va_W).flatten) sz) fb_QX (fb_XC "java/lang/IllegalArgumentException" (va_A (([fb_o11 zb zr0 zr1 zr2 zr3 zr4 zr5 zr6 zr7 zr8 zr9] : List va_W).flatten) sz)) 1 6 (va_A (([fb_o11 zb zr0 zr1 zr2 zr3 zr4 zr5 zr6 zr7 zr8 zr9] : List va_W).flatten) sz) := by
  refine fb_entT (by decide +kernel) (Nat.le_of_ble_eq_true rfl) ?_
  intro p e s m args below meth c A ls X I hl hex
  obtain ⟨hx, hb, hr, hml, hown, hts, hlk, hA, hK, hF⟩ := id X
  have hl : lv_has ls 2 [(0, .ref zb), (1, .int l1)] := hl
  refine lv_iload_n hx hb dX11_trim_0 rfl (lv_at hl 1 rfl) ?_
  refine lv_if_lt (tgt := 15) hx hb dX11_trim_1 (by decide) (fun _ => ?_) (fun c1 => absurd h0 c1)
  exact fb_throwA (is := 104) (text := "no such length") X I hl hex hst (List.mem_of_getElem? (i := 0) rfl) dX11_trim_15 dX11_trim_18 (Or.inl ⟨dX11_trim_19, dX11_trim_21, dX11_trim_24⟩) (Nat.le_of_ble_eq_true rfl) (Nat.le_of_ble_eq_true rfl) (Nat.le_of_ble_eq_true rfl) (Nat.le_of_ble_eq_true rfl) (Nat.le_of_ble_eq_true rfl) (Nat.le_of_ble_eq_true rfl)

set_option maxHeartbeats 4000000 in
set_option maxRecDepth 100000 in
theorem x_trim_b (l : Launch) (D : va_G) (cI cJ : ClassId) (zb : Nat) (zr1 : Nat) (zr2 : Nat) (zr3 : Nat) (zr4 : Nat) (zr5 : Nat) (zr6 : Nat) (zr7 : Nat) (zr8 : Nat) (zr9 : Nat) (l1 : Int32) (zt : Nat) (zt0 : Nat) (zt2 : Nat) (zt3 : Nat) (zt4 : Nat) (sz : Nat) (hst : l.stackTraces = false) (h0 : ¬ l1 < 0) (h1 : ¬ l1 ≤ (0 : Int32)) : vx_Met l yX11_trim (Cond.code yX11_trim cX11_trim 2 (some .int) :: fb_all) ({ frames := 6, cells := 1, slots := 6, locals := 82 } : Room) (fb_PP D (fb_ty D cI cJ) [.ref zb, .int l1] (([fb_o11 zb zt zr1 zr2 zr3 zr4 zr5 zr6 zr7 zr8 zr9, fb_o9 zt zt0 zt2 zt3 zt4 (fun _ => 0)] : List va_W).flatten) sz) fb_QX (fb_XC "java/lang/IllegalArgumentException" (va_A (([fb_o11 zb zt zr1 zr2 zr3 zr4 zr5 zr6 zr7 zr8 zr9, fb_o9 zt zt0 zt2 zt3 zt4 (fun _ => 0)] : List va_W).flatten) sz)) 1 6 (va_A (([fb_o11 zb zt zr1 zr2 zr3 zr4 zr5 zr6 zr7 zr8 zr9, fb_o9 zt zt0 zt2 zt3 zt4 (fun _ => 0)] : List va_W).flatten) sz) := by
  refine fb_entT (by decide +kernel) (Nat.le_of_ble_eq_true rfl) ?_
  intro p e s m args below meth c A ls X I hl hex
  obtain ⟨hx, hb, hr, hml, hown, hts, hlk, hA, hK, hF⟩ := id X
  have hl : lv_has ls 2 [(0, .ref zb), (1, .int l1)] := hl
  refine lv_iload_n hx hb dX11_trim_0 rfl (lv_at hl 1 rfl) ?_
  refine lv_if_lt (tgt := 15) hx hb dX11_trim_1 (by decide) (fun c1 => absurd c1 h0) (fun _ => ?_)
  refine lv_iload_n hx hb dX11_trim_4 rfl (lv_at hl 1 rfl) ?_
  refine lv_aload_n hx hb dX11_trim_5 rfl (lv_at hl 0 rfl) ?_
  refine fb_get X I (k := 0) (v := .ref zt) fu_X11 0 rfl rfl (Nat.le_of_ble_eq_true rfl) fw_687 rfl rfl dX11_trim_6 ?_
  refine fb_get X I (k := 1) (v := .int ((fun _ => 0) 1)) fu_X9 1 rfl rfl (Nat.le_of_ble_eq_true rfl) fw_234 rfl rfl dX11_trim_9 ?_
  refine fb_tI (v := (0 : Int32)) rfl ?_
  refine lv_icmp_le (tgt := 25) hx hb dX11_trim_12 (by decide) (fun c2 => absurd c2 h1) (fun _ => ?_)
  exact fb_throwA (is := 104) (text := "no such length") X I hl hex hst (List.mem_of_getElem? (i := 0) rfl) dX11_trim_15 dX11_trim_18 (Or.inl ⟨dX11_trim_19, dX11_trim_21, dX11_trim_24⟩) (Nat.le_of_ble_eq_true rfl) (Nat.le_of_ble_eq_true rfl) (Nat.le_of_ble_eq_true rfl) (Nat.le_of_ble_eq_true rfl) (Nat.le_of_ble_eq_true rfl) (Nat.le_of_ble_eq_true rfl)

set_option maxHeartbeats 4000000 in
set_option maxRecDepth 100000 in
theorem x_valueOf_a (l : Launch) (D : va_G) (cI cJ : ClassId) (zb : Nat) (zr0 : Nat) (zr1 : Nat) (zr2 : Nat) (zr3 : Nat) (zr4 : Nat) (zr5 : Nat) (zr6 : Nat) (zr7 : Nat) (zr8 : Nat) (zr9 : Nat) (l1 : Int32)  (sz : Nat) (hst : l.stackTraces = false) (h0 : l1 < 0) : vx_Met l yX11_valueOf (Cond.code yX11_valueOf cX11_valueOf 2 (some .int) :: fb_all) ({ frames := 6, cells := 1, slots := 6, locals := 82 } : Room) (fb_PP D (fb_ty D cI cJ) [.ref zb, .int l1] (([fb_o11 zb zr0 zr1 zr2 zr3 zr4 zr5 zr6 zr7 zr8 zr9] : List va_W).flatten) sz) fb_QX (fb_XC "java/lang/IndexOutOfBoundsException" (va_A (([fb_o11 zb zr0 zr1 zr2 zr3 zr4 zr5 zr6 zr7 zr8 zr9] : List va_W).flatten) sz)) 1 6 (va_A (([fb_o11 zb zr0 zr1 zr2 zr3 zr4 zr5 zr6 zr7 zr8 zr9] : List va_W).flatten) sz) := by
  refine fb_entT (by decide +kernel) (Nat.le_of_ble_eq_true rfl) ?_
  intro p e s m args below meth c A ls X I hl hex
  obtain ⟨hx, hb, hr, hml, hown, hts, hlk, hA, hK, hF⟩ := id X
  have hl : lv_has ls 2 [(0, .ref zb), (1, .int l1)] := hl
  refine lv_iload_n hx hb dX11_valueOf_0 rfl (lv_at hl 1 rfl) ?_
  refine lv_if_lt (tgt := 15) hx hb dX11_valueOf_1 (by decide) (fun _ => ?_) (fun c1 => absurd h0 c1)
  exact fb_throwB (is := 162) (text := "no such name") X I hl hex hst (List.mem_of_getElem? (i := 1) rfl) dX11_valueOf_15 dX11_valueOf_18 (Or.inl ⟨dX11_valueOf_19, dX11_valueOf_21, dX11_valueOf_24⟩) (Nat.le_of_ble_eq_true rfl) (Nat.le_of_ble_eq_true rfl) (Nat.le_of_ble_eq_true rfl) (Nat.le_of_ble_eq_true rfl) (Nat.le_of_ble_eq_true rfl) (Nat.le_of_ble_eq_true rfl)

set_option maxHeartbeats 4000000 in
set_option maxRecDepth 100000 in
theorem x_valueOf_b (l : Launch) (D : va_G) (cI cJ : ClassId) (zb : Nat) (zr0 : Nat) (zr2 : Nat) (zr3 : Nat) (zr4 : Nat) (zr5 : Nat) (zr6 : Nat) (zr7 : Nat) (zr8 : Nat) (zr9 : Nat) (l1 : Int32) (zn : Nat) (zn0 : Nat) (zn1 : Nat) (zn3 : Nat) (sz : Nat) (hst : l.stackTraces = false) (h0 : ¬ l1 < 0) (h1 : (0 : Int32) ≤ l1) : vx_Met l yX11_valueOf (Cond.code yX11_valueOf cX11_valueOf 2 (some .int) :: fb_all) ({ frames := 6, cells := 1, slots := 6, locals := 82 } : Room) (fb_PP D (fb_ty D cI cJ) [.ref zb, .int l1] (([fb_o11 zb zr0 zn zr2 zr3 zr4 zr5 zr6 zr7 zr8 zr9, fb_o3 zn zn0 zn1 zn3 (fun _ => 0)] : List va_W).flatten) sz) fb_QX (fb_XC "java/lang/IndexOutOfBoundsException" (va_A (([fb_o11 zb zr0 zn zr2 zr3 zr4 zr5 zr6 zr7 zr8 zr9, fb_o3 zn zn0 zn1 zn3 (fun _ => 0)] : List va_W).flatten) sz)) 1 6 (va_A (([fb_o11 zb zr0 zn zr2 zr3 zr4 zr5 zr6 zr7 zr8 zr9, fb_o3 zn zn0 zn1 zn3 (fun _ => 0)] : List va_W).flatten) sz) := by
  refine fb_entT (by decide +kernel) (Nat.le_of_ble_eq_true rfl) ?_
  intro p e s m args below meth c A ls X I hl hex
  obtain ⟨hx, hb, hr, hml, hown, hts, hlk, hA, hK, hF⟩ := id X
  have hl : lv_has ls 2 [(0, .ref zb), (1, .int l1)] := hl
  refine lv_iload_n hx hb dX11_valueOf_0 rfl (lv_at hl 1 rfl) ?_
  refine lv_if_lt (tgt := 15) hx hb dX11_valueOf_1 (by decide) (fun c1 => absurd c1 h0) (fun _ => ?_)
  refine lv_iload_n hx hb dX11_valueOf_4 rfl (lv_at hl 1 rfl) ?_
  refine lv_aload_n hx hb dX11_valueOf_5 rfl (lv_at hl 0 rfl) ?_
  refine fb_get X I (k := 1) (v := .ref zn) fu_X11 0 rfl rfl (Nat.le_of_ble_eq_true rfl) fw_688 rfl rfl dX11_valueOf_6 ?_
  refine fb_get X I (k := 4) (v := .int ((fun _ => 0) 4)) fu_X3 1 rfl rfl (Nat.le_of_ble_eq_true rfl) fw_276 rfl rfl dX11_valueOf_9 ?_
  refine fb_tI (v := (0 : Int32)) rfl ?_
  refine lv_icmp_lt (tgt := 25) hx hb dX11_valueOf_12 (by decide) (fun c2 => absurd c2 h0) (fun _ => ?_)
  exact fb_throwB (is := 162) (text := "no such name") X I hl hex hst (List.mem_of_getElem? (i := 1) rfl) dX11_valueOf_15 dX11_valueOf_18 (Or.inl ⟨dX11_valueOf_19, dX11_valueOf_21, dX11_valueOf_24⟩) (Nat.le_of_ble_eq_true rfl) (Nat.le_of_ble_eq_true rfl) (Nat.le_of_ble_eq_true rfl) (Nat.le_of_ble_eq_true rfl) (Nat.le_of_ble_eq_true rfl) (Nat.le_of_ble_eq_true rfl)

set_option maxHeartbeats 4000000 in
set_option maxRecDepth 100000 in
theorem x_nameNear_o (l : Launch) (D : va_G) (cI cJ : ClassId) (zb : Nat) (zr0 : Nat) (zr1 : Nat) (zr2 : Nat) (zr3 : Nat) (zr4 : Nat) (zr5 : Nat) (zr6 : Nat) (zr7 : Nat) (zr8 : Nat) (zr9 : Nat) (l1 : Int32)  (sz : Nat) (hst : l.stackTraces = false) (gA : f_X11_isNoAddress l1 = (1 : Int32)) : vx_Met l yX11_nameNear (Cond.code yX11_nameNear cX11_nameNear 2 (some .int) :: fb_all) ({ frames := 6, cells := 1, slots := 6, locals := 82 } : Room) (fb_PP D (fb_ty D cI cJ) [.ref zb, .int l1] (([fb_o11 zb zr0 zr1 zr2 zr3 zr4 zr5 zr6 zr7 zr8 zr9] : List va_W).flatten) sz) fb_QX (fb_XC "java/lang/IllegalArgumentException" (va_A (([fb_o11 zb zr0 zr1 zr2 zr3 zr4 zr5 zr6 zr7 zr8 zr9] : List va_W).flatten) sz)) 1 6 (va_A (([fb_o11 zb zr0 zr1 zr2 zr3 zr4 zr5 zr6 zr7 zr8 zr9] : List va_W).flatten) sz) := by
  refine fb_entT (by decide +kernel) (Nat.le_of_ble_eq_true rfl) ?_
  intro p e s m args below meth c A ls X I hl hex
  obtain ⟨hx, hb, hr, hml, hown, hts, hlk, hA, hK, hF⟩ := id X
  have hl : lv_has ls 2 [(0, .ref zb), (1, .int l1)] := hl
  refine lv_iload_n hx hb dX11_nameNear_0 rfl (lv_at hl 1 rfl) ?_
  refine fb_gO (cs := []) (rs := [fb_o11 zb zr0 zr1 zr2 zr3 zr4 zr5 zr6 zr7 zr8 zr9]) X I [0] 1 rfl (by decide +kernel) rfl rfl (fun I => fb_rS (As := [.int l1]) (rest := []) X hl (fb_goodS fw_1717 fw_1718 fw_191 fw_1719) (c_X11_isNoAddress l D cI cJ l1 _) rfl rfl (by decide +kernel : fb_hd yX11_isNoAddress 1) ⟨Nat.le_of_ble_eq_true rfl, Nat.le_of_ble_eq_true rfl⟩ rfl rfl (Nat.le_of_ble_eq_true rfl) ⟨Nat.zero_le _, Nat.zero_le _⟩ dX11_nameNear_1 I) ?_
  refine fb_tI (v := (1 : Int32)) gA ?_
  refine lv_if_eq (tgt := 17) hx hb dX11_nameNear_4 (by decide) (fun c1 => absurd c1 (by decide)) (fun _ => ?_)
  exact fb_throwA (is := 176) (text := "no address") X I hl hex hst (List.mem_of_getElem? (i := 2) rfl) dX11_nameNear_7 dX11_nameNear_10 (Or.inl ⟨dX11_nameNear_11, dX11_nameNear_13, dX11_nameNear_16⟩) (Nat.le_of_ble_eq_true rfl) (Nat.le_of_ble_eq_true rfl) (Nat.le_of_ble_eq_true rfl) (Nat.le_of_ble_eq_true rfl) (Nat.le_of_ble_eq_true rfl) (Nat.le_of_ble_eq_true rfl)

set_option maxHeartbeats 4000000 in
set_option maxRecDepth 100000 in
theorem x_lineOf_o (l : Launch) (D : va_G) (cI cJ : ClassId) (zb : Nat) (zr0 : Nat) (zr1 : Nat) (zr2 : Nat) (zr3 : Nat) (zr4 : Nat) (zr5 : Nat) (zr6 : Nat) (zr7 : Nat) (zr8 : Nat) (zr9 : Nat) (l1 : Int32)  (sz : Nat) (hst : l.stackTraces = false) (gA : f_X11_isNoAddress l1 = (1 : Int32)) : vx_Met l yX11_lineOf (Cond.code yX11_lineOf cX11_lineOf 3 (some .int) :: fb_all) ({ frames := 6, cells := 1, slots := 6, locals := 82 } : Room) (fb_PP D (fb_ty D cI cJ) [.ref zb, .int l1] (([fb_o11 zb zr0 zr1 zr2 zr3 zr4 zr5 zr6 zr7 zr8 zr9] : List va_W).flatten) sz) fb_QX (fb_XC "java/lang/IllegalArgumentException" (va_A (([fb_o11 zb zr0 zr1 zr2 zr3 zr4 zr5 zr6 zr7 zr8 zr9] : List va_W).flatten) sz)) 1 6 (va_A (([fb_o11 zb zr0 zr1 zr2 zr3 zr4 zr5 zr6 zr7 zr8 zr9] : List va_W).flatten) sz) := by
  refine fb_entT (by decide +kernel) (Nat.le_of_ble_eq_true rfl) ?_
  intro p e s m args below meth c A ls X I hl hex
  obtain ⟨hx, hb, hr, hml, hown, hts, hlk, hA, hK, hF⟩ := id X
  have hl : lv_has ls 3 [(0, .ref zb), (1, .int l1)] := hl
  refine lv_iload_n hx hb dX11_lineOf_0 rfl (lv_at hl 1 rfl) ?_
  refine fb_gO (cs := []) (rs := [fb_o11 zb zr0 zr1 zr2 zr3 zr4 zr5 zr6 zr7 zr8 zr9]) X I [0] 1 rfl (by decide +kernel) rfl rfl (fun I => fb_rS (As := [.int l1]) (rest := []) X hl (fb_goodS fw_1717 fw_1718 fw_191 fw_1719) (c_X11_isNoAddress l D cI cJ l1 _) rfl rfl (by decide +kernel : fb_hd yX11_isNoAddress 1) ⟨Nat.le_of_ble_eq_true rfl, Nat.le_of_ble_eq_true rfl⟩ rfl rfl (Nat.le_of_ble_eq_true rfl) ⟨Nat.zero_le _, Nat.zero_le _⟩ dX11_lineOf_1 I) ?_
  refine fb_tI (v := (1 : Int32)) gA ?_
  refine lv_if_eq (tgt := 17) hx hb dX11_lineOf_4 (by decide) (fun c1 => absurd c1 (by decide)) (fun _ => ?_)
  exact fb_throwA (is := 176) (text := "no address") X I hl hex hst (List.mem_of_getElem? (i := 2) rfl) dX11_lineOf_7 dX11_lineOf_10 (Or.inl ⟨dX11_lineOf_11, dX11_lineOf_13, dX11_lineOf_16⟩) (Nat.le_of_ble_eq_true rfl) (Nat.le_of_ble_eq_true rfl) (Nat.le_of_ble_eq_true rfl) (Nat.le_of_ble_eq_true rfl) (Nat.le_of_ble_eq_true rfl) (Nat.le_of_ble_eq_true rfl)

set_option maxHeartbeats 4000000 in
set_option maxRecDepth 100000 in
theorem x_byteAt_o (l : Launch) (D : va_G) (cI cJ : ClassId) (zb : Nat) (zr0 : Nat) (zr1 : Nat) (zr2 : Nat) (zr3 : Nat) (zr4 : Nat) (zr5 : Nat) (zr6 : Nat) (zr7 : Nat) (zr8 : Nat) (zr9 : Nat) (l1 : Int32)  (sz : Nat) (hst : l.stackTraces = false) (gA : f_X11_isNoAddress l1 = (1 : Int32)) : vx_Met l yX11_byteAt (Cond.code yX11_byteAt cX11_byteAt 2 (some .int) :: fb_all) ({ frames := 6, cells := 1, slots := 6, locals := 82 } : Room) (fb_PP D (fb_ty D cI cJ) [.ref zb, .int l1] (([fb_o11 zb zr0 zr1 zr2 zr3 zr4 zr5 zr6 zr7 zr8 zr9] : List va_W).flatten) sz) fb_QX (fb_XC "java/lang/IllegalArgumentException" (va_A (([fb_o11 zb zr0 zr1 zr2 zr3 zr4 zr5 zr6 zr7 zr8 zr9] : List va_W).flatten) sz)) 1 6 (va_A (([fb_o11 zb zr0 zr1 zr2 zr3 zr4 zr5 zr6 zr7 zr8 zr9] : List va_W).flatten) sz) := by
  refine fb_entT (by decide +kernel) (Nat.le_of_ble_eq_true rfl) ?_
  intro p e s m args below meth c A ls X I hl hex
  obtain ⟨hx, hb, hr, hml, hown, hts, hlk, hA, hK, hF⟩ := id X
  have hl : lv_has ls 2 [(0, .ref zb), (1, .int l1)] := hl
  refine lv_iload_n hx hb dX11_byteAt_0 rfl (lv_at hl 1 rfl) ?_
  refine fb_gO (cs := []) (rs := [fb_o11 zb zr0 zr1 zr2 zr3 zr4 zr5 zr6 zr7 zr8 zr9]) X I [0] 1 rfl (by decide +kernel) rfl rfl (fun I => fb_rS (As := [.int l1]) (rest := []) X hl (fb_goodS fw_1717 fw_1718 fw_191 fw_1719) (c_X11_isNoAddress l D cI cJ l1 _) rfl rfl (by decide +kernel : fb_hd yX11_isNoAddress 1) ⟨Nat.le_of_ble_eq_true rfl, Nat.le_of_ble_eq_true rfl⟩ rfl rfl (Nat.le_of_ble_eq_true rfl) ⟨Nat.zero_le _, Nat.zero_le _⟩ dX11_byteAt_1 I) ?_
  refine fb_tI (v := (1 : Int32)) gA ?_
  refine lv_if_eq (tgt := 17) hx hb dX11_byteAt_4 (by decide) (fun c1 => absurd c1 (by decide)) (fun _ => ?_)
  exact fb_throwA (is := 176) (text := "no address") X I hl hex hst (List.mem_of_getElem? (i := 2) rfl) dX11_byteAt_7 dX11_byteAt_10 (Or.inl ⟨dX11_byteAt_11, dX11_byteAt_13, dX11_byteAt_16⟩) (Nat.le_of_ble_eq_true rfl) (Nat.le_of_ble_eq_true rfl) (Nat.le_of_ble_eq_true rfl) (Nat.le_of_ble_eq_true rfl) (Nat.le_of_ble_eq_true rfl) (Nat.le_of_ble_eq_true rfl)

set_option maxHeartbeats 4000000 in
set_option maxRecDepth 100000 in
theorem x_timesAt_o (l : Launch) (D : va_G) (cI cJ : ClassId) (zb : Nat) (zr0 : Nat) (zr1 : Nat) (zr2 : Nat) (zr3 : Nat) (zr4 : Nat) (zr5 : Nat) (zr6 : Nat) (zr7 : Nat) (zr8 : Nat) (zr9 : Nat) (l1 : Int32)  (sz : Nat) (hst : l.stackTraces = false) (gA : f_X11_isNoAddress l1 = (1 : Int32)) : vx_Met l yX11_timesAt (Cond.code yX11_timesAt cX11_timesAt 2 (some .int) :: fb_all) ({ frames := 6, cells := 1, slots := 6, locals := 82 } : Room) (fb_PP D (fb_ty D cI cJ) [.ref zb, .int l1] (([fb_o11 zb zr0 zr1 zr2 zr3 zr4 zr5 zr6 zr7 zr8 zr9] : List va_W).flatten) sz) fb_QX (fb_XC "java/lang/IllegalArgumentException" (va_A (([fb_o11 zb zr0 zr1 zr2 zr3 zr4 zr5 zr6 zr7 zr8 zr9] : List va_W).flatten) sz)) 1 6 (va_A (([fb_o11 zb zr0 zr1 zr2 zr3 zr4 zr5 zr6 zr7 zr8 zr9] : List va_W).flatten) sz) := by
  refine fb_entT (by decide +kernel) (Nat.le_of_ble_eq_true rfl) ?_
  intro p e s m args below meth c A ls X I hl hex
  obtain ⟨hx, hb, hr, hml, hown, hts, hlk, hA, hK, hF⟩ := id X
  have hl : lv_has ls 2 [(0, .ref zb), (1, .int l1)] := hl
  refine lv_iload_n hx hb dX11_timesAt_0 rfl (lv_at hl 1 rfl) ?_
  refine fb_gO (cs := []) (rs := [fb_o11 zb zr0 zr1 zr2 zr3 zr4 zr5 zr6 zr7 zr8 zr9]) X I [0] 1 rfl (by decide +kernel) rfl rfl (fun I => fb_rS (As := [.int l1]) (rest := []) X hl (fb_goodS fw_1717 fw_1718 fw_191 fw_1719) (c_X11_isNoAddress l D cI cJ l1 _) rfl rfl (by decide +kernel : fb_hd yX11_isNoAddress 1) ⟨Nat.le_of_ble_eq_true rfl, Nat.le_of_ble_eq_true rfl⟩ rfl rfl (Nat.le_of_ble_eq_true rfl) ⟨Nat.zero_le _, Nat.zero_le _⟩ dX11_timesAt_1 I) ?_
  refine fb_tI (v := (1 : Int32)) gA ?_
  refine lv_if_eq (tgt := 17) hx hb dX11_timesAt_4 (by decide) (fun c1 => absurd c1 (by decide)) (fun _ => ?_)
  exact fb_throwA (is := 176) (text := "no address") X I hl hex hst (List.mem_of_getElem? (i := 2) rfl) dX11_timesAt_7 dX11_timesAt_10 (Or.inl ⟨dX11_timesAt_11, dX11_timesAt_13, dX11_timesAt_16⟩) (Nat.le_of_ble_eq_true rfl) (Nat.le_of_ble_eq_true rfl) (Nat.le_of_ble_eq_true rfl) (Nat.le_of_ble_eq_true rfl) (Nat.le_of_ble_eq_true rfl) (Nat.le_of_ble_eq_true rfl)

set_option maxHeartbeats 4000000 in
set_option maxRecDepth 100000 in
theorem x_codeAt_o (l : Launch) (D : va_G) (cI cJ : ClassId) (zb : Nat) (zr0 : Nat) (zr1 : Nat) (zr2 : Nat) (zr3 : Nat) (zr4 : Nat) (zr5 : Nat) (zr6 : Nat) (zr7 : Nat) (zr8 : Nat) (zr9 : Nat) (l1 : Int32)  (sz : Nat) (hst : l.stackTraces = false) (gA : f_X11_isNoAddress l1 = (1 : Int32)) : vx_Met l yX11_codeAt (Cond.code yX11_codeAt cX11_codeAt 3 (some .int) :: fb_all) ({ frames := 6, cells := 1, slots := 6, locals := 82 } : Room) (fb_PP D (fb_ty D cI cJ) [.ref zb, .int l1] (([fb_o11 zb zr0 zr1 zr2 zr3 zr4 zr5 zr6 zr7 zr8 zr9] : List va_W).flatten) sz) fb_QX (fb_XC "java/lang/IllegalArgumentException" (va_A (([fb_o11 zb zr0 zr1 zr2 zr3 zr4 zr5 zr6 zr7 zr8 zr9] : List va_W).flatten) sz)) 1 6 (va_A (([fb_o11 zb zr0 zr1 zr2 zr3 zr4 zr5 zr6 zr7 zr8 zr9] : List va_W).flatten) sz) := by
  refine fb_entT (by decide +kernel) (Nat.le_of_ble_eq_true rfl) ?_
  intro p e s m args below meth c A ls X I hl hex
  obtain ⟨hx, hb, hr, hml, hown, hts, hlk, hA, hK, hF⟩ := id X
  have hl : lv_has ls 3 [(0, .ref zb), (1, .int l1)] := hl
  refine lv_iload_n hx hb dX11_codeAt_0 rfl (lv_at hl 1 rfl) ?_
  refine fb_gO (cs := []) (rs := [fb_o11 zb zr0 zr1 zr2 zr3 zr4 zr5 zr6 zr7 zr8 zr9]) X I [0] 1 rfl (by decide +kernel) rfl rfl (fun I => fb_rS (As := [.int l1]) (rest := []) X hl (fb_goodS fw_1717 fw_1718 fw_191 fw_1719) (c_X11_isNoAddress l D cI cJ l1 _) rfl rfl (by decide +kernel : fb_hd yX11_isNoAddress 1) ⟨Nat.le_of_ble_eq_true rfl, Nat.le_of_ble_eq_true rfl⟩ rfl rfl (Nat.le_of_ble_eq_true rfl) ⟨Nat.zero_le _, Nat.zero_le _⟩ dX11_codeAt_1 I) ?_
  refine fb_tI (v := (1 : Int32)) gA ?_
  refine lv_if_eq (tgt := 17) hx hb dX11_codeAt_4 (by decide) (fun c1 => absurd c1 (by decide)) (fun _ => ?_)
  exact fb_throwA (is := 176) (text := "no address") X I hl hex hst (List.mem_of_getElem? (i := 2) rfl) dX11_codeAt_7 dX11_codeAt_10 (Or.inl ⟨dX11_codeAt_11, dX11_codeAt_13, dX11_codeAt_16⟩) (Nat.le_of_ble_eq_true rfl) (Nat.le_of_ble_eq_true rfl) (Nat.le_of_ble_eq_true rfl) (Nat.le_of_ble_eq_true rfl) (Nat.le_of_ble_eq_true rfl) (Nat.le_of_ble_eq_true rfl)

set_option maxHeartbeats 4000000 in
set_option maxRecDepth 100000 in
theorem x_lengthAt_o (l : Launch) (D : va_G) (cI cJ : ClassId) (zb : Nat) (zr0 : Nat) (zr1 : Nat) (zr2 : Nat) (zr3 : Nat) (zr4 : Nat) (zr5 : Nat) (zr6 : Nat) (zr7 : Nat) (zr8 : Nat) (zr9 : Nat) (l1 : Int32)  (sz : Nat) (hst : l.stackTraces = false) (gA : f_X11_isNoAddress l1 = (1 : Int32)) : vx_Met l yX11_lengthAt (Cond.code yX11_lengthAt cX11_lengthAt 2 (some .int) :: fb_all) ({ frames := 6, cells := 1, slots := 6, locals := 82 } : Room) (fb_PP D (fb_ty D cI cJ) [.ref zb, .int l1] (([fb_o11 zb zr0 zr1 zr2 zr3 zr4 zr5 zr6 zr7 zr8 zr9] : List va_W).flatten) sz) fb_QX (fb_XC "java/lang/IllegalArgumentException" (va_A (([fb_o11 zb zr0 zr1 zr2 zr3 zr4 zr5 zr6 zr7 zr8 zr9] : List va_W).flatten) sz)) 1 6 (va_A (([fb_o11 zb zr0 zr1 zr2 zr3 zr4 zr5 zr6 zr7 zr8 zr9] : List va_W).flatten) sz) := by
  refine fb_entT (by decide +kernel) (Nat.le_of_ble_eq_true rfl) ?_
  intro p e s m args below meth c A ls X I hl hex
  obtain ⟨hx, hb, hr, hml, hown, hts, hlk, hA, hK, hF⟩ := id X
  have hl : lv_has ls 2 [(0, .ref zb), (1, .int l1)] := hl
  refine lv_iload_n hx hb dX11_lengthAt_0 rfl (lv_at hl 1 rfl) ?_
  refine fb_gO (cs := []) (rs := [fb_o11 zb zr0 zr1 zr2 zr3 zr4 zr5 zr6 zr7 zr8 zr9]) X I [0] 1 rfl (by decide +kernel) rfl rfl (fun I => fb_rS (As := [.int l1]) (rest := []) X hl (fb_goodS fw_1717 fw_1718 fw_191 fw_1719) (c_X11_isNoAddress l D cI cJ l1 _) rfl rfl (by decide +kernel : fb_hd yX11_isNoAddress 1) ⟨Nat.le_of_ble_eq_true rfl, Nat.le_of_ble_eq_true rfl⟩ rfl rfl (Nat.le_of_ble_eq_true rfl) ⟨Nat.zero_le _, Nat.zero_le _⟩ dX11_lengthAt_1 I) ?_
  refine fb_tI (v := (1 : Int32)) gA ?_
  refine lv_if_eq (tgt := 17) hx hb dX11_lengthAt_4 (by decide) (fun c1 => absurd c1 (by decide)) (fun _ => ?_)
  exact fb_throwA (is := 176) (text := "no address") X I hl hex hst (List.mem_of_getElem? (i := 2) rfl) dX11_lengthAt_7 dX11_lengthAt_10 (Or.inl ⟨dX11_lengthAt_11, dX11_lengthAt_13, dX11_lengthAt_16⟩) (Nat.le_of_ble_eq_true rfl) (Nat.le_of_ble_eq_true rfl) (Nat.le_of_ble_eq_true rfl) (Nat.le_of_ble_eq_true rfl) (Nat.le_of_ble_eq_true rfl) (Nat.le_of_ble_eq_true rfl)

set_option maxHeartbeats 4000000 in
set_option maxRecDepth 100000 in
theorem x_operandAt_o (l : Launch) (D : va_G) (cI cJ : ClassId) (zb : Nat) (zr0 : Nat) (zr1 : Nat) (zr2 : Nat) (zr3 : Nat) (zr4 : Nat) (zr5 : Nat) (zr6 : Nat) (zr7 : Nat) (zr8 : Nat) (zr9 : Nat) (l1 : Int32)  (sz : Nat) (hst : l.stackTraces = false) (gA : f_X11_isNoAddress l1 = (1 : Int32)) : vx_Met l yX11_operandAt (Cond.code yX11_operandAt cX11_operandAt 2 (some .int) :: fb_all) ({ frames := 6, cells := 1, slots := 6, locals := 82 } : Room) (fb_PP D (fb_ty D cI cJ) [.ref zb, .int l1] (([fb_o11 zb zr0 zr1 zr2 zr3 zr4 zr5 zr6 zr7 zr8 zr9] : List va_W).flatten) sz) fb_QX (fb_XC "java/lang/IllegalArgumentException" (va_A (([fb_o11 zb zr0 zr1 zr2 zr3 zr4 zr5 zr6 zr7 zr8 zr9] : List va_W).flatten) sz)) 1 6 (va_A (([fb_o11 zb zr0 zr1 zr2 zr3 zr4 zr5 zr6 zr7 zr8 zr9] : List va_W).flatten) sz) := by
  refine fb_entT (by decide +kernel) (Nat.le_of_ble_eq_true rfl) ?_
  intro p e s m args below meth c A ls X I hl hex
  obtain ⟨hx, hb, hr, hml, hown, hts, hlk, hA, hK, hF⟩ := id X
  have hl : lv_has ls 2 [(0, .ref zb), (1, .int l1)] := hl
  refine lv_iload_n hx hb dX11_operandAt_0 rfl (lv_at hl 1 rfl) ?_
  refine fb_gO (cs := []) (rs := [fb_o11 zb zr0 zr1 zr2 zr3 zr4 zr5 zr6 zr7 zr8 zr9]) X I [0] 1 rfl (by decide +kernel) rfl rfl (fun I => fb_rS (As := [.int l1]) (rest := []) X hl (fb_goodS fw_1717 fw_1718 fw_191 fw_1719) (c_X11_isNoAddress l D cI cJ l1 _) rfl rfl (by decide +kernel : fb_hd yX11_isNoAddress 1) ⟨Nat.le_of_ble_eq_true rfl, Nat.le_of_ble_eq_true rfl⟩ rfl rfl (Nat.le_of_ble_eq_true rfl) ⟨Nat.zero_le _, Nat.zero_le _⟩ dX11_operandAt_1 I) ?_
  refine fb_tI (v := (1 : Int32)) gA ?_
  refine lv_if_eq (tgt := 17) hx hb dX11_operandAt_4 (by decide) (fun c1 => absurd c1 (by decide)) (fun _ => ?_)
  exact fb_throwA (is := 176) (text := "no address") X I hl hex hst (List.mem_of_getElem? (i := 2) rfl) dX11_operandAt_7 dX11_operandAt_10 (Or.inl ⟨dX11_operandAt_11, dX11_operandAt_13, dX11_operandAt_16⟩) (Nat.le_of_ble_eq_true rfl) (Nat.le_of_ble_eq_true rfl) (Nat.le_of_ble_eq_true rfl) (Nat.le_of_ble_eq_true rfl) (Nat.le_of_ble_eq_true rfl) (Nat.le_of_ble_eq_true rfl)

set_option maxHeartbeats 4000000 in
set_option maxRecDepth 100000 in
theorem x_isCode_o (l : Launch) (D : va_G) (cI cJ : ClassId) (zb : Nat) (zr0 : Nat) (zr1 : Nat) (zr2 : Nat) (zr3 : Nat) (zr4 : Nat) (zr5 : Nat) (zr6 : Nat) (zr7 : Nat) (zr8 : Nat) (zr9 : Nat) (l1 : Int32)  (sz : Nat) (hst : l.stackTraces = false) (gA : f_X11_isNoAddress l1 = (1 : Int32)) : vx_Met l yX11_isCode (Cond.code yX11_isCode cX11_isCode 2 (some .boolean) :: fb_all) ({ frames := 6, cells := 1, slots := 6, locals := 82 } : Room) (fb_PP D (fb_ty D cI cJ) [.ref zb, .int l1] (([fb_o11 zb zr0 zr1 zr2 zr3 zr4 zr5 zr6 zr7 zr8 zr9] : List va_W).flatten) sz) fb_QX (fb_XC "java/lang/IllegalArgumentException" (va_A (([fb_o11 zb zr0 zr1 zr2 zr3 zr4 zr5 zr6 zr7 zr8 zr9] : List va_W).flatten) sz)) 1 6 (va_A (([fb_o11 zb zr0 zr1 zr2 zr3 zr4 zr5 zr6 zr7 zr8 zr9] : List va_W).flatten) sz) := by
  refine fb_entT (by decide +kernel) (Nat.le_of_ble_eq_true rfl) ?_
  intro p e s m args below meth c A ls X I hl hex
  obtain ⟨hx, hb, hr, hml, hown, hts, hlk, hA, hK, hF⟩ := id X
  have hl : lv_has ls 2 [(0, .ref zb), (1, .int l1)] := hl
  refine lv_iload_n hx hb dX11_isCode_0 rfl (lv_at hl 1 rfl) ?_
  refine fb_gO (cs := []) (rs := [fb_o11 zb zr0 zr1 zr2 zr3 zr4 zr5 zr6 zr7 zr8 zr9]) X I [0] 1 rfl (by decide +kernel) rfl rfl (fun I => fb_rS (As := [.int l1]) (rest := []) X hl (fb_goodS fw_1717 fw_1718 fw_191 fw_1719) (c_X11_isNoAddress l D cI cJ l1 _) rfl rfl (by decide +kernel : fb_hd yX11_isNoAddress 1) ⟨Nat.le_of_ble_eq_true rfl, Nat.le_of_ble_eq_true rfl⟩ rfl rfl (Nat.le_of_ble_eq_true rfl) ⟨Nat.zero_le _, Nat.zero_le _⟩ dX11_isCode_1 I) ?_
  refine fb_tI (v := (1 : Int32)) gA ?_
  refine lv_if_eq (tgt := 17) hx hb dX11_isCode_4 (by decide) (fun c1 => absurd c1 (by decide)) (fun _ => ?_)
  exact fb_throwA (is := 176) (text := "no address") X I hl hex hst (List.mem_of_getElem? (i := 2) rfl) dX11_isCode_7 dX11_isCode_10 (Or.inl ⟨dX11_isCode_11, dX11_isCode_13, dX11_isCode_16⟩) (Nat.le_of_ble_eq_true rfl) (Nat.le_of_ble_eq_true rfl) (Nat.le_of_ble_eq_true rfl) (Nat.le_of_ble_eq_true rfl) (Nat.le_of_ble_eq_true rfl) (Nat.le_of_ble_eq_true rfl)

set_option maxHeartbeats 4000000 in
set_option maxRecDepth 100000 in
theorem x_cyclesToReach_o (l : Launch) (D : va_G) (cI cJ : ClassId) (zb : Nat) (zr0 : Nat) (zr1 : Nat) (zr2 : Nat) (zr3 : Nat) (zr4 : Nat) (zr5 : Nat) (zr6 : Nat) (zr7 : Nat) (zr8 : Nat) (zr9 : Nat) (l1 : Int32) (l2 : Int32)  (sz : Nat) (hst : l.stackTraces = false) (gA : f_X11_isNoAddress l1 = (1 : Int32)) : vx_Met l yX11_cyclesToReach (Cond.code yX11_cyclesToReach cX11_cyclesToReach 6 (some .int) :: fb_all) ({ frames := 6, cells := 1, slots := 6, locals := 82 } : Room) (fb_PP D (fb_ty D cI cJ) [.ref zb, .int l1, .int l2] (([fb_o11 zb zr0 zr1 zr2 zr3 zr4 zr5 zr6 zr7 zr8 zr9] : List va_W).flatten) sz) fb_QX (fb_XC "java/lang/IllegalArgumentException" (va_A (([fb_o11 zb zr0 zr1 zr2 zr3 zr4 zr5 zr6 zr7 zr8 zr9] : List va_W).flatten) sz)) 1 6 (va_A (([fb_o11 zb zr0 zr1 zr2 zr3 zr4 zr5 zr6 zr7 zr8 zr9] : List va_W).flatten) sz) := by
  refine fb_entT (by decide +kernel) (Nat.le_of_ble_eq_true rfl) ?_
  intro p e s m args below meth c A ls X I hl hex
  obtain ⟨hx, hb, hr, hml, hown, hts, hlk, hA, hK, hF⟩ := id X
  have hl : lv_has ls 6 [(0, .ref zb), (1, .int l1), (2, .int l2)] := hl
  refine lv_iload_n hx hb dX11_cyclesToReach_0 rfl (lv_at hl 1 rfl) ?_
  refine fb_gO (cs := []) (rs := [fb_o11 zb zr0 zr1 zr2 zr3 zr4 zr5 zr6 zr7 zr8 zr9]) X I [0] 1 rfl (by decide +kernel) rfl rfl (fun I => fb_rS (As := [.int l1]) (rest := []) X hl (fb_goodS fw_1717 fw_1718 fw_191 fw_1719) (c_X11_isNoAddress l D cI cJ l1 _) rfl rfl (by decide +kernel : fb_hd yX11_isNoAddress 1) ⟨Nat.le_of_ble_eq_true rfl, Nat.le_of_ble_eq_true rfl⟩ rfl rfl (Nat.le_of_ble_eq_true rfl) ⟨Nat.zero_le _, Nat.zero_le _⟩ dX11_cyclesToReach_1 I) ?_
  refine fb_tI (v := (1 : Int32)) gA ?_
  refine lv_if_eq (tgt := 17) hx hb dX11_cyclesToReach_4 (by decide) (fun c1 => absurd c1 (by decide)) (fun _ => ?_)
  exact fb_throwA (is := 176) (text := "no address") X I hl hex hst (List.mem_of_getElem? (i := 2) rfl) dX11_cyclesToReach_7 dX11_cyclesToReach_10 (Or.inl ⟨dX11_cyclesToReach_11, dX11_cyclesToReach_13, dX11_cyclesToReach_16⟩) (Nat.le_of_ble_eq_true rfl) (Nat.le_of_ble_eq_true rfl) (Nat.le_of_ble_eq_true rfl) (Nat.le_of_ble_eq_true rfl) (Nat.le_of_ble_eq_true rfl) (Nat.le_of_ble_eq_true rfl)

set_option maxHeartbeats 4000000 in
set_option maxRecDepth 100000 in
theorem x_writesIn_o (l : Launch) (D : va_G) (cI cJ : ClassId) (zb : Nat) (zr0 : Nat) (zr1 : Nat) (zr2 : Nat) (zr3 : Nat) (zr4 : Nat) (zr5 : Nat) (zr6 : Nat) (zr7 : Nat) (zr8 : Nat) (zr9 : Nat) (l1 : Int32) (l2 : Int32)  (sz : Nat) (hst : l.stackTraces = false) (gA : f_X11_isNoAddress l1 = (1 : Int32)) : vx_Met l yX11_writesIn (Cond.code yX11_writesIn cX11_writesIn 6 (some .int) :: fb_all) ({ frames := 6, cells := 1, slots := 6, locals := 82 } : Room) (fb_PP D (fb_ty D cI cJ) [.ref zb, .int l1, .int l2] (([fb_o11 zb zr0 zr1 zr2 zr3 zr4 zr5 zr6 zr7 zr8 zr9] : List va_W).flatten) sz) fb_QX (fb_XC "java/lang/IllegalArgumentException" (va_A (([fb_o11 zb zr0 zr1 zr2 zr3 zr4 zr5 zr6 zr7 zr8 zr9] : List va_W).flatten) sz)) 1 6 (va_A (([fb_o11 zb zr0 zr1 zr2 zr3 zr4 zr5 zr6 zr7 zr8 zr9] : List va_W).flatten) sz) := by
  refine fb_entT (by decide +kernel) (Nat.le_of_ble_eq_true rfl) ?_
  intro p e s m args below meth c A ls X I hl hex
  obtain ⟨hx, hb, hr, hml, hown, hts, hlk, hA, hK, hF⟩ := id X
  have hl : lv_has ls 6 [(0, .ref zb), (1, .int l1), (2, .int l2)] := hl
  refine lv_iload_n hx hb dX11_writesIn_0 rfl (lv_at hl 1 rfl) ?_
  refine fb_gO (cs := []) (rs := [fb_o11 zb zr0 zr1 zr2 zr3 zr4 zr5 zr6 zr7 zr8 zr9]) X I [0] 1 rfl (by decide +kernel) rfl rfl (fun I => fb_rS (As := [.int l1]) (rest := []) X hl (fb_goodS fw_1717 fw_1718 fw_191 fw_1719) (c_X11_isNoAddress l D cI cJ l1 _) rfl rfl (by decide +kernel : fb_hd yX11_isNoAddress 1) ⟨Nat.le_of_ble_eq_true rfl, Nat.le_of_ble_eq_true rfl⟩ rfl rfl (Nat.le_of_ble_eq_true rfl) ⟨Nat.zero_le _, Nat.zero_le _⟩ dX11_writesIn_1 I) ?_
  refine fb_tI (v := (1 : Int32)) gA ?_
  refine lv_if_eq (tgt := 17) hx hb dX11_writesIn_4 (by decide) (fun c1 => absurd c1 (by decide)) (fun _ => ?_)
  exact fb_throwA (is := 176) (text := "no address") X I hl hex hst (List.mem_of_getElem? (i := 2) rfl) dX11_writesIn_7 dX11_writesIn_10 (Or.inl ⟨dX11_writesIn_11, dX11_writesIn_13, dX11_writesIn_16⟩) (Nat.le_of_ble_eq_true rfl) (Nat.le_of_ble_eq_true rfl) (Nat.le_of_ble_eq_true rfl) (Nat.le_of_ble_eq_true rfl) (Nat.le_of_ble_eq_true rfl) (Nat.le_of_ble_eq_true rfl)

set_option maxHeartbeats 4000000 in
set_option maxRecDepth 100000 in
theorem x_setBreak_o (l : Launch) (D : va_G) (cI cJ : ClassId) (zb : Nat) (zr0 : Nat) (zr1 : Nat) (zr2 : Nat) (zr3 : Nat) (zr4 : Nat) (zr5 : Nat) (zr6 : Nat) (zr7 : Nat) (zr8 : Nat) (zr9 : Nat) (l1 : Int32) (l2 : Int32)  (sz : Nat) (hst : l.stackTraces = false) (gA : f_X11_isNoAddress l1 = (1 : Int32)) : vx_Met l yX11_setBreak (Cond.code yX11_setBreak cX11_setBreak 3 (some .int) :: fb_all) ({ frames := 6, cells := 1, slots := 6, locals := 82 } : Room) (fb_PP D (fb_ty D cI cJ) [.ref zb, .int l1, .int l2] (([fb_o11 zb zr0 zr1 zr2 zr3 zr4 zr5 zr6 zr7 zr8 zr9] : List va_W).flatten) sz) fb_QX (fb_XC "java/lang/IllegalArgumentException" (va_A (([fb_o11 zb zr0 zr1 zr2 zr3 zr4 zr5 zr6 zr7 zr8 zr9] : List va_W).flatten) sz)) 1 6 (va_A (([fb_o11 zb zr0 zr1 zr2 zr3 zr4 zr5 zr6 zr7 zr8 zr9] : List va_W).flatten) sz) := by
  refine fb_entT (by decide +kernel) (Nat.le_of_ble_eq_true rfl) ?_
  intro p e s m args below meth c A ls X I hl hex
  obtain ⟨hx, hb, hr, hml, hown, hts, hlk, hA, hK, hF⟩ := id X
  have hl : lv_has ls 3 [(0, .ref zb), (1, .int l1), (2, .int l2)] := hl
  refine lv_iload_n hx hb dX11_setBreak_0 rfl (lv_at hl 1 rfl) ?_
  refine fb_gO (cs := []) (rs := [fb_o11 zb zr0 zr1 zr2 zr3 zr4 zr5 zr6 zr7 zr8 zr9]) X I [0] 1 rfl (by decide +kernel) rfl rfl (fun I => fb_rS (As := [.int l1]) (rest := []) X hl (fb_goodS fw_1717 fw_1718 fw_191 fw_1719) (c_X11_isNoAddress l D cI cJ l1 _) rfl rfl (by decide +kernel : fb_hd yX11_isNoAddress 1) ⟨Nat.le_of_ble_eq_true rfl, Nat.le_of_ble_eq_true rfl⟩ rfl rfl (Nat.le_of_ble_eq_true rfl) ⟨Nat.zero_le _, Nat.zero_le _⟩ dX11_setBreak_1 I) ?_
  refine fb_tI (v := (1 : Int32)) gA ?_
  refine lv_if_eq (tgt := 17) hx hb dX11_setBreak_4 (by decide) (fun c1 => absurd c1 (by decide)) (fun _ => ?_)
  exact fb_throwA (is := 176) (text := "no address") X I hl hex hst (List.mem_of_getElem? (i := 2) rfl) dX11_setBreak_7 dX11_setBreak_10 (Or.inl ⟨dX11_setBreak_11, dX11_setBreak_13, dX11_setBreak_16⟩) (Nat.le_of_ble_eq_true rfl) (Nat.le_of_ble_eq_true rfl) (Nat.le_of_ble_eq_true rfl) (Nat.le_of_ble_eq_true rfl) (Nat.le_of_ble_eq_true rfl) (Nat.le_of_ble_eq_true rfl)

set_option maxHeartbeats 4000000 in
set_option maxRecDepth 100000 in
theorem x_poke_o (l : Launch) (D : va_G) (cI cJ : ClassId) (zb : Nat) (zr0 : Nat) (zr1 : Nat) (zr2 : Nat) (zr3 : Nat) (zr4 : Nat) (zr5 : Nat) (zr6 : Nat) (zr7 : Nat) (zr8 : Nat) (zr9 : Nat) (l1 : Int32) (l2 : Int32)  (sz : Nat) (hst : l.stackTraces = false) (gA : f_X11_isNoAddress l1 = (1 : Int32)) : vx_Met l yX11_poke (Cond.code yX11_poke cX11_poke 5 (some .int) :: fb_all) ({ frames := 6, cells := 1, slots := 6, locals := 82 } : Room) (fb_PP D (fb_ty D cI cJ) [.ref zb, .int l1, .int l2] (([fb_o11 zb zr0 zr1 zr2 zr3 zr4 zr5 zr6 zr7 zr8 zr9] : List va_W).flatten) sz) fb_QX (fb_XC "java/lang/IllegalArgumentException" (va_A (([fb_o11 zb zr0 zr1 zr2 zr3 zr4 zr5 zr6 zr7 zr8 zr9] : List va_W).flatten) sz)) 1 6 (va_A (([fb_o11 zb zr0 zr1 zr2 zr3 zr4 zr5 zr6 zr7 zr8 zr9] : List va_W).flatten) sz) := by
  refine fb_entT (by decide +kernel) (Nat.le_of_ble_eq_true rfl) ?_
  intro p e s m args below meth c A ls X I hl hex
  obtain ⟨hx, hb, hr, hml, hown, hts, hlk, hA, hK, hF⟩ := id X
  have hl : lv_has ls 5 [(0, .ref zb), (1, .int l1), (2, .int l2)] := hl
  refine lv_iload_n hx hb dX11_poke_0 rfl (lv_at hl 1 rfl) ?_
  refine fb_gO (cs := []) (rs := [fb_o11 zb zr0 zr1 zr2 zr3 zr4 zr5 zr6 zr7 zr8 zr9]) X I [0] 1 rfl (by decide +kernel) rfl rfl (fun I => fb_rS (As := [.int l1]) (rest := []) X hl (fb_goodS fw_1717 fw_1718 fw_191 fw_1719) (c_X11_isNoAddress l D cI cJ l1 _) rfl rfl (by decide +kernel : fb_hd yX11_isNoAddress 1) ⟨Nat.le_of_ble_eq_true rfl, Nat.le_of_ble_eq_true rfl⟩ rfl rfl (Nat.le_of_ble_eq_true rfl) ⟨Nat.zero_le _, Nat.zero_le _⟩ dX11_poke_1 I) ?_
  refine fb_tI (v := (1 : Int32)) gA ?_
  refine lv_if_ne (tgt := 14) hx hb dX11_poke_4 (by decide) (fun _ => ?_) (fun c1 => absurd c1 (by decide))
  exact fb_throwA (is := 227) (text := "no memory") X I hl hex hst (List.mem_of_getElem? (i := 4) rfl) dX11_poke_14 dX11_poke_17 (Or.inl ⟨dX11_poke_18, dX11_poke_20, dX11_poke_23⟩) (Nat.le_of_ble_eq_true rfl) (Nat.le_of_ble_eq_true rfl) (Nat.le_of_ble_eq_true rfl) (Nat.le_of_ble_eq_true rfl) (Nat.le_of_ble_eq_true rfl) (Nat.le_of_ble_eq_true rfl)

set_option maxHeartbeats 4000000 in
set_option maxRecDepth 100000 in
theorem x_setWatch_o (l : Launch) (D : va_G) (cI cJ : ClassId) (zb : Nat) (zr0 : Nat) (zr1 : Nat) (zr2 : Nat) (zr3 : Nat) (zr4 : Nat) (zr5 : Nat) (zr6 : Nat) (zr7 : Nat) (zr8 : Nat) (zr9 : Nat) (l1 : Int32) (l2 : Int32) (l3 : Int32) (l4 : Int32)  (sz : Nat) (hst : l.stackTraces = false) (gA : f_X11_isNoAddress l1 = (1 : Int32)) : vx_Met l yX11_setWatch (Cond.code yX11_setWatch cX11_setWatch 5 (some .int) :: fb_all) ({ frames := 6, cells := 1, slots := 6, locals := 82 } : Room) (fb_PP D (fb_ty D cI cJ) [.ref zb, .int l1, .int l2, .int l3, .int l4] (([fb_o11 zb zr0 zr1 zr2 zr3 zr4 zr5 zr6 zr7 zr8 zr9] : List va_W).flatten) sz) fb_QX (fb_XC "java/lang/IllegalArgumentException" (va_A (([fb_o11 zb zr0 zr1 zr2 zr3 zr4 zr5 zr6 zr7 zr8 zr9] : List va_W).flatten) sz)) 1 6 (va_A (([fb_o11 zb zr0 zr1 zr2 zr3 zr4 zr5 zr6 zr7 zr8 zr9] : List va_W).flatten) sz) := by
  refine fb_entT (by decide +kernel) (Nat.le_of_ble_eq_true rfl) ?_
  intro p e s m args below meth c A ls X I hl hex
  obtain ⟨hx, hb, hr, hml, hown, hts, hlk, hA, hK, hF⟩ := id X
  have hl : lv_has ls 5 [(0, .ref zb), (1, .int l1), (2, .int l2), (3, .int l3), (4, .int l4)] := hl
  refine lv_iload_n hx hb dX11_setWatch_0 rfl (lv_at hl 1 rfl) ?_
  refine fb_gO (cs := []) (rs := [fb_o11 zb zr0 zr1 zr2 zr3 zr4 zr5 zr6 zr7 zr8 zr9]) X I [0] 1 rfl (by decide +kernel) rfl rfl (fun I => fb_rS (As := [.int l1]) (rest := []) X hl (fb_goodS fw_1717 fw_1718 fw_191 fw_1719) (c_X11_isNoAddress l D cI cJ l1 _) rfl rfl (by decide +kernel : fb_hd yX11_isNoAddress 1) ⟨Nat.le_of_ble_eq_true rfl, Nat.le_of_ble_eq_true rfl⟩ rfl rfl (Nat.le_of_ble_eq_true rfl) ⟨Nat.zero_le _, Nat.zero_le _⟩ dX11_setWatch_1 I) ?_
  refine fb_tI (v := (1 : Int32)) gA ?_
  refine lv_if_ne (tgt := 14) hx hb dX11_setWatch_4 (by decide) (fun _ => ?_) (fun c1 => absurd c1 (by decide))
  exact fb_throwA (is := 176) (text := "no address") X I hl hex hst (List.mem_of_getElem? (i := 2) rfl) dX11_setWatch_14 dX11_setWatch_17 (Or.inl ⟨dX11_setWatch_18, dX11_setWatch_20, dX11_setWatch_23⟩) (Nat.le_of_ble_eq_true rfl) (Nat.le_of_ble_eq_true rfl) (Nat.le_of_ble_eq_true rfl) (Nat.le_of_ble_eq_true rfl) (Nat.le_of_ble_eq_true rfl) (Nat.le_of_ble_eq_true rfl)

set_option maxHeartbeats 4000000 in
set_option maxRecDepth 100000 in
theorem x_key_o (l : Launch) (D : va_G) (cI cJ : ClassId) (zb : Nat) (zr0 : Nat) (zr1 : Nat) (zr2 : Nat) (zr3 : Nat) (zr4 : Nat) (zr5 : Nat) (zr6 : Nat) (zr7 : Nat) (zr8 : Nat) (zr9 : Nat) (l1 : Int32)  (sz : Nat) (hst : l.stackTraces = false) (gA : f_X11_isNoByte l1 = (1 : Int32)) : vx_Met l yX11_key (Cond.code yX11_key cX11_key 2 (some .int) :: fb_all) ({ frames := 6, cells := 1, slots := 6, locals := 82 } : Room) (fb_PP D (fb_ty D cI cJ) [.ref zb, .int l1] (([fb_o11 zb zr0 zr1 zr2 zr3 zr4 zr5 zr6 zr7 zr8 zr9] : List va_W).flatten) sz) fb_QX (fb_XC "java/lang/IllegalArgumentException" (va_A (([fb_o11 zb zr0 zr1 zr2 zr3 zr4 zr5 zr6 zr7 zr8 zr9] : List va_W).flatten) sz)) 1 6 (va_A (([fb_o11 zb zr0 zr1 zr2 zr3 zr4 zr5 zr6 zr7 zr8 zr9] : List va_W).flatten) sz) := by
  refine fb_entT (by decide +kernel) (Nat.le_of_ble_eq_true rfl) ?_
  intro p e s m args below meth c A ls X I hl hex
  obtain ⟨hx, hb, hr, hml, hown, hts, hlk, hA, hK, hF⟩ := id X
  have hl : lv_has ls 2 [(0, .ref zb), (1, .int l1)] := hl
  refine lv_iload_n hx hb dX11_key_0 rfl (lv_at hl 1 rfl) ?_
  refine fb_gO (cs := []) (rs := [fb_o11 zb zr0 zr1 zr2 zr3 zr4 zr5 zr6 zr7 zr8 zr9]) X I [0] 1 rfl (by decide +kernel) rfl rfl (fun I => fb_rS (As := [.int l1]) (rest := []) X hl (fb_goodS fw_1740 fw_1741 fw_191 fw_1742) (c_X11_isNoByte l D cI cJ l1 _) rfl rfl (by decide +kernel : fb_hd yX11_isNoByte 1) ⟨Nat.le_of_ble_eq_true rfl, Nat.le_of_ble_eq_true rfl⟩ rfl rfl (Nat.le_of_ble_eq_true rfl) ⟨Nat.zero_le _, Nat.zero_le _⟩ dX11_key_1 I) ?_
  refine fb_tI (v := (1 : Int32)) gA ?_
  refine lv_if_eq (tgt := 17) hx hb dX11_key_4 (by decide) (fun c1 => absurd c1 (by decide)) (fun _ => ?_)
  exact fb_throwA (is := 207) (text := "no byte") X I hl hex hst (List.mem_of_getElem? (i := 3) rfl) dX11_key_7 dX11_key_10 (Or.inl ⟨dX11_key_11, dX11_key_13, dX11_key_16⟩) (Nat.le_of_ble_eq_true rfl) (Nat.le_of_ble_eq_true rfl) (Nat.le_of_ble_eq_true rfl) (Nat.le_of_ble_eq_true rfl) (Nat.le_of_ble_eq_true rfl) (Nat.le_of_ble_eq_true rfl)

set_option maxHeartbeats 4000000 in
set_option maxRecDepth 100000 in
theorem x_run_o (l : Launch) (D : va_G) (cI cJ : ClassId) (zb : Nat) (zr0 : Nat) (zr1 : Nat) (zr2 : Nat) (zr3 : Nat) (zr4 : Nat) (zr5 : Nat) (zr6 : Nat) (zr7 : Nat) (zr8 : Nat) (zr9 : Nat) (l1 : Int32)  (sz : Nat) (hst : l.stackTraces = false) (gA : f_X11_isNoSpan l1 = (1 : Int32)) : vx_Met l yX11_run (Cond.code yX11_run cX11_run 2 (some .int) :: fb_all) ({ frames := 6, cells := 1, slots := 6, locals := 82 } : Room) (fb_PP D (fb_ty D cI cJ) [.ref zb, .int l1] (([fb_o11 zb zr0 zr1 zr2 zr3 zr4 zr5 zr6 zr7 zr8 zr9] : List va_W).flatten) sz) fb_QX (fb_XC "java/lang/IllegalArgumentException" (va_A (([fb_o11 zb zr0 zr1 zr2 zr3 zr4 zr5 zr6 zr7 zr8 zr9] : List va_W).flatten) sz)) 1 6 (va_A (([fb_o11 zb zr0 zr1 zr2 zr3 zr4 zr5 zr6 zr7 zr8 zr9] : List va_W).flatten) sz) := by
  refine fb_entT (by decide +kernel) (Nat.le_of_ble_eq_true rfl) ?_
  intro p e s m args below meth c A ls X I hl hex
  obtain ⟨hx, hb, hr, hml, hown, hts, hlk, hA, hK, hF⟩ := id X
  have hl : lv_has ls 2 [(0, .ref zb), (1, .int l1)] := hl
  refine lv_iload_n hx hb dX11_run_0 rfl (lv_at hl 1 rfl) ?_
  refine fb_gO (cs := []) (rs := [fb_o11 zb zr0 zr1 zr2 zr3 zr4 zr5 zr6 zr7 zr8 zr9]) X I [0] 1 rfl (by decide +kernel) rfl rfl (fun I => fb_rS (As := [.int l1]) (rest := []) X hl (fb_goodS fw_1779 fw_1780 fw_191 fw_1781) (c_X11_isNoSpan l D cI cJ l1 _) rfl rfl (by decide +kernel : fb_hd yX11_isNoSpan 1) ⟨Nat.le_of_ble_eq_true rfl, Nat.le_of_ble_eq_true rfl⟩ rfl rfl (Nat.le_of_ble_eq_true rfl) ⟨Nat.zero_le _, Nat.zero_le _⟩ dX11_run_1 I) ?_
  refine fb_tI (v := (1 : Int32)) gA ?_
  refine lv_if_eq (tgt := 17) hx hb dX11_run_4 (by decide) (fun c1 => absurd c1 (by decide)) (fun _ => ?_)
  exact fb_throwA (is := 253) (text := "not 1 to 5000 cycles") X I hl hex hst (List.mem_of_getElem? (i := 7) rfl) dX11_run_7 dX11_run_10 (Or.inl ⟨dX11_run_11, dX11_run_13, dX11_run_16⟩) (Nat.le_of_ble_eq_true rfl) (Nat.le_of_ble_eq_true rfl) (Nat.le_of_ble_eq_true rfl) (Nat.le_of_ble_eq_true rfl) (Nat.le_of_ble_eq_true rfl) (Nat.le_of_ble_eq_true rfl)

set_option maxHeartbeats 4000000 in
set_option maxRecDepth 100000 in
theorem x_cyclesToHalt_o (l : Launch) (D : va_G) (cI cJ : ClassId) (zb : Nat) (zr0 : Nat) (zr1 : Nat) (zr2 : Nat) (zr3 : Nat) (zr4 : Nat) (zr5 : Nat) (zr6 : Nat) (zr7 : Nat) (zr8 : Nat) (zr9 : Nat) (l1 : Int32)  (sz : Nat) (hst : l.stackTraces = false) (gA : f_X11_isNoSpan l1 = (1 : Int32)) : vx_Met l yX11_cyclesToHalt (Cond.code yX11_cyclesToHalt cX11_cyclesToHalt 4 (some .int) :: fb_all) ({ frames := 6, cells := 1, slots := 6, locals := 82 } : Room) (fb_PP D (fb_ty D cI cJ) [.ref zb, .int l1] (([fb_o11 zb zr0 zr1 zr2 zr3 zr4 zr5 zr6 zr7 zr8 zr9] : List va_W).flatten) sz) fb_QX (fb_XC "java/lang/IllegalArgumentException" (va_A (([fb_o11 zb zr0 zr1 zr2 zr3 zr4 zr5 zr6 zr7 zr8 zr9] : List va_W).flatten) sz)) 1 6 (va_A (([fb_o11 zb zr0 zr1 zr2 zr3 zr4 zr5 zr6 zr7 zr8 zr9] : List va_W).flatten) sz) := by
  refine fb_entT (by decide +kernel) (Nat.le_of_ble_eq_true rfl) ?_
  intro p e s m args below meth c A ls X I hl hex
  obtain ⟨hx, hb, hr, hml, hown, hts, hlk, hA, hK, hF⟩ := id X
  have hl : lv_has ls 4 [(0, .ref zb), (1, .int l1)] := hl
  refine lv_iload_n hx hb dX11_cyclesToHalt_0 rfl (lv_at hl 1 rfl) ?_
  refine fb_gO (cs := []) (rs := [fb_o11 zb zr0 zr1 zr2 zr3 zr4 zr5 zr6 zr7 zr8 zr9]) X I [0] 1 rfl (by decide +kernel) rfl rfl (fun I => fb_rS (As := [.int l1]) (rest := []) X hl (fb_goodS fw_1779 fw_1780 fw_191 fw_1781) (c_X11_isNoSpan l D cI cJ l1 _) rfl rfl (by decide +kernel : fb_hd yX11_isNoSpan 1) ⟨Nat.le_of_ble_eq_true rfl, Nat.le_of_ble_eq_true rfl⟩ rfl rfl (Nat.le_of_ble_eq_true rfl) ⟨Nat.zero_le _, Nat.zero_le _⟩ dX11_cyclesToHalt_1 I) ?_
  refine fb_tI (v := (1 : Int32)) gA ?_
  refine lv_if_eq (tgt := 17) hx hb dX11_cyclesToHalt_4 (by decide) (fun c1 => absurd c1 (by decide)) (fun _ => ?_)
  exact fb_throwA (is := 253) (text := "not 1 to 5000 cycles") X I hl hex hst (List.mem_of_getElem? (i := 7) rfl) dX11_cyclesToHalt_7 dX11_cyclesToHalt_10 (Or.inl ⟨dX11_cyclesToHalt_11, dX11_cyclesToHalt_13, dX11_cyclesToHalt_16⟩) (Nat.le_of_ble_eq_true rfl) (Nat.le_of_ble_eq_true rfl) (Nat.le_of_ble_eq_true rfl) (Nat.le_of_ble_eq_true rfl) (Nat.le_of_ble_eq_true rfl) (Nat.le_of_ble_eq_true rfl)

set_option maxHeartbeats 4000000 in
set_option maxRecDepth 100000 in
theorem x_outputsIn_o (l : Launch) (D : va_G) (cI cJ : ClassId) (zb : Nat) (zr0 : Nat) (zr1 : Nat) (zr2 : Nat) (zr3 : Nat) (zr4 : Nat) (zr5 : Nat) (zr6 : Nat) (zr7 : Nat) (zr8 : Nat) (zr9 : Nat) (l1 : Int32)  (sz : Nat) (hst : l.stackTraces = false) (gA : f_X11_isNoSpan l1 = (1 : Int32)) : vx_Met l yX11_outputsIn (Cond.code yX11_outputsIn cX11_outputsIn 4 (some .int) :: fb_all) ({ frames := 6, cells := 1, slots := 6, locals := 82 } : Room) (fb_PP D (fb_ty D cI cJ) [.ref zb, .int l1] (([fb_o11 zb zr0 zr1 zr2 zr3 zr4 zr5 zr6 zr7 zr8 zr9] : List va_W).flatten) sz) fb_QX (fb_XC "java/lang/IllegalArgumentException" (va_A (([fb_o11 zb zr0 zr1 zr2 zr3 zr4 zr5 zr6 zr7 zr8 zr9] : List va_W).flatten) sz)) 1 6 (va_A (([fb_o11 zb zr0 zr1 zr2 zr3 zr4 zr5 zr6 zr7 zr8 zr9] : List va_W).flatten) sz) := by
  refine fb_entT (by decide +kernel) (Nat.le_of_ble_eq_true rfl) ?_
  intro p e s m args below meth c A ls X I hl hex
  obtain ⟨hx, hb, hr, hml, hown, hts, hlk, hA, hK, hF⟩ := id X
  have hl : lv_has ls 4 [(0, .ref zb), (1, .int l1)] := hl
  refine lv_iload_n hx hb dX11_outputsIn_0 rfl (lv_at hl 1 rfl) ?_
  refine fb_gO (cs := []) (rs := [fb_o11 zb zr0 zr1 zr2 zr3 zr4 zr5 zr6 zr7 zr8 zr9]) X I [0] 1 rfl (by decide +kernel) rfl rfl (fun I => fb_rS (As := [.int l1]) (rest := []) X hl (fb_goodS fw_1779 fw_1780 fw_191 fw_1781) (c_X11_isNoSpan l D cI cJ l1 _) rfl rfl (by decide +kernel : fb_hd yX11_isNoSpan 1) ⟨Nat.le_of_ble_eq_true rfl, Nat.le_of_ble_eq_true rfl⟩ rfl rfl (Nat.le_of_ble_eq_true rfl) ⟨Nat.zero_le _, Nat.zero_le _⟩ dX11_outputsIn_1 I) ?_
  refine fb_tI (v := (1 : Int32)) gA ?_
  refine lv_if_eq (tgt := 17) hx hb dX11_outputsIn_4 (by decide) (fun c1 => absurd c1 (by decide)) (fun _ => ?_)
  exact fb_throwA (is := 253) (text := "not 1 to 5000 cycles") X I hl hex hst (List.mem_of_getElem? (i := 7) rfl) dX11_outputsIn_7 dX11_outputsIn_10 (Or.inl ⟨dX11_outputsIn_11, dX11_outputsIn_13, dX11_outputsIn_16⟩) (Nat.le_of_ble_eq_true rfl) (Nat.le_of_ble_eq_true rfl) (Nat.le_of_ble_eq_true rfl) (Nat.le_of_ble_eq_true rfl) (Nat.le_of_ble_eq_true rfl) (Nat.le_of_ble_eq_true rfl)

set_option maxHeartbeats 4000000 in
set_option maxRecDepth 100000 in
theorem x_cyclesToReach_b (l : Launch) (D : va_G) (cI cJ : ClassId) (zb : Nat) (zr0 : Nat) (zr1 : Nat) (zr2 : Nat) (zr3 : Nat) (zr4 : Nat) (zr5 : Nat) (zr6 : Nat) (zr7 : Nat) (zr8 : Nat) (zr9 : Nat) (l1 : Int32) (l2 : Int32)  (sz : Nat) (hst : l.stackTraces = false) (gA0 : f_X11_isNoAddress l1 = (0 : Int32)) (gA : f_X11_isNoSpan l2 = (1 : Int32)) : vx_Met l yX11_cyclesToReach (Cond.code yX11_cyclesToReach cX11_cyclesToReach 6 (some .int) :: fb_all) ({ frames := 6, cells := 1, slots := 6, locals := 82 } : Room) (fb_PP D (fb_ty D cI cJ) [.ref zb, .int l1, .int l2] (([fb_o11 zb zr0 zr1 zr2 zr3 zr4 zr5 zr6 zr7 zr8 zr9] : List va_W).flatten) sz) fb_QX (fb_XC "java/lang/IllegalArgumentException" (va_A (([fb_o11 zb zr0 zr1 zr2 zr3 zr4 zr5 zr6 zr7 zr8 zr9] : List va_W).flatten) sz)) 1 6 (va_A (([fb_o11 zb zr0 zr1 zr2 zr3 zr4 zr5 zr6 zr7 zr8 zr9] : List va_W).flatten) sz) := by
  refine fb_entT (by decide +kernel) (Nat.le_of_ble_eq_true rfl) ?_
  intro p e s m args below meth c A ls X I hl hex
  obtain ⟨hx, hb, hr, hml, hown, hts, hlk, hA, hK, hF⟩ := id X
  have hl : lv_has ls 6 [(0, .ref zb), (1, .int l1), (2, .int l2)] := hl
  refine lv_iload_n hx hb dX11_cyclesToReach_0 rfl (lv_at hl 1 rfl) ?_
  refine fb_gO (cs := []) (rs := [fb_o11 zb zr0 zr1 zr2 zr3 zr4 zr5 zr6 zr7 zr8 zr9]) X I [0] 1 rfl (by decide +kernel) rfl rfl (fun I => fb_rS (As := [.int l1]) (rest := []) X hl (fb_goodS fw_1717 fw_1718 fw_191 fw_1719) (c_X11_isNoAddress l D cI cJ l1 _) rfl rfl (by decide +kernel : fb_hd yX11_isNoAddress 1) ⟨Nat.le_of_ble_eq_true rfl, Nat.le_of_ble_eq_true rfl⟩ rfl rfl (Nat.le_of_ble_eq_true rfl) ⟨Nat.zero_le _, Nat.zero_le _⟩ dX11_cyclesToReach_1 I) ?_
  refine fb_tI (v := (0 : Int32)) gA0 ?_
  refine lv_if_eq (tgt := 17) hx hb dX11_cyclesToReach_4 (by decide) (fun _ => ?_) (fun c1 => absurd (by decide) c1)
  refine lv_iload_n hx hb dX11_cyclesToReach_17 rfl (lv_at hl 2 rfl) ?_
  refine fb_gO (cs := []) (rs := [fb_o11 zb zr0 zr1 zr2 zr3 zr4 zr5 zr6 zr7 zr8 zr9]) X I [0] 1 rfl (by decide +kernel) rfl rfl (fun I => fb_rS (As := [.int l2]) (rest := []) X hl (fb_goodS fw_1779 fw_1780 fw_191 fw_1781) (c_X11_isNoSpan l D cI cJ l2 _) rfl rfl (by decide +kernel : fb_hd yX11_isNoSpan 1) ⟨Nat.le_of_ble_eq_true rfl, Nat.le_of_ble_eq_true rfl⟩ rfl rfl (Nat.le_of_ble_eq_true rfl) ⟨Nat.zero_le _, Nat.zero_le _⟩ dX11_cyclesToReach_18 I) ?_
  refine fb_tI (v := (1 : Int32)) gA ?_
  refine lv_if_eq (tgt := 34) hx hb dX11_cyclesToReach_21 (by decide) (fun c2 => absurd c2 (by decide)) (fun _ => ?_)
  exact fb_throwA (is := 253) (text := "not 1 to 5000 cycles") X I hl hex hst (List.mem_of_getElem? (i := 7) rfl) dX11_cyclesToReach_24 dX11_cyclesToReach_27 (Or.inl ⟨dX11_cyclesToReach_28, dX11_cyclesToReach_30, dX11_cyclesToReach_33⟩) (Nat.le_of_ble_eq_true rfl) (Nat.le_of_ble_eq_true rfl) (Nat.le_of_ble_eq_true rfl) (Nat.le_of_ble_eq_true rfl) (Nat.le_of_ble_eq_true rfl) (Nat.le_of_ble_eq_true rfl)

set_option maxHeartbeats 4000000 in
set_option maxRecDepth 100000 in
theorem x_writesIn_b (l : Launch) (D : va_G) (cI cJ : ClassId) (zb : Nat) (zr0 : Nat) (zr1 : Nat) (zr2 : Nat) (zr3 : Nat) (zr4 : Nat) (zr5 : Nat) (zr6 : Nat) (zr7 : Nat) (zr8 : Nat) (zr9 : Nat) (l1 : Int32) (l2 : Int32)  (sz : Nat) (hst : l.stackTraces = false) (gA0 : f_X11_isNoAddress l1 = (0 : Int32)) (gA : f_X11_isNoSpan l2 = (1 : Int32)) : vx_Met l yX11_writesIn (Cond.code yX11_writesIn cX11_writesIn 6 (some .int) :: fb_all) ({ frames := 6, cells := 1, slots := 6, locals := 82 } : Room) (fb_PP D (fb_ty D cI cJ) [.ref zb, .int l1, .int l2] (([fb_o11 zb zr0 zr1 zr2 zr3 zr4 zr5 zr6 zr7 zr8 zr9] : List va_W).flatten) sz) fb_QX (fb_XC "java/lang/IllegalArgumentException" (va_A (([fb_o11 zb zr0 zr1 zr2 zr3 zr4 zr5 zr6 zr7 zr8 zr9] : List va_W).flatten) sz)) 1 6 (va_A (([fb_o11 zb zr0 zr1 zr2 zr3 zr4 zr5 zr6 zr7 zr8 zr9] : List va_W).flatten) sz) := by
  refine fb_entT (by decide +kernel) (Nat.le_of_ble_eq_true rfl) ?_
  intro p e s m args below meth c A ls X I hl hex
  obtain ⟨hx, hb, hr, hml, hown, hts, hlk, hA, hK, hF⟩ := id X
  have hl : lv_has ls 6 [(0, .ref zb), (1, .int l1), (2, .int l2)] := hl
  refine lv_iload_n hx hb dX11_writesIn_0 rfl (lv_at hl 1 rfl) ?_
  refine fb_gO (cs := []) (rs := [fb_o11 zb zr0 zr1 zr2 zr3 zr4 zr5 zr6 zr7 zr8 zr9]) X I [0] 1 rfl (by decide +kernel) rfl rfl (fun I => fb_rS (As := [.int l1]) (rest := []) X hl (fb_goodS fw_1717 fw_1718 fw_191 fw_1719) (c_X11_isNoAddress l D cI cJ l1 _) rfl rfl (by decide +kernel : fb_hd yX11_isNoAddress 1) ⟨Nat.le_of_ble_eq_true rfl, Nat.le_of_ble_eq_true rfl⟩ rfl rfl (Nat.le_of_ble_eq_true rfl) ⟨Nat.zero_le _, Nat.zero_le _⟩ dX11_writesIn_1 I) ?_
  refine fb_tI (v := (0 : Int32)) gA0 ?_
  refine lv_if_eq (tgt := 17) hx hb dX11_writesIn_4 (by decide) (fun _ => ?_) (fun c1 => absurd (by decide) c1)
  refine lv_iload_n hx hb dX11_writesIn_17 rfl (lv_at hl 2 rfl) ?_
  refine fb_gO (cs := []) (rs := [fb_o11 zb zr0 zr1 zr2 zr3 zr4 zr5 zr6 zr7 zr8 zr9]) X I [0] 1 rfl (by decide +kernel) rfl rfl (fun I => fb_rS (As := [.int l2]) (rest := []) X hl (fb_goodS fw_1779 fw_1780 fw_191 fw_1781) (c_X11_isNoSpan l D cI cJ l2 _) rfl rfl (by decide +kernel : fb_hd yX11_isNoSpan 1) ⟨Nat.le_of_ble_eq_true rfl, Nat.le_of_ble_eq_true rfl⟩ rfl rfl (Nat.le_of_ble_eq_true rfl) ⟨Nat.zero_le _, Nat.zero_le _⟩ dX11_writesIn_18 I) ?_
  refine fb_tI (v := (1 : Int32)) gA ?_
  refine lv_if_eq (tgt := 34) hx hb dX11_writesIn_21 (by decide) (fun c2 => absurd c2 (by decide)) (fun _ => ?_)
  exact fb_throwA (is := 253) (text := "not 1 to 5000 cycles") X I hl hex hst (List.mem_of_getElem? (i := 7) rfl) dX11_writesIn_24 dX11_writesIn_27 (Or.inl ⟨dX11_writesIn_28, dX11_writesIn_30, dX11_writesIn_33⟩) (Nat.le_of_ble_eq_true rfl) (Nat.le_of_ble_eq_true rfl) (Nat.le_of_ble_eq_true rfl) (Nat.le_of_ble_eq_true rfl) (Nat.le_of_ble_eq_true rfl) (Nat.le_of_ble_eq_true rfl)

set_option maxHeartbeats 4000000 in
set_option maxRecDepth 100000 in
theorem x_poke_p (l : Launch) (D : va_G) (cI cJ : ClassId) (zb : Nat) (zr0 : Nat) (zr1 : Nat) (zr2 : Nat) (zr3 : Nat) (zr4 : Nat) (zr5 : Nat) (zr6 : Nat) (zr7 : Nat) (zr8 : Nat) (zr9 : Nat) (l1 : Int32) (l2 : Int32)  (sz : Nat) (hst : l.stackTraces = false) (gA0 : f_X11_isNoAddress l1 = (0 : Int32)) (gP : f_X11_isPort l1 = (1 : Int32)) : vx_Met l yX11_poke (Cond.code yX11_poke cX11_poke 5 (some .int) :: fb_all) ({ frames := 6, cells := 1, slots := 6, locals := 82 } : Room) (fb_PP D (fb_ty D cI cJ) [.ref zb, .int l1, .int l2] (([fb_o11 zb zr0 zr1 zr2 zr3 zr4 zr5 zr6 zr7 zr8 zr9] : List va_W).flatten) sz) fb_QX (fb_XC "java/lang/IllegalArgumentException" (va_A (([fb_o11 zb zr0 zr1 zr2 zr3 zr4 zr5 zr6 zr7 zr8 zr9] : List va_W).flatten) sz)) 1 6 (va_A (([fb_o11 zb zr0 zr1 zr2 zr3 zr4 zr5 zr6 zr7 zr8 zr9] : List va_W).flatten) sz) := by
  refine fb_entT (by decide +kernel) (Nat.le_of_ble_eq_true rfl) ?_
  intro p e s m args below meth c A ls X I hl hex
  obtain ⟨hx, hb, hr, hml, hown, hts, hlk, hA, hK, hF⟩ := id X
  have hl : lv_has ls 5 [(0, .ref zb), (1, .int l1), (2, .int l2)] := hl
  refine lv_iload_n hx hb dX11_poke_0 rfl (lv_at hl 1 rfl) ?_
  refine fb_gO (cs := []) (rs := [fb_o11 zb zr0 zr1 zr2 zr3 zr4 zr5 zr6 zr7 zr8 zr9]) X I [0] 1 rfl (by decide +kernel) rfl rfl (fun I => fb_rS (As := [.int l1]) (rest := []) X hl (fb_goodS fw_1717 fw_1718 fw_191 fw_1719) (c_X11_isNoAddress l D cI cJ l1 _) rfl rfl (by decide +kernel : fb_hd yX11_isNoAddress 1) ⟨Nat.le_of_ble_eq_true rfl, Nat.le_of_ble_eq_true rfl⟩ rfl rfl (Nat.le_of_ble_eq_true rfl) ⟨Nat.zero_le _, Nat.zero_le _⟩ dX11_poke_1 I) ?_
  refine fb_tI (v := (0 : Int32)) gA0 ?_
  refine lv_if_ne (tgt := 14) hx hb dX11_poke_4 (by decide) (fun c1 => absurd (by decide) c1) (fun _ => ?_)
  refine lv_iload_n hx hb dX11_poke_7 rfl (lv_at hl 1 rfl) ?_
  refine fb_gO (cs := []) (rs := [fb_o11 zb zr0 zr1 zr2 zr3 zr4 zr5 zr6 zr7 zr8 zr9]) X I [0] 1 rfl (by decide +kernel) rfl rfl (fun I => fb_rS (As := [.int l1]) (rest := []) X hl (fb_goodS fw_1756 fw_1308 fw_191 fw_1309) (c_X11_isPort l D cI cJ l1 _) rfl rfl (by decide +kernel : fb_hd yX11_isPort 1) ⟨Nat.le_of_ble_eq_true rfl, Nat.le_of_ble_eq_true rfl⟩ rfl rfl (Nat.le_of_ble_eq_true rfl) ⟨Nat.zero_le _, Nat.zero_le _⟩ dX11_poke_8 I) ?_
  refine fb_tI (v := (1 : Int32)) gP ?_
  refine lv_if_eq (tgt := 24) hx hb dX11_poke_11 (by decide) (fun c2 => absurd c2 (by decide)) (fun _ => ?_)
  exact fb_throwA (is := 227) (text := "no memory") X I hl hex hst (List.mem_of_getElem? (i := 4) rfl) dX11_poke_14 dX11_poke_17 (Or.inl ⟨dX11_poke_18, dX11_poke_20, dX11_poke_23⟩) (Nat.le_of_ble_eq_true rfl) (Nat.le_of_ble_eq_true rfl) (Nat.le_of_ble_eq_true rfl) (Nat.le_of_ble_eq_true rfl) (Nat.le_of_ble_eq_true rfl) (Nat.le_of_ble_eq_true rfl)

set_option maxHeartbeats 4000000 in
set_option maxRecDepth 100000 in
theorem x_poke_b (l : Launch) (D : va_G) (cI cJ : ClassId) (zb : Nat) (zr0 : Nat) (zr1 : Nat) (zr2 : Nat) (zr3 : Nat) (zr4 : Nat) (zr5 : Nat) (zr6 : Nat) (zr7 : Nat) (zr8 : Nat) (zr9 : Nat) (l1 : Int32) (l2 : Int32)  (sz : Nat) (hst : l.stackTraces = false) (gA0 : f_X11_isNoAddress l1 = (0 : Int32)) (gP : f_X11_isPort l1 = (0 : Int32)) (gA : f_X11_isNoByte l2 = (1 : Int32)) : vx_Met l yX11_poke (Cond.code yX11_poke cX11_poke 5 (some .int) :: fb_all) ({ frames := 6, cells := 1, slots := 6, locals := 82 } : Room) (fb_PP D (fb_ty D cI cJ) [.ref zb, .int l1, .int l2] (([fb_o11 zb zr0 zr1 zr2 zr3 zr4 zr5 zr6 zr7 zr8 zr9] : List va_W).flatten) sz) fb_QX (fb_XC "java/lang/IllegalArgumentException" (va_A (([fb_o11 zb zr0 zr1 zr2 zr3 zr4 zr5 zr6 zr7 zr8 zr9] : List va_W).flatten) sz)) 1 6 (va_A (([fb_o11 zb zr0 zr1 zr2 zr3 zr4 zr5 zr6 zr7 zr8 zr9] : List va_W).flatten) sz) := by
  refine fb_entT (by decide +kernel) (Nat.le_of_ble_eq_true rfl) ?_
  intro p e s m args below meth c A ls X I hl hex
  obtain ⟨hx, hb, hr, hml, hown, hts, hlk, hA, hK, hF⟩ := id X
  have hl : lv_has ls 5 [(0, .ref zb), (1, .int l1), (2, .int l2)] := hl
  refine lv_iload_n hx hb dX11_poke_0 rfl (lv_at hl 1 rfl) ?_
  refine fb_gO (cs := []) (rs := [fb_o11 zb zr0 zr1 zr2 zr3 zr4 zr5 zr6 zr7 zr8 zr9]) X I [0] 1 rfl (by decide +kernel) rfl rfl (fun I => fb_rS (As := [.int l1]) (rest := []) X hl (fb_goodS fw_1717 fw_1718 fw_191 fw_1719) (c_X11_isNoAddress l D cI cJ l1 _) rfl rfl (by decide +kernel : fb_hd yX11_isNoAddress 1) ⟨Nat.le_of_ble_eq_true rfl, Nat.le_of_ble_eq_true rfl⟩ rfl rfl (Nat.le_of_ble_eq_true rfl) ⟨Nat.zero_le _, Nat.zero_le _⟩ dX11_poke_1 I) ?_
  refine fb_tI (v := (0 : Int32)) gA0 ?_
  refine lv_if_ne (tgt := 14) hx hb dX11_poke_4 (by decide) (fun c1 => absurd (by decide) c1) (fun _ => ?_)
  refine lv_iload_n hx hb dX11_poke_7 rfl (lv_at hl 1 rfl) ?_
  refine fb_gO (cs := []) (rs := [fb_o11 zb zr0 zr1 zr2 zr3 zr4 zr5 zr6 zr7 zr8 zr9]) X I [0] 1 rfl (by decide +kernel) rfl rfl (fun I => fb_rS (As := [.int l1]) (rest := []) X hl (fb_goodS fw_1756 fw_1308 fw_191 fw_1309) (c_X11_isPort l D cI cJ l1 _) rfl rfl (by decide +kernel : fb_hd yX11_isPort 1) ⟨Nat.le_of_ble_eq_true rfl, Nat.le_of_ble_eq_true rfl⟩ rfl rfl (Nat.le_of_ble_eq_true rfl) ⟨Nat.zero_le _, Nat.zero_le _⟩ dX11_poke_8 I) ?_
  refine fb_tI (v := (0 : Int32)) gP ?_
  refine lv_if_eq (tgt := 24) hx hb dX11_poke_11 (by decide) (fun _ => ?_) (fun c2 => absurd (by decide) c2)
  refine lv_iload_n hx hb dX11_poke_24 rfl (lv_at hl 2 rfl) ?_
  refine fb_gO (cs := []) (rs := [fb_o11 zb zr0 zr1 zr2 zr3 zr4 zr5 zr6 zr7 zr8 zr9]) X I [0] 1 rfl (by decide +kernel) rfl rfl (fun I => fb_rS (As := [.int l2]) (rest := []) X hl (fb_goodS fw_1740 fw_1741 fw_191 fw_1742) (c_X11_isNoByte l D cI cJ l2 _) rfl rfl (by decide +kernel : fb_hd yX11_isNoByte 1) ⟨Nat.le_of_ble_eq_true rfl, Nat.le_of_ble_eq_true rfl⟩ rfl rfl (Nat.le_of_ble_eq_true rfl) ⟨Nat.zero_le _, Nat.zero_le _⟩ dX11_poke_25 I) ?_
  refine fb_tI (v := (1 : Int32)) gA ?_
  refine lv_if_eq (tgt := 41) hx hb dX11_poke_28 (by decide) (fun c3 => absurd c3 (by decide)) (fun _ => ?_)
  exact fb_throwA (is := 207) (text := "no byte") X I hl hex hst (List.mem_of_getElem? (i := 3) rfl) dX11_poke_31 dX11_poke_34 (Or.inl ⟨dX11_poke_35, dX11_poke_37, dX11_poke_40⟩) (Nat.le_of_ble_eq_true rfl) (Nat.le_of_ble_eq_true rfl) (Nat.le_of_ble_eq_true rfl) (Nat.le_of_ble_eq_true rfl) (Nat.le_of_ble_eq_true rfl) (Nat.le_of_ble_eq_true rfl)

set_option maxHeartbeats 4000000 in
set_option maxRecDepth 100000 in
theorem x_setBreak_a (l : Launch) (D : va_G) (cI cJ : ClassId) (zb : Nat) (zr0 : Nat) (zr1 : Nat) (zr2 : Nat) (zr3 : Nat) (zr4 : Nat) (zr5 : Nat) (zr6 : Nat) (zr7 : Nat) (zr8 : Nat) (zr9 : Nat) (l1 : Int32) (l2 : Int32)  (sz : Nat) (hst : l.stackTraces = false) (gA0 : f_X11_isNoAddress l1 = (0 : Int32)) (h0 : l2 < 0) : vx_Met l yX11_setBreak (Cond.code yX11_setBreak cX11_setBreak 3 (some .int) :: fb_all) ({ frames := 6, cells := 1, slots := 6, locals := 82 } : Room) (fb_PP D (fb_ty D cI cJ) [.ref zb, .int l1, .int l2] (([fb_o11 zb zr0 zr1 zr2 zr3 zr4 zr5 zr6 zr7 zr8 zr9] : List va_W).flatten) sz) fb_QX (fb_XC "java/lang/IllegalArgumentException" (va_A (([fb_o11 zb zr0 zr1 zr2 zr3 zr4 zr5 zr6 zr7 zr8 zr9] : List va_W).flatten) sz)) 1 6 (va_A (([fb_o11 zb zr0 zr1 zr2 zr3 zr4 zr5 zr6 zr7 zr8 zr9] : List va_W).flatten) sz) := by
  refine fb_entT (by decide +kernel) (Nat.le_of_ble_eq_true rfl) ?_
  intro p e s m args below meth c A ls X I hl hex
  obtain ⟨hx, hb, hr, hml, hown, hts, hlk, hA, hK, hF⟩ := id X
  have hl : lv_has ls 3 [(0, .ref zb), (1, .int l1), (2, .int l2)] := hl
  refine lv_iload_n hx hb dX11_setBreak_0 rfl (lv_at hl 1 rfl) ?_
  refine fb_gO (cs := []) (rs := [fb_o11 zb zr0 zr1 zr2 zr3 zr4 zr5 zr6 zr7 zr8 zr9]) X I [0] 1 rfl (by decide +kernel) rfl rfl (fun I => fb_rS (As := [.int l1]) (rest := []) X hl (fb_goodS fw_1717 fw_1718 fw_191 fw_1719) (c_X11_isNoAddress l D cI cJ l1 _) rfl rfl (by decide +kernel : fb_hd yX11_isNoAddress 1) ⟨Nat.le_of_ble_eq_true rfl, Nat.le_of_ble_eq_true rfl⟩ rfl rfl (Nat.le_of_ble_eq_true rfl) ⟨Nat.zero_le _, Nat.zero_le _⟩ dX11_setBreak_1 I) ?_
  refine fb_tI (v := (0 : Int32)) gA0 ?_
  refine lv_if_eq (tgt := 17) hx hb dX11_setBreak_4 (by decide) (fun _ => ?_) (fun c1 => absurd (by decide) c1)
  refine lv_iload_n hx hb dX11_setBreak_17 rfl (lv_at hl 2 rfl) ?_
  refine lv_if_lt (tgt := 28) hx hb dX11_setBreak_18 (by decide) (fun _ => ?_) (fun c2 => absurd h0 c2)
  exact fb_throwA (is := 280) (text := "not 0 to 1000 skips") X I hl hex hst (List.mem_of_getElem? (i := 9) rfl) dX11_setBreak_28 dX11_setBreak_31 (Or.inr ⟨dX11_setBreak_32, dX11_setBreak_35, dX11_setBreak_38⟩) (Nat.le_of_ble_eq_true rfl) (Nat.le_of_ble_eq_true rfl) (Nat.le_of_ble_eq_true rfl) (Nat.le_of_ble_eq_true rfl) (Nat.le_of_ble_eq_true rfl) (Nat.le_of_ble_eq_true rfl)

set_option maxHeartbeats 4000000 in
set_option maxRecDepth 100000 in
theorem x_setBreak_b (l : Launch) (D : va_G) (cI cJ : ClassId) (zb : Nat) (zr0 : Nat) (zr1 : Nat) (zr2 : Nat) (zr3 : Nat) (zr4 : Nat) (zr5 : Nat) (zr6 : Nat) (zr7 : Nat) (zr8 : Nat) (zr9 : Nat) (l1 : Int32) (l2 : Int32)  (sz : Nat) (hst : l.stackTraces = false) (gA0 : f_X11_isNoAddress l1 = (0 : Int32)) (h0 : ¬ l2 < 0) (h1 : ¬ l2 ≤ (1000 : Int32)) : vx_Met l yX11_setBreak (Cond.code yX11_setBreak cX11_setBreak 3 (some .int) :: fb_all) ({ frames := 6, cells := 1, slots := 6, locals := 82 } : Room) (fb_PP D (fb_ty D cI cJ) [.ref zb, .int l1, .int l2] (([fb_o11 zb zr0 zr1 zr2 zr3 zr4 zr5 zr6 zr7 zr8 zr9] : List va_W).flatten) sz) fb_QX (fb_XC "java/lang/IllegalArgumentException" (va_A (([fb_o11 zb zr0 zr1 zr2 zr3 zr4 zr5 zr6 zr7 zr8 zr9] : List va_W).flatten) sz)) 1 6 (va_A (([fb_o11 zb zr0 zr1 zr2 zr3 zr4 zr5 zr6 zr7 zr8 zr9] : List va_W).flatten) sz) := by
  refine fb_entT (by decide +kernel) (Nat.le_of_ble_eq_true rfl) ?_
  intro p e s m args below meth c A ls X I hl hex
  obtain ⟨hx, hb, hr, hml, hown, hts, hlk, hA, hK, hF⟩ := id X
  have hl : lv_has ls 3 [(0, .ref zb), (1, .int l1), (2, .int l2)] := hl
  refine lv_iload_n hx hb dX11_setBreak_0 rfl (lv_at hl 1 rfl) ?_
  refine fb_gO (cs := []) (rs := [fb_o11 zb zr0 zr1 zr2 zr3 zr4 zr5 zr6 zr7 zr8 zr9]) X I [0] 1 rfl (by decide +kernel) rfl rfl (fun I => fb_rS (As := [.int l1]) (rest := []) X hl (fb_goodS fw_1717 fw_1718 fw_191 fw_1719) (c_X11_isNoAddress l D cI cJ l1 _) rfl rfl (by decide +kernel : fb_hd yX11_isNoAddress 1) ⟨Nat.le_of_ble_eq_true rfl, Nat.le_of_ble_eq_true rfl⟩ rfl rfl (Nat.le_of_ble_eq_true rfl) ⟨Nat.zero_le _, Nat.zero_le _⟩ dX11_setBreak_1 I) ?_
  refine fb_tI (v := (0 : Int32)) gA0 ?_
  refine lv_if_eq (tgt := 17) hx hb dX11_setBreak_4 (by decide) (fun _ => ?_) (fun c1 => absurd (by decide) c1)
  refine lv_iload_n hx hb dX11_setBreak_17 rfl (lv_at hl 2 rfl) ?_
  refine lv_if_lt (tgt := 28) hx hb dX11_setBreak_18 (by decide) (fun c2 => absurd c2 h0) (fun _ => ?_)
  refine lv_iload_n hx hb dX11_setBreak_21 rfl (lv_at hl 2 rfl) ?_
  refine lv_sipush (v := (1000 : Int32)) hx hb dX11_setBreak_22 (by decide) ?_
  refine lv_icmp_le (tgt := 39) hx hb dX11_setBreak_25 (by decide) (fun c3 => absurd c3 h1) (fun _ => ?_)
  exact fb_throwA (is := 280) (text := "not 0 to 1000 skips") X I hl hex hst (List.mem_of_getElem? (i := 9) rfl) dX11_setBreak_28 dX11_setBreak_31 (Or.inr ⟨dX11_setBreak_32, dX11_setBreak_35, dX11_setBreak_38⟩) (Nat.le_of_ble_eq_true rfl) (Nat.le_of_ble_eq_true rfl) (Nat.le_of_ble_eq_true rfl) (Nat.le_of_ble_eq_true rfl) (Nat.le_of_ble_eq_true rfl) (Nat.le_of_ble_eq_true rfl)

set_option maxHeartbeats 4000000 in
set_option maxRecDepth 100000 in
theorem x_setWatch_p (l : Launch) (D : va_G) (cI cJ : ClassId) (zb : Nat) (zr0 : Nat) (zr1 : Nat) (zr2 : Nat) (zr3 : Nat) (zr4 : Nat) (zr5 : Nat) (zr6 : Nat) (zr7 : Nat) (zr8 : Nat) (zr9 : Nat) (l1 : Int32) (l2 : Int32) (l3 : Int32) (l4 : Int32)  (sz : Nat) (hst : l.stackTraces = false) (gA0 : f_X11_isNoAddress l1 = (0 : Int32)) (gA : f_X11_isNoAddress l2 = (1 : Int32)) : vx_Met l yX11_setWatch (Cond.code yX11_setWatch cX11_setWatch 5 (some .int) :: fb_all) ({ frames := 6, cells := 1, slots := 6, locals := 82 } : Room) (fb_PP D (fb_ty D cI cJ) [.ref zb, .int l1, .int l2, .int l3, .int l4] (([fb_o11 zb zr0 zr1 zr2 zr3 zr4 zr5 zr6 zr7 zr8 zr9] : List va_W).flatten) sz) fb_QX (fb_XC "java/lang/IllegalArgumentException" (va_A (([fb_o11 zb zr0 zr1 zr2 zr3 zr4 zr5 zr6 zr7 zr8 zr9] : List va_W).flatten) sz)) 1 6 (va_A (([fb_o11 zb zr0 zr1 zr2 zr3 zr4 zr5 zr6 zr7 zr8 zr9] : List va_W).flatten) sz) := by
  refine fb_entT (by decide +kernel) (Nat.le_of_ble_eq_true rfl) ?_
  intro p e s m args below meth c A ls X I hl hex
  obtain ⟨hx, hb, hr, hml, hown, hts, hlk, hA, hK, hF⟩ := id X
  have hl : lv_has ls 5 [(0, .ref zb), (1, .int l1), (2, .int l2), (3, .int l3), (4, .int l4)] := hl
  refine lv_iload_n hx hb dX11_setWatch_0 rfl (lv_at hl 1 rfl) ?_
  refine fb_gO (cs := []) (rs := [fb_o11 zb zr0 zr1 zr2 zr3 zr4 zr5 zr6 zr7 zr8 zr9]) X I [0] 1 rfl (by decide +kernel) rfl rfl (fun I => fb_rS (As := [.int l1]) (rest := []) X hl (fb_goodS fw_1717 fw_1718 fw_191 fw_1719) (c_X11_isNoAddress l D cI cJ l1 _) rfl rfl (by decide +kernel : fb_hd yX11_isNoAddress 1) ⟨Nat.le_of_ble_eq_true rfl, Nat.le_of_ble_eq_true rfl⟩ rfl rfl (Nat.le_of_ble_eq_true rfl) ⟨Nat.zero_le _, Nat.zero_le _⟩ dX11_setWatch_1 I) ?_
  refine fb_tI (v := (0 : Int32)) gA0 ?_
  refine lv_if_ne (tgt := 14) hx hb dX11_setWatch_4 (by decide) (fun c1 => absurd (by decide) c1) (fun _ => ?_)
  refine lv_iload_n hx hb dX11_setWatch_7 rfl (lv_at hl 2 rfl) ?_
  refine fb_gO (cs := []) (rs := [fb_o11 zb zr0 zr1 zr2 zr3 zr4 zr5 zr6 zr7 zr8 zr9]) X I [0] 1 rfl (by decide +kernel) rfl rfl (fun I => fb_rS (As := [.int l2]) (rest := []) X hl (fb_goodS fw_1717 fw_1718 fw_191 fw_1719) (c_X11_isNoAddress l D cI cJ l2 _) rfl rfl (by decide +kernel : fb_hd yX11_isNoAddress 1) ⟨Nat.le_of_ble_eq_true rfl, Nat.le_of_ble_eq_true rfl⟩ rfl rfl (Nat.le_of_ble_eq_true rfl) ⟨Nat.zero_le _, Nat.zero_le _⟩ dX11_setWatch_8 I) ?_
  refine fb_tI (v := (1 : Int32)) gA ?_
  refine lv_if_eq (tgt := 24) hx hb dX11_setWatch_11 (by decide) (fun c2 => absurd c2 (by decide)) (fun _ => ?_)
  exact fb_throwA (is := 176) (text := "no address") X I hl hex hst (List.mem_of_getElem? (i := 2) rfl) dX11_setWatch_14 dX11_setWatch_17 (Or.inl ⟨dX11_setWatch_18, dX11_setWatch_20, dX11_setWatch_23⟩) (Nat.le_of_ble_eq_true rfl) (Nat.le_of_ble_eq_true rfl) (Nat.le_of_ble_eq_true rfl) (Nat.le_of_ble_eq_true rfl) (Nat.le_of_ble_eq_true rfl) (Nat.le_of_ble_eq_true rfl)

set_option maxHeartbeats 4000000 in
set_option maxRecDepth 100000 in
theorem x_setWatch_b (l : Launch) (D : va_G) (cI cJ : ClassId) (zb : Nat) (zr0 : Nat) (zr1 : Nat) (zr2 : Nat) (zr3 : Nat) (zr4 : Nat) (zr5 : Nat) (zr6 : Nat) (zr7 : Nat) (zr8 : Nat) (zr9 : Nat) (l1 : Int32) (l2 : Int32) (l3 : Int32) (l4 : Int32)  (sz : Nat) (hst : l.stackTraces = false) (gA0 : f_X11_isNoAddress l1 = (0 : Int32)) (gA2 : f_X11_isNoAddress l2 = (0 : Int32)) (h1 : l2 < l1) (h2 : ¬ l1 ≤ l2) : vx_Met l yX11_setWatch (Cond.code yX11_setWatch cX11_setWatch 5 (some .int) :: fb_all) ({ frames := 6, cells := 1, slots := 6, locals := 82 } : Room) (fb_PP D (fb_ty D cI cJ) [.ref zb, .int l1, .int l2, .int l3, .int l4] (([fb_o11 zb zr0 zr1 zr2 zr3 zr4 zr5 zr6 zr7 zr8 zr9] : List va_W).flatten) sz) fb_QX (fb_XC "java/lang/IllegalArgumentException" (va_A (([fb_o11 zb zr0 zr1 zr2 zr3 zr4 zr5 zr6 zr7 zr8 zr9] : List va_W).flatten) sz)) 1 6 (va_A (([fb_o11 zb zr0 zr1 zr2 zr3 zr4 zr5 zr6 zr7 zr8 zr9] : List va_W).flatten) sz) := by
  refine fb_entT (by decide +kernel) (Nat.le_of_ble_eq_true rfl) ?_
  intro p e s m args below meth c A ls X I hl hex
  obtain ⟨hx, hb, hr, hml, hown, hts, hlk, hA, hK, hF⟩ := id X
  have hl : lv_has ls 5 [(0, .ref zb), (1, .int l1), (2, .int l2), (3, .int l3), (4, .int l4)] := hl
  refine lv_iload_n hx hb dX11_setWatch_0 rfl (lv_at hl 1 rfl) ?_
  refine fb_gO (cs := []) (rs := [fb_o11 zb zr0 zr1 zr2 zr3 zr4 zr5 zr6 zr7 zr8 zr9]) X I [0] 1 rfl (by decide +kernel) rfl rfl (fun I => fb_rS (As := [.int l1]) (rest := []) X hl (fb_goodS fw_1717 fw_1718 fw_191 fw_1719) (c_X11_isNoAddress l D cI cJ l1 _) rfl rfl (by decide +kernel : fb_hd yX11_isNoAddress 1) ⟨Nat.le_of_ble_eq_true rfl, Nat.le_of_ble_eq_true rfl⟩ rfl rfl (Nat.le_of_ble_eq_true rfl) ⟨Nat.zero_le _, Nat.zero_le _⟩ dX11_setWatch_1 I) ?_
  refine fb_tI (v := (0 : Int32)) gA0 ?_
  refine lv_if_ne (tgt := 14) hx hb dX11_setWatch_4 (by decide) (fun c1 => absurd (by decide) c1) (fun _ => ?_)
  refine lv_iload_n hx hb dX11_setWatch_7 rfl (lv_at hl 2 rfl) ?_
  refine fb_gO (cs := []) (rs := [fb_o11 zb zr0 zr1 zr2 zr3 zr4 zr5 zr6 zr7 zr8 zr9]) X I [0] 1 rfl (by decide +kernel) rfl rfl (fun I => fb_rS (As := [.int l2]) (rest := []) X hl (fb_goodS fw_1717 fw_1718 fw_191 fw_1719) (c_X11_isNoAddress l D cI cJ l2 _) rfl rfl (by decide +kernel : fb_hd yX11_isNoAddress 1) ⟨Nat.le_of_ble_eq_true rfl, Nat.le_of_ble_eq_true rfl⟩ rfl rfl (Nat.le_of_ble_eq_true rfl) ⟨Nat.zero_le _, Nat.zero_le _⟩ dX11_setWatch_8 I) ?_
  refine fb_tI (v := (0 : Int32)) gA2 ?_
  refine lv_if_eq (tgt := 24) hx hb dX11_setWatch_11 (by decide) (fun _ => ?_) (fun c2 => absurd (by decide) c2)
  refine lv_iload_n hx hb dX11_setWatch_24 rfl (lv_at hl 2 rfl) ?_
  refine lv_iload_n hx hb dX11_setWatch_25 rfl (lv_at hl 1 rfl) ?_
  refine lv_icmp_ge (tgt := 40) hx hb dX11_setWatch_26 (by decide) (fun c3 => absurd c3 h2) (fun _ => ?_)
  exact fb_throwA (is := 296) (text := "it ends ahead of its beginning") X I hl hex hst (List.mem_of_getElem? (i := 10) rfl) dX11_setWatch_29 dX11_setWatch_32 (Or.inr ⟨dX11_setWatch_33, dX11_setWatch_36, dX11_setWatch_39⟩) (Nat.le_of_ble_eq_true rfl) (Nat.le_of_ble_eq_true rfl) (Nat.le_of_ble_eq_true rfl) (Nat.le_of_ble_eq_true rfl) (Nat.le_of_ble_eq_true rfl) (Nat.le_of_ble_eq_true rfl)

set_option maxHeartbeats 4000000 in
set_option maxRecDepth 100000 in
theorem x_setRegister_a (l : Launch) (D : va_G) (cI cJ : ClassId) (zb : Nat) (zr0 : Nat) (zr1 : Nat) (zr2 : Nat) (zr3 : Nat) (zr4 : Nat) (zr5 : Nat) (zr6 : Nat) (zr7 : Nat) (zr8 : Nat) (zr9 : Nat) (l1 : Int32) (l2 : Int32)  (sz : Nat) (hst : l.stackTraces = false) (h0 : l1 < 0) : vx_Met l yX11_setRegister (Cond.code yX11_setRegister cX11_setRegister 4 (some .int) :: fb_all) ({ frames := 6, cells := 1, slots := 6, locals := 82 } : Room) (fb_PP D (fb_ty D cI cJ) [.ref zb, .int l1, .int l2] (([fb_o11 zb zr0 zr1 zr2 zr3 zr4 zr5 zr6 zr7 zr8 zr9] : List va_W).flatten) sz) fb_QX (fb_XC "java/lang/IndexOutOfBoundsException" (va_A (([fb_o11 zb zr0 zr1 zr2 zr3 zr4 zr5 zr6 zr7 zr8 zr9] : List va_W).flatten) sz)) 1 6 (va_A (([fb_o11 zb zr0 zr1 zr2 zr3 zr4 zr5 zr6 zr7 zr8 zr9] : List va_W).flatten) sz) := by
  refine fb_entT (by decide +kernel) (Nat.le_of_ble_eq_true rfl) ?_
  intro p e s m args below meth c A ls X I hl hex
  obtain ⟨hx, hb, hr, hml, hown, hts, hlk, hA, hK, hF⟩ := id X
  have hl : lv_has ls 4 [(0, .ref zb), (1, .int l1), (2, .int l2)] := hl
  refine lv_iload_n hx hb dX11_setRegister_0 rfl (lv_at hl 1 rfl) ?_
  refine lv_if_lt (tgt := 9) hx hb dX11_setRegister_1 (by decide) (fun _ => ?_) (fun c1 => absurd h0 c1)
  exact fb_throwB (is := 233) (text := "no such register") X I hl hex hst (List.mem_of_getElem? (i := 5) rfl) dX11_setRegister_9 dX11_setRegister_12 (Or.inl ⟨dX11_setRegister_13, dX11_setRegister_15, dX11_setRegister_18⟩) (Nat.le_of_ble_eq_true rfl) (Nat.le_of_ble_eq_true rfl) (Nat.le_of_ble_eq_true rfl) (Nat.le_of_ble_eq_true rfl) (Nat.le_of_ble_eq_true rfl) (Nat.le_of_ble_eq_true rfl)

set_option maxHeartbeats 4000000 in
set_option maxRecDepth 100000 in
theorem x_setRegister_b (l : Launch) (D : va_G) (cI cJ : ClassId) (zb : Nat) (zr0 : Nat) (zr1 : Nat) (zr2 : Nat) (zr3 : Nat) (zr4 : Nat) (zr5 : Nat) (zr6 : Nat) (zr7 : Nat) (zr8 : Nat) (zr9 : Nat) (l1 : Int32) (l2 : Int32)  (sz : Nat) (hst : l.stackTraces = false) (h0 : ¬ l1 < 0) (h1 : ¬ l1 ≤ (4 : Int32)) : vx_Met l yX11_setRegister (Cond.code yX11_setRegister cX11_setRegister 4 (some .int) :: fb_all) ({ frames := 6, cells := 1, slots := 6, locals := 82 } : Room) (fb_PP D (fb_ty D cI cJ) [.ref zb, .int l1, .int l2] (([fb_o11 zb zr0 zr1 zr2 zr3 zr4 zr5 zr6 zr7 zr8 zr9] : List va_W).flatten) sz) fb_QX (fb_XC "java/lang/IndexOutOfBoundsException" (va_A (([fb_o11 zb zr0 zr1 zr2 zr3 zr4 zr5 zr6 zr7 zr8 zr9] : List va_W).flatten) sz)) 1 6 (va_A (([fb_o11 zb zr0 zr1 zr2 zr3 zr4 zr5 zr6 zr7 zr8 zr9] : List va_W).flatten) sz) := by
  refine fb_entT (by decide +kernel) (Nat.le_of_ble_eq_true rfl) ?_
  intro p e s m args below meth c A ls X I hl hex
  obtain ⟨hx, hb, hr, hml, hown, hts, hlk, hA, hK, hF⟩ := id X
  have hl : lv_has ls 4 [(0, .ref zb), (1, .int l1), (2, .int l2)] := hl
  refine lv_iload_n hx hb dX11_setRegister_0 rfl (lv_at hl 1 rfl) ?_
  refine lv_if_lt (tgt := 9) hx hb dX11_setRegister_1 (by decide) (fun c1 => absurd c1 h0) (fun _ => ?_)
  refine lv_iload_n hx hb dX11_setRegister_4 rfl (lv_at hl 1 rfl) ?_
  refine lv_iconst (v := (4 : Int32)) hx hb dX11_setRegister_5 (by decide) ?_
  refine lv_icmp_le (tgt := 19) hx hb dX11_setRegister_6 (by decide) (fun c2 => absurd c2 h1) (fun _ => ?_)
  exact fb_throwB (is := 233) (text := "no such register") X I hl hex hst (List.mem_of_getElem? (i := 5) rfl) dX11_setRegister_9 dX11_setRegister_12 (Or.inl ⟨dX11_setRegister_13, dX11_setRegister_15, dX11_setRegister_18⟩) (Nat.le_of_ble_eq_true rfl) (Nat.le_of_ble_eq_true rfl) (Nat.le_of_ble_eq_true rfl) (Nat.le_of_ble_eq_true rfl) (Nat.le_of_ble_eq_true rfl) (Nat.le_of_ble_eq_true rfl)

set_option maxHeartbeats 4000000 in
set_option maxRecDepth 100000 in
theorem x_setRegister_4n (l : Launch) (D : va_G) (cI cJ : ClassId) (zb : Nat) (zr0 : Nat) (zr1 : Nat) (zr2 : Nat) (zr3 : Nat) (zr4 : Nat) (zr5 : Nat) (zr6 : Nat) (zr7 : Nat) (zr8 : Nat) (zr9 : Nat) (l1 : Int32) (l2 : Int32)  (sz : Nat) (hst : l.stackTraces = false) (r0 : ¬ l1 < 0) (r4 : l1 ≤ (4 : Int32)) (e4 : l1 = (4 : Int32)) (v0 : l2 < 0) : vx_Met l yX11_setRegister (Cond.code yX11_setRegister cX11_setRegister 4 (some .int) :: fb_all) ({ frames := 6, cells := 1, slots := 6, locals := 82 } : Room) (fb_PP D (fb_ty D cI cJ) [.ref zb, .int l1, .int l2] (([fb_o11 zb zr0 zr1 zr2 zr3 zr4 zr5 zr6 zr7 zr8 zr9] : List va_W).flatten) sz) fb_QX (fb_XC "java/lang/IllegalArgumentException" (va_A (([fb_o11 zb zr0 zr1 zr2 zr3 zr4 zr5 zr6 zr7 zr8 zr9] : List va_W).flatten) sz)) 1 6 (va_A (([fb_o11 zb zr0 zr1 zr2 zr3 zr4 zr5 zr6 zr7 zr8 zr9] : List va_W).flatten) sz) := by
  refine fb_entT (by decide +kernel) (Nat.le_of_ble_eq_true rfl) ?_
  intro p e s m args below meth c A ls X I hl hex
  obtain ⟨hx, hb, hr, hml, hown, hts, hlk, hA, hK, hF⟩ := id X
  have hl : lv_has ls 4 [(0, .ref zb), (1, .int l1), (2, .int l2)] := hl
  refine lv_iload_n hx hb dX11_setRegister_0 rfl (lv_at hl 1 rfl) ?_
  refine lv_if_lt (tgt := 9) hx hb dX11_setRegister_1 (by decide) (fun c1 => absurd c1 r0) (fun _ => ?_)
  refine lv_iload_n hx hb dX11_setRegister_4 rfl (lv_at hl 1 rfl) ?_
  refine lv_iconst (v := (4 : Int32)) hx hb dX11_setRegister_5 (by decide) ?_
  refine lv_icmp_le (tgt := 19) hx hb dX11_setRegister_6 (by decide) (fun _ => ?_) (fun c2 => absurd r4 c2)
  refine lv_iload_n hx hb dX11_setRegister_19 rfl (lv_at hl 1 rfl) ?_
  refine lv_iconst (v := (4 : Int32)) hx hb dX11_setRegister_20 (by decide) ?_
  refine lv_icmp_ne (tgt := 30) hx hb dX11_setRegister_21 (by decide) (fun c3 => absurd e4 c3) (fun _ => ?_)
  refine lv_sipush (v := (4095 : Int32)) hx hb dX11_setRegister_24 (by decide) ?_
  refine lv_goto (tgt := 43) hx hb dX11_setRegister_27 (by decide) ?_
  refine lv_istore_n (lv' := [(3, .int (4095 : Int32)), (0, .ref zb), (1, .int l1), (2, .int l2)]) hx hb dX11_setRegister_43 rfl hl (by decide) rfl (fun ls hl => ?_)
  refine lv_iload_n hx hb dX11_setRegister_44 rfl (lv_at hl 3 rfl) ?_
  refine lv_if_lt (tgt := 53) hx hb dX11_setRegister_45 (by decide) (fun _ => ?_) (fun c4 => absurd v0 c4)
  exact fb_throwA (is := 235) (text := "it cannot be that") X I hl hex hst (List.mem_of_getElem? (i := 6) rfl) dX11_setRegister_53 dX11_setRegister_56 (Or.inl ⟨dX11_setRegister_57, dX11_setRegister_59, dX11_setRegister_62⟩) (Nat.le_of_ble_eq_true rfl) (Nat.le_of_ble_eq_true rfl) (Nat.le_of_ble_eq_true rfl) (Nat.le_of_ble_eq_true rfl) (Nat.le_of_ble_eq_true rfl) (Nat.le_of_ble_eq_true rfl)

set_option maxHeartbeats 4000000 in
set_option maxRecDepth 100000 in
theorem x_setRegister_4m (l : Launch) (D : va_G) (cI cJ : ClassId) (zb : Nat) (zr0 : Nat) (zr1 : Nat) (zr2 : Nat) (zr3 : Nat) (zr4 : Nat) (zr5 : Nat) (zr6 : Nat) (zr7 : Nat) (zr8 : Nat) (zr9 : Nat) (l1 : Int32) (l2 : Int32)  (sz : Nat) (hst : l.stackTraces = false) (r0 : ¬ l1 < 0) (r4 : l1 ≤ (4 : Int32)) (e4 : l1 = (4 : Int32)) (v0 : ¬ l2 < 0) (v1 : ¬ l2 ≤ (4095 : Int32)) : vx_Met l yX11_setRegister (Cond.code yX11_setRegister cX11_setRegister 4 (some .int) :: fb_all) ({ frames := 6, cells := 1, slots := 6, locals := 82 } : Room) (fb_PP D (fb_ty D cI cJ) [.ref zb, .int l1, .int l2] (([fb_o11 zb zr0 zr1 zr2 zr3 zr4 zr5 zr6 zr7 zr8 zr9] : List va_W).flatten) sz) fb_QX (fb_XC "java/lang/IllegalArgumentException" (va_A (([fb_o11 zb zr0 zr1 zr2 zr3 zr4 zr5 zr6 zr7 zr8 zr9] : List va_W).flatten) sz)) 1 6 (va_A (([fb_o11 zb zr0 zr1 zr2 zr3 zr4 zr5 zr6 zr7 zr8 zr9] : List va_W).flatten) sz) := by
  refine fb_entT (by decide +kernel) (Nat.le_of_ble_eq_true rfl) ?_
  intro p e s m args below meth c A ls X I hl hex
  obtain ⟨hx, hb, hr, hml, hown, hts, hlk, hA, hK, hF⟩ := id X
  have hl : lv_has ls 4 [(0, .ref zb), (1, .int l1), (2, .int l2)] := hl
  refine lv_iload_n hx hb dX11_setRegister_0 rfl (lv_at hl 1 rfl) ?_
  refine lv_if_lt (tgt := 9) hx hb dX11_setRegister_1 (by decide) (fun c1 => absurd c1 r0) (fun _ => ?_)
  refine lv_iload_n hx hb dX11_setRegister_4 rfl (lv_at hl 1 rfl) ?_
  refine lv_iconst (v := (4 : Int32)) hx hb dX11_setRegister_5 (by decide) ?_
  refine lv_icmp_le (tgt := 19) hx hb dX11_setRegister_6 (by decide) (fun _ => ?_) (fun c2 => absurd r4 c2)
  refine lv_iload_n hx hb dX11_setRegister_19 rfl (lv_at hl 1 rfl) ?_
  refine lv_iconst (v := (4 : Int32)) hx hb dX11_setRegister_20 (by decide) ?_
  refine lv_icmp_ne (tgt := 30) hx hb dX11_setRegister_21 (by decide) (fun c3 => absurd e4 c3) (fun _ => ?_)
  refine lv_sipush (v := (4095 : Int32)) hx hb dX11_setRegister_24 (by decide) ?_
  refine lv_goto (tgt := 43) hx hb dX11_setRegister_27 (by decide) ?_
  refine lv_istore_n (lv' := [(3, .int (4095 : Int32)), (0, .ref zb), (1, .int l1), (2, .int l2)]) hx hb dX11_setRegister_43 rfl hl (by decide) rfl (fun ls hl => ?_)
  refine lv_iload_n hx hb dX11_setRegister_44 rfl (lv_at hl 3 rfl) ?_
  refine lv_if_lt (tgt := 53) hx hb dX11_setRegister_45 (by decide) (fun c4 => absurd c4 v0) (fun _ => ?_)
  refine lv_iload_n hx hb dX11_setRegister_48 rfl (lv_at hl 3 rfl) ?_
  refine lv_iload_n hx hb dX11_setRegister_49 rfl (lv_at hl 0 rfl) ?_
  refine lv_icmp_le (tgt := 63) hx hb dX11_setRegister_50 (by decide) (fun c5 => absurd c5 v1) (fun _ => ?_)
  exact fb_throwA (is := 235) (text := "it cannot be that") X I hl hex hst (List.mem_of_getElem? (i := 6) rfl) dX11_setRegister_53 dX11_setRegister_56 (Or.inl ⟨dX11_setRegister_57, dX11_setRegister_59, dX11_setRegister_62⟩) (Nat.le_of_ble_eq_true rfl) (Nat.le_of_ble_eq_true rfl) (Nat.le_of_ble_eq_true rfl) (Nat.le_of_ble_eq_true rfl) (Nat.le_of_ble_eq_true rfl) (Nat.le_of_ble_eq_true rfl)

set_option maxHeartbeats 4000000 in
set_option maxRecDepth 100000 in
theorem x_setRegister_3n (l : Launch) (D : va_G) (cI cJ : ClassId) (zb : Nat) (zr0 : Nat) (zr1 : Nat) (zr2 : Nat) (zr3 : Nat) (zr4 : Nat) (zr5 : Nat) (zr6 : Nat) (zr7 : Nat) (zr8 : Nat) (zr9 : Nat) (l1 : Int32) (l2 : Int32)  (sz : Nat) (hst : l.stackTraces = false) (r0 : ¬ l1 < 0) (r4 : l1 ≤ (4 : Int32)) (e4 : ¬ l1 = (4 : Int32)) (e3 : l1 = (3 : Int32)) (v0 : l2 < 0) : vx_Met l yX11_setRegister (Cond.code yX11_setRegister cX11_setRegister 4 (some .int) :: fb_all) ({ frames := 6, cells := 1, slots := 6, locals := 82 } : Room) (fb_PP D (fb_ty D cI cJ) [.ref zb, .int l1, .int l2] (([fb_o11 zb zr0 zr1 zr2 zr3 zr4 zr5 zr6 zr7 zr8 zr9] : List va_W).flatten) sz) fb_QX (fb_XC "java/lang/IllegalArgumentException" (va_A (([fb_o11 zb zr0 zr1 zr2 zr3 zr4 zr5 zr6 zr7 zr8 zr9] : List va_W).flatten) sz)) 1 6 (va_A (([fb_o11 zb zr0 zr1 zr2 zr3 zr4 zr5 zr6 zr7 zr8 zr9] : List va_W).flatten) sz) := by
  refine fb_entT (by decide +kernel) (Nat.le_of_ble_eq_true rfl) ?_
  intro p e s m args below meth c A ls X I hl hex
  obtain ⟨hx, hb, hr, hml, hown, hts, hlk, hA, hK, hF⟩ := id X
  have hl : lv_has ls 4 [(0, .ref zb), (1, .int l1), (2, .int l2)] := hl
  refine lv_iload_n hx hb dX11_setRegister_0 rfl (lv_at hl 1 rfl) ?_
  refine lv_if_lt (tgt := 9) hx hb dX11_setRegister_1 (by decide) (fun c1 => absurd c1 r0) (fun _ => ?_)
  refine lv_iload_n hx hb dX11_setRegister_4 rfl (lv_at hl 1 rfl) ?_
  refine lv_iconst (v := (4 : Int32)) hx hb dX11_setRegister_5 (by decide) ?_
  refine lv_icmp_le (tgt := 19) hx hb dX11_setRegister_6 (by decide) (fun _ => ?_) (fun c2 => absurd r4 c2)
  refine lv_iload_n hx hb dX11_setRegister_19 rfl (lv_at hl 1 rfl) ?_
  refine lv_iconst (v := (4 : Int32)) hx hb dX11_setRegister_20 (by decide) ?_
  refine lv_icmp_ne (tgt := 30) hx hb dX11_setRegister_21 (by decide) (fun _ => ?_) (fun c3 => absurd c3 e4)
  refine lv_iload_n hx hb dX11_setRegister_30 rfl (lv_at hl 1 rfl) ?_
  refine lv_iconst (v := (3 : Int32)) hx hb dX11_setRegister_31 (by decide) ?_
  refine lv_icmp_ne (tgt := 40) hx hb dX11_setRegister_32 (by decide) (fun c4 => absurd e3 c4) (fun _ => ?_)
  refine lv_bipush (v := (31 : Int32)) hx hb dX11_setRegister_35 (by decide) ?_
  refine lv_goto (tgt := 43) hx hb dX11_setRegister_37 (by decide) ?_
  refine lv_istore_n (lv' := [(3, .int (31 : Int32)), (0, .ref zb), (1, .int l1), (2, .int l2)]) hx hb dX11_setRegister_43 rfl hl (by decide) rfl (fun ls hl => ?_)
  refine lv_iload_n hx hb dX11_setRegister_44 rfl (lv_at hl 3 rfl) ?_
  refine lv_if_lt (tgt := 53) hx hb dX11_setRegister_45 (by decide) (fun _ => ?_) (fun c5 => absurd v0 c5)
  exact fb_throwA (is := 235) (text := "it cannot be that") X I hl hex hst (List.mem_of_getElem? (i := 6) rfl) dX11_setRegister_53 dX11_setRegister_56 (Or.inl ⟨dX11_setRegister_57, dX11_setRegister_59, dX11_setRegister_62⟩) (Nat.le_of_ble_eq_true rfl) (Nat.le_of_ble_eq_true rfl) (Nat.le_of_ble_eq_true rfl) (Nat.le_of_ble_eq_true rfl) (Nat.le_of_ble_eq_true rfl) (Nat.le_of_ble_eq_true rfl)

set_option maxHeartbeats 4000000 in
set_option maxRecDepth 100000 in
theorem x_setRegister_3m (l : Launch) (D : va_G) (cI cJ : ClassId) (zb : Nat) (zr0 : Nat) (zr1 : Nat) (zr2 : Nat) (zr3 : Nat) (zr4 : Nat) (zr5 : Nat) (zr6 : Nat) (zr7 : Nat) (zr8 : Nat) (zr9 : Nat) (l1 : Int32) (l2 : Int32)  (sz : Nat) (hst : l.stackTraces = false) (r0 : ¬ l1 < 0) (r4 : l1 ≤ (4 : Int32)) (e4 : ¬ l1 = (4 : Int32)) (e3 : l1 = (3 : Int32)) (v0 : ¬ l2 < 0) (v1 : ¬ l2 ≤ (31 : Int32)) : vx_Met l yX11_setRegister (Cond.code yX11_setRegister cX11_setRegister 4 (some .int) :: fb_all) ({ frames := 6, cells := 1, slots := 6, locals := 82 } : Room) (fb_PP D (fb_ty D cI cJ) [.ref zb, .int l1, .int l2] (([fb_o11 zb zr0 zr1 zr2 zr3 zr4 zr5 zr6 zr7 zr8 zr9] : List va_W).flatten) sz) fb_QX (fb_XC "java/lang/IllegalArgumentException" (va_A (([fb_o11 zb zr0 zr1 zr2 zr3 zr4 zr5 zr6 zr7 zr8 zr9] : List va_W).flatten) sz)) 1 6 (va_A (([fb_o11 zb zr0 zr1 zr2 zr3 zr4 zr5 zr6 zr7 zr8 zr9] : List va_W).flatten) sz) := by
  refine fb_entT (by decide +kernel) (Nat.le_of_ble_eq_true rfl) ?_
  intro p e s m args below meth c A ls X I hl hex
  obtain ⟨hx, hb, hr, hml, hown, hts, hlk, hA, hK, hF⟩ := id X
  have hl : lv_has ls 4 [(0, .ref zb), (1, .int l1), (2, .int l2)] := hl
  refine lv_iload_n hx hb dX11_setRegister_0 rfl (lv_at hl 1 rfl) ?_
  refine lv_if_lt (tgt := 9) hx hb dX11_setRegister_1 (by decide) (fun c1 => absurd c1 r0) (fun _ => ?_)
  refine lv_iload_n hx hb dX11_setRegister_4 rfl (lv_at hl 1 rfl) ?_
  refine lv_iconst (v := (4 : Int32)) hx hb dX11_setRegister_5 (by decide) ?_
  refine lv_icmp_le (tgt := 19) hx hb dX11_setRegister_6 (by decide) (fun _ => ?_) (fun c2 => absurd r4 c2)
  refine lv_iload_n hx hb dX11_setRegister_19 rfl (lv_at hl 1 rfl) ?_
  refine lv_iconst (v := (4 : Int32)) hx hb dX11_setRegister_20 (by decide) ?_
  refine lv_icmp_ne (tgt := 30) hx hb dX11_setRegister_21 (by decide) (fun _ => ?_) (fun c3 => absurd c3 e4)
  refine lv_iload_n hx hb dX11_setRegister_30 rfl (lv_at hl 1 rfl) ?_
  refine lv_iconst (v := (3 : Int32)) hx hb dX11_setRegister_31 (by decide) ?_
  refine lv_icmp_ne (tgt := 40) hx hb dX11_setRegister_32 (by decide) (fun c4 => absurd e3 c4) (fun _ => ?_)
  refine lv_bipush (v := (31 : Int32)) hx hb dX11_setRegister_35 (by decide) ?_
  refine lv_goto (tgt := 43) hx hb dX11_setRegister_37 (by decide) ?_
  refine lv_istore_n (lv' := [(3, .int (31 : Int32)), (0, .ref zb), (1, .int l1), (2, .int l2)]) hx hb dX11_setRegister_43 rfl hl (by decide) rfl (fun ls hl => ?_)
  refine lv_iload_n hx hb dX11_setRegister_44 rfl (lv_at hl 3 rfl) ?_
  refine lv_if_lt (tgt := 53) hx hb dX11_setRegister_45 (by decide) (fun c5 => absurd c5 v0) (fun _ => ?_)
  refine lv_iload_n hx hb dX11_setRegister_48 rfl (lv_at hl 3 rfl) ?_
  refine lv_iload_n hx hb dX11_setRegister_49 rfl (lv_at hl 0 rfl) ?_
  refine lv_icmp_le (tgt := 63) hx hb dX11_setRegister_50 (by decide) (fun c6 => absurd c6 v1) (fun _ => ?_)
  exact fb_throwA (is := 235) (text := "it cannot be that") X I hl hex hst (List.mem_of_getElem? (i := 6) rfl) dX11_setRegister_53 dX11_setRegister_56 (Or.inl ⟨dX11_setRegister_57, dX11_setRegister_59, dX11_setRegister_62⟩) (Nat.le_of_ble_eq_true rfl) (Nat.le_of_ble_eq_true rfl) (Nat.le_of_ble_eq_true rfl) (Nat.le_of_ble_eq_true rfl) (Nat.le_of_ble_eq_true rfl) (Nat.le_of_ble_eq_true rfl)

set_option maxHeartbeats 4000000 in
set_option maxRecDepth 100000 in
theorem x_setRegister_rn (l : Launch) (D : va_G) (cI cJ : ClassId) (zb : Nat) (zr0 : Nat) (zr1 : Nat) (zr2 : Nat) (zr3 : Nat) (zr4 : Nat) (zr5 : Nat) (zr6 : Nat) (zr7 : Nat) (zr8 : Nat) (zr9 : Nat) (l1 : Int32) (l2 : Int32)  (sz : Nat) (hst : l.stackTraces = false) (r0 : ¬ l1 < 0) (r4 : l1 ≤ (4 : Int32)) (e4 : ¬ l1 = (4 : Int32)) (e3 : ¬ l1 = (3 : Int32)) (v0 : l2 < 0) : vx_Met l yX11_setRegister (Cond.code yX11_setRegister cX11_setRegister 4 (some .int) :: fb_all) ({ frames := 6, cells := 1, slots := 6, locals := 82 } : Room) (fb_PP D (fb_ty D cI cJ) [.ref zb, .int l1, .int l2] (([fb_o11 zb zr0 zr1 zr2 zr3 zr4 zr5 zr6 zr7 zr8 zr9] : List va_W).flatten) sz) fb_QX (fb_XC "java/lang/IllegalArgumentException" (va_A (([fb_o11 zb zr0 zr1 zr2 zr3 zr4 zr5 zr6 zr7 zr8 zr9] : List va_W).flatten) sz)) 1 6 (va_A (([fb_o11 zb zr0 zr1 zr2 zr3 zr4 zr5 zr6 zr7 zr8 zr9] : List va_W).flatten) sz) := by
  refine fb_entT (by decide +kernel) (Nat.le_of_ble_eq_true rfl) ?_
  intro p e s m args below meth c A ls X I hl hex
  obtain ⟨hx, hb, hr, hml, hown, hts, hlk, hA, hK, hF⟩ := id X
  have hl : lv_has ls 4 [(0, .ref zb), (1, .int l1), (2, .int l2)] := hl
  refine lv_iload_n hx hb dX11_setRegister_0 rfl (lv_at hl 1 rfl) ?_
  refine lv_if_lt (tgt := 9) hx hb dX11_setRegister_1 (by decide) (fun c1 => absurd c1 r0) (fun _ => ?_)
  refine lv_iload_n hx hb dX11_setRegister_4 rfl (lv_at hl 1 rfl) ?_
  refine lv_iconst (v := (4 : Int32)) hx hb dX11_setRegister_5 (by decide) ?_
  refine lv_icmp_le (tgt := 19) hx hb dX11_setRegister_6 (by decide) (fun _ => ?_) (fun c2 => absurd r4 c2)
  refine lv_iload_n hx hb dX11_setRegister_19 rfl (lv_at hl 1 rfl) ?_
  refine lv_iconst (v := (4 : Int32)) hx hb dX11_setRegister_20 (by decide) ?_
  refine lv_icmp_ne (tgt := 30) hx hb dX11_setRegister_21 (by decide) (fun _ => ?_) (fun c3 => absurd c3 e4)
  refine lv_iload_n hx hb dX11_setRegister_30 rfl (lv_at hl 1 rfl) ?_
  refine lv_iconst (v := (3 : Int32)) hx hb dX11_setRegister_31 (by decide) ?_
  refine lv_icmp_ne (tgt := 40) hx hb dX11_setRegister_32 (by decide) (fun _ => ?_) (fun c4 => absurd c4 e3)
  refine lv_sipush (v := (255 : Int32)) hx hb dX11_setRegister_40 (by decide) ?_
  refine lv_istore_n (lv' := [(3, .int (255 : Int32)), (0, .ref zb), (1, .int l1), (2, .int l2)]) hx hb dX11_setRegister_43 rfl hl (by decide) rfl (fun ls hl => ?_)
  refine lv_iload_n hx hb dX11_setRegister_44 rfl (lv_at hl 3 rfl) ?_
  refine lv_if_lt (tgt := 53) hx hb dX11_setRegister_45 (by decide) (fun _ => ?_) (fun c5 => absurd v0 c5)
  exact fb_throwA (is := 235) (text := "it cannot be that") X I hl hex hst (List.mem_of_getElem? (i := 6) rfl) dX11_setRegister_53 dX11_setRegister_56 (Or.inl ⟨dX11_setRegister_57, dX11_setRegister_59, dX11_setRegister_62⟩) (Nat.le_of_ble_eq_true rfl) (Nat.le_of_ble_eq_true rfl) (Nat.le_of_ble_eq_true rfl) (Nat.le_of_ble_eq_true rfl) (Nat.le_of_ble_eq_true rfl) (Nat.le_of_ble_eq_true rfl)

set_option maxHeartbeats 4000000 in
set_option maxRecDepth 100000 in
theorem x_setRegister_rm (l : Launch) (D : va_G) (cI cJ : ClassId) (zb : Nat) (zr0 : Nat) (zr1 : Nat) (zr2 : Nat) (zr3 : Nat) (zr4 : Nat) (zr5 : Nat) (zr6 : Nat) (zr7 : Nat) (zr8 : Nat) (zr9 : Nat) (l1 : Int32) (l2 : Int32)  (sz : Nat) (hst : l.stackTraces = false) (r0 : ¬ l1 < 0) (r4 : l1 ≤ (4 : Int32)) (e4 : ¬ l1 = (4 : Int32)) (e3 : ¬ l1 = (3 : Int32)) (v0 : ¬ l2 < 0) (v1 : ¬ l2 ≤ (255 : Int32)) : vx_Met l yX11_setRegister (Cond.code yX11_setRegister cX11_setRegister 4 (some .int) :: fb_all) ({ frames := 6, cells := 1, slots := 6, locals := 82 } : Room) (fb_PP D (fb_ty D cI cJ) [.ref zb, .int l1, .int l2] (([fb_o11 zb zr0 zr1 zr2 zr3 zr4 zr5 zr6 zr7 zr8 zr9] : List va_W).flatten) sz) fb_QX (fb_XC "java/lang/IllegalArgumentException" (va_A (([fb_o11 zb zr0 zr1 zr2 zr3 zr4 zr5 zr6 zr7 zr8 zr9] : List va_W).flatten) sz)) 1 6 (va_A (([fb_o11 zb zr0 zr1 zr2 zr3 zr4 zr5 zr6 zr7 zr8 zr9] : List va_W).flatten) sz) := by
  refine fb_entT (by decide +kernel) (Nat.le_of_ble_eq_true rfl) ?_
  intro p e s m args below meth c A ls X I hl hex
  obtain ⟨hx, hb, hr, hml, hown, hts, hlk, hA, hK, hF⟩ := id X
  have hl : lv_has ls 4 [(0, .ref zb), (1, .int l1), (2, .int l2)] := hl
  refine lv_iload_n hx hb dX11_setRegister_0 rfl (lv_at hl 1 rfl) ?_
  refine lv_if_lt (tgt := 9) hx hb dX11_setRegister_1 (by decide) (fun c1 => absurd c1 r0) (fun _ => ?_)
  refine lv_iload_n hx hb dX11_setRegister_4 rfl (lv_at hl 1 rfl) ?_
  refine lv_iconst (v := (4 : Int32)) hx hb dX11_setRegister_5 (by decide) ?_
  refine lv_icmp_le (tgt := 19) hx hb dX11_setRegister_6 (by decide) (fun _ => ?_) (fun c2 => absurd r4 c2)
  refine lv_iload_n hx hb dX11_setRegister_19 rfl (lv_at hl 1 rfl) ?_
  refine lv_iconst (v := (4 : Int32)) hx hb dX11_setRegister_20 (by decide) ?_
  refine lv_icmp_ne (tgt := 30) hx hb dX11_setRegister_21 (by decide) (fun _ => ?_) (fun c3 => absurd c3 e4)
  refine lv_iload_n hx hb dX11_setRegister_30 rfl (lv_at hl 1 rfl) ?_
  refine lv_iconst (v := (3 : Int32)) hx hb dX11_setRegister_31 (by decide) ?_
  refine lv_icmp_ne (tgt := 40) hx hb dX11_setRegister_32 (by decide) (fun _ => ?_) (fun c4 => absurd c4 e3)
  refine lv_sipush (v := (255 : Int32)) hx hb dX11_setRegister_40 (by decide) ?_
  refine lv_istore_n (lv' := [(3, .int (255 : Int32)), (0, .ref zb), (1, .int l1), (2, .int l2)]) hx hb dX11_setRegister_43 rfl hl (by decide) rfl (fun ls hl => ?_)
  refine lv_iload_n hx hb dX11_setRegister_44 rfl (lv_at hl 3 rfl) ?_
  refine lv_if_lt (tgt := 53) hx hb dX11_setRegister_45 (by decide) (fun c5 => absurd c5 v0) (fun _ => ?_)
  refine lv_iload_n hx hb dX11_setRegister_48 rfl (lv_at hl 3 rfl) ?_
  refine lv_iload_n hx hb dX11_setRegister_49 rfl (lv_at hl 0 rfl) ?_
  refine lv_icmp_le (tgt := 63) hx hb dX11_setRegister_50 (by decide) (fun c6 => absurd c6 v1) (fun _ => ?_)
  exact fb_throwA (is := 235) (text := "it cannot be that") X I hl hex hst (List.mem_of_getElem? (i := 6) rfl) dX11_setRegister_53 dX11_setRegister_56 (Or.inl ⟨dX11_setRegister_57, dX11_setRegister_59, dX11_setRegister_62⟩) (Nat.le_of_ble_eq_true rfl) (Nat.le_of_ble_eq_true rfl) (Nat.le_of_ble_eq_true rfl) (Nat.le_of_ble_eq_true rfl) (Nat.le_of_ble_eq_true rfl) (Nat.le_of_ble_eq_true rfl)

set_option maxHeartbeats 4000000 in
set_option maxRecDepth 100000 in
theorem x_back_a (l : Launch) (D : va_G) (cI cJ : ClassId) (zb : Nat) (zr0 : Nat) (zr1 : Nat) (zr2 : Nat) (zr3 : Nat) (zr4 : Nat) (zr5 : Nat) (zr6 : Nat) (zr7 : Nat) (zr8 : Nat) (zr9 : Nat) (l1 : Int32)  (sz : Nat) (hst : l.stackTraces = false) (h0 : l1 < (1 : Int32)) : vx_Met l yX11_back (Cond.code yX11_back cX11_back 2 (some .int) :: fb_all) ({ frames := 6, cells := 1, slots := 6, locals := 82 } : Room) (fb_PP D (fb_ty D cI cJ) [.ref zb, .int l1] (([fb_o11 zb zr0 zr1 zr2 zr3 zr4 zr5 zr6 zr7 zr8 zr9] : List va_W).flatten) sz) fb_QX (fb_XC "java/lang/IllegalArgumentException" (va_A (([fb_o11 zb zr0 zr1 zr2 zr3 zr4 zr5 zr6 zr7 zr8 zr9] : List va_W).flatten) sz)) 1 6 (va_A (([fb_o11 zb zr0 zr1 zr2 zr3 zr4 zr5 zr6 zr7 zr8 zr9] : List va_W).flatten) sz) := by
  refine fb_entT (by decide +kernel) (Nat.le_of_ble_eq_true rfl) ?_
  intro p e s m args below meth c A ls X I hl hex
  obtain ⟨hx, hb, hr, hml, hown, hts, hlk, hA, hK, hF⟩ := id X
  have hl : lv_has ls 2 [(0, .ref zb), (1, .int l1)] := hl
  refine lv_iload_n hx hb dX11_back_0 rfl (lv_at hl 1 rfl) ?_
  refine lv_iconst (v := (1 : Int32)) hx hb dX11_back_1 (by decide) ?_
  refine lv_icmp_lt (tgt := 12) hx hb dX11_back_2 (by decide) (fun _ => ?_) (fun c1 => absurd h0 c1)
  exact fb_throwA (is := 271) (text := "not 1 to 200 steps") X I hl hex hst (List.mem_of_getElem? (i := 8) rfl) dX11_back_12 dX11_back_15 (Or.inr ⟨dX11_back_16, dX11_back_19, dX11_back_22⟩) (Nat.le_of_ble_eq_true rfl) (Nat.le_of_ble_eq_true rfl) (Nat.le_of_ble_eq_true rfl) (Nat.le_of_ble_eq_true rfl) (Nat.le_of_ble_eq_true rfl) (Nat.le_of_ble_eq_true rfl)

set_option maxHeartbeats 4000000 in
set_option maxRecDepth 100000 in
theorem x_back_b (l : Launch) (D : va_G) (cI cJ : ClassId) (zb : Nat) (zr0 : Nat) (zr1 : Nat) (zr2 : Nat) (zr3 : Nat) (zr4 : Nat) (zr5 : Nat) (zr6 : Nat) (zr7 : Nat) (zr8 : Nat) (zr9 : Nat) (l1 : Int32)  (sz : Nat) (hst : l.stackTraces = false) (h0 : ¬ l1 < (1 : Int32)) (h1 : ¬ l1 ≤ (200 : Int32)) : vx_Met l yX11_back (Cond.code yX11_back cX11_back 2 (some .int) :: fb_all) ({ frames := 6, cells := 1, slots := 6, locals := 82 } : Room) (fb_PP D (fb_ty D cI cJ) [.ref zb, .int l1] (([fb_o11 zb zr0 zr1 zr2 zr3 zr4 zr5 zr6 zr7 zr8 zr9] : List va_W).flatten) sz) fb_QX (fb_XC "java/lang/IllegalArgumentException" (va_A (([fb_o11 zb zr0 zr1 zr2 zr3 zr4 zr5 zr6 zr7 zr8 zr9] : List va_W).flatten) sz)) 1 6 (va_A (([fb_o11 zb zr0 zr1 zr2 zr3 zr4 zr5 zr6 zr7 zr8 zr9] : List va_W).flatten) sz) := by
  refine fb_entT (by decide +kernel) (Nat.le_of_ble_eq_true rfl) ?_
  intro p e s m args below meth c A ls X I hl hex
  obtain ⟨hx, hb, hr, hml, hown, hts, hlk, hA, hK, hF⟩ := id X
  have hl : lv_has ls 2 [(0, .ref zb), (1, .int l1)] := hl
  refine lv_iload_n hx hb dX11_back_0 rfl (lv_at hl 1 rfl) ?_
  refine lv_iconst (v := (1 : Int32)) hx hb dX11_back_1 (by decide) ?_
  refine lv_icmp_lt (tgt := 12) hx hb dX11_back_2 (by decide) (fun c1 => absurd c1 h0) (fun _ => ?_)
  refine lv_iload_n hx hb dX11_back_5 rfl (lv_at hl 1 rfl) ?_
  refine lv_sipush (v := (200 : Int32)) hx hb dX11_back_6 (by decide) ?_
  refine lv_icmp_le (tgt := 23) hx hb dX11_back_9 (by decide) (fun c2 => absurd c2 h1) (fun _ => ?_)
  exact fb_throwA (is := 271) (text := "not 1 to 200 steps") X I hl hex hst (List.mem_of_getElem? (i := 8) rfl) dX11_back_12 dX11_back_15 (Or.inr ⟨dX11_back_16, dX11_back_19, dX11_back_22⟩) (Nat.le_of_ble_eq_true rfl) (Nat.le_of_ble_eq_true rfl) (Nat.le_of_ble_eq_true rfl) (Nat.le_of_ble_eq_true rfl) (Nat.le_of_ble_eq_true rfl) (Nat.le_of_ble_eq_true rfl)

set_option maxHeartbeats 4000000 in
set_option maxRecDepth 100000 in
theorem x_byteIn_a (l : Launch) (D : va_G) (cI cJ : ClassId) (zb : Nat) (zr0 : Nat) (zr1 : Nat) (zr2 : Nat) (zr3 : Nat) (zr4 : Nat) (zr5 : Nat) (zr6 : Nat) (zr7 : Nat) (zr8 : Nat) (zr9 : Nat) (l1 : Int32) (l2 : Int32)  (sz : Nat) (hst : l.stackTraces = false) (h0 : l1 < 0) : vx_Met l yX11_byteIn (Cond.code yX11_byteIn cX11_byteIn 3 (some .int) :: fb_all) ({ frames := 6, cells := 1, slots := 6, locals := 82 } : Room) (fb_PP D (fb_ty D cI cJ) [.ref zb, .int l1, .int l2] (([fb_o11 zb zr0 zr1 zr2 zr3 zr4 zr5 zr6 zr7 zr8 zr9] : List va_W).flatten) sz) fb_QX (fb_XC "java/lang/IndexOutOfBoundsException" (va_A (([fb_o11 zb zr0 zr1 zr2 zr3 zr4 zr5 zr6 zr7 zr8 zr9] : List va_W).flatten) sz)) 1 6 (va_A (([fb_o11 zb zr0 zr1 zr2 zr3 zr4 zr5 zr6 zr7 zr8 zr9] : List va_W).flatten) sz) := by
  refine fb_entT (by decide +kernel) (Nat.le_of_ble_eq_true rfl) ?_
  intro p e s m args below meth c A ls X I hl hex
  obtain ⟨hx, hb, hr, hml, hown, hts, hlk, hA, hK, hF⟩ := id X
  have hl : lv_has ls 3 [(0, .ref zb), (1, .int l1), (2, .int l2)] := hl
  refine lv_iload_n hx hb dX11_byteIn_0 rfl (lv_at hl 1 rfl) ?_
  refine lv_if_lt (tgt := 10) hx hb dX11_byteIn_1 (by decide) (fun _ => ?_) (fun c1 => absurd h0 c1)
  exact fb_throwB (is := 343) (text := "no such bank") X I hl hex hst (List.mem_of_getElem? (i := 11) rfl) dX11_byteIn_10 dX11_byteIn_13 (Or.inr ⟨dX11_byteIn_14, dX11_byteIn_17, dX11_byteIn_20⟩) (Nat.le_of_ble_eq_true rfl) (Nat.le_of_ble_eq_true rfl) (Nat.le_of_ble_eq_true rfl) (Nat.le_of_ble_eq_true rfl) (Nat.le_of_ble_eq_true rfl) (Nat.le_of_ble_eq_true rfl)

set_option maxHeartbeats 4000000 in
set_option maxRecDepth 100000 in
theorem x_byteIn_b (l : Launch) (D : va_G) (cI cJ : ClassId) (zb : Nat) (zr0 : Nat) (zr1 : Nat) (zr2 : Nat) (zr3 : Nat) (zr4 : Nat) (zr5 : Nat) (zr6 : Nat) (zr7 : Nat) (zr8 : Nat) (zr9 : Nat) (l1 : Int32) (l2 : Int32)  (sz : Nat) (hst : l.stackTraces = false) (h0 : ¬ l1 < 0) (h1 : ¬ l1 < (8 : Int32)) : vx_Met l yX11_byteIn (Cond.code yX11_byteIn cX11_byteIn 3 (some .int) :: fb_all) ({ frames := 6, cells := 1, slots := 6, locals := 82 } : Room) (fb_PP D (fb_ty D cI cJ) [.ref zb, .int l1, .int l2] (([fb_o11 zb zr0 zr1 zr2 zr3 zr4 zr5 zr6 zr7 zr8 zr9] : List va_W).flatten) sz) fb_QX (fb_XC "java/lang/IndexOutOfBoundsException" (va_A (([fb_o11 zb zr0 zr1 zr2 zr3 zr4 zr5 zr6 zr7 zr8 zr9] : List va_W).flatten) sz)) 1 6 (va_A (([fb_o11 zb zr0 zr1 zr2 zr3 zr4 zr5 zr6 zr7 zr8 zr9] : List va_W).flatten) sz) := by
  refine fb_entT (by decide +kernel) (Nat.le_of_ble_eq_true rfl) ?_
  intro p e s m args below meth c A ls X I hl hex
  obtain ⟨hx, hb, hr, hml, hown, hts, hlk, hA, hK, hF⟩ := id X
  have hl : lv_has ls 3 [(0, .ref zb), (1, .int l1), (2, .int l2)] := hl
  refine lv_iload_n hx hb dX11_byteIn_0 rfl (lv_at hl 1 rfl) ?_
  refine lv_if_lt (tgt := 10) hx hb dX11_byteIn_1 (by decide) (fun c1 => absurd c1 h0) (fun _ => ?_)
  refine lv_iload_n hx hb dX11_byteIn_4 rfl (lv_at hl 1 rfl) ?_
  refine lv_bipush (v := (8 : Int32)) hx hb dX11_byteIn_5 (by decide) ?_
  refine lv_icmp_lt (tgt := 21) hx hb dX11_byteIn_7 (by decide) (fun c2 => absurd c2 h1) (fun _ => ?_)
  exact fb_throwB (is := 343) (text := "no such bank") X I hl hex hst (List.mem_of_getElem? (i := 11) rfl) dX11_byteIn_10 dX11_byteIn_13 (Or.inr ⟨dX11_byteIn_14, dX11_byteIn_17, dX11_byteIn_20⟩) (Nat.le_of_ble_eq_true rfl) (Nat.le_of_ble_eq_true rfl) (Nat.le_of_ble_eq_true rfl) (Nat.le_of_ble_eq_true rfl) (Nat.le_of_ble_eq_true rfl) (Nat.le_of_ble_eq_true rfl)

set_option maxHeartbeats 4000000 in
set_option maxRecDepth 100000 in
theorem x_byteIn_c (l : Launch) (D : va_G) (cI cJ : ClassId) (zb : Nat) (zr0 : Nat) (zr1 : Nat) (zr2 : Nat) (zr3 : Nat) (zr4 : Nat) (zr5 : Nat) (zr6 : Nat) (zr7 : Nat) (zr8 : Nat) (zr9 : Nat) (l1 : Int32) (l2 : Int32)  (sz : Nat) (hst : l.stackTraces = false) (h0 : ¬ l1 < 0) (h1 : l1 < (8 : Int32)) (v0 : l2 < 0) : vx_Met l yX11_byteIn (Cond.code yX11_byteIn cX11_byteIn 3 (some .int) :: fb_all) ({ frames := 6, cells := 1, slots := 6, locals := 82 } : Room) (fb_PP D (fb_ty D cI cJ) [.ref zb, .int l1, .int l2] (([fb_o11 zb zr0 zr1 zr2 zr3 zr4 zr5 zr6 zr7 zr8 zr9] : List va_W).flatten) sz) fb_QX (fb_XC "java/lang/IllegalArgumentException" (va_A (([fb_o11 zb zr0 zr1 zr2 zr3 zr4 zr5 zr6 zr7 zr8 zr9] : List va_W).flatten) sz)) 1 6 (va_A (([fb_o11 zb zr0 zr1 zr2 zr3 zr4 zr5 zr6 zr7 zr8 zr9] : List va_W).flatten) sz) := by
  refine fb_entT (by decide +kernel) (Nat.le_of_ble_eq_true rfl) ?_
  intro p e s m args below meth c A ls X I hl hex
  obtain ⟨hx, hb, hr, hml, hown, hts, hlk, hA, hK, hF⟩ := id X
  have hl : lv_has ls 3 [(0, .ref zb), (1, .int l1), (2, .int l2)] := hl
  refine lv_iload_n hx hb dX11_byteIn_0 rfl (lv_at hl 1 rfl) ?_
  refine lv_if_lt (tgt := 10) hx hb dX11_byteIn_1 (by decide) (fun c1 => absurd c1 h0) (fun _ => ?_)
  refine lv_iload_n hx hb dX11_byteIn_4 rfl (lv_at hl 1 rfl) ?_
  refine lv_bipush (v := (8 : Int32)) hx hb dX11_byteIn_5 (by decide) ?_
  refine lv_icmp_lt (tgt := 21) hx hb dX11_byteIn_7 (by decide) (fun _ => ?_) (fun c2 => absurd h1 c2)
  refine lv_iload_n hx hb dX11_byteIn_21 rfl (lv_at hl 2 rfl) ?_
  refine lv_if_lt (tgt := 32) hx hb dX11_byteIn_22 (by decide) (fun _ => ?_) (fun c3 => absurd v0 c3)
  exact fb_throwA (is := 345) (text := "no such place") X I hl hex hst (List.mem_of_getElem? (i := 12) rfl) dX11_byteIn_32 dX11_byteIn_35 (Or.inr ⟨dX11_byteIn_36, dX11_byteIn_39, dX11_byteIn_42⟩) (Nat.le_of_ble_eq_true rfl) (Nat.le_of_ble_eq_true rfl) (Nat.le_of_ble_eq_true rfl) (Nat.le_of_ble_eq_true rfl) (Nat.le_of_ble_eq_true rfl) (Nat.le_of_ble_eq_true rfl)

set_option maxHeartbeats 4000000 in
set_option maxRecDepth 100000 in
theorem x_byteIn_d (l : Launch) (D : va_G) (cI cJ : ClassId) (zb : Nat) (zr0 : Nat) (zr1 : Nat) (zr2 : Nat) (zr3 : Nat) (zr4 : Nat) (zr5 : Nat) (zr6 : Nat) (zr7 : Nat) (zr8 : Nat) (zr9 : Nat) (l1 : Int32) (l2 : Int32)  (sz : Nat) (hst : l.stackTraces = false) (h0 : ¬ l1 < 0) (h1 : l1 < (8 : Int32)) (v0 : ¬ l2 < 0) (v1 : ¬ l2 < (1024 : Int32)) : vx_Met l yX11_byteIn (Cond.code yX11_byteIn cX11_byteIn 3 (some .int) :: fb_all) ({ frames := 6, cells := 1, slots := 6, locals := 82 } : Room) (fb_PP D (fb_ty D cI cJ) [.ref zb, .int l1, .int l2] (([fb_o11 zb zr0 zr1 zr2 zr3 zr4 zr5 zr6 zr7 zr8 zr9] : List va_W).flatten) sz) fb_QX (fb_XC "java/lang/IllegalArgumentException" (va_A (([fb_o11 zb zr0 zr1 zr2 zr3 zr4 zr5 zr6 zr7 zr8 zr9] : List va_W).flatten) sz)) 1 6 (va_A (([fb_o11 zb zr0 zr1 zr2 zr3 zr4 zr5 zr6 zr7 zr8 zr9] : List va_W).flatten) sz) := by
  refine fb_entT (by decide +kernel) (Nat.le_of_ble_eq_true rfl) ?_
  intro p e s m args below meth c A ls X I hl hex
  obtain ⟨hx, hb, hr, hml, hown, hts, hlk, hA, hK, hF⟩ := id X
  have hl : lv_has ls 3 [(0, .ref zb), (1, .int l1), (2, .int l2)] := hl
  refine lv_iload_n hx hb dX11_byteIn_0 rfl (lv_at hl 1 rfl) ?_
  refine lv_if_lt (tgt := 10) hx hb dX11_byteIn_1 (by decide) (fun c1 => absurd c1 h0) (fun _ => ?_)
  refine lv_iload_n hx hb dX11_byteIn_4 rfl (lv_at hl 1 rfl) ?_
  refine lv_bipush (v := (8 : Int32)) hx hb dX11_byteIn_5 (by decide) ?_
  refine lv_icmp_lt (tgt := 21) hx hb dX11_byteIn_7 (by decide) (fun _ => ?_) (fun c2 => absurd h1 c2)
  refine lv_iload_n hx hb dX11_byteIn_21 rfl (lv_at hl 2 rfl) ?_
  refine lv_if_lt (tgt := 32) hx hb dX11_byteIn_22 (by decide) (fun c3 => absurd c3 v0) (fun _ => ?_)
  refine lv_iload_n hx hb dX11_byteIn_25 rfl (lv_at hl 2 rfl) ?_
  refine lv_sipush (v := (1024 : Int32)) hx hb dX11_byteIn_26 (by decide) ?_
  refine lv_icmp_lt (tgt := 43) hx hb dX11_byteIn_29 (by decide) (fun c4 => absurd c4 v1) (fun _ => ?_)
  exact fb_throwA (is := 345) (text := "no such place") X I hl hex hst (List.mem_of_getElem? (i := 12) rfl) dX11_byteIn_32 dX11_byteIn_35 (Or.inr ⟨dX11_byteIn_36, dX11_byteIn_39, dX11_byteIn_42⟩) (Nat.le_of_ble_eq_true rfl) (Nat.le_of_ble_eq_true rfl) (Nat.le_of_ble_eq_true rfl) (Nat.le_of_ble_eq_true rfl) (Nat.le_of_ble_eq_true rfl) (Nat.le_of_ble_eq_true rfl)

set_option maxHeartbeats 4000000 in
set_option maxRecDepth 100000 in
theorem x_outputAt_a (l : Launch) (D : va_G) (cI cJ : ClassId) (zb : Nat) (zr0 : Nat) (zr1 : Nat) (zr2 : Nat) (zr3 : Nat) (zr4 : Nat) (zr5 : Nat) (zr6 : Nat) (zr7 : Nat) (zr8 : Nat) (zr9 : Nat) (l1 : Int32)  (sz : Nat) (hst : l.stackTraces = false) (h0 : l1 < 0) : vx_Met l yX11_outputAt (Cond.code yX11_outputAt cX11_outputAt 2 (some .int) :: fb_all) ({ frames := 6, cells := 1, slots := 6, locals := 82 } : Room) (fb_PP D (fb_ty D cI cJ) [.ref zb, .int l1] (([fb_o11 zb zr0 zr1 zr2 zr3 zr4 zr5 zr6 zr7 zr8 zr9] : List va_W).flatten) sz) fb_QX (fb_XC "java/lang/IndexOutOfBoundsException" (va_A (([fb_o11 zb zr0 zr1 zr2 zr3 zr4 zr5 zr6 zr7 zr8 zr9] : List va_W).flatten) sz)) 1 6 (va_A (([fb_o11 zb zr0 zr1 zr2 zr3 zr4 zr5 zr6 zr7 zr8 zr9] : List va_W).flatten) sz) := by
  refine fb_entT (by decide +kernel) (Nat.le_of_ble_eq_true rfl) ?_
  intro p e s m args below meth c A ls X I hl hex
  obtain ⟨hx, hb, hr, hml, hown, hts, hlk, hA, hK, hF⟩ := id X
  have hl : lv_has ls 2 [(0, .ref zb), (1, .int l1)] := hl
  refine lv_iload_n hx hb dX11_outputAt_0 rfl (lv_at hl 1 rfl) ?_
  refine lv_if_lt (tgt := 18) hx hb dX11_outputAt_1 (by decide) (fun _ => ?_) (fun c1 => absurd h0 c1)
  exact fb_throwB (is := 359) (text := "no such output") X I hl hex hst (List.mem_of_getElem? (i := 13) rfl) dX11_outputAt_18 dX11_outputAt_21 (Or.inr ⟨dX11_outputAt_22, dX11_outputAt_25, dX11_outputAt_28⟩) (Nat.le_of_ble_eq_true rfl) (Nat.le_of_ble_eq_true rfl) (Nat.le_of_ble_eq_true rfl) (Nat.le_of_ble_eq_true rfl) (Nat.le_of_ble_eq_true rfl) (Nat.le_of_ble_eq_true rfl)

set_option maxHeartbeats 4000000 in
set_option maxRecDepth 100000 in
theorem x_outputAt_b (l : Launch) (D : va_G) (cI cJ : ClassId) (zb : Nat) (zr0 : Nat) (zr1 : Nat) (zr2 : Nat) (zr3 : Nat) (zr4 : Nat) (zr6 : Nat) (zr7 : Nat) (zr8 : Nat) (zr9 : Nat) (l1 : Int32) (zq : Nat → Nat) (zw : fb_AR) (sz : Nat) (hst : l.stackTraces = false) (h0 : ¬ l1 < 0) : vx_Met l yX11_outputAt (Cond.code yX11_outputAt cX11_outputAt 2 (some .int) :: fb_all) ({ frames := 6, cells := 1, slots := 6, locals := 82 } : Room) (fb_PP D (fb_ty D cI cJ) [.ref zb, .int l1] (([fb_o11 zb zr0 zr1 zr2 zr3 zr4 (zq 0) zr6 zr7 zr8 zr9, fb_mw cI zq fb_s0 zw] : List va_W).flatten) sz) fb_QX (fb_XC "java/lang/IndexOutOfBoundsException" (va_A (([fb_o11 zb zr0 zr1 zr2 zr3 zr4 (zq 0) zr6 zr7 zr8 zr9, fb_mw cI zq fb_s0 zw] : List va_W).flatten) sz)) 1 6 (va_A (([fb_o11 zb zr0 zr1 zr2 zr3 zr4 (zq 0) zr6 zr7 zr8 zr9, fb_mw cI zq fb_s0 zw] : List va_W).flatten) sz) := by
  refine fb_entT (by decide +kernel) (Nat.le_of_ble_eq_true rfl) ?_
  intro p e s m args below meth c A ls X I hl hex
  obtain ⟨hx, hb, hr, hml, hown, hts, hlk, hA, hK, hF⟩ := id X
  have hl : lv_has ls 2 [(0, .ref zb), (1, .int l1)] := hl
  refine lv_iload_n hx hb dX11_outputAt_0 rfl (lv_at hl 1 rfl) ?_
  refine lv_if_lt (tgt := 18) hx hb dX11_outputAt_1 (by decide) (fun c1 => absurd c1 h0) (fun _ => ?_)
  refine lv_iload_n hx hb dX11_outputAt_4 rfl (lv_at hl 1 rfl) ?_
  refine lv_aload_n hx hb dX11_outputAt_5 rfl (lv_at hl 0 rfl) ?_
  refine fb_get X I (k := 5) (v := .ref (zq 0)) fu_X11 0 rfl rfl (Nat.le_of_ble_eq_true rfl) fw_692 rfl rfl dX11_outputAt_6 ?_
  refine fb_get X I (k := 4) (v := .ref (zq 5)) fu_X2 1 rfl rfl (Nat.le_of_ble_eq_true rfl) fw_523 rfl rfl dX11_outputAt_9 ?_
  refine fb_roI X I (fb_runV (As := []) (rest := [.int l1]) (q0 := 6) X I hl (c_X5_outputsKept l D cI cJ zq (fb_s0).2.2.2.2.2 _) (fb_goodV fw_1847 fw_1575 fw_1576 fw_199 fw_1577) rfl rfl rfl (by decide +kernel : fb_hd yX5_outputsKept 0) ⟨Nat.le_of_ble_eq_true rfl, Nat.le_of_ble_eq_true rfl⟩ [6, 7, 8] (by decide) rfl rfl rfl rfl rfl rfl (Nat.le_of_ble_eq_true rfl) ⟨Nat.zero_le _, Nat.zero_le _⟩ dX11_outputAt_12) ?_
  refine fb_tI (v := (0 : Int32)) ok_out0 ?_
  refine lv_icmp_lt (tgt := 29) hx hb dX11_outputAt_15 (by decide) (fun c2 => absurd c2 h0) (fun _ => ?_)
  exact fb_throwB (is := 359) (text := "no such output") X I hl hex hst (List.mem_of_getElem? (i := 13) rfl) dX11_outputAt_18 dX11_outputAt_21 (Or.inr ⟨dX11_outputAt_22, dX11_outputAt_25, dX11_outputAt_28⟩) (Nat.le_of_ble_eq_true rfl) (Nat.le_of_ble_eq_true rfl) (Nat.le_of_ble_eq_true rfl) (Nat.le_of_ble_eq_true rfl) (Nat.le_of_ble_eq_true rfl) (Nat.le_of_ble_eq_true rfl)

set_option maxHeartbeats 4000000 in
set_option maxRecDepth 100000 in
theorem x_callAt_a (l : Launch) (D : va_G) (cI cJ : ClassId) (zb : Nat) (zr0 : Nat) (zr1 : Nat) (zr2 : Nat) (zr3 : Nat) (zr4 : Nat) (zr5 : Nat) (zr6 : Nat) (zr7 : Nat) (zr8 : Nat) (zr9 : Nat) (l1 : Int32)  (sz : Nat) (hst : l.stackTraces = false) (h0 : l1 < 0) : vx_Met l yX11_callAt (Cond.code yX11_callAt cX11_callAt 2 (some .int) :: fb_all) ({ frames := 6, cells := 1, slots := 6, locals := 82 } : Room) (fb_PP D (fb_ty D cI cJ) [.ref zb, .int l1] (([fb_o11 zb zr0 zr1 zr2 zr3 zr4 zr5 zr6 zr7 zr8 zr9] : List va_W).flatten) sz) fb_QX (fb_XC "java/lang/IndexOutOfBoundsException" (va_A (([fb_o11 zb zr0 zr1 zr2 zr3 zr4 zr5 zr6 zr7 zr8 zr9] : List va_W).flatten) sz)) 1 6 (va_A (([fb_o11 zb zr0 zr1 zr2 zr3 zr4 zr5 zr6 zr7 zr8 zr9] : List va_W).flatten) sz) := by
  refine fb_entT (by decide +kernel) (Nat.le_of_ble_eq_true rfl) ?_
  intro p e s m args below meth c A ls X I hl hex
  obtain ⟨hx, hb, hr, hml, hown, hts, hlk, hA, hK, hF⟩ := id X
  have hl : lv_has ls 2 [(0, .ref zb), (1, .int l1)] := hl
  refine lv_iload_n hx hb dX11_callAt_0 rfl (lv_at hl 1 rfl) ?_
  refine lv_if_lt (tgt := 15) hx hb dX11_callAt_1 (by decide) (fun _ => ?_) (fun c1 => absurd h0 c1)
  exact fb_throwB (is := 364) (text := "no such call") X I hl hex hst (List.mem_of_getElem? (i := 14) rfl) dX11_callAt_15 dX11_callAt_18 (Or.inr ⟨dX11_callAt_19, dX11_callAt_22, dX11_callAt_25⟩) (Nat.le_of_ble_eq_true rfl) (Nat.le_of_ble_eq_true rfl) (Nat.le_of_ble_eq_true rfl) (Nat.le_of_ble_eq_true rfl) (Nat.le_of_ble_eq_true rfl) (Nat.le_of_ble_eq_true rfl)

set_option maxHeartbeats 4000000 in
set_option maxRecDepth 100000 in
theorem x_callAt_b (l : Launch) (D : va_G) (cI cJ : ClassId) (zb : Nat) (zr0 : Nat) (zr1 : Nat) (zr2 : Nat) (zr3 : Nat) (zr4 : Nat) (zr6 : Nat) (zr7 : Nat) (zr8 : Nat) (zr9 : Nat) (l1 : Int32) (zq : Nat → Nat) (zw : fb_AR) (sz : Nat) (hst : l.stackTraces = false) (h0 : ¬ l1 < 0) : vx_Met l yX11_callAt (Cond.code yX11_callAt cX11_callAt 2 (some .int) :: fb_all) ({ frames := 6, cells := 1, slots := 6, locals := 82 } : Room) (fb_PP D (fb_ty D cI cJ) [.ref zb, .int l1] (([fb_o11 zb zr0 zr1 zr2 zr3 zr4 (zq 0) zr6 zr7 zr8 zr9, fb_mw cI zq fb_s0 zw] : List va_W).flatten) sz) fb_QX (fb_XC "java/lang/IndexOutOfBoundsException" (va_A (([fb_o11 zb zr0 zr1 zr2 zr3 zr4 (zq 0) zr6 zr7 zr8 zr9, fb_mw cI zq fb_s0 zw] : List va_W).flatten) sz)) 1 6 (va_A (([fb_o11 zb zr0 zr1 zr2 zr3 zr4 (zq 0) zr6 zr7 zr8 zr9, fb_mw cI zq fb_s0 zw] : List va_W).flatten) sz) := by
  refine fb_entT (by decide +kernel) (Nat.le_of_ble_eq_true rfl) ?_
  intro p e s m args below meth c A ls X I hl hex
  obtain ⟨hx, hb, hr, hml, hown, hts, hlk, hA, hK, hF⟩ := id X
  have hl : lv_has ls 2 [(0, .ref zb), (1, .int l1)] := hl
  refine lv_iload_n hx hb dX11_callAt_0 rfl (lv_at hl 1 rfl) ?_
  refine lv_if_lt (tgt := 15) hx hb dX11_callAt_1 (by decide) (fun c1 => absurd c1 h0) (fun _ => ?_)
  refine lv_iload_n hx hb dX11_callAt_4 rfl (lv_at hl 1 rfl) ?_
  refine lv_aload_n hx hb dX11_callAt_5 rfl (lv_at hl 0 rfl) ?_
  refine fb_get X I (k := 5) (v := .ref (zq 0)) fu_X11 0 rfl rfl (Nat.le_of_ble_eq_true rfl) fw_692 rfl rfl dX11_callAt_6 ?_
  refine fb_get X I (k := 13) (v := .int ((fb_s0).1 13)) fu_X2 1 rfl rfl (Nat.le_of_ble_eq_true rfl) fw_542 rfl rfl dX11_callAt_9 ?_
  refine lv_icmp_lt (tgt := 26) hx hb dX11_callAt_12 (by decide) (fun c2 => absurd c2 h0) (fun _ => ?_)
  exact fb_throwB (is := 364) (text := "no such call") X I hl hex hst (List.mem_of_getElem? (i := 14) rfl) dX11_callAt_15 dX11_callAt_18 (Or.inr ⟨dX11_callAt_19, dX11_callAt_22, dX11_callAt_25⟩) (Nat.le_of_ble_eq_true rfl) (Nat.le_of_ble_eq_true rfl) (Nat.le_of_ble_eq_true rfl) (Nat.le_of_ble_eq_true rfl) (Nat.le_of_ble_eq_true rfl) (Nat.le_of_ble_eq_true rfl)

