/-! X11_a -/
def f_X11_a (zs : fb_MS) : Int32 := ((zs).1 5)
set_option maxHeartbeats 4000000 in
set_option maxRecDepth 100000 in
theorem b_X11_a_0 {p : Program} {l : Launch} {e : Env} {s : State} {m : MethodId} {args : Array Value} {below : List Frame} {meth : Method} {c : Code} {D : va_G} {cI cJ : ClassId} {A : Nat → Prop} {zb : Nat} {zr0 : Nat} {zr1 : Nat} {zr2 : Nat} {zr3 : Nat} {zr4 : Nat} {zr6 : Nat} {zr7 : Nat} {zr8 : Nat} {zr9 : Nat} {zq : Nat → Nat} {z : Int32} (X : fb_Bx p s m args meth c cX11_a RX11 1 (some .int) D (fb_ty D cI cJ) A) {zs : fb_MS} {zw : fb_AR} {ls : Array Slot}  (I : fb_In D A s.heap ((fb_o11 zb zr0 zr1 zr2 zr3 zr4 (zq 0) zr6 zr7 zr8 zr9) ++ (fb_mw cI zq zs zw)) s.heap []) (hl : lv_has ls 1 [(0, .ref zb)]) (E : z = f_X11_a zs) : W p l e ({ frames := 0, cells := 0, slots := 0, locals := 0 } : Room) s m args below meth c s.heap [] 0 0 (MQ below (vp_Si (fun r => r = z)) args s 0 0 (fun _ => False)) (F0 m 0 ls []) := by
  obtain ⟨hx, hb, hr, hml, hown, hts, hlk, hA, hK, hF⟩ := id X
  refine lv_aload_n hx hb dX11_a_0 rfl (lv_at hl 0 rfl) ?_
  refine fb_get X I (k := 5) fu_X11 0 rfl rfl (Nat.le_of_ble_eq_true rfl) fw_692 rfl rfl dX11_a_1 ?_
  refine fb_get X I (k := 5) fu_X2 1 rfl rfl (Nat.le_of_ble_eq_true rfl) fw_525 rfl rfl dX11_a_4 ?_
  exact fb_retRI X E rfl dX11_a_7
set_option maxHeartbeats 4000000 in
set_option maxRecDepth 100000 in
theorem c_X11_a (l : Launch) (D : va_G) (cI cJ : ClassId) (zb : Nat) (zr0 : Nat) (zr1 : Nat) (zr2 : Nat) (zr3 : Nat) (zr4 : Nat) (zr6 : Nat) (zr7 : Nat) (zr8 : Nat) (zr9 : Nat) (zq : Nat → Nat) (zs : fb_MS) (zw : fb_AR)  (sz : Nat)  : Met l yX11_a (Cond.code yX11_a cX11_a 1 (some .int) :: fb_all) ({ frames := 0, cells := 0, slots := 0, locals := 0 } : Room) (fb_PP D (fb_ty D cI cJ) [.ref zb] ((fb_o11 zb zr0 zr1 zr2 zr3 zr4 (zq 0) zr6 zr7 zr8 zr9) ++ (fb_mw cI zq zs zw)) sz) (vp_Si (fun r => r = ((f_X11_a zs)))) 0 0 (fun _ => False) := by
  refine fb_entR (by decide +kernel) (Nat.le_of_ble_eq_true rfl) ?_
  intro p e s m args below meth c A ls X I hl hin
  exact b_X11_a_0 X  I hl rfl
/-! X11_x -/
def f_X11_x (zs : fb_MS) : Int32 := ((zs).1 6)
set_option maxHeartbeats 4000000 in
set_option maxRecDepth 100000 in
theorem b_X11_x_0 {p : Program} {l : Launch} {e : Env} {s : State} {m : MethodId} {args : Array Value} {below : List Frame} {meth : Method} {c : Code} {D : va_G} {cI cJ : ClassId} {A : Nat → Prop} {zb : Nat} {zr0 : Nat} {zr1 : Nat} {zr2 : Nat} {zr3 : Nat} {zr4 : Nat} {zr6 : Nat} {zr7 : Nat} {zr8 : Nat} {zr9 : Nat} {zq : Nat → Nat} {z : Int32} (X : fb_Bx p s m args meth c cX11_x RX11 1 (some .int) D (fb_ty D cI cJ) A) {zs : fb_MS} {zw : fb_AR} {ls : Array Slot}  (I : fb_In D A s.heap ((fb_o11 zb zr0 zr1 zr2 zr3 zr4 (zq 0) zr6 zr7 zr8 zr9) ++ (fb_mw cI zq zs zw)) s.heap []) (hl : lv_has ls 1 [(0, .ref zb)]) (E : z = f_X11_x zs) : W p l e ({ frames := 0, cells := 0, slots := 0, locals := 0 } : Room) s m args below meth c s.heap [] 0 0 (MQ below (vp_Si (fun r => r = z)) args s 0 0 (fun _ => False)) (F0 m 0 ls []) := by
  obtain ⟨hx, hb, hr, hml, hown, hts, hlk, hA, hK, hF⟩ := id X
  refine lv_aload_n hx hb dX11_x_0 rfl (lv_at hl 0 rfl) ?_
  refine fb_get X I (k := 5) fu_X11 0 rfl rfl (Nat.le_of_ble_eq_true rfl) fw_692 rfl rfl dX11_x_1 ?_
  refine fb_get X I (k := 6) fu_X2 1 rfl rfl (Nat.le_of_ble_eq_true rfl) fw_527 rfl rfl dX11_x_4 ?_
  exact fb_retRI X E rfl dX11_x_7
set_option maxHeartbeats 4000000 in
set_option maxRecDepth 100000 in
theorem c_X11_x (l : Launch) (D : va_G) (cI cJ : ClassId) (zb : Nat) (zr0 : Nat) (zr1 : Nat) (zr2 : Nat) (zr3 : Nat) (zr4 : Nat) (zr6 : Nat) (zr7 : Nat) (zr8 : Nat) (zr9 : Nat) (zq : Nat → Nat) (zs : fb_MS) (zw : fb_AR)  (sz : Nat)  : Met l yX11_x (Cond.code yX11_x cX11_x 1 (some .int) :: fb_all) ({ frames := 0, cells := 0, slots := 0, locals := 0 } : Room) (fb_PP D (fb_ty D cI cJ) [.ref zb] ((fb_o11 zb zr0 zr1 zr2 zr3 zr4 (zq 0) zr6 zr7 zr8 zr9) ++ (fb_mw cI zq zs zw)) sz) (vp_Si (fun r => r = ((f_X11_x zs)))) 0 0 (fun _ => False) := by
  refine fb_entR (by decide +kernel) (Nat.le_of_ble_eq_true rfl) ?_
  intro p e s m args below meth c A ls X I hl hin
  exact b_X11_x_0 X  I hl rfl
/-! X11_s -/
def f_X11_s (zs : fb_MS) : Int32 := ((zs).1 7)
set_option maxHeartbeats 4000000 in
set_option maxRecDepth 100000 in
theorem b_X11_s_0 {p : Program} {l : Launch} {e : Env} {s : State} {m : MethodId} {args : Array Value} {below : List Frame} {meth : Method} {c : Code} {D : va_G} {cI cJ : ClassId} {A : Nat → Prop} {zb : Nat} {zr0 : Nat} {zr1 : Nat} {zr2 : Nat} {zr3 : Nat} {zr4 : Nat} {zr6 : Nat} {zr7 : Nat} {zr8 : Nat} {zr9 : Nat} {zq : Nat → Nat} {z : Int32} (X : fb_Bx p s m args meth c cX11_s RX11 1 (some .int) D (fb_ty D cI cJ) A) {zs : fb_MS} {zw : fb_AR} {ls : Array Slot}  (I : fb_In D A s.heap ((fb_o11 zb zr0 zr1 zr2 zr3 zr4 (zq 0) zr6 zr7 zr8 zr9) ++ (fb_mw cI zq zs zw)) s.heap []) (hl : lv_has ls 1 [(0, .ref zb)]) (E : z = f_X11_s zs) : W p l e ({ frames := 0, cells := 0, slots := 0, locals := 0 } : Room) s m args below meth c s.heap [] 0 0 (MQ below (vp_Si (fun r => r = z)) args s 0 0 (fun _ => False)) (F0 m 0 ls []) := by
  obtain ⟨hx, hb, hr, hml, hown, hts, hlk, hA, hK, hF⟩ := id X
  refine lv_aload_n hx hb dX11_s_0 rfl (lv_at hl 0 rfl) ?_
  refine fb_get X I (k := 5) fu_X11 0 rfl rfl (Nat.le_of_ble_eq_true rfl) fw_692 rfl rfl dX11_s_1 ?_
  refine fb_get X I (k := 7) fu_X2 1 rfl rfl (Nat.le_of_ble_eq_true rfl) fw_529 rfl rfl dX11_s_4 ?_
  exact fb_retRI X E rfl dX11_s_7
set_option maxHeartbeats 4000000 in
set_option maxRecDepth 100000 in
theorem c_X11_s (l : Launch) (D : va_G) (cI cJ : ClassId) (zb : Nat) (zr0 : Nat) (zr1 : Nat) (zr2 : Nat) (zr3 : Nat) (zr4 : Nat) (zr6 : Nat) (zr7 : Nat) (zr8 : Nat) (zr9 : Nat) (zq : Nat → Nat) (zs : fb_MS) (zw : fb_AR)  (sz : Nat)  : Met l yX11_s (Cond.code yX11_s cX11_s 1 (some .int) :: fb_all) ({ frames := 0, cells := 0, slots := 0, locals := 0 } : Room) (fb_PP D (fb_ty D cI cJ) [.ref zb] ((fb_o11 zb zr0 zr1 zr2 zr3 zr4 (zq 0) zr6 zr7 zr8 zr9) ++ (fb_mw cI zq zs zw)) sz) (vp_Si (fun r => r = ((f_X11_s zs)))) 0 0 (fun _ => False) := by
  refine fb_entR (by decide +kernel) (Nat.le_of_ble_eq_true rfl) ?_
  intro p e s m args below meth c A ls X I hl hin
  exact b_X11_s_0 X  I hl rfl
/-! X11_flags -/
def f_X11_flags (zs : fb_MS) : Int32 := ((zs).1 8)
set_option maxHeartbeats 4000000 in
set_option maxRecDepth 100000 in
theorem b_X11_flags_0 {p : Program} {l : Launch} {e : Env} {s : State} {m : MethodId} {args : Array Value} {below : List Frame} {meth : Method} {c : Code} {D : va_G} {cI cJ : ClassId} {A : Nat → Prop} {zb : Nat} {zr0 : Nat} {zr1 : Nat} {zr2 : Nat} {zr3 : Nat} {zr4 : Nat} {zr6 : Nat} {zr7 : Nat} {zr8 : Nat} {zr9 : Nat} {zq : Nat → Nat} {z : Int32} (X : fb_Bx p s m args meth c cX11_flags RX11 1 (some .int) D (fb_ty D cI cJ) A) {zs : fb_MS} {zw : fb_AR} {ls : Array Slot}  (I : fb_In D A s.heap ((fb_o11 zb zr0 zr1 zr2 zr3 zr4 (zq 0) zr6 zr7 zr8 zr9) ++ (fb_mw cI zq zs zw)) s.heap []) (hl : lv_has ls 1 [(0, .ref zb)]) (E : z = f_X11_flags zs) : W p l e ({ frames := 0, cells := 0, slots := 0, locals := 0 } : Room) s m args below meth c s.heap [] 0 0 (MQ below (vp_Si (fun r => r = z)) args s 0 0 (fun _ => False)) (F0 m 0 ls []) := by
  obtain ⟨hx, hb, hr, hml, hown, hts, hlk, hA, hK, hF⟩ := id X
  refine lv_aload_n hx hb dX11_flags_0 rfl (lv_at hl 0 rfl) ?_
  refine fb_get X I (k := 5) fu_X11 0 rfl rfl (Nat.le_of_ble_eq_true rfl) fw_692 rfl rfl dX11_flags_1 ?_
  refine fb_get X I (k := 8) fu_X2 1 rfl rfl (Nat.le_of_ble_eq_true rfl) fw_531 rfl rfl dX11_flags_4 ?_
  exact fb_retRI X E rfl dX11_flags_7
set_option maxHeartbeats 4000000 in
set_option maxRecDepth 100000 in
theorem c_X11_flags (l : Launch) (D : va_G) (cI cJ : ClassId) (zb : Nat) (zr0 : Nat) (zr1 : Nat) (zr2 : Nat) (zr3 : Nat) (zr4 : Nat) (zr6 : Nat) (zr7 : Nat) (zr8 : Nat) (zr9 : Nat) (zq : Nat → Nat) (zs : fb_MS) (zw : fb_AR)  (sz : Nat)  : Met l yX11_flags (Cond.code yX11_flags cX11_flags 1 (some .int) :: fb_all) ({ frames := 0, cells := 0, slots := 0, locals := 0 } : Room) (fb_PP D (fb_ty D cI cJ) [.ref zb] ((fb_o11 zb zr0 zr1 zr2 zr3 zr4 (zq 0) zr6 zr7 zr8 zr9) ++ (fb_mw cI zq zs zw)) sz) (vp_Si (fun r => r = ((f_X11_flags zs)))) 0 0 (fun _ => False) := by
  refine fb_entR (by decide +kernel) (Nat.le_of_ble_eq_true rfl) ?_
  intro p e s m args below meth c A ls X I hl hin
  exact b_X11_flags_0 X  I hl rfl
/-! X11_pc -/
def f_X11_pc (zs : fb_MS) : Int32 := ((zs).1 9)
set_option maxHeartbeats 4000000 in
set_option maxRecDepth 100000 in
theorem b_X11_pc_0 {p : Program} {l : Launch} {e : Env} {s : State} {m : MethodId} {args : Array Value} {below : List Frame} {meth : Method} {c : Code} {D : va_G} {cI cJ : ClassId} {A : Nat → Prop} {zb : Nat} {zr0 : Nat} {zr1 : Nat} {zr2 : Nat} {zr3 : Nat} {zr4 : Nat} {zr6 : Nat} {zr7 : Nat} {zr8 : Nat} {zr9 : Nat} {zq : Nat → Nat} {z : Int32} (X : fb_Bx p s m args meth c cX11_pc RX11 1 (some .int) D (fb_ty D cI cJ) A) {zs : fb_MS} {zw : fb_AR} {ls : Array Slot}  (I : fb_In D A s.heap ((fb_o11 zb zr0 zr1 zr2 zr3 zr4 (zq 0) zr6 zr7 zr8 zr9) ++ (fb_mw cI zq zs zw)) s.heap []) (hl : lv_has ls 1 [(0, .ref zb)]) (E : z = f_X11_pc zs) : W p l e ({ frames := 0, cells := 0, slots := 0, locals := 0 } : Room) s m args below meth c s.heap [] 0 0 (MQ below (vp_Si (fun r => r = z)) args s 0 0 (fun _ => False)) (F0 m 0 ls []) := by
  obtain ⟨hx, hb, hr, hml, hown, hts, hlk, hA, hK, hF⟩ := id X
  refine lv_aload_n hx hb dX11_pc_0 rfl (lv_at hl 0 rfl) ?_
  refine fb_get X I (k := 5) fu_X11 0 rfl rfl (Nat.le_of_ble_eq_true rfl) fw_692 rfl rfl dX11_pc_1 ?_
  refine fb_get X I (k := 9) fu_X2 1 rfl rfl (Nat.le_of_ble_eq_true rfl) fw_534 rfl rfl dX11_pc_4 ?_
  exact fb_retRI X E rfl dX11_pc_7
set_option maxHeartbeats 4000000 in
set_option maxRecDepth 100000 in
theorem c_X11_pc (l : Launch) (D : va_G) (cI cJ : ClassId) (zb : Nat) (zr0 : Nat) (zr1 : Nat) (zr2 : Nat) (zr3 : Nat) (zr4 : Nat) (zr6 : Nat) (zr7 : Nat) (zr8 : Nat) (zr9 : Nat) (zq : Nat → Nat) (zs : fb_MS) (zw : fb_AR)  (sz : Nat)  : Met l yX11_pc (Cond.code yX11_pc cX11_pc 1 (some .int) :: fb_all) ({ frames := 0, cells := 0, slots := 0, locals := 0 } : Room) (fb_PP D (fb_ty D cI cJ) [.ref zb] ((fb_o11 zb zr0 zr1 zr2 zr3 zr4 (zq 0) zr6 zr7 zr8 zr9) ++ (fb_mw cI zq zs zw)) sz) (vp_Si (fun r => r = ((f_X11_pc zs)))) 0 0 (fun _ => False) := by
  refine fb_entR (by decide +kernel) (Nat.le_of_ble_eq_true rfl) ?_
  intro p e s m args below meth c A ls X I hl hin
  exact b_X11_pc_0 X  I hl rfl
/-! X11_state -/
def f_X11_state (zs : fb_MS) : Int32 := ((zs).1 10)
set_option maxHeartbeats 4000000 in
set_option maxRecDepth 100000 in
theorem b_X11_state_0 {p : Program} {l : Launch} {e : Env} {s : State} {m : MethodId} {args : Array Value} {below : List Frame} {meth : Method} {c : Code} {D : va_G} {cI cJ : ClassId} {A : Nat → Prop} {zb : Nat} {zr0 : Nat} {zr1 : Nat} {zr2 : Nat} {zr3 : Nat} {zr4 : Nat} {zr6 : Nat} {zr7 : Nat} {zr8 : Nat} {zr9 : Nat} {zq : Nat → Nat} {z : Int32} (X : fb_Bx p s m args meth c cX11_state RX11 1 (some .int) D (fb_ty D cI cJ) A) {zs : fb_MS} {zw : fb_AR} {ls : Array Slot}  (I : fb_In D A s.heap ((fb_o11 zb zr0 zr1 zr2 zr3 zr4 (zq 0) zr6 zr7 zr8 zr9) ++ (fb_mw cI zq zs zw)) s.heap []) (hl : lv_has ls 1 [(0, .ref zb)]) (E : z = f_X11_state zs) : W p l e ({ frames := 0, cells := 0, slots := 0, locals := 0 } : Room) s m args below meth c s.heap [] 0 0 (MQ below (vp_Si (fun r => r = z)) args s 0 0 (fun _ => False)) (F0 m 0 ls []) := by
  obtain ⟨hx, hb, hr, hml, hown, hts, hlk, hA, hK, hF⟩ := id X
  refine lv_aload_n hx hb dX11_state_0 rfl (lv_at hl 0 rfl) ?_
  refine fb_get X I (k := 5) fu_X11 0 rfl rfl (Nat.le_of_ble_eq_true rfl) fw_692 rfl rfl dX11_state_1 ?_
  refine fb_get X I (k := 10) fu_X2 1 rfl rfl (Nat.le_of_ble_eq_true rfl) fw_536 rfl rfl dX11_state_4 ?_
  exact fb_retRI X E rfl dX11_state_7
set_option maxHeartbeats 4000000 in
set_option maxRecDepth 100000 in
theorem c_X11_state (l : Launch) (D : va_G) (cI cJ : ClassId) (zb : Nat) (zr0 : Nat) (zr1 : Nat) (zr2 : Nat) (zr3 : Nat) (zr4 : Nat) (zr6 : Nat) (zr7 : Nat) (zr8 : Nat) (zr9 : Nat) (zq : Nat → Nat) (zs : fb_MS) (zw : fb_AR)  (sz : Nat)  : Met l yX11_state (Cond.code yX11_state cX11_state 1 (some .int) :: fb_all) ({ frames := 0, cells := 0, slots := 0, locals := 0 } : Room) (fb_PP D (fb_ty D cI cJ) [.ref zb] ((fb_o11 zb zr0 zr1 zr2 zr3 zr4 (zq 0) zr6 zr7 zr8 zr9) ++ (fb_mw cI zq zs zw)) sz) (vp_Si (fun r => r = ((f_X11_state zs)))) 0 0 (fun _ => False) := by
  refine fb_entR (by decide +kernel) (Nat.le_of_ble_eq_true rfl) ?_
  intro p e s m args below meth c A ls X I hl hin
  exact b_X11_state_0 X  I hl rfl
/-! X11_cycles -/
def f_X11_cycles (zs : fb_MS) : Int32 := ((zs).1 11)
set_option maxHeartbeats 4000000 in
set_option maxRecDepth 100000 in
theorem b_X11_cycles_0 {p : Program} {l : Launch} {e : Env} {s : State} {m : MethodId} {args : Array Value} {below : List Frame} {meth : Method} {c : Code} {D : va_G} {cI cJ : ClassId} {A : Nat → Prop} {zb : Nat} {zr0 : Nat} {zr1 : Nat} {zr2 : Nat} {zr3 : Nat} {zr4 : Nat} {zr6 : Nat} {zr7 : Nat} {zr8 : Nat} {zr9 : Nat} {zq : Nat → Nat} {z : Int32} (X : fb_Bx p s m args meth c cX11_cycles RX11 1 (some .int) D (fb_ty D cI cJ) A) {zs : fb_MS} {zw : fb_AR} {ls : Array Slot}  (I : fb_In D A s.heap ((fb_o11 zb zr0 zr1 zr2 zr3 zr4 (zq 0) zr6 zr7 zr8 zr9) ++ (fb_mw cI zq zs zw)) s.heap []) (hl : lv_has ls 1 [(0, .ref zb)]) (E : z = f_X11_cycles zs) : W p l e ({ frames := 0, cells := 0, slots := 0, locals := 0 } : Room) s m args below meth c s.heap [] 0 0 (MQ below (vp_Si (fun r => r = z)) args s 0 0 (fun _ => False)) (F0 m 0 ls []) := by
  obtain ⟨hx, hb, hr, hml, hown, hts, hlk, hA, hK, hF⟩ := id X
  refine lv_aload_n hx hb dX11_cycles_0 rfl (lv_at hl 0 rfl) ?_
  refine fb_get X I (k := 5) fu_X11 0 rfl rfl (Nat.le_of_ble_eq_true rfl) fw_692 rfl rfl dX11_cycles_1 ?_
  refine fb_get X I (k := 11) fu_X2 1 rfl rfl (Nat.le_of_ble_eq_true rfl) fw_538 rfl rfl dX11_cycles_4 ?_
  exact fb_retRI X E rfl dX11_cycles_7
set_option maxHeartbeats 4000000 in
set_option maxRecDepth 100000 in
theorem c_X11_cycles (l : Launch) (D : va_G) (cI cJ : ClassId) (zb : Nat) (zr0 : Nat) (zr1 : Nat) (zr2 : Nat) (zr3 : Nat) (zr4 : Nat) (zr6 : Nat) (zr7 : Nat) (zr8 : Nat) (zr9 : Nat) (zq : Nat → Nat) (zs : fb_MS) (zw : fb_AR)  (sz : Nat)  : Met l yX11_cycles (Cond.code yX11_cycles cX11_cycles 1 (some .int) :: fb_all) ({ frames := 0, cells := 0, slots := 0, locals := 0 } : Room) (fb_PP D (fb_ty D cI cJ) [.ref zb] ((fb_o11 zb zr0 zr1 zr2 zr3 zr4 (zq 0) zr6 zr7 zr8 zr9) ++ (fb_mw cI zq zs zw)) sz) (vp_Si (fun r => r = ((f_X11_cycles zs)))) 0 0 (fun _ => False) := by
  refine fb_entR (by decide +kernel) (Nat.le_of_ble_eq_true rfl) ?_
  intro p e s m args below meth c A ls X I hl hin
  exact b_X11_cycles_0 X  I hl rfl
/-! X11_instructions -/
def f_X11_instructions (zs : fb_MS) : Int32 := ((zs).1 12)
set_option maxHeartbeats 4000000 in
set_option maxRecDepth 100000 in
theorem b_X11_instructions_0 {p : Program} {l : Launch} {e : Env} {s : State} {m : MethodId} {args : Array Value} {below : List Frame} {meth : Method} {c : Code} {D : va_G} {cI cJ : ClassId} {A : Nat → Prop} {zb : Nat} {zr0 : Nat} {zr1 : Nat} {zr2 : Nat} {zr3 : Nat} {zr4 : Nat} {zr6 : Nat} {zr7 : Nat} {zr8 : Nat} {zr9 : Nat} {zq : Nat → Nat} {z : Int32} (X : fb_Bx p s m args meth c cX11_instructions RX11 1 (some .int) D (fb_ty D cI cJ) A) {zs : fb_MS} {zw : fb_AR} {ls : Array Slot}  (I : fb_In D A s.heap ((fb_o11 zb zr0 zr1 zr2 zr3 zr4 (zq 0) zr6 zr7 zr8 zr9) ++ (fb_mw cI zq zs zw)) s.heap []) (hl : lv_has ls 1 [(0, .ref zb)]) (E : z = f_X11_instructions zs) : W p l e ({ frames := 0, cells := 0, slots := 0, locals := 0 } : Room) s m args below meth c s.heap [] 0 0 (MQ below (vp_Si (fun r => r = z)) args s 0 0 (fun _ => False)) (F0 m 0 ls []) := by
  obtain ⟨hx, hb, hr, hml, hown, hts, hlk, hA, hK, hF⟩ := id X
  refine lv_aload_n hx hb dX11_instructions_0 rfl (lv_at hl 0 rfl) ?_
  refine fb_get X I (k := 5) fu_X11 0 rfl rfl (Nat.le_of_ble_eq_true rfl) fw_692 rfl rfl dX11_instructions_1 ?_
  refine fb_get X I (k := 12) fu_X2 1 rfl rfl (Nat.le_of_ble_eq_true rfl) fw_540 rfl rfl dX11_instructions_4 ?_
  exact fb_retRI X E rfl dX11_instructions_7
set_option maxHeartbeats 4000000 in
set_option maxRecDepth 100000 in
theorem c_X11_instructions (l : Launch) (D : va_G) (cI cJ : ClassId) (zb : Nat) (zr0 : Nat) (zr1 : Nat) (zr2 : Nat) (zr3 : Nat) (zr4 : Nat) (zr6 : Nat) (zr7 : Nat) (zr8 : Nat) (zr9 : Nat) (zq : Nat → Nat) (zs : fb_MS) (zw : fb_AR)  (sz : Nat)  : Met l yX11_instructions (Cond.code yX11_instructions cX11_instructions 1 (some .int) :: fb_all) ({ frames := 0, cells := 0, slots := 0, locals := 0 } : Room) (fb_PP D (fb_ty D cI cJ) [.ref zb] ((fb_o11 zb zr0 zr1 zr2 zr3 zr4 (zq 0) zr6 zr7 zr8 zr9) ++ (fb_mw cI zq zs zw)) sz) (vp_Si (fun r => r = ((f_X11_instructions zs)))) 0 0 (fun _ => False) := by
  refine fb_entR (by decide +kernel) (Nat.le_of_ble_eq_true rfl) ?_
  intro p e s m args below meth c A ls X I hl hin
  exact b_X11_instructions_0 X  I hl rfl
/-! X11_calls -/
def f_X11_calls (zs : fb_MS) : Int32 := ((zs).1 13)
set_option maxHeartbeats 4000000 in
set_option maxRecDepth 100000 in
theorem b_X11_calls_0 {p : Program} {l : Launch} {e : Env} {s : State} {m : MethodId} {args : Array Value} {below : List Frame} {meth : Method} {c : Code} {D : va_G} {cI cJ : ClassId} {A : Nat → Prop} {zb : Nat} {zr0 : Nat} {zr1 : Nat} {zr2 : Nat} {zr3 : Nat} {zr4 : Nat} {zr6 : Nat} {zr7 : Nat} {zr8 : Nat} {zr9 : Nat} {zq : Nat → Nat} {z : Int32} (X : fb_Bx p s m args meth c cX11_calls RX11 1 (some .int) D (fb_ty D cI cJ) A) {zs : fb_MS} {zw : fb_AR} {ls : Array Slot}  (I : fb_In D A s.heap ((fb_o11 zb zr0 zr1 zr2 zr3 zr4 (zq 0) zr6 zr7 zr8 zr9) ++ (fb_mw cI zq zs zw)) s.heap []) (hl : lv_has ls 1 [(0, .ref zb)]) (E : z = f_X11_calls zs) : W p l e ({ frames := 0, cells := 0, slots := 0, locals := 0 } : Room) s m args below meth c s.heap [] 0 0 (MQ below (vp_Si (fun r => r = z)) args s 0 0 (fun _ => False)) (F0 m 0 ls []) := by
  obtain ⟨hx, hb, hr, hml, hown, hts, hlk, hA, hK, hF⟩ := id X
  refine lv_aload_n hx hb dX11_calls_0 rfl (lv_at hl 0 rfl) ?_
  refine fb_get X I (k := 5) fu_X11 0 rfl rfl (Nat.le_of_ble_eq_true rfl) fw_692 rfl rfl dX11_calls_1 ?_
  refine fb_get X I (k := 13) fu_X2 1 rfl rfl (Nat.le_of_ble_eq_true rfl) fw_542 rfl rfl dX11_calls_4 ?_
  exact fb_retRI X E rfl dX11_calls_7
set_option maxHeartbeats 4000000 in
set_option maxRecDepth 100000 in
theorem c_X11_calls (l : Launch) (D : va_G) (cI cJ : ClassId) (zb : Nat) (zr0 : Nat) (zr1 : Nat) (zr2 : Nat) (zr3 : Nat) (zr4 : Nat) (zr6 : Nat) (zr7 : Nat) (zr8 : Nat) (zr9 : Nat) (zq : Nat → Nat) (zs : fb_MS) (zw : fb_AR)  (sz : Nat)  : Met l yX11_calls (Cond.code yX11_calls cX11_calls 1 (some .int) :: fb_all) ({ frames := 0, cells := 0, slots := 0, locals := 0 } : Room) (fb_PP D (fb_ty D cI cJ) [.ref zb] ((fb_o11 zb zr0 zr1 zr2 zr3 zr4 (zq 0) zr6 zr7 zr8 zr9) ++ (fb_mw cI zq zs zw)) sz) (vp_Si (fun r => r = ((f_X11_calls zs)))) 0 0 (fun _ => False) := by
  refine fb_entR (by decide +kernel) (Nat.le_of_ble_eq_true rfl) ?_
  intro p e s m args below meth c A ls X I hl hin
  exact b_X11_calls_0 X  I hl rfl
/-! X11_bank -/
def f_X11_bank (zs : fb_MS) : Int32 := (((zs).2.2.2.2.2).1 2)
set_option maxHeartbeats 4000000 in
set_option maxRecDepth 100000 in
theorem b_X11_bank_0 {p : Program} {l : Launch} {e : Env} {s : State} {m : MethodId} {args : Array Value} {below : List Frame} {meth : Method} {c : Code} {D : va_G} {cI cJ : ClassId} {A : Nat → Prop} {zb : Nat} {zr0 : Nat} {zr1 : Nat} {zr2 : Nat} {zr3 : Nat} {zr4 : Nat} {zr6 : Nat} {zr7 : Nat} {zr8 : Nat} {zr9 : Nat} {zq : Nat → Nat} {z : Int32} (X : fb_Bx p s m args meth c cX11_bank RX11 1 (some .int) D (fb_ty D cI cJ) A) {zs : fb_MS} {zw : fb_AR} {ls : Array Slot}  (I : fb_In D A s.heap ((fb_o11 zb zr0 zr1 zr2 zr3 zr4 (zq 0) zr6 zr7 zr8 zr9) ++ (fb_mw cI zq zs zw)) s.heap []) (hl : lv_has ls 1 [(0, .ref zb)]) (E : z = f_X11_bank zs) : W p l e ({ frames := 0, cells := 0, slots := 0, locals := 0 } : Room) s m args below meth c s.heap [] 0 0 (MQ below (vp_Si (fun r => r = z)) args s 0 0 (fun _ => False)) (F0 m 0 ls []) := by
  obtain ⟨hx, hb, hr, hml, hown, hts, hlk, hA, hK, hF⟩ := id X
  refine lv_aload_n hx hb dX11_bank_0 rfl (lv_at hl 0 rfl) ?_
  refine fb_get X I (k := 5) fu_X11 0 rfl rfl (Nat.le_of_ble_eq_true rfl) fw_692 rfl rfl dX11_bank_1 ?_
  refine fb_get X I (k := 4) fu_X2 1 rfl rfl (Nat.le_of_ble_eq_true rfl) fw_523 rfl rfl dX11_bank_4 ?_
  refine fb_get X I (k := 2) fu_X5 6 rfl rfl (Nat.le_of_ble_eq_true rfl) fw_464 rfl rfl dX11_bank_7 ?_
  exact fb_retRI X E rfl dX11_bank_10
set_option maxHeartbeats 4000000 in
set_option maxRecDepth 100000 in
theorem c_X11_bank (l : Launch) (D : va_G) (cI cJ : ClassId) (zb : Nat) (zr0 : Nat) (zr1 : Nat) (zr2 : Nat) (zr3 : Nat) (zr4 : Nat) (zr6 : Nat) (zr7 : Nat) (zr8 : Nat) (zr9 : Nat) (zq : Nat → Nat) (zs : fb_MS) (zw : fb_AR)  (sz : Nat)  : Met l yX11_bank (Cond.code yX11_bank cX11_bank 1 (some .int) :: fb_all) ({ frames := 0, cells := 0, slots := 0, locals := 0 } : Room) (fb_PP D (fb_ty D cI cJ) [.ref zb] ((fb_o11 zb zr0 zr1 zr2 zr3 zr4 (zq 0) zr6 zr7 zr8 zr9) ++ (fb_mw cI zq zs zw)) sz) (vp_Si (fun r => r = ((f_X11_bank zs)))) 0 0 (fun _ => False) := by
  refine fb_entR (by decide +kernel) (Nat.le_of_ble_eq_true rfl) ?_
  intro p e s m args below meth c A ls X I hl hin
  exact b_X11_bank_0 X  I hl rfl
/-! X11_mask -/
def f_X11_mask (zs : fb_MS) : Int32 := (((zs).2.2.2.2.2).1 3)
set_option maxHeartbeats 4000000 in
set_option maxRecDepth 100000 in
theorem b_X11_mask_0 {p : Program} {l : Launch} {e : Env} {s : State} {m : MethodId} {args : Array Value} {below : List Frame} {meth : Method} {c : Code} {D : va_G} {cI cJ : ClassId} {A : Nat → Prop} {zb : Nat} {zr0 : Nat} {zr1 : Nat} {zr2 : Nat} {zr3 : Nat} {zr4 : Nat} {zr6 : Nat} {zr7 : Nat} {zr8 : Nat} {zr9 : Nat} {zq : Nat → Nat} {z : Int32} (X : fb_Bx p s m args meth c cX11_mask RX11 1 (some .int) D (fb_ty D cI cJ) A) {zs : fb_MS} {zw : fb_AR} {ls : Array Slot}  (I : fb_In D A s.heap ((fb_o11 zb zr0 zr1 zr2 zr3 zr4 (zq 0) zr6 zr7 zr8 zr9) ++ (fb_mw cI zq zs zw)) s.heap []) (hl : lv_has ls 1 [(0, .ref zb)]) (E : z = f_X11_mask zs) : W p l e ({ frames := 0, cells := 0, slots := 0, locals := 0 } : Room) s m args below meth c s.heap [] 0 0 (MQ below (vp_Si (fun r => r = z)) args s 0 0 (fun _ => False)) (F0 m 0 ls []) := by
  obtain ⟨hx, hb, hr, hml, hown, hts, hlk, hA, hK, hF⟩ := id X
  refine lv_aload_n hx hb dX11_mask_0 rfl (lv_at hl 0 rfl) ?_
  refine fb_get X I (k := 5) fu_X11 0 rfl rfl (Nat.le_of_ble_eq_true rfl) fw_692 rfl rfl dX11_mask_1 ?_
  refine fb_get X I (k := 4) fu_X2 1 rfl rfl (Nat.le_of_ble_eq_true rfl) fw_523 rfl rfl dX11_mask_4 ?_
  refine fb_get X I (k := 3) fu_X5 6 rfl rfl (Nat.le_of_ble_eq_true rfl) fw_466 rfl rfl dX11_mask_7 ?_
  exact fb_retRI X E rfl dX11_mask_10
set_option maxHeartbeats 4000000 in
set_option maxRecDepth 100000 in
theorem c_X11_mask (l : Launch) (D : va_G) (cI cJ : ClassId) (zb : Nat) (zr0 : Nat) (zr1 : Nat) (zr2 : Nat) (zr3 : Nat) (zr4 : Nat) (zr6 : Nat) (zr7 : Nat) (zr8 : Nat) (zr9 : Nat) (zq : Nat → Nat) (zs : fb_MS) (zw : fb_AR)  (sz : Nat)  : Met l yX11_mask (Cond.code yX11_mask cX11_mask 1 (some .int) :: fb_all) ({ frames := 0, cells := 0, slots := 0, locals := 0 } : Room) (fb_PP D (fb_ty D cI cJ) [.ref zb] ((fb_o11 zb zr0 zr1 zr2 zr3 zr4 (zq 0) zr6 zr7 zr8 zr9) ++ (fb_mw cI zq zs zw)) sz) (vp_Si (fun r => r = ((f_X11_mask zs)))) 0 0 (fun _ => False) := by
  refine fb_entR (by decide +kernel) (Nat.le_of_ble_eq_true rfl) ?_
  intro p e s m args below meth c A ls X I hl hin
  exact b_X11_mask_0 X  I hl rfl
/-! X11_pending -/
def f_X11_pending (zs : fb_MS) : Int32 := (((zs).2.2.2.2.2).1 4)
set_option maxHeartbeats 4000000 in
set_option maxRecDepth 100000 in
theorem b_X11_pending_0 {p : Program} {l : Launch} {e : Env} {s : State} {m : MethodId} {args : Array Value} {below : List Frame} {meth : Method} {c : Code} {D : va_G} {cI cJ : ClassId} {A : Nat → Prop} {zb : Nat} {zr0 : Nat} {zr1 : Nat} {zr2 : Nat} {zr3 : Nat} {zr4 : Nat} {zr6 : Nat} {zr7 : Nat} {zr8 : Nat} {zr9 : Nat} {zq : Nat → Nat} {z : Int32} (X : fb_Bx p s m args meth c cX11_pending RX11 1 (some .int) D (fb_ty D cI cJ) A) {zs : fb_MS} {zw : fb_AR} {ls : Array Slot}  (I : fb_In D A s.heap ((fb_o11 zb zr0 zr1 zr2 zr3 zr4 (zq 0) zr6 zr7 zr8 zr9) ++ (fb_mw cI zq zs zw)) s.heap []) (hl : lv_has ls 1 [(0, .ref zb)]) (E : z = f_X11_pending zs) : W p l e ({ frames := 0, cells := 0, slots := 0, locals := 0 } : Room) s m args below meth c s.heap [] 0 0 (MQ below (vp_Si (fun r => r = z)) args s 0 0 (fun _ => False)) (F0 m 0 ls []) := by
  obtain ⟨hx, hb, hr, hml, hown, hts, hlk, hA, hK, hF⟩ := id X
  refine lv_aload_n hx hb dX11_pending_0 rfl (lv_at hl 0 rfl) ?_
  refine fb_get X I (k := 5) fu_X11 0 rfl rfl (Nat.le_of_ble_eq_true rfl) fw_692 rfl rfl dX11_pending_1 ?_
  refine fb_get X I (k := 4) fu_X2 1 rfl rfl (Nat.le_of_ble_eq_true rfl) fw_523 rfl rfl dX11_pending_4 ?_
  refine fb_get X I (k := 4) fu_X5 6 rfl rfl (Nat.le_of_ble_eq_true rfl) fw_468 rfl rfl dX11_pending_7 ?_
  exact fb_retRI X E rfl dX11_pending_10
set_option maxHeartbeats 4000000 in
set_option maxRecDepth 100000 in
theorem c_X11_pending (l : Launch) (D : va_G) (cI cJ : ClassId) (zb : Nat) (zr0 : Nat) (zr1 : Nat) (zr2 : Nat) (zr3 : Nat) (zr4 : Nat) (zr6 : Nat) (zr7 : Nat) (zr8 : Nat) (zr9 : Nat) (zq : Nat → Nat) (zs : fb_MS) (zw : fb_AR)  (sz : Nat)  : Met l yX11_pending (Cond.code yX11_pending cX11_pending 1 (some .int) :: fb_all) ({ frames := 0, cells := 0, slots := 0, locals := 0 } : Room) (fb_PP D (fb_ty D cI cJ) [.ref zb] ((fb_o11 zb zr0 zr1 zr2 zr3 zr4 (zq 0) zr6 zr7 zr8 zr9) ++ (fb_mw cI zq zs zw)) sz) (vp_Si (fun r => r = ((f_X11_pending zs)))) 0 0 (fun _ => False) := by
  refine fb_entR (by decide +kernel) (Nat.le_of_ble_eq_true rfl) ?_
  intro p e s m args below meth c A ls X I hl hin
  exact b_X11_pending_0 X  I hl rfl
/-! X11_count -/
def f_X11_count (zs : fb_MS) : Int32 := (((zs).2.2.2.2.2).1 8)
set_option maxHeartbeats 4000000 in
set_option maxRecDepth 100000 in
theorem b_X11_count_0 {p : Program} {l : Launch} {e : Env} {s : State} {m : MethodId} {args : Array Value} {below : List Frame} {meth : Method} {c : Code} {D : va_G} {cI cJ : ClassId} {A : Nat → Prop} {zb : Nat} {zr0 : Nat} {zr1 : Nat} {zr2 : Nat} {zr3 : Nat} {zr4 : Nat} {zr6 : Nat} {zr7 : Nat} {zr8 : Nat} {zr9 : Nat} {zq : Nat → Nat} {z : Int32} (X : fb_Bx p s m args meth c cX11_count RX11 1 (some .int) D (fb_ty D cI cJ) A) {zs : fb_MS} {zw : fb_AR} {ls : Array Slot}  (I : fb_In D A s.heap ((fb_o11 zb zr0 zr1 zr2 zr3 zr4 (zq 0) zr6 zr7 zr8 zr9) ++ (fb_mw cI zq zs zw)) s.heap []) (hl : lv_has ls 1 [(0, .ref zb)]) (E : z = f_X11_count zs) : W p l e ({ frames := 0, cells := 0, slots := 0, locals := 0 } : Room) s m args below meth c s.heap [] 0 0 (MQ below (vp_Si (fun r => r = z)) args s 0 0 (fun _ => False)) (F0 m 0 ls []) := by
  obtain ⟨hx, hb, hr, hml, hown, hts, hlk, hA, hK, hF⟩ := id X
  refine lv_aload_n hx hb dX11_count_0 rfl (lv_at hl 0 rfl) ?_
  refine fb_get X I (k := 5) fu_X11 0 rfl rfl (Nat.le_of_ble_eq_true rfl) fw_692 rfl rfl dX11_count_1 ?_
  refine fb_get X I (k := 4) fu_X2 1 rfl rfl (Nat.le_of_ble_eq_true rfl) fw_523 rfl rfl dX11_count_4 ?_
  refine fb_get X I (k := 8) fu_X5 6 rfl rfl (Nat.le_of_ble_eq_true rfl) fw_476 rfl rfl dX11_count_7 ?_
  exact fb_retRI X E rfl dX11_count_10
set_option maxHeartbeats 4000000 in
set_option maxRecDepth 100000 in
theorem c_X11_count (l : Launch) (D : va_G) (cI cJ : ClassId) (zb : Nat) (zr0 : Nat) (zr1 : Nat) (zr2 : Nat) (zr3 : Nat) (zr4 : Nat) (zr6 : Nat) (zr7 : Nat) (zr8 : Nat) (zr9 : Nat) (zq : Nat → Nat) (zs : fb_MS) (zw : fb_AR)  (sz : Nat)  : Met l yX11_count (Cond.code yX11_count cX11_count 1 (some .int) :: fb_all) ({ frames := 0, cells := 0, slots := 0, locals := 0 } : Room) (fb_PP D (fb_ty D cI cJ) [.ref zb] ((fb_o11 zb zr0 zr1 zr2 zr3 zr4 (zq 0) zr6 zr7 zr8 zr9) ++ (fb_mw cI zq zs zw)) sz) (vp_Si (fun r => r = ((f_X11_count zs)))) 0 0 (fun _ => False) := by
  refine fb_entR (by decide +kernel) (Nat.le_of_ble_eq_true rfl) ?_
  intro p e s m args below meth c A ls X I hl hin
  exact b_X11_count_0 X  I hl rfl
/-! X11_inputs -/
def f_X11_inputs (zs : fb_MS) : Int32 := (((zs).2.2.2.2.2).1 5)
set_option maxHeartbeats 4000000 in
set_option maxRecDepth 100000 in
theorem b_X11_inputs_0 {p : Program} {l : Launch} {e : Env} {s : State} {m : MethodId} {args : Array Value} {below : List Frame} {meth : Method} {c : Code} {D : va_G} {cI cJ : ClassId} {A : Nat → Prop} {zb : Nat} {zr0 : Nat} {zr1 : Nat} {zr2 : Nat} {zr3 : Nat} {zr4 : Nat} {zr6 : Nat} {zr7 : Nat} {zr8 : Nat} {zr9 : Nat} {zq : Nat → Nat} {z : Int32} (X : fb_Bx p s m args meth c cX11_inputs RX11 1 (some .int) D (fb_ty D cI cJ) A) {zs : fb_MS} {zw : fb_AR} {ls : Array Slot}  (I : fb_In D A s.heap ((fb_o11 zb zr0 zr1 zr2 zr3 zr4 (zq 0) zr6 zr7 zr8 zr9) ++ (fb_mw cI zq zs zw)) s.heap []) (hl : lv_has ls 1 [(0, .ref zb)]) (E : z = f_X11_inputs zs) : W p l e ({ frames := 0, cells := 0, slots := 0, locals := 0 } : Room) s m args below meth c s.heap [] 0 0 (MQ below (vp_Si (fun r => r = z)) args s 0 0 (fun _ => False)) (F0 m 0 ls []) := by
  obtain ⟨hx, hb, hr, hml, hown, hts, hlk, hA, hK, hF⟩ := id X
  refine lv_aload_n hx hb dX11_inputs_0 rfl (lv_at hl 0 rfl) ?_
  refine fb_get X I (k := 5) fu_X11 0 rfl rfl (Nat.le_of_ble_eq_true rfl) fw_692 rfl rfl dX11_inputs_1 ?_
  refine fb_get X I (k := 4) fu_X2 1 rfl rfl (Nat.le_of_ble_eq_true rfl) fw_523 rfl rfl dX11_inputs_4 ?_
  refine fb_get X I (k := 5) fu_X5 6 rfl rfl (Nat.le_of_ble_eq_true rfl) fw_471 rfl rfl dX11_inputs_7 ?_
  exact fb_retRI X E rfl dX11_inputs_10
set_option maxHeartbeats 4000000 in
set_option maxRecDepth 100000 in
theorem c_X11_inputs (l : Launch) (D : va_G) (cI cJ : ClassId) (zb : Nat) (zr0 : Nat) (zr1 : Nat) (zr2 : Nat) (zr3 : Nat) (zr4 : Nat) (zr6 : Nat) (zr7 : Nat) (zr8 : Nat) (zr9 : Nat) (zq : Nat → Nat) (zs : fb_MS) (zw : fb_AR)  (sz : Nat)  : Met l yX11_inputs (Cond.code yX11_inputs cX11_inputs 1 (some .int) :: fb_all) ({ frames := 0, cells := 0, slots := 0, locals := 0 } : Room) (fb_PP D (fb_ty D cI cJ) [.ref zb] ((fb_o11 zb zr0 zr1 zr2 zr3 zr4 (zq 0) zr6 zr7 zr8 zr9) ++ (fb_mw cI zq zs zw)) sz) (vp_Si (fun r => r = ((f_X11_inputs zs)))) 0 0 (fun _ => False) := by
  refine fb_entR (by decide +kernel) (Nat.le_of_ble_eq_true rfl) ?_
  intro p e s m args below meth c A ls X I hl hin
  exact b_X11_inputs_0 X  I hl rfl
/-! X11_outputs -/
def f_X11_outputs (zs : fb_MS) : Int32 := (((zs).2.2.2.2.2).1 6)
set_option maxHeartbeats 4000000 in
set_option maxRecDepth 100000 in
theorem b_X11_outputs_0 {p : Program} {l : Launch} {e : Env} {s : State} {m : MethodId} {args : Array Value} {below : List Frame} {meth : Method} {c : Code} {D : va_G} {cI cJ : ClassId} {A : Nat → Prop} {zb : Nat} {zr0 : Nat} {zr1 : Nat} {zr2 : Nat} {zr3 : Nat} {zr4 : Nat} {zr6 : Nat} {zr7 : Nat} {zr8 : Nat} {zr9 : Nat} {zq : Nat → Nat} {z : Int32} (X : fb_Bx p s m args meth c cX11_outputs RX11 1 (some .int) D (fb_ty D cI cJ) A) {zs : fb_MS} {zw : fb_AR} {ls : Array Slot}  (I : fb_In D A s.heap ((fb_o11 zb zr0 zr1 zr2 zr3 zr4 (zq 0) zr6 zr7 zr8 zr9) ++ (fb_mw cI zq zs zw)) s.heap []) (hl : lv_has ls 1 [(0, .ref zb)]) (E : z = f_X11_outputs zs) : W p l e ({ frames := 0, cells := 0, slots := 0, locals := 0 } : Room) s m args below meth c s.heap [] 0 0 (MQ below (vp_Si (fun r => r = z)) args s 0 0 (fun _ => False)) (F0 m 0 ls []) := by
  obtain ⟨hx, hb, hr, hml, hown, hts, hlk, hA, hK, hF⟩ := id X
  refine lv_aload_n hx hb dX11_outputs_0 rfl (lv_at hl 0 rfl) ?_
  refine fb_get X I (k := 5) fu_X11 0 rfl rfl (Nat.le_of_ble_eq_true rfl) fw_692 rfl rfl dX11_outputs_1 ?_
  refine fb_get X I (k := 4) fu_X2 1 rfl rfl (Nat.le_of_ble_eq_true rfl) fw_523 rfl rfl dX11_outputs_4 ?_
  refine fb_get X I (k := 6) fu_X5 6 rfl rfl (Nat.le_of_ble_eq_true rfl) fw_473 rfl rfl dX11_outputs_7 ?_
  exact fb_retRI X E rfl dX11_outputs_10
set_option maxHeartbeats 4000000 in
set_option maxRecDepth 100000 in
theorem c_X11_outputs (l : Launch) (D : va_G) (cI cJ : ClassId) (zb : Nat) (zr0 : Nat) (zr1 : Nat) (zr2 : Nat) (zr3 : Nat) (zr4 : Nat) (zr6 : Nat) (zr7 : Nat) (zr8 : Nat) (zr9 : Nat) (zq : Nat → Nat) (zs : fb_MS) (zw : fb_AR)  (sz : Nat)  : Met l yX11_outputs (Cond.code yX11_outputs cX11_outputs 1 (some .int) :: fb_all) ({ frames := 0, cells := 0, slots := 0, locals := 0 } : Room) (fb_PP D (fb_ty D cI cJ) [.ref zb] ((fb_o11 zb zr0 zr1 zr2 zr3 zr4 (zq 0) zr6 zr7 zr8 zr9) ++ (fb_mw cI zq zs zw)) sz) (vp_Si (fun r => r = ((f_X11_outputs zs)))) 0 0 (fun _ => False) := by
  refine fb_entR (by decide +kernel) (Nat.le_of_ble_eq_true rfl) ?_
  intro p e s m args below meth c A ls X I hl hin
  exact b_X11_outputs_0 X  I hl rfl
/-! X11_hottest -/
def f_X11_hottest (zs : fb_MS) : Int32 := (f_X2_busiest zs)
set_option maxHeartbeats 4000000 in
set_option maxRecDepth 100000 in
theorem b_X11_hottest_0 {p : Program} {l : Launch} {e : Env} {s : State} {m : MethodId} {args : Array Value} {below : List Frame} {meth : Method} {c : Code} {D : va_G} {cI cJ : ClassId} {A : Nat → Prop} {zb : Nat} {zr0 : Nat} {zr1 : Nat} {zr2 : Nat} {zr3 : Nat} {zr4 : Nat} {zr6 : Nat} {zr7 : Nat} {zr8 : Nat} {zr9 : Nat} {zq : Nat → Nat} {z : Int32} (X : fb_Bx p s m args meth c cX11_hottest RX11 1 (some .int) D (fb_ty D cI cJ) A) {zs : fb_MS} {zw : fb_AR} {ls : Array Slot}  (I : fb_In D A s.heap ((fb_o11 zb zr0 zr1 zr2 zr3 zr4 (zq 0) zr6 zr7 zr8 zr9) ++ (fb_mw cI zq zs zw)) s.heap []) (hl : lv_has ls 1 [(0, .ref zb)]) (E : z = f_X11_hottest zs) : W p l e ({ frames := 2, cells := 0, slots := 0, locals := 44 } : Room) s m args below meth c s.heap [] 0 0 (MQ below (vp_Si (fun r => r = z)) args s 0 0 (fun _ => False)) (F0 m 0 ls []) := by
  obtain ⟨hx, hb, hr, hml, hown, hts, hlk, hA, hK, hF⟩ := id X
  refine lv_aload_n hx hb dX11_hottest_0 rfl (lv_at hl 0 rfl) ?_
  refine fb_get X I (k := 5) fu_X11 0 rfl rfl (Nat.le_of_ble_eq_true rfl) fw_692 rfl rfl dX11_hottest_1 ?_
  refine fb_roI X I (fb_runV (As := []) (rest := []) (q0 := 1) X I hl (c_X2_busiest l D cI cJ zq zs zw _) (fb_goodV fw_1505 fw_1506 fw_1507 fw_198 fw_1508) rfl rfl rfl (by decide +kernel : fb_hd yX2_busiest 0) ⟨Nat.le_of_ble_eq_true rfl, Nat.le_of_ble_eq_true rfl⟩ [1, 2, 3, 4, 5, 6, 7, 8] (by decide) rfl rfl rfl rfl rfl rfl (Nat.le_of_ble_eq_true rfl) ⟨Nat.zero_le _, Nat.zero_le _⟩ dX11_hottest_4) ?_
  exact fb_retRI X E rfl dX11_hottest_7
set_option maxHeartbeats 4000000 in
set_option maxRecDepth 100000 in
theorem c_X11_hottest (l : Launch) (D : va_G) (cI cJ : ClassId) (zb : Nat) (zr0 : Nat) (zr1 : Nat) (zr2 : Nat) (zr3 : Nat) (zr4 : Nat) (zr6 : Nat) (zr7 : Nat) (zr8 : Nat) (zr9 : Nat) (zq : Nat → Nat) (zs : fb_MS) (zw : fb_AR)  (sz : Nat)  : Met l yX11_hottest (Cond.code yX11_hottest cX11_hottest 1 (some .int) :: fb_all) ({ frames := 2, cells := 0, slots := 0, locals := 44 } : Room) (fb_PP D (fb_ty D cI cJ) [.ref zb] ((fb_o11 zb zr0 zr1 zr2 zr3 zr4 (zq 0) zr6 zr7 zr8 zr9) ++ (fb_mw cI zq zs zw)) sz) (vp_Si (fun r => r = ((f_X11_hottest zs)))) 0 0 (fun _ => False) := by
  refine fb_entR (by decide +kernel) (Nat.le_of_ble_eq_true rfl) ?_
  intro p e s m args below meth c A ls X I hl hin
  exact b_X11_hottest_0 X  I hl rfl
/-! X11_byteAt -/
def f_X11_byteAt (zs : fb_MS) (l1 : Int32) : Int32 := (f_X2_shown zs l1)
set_option maxHeartbeats 4000000 in
set_option maxRecDepth 100000 in
theorem b_X11_byteAt_0 {p : Program} {l : Launch} {e : Env} {s : State} {m : MethodId} {args : Array Value} {below : List Frame} {meth : Method} {c : Code} {D : va_G} {cI cJ : ClassId} {A : Nat → Prop} {zb : Nat} {zr0 : Nat} {zr1 : Nat} {zr2 : Nat} {zr3 : Nat} {zr4 : Nat} {zr6 : Nat} {zr7 : Nat} {zr8 : Nat} {zr9 : Nat} {zq : Nat → Nat} {z : Int32} (X : fb_Bx p s m args meth c cX11_byteAt RX11 2 (some .int) D (fb_ty D cI cJ) A) {zs : fb_MS} {zw : fb_AR} {l1 : Int32} {ls : Array Slot} (gA : f_X11_isNoAddress l1 = 0) (I : fb_In D A s.heap ((fb_o11 zb zr0 zr1 zr2 zr3 zr4 (zq 0) zr6 zr7 zr8 zr9) ++ (fb_mw cI zq zs zw)) s.heap []) (hl : lv_has ls 2 [(0, .ref zb), (1, .int l1)]) (E : z = f_X11_byteAt zs l1) : W p l e ({ frames := 2, cells := 0, slots := 0, locals := 42 } : Room) s m args below meth c s.heap [] 0 0 (MQ below (vp_Si (fun r => r = z)) args s 0 0 (fun _ => False)) (F0 m 0 ls []) := by
  obtain ⟨hx, hb, hr, hml, hown, hts, hlk, hA, hK, hF⟩ := id X
  refine lv_iload_n hx hb dX11_byteAt_0 rfl (lv_at hl 1 rfl) ?_
  refine fb_roI X I (fb_runS (As := [.int l1]) (rest := []) X I hl (c_X11_isNoAddress l D cI cJ l1 _) (fb_goodS fw_1717 fw_1718 fw_191 fw_1719) rfl rfl (by decide +kernel : fb_hd yX11_isNoAddress 1) ⟨Nat.le_of_ble_eq_true rfl, Nat.le_of_ble_eq_true rfl⟩ [] (by decide) rfl rfl rfl (Nat.le_of_ble_eq_true rfl) ⟨Nat.zero_le _, Nat.zero_le _⟩ dX11_byteAt_1) ?_
  refine lv_if_eq (tgt := 17) hx hb dX11_byteAt_4 (by decide) (fun _ => ?_) (fun c1 => absurd gA c1)
  refine lv_aload_n hx hb dX11_byteAt_17 rfl (lv_at hl 0 rfl) ?_
  refine fb_get X I (k := 5) fu_X11 0 rfl rfl (Nat.le_of_ble_eq_true rfl) fw_692 rfl rfl dX11_byteAt_18 ?_
  refine lv_iload_n hx hb dX11_byteAt_21 rfl (lv_at hl 1 rfl) ?_
  refine fb_roI X I (fb_runV (As := [.int l1]) (rest := []) (q0 := 1) X I hl (c_X2_shown l D cI cJ zq zs zw l1 _) (fb_goodV fw_1830 fw_1225 fw_1226 fw_198 fw_1227) rfl rfl rfl (by decide +kernel : fb_hd yX2_shown 1) ⟨Nat.le_of_ble_eq_true rfl, Nat.le_of_ble_eq_true rfl⟩ [1, 2, 3, 4, 5, 6, 7, 8] (by decide) rfl rfl rfl rfl rfl rfl (Nat.le_of_ble_eq_true rfl) ⟨Nat.zero_le _, Nat.zero_le _⟩ dX11_byteAt_22) ?_
  exact fb_retRI X E rfl dX11_byteAt_25
set_option maxHeartbeats 4000000 in
set_option maxRecDepth 100000 in
theorem c_X11_byteAt (l : Launch) (D : va_G) (cI cJ : ClassId) (zb : Nat) (zr0 : Nat) (zr1 : Nat) (zr2 : Nat) (zr3 : Nat) (zr4 : Nat) (zr6 : Nat) (zr7 : Nat) (zr8 : Nat) (zr9 : Nat) (zq : Nat → Nat) (zs : fb_MS) (zw : fb_AR) (l1 : Int32) (sz : Nat) (gA : f_X11_isNoAddress l1 = 0) : Met l yX11_byteAt (Cond.code yX11_byteAt cX11_byteAt 2 (some .int) :: fb_all) ({ frames := 2, cells := 0, slots := 0, locals := 42 } : Room) (fb_PP D (fb_ty D cI cJ) [.ref zb, .int l1] ((fb_o11 zb zr0 zr1 zr2 zr3 zr4 (zq 0) zr6 zr7 zr8 zr9) ++ (fb_mw cI zq zs zw)) sz) (vp_Si (fun r => r = ((f_X11_byteAt zs l1)))) 0 0 (fun _ => False) := by
  refine fb_entR (by decide +kernel) (Nat.le_of_ble_eq_true rfl) ?_
  intro p e s m args below meth c A ls X I hl hin
  exact b_X11_byteAt_0 X gA I hl rfl
/-! X11_timesAt -/
def f_X11_timesAt (zs : fb_MS) (l1 : Int32) : Int32 := (f_X11_at 4096 ((zs).2.2.1) l1)
set_option maxHeartbeats 4000000 in
set_option maxRecDepth 100000 in
theorem b_X11_timesAt_0 {p : Program} {l : Launch} {e : Env} {s : State} {m : MethodId} {args : Array Value} {below : List Frame} {meth : Method} {c : Code} {D : va_G} {cI cJ : ClassId} {A : Nat → Prop} {zb : Nat} {zr0 : Nat} {zr1 : Nat} {zr2 : Nat} {zr3 : Nat} {zr4 : Nat} {zr6 : Nat} {zr7 : Nat} {zr8 : Nat} {zr9 : Nat} {zq : Nat → Nat} {z : Int32} (X : fb_Bx p s m args meth c cX11_timesAt RX11 2 (some .int) D (fb_ty D cI cJ) A) {zs : fb_MS} {zw : fb_AR} {l1 : Int32} {ls : Array Slot} (gA : f_X11_isNoAddress l1 = 0) (I : fb_In D A s.heap ((fb_o11 zb zr0 zr1 zr2 zr3 zr4 (zq 0) zr6 zr7 zr8 zr9) ++ (fb_mw cI zq zs zw)) s.heap []) (hl : lv_has ls 2 [(0, .ref zb), (1, .int l1)]) (E : z = f_X11_timesAt zs l1) : W p l e ({ frames := 1, cells := 0, slots := 0, locals := 40 } : Room) s m args below meth c s.heap [] 0 0 (MQ below (vp_Si (fun r => r = z)) args s 0 0 (fun _ => False)) (F0 m 0 ls []) := by
  obtain ⟨hx, hb, hr, hml, hown, hts, hlk, hA, hK, hF⟩ := id X
  refine lv_iload_n hx hb dX11_timesAt_0 rfl (lv_at hl 1 rfl) ?_
  refine fb_roI X I (fb_runS (As := [.int l1]) (rest := []) X I hl (c_X11_isNoAddress l D cI cJ l1 _) (fb_goodS fw_1717 fw_1718 fw_191 fw_1719) rfl rfl (by decide +kernel : fb_hd yX11_isNoAddress 1) ⟨Nat.le_of_ble_eq_true rfl, Nat.le_of_ble_eq_true rfl⟩ [] (by decide) rfl rfl rfl (Nat.le_of_ble_eq_true rfl) ⟨Nat.zero_le _, Nat.zero_le _⟩ dX11_timesAt_1) ?_
  refine lv_if_eq (tgt := 17) hx hb dX11_timesAt_4 (by decide) (fun _ => ?_) (fun c1 => absurd gA c1)
  refine lv_aload_n hx hb dX11_timesAt_17 rfl (lv_at hl 0 rfl) ?_
  refine fb_get X I (k := 5) fu_X11 0 rfl rfl (Nat.le_of_ble_eq_true rfl) fw_692 rfl rfl dX11_timesAt_18 ?_
  refine fb_get X I (k := 1) fu_X2 1 rfl rfl (Nat.le_of_ble_eq_true rfl) fw_517 rfl rfl dX11_timesAt_21 ?_
  refine lv_iload_n hx hb dX11_timesAt_24 rfl (lv_at hl 1 rfl) ?_
  refine fb_roI X I (fb_runS (As := [.ref (zq 2), .int l1]) (rest := []) X I hl (c_X11_at l D cI cJ (zq 2) 4096 ((zs).2.2.1) l1 _ (by decide)) (fb_goodS fw_1569 fw_685 fw_191 fw_686) rfl rfl (by decide +kernel : fb_hd yX11_at 2) ⟨Nat.le_of_ble_eq_true rfl, Nat.le_of_ble_eq_true rfl⟩ [3] (by decide) rfl rfl rfl (Nat.le_of_ble_eq_true rfl) ⟨Nat.zero_le _, Nat.zero_le _⟩ dX11_timesAt_25) ?_
  exact fb_retRI X E rfl dX11_timesAt_28
set_option maxHeartbeats 4000000 in
set_option maxRecDepth 100000 in
theorem c_X11_timesAt (l : Launch) (D : va_G) (cI cJ : ClassId) (zb : Nat) (zr0 : Nat) (zr1 : Nat) (zr2 : Nat) (zr3 : Nat) (zr4 : Nat) (zr6 : Nat) (zr7 : Nat) (zr8 : Nat) (zr9 : Nat) (zq : Nat → Nat) (zs : fb_MS) (zw : fb_AR) (l1 : Int32) (sz : Nat) (gA : f_X11_isNoAddress l1 = 0) : Met l yX11_timesAt (Cond.code yX11_timesAt cX11_timesAt 2 (some .int) :: fb_all) ({ frames := 1, cells := 0, slots := 0, locals := 40 } : Room) (fb_PP D (fb_ty D cI cJ) [.ref zb, .int l1] ((fb_o11 zb zr0 zr1 zr2 zr3 zr4 (zq 0) zr6 zr7 zr8 zr9) ++ (fb_mw cI zq zs zw)) sz) (vp_Si (fun r => r = ((f_X11_timesAt zs l1)))) 0 0 (fun _ => False) := by
  refine fb_entR (by decide +kernel) (Nat.le_of_ble_eq_true rfl) ?_
  intro p e s m args below meth c A ls X I hl hin
  exact b_X11_timesAt_0 X gA I hl rfl
/-! X11_operandAt -/
def f_X11_operandAt (zs : fb_MS) (l1 : Int32) : Int32 := (f_X2_operand zs l1)
set_option maxHeartbeats 4000000 in
set_option maxRecDepth 100000 in
theorem b_X11_operandAt_0 {p : Program} {l : Launch} {e : Env} {s : State} {m : MethodId} {args : Array Value} {below : List Frame} {meth : Method} {c : Code} {D : va_G} {cI cJ : ClassId} {A : Nat → Prop} {zb : Nat} {zr0 : Nat} {zr1 : Nat} {zr2 : Nat} {zr3 : Nat} {zr4 : Nat} {zr6 : Nat} {zr7 : Nat} {zr8 : Nat} {zr9 : Nat} {zq : Nat → Nat} {z : Int32} (X : fb_Bx p s m args meth c cX11_operandAt RX11 2 (some .int) D (fb_ty D cI cJ) A) {zs : fb_MS} {zw : fb_AR} {l1 : Int32} {ls : Array Slot} (gA : f_X11_isNoAddress l1 = 0) (I : fb_In D A s.heap ((fb_o11 zb zr0 zr1 zr2 zr3 zr4 (zq 0) zr6 zr7 zr8 zr9) ++ (fb_mw cI zq zs zw)) s.heap []) (hl : lv_has ls 2 [(0, .ref zb), (1, .int l1)]) (E : z = f_X11_operandAt zs l1) : W p l e ({ frames := 4, cells := 0, slots := 0, locals := 86 } : Room) s m args below meth c s.heap [] 0 0 (MQ below (vp_Si (fun r => r = z)) args s 0 0 (fun _ => False)) (F0 m 0 ls []) := by
  obtain ⟨hx, hb, hr, hml, hown, hts, hlk, hA, hK, hF⟩ := id X
  refine lv_iload_n hx hb dX11_operandAt_0 rfl (lv_at hl 1 rfl) ?_
  refine fb_roI X I (fb_runS (As := [.int l1]) (rest := []) X I hl (c_X11_isNoAddress l D cI cJ l1 _) (fb_goodS fw_1717 fw_1718 fw_191 fw_1719) rfl rfl (by decide +kernel : fb_hd yX11_isNoAddress 1) ⟨Nat.le_of_ble_eq_true rfl, Nat.le_of_ble_eq_true rfl⟩ [] (by decide) rfl rfl rfl (Nat.le_of_ble_eq_true rfl) ⟨Nat.zero_le _, Nat.zero_le _⟩ dX11_operandAt_1) ?_
  refine lv_if_eq (tgt := 17) hx hb dX11_operandAt_4 (by decide) (fun _ => ?_) (fun c1 => absurd gA c1)
  refine lv_aload_n hx hb dX11_operandAt_17 rfl (lv_at hl 0 rfl) ?_
  refine fb_get X I (k := 5) fu_X11 0 rfl rfl (Nat.le_of_ble_eq_true rfl) fw_692 rfl rfl dX11_operandAt_18 ?_
  refine lv_iload_n hx hb dX11_operandAt_21 rfl (lv_at hl 1 rfl) ?_
  refine fb_roI X I (fb_runV (As := [.int l1]) (rest := []) (q0 := 1) X I hl (c_X2_operand l D cI cJ zq zs zw l1 _) (fb_goodV fw_1887 fw_1532 fw_1533 fw_198 fw_1534) rfl rfl rfl (by decide +kernel : fb_hd yX2_operand 1) ⟨Nat.le_of_ble_eq_true rfl, Nat.le_of_ble_eq_true rfl⟩ [1, 2, 3, 4, 5, 6, 7, 8] (by decide) rfl rfl rfl rfl rfl rfl (Nat.le_of_ble_eq_true rfl) ⟨Nat.zero_le _, Nat.zero_le _⟩ dX11_operandAt_22) ?_
  exact fb_retRI X E rfl dX11_operandAt_25
set_option maxHeartbeats 4000000 in
set_option maxRecDepth 100000 in
theorem c_X11_operandAt (l : Launch) (D : va_G) (cI cJ : ClassId) (zb : Nat) (zr0 : Nat) (zr1 : Nat) (zr2 : Nat) (zr3 : Nat) (zr4 : Nat) (zr6 : Nat) (zr7 : Nat) (zr8 : Nat) (zr9 : Nat) (zq : Nat → Nat) (zs : fb_MS) (zw : fb_AR) (l1 : Int32) (sz : Nat) (gA : f_X11_isNoAddress l1 = 0) : Met l yX11_operandAt (Cond.code yX11_operandAt cX11_operandAt 2 (some .int) :: fb_all) ({ frames := 4, cells := 0, slots := 0, locals := 86 } : Room) (fb_PP D (fb_ty D cI cJ) [.ref zb, .int l1] ((fb_o11 zb zr0 zr1 zr2 zr3 zr4 (zq 0) zr6 zr7 zr8 zr9) ++ (fb_mw cI zq zs zw)) sz) (vp_Si (fun r => r = ((f_X11_operandAt zs l1)))) 0 0 (fun _ => False) := by
  refine fb_entR (by decide +kernel) (Nat.le_of_ble_eq_true rfl) ?_
  intro p e s m args below meth c A ls X I hl hin
  exact b_X11_operandAt_0 X gA I hl rfl
/-! X11_stopped -/
def f_X11_stopped (ze7 : fb_AR) : Int32 := (ze7 7)
set_option maxHeartbeats 4000000 in
set_option maxRecDepth 100000 in
theorem b_X11_stopped_0 {p : Program} {l : Launch} {e : Env} {s : State} {m : MethodId} {args : Array Value} {below : List Frame} {meth : Method} {c : Code} {D : va_G} {cI cJ : ClassId} {A : Nat → Prop} {zb : Nat} {zr0 : Nat} {zr1 : Nat} {zr2 : Nat} {zr3 : Nat} {zr4 : Nat} {zr5 : Nat} {zr6 : Nat} {zr7 : Nat} {zst : Nat} {zr9 : Nat} {zs0 : Nat} {zs1 : Nat} {zs3 : Nat} {zs4 : Nat} {zs5 : Nat} {z : Int32} (X : fb_Bx p s m args meth c cX11_stopped RX11 1 (some .int) D (fb_ty D cI cJ) A) {ze7 : fb_AR} {ls : Array Slot}  (I : fb_In D A s.heap ((fb_o11 zb zr0 zr1 zr2 zr3 zr4 zr5 zr6 zr7 zst zr9) ++ (fb_o7 zst zs0 zs1 zs3 zs4 zs5 ze7)) s.heap []) (hl : lv_has ls 1 [(0, .ref zb)]) (E : z = f_X11_stopped ze7) : W p l e ({ frames := 0, cells := 0, slots := 0, locals := 0 } : Room) s m args below meth c s.heap [] 0 0 (MQ below (vp_Si (fun r => r = z)) args s 0 0 (fun _ => False)) (F0 m 0 ls []) := by
  obtain ⟨hx, hb, hr, hml, hown, hts, hlk, hA, hK, hF⟩ := id X
  refine lv_aload_n hx hb dX11_stopped_0 rfl (lv_at hl 0 rfl) ?_
  refine fb_get X I (k := 8) fu_X11 0 rfl rfl (Nat.le_of_ble_eq_true rfl) fw_695 rfl rfl dX11_stopped_1 ?_
  refine fb_get X I (k := 7) fu_X7 1 rfl rfl (Nat.le_of_ble_eq_true rfl) fw_627 rfl rfl dX11_stopped_4 ?_
  exact fb_retRI X E rfl dX11_stopped_7
set_option maxHeartbeats 4000000 in
set_option maxRecDepth 100000 in
theorem c_X11_stopped (l : Launch) (D : va_G) (cI cJ : ClassId) (zb : Nat) (zr0 : Nat) (zr1 : Nat) (zr2 : Nat) (zr3 : Nat) (zr4 : Nat) (zr5 : Nat) (zr6 : Nat) (zr7 : Nat) (zst : Nat) (zr9 : Nat) (zs0 : Nat) (zs1 : Nat) (zs3 : Nat) (zs4 : Nat) (zs5 : Nat) (ze7 : fb_AR)  (sz : Nat)  : Met l yX11_stopped (Cond.code yX11_stopped cX11_stopped 1 (some .int) :: fb_all) ({ frames := 0, cells := 0, slots := 0, locals := 0 } : Room) (fb_PP D (fb_ty D cI cJ) [.ref zb] ((fb_o11 zb zr0 zr1 zr2 zr3 zr4 zr5 zr6 zr7 zst zr9) ++ (fb_o7 zst zs0 zs1 zs3 zs4 zs5 ze7)) sz) (vp_Si (fun r => r = ((f_X11_stopped ze7)))) 0 0 (fun _ => False) := by
  refine fb_entR (by decide +kernel) (Nat.le_of_ble_eq_true rfl) ?_
  intro p e s m args below meth c A ls X I hl hin
  exact b_X11_stopped_0 X  I hl rfl
/-! X11_history -/
def f_X11_history (ze0 : fb_AR) : Int32 := (ze0 5)
set_option maxHeartbeats 4000000 in
set_option maxRecDepth 100000 in
theorem b_X11_history_0 {p : Program} {l : Launch} {e : Env} {s : State} {m : MethodId} {args : Array Value} {below : List Frame} {meth : Method} {c : Code} {D : va_G} {cI cJ : ClassId} {A : Nat → Prop} {zb : Nat} {zr0 : Nat} {zr1 : Nat} {zr2 : Nat} {zr3 : Nat} {zr4 : Nat} {zr5 : Nat} {zr6 : Nat} {zh : Nat} {zr8 : Nat} {zr9 : Nat} {zo : Nat} {zn : Nat} {z : Int32} (X : fb_Bx p s m args meth c cX11_history RX11 1 (some .int) D (fb_ty D cI cJ) A) {ze0 : fb_AR} {ls : Array Slot}  (I : fb_In D A s.heap ((fb_o11 zb zr0 zr1 zr2 zr3 zr4 zr5 zr6 zh zr8 zr9) ++ (fb_o0 zh zo zn ze0)) s.heap []) (hl : lv_has ls 1 [(0, .ref zb)]) (E : z = f_X11_history ze0) : W p l e ({ frames := 0, cells := 0, slots := 0, locals := 0 } : Room) s m args below meth c s.heap [] 0 0 (MQ below (vp_Si (fun r => r = z)) args s 0 0 (fun _ => False)) (F0 m 0 ls []) := by
  obtain ⟨hx, hb, hr, hml, hown, hts, hlk, hA, hK, hF⟩ := id X
  refine lv_aload_n hx hb dX11_history_0 rfl (lv_at hl 0 rfl) ?_
  refine fb_get X I (k := 7) fu_X11 0 rfl rfl (Nat.le_of_ble_eq_true rfl) fw_694 rfl rfl dX11_history_1 ?_
  refine fb_get X I (k := 5) fu_X0 1 rfl rfl (Nat.le_of_ble_eq_true rfl) fw_597 rfl rfl dX11_history_4 ?_
  exact fb_retRI X E rfl dX11_history_7
set_option maxHeartbeats 4000000 in
set_option maxRecDepth 100000 in
theorem c_X11_history (l : Launch) (D : va_G) (cI cJ : ClassId) (zb : Nat) (zr0 : Nat) (zr1 : Nat) (zr2 : Nat) (zr3 : Nat) (zr4 : Nat) (zr5 : Nat) (zr6 : Nat) (zh : Nat) (zr8 : Nat) (zr9 : Nat) (zo : Nat) (zn : Nat) (ze0 : fb_AR)  (sz : Nat)  : Met l yX11_history (Cond.code yX11_history cX11_history 1 (some .int) :: fb_all) ({ frames := 0, cells := 0, slots := 0, locals := 0 } : Room) (fb_PP D (fb_ty D cI cJ) [.ref zb] ((fb_o11 zb zr0 zr1 zr2 zr3 zr4 zr5 zr6 zh zr8 zr9) ++ (fb_o0 zh zo zn ze0)) sz) (vp_Si (fun r => r = ((f_X11_history ze0)))) 0 0 (fun _ => False) := by
  refine fb_entR (by decide +kernel) (Nat.le_of_ble_eq_true rfl) ?_
  intro p e s m args below meth c A ls X I hl hin
  exact b_X11_history_0 X  I hl rfl
/-! X3_nearest -/
def f_X3_nearest_7  : Nat → fb_AR → fb_AR → Int32 → Int32 → Int32 → Int32 → Int32
  | 0, ze3, zk, _, _, _, _ => 0
  | n + 1, ze3, zk, l1, l2, l3, l4 => (if (ze3 4) ≤ l4 then l2 else (if (f_X11_at 120 zk l4) ≤ l3 then f_X3_nearest_7 n ze3 zk l1 l2 l3 (l4 + (1 : Int32)) else (if l1 < (f_X11_at 120 zk l4) then f_X3_nearest_7 n ze3 zk l1 l2 l3 (l4 + (1 : Int32)) else f_X3_nearest_7 n ze3 zk l1 l4 (f_X11_at 120 zk l4) (l4 + (1 : Int32)))))
def f_X3_nearest (ze3 : fb_AR) (zk : fb_AR) (l1 : Int32) : Int32 := f_X3_nearest_7 ((fb_mu (0 : Int32) (ze3 4)) + 1) ze3 zk l1 (-1 : Int32) (-1 : Int32) (0 : Int32)
set_option maxHeartbeats 4000000 in
set_option maxRecDepth 100000 in
theorem b_X3_nearest_7 {p : Program} {l : Launch} {e : Env} {s : State} {m : MethodId} {args : Array Value} {below : List Frame} {meth : Method} {c : Code} {D : va_G} {cI cJ : ClassId} {A : Nat → Prop} {zna : Nat} {zn0 : Nat} {zn1 : Nat} {zn3 : Nat} {z : Int32} (X : fb_Bx p s m args meth c cX3_nearest RX3 6 (some .int) D (fb_ty D cI cJ) A)  : ∀ (n : Nat) {ze3 : fb_AR} {zk : fb_AR} {l1 : Int32} {l2 : Int32} {l3 : Int32} {l4 : Int32} {ls : Array Slot} (hm : (fb_mu l4 (ze3 4)) < n) (I : fb_In D A s.heap ((fb_o3 zna zn0 zn1 zn3 ze3) ++ (fb_aw cI zn3 120 zk)) s.heap []) (hl : lv_has ls 6 [(0, .ref zna), (1, .int l1), (2, .int l2), (3, .int l3), (4, .int l4)]) (E : z = f_X3_nearest_7 n ze3 zk l1 l2 l3 l4), W p l e ({ frames := 1, cells := 0, slots := 0, locals := 21 } : Room) s m args below meth c s.heap [] 0 0 (MQ below (vp_Si (fun r => r = z)) args s 0 0 (fun _ => False)) (F0 m 7 ls []) := by
  intro n
  obtain ⟨hx, hb, hr, hml, hown, hts, hlk, hA, hK, hF⟩ := id X
  induction n with
  | zero =>
    intro ze3 zk l1 l2 l3 l4 ls hm
    exact absurd hm (Nat.not_lt_zero _)
  | succ n ih =>
    intro ze3 zk l1 l2 l3 l4 ls hm I hl E
    refine lv_iload hx hb dX3_nearest_7 (lv_at hl 4 rfl) ?_
    refine lv_aload_n hx hb dX3_nearest_9 rfl (lv_at hl 0 rfl) ?_
    refine fb_get X I (k := 4) fu_X3 0 rfl rfl (Nat.le_of_ble_eq_true rfl) fw_275 rfl rfl dX3_nearest_10 ?_
    refine lv_icmp_ge (tgt := 51) hx hb dX3_nearest_13 (by decide) (fun c1 => ?_) (fun c1 => ?_)
    · have E2 := (E.trans (if_pos c1))
      refine lv_iload_n hx hb dX3_nearest_51 rfl (lv_at hl 2 rfl) ?_
      exact fb_retRI X E2 rfl dX3_nearest_52
    · have E3 := (E.trans (if_neg c1))
      refine lv_aload_n hx hb dX3_nearest_16 rfl (lv_at hl 0 rfl) ?_
      refine fb_get X I (k := 3) fu_X3 0 rfl rfl (Nat.le_of_ble_eq_true rfl) fw_273 rfl rfl dX3_nearest_17 ?_
      refine lv_iload hx hb dX3_nearest_20 (lv_at hl 4 rfl) ?_
      refine fb_roI X I (fb_runSN (As := [.ref zn3, .int l4]) (rest := []) X I hl (c_X11_at l D cI cJ zn3 120 zk l4 _ (by decide)) fw_686 rfl rfl (List.mem_of_getElem? (i := 38) rfl) fw_191 fw_685 (by decide +kernel : fb_hd yX11_at 2) ⟨Nat.le_of_ble_eq_true rfl, Nat.le_of_ble_eq_true rfl⟩ [1] (by decide) rfl rfl rfl (Nat.le_of_ble_eq_true rfl) ⟨Nat.zero_le _, Nat.zero_le _⟩ dX3_nearest_22) ?_
      refine lv_istore (lv' := [(5, .int (f_X11_at 120 zk l4)), (0, .ref zna), (1, .int l1), (2, .int l2), (3, .int l3), (4, .int l4)]) hx hb dX3_nearest_25 hl (by decide) rfl (fun ls hl => ?_)
      refine lv_iload hx hb dX3_nearest_27 (lv_at hl 0 rfl) ?_
      refine lv_iload_n hx hb dX3_nearest_29 rfl (lv_at hl 4 rfl) ?_
      refine lv_icmp_le (tgt := 45) hx hb dX3_nearest_30 (by decide) (fun c4 => ?_) (fun c4 => ?_)
      · have E5 := (E3.trans (if_pos c4))
        refine lv_iinc (v := (l4 + (1 : Int32))) (lv' := [(4, .int (l4 + (1 : Int32))), (5, .int (f_X11_at 120 zk l4)), (0, .ref zna), (1, .int l1), (2, .int l2), (3, .int l3)]) hx hb dX3_nearest_45 hl (k := 5) rfl rfl (by decide) rfl (fun ls hl => ?_)
        refine lv_goto (tgt := 7) hx hb dX3_nearest_48 (by decide) ?_
        exact ih (l1 := l1) (l2 := l2) (l3 := l3) (l4 := (l4 + (1 : Int32))) (fb_mu_ge c1 hm)  I (lv_sub hl [2, 3, 4, 5, 0] rfl) E5
      · have E6 := (E3.trans (if_neg c4))
        refine lv_iload hx hb dX3_nearest_33 (lv_at hl 0 rfl) ?_
        refine lv_iload_n hx hb dX3_nearest_35 rfl (lv_at hl 2 rfl) ?_
        refine lv_icmp_gt (tgt := 45) hx hb dX3_nearest_36 (by decide) (fun c7 => ?_) (fun c7 => ?_)
        · have E8 := (E6.trans (if_pos c7))
          refine lv_iinc (v := (l4 + (1 : Int32))) (lv' := [(4, .int (l4 + (1 : Int32))), (5, .int (f_X11_at 120 zk l4)), (0, .ref zna), (1, .int l1), (2, .int l2), (3, .int l3)]) hx hb dX3_nearest_45 hl (k := 5) rfl rfl (by decide) rfl (fun ls hl => ?_)
          refine lv_goto (tgt := 7) hx hb dX3_nearest_48 (by decide) ?_
          exact ih (l1 := l1) (l2 := l2) (l3 := l3) (l4 := (l4 + (1 : Int32))) (fb_mu_ge c1 hm)  I (lv_sub hl [2, 3, 4, 5, 0] rfl) E8
        · have E9 := (E6.trans (if_neg c7))
          refine lv_iload hx hb dX3_nearest_39 (lv_at hl 0 rfl) ?_
          refine lv_istore_n (lv' := [(3, .int (f_X11_at 120 zk l4)), (5, .int (f_X11_at 120 zk l4)), (0, .ref zna), (1, .int l1), (2, .int l2), (4, .int l4)]) hx hb dX3_nearest_41 rfl hl (by decide) rfl (fun ls hl => ?_)
          refine lv_iload hx hb dX3_nearest_42 (lv_at hl 5 rfl) ?_
          refine lv_istore_n (lv' := [(2, .int l4), (3, .int (f_X11_at 120 zk l4)), (5, .int (f_X11_at 120 zk l4)), (0, .ref zna), (1, .int l1), (4, .int l4)]) hx hb dX3_nearest_44 rfl hl (by decide) rfl (fun ls hl => ?_)
          refine lv_iinc (v := (l4 + (1 : Int32))) (lv' := [(4, .int (l4 + (1 : Int32))), (2, .int l4), (3, .int (f_X11_at 120 zk l4)), (5, .int (f_X11_at 120 zk l4)), (0, .ref zna), (1, .int l1)]) hx hb dX3_nearest_45 hl (k := 5) rfl rfl (by decide) rfl (fun ls hl => ?_)
          refine lv_goto (tgt := 7) hx hb dX3_nearest_48 (by decide) ?_
          exact ih (l1 := l1) (l2 := l4) (l3 := (f_X11_at 120 zk l4)) (l4 := (l4 + (1 : Int32))) (fb_mu_ge c1 hm)  I (lv_sub hl [4, 5, 1, 2, 0] rfl) E9
set_option maxHeartbeats 4000000 in
set_option maxRecDepth 100000 in
theorem b_X3_nearest_0 {p : Program} {l : Launch} {e : Env} {s : State} {m : MethodId} {args : Array Value} {below : List Frame} {meth : Method} {c : Code} {D : va_G} {cI cJ : ClassId} {A : Nat → Prop} {zna : Nat} {zn0 : Nat} {zn1 : Nat} {zn3 : Nat} {z : Int32} (X : fb_Bx p s m args meth c cX3_nearest RX3 6 (some .int) D (fb_ty D cI cJ) A) {ze3 : fb_AR} {zk : fb_AR} {l1 : Int32} {ls : Array Slot}  (I : fb_In D A s.heap ((fb_o3 zna zn0 zn1 zn3 ze3) ++ (fb_aw cI zn3 120 zk)) s.heap []) (hl : lv_has ls 6 [(0, .ref zna), (1, .int l1)]) (E : z = f_X3_nearest ze3 zk l1) : W p l e ({ frames := 1, cells := 0, slots := 0, locals := 21 } : Room) s m args below meth c s.heap [] 0 0 (MQ below (vp_Si (fun r => r = z)) args s 0 0 (fun _ => False)) (F0 m 0 ls []) := by
  obtain ⟨hx, hb, hr, hml, hown, hts, hlk, hA, hK, hF⟩ := id X
  refine lv_iconst (v := (-1 : Int32)) hx hb dX3_nearest_0 (by decide) ?_
  refine lv_istore_n (lv' := [(2, .int (-1 : Int32)), (0, .ref zna), (1, .int l1)]) hx hb dX3_nearest_1 rfl hl (by decide) rfl (fun ls hl => ?_)
  refine lv_iconst (v := (-1 : Int32)) hx hb dX3_nearest_2 (by decide) ?_
  refine lv_istore_n (lv' := [(3, .int (-1 : Int32)), (2, .int (-1 : Int32)), (0, .ref zna), (1, .int l1)]) hx hb dX3_nearest_3 rfl hl (by decide) rfl (fun ls hl => ?_)
  refine lv_iconst (v := (0 : Int32)) hx hb dX3_nearest_4 (by decide) ?_
  refine lv_istore (lv' := [(4, .int (0 : Int32)), (3, .int (-1 : Int32)), (2, .int (-1 : Int32)), (0, .ref zna), (1, .int l1)]) hx hb dX3_nearest_5 hl (by decide) rfl (fun ls hl => ?_)
  exact b_X3_nearest_7 X  ((fb_mu (0 : Int32) (ze3 4)) + 1) (l1 := l1) (l2 := (-1 : Int32)) (l3 := (-1 : Int32)) (l4 := (0 : Int32)) (Nat.lt_succ_self _)  I (lv_sub hl [3, 4, 2, 1, 0] rfl) E
set_option maxHeartbeats 4000000 in
set_option maxRecDepth 100000 in
theorem c_X3_nearest (l : Launch) (D : va_G) (cI cJ : ClassId) (zna : Nat) (zn0 : Nat) (zn1 : Nat) (zn3 : Nat) (ze3 : fb_AR) (zk : fb_AR) (l1 : Int32) (sz : Nat)  : Met l yX3_nearest (Cond.code yX3_nearest cX3_nearest 6 (some .int) :: fb_all) ({ frames := 1, cells := 0, slots := 0, locals := 21 } : Room) (fb_PP D (fb_ty D cI cJ) [.ref zna, .int l1] ((fb_o3 zna zn0 zn1 zn3 ze3) ++ (fb_aw cI zn3 120 zk)) sz) (vp_Si (fun r => r = ((f_X3_nearest ze3 zk l1)))) 0 0 (fun _ => False) := by
  refine fb_entR (by decide +kernel) (Nat.le_of_ble_eq_true rfl) ?_
  intro p e s m args below meth c A ls X I hl hin
  exact b_X3_nearest_0 X  I hl rfl
/-! X3_mix -/
def f_X3_mix_14  : Nat → fb_AR → fb_AR → Int64 → Int32 → Int64
  | 0, ze3, zk, _, _ => 0
  | n + 1, ze3, zk, l1, l3 => (if (ze3 4) ≤ l3 then l1 else f_X3_mix_14 n ze3 zk ((l1 * (31 : Int64)) + (((f_X11_at 120 zk l3)).toInt64)) (l3 + (1 : Int32)))
def f_X3_mix (ze3 : fb_AR) (zk : fb_AR) (l1 : Int64) : Int64 := f_X3_mix_14 ((fb_mu (0 : Int32) (ze3 4)) + 1) ze3 zk ((l1 * (31 : Int64)) + (((ze3 4)).toInt64)) (0 : Int32)
set_option maxHeartbeats 4000000 in
set_option maxRecDepth 100000 in
theorem b_X3_mix_14 {p : Program} {l : Launch} {e : Env} {s : State} {m : MethodId} {args : Array Value} {below : List Frame} {meth : Method} {c : Code} {D : va_G} {cI cJ : ClassId} {A : Nat → Prop} {zna : Nat} {zn0 : Nat} {zn1 : Nat} {zn3 : Nat} {z : Int64} (X : fb_Bx p s m args meth c cX3_mix RX3 4 (some .long) D (fb_ty D cI cJ) A)  : ∀ (n : Nat) {ze3 : fb_AR} {zk : fb_AR} {l1 : Int64} {l3 : Int32} {ls : Array Slot} (hm : (fb_mu l3 (ze3 4)) < n) (I : fb_In D A s.heap ((fb_o3 zna zn0 zn1 zn3 ze3) ++ (fb_aw cI zn3 120 zk)) s.heap []) (hl : lv_has ls 4 [(0, .ref zna), (1, .long l1), (3, .int l3)]) (E : z = f_X3_mix_14 n ze3 zk l1 l3), W p l e ({ frames := 1, cells := 0, slots := 0, locals := 21 } : Room) s m args below meth c s.heap [] 0 0 (MQ below (vp_Sl (fun r => r = z)) args s 0 0 (fun _ => False)) (F0 m 14 ls []) := by
  intro n
  obtain ⟨hx, hb, hr, hml, hown, hts, hlk, hA, hK, hF⟩ := id X
  induction n with
  | zero =>
    intro ze3 zk l1 l3 ls hm
    exact absurd hm (Nat.not_lt_zero _)
  | succ n ih =>
    intro ze3 zk l1 l3 ls hm I hl E
    refine lv_iload_n hx hb dX3_mix_14 rfl (lv_at hl 2 rfl) ?_
    refine lv_aload_n hx hb dX3_mix_15 rfl (lv_at hl 0 rfl) ?_
    refine fb_get X I (k := 4) fu_X3 0 rfl rfl (Nat.le_of_ble_eq_true rfl) fw_275 rfl rfl dX3_mix_16 ?_
    refine lv_icmp_ge (tgt := 44) hx hb dX3_mix_19 (by decide) (fun c1 => ?_) (fun c1 => ?_)
    · have E2 := (E.trans (if_pos c1))
      refine lv_lload_n hx hb dX3_mix_44 rfl (lv_at hl 1 rfl) ?_
      exact fb_retRL X E2 dX3_mix_45
    · have E3 := (E.trans (if_neg c1))
      refine lv_lload_n hx hb dX3_mix_22 rfl (lv_at hl 1 rfl) ?_
      refine lv_ldc2 hx hb hown (hts _ fw_1567) dX3_mix_23 ?_
      refine lv_lmul hx hb dX3_mix_26 ?_
      refine lv_aload_n hx hb dX3_mix_27 rfl (lv_at hl 0 rfl) ?_
      refine fb_get X I (k := 3) fu_X3 0 rfl rfl (Nat.le_of_ble_eq_true rfl) fw_273 rfl rfl dX3_mix_28 ?_
      refine lv_iload_n hx hb dX3_mix_31 rfl (lv_at hl 2 rfl) ?_
      refine fb_roI X I (fb_runSN (As := [.ref zn3, .int l3]) (rest := [.long (l1 * (31 : Int64))]) X I hl (c_X11_at l D cI cJ zn3 120 zk l3 _ (by decide)) fw_686 rfl rfl (List.mem_of_getElem? (i := 38) rfl) fw_191 fw_685 (by decide +kernel : fb_hd yX11_at 2) ⟨Nat.le_of_ble_eq_true rfl, Nat.le_of_ble_eq_true rfl⟩ [1] (by decide) rfl rfl rfl (Nat.le_of_ble_eq_true rfl) ⟨Nat.zero_le _, Nat.zero_le _⟩ dX3_mix_32) ?_
      refine lv_i2l (v := ((f_X11_at 120 zk l3)).toInt64) hx hb dX3_mix_35 rfl ?_
      refine lv_ladd hx hb dX3_mix_36 ?_
      refine lv_lstore_n (lv' := [(1, .long ((l1 * (31 : Int64)) + (((f_X11_at 120 zk l3)).toInt64))), (0, .ref zna), (3, .int l3)]) hx hb dX3_mix_37 rfl hl (by decide) rfl (fun ls hl => ?_)
      refine lv_iinc (v := (l3 + (1 : Int32))) (lv' := [(3, .int (l3 + (1 : Int32))), (1, .long ((l1 * (31 : Int64)) + (((f_X11_at 120 zk l3)).toInt64))), (0, .ref zna)]) hx hb dX3_mix_38 hl (k := 2) rfl rfl (by decide) rfl (fun ls hl => ?_)
      refine lv_goto (tgt := 14) hx hb dX3_mix_41 (by decide) ?_
      exact ih (l1 := ((l1 * (31 : Int64)) + (((f_X11_at 120 zk l3)).toInt64))) (l3 := (l3 + (1 : Int32))) (fb_mu_ge c1 hm)  I (lv_sub hl [2, 1, 0] rfl) E3
set_option maxHeartbeats 4000000 in
set_option maxRecDepth 100000 in
theorem b_X3_mix_0 {p : Program} {l : Launch} {e : Env} {s : State} {m : MethodId} {args : Array Value} {below : List Frame} {meth : Method} {c : Code} {D : va_G} {cI cJ : ClassId} {A : Nat → Prop} {zna : Nat} {zn0 : Nat} {zn1 : Nat} {zn3 : Nat} {z : Int64} (X : fb_Bx p s m args meth c cX3_mix RX3 4 (some .long) D (fb_ty D cI cJ) A) {ze3 : fb_AR} {zk : fb_AR} {l1 : Int64} {ls : Array Slot}  (I : fb_In D A s.heap ((fb_o3 zna zn0 zn1 zn3 ze3) ++ (fb_aw cI zn3 120 zk)) s.heap []) (hl : lv_has ls 4 [(0, .ref zna), (1, .long l1)]) (E : z = f_X3_mix ze3 zk l1) : W p l e ({ frames := 1, cells := 0, slots := 0, locals := 21 } : Room) s m args below meth c s.heap [] 0 0 (MQ below (vp_Sl (fun r => r = z)) args s 0 0 (fun _ => False)) (F0 m 0 ls []) := by
  obtain ⟨hx, hb, hr, hml, hown, hts, hlk, hA, hK, hF⟩ := id X
  refine lv_lload_n hx hb dX3_mix_0 rfl (lv_at hl 1 rfl) ?_
  refine lv_ldc2 hx hb hown (hts _ fw_1567) dX3_mix_1 ?_
  refine lv_lmul hx hb dX3_mix_4 ?_
  refine lv_aload_n hx hb dX3_mix_5 rfl (lv_at hl 0 rfl) ?_
  refine fb_get X I (k := 4) fu_X3 0 rfl rfl (Nat.le_of_ble_eq_true rfl) fw_275 rfl rfl dX3_mix_6 ?_
  refine lv_i2l (v := ((ze3 4)).toInt64) hx hb dX3_mix_9 rfl ?_
  refine lv_ladd hx hb dX3_mix_10 ?_
  refine lv_lstore_n (lv' := [(1, .long ((l1 * (31 : Int64)) + (((ze3 4)).toInt64))), (0, .ref zna)]) hx hb dX3_mix_11 rfl hl (by decide) rfl (fun ls hl => ?_)
  refine lv_iconst (v := (0 : Int32)) hx hb dX3_mix_12 (by decide) ?_
  refine lv_istore_n (lv' := [(3, .int (0 : Int32)), (1, .long ((l1 * (31 : Int64)) + (((ze3 4)).toInt64))), (0, .ref zna)]) hx hb dX3_mix_13 rfl hl (by decide) rfl (fun ls hl => ?_)
  exact b_X3_mix_14 X  ((fb_mu (0 : Int32) (ze3 4)) + 1) (l1 := ((l1 * (31 : Int64)) + (((ze3 4)).toInt64))) (l3 := (0 : Int32)) (Nat.lt_succ_self _)  I (lv_sub hl [2, 1, 0] rfl) E
set_option maxHeartbeats 4000000 in
set_option maxRecDepth 100000 in
theorem c_X3_mix (l : Launch) (D : va_G) (cI cJ : ClassId) (zna : Nat) (zn0 : Nat) (zn1 : Nat) (zn3 : Nat) (ze3 : fb_AR) (zk : fb_AR) (l1 : Int64) (sz : Nat)  : Met l yX3_mix (Cond.code yX3_mix cX3_mix 4 (some .long) :: fb_all) ({ frames := 1, cells := 0, slots := 0, locals := 21 } : Room) (fb_PP D (fb_ty D cI cJ) [.ref zna, .long l1] ((fb_o3 zna zn0 zn1 zn3 ze3) ++ (fb_aw cI zn3 120 zk)) sz) (vp_Sl (fun r => r = ((f_X3_mix ze3 zk l1)))) 0 0 (fun _ => False) := by
  refine fb_entR (by decide +kernel) (Nat.le_of_ble_eq_true rfl) ?_
  intro p e s m args below meth c A ls X I hl hin
  exact b_X3_mix_0 X  I hl rfl
/-! X11_nameNear -/
def f_X11_nameNear (ze3 : fb_AR) (zk : fb_AR) (l1 : Int32) : Int32 := (f_X3_nearest ze3 zk l1)
set_option maxHeartbeats 4000000 in
set_option maxRecDepth 100000 in
theorem b_X11_nameNear_0 {p : Program} {l : Launch} {e : Env} {s : State} {m : MethodId} {args : Array Value} {below : List Frame} {meth : Method} {c : Code} {D : va_G} {cI cJ : ClassId} {A : Nat → Prop} {zb : Nat} {zr0 : Nat} {zna : Nat} {zr2 : Nat} {zr3 : Nat} {zr4 : Nat} {zr5 : Nat} {zr6 : Nat} {zr7 : Nat} {zr8 : Nat} {zr9 : Nat} {zn0 : Nat} {zn1 : Nat} {zn3 : Nat} {z : Int32} (X : fb_Bx p s m args meth c cX11_nameNear RX11 2 (some .int) D (fb_ty D cI cJ) A) {ze3 : fb_AR} {zk : fb_AR} {l1 : Int32} {ls : Array Slot} (gA : f_X11_isNoAddress l1 = 0) (I : fb_In D A s.heap ((fb_o11 zb zr0 zna zr2 zr3 zr4 zr5 zr6 zr7 zr8 zr9) ++ ((fb_o3 zna zn0 zn1 zn3 ze3) ++ (fb_aw cI zn3 120 zk))) s.heap []) (hl : lv_has ls 2 [(0, .ref zb), (1, .int l1)]) (E : z = f_X11_nameNear ze3 zk l1) : W p l e ({ frames := 2, cells := 0, slots := 0, locals := 46 } : Room) s m args below meth c s.heap [] 0 0 (MQ below (vp_Si (fun r => r = z)) args s 0 0 (fun _ => False)) (F0 m 0 ls []) := by
  obtain ⟨hx, hb, hr, hml, hown, hts, hlk, hA, hK, hF⟩ := id X
  refine lv_iload_n hx hb dX11_nameNear_0 rfl (lv_at hl 1 rfl) ?_
  refine fb_roI X I (fb_runS (As := [.int l1]) (rest := []) X I hl (c_X11_isNoAddress l D cI cJ l1 _) (fb_goodS fw_1717 fw_1718 fw_191 fw_1719) rfl rfl (by decide +kernel : fb_hd yX11_isNoAddress 1) ⟨Nat.le_of_ble_eq_true rfl, Nat.le_of_ble_eq_true rfl⟩ [] (by decide) rfl rfl rfl (Nat.le_of_ble_eq_true rfl) ⟨Nat.zero_le _, Nat.zero_le _⟩ dX11_nameNear_1) ?_
  refine lv_if_eq (tgt := 17) hx hb dX11_nameNear_4 (by decide) (fun _ => ?_) (fun c1 => absurd gA c1)
  refine lv_aload_n hx hb dX11_nameNear_17 rfl (lv_at hl 0 rfl) ?_
  refine fb_get X I (k := 1) fu_X11 0 rfl rfl (Nat.le_of_ble_eq_true rfl) fw_688 rfl rfl dX11_nameNear_18 ?_
  refine lv_iload_n hx hb dX11_nameNear_21 rfl (lv_at hl 1 rfl) ?_
  refine fb_roI X I (fb_runV (As := [.int l1]) (rest := []) (q0 := 1) X I hl (c_X3_nearest l D cI cJ zna zn0 zn1 zn3 ze3 zk l1 _) (fb_goodV fw_1721 fw_1722 fw_1723 fw_193 fw_1724) rfl rfl rfl (by decide +kernel : fb_hd yX3_nearest 1) ⟨Nat.le_of_ble_eq_true rfl, Nat.le_of_ble_eq_true rfl⟩ [1, 2] (by decide) rfl rfl rfl rfl rfl rfl (Nat.le_of_ble_eq_true rfl) ⟨Nat.zero_le _, Nat.zero_le _⟩ dX11_nameNear_22) ?_
  exact fb_retRI X E rfl dX11_nameNear_25
set_option maxHeartbeats 4000000 in
set_option maxRecDepth 100000 in
theorem c_X11_nameNear (l : Launch) (D : va_G) (cI cJ : ClassId) (zb : Nat) (zr0 : Nat) (zna : Nat) (zr2 : Nat) (zr3 : Nat) (zr4 : Nat) (zr5 : Nat) (zr6 : Nat) (zr7 : Nat) (zr8 : Nat) (zr9 : Nat) (zn0 : Nat) (zn1 : Nat) (zn3 : Nat) (ze3 : fb_AR) (zk : fb_AR) (l1 : Int32) (sz : Nat) (gA : f_X11_isNoAddress l1 = 0) : Met l yX11_nameNear (Cond.code yX11_nameNear cX11_nameNear 2 (some .int) :: fb_all) ({ frames := 2, cells := 0, slots := 0, locals := 46 } : Room) (fb_PP D (fb_ty D cI cJ) [.ref zb, .int l1] ((fb_o11 zb zr0 zna zr2 zr3 zr4 zr5 zr6 zr7 zr8 zr9) ++ ((fb_o3 zna zn0 zn1 zn3 ze3) ++ (fb_aw cI zn3 120 zk))) sz) (vp_Si (fun r => r = ((f_X11_nameNear ze3 zk l1)))) 0 0 (fun _ => False) := by
  refine fb_entR (by decide +kernel) (Nat.le_of_ble_eq_true rfl) ?_
  intro p e s m args below meth c A ls X I hl hin
  exact b_X11_nameNear_0 X gA I hl rfl
/-! X11_lineOf -/
def f_X11_lineOf (zs : fb_MS) (ze4 : fb_AR) (zpl : fb_AR) (l1 : Int32) : Int32 := (if (f_X11_at 11008 zpl (f_X11_placeOf l1 (((zs).2.2.2.2.2).1 2))) ≤ 0 then (-1 : Int32) else (f_X11_at 11008 zpl (f_X11_placeOf l1 (((zs).2.2.2.2.2).1 2))))
set_option maxHeartbeats 4000000 in
set_option maxRecDepth 100000 in
theorem b_X11_lineOf_0 {p : Program} {l : Launch} {e : Env} {s : State} {m : MethodId} {args : Array Value} {below : List Frame} {meth : Method} {c : Code} {D : va_G} {cI cJ : ClassId} {A : Nat → Prop} {zb : Nat} {zr0 : Nat} {zr1 : Nat} {zr2 : Nat} {zr3 : Nat} {zpa : Nat} {zr6 : Nat} {zr7 : Nat} {zr8 : Nat} {zr9 : Nat} {zq : Nat → Nat} {zp0 : Nat} {zp1 : Nat} {zp2 : Nat} {zp3 : Nat} {zp4 : Nat} {zp5 : Nat} {zp6 : Nat} {zp7 : Nat} {zp9 : Nat} {z : Int32} (X : fb_Bx p s m args meth c cX11_lineOf RX11 3 (some .int) D (fb_ty D cI cJ) A) {zs : fb_MS} {zw : fb_AR} {ze4 : fb_AR} {zpl : fb_AR} {l1 : Int32} {ls : Array Slot} (gA : f_X11_isNoAddress l1 = 0) (I : fb_In D A s.heap ((fb_o11 zb zr0 zr1 zr2 zr3 zpa (zq 0) zr6 zr7 zr8 zr9) ++ ((fb_mw cI zq zs zw) ++ ((fb_o4 zpa zp0 zp1 zp2 zp3 zp4 zp5 zp6 zp7 zp9 ze4) ++ (fb_aw cI zp6 11008 zpl)))) s.heap []) (hl : lv_has ls 3 [(0, .ref zb), (1, .int l1)]) (E : z = f_X11_lineOf zs ze4 zpl l1) : W p l e ({ frames := 1, cells := 0, slots := 0, locals := 40 } : Room) s m args below meth c s.heap [] 0 0 (MQ below (vp_Si (fun r => r = z)) args s 0 0 (fun _ => False)) (F0 m 0 ls []) := by
  obtain ⟨hx, hb, hr, hml, hown, hts, hlk, hA, hK, hF⟩ := id X
  refine lv_iload_n hx hb dX11_lineOf_0 rfl (lv_at hl 1 rfl) ?_
  refine fb_roI X I (fb_runS (As := [.int l1]) (rest := []) X I hl (c_X11_isNoAddress l D cI cJ l1 _) (fb_goodS fw_1717 fw_1718 fw_191 fw_1719) rfl rfl (by decide +kernel : fb_hd yX11_isNoAddress 1) ⟨Nat.le_of_ble_eq_true rfl, Nat.le_of_ble_eq_true rfl⟩ [] (by decide) rfl rfl rfl (Nat.le_of_ble_eq_true rfl) ⟨Nat.zero_le _, Nat.zero_le _⟩ dX11_lineOf_1) ?_
  refine lv_if_eq (tgt := 17) hx hb dX11_lineOf_4 (by decide) (fun _ => ?_) (fun c1 => absurd gA c1)
  refine lv_aload_n hx hb dX11_lineOf_17 rfl (lv_at hl 0 rfl) ?_
  refine fb_get X I (k := 4) fu_X11 0 rfl rfl (Nat.le_of_ble_eq_true rfl) fw_691 rfl rfl dX11_lineOf_18 ?_
  refine fb_get X I (k := 6) fu_X4 9 rfl rfl (Nat.le_of_ble_eq_true rfl) fw_406 rfl rfl dX11_lineOf_21 ?_
  refine lv_iload_n hx hb dX11_lineOf_24 rfl (lv_at hl 1 rfl) ?_
  refine lv_aload_n hx hb dX11_lineOf_25 rfl (lv_at hl 0 rfl) ?_
  refine fb_get X I (k := 5) fu_X11 0 rfl rfl (Nat.le_of_ble_eq_true rfl) fw_692 rfl rfl dX11_lineOf_26 ?_
  refine fb_get X I (k := 4) fu_X2 1 rfl rfl (Nat.le_of_ble_eq_true rfl) fw_523 rfl rfl dX11_lineOf_29 ?_
  refine fb_get X I (k := 2) fu_X5 6 rfl rfl (Nat.le_of_ble_eq_true rfl) fw_464 rfl rfl dX11_lineOf_32 ?_
  refine fb_roI X I (fb_runS (As := [.int l1, .int (((zs).2.2.2.2.2).1 2)]) (rest := [.ref zp6]) X I hl (c_X11_placeOf l D cI cJ l1 (((zs).2.2.2.2.2).1 2) _) (fb_goodS fw_1732 fw_1115 fw_191 fw_1116) rfl rfl (by decide +kernel : fb_hd yX11_placeOf 2) ⟨Nat.le_of_ble_eq_true rfl, Nat.le_of_ble_eq_true rfl⟩ [] (by decide) rfl rfl rfl (Nat.le_of_ble_eq_true rfl) ⟨Nat.zero_le _, Nat.zero_le _⟩ dX11_lineOf_35) ?_
  refine fb_roI X I (fb_runS (As := [.ref zp6, .int (f_X11_placeOf l1 (((zs).2.2.2.2.2).1 2))]) (rest := []) X I hl (c_X11_at l D cI cJ zp6 11008 zpl (f_X11_placeOf l1 (((zs).2.2.2.2.2).1 2)) _ (by decide)) (fb_goodS fw_1569 fw_685 fw_191 fw_686) rfl rfl (by decide +kernel : fb_hd yX11_at 2) ⟨Nat.le_of_ble_eq_true rfl, Nat.le_of_ble_eq_true rfl⟩ [10] (by decide) rfl rfl rfl (Nat.le_of_ble_eq_true rfl) ⟨Nat.zero_le _, Nat.zero_le _⟩ dX11_lineOf_38) ?_
  refine lv_istore_n (lv' := [(2, .int (f_X11_at 11008 zpl (f_X11_placeOf l1 (((zs).2.2.2.2.2).1 2)))), (0, .ref zb), (1, .int l1)]) hx hb dX11_lineOf_41 rfl hl (by decide) rfl (fun ls hl => ?_)
  refine lv_iload_n hx hb dX11_lineOf_42 rfl (lv_at hl 0 rfl) ?_
  refine lv_if_le (tgt := 50) hx hb dX11_lineOf_43 (by decide) (fun c2 => ?_) (fun c2 => ?_)
  · have E3 := (E.trans (if_pos c2))
    refine lv_iconst (v := (-1 : Int32)) hx hb dX11_lineOf_50 (by decide) ?_
    exact fb_retRI X E3 rfl dX11_lineOf_51
  · have E4 := (E.trans (if_neg c2))
    refine lv_iload_n hx hb dX11_lineOf_46 rfl (lv_at hl 0 rfl) ?_
    refine lv_goto (tgt := 51) hx hb dX11_lineOf_47 (by decide) ?_
    exact fb_retRI X E4 rfl dX11_lineOf_51
set_option maxHeartbeats 4000000 in
set_option maxRecDepth 100000 in
theorem c_X11_lineOf (l : Launch) (D : va_G) (cI cJ : ClassId) (zb : Nat) (zr0 : Nat) (zr1 : Nat) (zr2 : Nat) (zr3 : Nat) (zpa : Nat) (zr6 : Nat) (zr7 : Nat) (zr8 : Nat) (zr9 : Nat) (zq : Nat → Nat) (zs : fb_MS) (zw : fb_AR) (zp0 : Nat) (zp1 : Nat) (zp2 : Nat) (zp3 : Nat) (zp4 : Nat) (zp5 : Nat) (zp6 : Nat) (zp7 : Nat) (zp9 : Nat) (ze4 : fb_AR) (zpl : fb_AR) (l1 : Int32) (sz : Nat) (gA : f_X11_isNoAddress l1 = 0) : Met l yX11_lineOf (Cond.code yX11_lineOf cX11_lineOf 3 (some .int) :: fb_all) ({ frames := 1, cells := 0, slots := 0, locals := 40 } : Room) (fb_PP D (fb_ty D cI cJ) [.ref zb, .int l1] ((fb_o11 zb zr0 zr1 zr2 zr3 zpa (zq 0) zr6 zr7 zr8 zr9) ++ ((fb_mw cI zq zs zw) ++ ((fb_o4 zpa zp0 zp1 zp2 zp3 zp4 zp5 zp6 zp7 zp9 ze4) ++ (fb_aw cI zp6 11008 zpl)))) sz) (vp_Si (fun r => r = ((f_X11_lineOf zs ze4 zpl l1)))) 0 0 (fun _ => False) := by
  refine fb_entR (by decide +kernel) (Nat.le_of_ble_eq_true rfl) ?_
  intro p e s m args below meth c A ls X I hl hin
  exact b_X11_lineOf_0 X gA I hl rfl
/-! X11_key -/
def f_X11_key (zs : fb_MS) (ze0 : fb_AR) (l1 : Int32) : Int32 × fb_MS × fb_AR := (((((fb_sP zs ((f_X5_take (zs).2.2.2.2.2 l1)))).2.2.2.2.2).1 5), (fb_sP zs ((f_X5_take (zs).2.2.2.2.2 l1))), ((f_X0_forget ze0)))
set_option maxHeartbeats 4000000 in
set_option maxRecDepth 100000 in
theorem b_X11_key_0 {p : Program} {l : Launch} {e : Env} {s : State} {m : MethodId} {args : Array Value} {below : List Frame} {meth : Method} {c : Code} {D : va_G} {cI cJ : ClassId} {A : Nat → Prop} {zb : Nat} {zr0 : Nat} {zr1 : Nat} {zr2 : Nat} {zr3 : Nat} {zr4 : Nat} {zr6 : Nat} {zh : Nat} {zr8 : Nat} {zr9 : Nat} {zq : Nat → Nat} {zo : Nat} {zn : Nat} {z : Int32 × fb_MS × fb_AR} (X : fb_Bx p s m args meth c cX11_key RX11 2 (some .int) D (fb_ty D cI cJ) A) {zs : fb_MS} {zw : fb_AR} {ze0 : fb_AR} {l1 : Int32} {H : Heap} {locs : List Loc} {ls : Array Slot} (gB : f_X11_isNoByte l1 = 0) (gI : zs.2.2.2.2.2.1 5 < 16) (I : fb_In D A s.heap ((fb_o11 zb zr0 zr1 zr2 zr3 zr4 (zq 0) zr6 zh zr8 zr9) ++ ((fb_mw cI zq zs zw) ++ (fb_o0 zh zo zn ze0))) H locs) (hl : lv_has ls 2 [(0, .ref zb), (1, .int l1)]) (E : z = f_X11_key zs ze0 l1) : W p l e ({ frames := 2, cells := 0, slots := 0, locals := 43 } : Room) s m args below meth c H locs 0 0 (MQ below (fb_QI D A (fun (r : Int32) (_ : fb_AR) => r = z.1) (fun (t : fb_AR) => (fb_o11 zb zr0 zr1 zr2 zr3 zr4 (zq 0) zr6 zh zr8 zr9) ++ ((fb_mw cI zq (z.2.1) (t)) ++ (fb_o0 zh zo zn (z.2.2))))) args s 0 0 A) (F0 m 0 ls []) := by
  obtain ⟨hx, hb, hr, hml, hown, hts, hlk, hA, hK, hF⟩ := id X
  refine lv_iload_n hx hb dX11_key_0 rfl (lv_at hl 1 rfl) ?_
  refine fb_roI X I (fb_runS (As := [.int l1]) (rest := []) X I hl (c_X11_isNoByte l D cI cJ l1 _) (fb_goodS fw_1740 fw_1741 fw_191 fw_1742) rfl rfl (by decide +kernel : fb_hd yX11_isNoByte 1) ⟨Nat.le_of_ble_eq_true rfl, Nat.le_of_ble_eq_true rfl⟩ [] (by decide) rfl rfl rfl (Nat.le_of_ble_eq_true rfl) ⟨Nat.zero_le _, Nat.zero_le _⟩ dX11_key_1) ?_
  refine lv_if_eq (tgt := 17) hx hb dX11_key_4 (by decide) (fun _ => ?_) (fun c1 => absurd gB c1)
  refine lv_aload_n hx hb dX11_key_17 rfl (lv_at hl 0 rfl) ?_
  refine fb_get X I (k := 5) fu_X11 0 rfl rfl (Nat.le_of_ble_eq_true rfl) fw_692 rfl rfl dX11_key_18 ?_
  refine fb_get X I (k := 4) fu_X2 1 rfl rfl (Nat.le_of_ble_eq_true rfl) fw_523 rfl rfl dX11_key_21 ?_
  refine fb_get X I (k := 5) fu_X5 6 rfl rfl (Nat.le_of_ble_eq_true rfl) fw_471 rfl rfl dX11_key_24 ?_
  refine lv_bipush (v := (16 : Int32)) hx hb dX11_key_27 (by decide) ?_
  refine lv_icmp_lt (tgt := 42) hx hb dX11_key_29 (by decide) (fun _ => ?_) (fun c2 => absurd gI c2)
  refine lv_aload_n hx hb dX11_key_42 rfl (lv_at hl 0 rfl) ?_
  refine fb_get X I (k := 7) fu_X11 0 rfl rfl (Nat.le_of_ble_eq_true rfl) fw_694 rfl rfl dX11_key_43 ?_
  refine fb_goV (wn := fun (w3 : Unit) => (fb_o11 zb zr0 zr1 zr2 zr3 zr4 (zq 0) zr6 zh zr8 zr9) ++ ((fb_mw cI zq zs zw) ++ (fb_o0 zh zo zn ((f_X0_forget ze0))))) X I (fb_runV (As := []) (rest := []) (q0 := 9) X I hl (c_X0_forget l D cI cJ zh zo zn ze0 _) (fb_goodV fw_1117 fw_1118 fw_1119 fw_200 fw_1120) rfl rfl rfl (by decide +kernel : fb_hd yX0_forget 0) ⟨Nat.le_of_ble_eq_true rfl, Nat.le_of_ble_eq_true rfl⟩ [9] (by decide) rfl rfl rfl rfl rfl rfl (Nat.le_of_ble_eq_true rfl) ⟨Nat.zero_le _, Nat.zero_le _⟩ dX11_key_46) [9] [0, 1, 2, 3, 4, 5, 6, 7, 8] [0, 1, 2, 3, 4, 5, 6, 7, 8, 9] rfl rfl (by decide) (by decide) (by decide) (fun _ => rfl) ?_
  intro w3 H locs _ I
  refine lv_aload_n hx hb dX11_key_49 rfl (lv_at hl 0 rfl) ?_
  refine fb_get X I (k := 5) fu_X11 0 rfl rfl (Nat.le_of_ble_eq_true rfl) fw_692 rfl rfl dX11_key_50 ?_
  refine fb_get X I (k := 4) fu_X2 1 rfl rfl (Nat.le_of_ble_eq_true rfl) fw_523 rfl rfl dX11_key_53 ?_
  refine lv_iload_n hx hb dX11_key_56 rfl (lv_at hl 1 rfl) ?_
  refine fb_goV (wn := fun (w4 : Unit) => (fb_o11 zb zr0 zr1 zr2 zr3 zr4 (zq 0) zr6 zh zr8 zr9) ++ ((fb_mw cI zq (fb_sP zs ((f_X5_take (zs).2.2.2.2.2 l1))) zw) ++ (fb_o0 zh zo zn ((f_X0_forget ze0))))) X I (fb_runV (As := [.int l1]) (rest := []) (q0 := 6) X I hl (c_X5_take l D cI cJ zq (zs).2.2.2.2.2 l1 _) (fb_goodV fw_1745 fw_1746 fw_1747 fw_199 fw_1748) rfl rfl rfl (by decide +kernel : fb_hd yX5_take 1) ⟨Nat.le_of_ble_eq_true rfl, Nat.le_of_ble_eq_true rfl⟩ [6, 7, 8] (by decide) rfl rfl rfl rfl rfl rfl (Nat.le_of_ble_eq_true rfl) ⟨Nat.zero_le _, Nat.zero_le _⟩ dX11_key_57) [6, 7, 8] [0, 1, 2, 3, 4, 5, 9] [0, 1, 2, 3, 4, 5, 7, 8, 9, 6] rfl rfl (by decide) (by decide) (by decide) (fun _ => rfl) ?_
  intro w4 H locs _ I
  refine lv_aload_n hx hb dX11_key_60 rfl (lv_at hl 0 rfl) ?_
  refine fb_get X I (k := 5) fu_X11 0 rfl rfl (Nat.le_of_ble_eq_true rfl) fw_692 rfl rfl dX11_key_61 ?_
  refine fb_get X I (k := 4) fu_X2 1 rfl rfl (Nat.le_of_ble_eq_true rfl) fw_523 rfl rfl dX11_key_64 ?_
  refine fb_get X I (k := 5) fu_X5 6 rfl rfl (Nat.le_of_ble_eq_true rfl) fw_471 rfl rfl dX11_key_67 ?_
  subst E
  exact fb_retI (u := (zw)) X I rfl rfl dX11_key_70
set_option maxHeartbeats 4000000 in
set_option maxRecDepth 100000 in
theorem c_X11_key (l : Launch) (D : va_G) (cI cJ : ClassId) (zb : Nat) (zr0 : Nat) (zr1 : Nat) (zr2 : Nat) (zr3 : Nat) (zr4 : Nat) (zr6 : Nat) (zh : Nat) (zr8 : Nat) (zr9 : Nat) (zq : Nat → Nat) (zs : fb_MS) (zw : fb_AR) (zo : Nat) (zn : Nat) (ze0 : fb_AR) (l1 : Int32) (sz : Nat) (gB : f_X11_isNoByte l1 = 0) (gI : zs.2.2.2.2.2.1 5 < 16) : Met l yX11_key (Cond.code yX11_key cX11_key 2 (some .int) :: fb_all) ({ frames := 2, cells := 0, slots := 0, locals := 43 } : Room) (fb_PP D (fb_ty D cI cJ) [.ref zb, .int l1] ((fb_o11 zb zr0 zr1 zr2 zr3 zr4 (zq 0) zr6 zh zr8 zr9) ++ ((fb_mw cI zq zs zw) ++ (fb_o0 zh zo zn ze0))) sz) (fb_QI D (va_A ((fb_o11 zb zr0 zr1 zr2 zr3 zr4 (zq 0) zr6 zh zr8 zr9) ++ ((fb_mw cI zq zs zw) ++ (fb_o0 zh zo zn ze0))) sz) (fun (r : Int32) (_ : fb_AR) => r = ((f_X11_key zs ze0 l1)).1) (fun (t : fb_AR) => (fb_o11 zb zr0 zr1 zr2 zr3 zr4 (zq 0) zr6 zh zr8 zr9) ++ ((fb_mw cI zq (((f_X11_key zs ze0 l1)).2.1) (t)) ++ (fb_o0 zh zo zn (((f_X11_key zs ze0 l1)).2.2))))) 0 0 (va_A ((fb_o11 zb zr0 zr1 zr2 zr3 zr4 (zq 0) zr6 zh zr8 zr9) ++ ((fb_mw cI zq zs zw) ++ (fb_o0 zh zo zn ze0))) sz) := by
  refine fb_ent (Qf := fun A => (fb_QI D A (fun (r : Int32) (_ : fb_AR) => r = ((f_X11_key zs ze0 l1)).1) (fun (t : fb_AR) => (fb_o11 zb zr0 zr1 zr2 zr3 zr4 (zq 0) zr6 zh zr8 zr9) ++ ((fb_mw cI zq (((f_X11_key zs ze0 l1)).2.1) (t)) ++ (fb_o0 zh zo zn (((f_X11_key zs ze0 l1)).2.2)))))) (by decide +kernel) (Nat.le_of_ble_eq_true rfl) ?_
  intro p e s m args below meth c A ls X I hl hin
  exact b_X11_key_0 X gB gI I hl rfl
/-! X11_signal -/
def f_X11_signal (zs : fb_MS) (ze0 : fb_AR) : Int32 × fb_MS × fb_AR := (((((fb_sP zs (fb_pR (zs).2.2.2.2.2 4 ((((zs).2.2.2.2.2).1 4) ||| (4 : Int32))))).2.2.2.2.2).1 4), (fb_sP zs (fb_pR (zs).2.2.2.2.2 4 ((((zs).2.2.2.2.2).1 4) ||| (4 : Int32)))), ((f_X0_forget ze0)))
set_option maxHeartbeats 4000000 in
set_option maxRecDepth 100000 in
theorem b_X11_signal_0 {p : Program} {l : Launch} {e : Env} {s : State} {m : MethodId} {args : Array Value} {below : List Frame} {meth : Method} {c : Code} {D : va_G} {cI cJ : ClassId} {A : Nat → Prop} {zb : Nat} {zr0 : Nat} {zr1 : Nat} {zr2 : Nat} {zr3 : Nat} {zr4 : Nat} {zr6 : Nat} {zh : Nat} {zr8 : Nat} {zr9 : Nat} {zq : Nat → Nat} {zo : Nat} {zn : Nat} {z : Int32 × fb_MS × fb_AR} (X : fb_Bx p s m args meth c cX11_signal RX11 1 (some .int) D (fb_ty D cI cJ) A) {zs : fb_MS} {zw : fb_AR} {ze0 : fb_AR} {H : Heap} {locs : List Loc} {ls : Array Slot}  (I : fb_In D A s.heap ((fb_o11 zb zr0 zr1 zr2 zr3 zr4 (zq 0) zr6 zh zr8 zr9) ++ ((fb_mw cI zq zs zw) ++ (fb_o0 zh zo zn ze0))) H locs) (hl : lv_has ls 1 [(0, .ref zb)]) (E : z = f_X11_signal zs ze0) : W p l e ({ frames := 1, cells := 0, slots := 0, locals := 20 } : Room) s m args below meth c H locs 0 0 (MQ below (fb_QI D A (fun (r : Int32) (_ : fb_AR) => r = z.1) (fun (t : fb_AR) => (fb_o11 zb zr0 zr1 zr2 zr3 zr4 (zq 0) zr6 zh zr8 zr9) ++ ((fb_mw cI zq (z.2.1) (t)) ++ (fb_o0 zh zo zn (z.2.2))))) args s 0 0 A) (F0 m 0 ls []) := by
  obtain ⟨hx, hb, hr, hml, hown, hts, hlk, hA, hK, hF⟩ := id X
  refine lv_aload_n hx hb dX11_signal_0 rfl (lv_at hl 0 rfl) ?_
  refine fb_get X I (k := 7) fu_X11 0 rfl rfl (Nat.le_of_ble_eq_true rfl) fw_694 rfl rfl dX11_signal_1 ?_
  refine fb_goV (wn := fun (w1 : Unit) => (fb_o11 zb zr0 zr1 zr2 zr3 zr4 (zq 0) zr6 zh zr8 zr9) ++ ((fb_mw cI zq zs zw) ++ (fb_o0 zh zo zn ((f_X0_forget ze0))))) X I (fb_runV (As := []) (rest := []) (q0 := 9) X I hl (c_X0_forget l D cI cJ zh zo zn ze0 _) (fb_goodV fw_1117 fw_1118 fw_1119 fw_200 fw_1120) rfl rfl rfl (by decide +kernel : fb_hd yX0_forget 0) ⟨Nat.le_of_ble_eq_true rfl, Nat.le_of_ble_eq_true rfl⟩ [9] (by decide) rfl rfl rfl rfl rfl rfl (Nat.le_of_ble_eq_true rfl) ⟨Nat.zero_le _, Nat.zero_le _⟩ dX11_signal_4) [9] [0, 1, 2, 3, 4, 5, 6, 7, 8] [0, 1, 2, 3, 4, 5, 6, 7, 8, 9] rfl rfl (by decide) (by decide) (by decide) (fun _ => rfl) ?_
  intro w1 H locs _ I
  refine lv_aload_n hx hb dX11_signal_7 rfl (lv_at hl 0 rfl) ?_
  refine fb_get X I (k := 5) fu_X11 0 rfl rfl (Nat.le_of_ble_eq_true rfl) fw_692 rfl rfl dX11_signal_8 ?_
  refine fb_get X I (k := 4) fu_X2 1 rfl rfl (Nat.le_of_ble_eq_true rfl) fw_523 rfl rfl dX11_signal_11 ?_
  refine lv_dup hx hb dX11_signal_14 rfl ?_
  refine fb_get X I (k := 4) fu_X5 6 rfl rfl (Nat.le_of_ble_eq_true rfl) fw_468 rfl rfl dX11_signal_15 ?_
  refine lv_iconst (v := (4 : Int32)) hx hb dX11_signal_18 (by decide) ?_
  refine lv_ior hx hb dX11_signal_19 ?_
  refine fb_put X I (k := 4) (wn := (fb_o11 zb zr0 zr1 zr2 zr3 zr4 (zq 0) zr6 zh zr8 zr9) ++ ((fb_mw cI zq (fb_sP zs (fb_pR (zs).2.2.2.2.2 4 ((((zs).2.2.2.2.2).1 4) ||| (4 : Int32)))) zw) ++ (fb_o0 zh zo zn ((f_X0_forget ze0))))) fu_X5 tyX5 tyX5_ok nmX5 6 rfl rfl (Nat.le_of_ble_eq_true rfl) fw_468 rfl rfl rfl rfl rfl (Nat.le_of_ble_eq_true rfl) rfl dX11_signal_20 (fun H locs I => ?_)
  refine lv_aload_n hx hb dX11_signal_23 rfl (lv_at hl 0 rfl) ?_
  refine fb_get X I (k := 5) fu_X11 0 rfl rfl (Nat.le_of_ble_eq_true rfl) fw_692 rfl rfl dX11_signal_24 ?_
  refine fb_get X I (k := 4) fu_X2 1 rfl rfl (Nat.le_of_ble_eq_true rfl) fw_523 rfl rfl dX11_signal_27 ?_
  refine fb_get X I (k := 4) fu_X5 6 rfl rfl (Nat.le_of_ble_eq_true rfl) fw_468 rfl rfl dX11_signal_30 ?_
  subst E
  exact fb_retI (u := (zw)) X I rfl rfl dX11_signal_33
set_option maxHeartbeats 4000000 in
set_option maxRecDepth 100000 in
theorem c_X11_signal (l : Launch) (D : va_G) (cI cJ : ClassId) (zb : Nat) (zr0 : Nat) (zr1 : Nat) (zr2 : Nat) (zr3 : Nat) (zr4 : Nat) (zr6 : Nat) (zh : Nat) (zr8 : Nat) (zr9 : Nat) (zq : Nat → Nat) (zs : fb_MS) (zw : fb_AR) (zo : Nat) (zn : Nat) (ze0 : fb_AR)  (sz : Nat)  : Met l yX11_signal (Cond.code yX11_signal cX11_signal 1 (some .int) :: fb_all) ({ frames := 1, cells := 0, slots := 0, locals := 20 } : Room) (fb_PP D (fb_ty D cI cJ) [.ref zb] ((fb_o11 zb zr0 zr1 zr2 zr3 zr4 (zq 0) zr6 zh zr8 zr9) ++ ((fb_mw cI zq zs zw) ++ (fb_o0 zh zo zn ze0))) sz) (fb_QI D (va_A ((fb_o11 zb zr0 zr1 zr2 zr3 zr4 (zq 0) zr6 zh zr8 zr9) ++ ((fb_mw cI zq zs zw) ++ (fb_o0 zh zo zn ze0))) sz) (fun (r : Int32) (_ : fb_AR) => r = ((f_X11_signal zs ze0)).1) (fun (t : fb_AR) => (fb_o11 zb zr0 zr1 zr2 zr3 zr4 (zq 0) zr6 zh zr8 zr9) ++ ((fb_mw cI zq (((f_X11_signal zs ze0)).2.1) (t)) ++ (fb_o0 zh zo zn (((f_X11_signal zs ze0)).2.2))))) 0 0 (va_A ((fb_o11 zb zr0 zr1 zr2 zr3 zr4 (zq 0) zr6 zh zr8 zr9) ++ ((fb_mw cI zq zs zw) ++ (fb_o0 zh zo zn ze0))) sz) := by
  refine fb_ent (Qf := fun A => (fb_QI D A (fun (r : Int32) (_ : fb_AR) => r = ((f_X11_signal zs ze0)).1) (fun (t : fb_AR) => (fb_o11 zb zr0 zr1 zr2 zr3 zr4 (zq 0) zr6 zh zr8 zr9) ++ ((fb_mw cI zq (((f_X11_signal zs ze0)).2.1) (t)) ++ (fb_o0 zh zo zn (((f_X11_signal zs ze0)).2.2)))))) (by decide +kernel) (Nat.le_of_ble_eq_true rfl) ?_
  intro p e s m args below meth c A ls X I hl hin
  exact b_X11_signal_0 X  I hl rfl
/-! X11_nmi -/
def f_X11_nmi (zs : fb_MS) (ze0 : fb_AR) : Int32 × fb_MS × fb_AR := ((fb_bI (zs).2.2.2.2.1), (fb_sB zs true), ((f_X0_forget ze0)))
set_option maxHeartbeats 4000000 in
set_option maxRecDepth 100000 in
theorem b_X11_nmi_0 {p : Program} {l : Launch} {e : Env} {s : State} {m : MethodId} {args : Array Value} {below : List Frame} {meth : Method} {c : Code} {D : va_G} {cI cJ : ClassId} {A : Nat → Prop} {zb : Nat} {zr0 : Nat} {zr1 : Nat} {zr2 : Nat} {zr3 : Nat} {zr4 : Nat} {zr6 : Nat} {zh : Nat} {zr8 : Nat} {zr9 : Nat} {zq : Nat → Nat} {zo : Nat} {zn : Nat} {z : Int32 × fb_MS × fb_AR} (X : fb_Bx p s m args meth c cX11_nmi RX11 2 (some .boolean) D (fb_ty D cI cJ) A) {zs : fb_MS} {zw : fb_AR} {ze0 : fb_AR} {H : Heap} {locs : List Loc} {ls : Array Slot}  (I : fb_In D A s.heap ((fb_o11 zb zr0 zr1 zr2 zr3 zr4 (zq 0) zr6 zh zr8 zr9) ++ ((fb_mw cI zq zs zw) ++ (fb_o0 zh zo zn ze0))) H locs) (hl : lv_has ls 2 [(0, .ref zb)]) (E : z = f_X11_nmi zs ze0) : W p l e ({ frames := 1, cells := 0, slots := 0, locals := 20 } : Room) s m args below meth c H locs 0 0 (MQ below (fb_QI D A (fun (r : Int32) (_ : fb_AR) => r = z.1) (fun (t : fb_AR) => (fb_o11 zb zr0 zr1 zr2 zr3 zr4 (zq 0) zr6 zh zr8 zr9) ++ ((fb_mw cI zq (z.2.1) (t)) ++ (fb_o0 zh zo zn (z.2.2))))) args s 0 0 A) (F0 m 0 ls []) := by
  obtain ⟨hx, hb, hr, hml, hown, hts, hlk, hA, hK, hF⟩ := id X
  refine lv_aload_n hx hb dX11_nmi_0 rfl (lv_at hl 0 rfl) ?_
  refine fb_get X I (k := 5) fu_X11 0 rfl rfl (Nat.le_of_ble_eq_true rfl) fw_692 rfl rfl dX11_nmi_1 ?_
  refine fb_get X I (k := 16) fu_X2 1 rfl rfl (Nat.le_of_ble_eq_true rfl) fw_547 rfl rfl dX11_nmi_4 ?_
  refine lv_istore_n (lv' := [(1, .int (fb_bI (zs).2.2.2.2.1)), (0, .ref zb)]) hx hb dX11_nmi_7 rfl hl (by decide) rfl (fun ls hl => ?_)
  refine lv_aload_n hx hb dX11_nmi_8 rfl (lv_at hl 1 rfl) ?_
  refine fb_get X I (k := 7) fu_X11 0 rfl rfl (Nat.le_of_ble_eq_true rfl) fw_694 rfl rfl dX11_nmi_9 ?_
  refine fb_goV (wn := fun (w1 : Unit) => (fb_o11 zb zr0 zr1 zr2 zr3 zr4 (zq 0) zr6 zh zr8 zr9) ++ ((fb_mw cI zq zs zw) ++ (fb_o0 zh zo zn ((f_X0_forget ze0))))) X I (fb_runV (As := []) (rest := []) (q0 := 9) X I hl (c_X0_forget l D cI cJ zh zo zn ze0 _) (fb_goodV fw_1117 fw_1118 fw_1119 fw_200 fw_1120) rfl rfl rfl (by decide +kernel : fb_hd yX0_forget 0) ⟨Nat.le_of_ble_eq_true rfl, Nat.le_of_ble_eq_true rfl⟩ [9] (by decide) rfl rfl rfl rfl rfl rfl (Nat.le_of_ble_eq_true rfl) ⟨Nat.zero_le _, Nat.zero_le _⟩ dX11_nmi_12) [9] [0, 1, 2, 3, 4, 5, 6, 7, 8] [0, 1, 2, 3, 4, 5, 6, 7, 8, 9] rfl rfl (by decide) (by decide) (by decide) (fun _ => rfl) ?_
  intro w1 H locs _ I
  refine lv_aload_n hx hb dX11_nmi_15 rfl (lv_at hl 1 rfl) ?_
  refine fb_get X I (k := 5) fu_X11 0 rfl rfl (Nat.le_of_ble_eq_true rfl) fw_692 rfl rfl dX11_nmi_16 ?_
  refine lv_iconst (v := (1 : Int32)) hx hb dX11_nmi_19 (by decide) ?_
  refine fb_put X I (k := 16) (wn := (fb_o11 zb zr0 zr1 zr2 zr3 zr4 (zq 0) zr6 zh zr8 zr9) ++ ((fb_mw cI zq (fb_sB zs true) zw) ++ (fb_o0 zh zo zn ((f_X0_forget ze0))))) fu_X2 tyX2 tyX2_ok nmX2 1 rfl rfl (Nat.le_of_ble_eq_true rfl) fw_547 rfl rfl rfl rfl rfl (Nat.le_of_ble_eq_true rfl) rfl dX11_nmi_20 (fun H locs I => ?_)
  refine lv_iload_n hx hb dX11_nmi_23 rfl (lv_at hl 0 rfl) ?_
  subst E
  exact fb_retI (u := (zw)) X I rfl (fb_nz _) dX11_nmi_24
set_option maxHeartbeats 4000000 in
set_option maxRecDepth 100000 in
theorem c_X11_nmi (l : Launch) (D : va_G) (cI cJ : ClassId) (zb : Nat) (zr0 : Nat) (zr1 : Nat) (zr2 : Nat) (zr3 : Nat) (zr4 : Nat) (zr6 : Nat) (zh : Nat) (zr8 : Nat) (zr9 : Nat) (zq : Nat → Nat) (zs : fb_MS) (zw : fb_AR) (zo : Nat) (zn : Nat) (ze0 : fb_AR)  (sz : Nat)  : Met l yX11_nmi (Cond.code yX11_nmi cX11_nmi 2 (some .boolean) :: fb_all) ({ frames := 1, cells := 0, slots := 0, locals := 20 } : Room) (fb_PP D (fb_ty D cI cJ) [.ref zb] ((fb_o11 zb zr0 zr1 zr2 zr3 zr4 (zq 0) zr6 zh zr8 zr9) ++ ((fb_mw cI zq zs zw) ++ (fb_o0 zh zo zn ze0))) sz) (fb_QI D (va_A ((fb_o11 zb zr0 zr1 zr2 zr3 zr4 (zq 0) zr6 zh zr8 zr9) ++ ((fb_mw cI zq zs zw) ++ (fb_o0 zh zo zn ze0))) sz) (fun (r : Int32) (_ : fb_AR) => r = ((f_X11_nmi zs ze0)).1) (fun (t : fb_AR) => (fb_o11 zb zr0 zr1 zr2 zr3 zr4 (zq 0) zr6 zh zr8 zr9) ++ ((fb_mw cI zq (((f_X11_nmi zs ze0)).2.1) (t)) ++ (fb_o0 zh zo zn (((f_X11_nmi zs ze0)).2.2))))) 0 0 (va_A ((fb_o11 zb zr0 zr1 zr2 zr3 zr4 (zq 0) zr6 zh zr8 zr9) ++ ((fb_mw cI zq zs zw) ++ (fb_o0 zh zo zn ze0))) sz) := by
  refine fb_ent (Qf := fun A => (fb_QI D A (fun (r : Int32) (_ : fb_AR) => r = ((f_X11_nmi zs ze0)).1) (fun (t : fb_AR) => (fb_o11 zb zr0 zr1 zr2 zr3 zr4 (zq 0) zr6 zh zr8 zr9) ++ ((fb_mw cI zq (((f_X11_nmi zs ze0)).2.1) (t)) ++ (fb_o0 zh zo zn (((f_X11_nmi zs ze0)).2.2)))))) (by decide +kernel) (Nat.le_of_ble_eq_true rfl) ?_
  intro p e s m args below meth c A ls X I hl hin
  exact b_X11_nmi_0 X  I hl rfl
/-! X11_poke -/
def f_X11_poke (zs : fb_MS) (ze0 : fb_AR) (l1 : Int32) (l2 : Int32) : Int32 × fb_MS × fb_AR := ((f_X11_at 11008 ((zs).2.1) (f_X11_placeOf l1 (((zs).2.2.2.2.2).1 2))), (fb_sM zs ((f_X11_put 11008 ((zs).2.1) (f_X11_placeOf l1 (((zs).2.2.2.2.2).1 2)) l2))), ((f_X0_forget ze0)))
set_option maxHeartbeats 4000000 in
set_option maxRecDepth 100000 in
theorem b_X11_poke_0 {p : Program} {l : Launch} {e : Env} {s : State} {m : MethodId} {args : Array Value} {below : List Frame} {meth : Method} {c : Code} {D : va_G} {cI cJ : ClassId} {A : Nat → Prop} {zb : Nat} {zr0 : Nat} {zr1 : Nat} {zr2 : Nat} {zr3 : Nat} {zr4 : Nat} {zr6 : Nat} {zh : Nat} {zr8 : Nat} {zr9 : Nat} {zq : Nat → Nat} {zo : Nat} {zn : Nat} {z : Int32 × fb_MS × fb_AR} (X : fb_Bx p s m args meth c cX11_poke RX11 5 (some .int) D (fb_ty D cI cJ) A) {zs : fb_MS} {zw : fb_AR} {ze0 : fb_AR} {l1 : Int32} {l2 : Int32} {H : Heap} {locs : List Loc} {ls : Array Slot} (gA : f_X11_isNoAddress l1 = 0) (gP : f_X11_isPort l1 = 0) (gB : f_X11_isNoByte l2 = 0) (I : fb_In D A s.heap ((fb_o11 zb zr0 zr1 zr2 zr3 zr4 (zq 0) zr6 zh zr8 zr9) ++ ((fb_mw cI zq zs zw) ++ (fb_o0 zh zo zn ze0))) H locs) (hl : lv_has ls 5 [(0, .ref zb), (1, .int l1), (2, .int l2)]) (E : z = f_X11_poke zs ze0 l1 l2) : W p l e ({ frames := 1, cells := 0, slots := 0, locals := 40 } : Room) s m args below meth c H locs 0 0 (MQ below (fb_QI D A (fun (r : Int32) (_ : fb_AR) => r = z.1) (fun (t : fb_AR) => (fb_o11 zb zr0 zr1 zr2 zr3 zr4 (zq 0) zr6 zh zr8 zr9) ++ ((fb_mw cI zq (z.2.1) (t)) ++ (fb_o0 zh zo zn (z.2.2))))) args s 0 0 A) (F0 m 0 ls []) := by
  obtain ⟨hx, hb, hr, hml, hown, hts, hlk, hA, hK, hF⟩ := id X
  refine lv_iload_n hx hb dX11_poke_0 rfl (lv_at hl 1 rfl) ?_
  refine fb_roI X I (fb_runS (As := [.int l1]) (rest := []) X I hl (c_X11_isNoAddress l D cI cJ l1 _) (fb_goodS fw_1717 fw_1718 fw_191 fw_1719) rfl rfl (by decide +kernel : fb_hd yX11_isNoAddress 1) ⟨Nat.le_of_ble_eq_true rfl, Nat.le_of_ble_eq_true rfl⟩ [] (by decide) rfl rfl rfl (Nat.le_of_ble_eq_true rfl) ⟨Nat.zero_le _, Nat.zero_le _⟩ dX11_poke_1) ?_
  refine lv_if_ne (tgt := 14) hx hb dX11_poke_4 (by decide) (fun c1 => absurd gA c1) (fun _ => ?_)
  refine lv_iload_n hx hb dX11_poke_7 rfl (lv_at hl 1 rfl) ?_
  refine fb_roI X I (fb_runS (As := [.int l1]) (rest := []) X I hl (c_X11_isPort l D cI cJ l1 _) (fb_goodS fw_1756 fw_1308 fw_191 fw_1309) rfl rfl (by decide +kernel : fb_hd yX11_isPort 1) ⟨Nat.le_of_ble_eq_true rfl, Nat.le_of_ble_eq_true rfl⟩ [] (by decide) rfl rfl rfl (Nat.le_of_ble_eq_true rfl) ⟨Nat.zero_le _, Nat.zero_le _⟩ dX11_poke_8) ?_
  refine lv_if_eq (tgt := 24) hx hb dX11_poke_11 (by decide) (fun _ => ?_) (fun c2 => absurd gP c2)
  refine lv_iload_n hx hb dX11_poke_24 rfl (lv_at hl 2 rfl) ?_
  refine fb_roI X I (fb_runS (As := [.int l2]) (rest := []) X I hl (c_X11_isNoByte l D cI cJ l2 _) (fb_goodS fw_1740 fw_1741 fw_191 fw_1742) rfl rfl (by decide +kernel : fb_hd yX11_isNoByte 1) ⟨Nat.le_of_ble_eq_true rfl, Nat.le_of_ble_eq_true rfl⟩ [] (by decide) rfl rfl rfl (Nat.le_of_ble_eq_true rfl) ⟨Nat.zero_le _, Nat.zero_le _⟩ dX11_poke_25) ?_
  refine lv_if_eq (tgt := 41) hx hb dX11_poke_28 (by decide) (fun _ => ?_) (fun c3 => absurd gB c3)
  refine lv_iload_n hx hb dX11_poke_41 rfl (lv_at hl 1 rfl) ?_
  refine lv_aload_n hx hb dX11_poke_42 rfl (lv_at hl 0 rfl) ?_
  refine fb_get X I (k := 5) fu_X11 0 rfl rfl (Nat.le_of_ble_eq_true rfl) fw_692 rfl rfl dX11_poke_43 ?_
  refine fb_get X I (k := 4) fu_X2 1 rfl rfl (Nat.le_of_ble_eq_true rfl) fw_523 rfl rfl dX11_poke_46 ?_
  refine fb_get X I (k := 2) fu_X5 6 rfl rfl (Nat.le_of_ble_eq_true rfl) fw_464 rfl rfl dX11_poke_49 ?_
  refine fb_roI X I (fb_runS (As := [.int l1, .int (((zs).2.2.2.2.2).1 2)]) (rest := []) X I hl (c_X11_placeOf l D cI cJ l1 (((zs).2.2.2.2.2).1 2) _) (fb_goodS fw_1732 fw_1115 fw_191 fw_1116) rfl rfl (by decide +kernel : fb_hd yX11_placeOf 2) ⟨Nat.le_of_ble_eq_true rfl, Nat.le_of_ble_eq_true rfl⟩ [] (by decide) rfl rfl rfl (Nat.le_of_ble_eq_true rfl) ⟨Nat.zero_le _, Nat.zero_le _⟩ dX11_poke_52) ?_
  refine lv_istore_n (lv' := [(3, .int (f_X11_placeOf l1 (((zs).2.2.2.2.2).1 2))), (0, .ref zb), (1, .int l1), (2, .int l2)]) hx hb dX11_poke_55 rfl hl (by decide) rfl (fun ls hl => ?_)
  refine lv_aload_n hx hb dX11_poke_56 rfl (lv_at hl 1 rfl) ?_
  refine fb_get X I (k := 5) fu_X11 0 rfl rfl (Nat.le_of_ble_eq_true rfl) fw_692 rfl rfl dX11_poke_57 ?_
  refine fb_get X I (k := 0) fu_X2 1 rfl rfl (Nat.le_of_ble_eq_true rfl) fw_515 rfl rfl dX11_poke_60 ?_
  refine lv_iload_n hx hb dX11_poke_63 rfl (lv_at hl 0 rfl) ?_
  refine fb_roI X I (fb_runS (As := [.ref (zq 1), .int (f_X11_placeOf l1 (((zs).2.2.2.2.2).1 2))]) (rest := []) X I hl (c_X11_at l D cI cJ (zq 1) 11008 ((zs).2.1) (f_X11_placeOf l1 (((zs).2.2.2.2.2).1 2)) _ (by decide)) (fb_goodS fw_1569 fw_685 fw_191 fw_686) rfl rfl (by decide +kernel : fb_hd yX11_at 2) ⟨Nat.le_of_ble_eq_true rfl, Nat.le_of_ble_eq_true rfl⟩ [2] (by decide) rfl rfl rfl (Nat.le_of_ble_eq_true rfl) ⟨Nat.zero_le _, Nat.zero_le _⟩ dX11_poke_64) ?_
  refine lv_istore (lv' := [(4, .int (f_X11_at 11008 ((zs).2.1) (f_X11_placeOf l1 (((zs).2.2.2.2.2).1 2)))), (3, .int (f_X11_placeOf l1 (((zs).2.2.2.2.2).1 2))), (0, .ref zb), (1, .int l1), (2, .int l2)]) hx hb dX11_poke_67 hl (by decide) rfl (fun ls hl => ?_)
  refine lv_aload_n hx hb dX11_poke_69 rfl (lv_at hl 2 rfl) ?_
  refine fb_get X I (k := 7) fu_X11 0 rfl rfl (Nat.le_of_ble_eq_true rfl) fw_694 rfl rfl dX11_poke_70 ?_
  refine fb_goV (wn := fun (w4 : Unit) => (fb_o11 zb zr0 zr1 zr2 zr3 zr4 (zq 0) zr6 zh zr8 zr9) ++ ((fb_mw cI zq zs zw) ++ (fb_o0 zh zo zn ((f_X0_forget ze0))))) X I (fb_runV (As := []) (rest := []) (q0 := 9) X I hl (c_X0_forget l D cI cJ zh zo zn ze0 _) (fb_goodV fw_1117 fw_1118 fw_1119 fw_200 fw_1120) rfl rfl rfl (by decide +kernel : fb_hd yX0_forget 0) ⟨Nat.le_of_ble_eq_true rfl, Nat.le_of_ble_eq_true rfl⟩ [9] (by decide) rfl rfl rfl rfl rfl rfl (Nat.le_of_ble_eq_true rfl) ⟨Nat.zero_le _, Nat.zero_le _⟩ dX11_poke_73) [9] [0, 1, 2, 3, 4, 5, 6, 7, 8] [0, 1, 2, 3, 4, 5, 6, 7, 8, 9] rfl rfl (by decide) (by decide) (by decide) (fun _ => rfl) ?_
  intro w4 H locs _ I
  refine lv_aload_n hx hb dX11_poke_76 rfl (lv_at hl 2 rfl) ?_
  refine fb_get X I (k := 5) fu_X11 0 rfl rfl (Nat.le_of_ble_eq_true rfl) fw_692 rfl rfl dX11_poke_77 ?_
  refine fb_get X I (k := 0) fu_X2 1 rfl rfl (Nat.le_of_ble_eq_true rfl) fw_515 rfl rfl dX11_poke_80 ?_
  refine lv_iload_n hx hb dX11_poke_83 rfl (lv_at hl 1 rfl) ?_
  refine lv_iload_n hx hb dX11_poke_84 rfl (lv_at hl 4 rfl) ?_
  refine fb_goV (wn := fun (w5 : Unit) => (fb_o11 zb zr0 zr1 zr2 zr3 zr4 (zq 0) zr6 zh zr8 zr9) ++ ((fb_mw cI zq (fb_sM zs ((f_X11_put 11008 ((zs).2.1) (f_X11_placeOf l1 (((zs).2.2.2.2.2).1 2)) l2))) zw) ++ (fb_o0 zh zo zn ((f_X0_forget ze0))))) X I (fb_runS (As := [.ref (zq 1), .int (f_X11_placeOf l1 (((zs).2.2.2.2.2).1 2)), .int l2]) (rest := []) X I hl (c_X11_put l D cI cJ (zq 1) 11008 ((zs).2.1) (f_X11_placeOf l1 (((zs).2.2.2.2.2).1 2)) l2 _ (by decide)) (fb_goodS fw_1758 fw_755 fw_191 fw_756) rfl rfl (by decide +kernel : fb_hd yX11_put 3) ⟨Nat.le_of_ble_eq_true rfl, Nat.le_of_ble_eq_true rfl⟩ [2] (by decide) rfl rfl rfl (Nat.le_of_ble_eq_true rfl) ⟨Nat.zero_le _, Nat.zero_le _⟩ dX11_poke_85) [2] [0, 1, 3, 4, 5, 6, 7, 8, 9] [0, 1, 9, 2, 3, 4, 5, 6, 7, 8] rfl rfl (by decide) (by decide) (by decide) (fun _ => rfl) ?_
  intro w5 H locs _ I
  refine lv_iload hx hb dX11_poke_88 (lv_at hl 0 rfl) ?_
  subst E
  exact fb_retI (u := (zw)) X I rfl rfl dX11_poke_90
set_option maxHeartbeats 4000000 in
set_option maxRecDepth 100000 in
theorem c_X11_poke (l : Launch) (D : va_G) (cI cJ : ClassId) (zb : Nat) (zr0 : Nat) (zr1 : Nat) (zr2 : Nat) (zr3 : Nat) (zr4 : Nat) (zr6 : Nat) (zh : Nat) (zr8 : Nat) (zr9 : Nat) (zq : Nat → Nat) (zs : fb_MS) (zw : fb_AR) (zo : Nat) (zn : Nat) (ze0 : fb_AR) (l1 : Int32) (l2 : Int32) (sz : Nat) (gA : f_X11_isNoAddress l1 = 0) (gP : f_X11_isPort l1 = 0) (gB : f_X11_isNoByte l2 = 0) : Met l yX11_poke (Cond.code yX11_poke cX11_poke 5 (some .int) :: fb_all) ({ frames := 1, cells := 0, slots := 0, locals := 40 } : Room) (fb_PP D (fb_ty D cI cJ) [.ref zb, .int l1, .int l2] ((fb_o11 zb zr0 zr1 zr2 zr3 zr4 (zq 0) zr6 zh zr8 zr9) ++ ((fb_mw cI zq zs zw) ++ (fb_o0 zh zo zn ze0))) sz) (fb_QI D (va_A ((fb_o11 zb zr0 zr1 zr2 zr3 zr4 (zq 0) zr6 zh zr8 zr9) ++ ((fb_mw cI zq zs zw) ++ (fb_o0 zh zo zn ze0))) sz) (fun (r : Int32) (_ : fb_AR) => r = ((f_X11_poke zs ze0 l1 l2)).1) (fun (t : fb_AR) => (fb_o11 zb zr0 zr1 zr2 zr3 zr4 (zq 0) zr6 zh zr8 zr9) ++ ((fb_mw cI zq (((f_X11_poke zs ze0 l1 l2)).2.1) (t)) ++ (fb_o0 zh zo zn (((f_X11_poke zs ze0 l1 l2)).2.2))))) 0 0 (va_A ((fb_o11 zb zr0 zr1 zr2 zr3 zr4 (zq 0) zr6 zh zr8 zr9) ++ ((fb_mw cI zq zs zw) ++ (fb_o0 zh zo zn ze0))) sz) := by
  refine fb_ent (Qf := fun A => (fb_QI D A (fun (r : Int32) (_ : fb_AR) => r = ((f_X11_poke zs ze0 l1 l2)).1) (fun (t : fb_AR) => (fb_o11 zb zr0 zr1 zr2 zr3 zr4 (zq 0) zr6 zh zr8 zr9) ++ ((fb_mw cI zq (((f_X11_poke zs ze0 l1 l2)).2.1) (t)) ++ (fb_o0 zh zo zn (((f_X11_poke zs ze0 l1 l2)).2.2)))))) (by decide +kernel) (Nat.le_of_ble_eq_true rfl) ?_
  intro p e s m args below meth c A ls X I hl hin
  exact b_X11_poke_0 X gA gP gB I hl rfl
/-! X11_setRegister -/
def f_X11_setRegister (zs : fb_MS) (ze0 : fb_AR) (l1 : Int32) (l2 : Int32) : Int32 × fb_MS × fb_AR := (if l1 = (4 : Int32) then (((f_X2_exchange zs l1 l2).1), ((f_X2_exchange zs l1 l2).2), ((f_X0_forget ze0))) else (if l1 = (3 : Int32) then (((f_X2_exchange zs l1 l2).1), ((f_X2_exchange zs l1 l2).2), ((f_X0_forget ze0))) else (((f_X2_exchange zs l1 l2).1), ((f_X2_exchange zs l1 l2).2), ((f_X0_forget ze0)))))
set_option maxHeartbeats 4000000 in
set_option maxRecDepth 100000 in
theorem b_X11_setRegister_0 {p : Program} {l : Launch} {e : Env} {s : State} {m : MethodId} {args : Array Value} {below : List Frame} {meth : Method} {c : Code} {D : va_G} {cI cJ : ClassId} {A : Nat → Prop} {zb : Nat} {zr0 : Nat} {zr1 : Nat} {zr2 : Nat} {zr3 : Nat} {zr4 : Nat} {zr6 : Nat} {zh : Nat} {zr8 : Nat} {zr9 : Nat} {zq : Nat → Nat} {zo : Nat} {zn : Nat} {z : Int32 × fb_MS × fb_AR} (X : fb_Bx p s m args meth c cX11_setRegister RX11 4 (some .int) D (fb_ty D cI cJ) A) {zs : fb_MS} {zw : fb_AR} {ze0 : fb_AR} {l1 : Int32} {l2 : Int32} {H : Heap} {locs : List Loc} {ls : Array Slot} (r0 : ¬ l1 < 0) (r4 : l1 ≤ 4) (v0 : ¬ l2 < 0) (v4 : l1 = 4 → l2 ≤ 4095) (v3 : l1 = 3 → l2 ≤ 31) (v2 : ¬ l1 = 4 → ¬ l1 = 3 → l2 ≤ 255) (I : fb_In D A s.heap ((fb_o11 zb zr0 zr1 zr2 zr3 zr4 (zq 0) zr6 zh zr8 zr9) ++ ((fb_mw cI zq zs zw) ++ (fb_o0 zh zo zn ze0))) H locs) (hl : lv_has ls 4 [(0, .ref zb), (1, .int l1), (2, .int l2)]) (E : z = f_X11_setRegister zs ze0 l1 l2) : W p l e ({ frames := 1, cells := 0, slots := 0, locals := 40 } : Room) s m args below meth c H locs 0 0 (MQ below (fb_QI D A (fun (r : Int32) (_ : fb_AR) => r = z.1) (fun (t : fb_AR) => (fb_o11 zb zr0 zr1 zr2 zr3 zr4 (zq 0) zr6 zh zr8 zr9) ++ ((fb_mw cI zq (z.2.1) (t)) ++ (fb_o0 zh zo zn (z.2.2))))) args s 0 0 A) (F0 m 0 ls []) := by
  obtain ⟨hx, hb, hr, hml, hown, hts, hlk, hA, hK, hF⟩ := id X
  refine lv_iload_n hx hb dX11_setRegister_0 rfl (lv_at hl 1 rfl) ?_
  refine lv_if_lt (tgt := 9) hx hb dX11_setRegister_1 (by decide) (fun c1 => absurd c1 r0) (fun _ => ?_)
  refine lv_iload_n hx hb dX11_setRegister_4 rfl (lv_at hl 1 rfl) ?_
  refine lv_iconst (v := (4 : Int32)) hx hb dX11_setRegister_5 (by decide) ?_
  refine lv_icmp_le (tgt := 19) hx hb dX11_setRegister_6 (by decide) (fun _ => ?_) (fun c2 => absurd r4 c2)
  refine lv_iload_n hx hb dX11_setRegister_19 rfl (lv_at hl 1 rfl) ?_
  refine lv_iconst (v := (4 : Int32)) hx hb dX11_setRegister_20 (by decide) ?_
  refine lv_icmp_ne (tgt := 30) hx hb dX11_setRegister_21 (by decide) (fun c3 => ?_) (fun c3 => ?_)
  · have E4 := (E.trans (if_neg c3))
    refine lv_iload_n hx hb dX11_setRegister_30 rfl (lv_at hl 1 rfl) ?_
    refine lv_iconst (v := (3 : Int32)) hx hb dX11_setRegister_31 (by decide) ?_
    refine lv_icmp_ne (tgt := 40) hx hb dX11_setRegister_32 (by decide) (fun c6 => ?_) (fun c6 => ?_)
    · have E7 := (E4.trans (if_neg c6))
      refine lv_sipush (v := (255 : Int32)) hx hb dX11_setRegister_40 (by decide) ?_
      refine lv_istore_n (lv' := [(3, .int (255 : Int32)), (0, .ref zb), (1, .int l1), (2, .int l2)]) hx hb dX11_setRegister_43 rfl hl (by decide) rfl (fun ls hl => ?_)
      refine lv_iload_n hx hb dX11_setRegister_44 rfl (lv_at hl 3 rfl) ?_
      refine lv_if_lt (tgt := 53) hx hb dX11_setRegister_45 (by decide) (fun c9 => absurd c9 v0) (fun _ => ?_)
      refine lv_iload_n hx hb dX11_setRegister_48 rfl (lv_at hl 3 rfl) ?_
      refine lv_iload_n hx hb dX11_setRegister_49 rfl (lv_at hl 0 rfl) ?_
      refine lv_icmp_le (tgt := 63) hx hb dX11_setRegister_50 (by decide) (fun _ => ?_) (fun c10 => absurd (v2 c3 c6) c10)
      refine lv_aload_n hx hb dX11_setRegister_63 rfl (lv_at hl 1 rfl) ?_
      refine fb_get X I (k := 7) fu_X11 0 rfl rfl (Nat.le_of_ble_eq_true rfl) fw_694 rfl rfl dX11_setRegister_64 ?_
      refine fb_goV (wn := fun (w11 : Unit) => (fb_o11 zb zr0 zr1 zr2 zr3 zr4 (zq 0) zr6 zh zr8 zr9) ++ ((fb_mw cI zq zs zw) ++ (fb_o0 zh zo zn ((f_X0_forget ze0))))) X I (fb_runV (As := []) (rest := []) (q0 := 9) X I hl (c_X0_forget l D cI cJ zh zo zn ze0 _) (fb_goodV fw_1117 fw_1118 fw_1119 fw_200 fw_1120) rfl rfl rfl (by decide +kernel : fb_hd yX0_forget 0) ⟨Nat.le_of_ble_eq_true rfl, Nat.le_of_ble_eq_true rfl⟩ [9] (by decide) rfl rfl rfl rfl rfl rfl (Nat.le_of_ble_eq_true rfl) ⟨Nat.zero_le _, Nat.zero_le _⟩ dX11_setRegister_67) [9] [0, 1, 2, 3, 4, 5, 6, 7, 8] [0, 1, 2, 3, 4, 5, 6, 7, 8, 9] rfl rfl (by decide) (by decide) (by decide) (fun _ => rfl) ?_
      intro w11 H locs _ I
      refine lv_aload_n hx hb dX11_setRegister_70 rfl (lv_at hl 1 rfl) ?_
      refine fb_get X I (k := 5) fu_X11 0 rfl rfl (Nat.le_of_ble_eq_true rfl) fw_692 rfl rfl dX11_setRegister_71 ?_
      refine lv_iload_n hx hb dX11_setRegister_74 rfl (lv_at hl 2 rfl) ?_
      refine lv_iload_n hx hb dX11_setRegister_75 rfl (lv_at hl 3 rfl) ?_
      refine fb_goI (wn := fun (w12 : fb_AR) => (fb_o11 zb zr0 zr1 zr2 zr3 zr4 (zq 0) zr6 zh zr8 zr9) ++ ((fb_mw cI zq ((f_X2_exchange zs l1 l2).2) (w12)) ++ (fb_o0 zh zo zn ((f_X0_forget ze0))))) X I (fb_runV (As := [.int l1, .int l2]) (rest := []) (q0 := 1) X I hl (c_X2_exchange l D cI cJ zq zs zw l1 l2 _) (fb_goodV fw_1768 fw_1769 fw_1770 fw_198 fw_1771) rfl rfl rfl (by decide +kernel : fb_hd yX2_exchange 2) ⟨Nat.le_of_ble_eq_true rfl, Nat.le_of_ble_eq_true rfl⟩ [1, 2, 3, 4, 5, 6, 7, 8] (by decide) rfl rfl rfl rfl rfl rfl (Nat.le_of_ble_eq_true rfl) ⟨Nat.zero_le _, Nat.zero_le _⟩ dX11_setRegister_76) [1, 2, 3, 4, 5, 6, 7, 8] [0, 9] [0, 2, 3, 4, 5, 6, 7, 8, 9, 1] rfl rfl (by decide) (by decide) (by decide) (fun _ => rfl) ?_
      intro r13 w12 H locs e0 I
      subst e0
      subst E7
      exact fb_retI (u := ((w12))) X I rfl rfl dX11_setRegister_79
    · have E8 := (E4.trans (if_pos c6))
      refine lv_bipush (v := (31 : Int32)) hx hb dX11_setRegister_35 (by decide) ?_
      refine lv_goto (tgt := 43) hx hb dX11_setRegister_37 (by decide) ?_
      refine lv_istore_n (lv' := [(3, .int (31 : Int32)), (0, .ref zb), (1, .int l1), (2, .int l2)]) hx hb dX11_setRegister_43 rfl hl (by decide) rfl (fun ls hl => ?_)
      refine lv_iload_n hx hb dX11_setRegister_44 rfl (lv_at hl 3 rfl) ?_
      refine lv_if_lt (tgt := 53) hx hb dX11_setRegister_45 (by decide) (fun c14 => absurd c14 v0) (fun _ => ?_)
      refine lv_iload_n hx hb dX11_setRegister_48 rfl (lv_at hl 3 rfl) ?_
      refine lv_iload_n hx hb dX11_setRegister_49 rfl (lv_at hl 0 rfl) ?_
      refine lv_icmp_le (tgt := 63) hx hb dX11_setRegister_50 (by decide) (fun _ => ?_) (fun c15 => absurd (v3 c6) c15)
      refine lv_aload_n hx hb dX11_setRegister_63 rfl (lv_at hl 1 rfl) ?_
      refine fb_get X I (k := 7) fu_X11 0 rfl rfl (Nat.le_of_ble_eq_true rfl) fw_694 rfl rfl dX11_setRegister_64 ?_
      refine fb_goV (wn := fun (w16 : Unit) => (fb_o11 zb zr0 zr1 zr2 zr3 zr4 (zq 0) zr6 zh zr8 zr9) ++ ((fb_mw cI zq zs zw) ++ (fb_o0 zh zo zn ((f_X0_forget ze0))))) X I (fb_runV (As := []) (rest := []) (q0 := 9) X I hl (c_X0_forget l D cI cJ zh zo zn ze0 _) (fb_goodV fw_1117 fw_1118 fw_1119 fw_200 fw_1120) rfl rfl rfl (by decide +kernel : fb_hd yX0_forget 0) ⟨Nat.le_of_ble_eq_true rfl, Nat.le_of_ble_eq_true rfl⟩ [9] (by decide) rfl rfl rfl rfl rfl rfl (Nat.le_of_ble_eq_true rfl) ⟨Nat.zero_le _, Nat.zero_le _⟩ dX11_setRegister_67) [9] [0, 1, 2, 3, 4, 5, 6, 7, 8] [0, 1, 2, 3, 4, 5, 6, 7, 8, 9] rfl rfl (by decide) (by decide) (by decide) (fun _ => rfl) ?_
      intro w16 H locs _ I
      refine lv_aload_n hx hb dX11_setRegister_70 rfl (lv_at hl 1 rfl) ?_
      refine fb_get X I (k := 5) fu_X11 0 rfl rfl (Nat.le_of_ble_eq_true rfl) fw_692 rfl rfl dX11_setRegister_71 ?_
      refine lv_iload_n hx hb dX11_setRegister_74 rfl (lv_at hl 2 rfl) ?_
      refine lv_iload_n hx hb dX11_setRegister_75 rfl (lv_at hl 3 rfl) ?_
      refine fb_goI (wn := fun (w17 : fb_AR) => (fb_o11 zb zr0 zr1 zr2 zr3 zr4 (zq 0) zr6 zh zr8 zr9) ++ ((fb_mw cI zq ((f_X2_exchange zs l1 l2).2) (w17)) ++ (fb_o0 zh zo zn ((f_X0_forget ze0))))) X I (fb_runV (As := [.int l1, .int l2]) (rest := []) (q0 := 1) X I hl (c_X2_exchange l D cI cJ zq zs zw l1 l2 _) (fb_goodV fw_1768 fw_1769 fw_1770 fw_198 fw_1771) rfl rfl rfl (by decide +kernel : fb_hd yX2_exchange 2) ⟨Nat.le_of_ble_eq_true rfl, Nat.le_of_ble_eq_true rfl⟩ [1, 2, 3, 4, 5, 6, 7, 8] (by decide) rfl rfl rfl rfl rfl rfl (Nat.le_of_ble_eq_true rfl) ⟨Nat.zero_le _, Nat.zero_le _⟩ dX11_setRegister_76) [1, 2, 3, 4, 5, 6, 7, 8] [0, 9] [0, 2, 3, 4, 5, 6, 7, 8, 9, 1] rfl rfl (by decide) (by decide) (by decide) (fun _ => rfl) ?_
      intro r18 w17 H locs e0 I
      subst e0
      subst E8
      exact fb_retI (u := ((w17))) X I rfl rfl dX11_setRegister_79
  · have E5 := (E.trans (if_pos c3))
    refine lv_sipush (v := (4095 : Int32)) hx hb dX11_setRegister_24 (by decide) ?_
    refine lv_goto (tgt := 43) hx hb dX11_setRegister_27 (by decide) ?_
    refine lv_istore_n (lv' := [(3, .int (4095 : Int32)), (0, .ref zb), (1, .int l1), (2, .int l2)]) hx hb dX11_setRegister_43 rfl hl (by decide) rfl (fun ls hl => ?_)
    refine lv_iload_n hx hb dX11_setRegister_44 rfl (lv_at hl 3 rfl) ?_
    refine lv_if_lt (tgt := 53) hx hb dX11_setRegister_45 (by decide) (fun c19 => absurd c19 v0) (fun _ => ?_)
    refine lv_iload_n hx hb dX11_setRegister_48 rfl (lv_at hl 3 rfl) ?_
    refine lv_iload_n hx hb dX11_setRegister_49 rfl (lv_at hl 0 rfl) ?_
    refine lv_icmp_le (tgt := 63) hx hb dX11_setRegister_50 (by decide) (fun _ => ?_) (fun c20 => absurd (v4 c3) c20)
    refine lv_aload_n hx hb dX11_setRegister_63 rfl (lv_at hl 1 rfl) ?_
    refine fb_get X I (k := 7) fu_X11 0 rfl rfl (Nat.le_of_ble_eq_true rfl) fw_694 rfl rfl dX11_setRegister_64 ?_
    refine fb_goV (wn := fun (w21 : Unit) => (fb_o11 zb zr0 zr1 zr2 zr3 zr4 (zq 0) zr6 zh zr8 zr9) ++ ((fb_mw cI zq zs zw) ++ (fb_o0 zh zo zn ((f_X0_forget ze0))))) X I (fb_runV (As := []) (rest := []) (q0 := 9) X I hl (c_X0_forget l D cI cJ zh zo zn ze0 _) (fb_goodV fw_1117 fw_1118 fw_1119 fw_200 fw_1120) rfl rfl rfl (by decide +kernel : fb_hd yX0_forget 0) ⟨Nat.le_of_ble_eq_true rfl, Nat.le_of_ble_eq_true rfl⟩ [9] (by decide) rfl rfl rfl rfl rfl rfl (Nat.le_of_ble_eq_true rfl) ⟨Nat.zero_le _, Nat.zero_le _⟩ dX11_setRegister_67) [9] [0, 1, 2, 3, 4, 5, 6, 7, 8] [0, 1, 2, 3, 4, 5, 6, 7, 8, 9] rfl rfl (by decide) (by decide) (by decide) (fun _ => rfl) ?_
    intro w21 H locs _ I
    refine lv_aload_n hx hb dX11_setRegister_70 rfl (lv_at hl 1 rfl) ?_
    refine fb_get X I (k := 5) fu_X11 0 rfl rfl (Nat.le_of_ble_eq_true rfl) fw_692 rfl rfl dX11_setRegister_71 ?_
    refine lv_iload_n hx hb dX11_setRegister_74 rfl (lv_at hl 2 rfl) ?_
    refine lv_iload_n hx hb dX11_setRegister_75 rfl (lv_at hl 3 rfl) ?_
    refine fb_goI (wn := fun (w22 : fb_AR) => (fb_o11 zb zr0 zr1 zr2 zr3 zr4 (zq 0) zr6 zh zr8 zr9) ++ ((fb_mw cI zq ((f_X2_exchange zs l1 l2).2) (w22)) ++ (fb_o0 zh zo zn ((f_X0_forget ze0))))) X I (fb_runV (As := [.int l1, .int l2]) (rest := []) (q0 := 1) X I hl (c_X2_exchange l D cI cJ zq zs zw l1 l2 _) (fb_goodV fw_1768 fw_1769 fw_1770 fw_198 fw_1771) rfl rfl rfl (by decide +kernel : fb_hd yX2_exchange 2) ⟨Nat.le_of_ble_eq_true rfl, Nat.le_of_ble_eq_true rfl⟩ [1, 2, 3, 4, 5, 6, 7, 8] (by decide) rfl rfl rfl rfl rfl rfl (Nat.le_of_ble_eq_true rfl) ⟨Nat.zero_le _, Nat.zero_le _⟩ dX11_setRegister_76) [1, 2, 3, 4, 5, 6, 7, 8] [0, 9] [0, 2, 3, 4, 5, 6, 7, 8, 9, 1] rfl rfl (by decide) (by decide) (by decide) (fun _ => rfl) ?_
    intro r23 w22 H locs e0 I
    subst e0
    subst E5
    exact fb_retI (u := ((w22))) X I rfl rfl dX11_setRegister_79
set_option maxHeartbeats 4000000 in
set_option maxRecDepth 100000 in
theorem c_X11_setRegister (l : Launch) (D : va_G) (cI cJ : ClassId) (zb : Nat) (zr0 : Nat) (zr1 : Nat) (zr2 : Nat) (zr3 : Nat) (zr4 : Nat) (zr6 : Nat) (zh : Nat) (zr8 : Nat) (zr9 : Nat) (zq : Nat → Nat) (zs : fb_MS) (zw : fb_AR) (zo : Nat) (zn : Nat) (ze0 : fb_AR) (l1 : Int32) (l2 : Int32) (sz : Nat) (r0 : ¬ l1 < 0) (r4 : l1 ≤ 4) (v0 : ¬ l2 < 0) (v4 : l1 = 4 → l2 ≤ 4095) (v3 : l1 = 3 → l2 ≤ 31) (v2 : ¬ l1 = 4 → ¬ l1 = 3 → l2 ≤ 255) : Met l yX11_setRegister (Cond.code yX11_setRegister cX11_setRegister 4 (some .int) :: fb_all) ({ frames := 1, cells := 0, slots := 0, locals := 40 } : Room) (fb_PP D (fb_ty D cI cJ) [.ref zb, .int l1, .int l2] ((fb_o11 zb zr0 zr1 zr2 zr3 zr4 (zq 0) zr6 zh zr8 zr9) ++ ((fb_mw cI zq zs zw) ++ (fb_o0 zh zo zn ze0))) sz) (fb_QI D (va_A ((fb_o11 zb zr0 zr1 zr2 zr3 zr4 (zq 0) zr6 zh zr8 zr9) ++ ((fb_mw cI zq zs zw) ++ (fb_o0 zh zo zn ze0))) sz) (fun (r : Int32) (_ : fb_AR) => r = ((f_X11_setRegister zs ze0 l1 l2)).1) (fun (t : fb_AR) => (fb_o11 zb zr0 zr1 zr2 zr3 zr4 (zq 0) zr6 zh zr8 zr9) ++ ((fb_mw cI zq (((f_X11_setRegister zs ze0 l1 l2)).2.1) (t)) ++ (fb_o0 zh zo zn (((f_X11_setRegister zs ze0 l1 l2)).2.2))))) 0 0 (va_A ((fb_o11 zb zr0 zr1 zr2 zr3 zr4 (zq 0) zr6 zh zr8 zr9) ++ ((fb_mw cI zq zs zw) ++ (fb_o0 zh zo zn ze0))) sz) := by
  refine fb_ent (Qf := fun A => (fb_QI D A (fun (r : Int32) (_ : fb_AR) => r = ((f_X11_setRegister zs ze0 l1 l2)).1) (fun (t : fb_AR) => (fb_o11 zb zr0 zr1 zr2 zr3 zr4 (zq 0) zr6 zh zr8 zr9) ++ ((fb_mw cI zq (((f_X11_setRegister zs ze0 l1 l2)).2.1) (t)) ++ (fb_o0 zh zo zn (((f_X11_setRegister zs ze0 l1 l2)).2.2)))))) (by decide +kernel) (Nat.le_of_ble_eq_true rfl) ?_
  intro p e s m args below meth c A ls X I hl hin
  exact b_X11_setRegister_0 X r0 r4 v0 v4 v3 v2 I hl rfl
