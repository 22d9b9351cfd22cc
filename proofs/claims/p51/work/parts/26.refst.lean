/-! X12_isIn -/
def f_X12_isIn (l0 : Int32) (l1 : Int32) (l2 : Int32) : Int32 := (if l0 < l1 then (0 : Int32) else (if l2 < l0 then (0 : Int32) else (1 : Int32)))
set_option maxHeartbeats 4000000 in
set_option maxRecDepth 100000 in
theorem b_X12_isIn_0 {p : Program} {l : Launch} {e : Env} {s : State} {m : MethodId} {args : Array Value} {below : List Frame} {meth : Method} {c : Code} {D : va_G} {cI cJ : ClassId} {A : Nat → Prop}  {z : Int32} (X : fb_Bx p s m args meth c cX12_isIn RX12 3 (some .boolean) D (fb_ty D cI cJ) A) {l0 : Int32} {l1 : Int32} {l2 : Int32} {ls : Array Slot}  (I : fb_In D A s.heap (([] : va_W)) s.heap []) (hl : lv_has ls 3 [(0, .int l0), (1, .int l1), (2, .int l2)]) (E : z = f_X12_isIn l0 l1 l2) : W p l e ({ frames := 0, cells := 0, slots := 0, locals := 0 } : Room) s m args below meth c s.heap [] 0 0 (MQ below (vp_Si (fun r => r = z)) args s 0 0 (fun _ => False)) (F0 m 0 ls []) := by
  obtain ⟨hx, hb, hr, hml, hown, hts, hlk, hA, hK, hF⟩ := id X
  refine lv_iload_n hx hb dX12_isIn_0 rfl (lv_at hl 0 rfl) ?_
  refine lv_iload_n hx hb dX12_isIn_1 rfl (lv_at hl 1 rfl) ?_
  refine lv_icmp_lt (tgt := 14) hx hb dX12_isIn_2 (by decide) (fun c1 => ?_) (fun c1 => ?_)
  · have E2 := (E.trans (if_pos c1))
    refine lv_iconst (v := (0 : Int32)) hx hb dX12_isIn_14 (by decide) ?_
    exact fb_retRI X E2 rfl dX12_isIn_15
  · have E3 := (E.trans (if_neg c1))
    refine lv_iload_n hx hb dX12_isIn_5 rfl (lv_at hl 0 rfl) ?_
    refine lv_iload_n hx hb dX12_isIn_6 rfl (lv_at hl 2 rfl) ?_
    refine lv_icmp_gt (tgt := 14) hx hb dX12_isIn_7 (by decide) (fun c4 => ?_) (fun c4 => ?_)
    · have E5 := (E3.trans (if_pos c4))
      refine lv_iconst (v := (0 : Int32)) hx hb dX12_isIn_14 (by decide) ?_
      exact fb_retRI X E5 rfl dX12_isIn_15
    · have E6 := (E3.trans (if_neg c4))
      refine lv_iconst (v := (1 : Int32)) hx hb dX12_isIn_10 (by decide) ?_
      refine lv_goto (tgt := 15) hx hb dX12_isIn_11 (by decide) ?_
      exact fb_retRI X E6 rfl dX12_isIn_15
set_option maxHeartbeats 4000000 in
set_option maxRecDepth 100000 in
theorem c_X12_isIn (l : Launch) (D : va_G) (cI cJ : ClassId)  (l0 : Int32) (l1 : Int32) (l2 : Int32) (sz : Nat)  : Met l yX12_isIn (Cond.code yX12_isIn cX12_isIn 3 (some .boolean) :: fb_all) ({ frames := 0, cells := 0, slots := 0, locals := 0 } : Room) (fb_PP D (fb_ty D cI cJ) [.int l0, .int l1, .int l2] (([] : va_W)) sz) (vp_Si (fun r => r = ((f_X12_isIn l0 l1 l2)))) 0 0 (fun _ => False) := by
  refine fb_entR (by decide +kernel) (Nat.le_of_ble_eq_true rfl) ?_
  intro p e s m args below meth c A ls X I hl hin
  exact b_X12_isIn_0 X  I hl rfl
/-! X12_isPort -/
def f_X12_isPort (l0 : Int32) : Int32 := (if l0 < (1792 : Int32) then (0 : Int32) else (if (2048 : Int32) ≤ l0 then (0 : Int32) else (1 : Int32)))
set_option maxHeartbeats 4000000 in
set_option maxRecDepth 100000 in
theorem b_X12_isPort_0 {p : Program} {l : Launch} {e : Env} {s : State} {m : MethodId} {args : Array Value} {below : List Frame} {meth : Method} {c : Code} {D : va_G} {cI cJ : ClassId} {A : Nat → Prop}  {z : Int32} (X : fb_Bx p s m args meth c cX12_isPort RX12 1 (some .boolean) D (fb_ty D cI cJ) A) {l0 : Int32} {ls : Array Slot}  (I : fb_In D A s.heap (([] : va_W)) s.heap []) (hl : lv_has ls 1 [(0, .int l0)]) (E : z = f_X12_isPort l0) : W p l e ({ frames := 0, cells := 0, slots := 0, locals := 0 } : Room) s m args below meth c s.heap [] 0 0 (MQ below (vp_Si (fun r => r = z)) args s 0 0 (fun _ => False)) (F0 m 0 ls []) := by
  obtain ⟨hx, hb, hr, hml, hown, hts, hlk, hA, hK, hF⟩ := id X
  refine lv_iload_n hx hb dX12_isPort_0 rfl (lv_at hl 0 rfl) ?_
  refine lv_sipush (v := (1792 : Int32)) hx hb dX12_isPort_1 (by decide) ?_
  refine lv_icmp_lt (tgt := 18) hx hb dX12_isPort_4 (by decide) (fun c1 => ?_) (fun c1 => ?_)
  · have E2 := (E.trans (if_pos c1))
    refine lv_iconst (v := (0 : Int32)) hx hb dX12_isPort_18 (by decide) ?_
    exact fb_retRI X E2 rfl dX12_isPort_19
  · have E3 := (E.trans (if_neg c1))
    refine lv_iload_n hx hb dX12_isPort_7 rfl (lv_at hl 0 rfl) ?_
    refine lv_sipush (v := (2048 : Int32)) hx hb dX12_isPort_8 (by decide) ?_
    refine lv_icmp_ge (tgt := 18) hx hb dX12_isPort_11 (by decide) (fun c4 => ?_) (fun c4 => ?_)
    · have E5 := (E3.trans (if_pos c4))
      refine lv_iconst (v := (0 : Int32)) hx hb dX12_isPort_18 (by decide) ?_
      exact fb_retRI X E5 rfl dX12_isPort_19
    · have E6 := (E3.trans (if_neg c4))
      refine lv_iconst (v := (1 : Int32)) hx hb dX12_isPort_14 (by decide) ?_
      refine lv_goto (tgt := 19) hx hb dX12_isPort_15 (by decide) ?_
      exact fb_retRI X E6 rfl dX12_isPort_19
set_option maxHeartbeats 4000000 in
set_option maxRecDepth 100000 in
theorem c_X12_isPort (l : Launch) (D : va_G) (cI cJ : ClassId)  (l0 : Int32) (sz : Nat)  : Met l yX12_isPort (Cond.code yX12_isPort cX12_isPort 1 (some .boolean) :: fb_all) ({ frames := 0, cells := 0, slots := 0, locals := 0 } : Room) (fb_PP D (fb_ty D cI cJ) [.int l0] (([] : va_W)) sz) (vp_Si (fun r => r = ((f_X12_isPort l0)))) 0 0 (fun _ => False) := by
  refine fb_entR (by decide +kernel) (Nat.le_of_ble_eq_true rfl) ?_
  intro p e s m args below meth c A ls X I hl hin
  exact b_X12_isPort_0 X  I hl rfl
/-! X12_modesFrom -/
def f_X12_modesFrom (l0 : Int32) : Int32 := (if (16 : Int32) ≤ l0 then (if (24 : Int32) ≤ l0 then (3 : Int32) else (2 : Int32)) else (1 : Int32))
set_option maxHeartbeats 4000000 in
set_option maxRecDepth 100000 in
theorem b_X12_modesFrom_0 {p : Program} {l : Launch} {e : Env} {s : State} {m : MethodId} {args : Array Value} {below : List Frame} {meth : Method} {c : Code} {D : va_G} {cI cJ : ClassId} {A : Nat → Prop}  {z : Int32} (X : fb_Bx p s m args meth c cX12_modesFrom RX12 1 (some .int) D (fb_ty D cI cJ) A) {l0 : Int32} {ls : Array Slot}  (I : fb_In D A s.heap (([] : va_W)) s.heap []) (hl : lv_has ls 1 [(0, .int l0)]) (E : z = f_X12_modesFrom l0) : W p l e ({ frames := 0, cells := 0, slots := 0, locals := 0 } : Room) s m args below meth c s.heap [] 0 0 (MQ below (vp_Si (fun r => r = z)) args s 0 0 (fun _ => False)) (F0 m 0 ls []) := by
  obtain ⟨hx, hb, hr, hml, hown, hts, hlk, hA, hK, hF⟩ := id X
  refine lv_iload_n hx hb dX12_modesFrom_0 rfl (lv_at hl 0 rfl) ?_
  refine lv_bipush (v := (16 : Int32)) hx hb dX12_modesFrom_1 (by decide) ?_
  refine lv_icmp_ge (tgt := 10) hx hb dX12_modesFrom_3 (by decide) (fun c1 => ?_) (fun c1 => ?_)
  · have E2 := (E.trans (if_pos c1))
    refine lv_iload_n hx hb dX12_modesFrom_10 rfl (lv_at hl 0 rfl) ?_
    refine lv_bipush (v := (24 : Int32)) hx hb dX12_modesFrom_11 (by decide) ?_
    refine lv_icmp_ge (tgt := 20) hx hb dX12_modesFrom_13 (by decide) (fun c4 => ?_) (fun c4 => ?_)
    · have E5 := (E2.trans (if_pos c4))
      refine lv_iconst (v := (3 : Int32)) hx hb dX12_modesFrom_20 (by decide) ?_
      exact fb_retRI X E5 rfl dX12_modesFrom_21
    · have E6 := (E2.trans (if_neg c4))
      refine lv_iconst (v := (2 : Int32)) hx hb dX12_modesFrom_16 (by decide) ?_
      refine lv_goto (tgt := 21) hx hb dX12_modesFrom_17 (by decide) ?_
      exact fb_retRI X E6 rfl dX12_modesFrom_21
  · have E3 := (E.trans (if_neg c1))
    refine lv_iconst (v := (1 : Int32)) hx hb dX12_modesFrom_6 (by decide) ?_
    refine lv_goto (tgt := 21) hx hb dX12_modesFrom_7 (by decide) ?_
    exact fb_retRI X E3 rfl dX12_modesFrom_21
set_option maxHeartbeats 4000000 in
set_option maxRecDepth 100000 in
theorem c_X12_modesFrom (l : Launch) (D : va_G) (cI cJ : ClassId)  (l0 : Int32) (sz : Nat)  : Met l yX12_modesFrom (Cond.code yX12_modesFrom cX12_modesFrom 1 (some .int) :: fb_all) ({ frames := 0, cells := 0, slots := 0, locals := 0 } : Room) (fb_PP D (fb_ty D cI cJ) [.int l0] (([] : va_W)) sz) (vp_Si (fun r => r = ((f_X12_modesFrom l0)))) 0 0 (fun _ => False) := by
  refine fb_entR (by decide +kernel) (Nat.le_of_ble_eq_true rfl) ?_
  intro p e s m args below meth c A ls X I hl hin
  exact b_X12_modesFrom_0 X  I hl rfl
/-! X12_modesTo -/
def f_X12_modesTo (l0 : Int32) : Int32 := (if (24 : Int32) ≤ l0 then (5 : Int32) else (6 : Int32))
set_option maxHeartbeats 4000000 in
set_option maxRecDepth 100000 in
theorem b_X12_modesTo_0 {p : Program} {l : Launch} {e : Env} {s : State} {m : MethodId} {args : Array Value} {below : List Frame} {meth : Method} {c : Code} {D : va_G} {cI cJ : ClassId} {A : Nat → Prop}  {z : Int32} (X : fb_Bx p s m args meth c cX12_modesTo RX12 1 (some .int) D (fb_ty D cI cJ) A) {l0 : Int32} {ls : Array Slot}  (I : fb_In D A s.heap (([] : va_W)) s.heap []) (hl : lv_has ls 1 [(0, .int l0)]) (E : z = f_X12_modesTo l0) : W p l e ({ frames := 0, cells := 0, slots := 0, locals := 0 } : Room) s m args below meth c s.heap [] 0 0 (MQ below (vp_Si (fun r => r = z)) args s 0 0 (fun _ => False)) (F0 m 0 ls []) := by
  obtain ⟨hx, hb, hr, hml, hown, hts, hlk, hA, hK, hF⟩ := id X
  refine lv_iload_n hx hb dX12_modesTo_0 rfl (lv_at hl 0 rfl) ?_
  refine lv_bipush (v := (24 : Int32)) hx hb dX12_modesTo_1 (by decide) ?_
  refine lv_icmp_ge (tgt := 11) hx hb dX12_modesTo_3 (by decide) (fun c1 => ?_) (fun c1 => ?_)
  · have E2 := (E.trans (if_pos c1))
    refine lv_iconst (v := (5 : Int32)) hx hb dX12_modesTo_11 (by decide) ?_
    exact fb_retRI X E2 rfl dX12_modesTo_12
  · have E3 := (E.trans (if_neg c1))
    refine lv_bipush (v := (6 : Int32)) hx hb dX12_modesTo_6 (by decide) ?_
    refine lv_goto (tgt := 12) hx hb dX12_modesTo_8 (by decide) ?_
    exact fb_retRI X E3 rfl dX12_modesTo_12
set_option maxHeartbeats 4000000 in
set_option maxRecDepth 100000 in
theorem c_X12_modesTo (l : Launch) (D : va_G) (cI cJ : ClassId)  (l0 : Int32) (sz : Nat)  : Met l yX12_modesTo (Cond.code yX12_modesTo cX12_modesTo 1 (some .int) :: fb_all) ({ frames := 0, cells := 0, slots := 0, locals := 0 } : Room) (fb_PP D (fb_ty D cI cJ) [.int l0] (([] : va_W)) sz) (vp_Si (fun r => r = ((f_X12_modesTo l0)))) 0 0 (fun _ => False) := by
  refine fb_entR (by decide +kernel) (Nat.le_of_ble_eq_true rfl) ?_
  intro p e s m args below meth c A ls X I hl hin
  exact b_X12_modesTo_0 X  I hl rfl
/-! X12_isInstruction -/
def f_X12_isInstruction (l0 : Int32) : Int32 := (if (l0 / (8 : Int32)) < (4 : Int32) then (1 : Int32) else (if (l0 / (8 : Int32)) = (26 : Int32) then (1 : Int32) else (if (l0 / (8 : Int32)) = (27 : Int32) then (if (2 : Int32) ≤ (l0 - l0 / (8 : Int32) * (8 : Int32)) then (0 : Int32) else (1 : Int32)) else (if (26 : Int32) ≤ (l0 / (8 : Int32)) then (0 : Int32) else (if (f_X12_isIn (l0 - l0 / (8 : Int32) * (8 : Int32)) (f_X12_modesFrom (l0 / (8 : Int32))) (f_X12_modesTo (l0 / (8 : Int32)))) = 0 then (0 : Int32) else (1 : Int32))))))
set_option maxHeartbeats 4000000 in
set_option maxRecDepth 100000 in
theorem b_X12_isInstruction_0 {p : Program} {l : Launch} {e : Env} {s : State} {m : MethodId} {args : Array Value} {below : List Frame} {meth : Method} {c : Code} {D : va_G} {cI cJ : ClassId} {A : Nat → Prop}  {z : Int32} (X : fb_Bx p s m args meth c cX12_isInstruction RX12 3 (some .boolean) D (fb_ty D cI cJ) A) {l0 : Int32} {ls : Array Slot}  (I : fb_In D A s.heap (([] : va_W)) s.heap []) (hl : lv_has ls 3 [(0, .int l0)]) (E : z = f_X12_isInstruction l0) : W p l e ({ frames := 1, cells := 0, slots := 0, locals := 22 } : Room) s m args below meth c s.heap [] 0 0 (MQ below (vp_Si (fun r => r = z)) args s 0 0 (fun _ => False)) (F0 m 0 ls []) := by
  obtain ⟨hx, hb, hr, hml, hown, hts, hlk, hA, hK, hF⟩ := id X
  refine lv_iload_n hx hb dX12_isInstruction_0 rfl (lv_at hl 0 rfl) ?_
  refine lv_bipush (v := (8 : Int32)) hx hb dX12_isInstruction_1 (by decide) ?_
  refine lv_idiv hx hb dX12_isInstruction_3 (by decide) ?_
  refine lv_istore_n (lv' := [(1, .int (l0 / (8 : Int32))), (0, .int l0)]) hx hb dX12_isInstruction_4 rfl hl (by decide) rfl (fun ls hl => ?_)
  refine lv_iload_n hx hb dX12_isInstruction_5 rfl (lv_at hl 1 rfl) ?_
  refine lv_bipush (v := (8 : Int32)) hx hb dX12_isInstruction_6 (by decide) ?_
  refine lv_irem hx hb dX12_isInstruction_8 (by decide) ?_
  refine lv_istore_n (lv' := [(2, .int (l0 - l0 / (8 : Int32) * (8 : Int32))), (1, .int (l0 / (8 : Int32))), (0, .int l0)]) hx hb dX12_isInstruction_9 rfl hl (by decide) rfl (fun ls hl => ?_)
  refine lv_iload_n hx hb dX12_isInstruction_10 rfl (lv_at hl 1 rfl) ?_
  refine lv_iconst (v := (4 : Int32)) hx hb dX12_isInstruction_11 (by decide) ?_
  refine lv_icmp_lt (tgt := 21) hx hb dX12_isInstruction_12 (by decide) (fun c1 => ?_) (fun c1 => ?_)
  · have E2 := (E.trans (if_pos c1))
    refine lv_iconst (v := (1 : Int32)) hx hb dX12_isInstruction_21 (by decide) ?_
    exact fb_retRI X E2 rfl dX12_isInstruction_22
  · have E3 := (E.trans (if_neg c1))
    refine lv_iload_n hx hb dX12_isInstruction_15 rfl (lv_at hl 1 rfl) ?_
    refine lv_bipush (v := (26 : Int32)) hx hb dX12_isInstruction_16 (by decide) ?_
    refine lv_icmp_ne (tgt := 23) hx hb dX12_isInstruction_18 (by decide) (fun c4 => ?_) (fun c4 => ?_)
    · have E5 := (E3.trans (if_neg c4))
      refine lv_iload_n hx hb dX12_isInstruction_23 rfl (lv_at hl 1 rfl) ?_
      refine lv_bipush (v := (27 : Int32)) hx hb dX12_isInstruction_24 (by decide) ?_
      refine lv_icmp_ne (tgt := 40) hx hb dX12_isInstruction_26 (by decide) (fun c7 => ?_) (fun c7 => ?_)
      · have E8 := (E5.trans (if_neg c7))
        refine lv_iload_n hx hb dX12_isInstruction_40 rfl (lv_at hl 1 rfl) ?_
        refine lv_bipush (v := (26 : Int32)) hx hb dX12_isInstruction_41 (by decide) ?_
        refine lv_icmp_ge (tgt := 65) hx hb dX12_isInstruction_43 (by decide) (fun c10 => ?_) (fun c10 => ?_)
        · have E11 := (E8.trans (if_pos c10))
          refine lv_iconst (v := (0 : Int32)) hx hb dX12_isInstruction_65 (by decide) ?_
          exact fb_retRI X E11 rfl dX12_isInstruction_66
        · have E12 := (E8.trans (if_neg c10))
          refine lv_iload_n hx hb dX12_isInstruction_46 rfl (lv_at hl 0 rfl) ?_
          refine lv_iload_n hx hb dX12_isInstruction_47 rfl (lv_at hl 1 rfl) ?_
          refine fb_roI X I (fb_runS (As := [.int (l0 / (8 : Int32))]) (rest := [.int (l0 - l0 / (8 : Int32) * (8 : Int32))]) X I hl (c_X12_modesFrom l D cI cJ (l0 / (8 : Int32)) _) (fb_goodS fw_2296 fw_2297 fw_204 fw_2298) rfl rfl (by decide +kernel : fb_hd yX12_modesFrom 1) ⟨Nat.le_of_ble_eq_true rfl, Nat.le_of_ble_eq_true rfl⟩ [] (by decide) rfl rfl rfl (Nat.le_of_ble_eq_true rfl) ⟨Nat.zero_le _, Nat.zero_le _⟩ dX12_isInstruction_48) ?_
          refine lv_iload_n hx hb dX12_isInstruction_51 rfl (lv_at hl 1 rfl) ?_
          refine fb_roI X I (fb_runS (As := [.int (l0 / (8 : Int32))]) (rest := [.int (f_X12_modesFrom (l0 / (8 : Int32))), .int (l0 - l0 / (8 : Int32) * (8 : Int32))]) X I hl (c_X12_modesTo l D cI cJ (l0 / (8 : Int32)) _) (fb_goodS fw_2299 fw_2300 fw_204 fw_2301) rfl rfl (by decide +kernel : fb_hd yX12_modesTo 1) ⟨Nat.le_of_ble_eq_true rfl, Nat.le_of_ble_eq_true rfl⟩ [] (by decide) rfl rfl rfl (Nat.le_of_ble_eq_true rfl) ⟨Nat.zero_le _, Nat.zero_le _⟩ dX12_isInstruction_52) ?_
          refine fb_roI X I (fb_runS (As := [.int (l0 - l0 / (8 : Int32) * (8 : Int32)), .int (f_X12_modesFrom (l0 / (8 : Int32))), .int (f_X12_modesTo (l0 / (8 : Int32)))]) (rest := []) X I hl (c_X12_isIn l D cI cJ (l0 - l0 / (8 : Int32) * (8 : Int32)) (f_X12_modesFrom (l0 / (8 : Int32))) (f_X12_modesTo (l0 / (8 : Int32))) _) (fb_goodS fw_2147 fw_2148 fw_204 fw_2149) rfl rfl (by decide +kernel : fb_hd yX12_isIn 3) ⟨Nat.le_of_ble_eq_true rfl, Nat.le_of_ble_eq_true rfl⟩ [] (by decide) rfl rfl rfl (Nat.le_of_ble_eq_true rfl) ⟨Nat.zero_le _, Nat.zero_le _⟩ dX12_isInstruction_55) ?_
          refine lv_if_eq (tgt := 65) hx hb dX12_isInstruction_58 (by decide) (fun c13 => ?_) (fun c13 => ?_)
          · have E14 := (E12.trans (if_pos c13))
            refine lv_iconst (v := (0 : Int32)) hx hb dX12_isInstruction_65 (by decide) ?_
            exact fb_retRI X E14 rfl dX12_isInstruction_66
          · have E15 := (E12.trans (if_neg c13))
            refine lv_iconst (v := (1 : Int32)) hx hb dX12_isInstruction_61 (by decide) ?_
            refine lv_goto (tgt := 66) hx hb dX12_isInstruction_62 (by decide) ?_
            exact fb_retRI X E15 rfl dX12_isInstruction_66
      · have E9 := (E5.trans (if_pos c7))
        refine lv_iload_n hx hb dX12_isInstruction_29 rfl (lv_at hl 0 rfl) ?_
        refine lv_iconst (v := (2 : Int32)) hx hb dX12_isInstruction_30 (by decide) ?_
        refine lv_icmp_ge (tgt := 38) hx hb dX12_isInstruction_31 (by decide) (fun c16 => ?_) (fun c16 => ?_)
        · have E17 := (E9.trans (if_pos c16))
          refine lv_iconst (v := (0 : Int32)) hx hb dX12_isInstruction_38 (by decide) ?_
          exact fb_retRI X E17 rfl dX12_isInstruction_39
        · have E18 := (E9.trans (if_neg c16))
          refine lv_iconst (v := (1 : Int32)) hx hb dX12_isInstruction_34 (by decide) ?_
          refine lv_goto (tgt := 39) hx hb dX12_isInstruction_35 (by decide) ?_
          exact fb_retRI X E18 rfl dX12_isInstruction_39
    · have E6 := (E3.trans (if_pos c4))
      refine lv_iconst (v := (1 : Int32)) hx hb dX12_isInstruction_21 (by decide) ?_
      exact fb_retRI X E6 rfl dX12_isInstruction_22
set_option maxHeartbeats 4000000 in
set_option maxRecDepth 100000 in
theorem c_X12_isInstruction (l : Launch) (D : va_G) (cI cJ : ClassId)  (l0 : Int32) (sz : Nat)  : Met l yX12_isInstruction (Cond.code yX12_isInstruction cX12_isInstruction 3 (some .boolean) :: fb_all) ({ frames := 1, cells := 0, slots := 0, locals := 22 } : Room) (fb_PP D (fb_ty D cI cJ) [.int l0] (([] : va_W)) sz) (vp_Si (fun r => r = ((f_X12_isInstruction l0)))) 0 0 (fun _ => False) := by
  refine fb_entR (by decide +kernel) (Nat.le_of_ble_eq_true rfl) ?_
  intro p e s m args below meth c A ls X I hl hin
  exact b_X12_isInstruction_0 X  I hl rfl
/-! X12_length -/
def f_X12_length (l0 : Int32) : Int32 := (if (4 : Int32) ≤ (l0 / (8 : Int32)) then (if (25 : Int32) < (l0 / (8 : Int32)) then (2 : Int32) else (if (l0 - l0 / (8 : Int32) * (8 : Int32)) < (3 : Int32) then (2 : Int32) else (if (l0 - l0 / (8 : Int32) * (8 : Int32)) ≤ (4 : Int32) then (3 : Int32) else (2 : Int32)))) else (1 : Int32))
set_option maxHeartbeats 4000000 in
set_option maxRecDepth 100000 in
theorem b_X12_length_0 {p : Program} {l : Launch} {e : Env} {s : State} {m : MethodId} {args : Array Value} {below : List Frame} {meth : Method} {c : Code} {D : va_G} {cI cJ : ClassId} {A : Nat → Prop}  {z : Int32} (X : fb_Bx p s m args meth c cX12_length RX12 3 (some .int) D (fb_ty D cI cJ) A) {l0 : Int32} {ls : Array Slot}  (I : fb_In D A s.heap (([] : va_W)) s.heap []) (hl : lv_has ls 3 [(0, .int l0)]) (E : z = f_X12_length l0) : W p l e ({ frames := 0, cells := 0, slots := 0, locals := 0 } : Room) s m args below meth c s.heap [] 0 0 (MQ below (vp_Si (fun r => r = z)) args s 0 0 (fun _ => False)) (F0 m 0 ls []) := by
  obtain ⟨hx, hb, hr, hml, hown, hts, hlk, hA, hK, hF⟩ := id X
  refine lv_iload_n hx hb dX12_length_0 rfl (lv_at hl 0 rfl) ?_
  refine lv_bipush (v := (8 : Int32)) hx hb dX12_length_1 (by decide) ?_
  refine lv_idiv hx hb dX12_length_3 (by decide) ?_
  refine lv_istore_n (lv' := [(1, .int (l0 / (8 : Int32))), (0, .int l0)]) hx hb dX12_length_4 rfl hl (by decide) rfl (fun ls hl => ?_)
  refine lv_iload_n hx hb dX12_length_5 rfl (lv_at hl 1 rfl) ?_
  refine lv_bipush (v := (8 : Int32)) hx hb dX12_length_6 (by decide) ?_
  refine lv_irem hx hb dX12_length_8 (by decide) ?_
  refine lv_istore_n (lv' := [(2, .int (l0 - l0 / (8 : Int32) * (8 : Int32))), (1, .int (l0 / (8 : Int32))), (0, .int l0)]) hx hb dX12_length_9 rfl hl (by decide) rfl (fun ls hl => ?_)
  refine lv_iload_n hx hb dX12_length_10 rfl (lv_at hl 1 rfl) ?_
  refine lv_iconst (v := (4 : Int32)) hx hb dX12_length_11 (by decide) ?_
  refine lv_icmp_ge (tgt := 19) hx hb dX12_length_12 (by decide) (fun c1 => ?_) (fun c1 => ?_)
  · have E2 := (E.trans (if_pos c1))
    refine lv_iload_n hx hb dX12_length_19 rfl (lv_at hl 1 rfl) ?_
    refine lv_bipush (v := (25 : Int32)) hx hb dX12_length_20 (by decide) ?_
    refine lv_icmp_gt (tgt := 35) hx hb dX12_length_22 (by decide) (fun c4 => ?_) (fun c4 => ?_)
    · have E5 := (E2.trans (if_pos c4))
      refine lv_iconst (v := (2 : Int32)) hx hb dX12_length_35 (by decide) ?_
      refine lv_goto (tgt := 40) hx hb dX12_length_36 (by decide) ?_
      exact fb_retRI X E5 rfl dX12_length_40
    · have E6 := (E2.trans (if_neg c4))
      refine lv_iload_n hx hb dX12_length_25 rfl (lv_at hl 0 rfl) ?_
      refine lv_iconst (v := (3 : Int32)) hx hb dX12_length_26 (by decide) ?_
      refine lv_icmp_lt (tgt := 35) hx hb dX12_length_27 (by decide) (fun c7 => ?_) (fun c7 => ?_)
      · have E8 := (E6.trans (if_pos c7))
        refine lv_iconst (v := (2 : Int32)) hx hb dX12_length_35 (by decide) ?_
        refine lv_goto (tgt := 40) hx hb dX12_length_36 (by decide) ?_
        exact fb_retRI X E8 rfl dX12_length_40
      · have E9 := (E6.trans (if_neg c7))
        refine lv_iload_n hx hb dX12_length_30 rfl (lv_at hl 0 rfl) ?_
        refine lv_iconst (v := (4 : Int32)) hx hb dX12_length_31 (by decide) ?_
        refine lv_icmp_le (tgt := 39) hx hb dX12_length_32 (by decide) (fun c10 => ?_) (fun c10 => ?_)
        · have E11 := (E9.trans (if_pos c10))
          refine lv_iconst (v := (3 : Int32)) hx hb dX12_length_39 (by decide) ?_
          exact fb_retRI X E11 rfl dX12_length_40
        · have E12 := (E9.trans (if_neg c10))
          refine lv_iconst (v := (2 : Int32)) hx hb dX12_length_35 (by decide) ?_
          refine lv_goto (tgt := 40) hx hb dX12_length_36 (by decide) ?_
          exact fb_retRI X E12 rfl dX12_length_40
  · have E3 := (E.trans (if_neg c1))
    refine lv_iconst (v := (1 : Int32)) hx hb dX12_length_15 (by decide) ?_
    refine lv_goto (tgt := 40) hx hb dX12_length_16 (by decide) ?_
    exact fb_retRI X E3 rfl dX12_length_40
set_option maxHeartbeats 4000000 in
set_option maxRecDepth 100000 in
theorem c_X12_length (l : Launch) (D : va_G) (cI cJ : ClassId)  (l0 : Int32) (sz : Nat)  : Met l yX12_length (Cond.code yX12_length cX12_length 3 (some .int) :: fb_all) ({ frames := 0, cells := 0, slots := 0, locals := 0 } : Room) (fb_PP D (fb_ty D cI cJ) [.int l0] (([] : va_W)) sz) (vp_Si (fun r => r = ((f_X12_length l0)))) 0 0 (fun _ => False) := by
  refine fb_entR (by decide +kernel) (Nat.le_of_ble_eq_true rfl) ?_
  intro p e s m args below meth c A ls X I hl hin
  exact b_X12_length_0 X  I hl rfl
