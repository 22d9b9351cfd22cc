/-! X2_isAtCall -/
def f_X2_isAtCall (zs : fb_MS) : Int32 := (if (f_X2_shown zs ((zs).1 9)) = (217 : Int32) then (1 : Int32) else (if ((f_X2_shown zs ((zs).1 9)) >>> ((3 : Int32) &&& 31)) = (25 : Int32) then (if (f_X11_lengthOf (f_X2_shown zs ((zs).1 9))) ≤ 0 then (0 : Int32) else (1 : Int32)) else (0 : Int32)))
set_option maxHeartbeats 4000000 in
set_option maxRecDepth 100000 in
theorem b_X2_isAtCall_0 {p : Program} {l : Launch} {e : Env} {s : State} {m : MethodId} {args : Array Value} {below : List Frame} {meth : Method} {c : Code} {D : va_G} {cI cJ : ClassId} {A : Nat → Prop} {zq : Nat → Nat} {z : Int32} (X : fb_Bx p s m args meth c cX2_isAtCall RX2 2 (some .boolean) D (fb_ty D cI cJ) A) {zs : fb_MS} {zw : fb_AR} {ls : Array Slot}  (I : fb_In D A s.heap ((fb_mw cI zq zs zw)) s.heap []) (hl : lv_has ls 2 [(0, .ref (zq 0))]) (E : z = f_X2_isAtCall zs) : W p l e ({ frames := 2, cells := 0, slots := 0, locals := 44 } : Room) s m args below meth c s.heap [] 0 0 (MQ below (vp_Si (fun r => r = z)) args s 0 0 (fun _ => False)) (F0 m 0 ls []) := by
  obtain ⟨hx, hb, hr, hml, hown, hts, hlk, hA, hK, hF⟩ := id X
  refine lv_aload_n hx hb dX2_isAtCall_0 rfl (lv_at hl 0 rfl) ?_
  refine lv_aload_n hx hb dX2_isAtCall_1 rfl (lv_at hl 0 rfl) ?_
  refine fb_get X I (k := 9) fu_X2 0 rfl rfl (Nat.le_of_ble_eq_true rfl) fw_533 rfl rfl dX2_isAtCall_2 ?_
  refine fb_roI X I (fb_runV (As := [.int ((zs).1 9)]) (rest := []) (q0 := 0) X I hl (c_X2_shown l D cI cJ zq zs zw ((zs).1 9) _) (fb_goodV fw_1224 fw_1225 fw_1226 fw_198 fw_1227) rfl rfl rfl (by decide +kernel : fb_hd yX2_shown 1) ⟨Nat.le_of_ble_eq_true rfl, Nat.le_of_ble_eq_true rfl⟩ [0, 1, 2, 3, 4, 5, 6, 7] (by decide) rfl rfl rfl rfl rfl rfl (Nat.le_of_ble_eq_true rfl) ⟨Nat.zero_le _, Nat.zero_le _⟩ dX2_isAtCall_5) ?_
  refine lv_istore_n (lv' := [(1, .int (f_X2_shown zs ((zs).1 9))), (0, .ref (zq 0))]) hx hb dX2_isAtCall_8 rfl hl (by decide) rfl (fun ls hl => ?_)
  refine lv_iload_n hx hb dX2_isAtCall_9 rfl (lv_at hl 0 rfl) ?_
  refine lv_sipush (v := (217 : Int32)) hx hb dX2_isAtCall_10 (by decide) ?_
  refine lv_icmp_eq (tgt := 31) hx hb dX2_isAtCall_13 (by decide) (fun c1 => ?_) (fun c1 => ?_)
  · have E2 := (E.trans (if_pos c1))
    refine lv_iconst (v := (1 : Int32)) hx hb dX2_isAtCall_31 (by decide) ?_
    refine lv_goto (tgt := 36) hx hb dX2_isAtCall_32 (by decide) ?_
    exact fb_retRI X E2 rfl dX2_isAtCall_36
  · have E3 := (E.trans (if_neg c1))
    refine lv_iload_n hx hb dX2_isAtCall_16 rfl (lv_at hl 0 rfl) ?_
    refine lv_iconst (v := (3 : Int32)) hx hb dX2_isAtCall_17 (by decide) ?_
    refine lv_ishr hx hb dX2_isAtCall_18 ?_
    refine lv_bipush (v := (25 : Int32)) hx hb dX2_isAtCall_19 (by decide) ?_
    refine lv_icmp_ne (tgt := 35) hx hb dX2_isAtCall_21 (by decide) (fun c4 => ?_) (fun c4 => ?_)
    · have E5 := (E3.trans (if_neg c4))
      refine lv_iconst (v := (0 : Int32)) hx hb dX2_isAtCall_35 (by decide) ?_
      exact fb_retRI X E5 rfl dX2_isAtCall_36
    · have E6 := (E3.trans (if_pos c4))
      refine lv_iload_n hx hb dX2_isAtCall_24 rfl (lv_at hl 0 rfl) ?_
      refine fb_roI X I (fb_runSN (As := [.int (f_X2_shown zs ((zs).1 9))]) (rest := []) X I hl (c_X11_lengthOf l D cI cJ (f_X2_shown zs ((zs).1 9)) _) fw_1059 rfl rfl (List.mem_of_getElem? (i := 29) rfl) fw_191 fw_1058 (by decide +kernel : fb_hd yX11_lengthOf 1) ⟨Nat.le_of_ble_eq_true rfl, Nat.le_of_ble_eq_true rfl⟩ [] (by decide) rfl rfl rfl (Nat.le_of_ble_eq_true rfl) ⟨Nat.zero_le _, Nat.zero_le _⟩ dX2_isAtCall_25) ?_
      refine lv_if_le (tgt := 35) hx hb dX2_isAtCall_28 (by decide) (fun c7 => ?_) (fun c7 => ?_)
      · have E8 := (E6.trans (if_pos c7))
        refine lv_iconst (v := (0 : Int32)) hx hb dX2_isAtCall_35 (by decide) ?_
        exact fb_retRI X E8 rfl dX2_isAtCall_36
      · have E9 := (E6.trans (if_neg c7))
        refine lv_iconst (v := (1 : Int32)) hx hb dX2_isAtCall_31 (by decide) ?_
        refine lv_goto (tgt := 36) hx hb dX2_isAtCall_32 (by decide) ?_
        exact fb_retRI X E9 rfl dX2_isAtCall_36
set_option maxHeartbeats 4000000 in
set_option maxRecDepth 100000 in
theorem c_X2_isAtCall (l : Launch) (D : va_G) (cI cJ : ClassId) (zq : Nat → Nat) (zs : fb_MS) (zw : fb_AR)  (sz : Nat)  : Met l yX2_isAtCall (Cond.code yX2_isAtCall cX2_isAtCall 2 (some .boolean) :: fb_all) ({ frames := 2, cells := 0, slots := 0, locals := 44 } : Room) (fb_PP D (fb_ty D cI cJ) [.ref (zq 0)] ((fb_mw cI zq zs zw)) sz) (vp_Si (fun r => r = ((f_X2_isAtCall zs)))) 0 0 (fun _ => False) := by
  refine fb_entR (by decide +kernel) (Nat.le_of_ble_eq_true rfl) ?_
  intro p e s m args below meth c A ls X I hl hin
  exact b_X2_isAtCall_0 X  I hl rfl
/-! X11_stepOut -/
def f_X11_stepOut (ze0 : fb_AR) (zo : (Nat → Nat)) (zso : fb_MS) (zn : (Nat → Nat)) (zsn : fb_MS) (zs : fb_MS) (ze7 : fb_AR) : Int32 × fb_AR × (Nat → Nat) × fb_MS × (Nat → Nat) × fb_MS × fb_MS × fb_AR := (((f_X11_goOn ze0 zo zso zn zsn zs ze7 (5000 : Int32) (((zs).1 13) - (1 : Int32))).1), ((f_X11_goOn ze0 zo zso zn zsn zs ze7 (5000 : Int32) (((zs).1 13) - (1 : Int32))).2.1), ((f_X11_goOn ze0 zo zso zn zsn zs ze7 (5000 : Int32) (((zs).1 13) - (1 : Int32))).2.2.1), ((f_X11_goOn ze0 zo zso zn zsn zs ze7 (5000 : Int32) (((zs).1 13) - (1 : Int32))).2.2.2.1), ((f_X11_goOn ze0 zo zso zn zsn zs ze7 (5000 : Int32) (((zs).1 13) - (1 : Int32))).2.2.2.2.1), ((f_X11_goOn ze0 zo zso zn zsn zs ze7 (5000 : Int32) (((zs).1 13) - (1 : Int32))).2.2.2.2.2.1), ((f_X11_goOn ze0 zo zso zn zsn zs ze7 (5000 : Int32) (((zs).1 13) - (1 : Int32))).2.2.2.2.2.2.1), ((f_X11_goOn ze0 zo zso zn zsn zs ze7 (5000 : Int32) (((zs).1 13) - (1 : Int32))).2.2.2.2.2.2.2))
set_option maxHeartbeats 4000000 in
set_option maxRecDepth 100000 in
theorem b_X11_stepOut_0 {p : Program} {l : Launch} {e : Env} {s : State} {m : MethodId} {args : Array Value} {below : List Frame} {meth : Method} {c : Code} {D : va_G} {cI cJ : ClassId} {A : Nat → Prop} {zb : Nat} {zr0 : Nat} {zr1 : Nat} {zr2 : Nat} {zr3 : Nat} {zr4 : Nat} {zr6 : Nat} {zh : Nat} {zst : Nat} {zr9 : Nat} {zq : Nat → Nat} {zs0 : Nat} {zs1 : Nat} {zs3 : Nat} {zs4 : Nat} {zs5 : Nat} {z : Int32 × fb_AR × (Nat → Nat) × fb_MS × (Nat → Nat) × fb_MS × fb_MS × fb_AR} (X : fb_Bx p s m args meth c cX11_stepOut RX11 1 (some .int) D (fb_ty D cI cJ) A) {ze0 : fb_AR} {zo : Nat → Nat} {zso : fb_MS} {zwo : fb_AR} {zn : Nat → Nat} {zsn : fb_MS} {zwn : fb_AR} {zs : fb_MS} {zw : fb_AR} {ze7 : fb_AR} {H : Heap} {locs : List Loc} {ls : Array Slot} (h0 : ze7 6 = 0) (h1 : ze7 2 = 0) (I : fb_In D A s.heap ((fb_o11 zb zr0 zr1 zr2 zr3 zr4 (zq 0) zr6 zh zst zr9) ++ ((fb_o0 zh (zo 0) (zn 0) ze0) ++ ((fb_mw cI zo zso zwo) ++ ((fb_mw cI zn zsn zwn) ++ ((fb_mw cI zq zs zw) ++ (fb_o7 zst zs0 zs1 zs3 zs4 zs5 ze7)))))) H locs) (hl : lv_has ls 1 [(0, .ref zb)]) (E : z = f_X11_stepOut ze0 zo zso zn zsn zs ze7) : W p l e ({ frames := 7, cells := 0, slots := 0, locals := 178 } : Room) s m args below meth c H locs 0 0 (MQ below (fb_QI D A (fun (r : Int32) (_ : fb_AR × fb_AR × fb_AR) => r = z.1) (fun (t : fb_AR × fb_AR × fb_AR) => (fb_o11 zb zr0 zr1 zr2 zr3 zr4 (zq 0) zr6 zh zst zr9) ++ ((fb_o0 zh ((z.2.2.1) 0) ((z.2.2.2.2.1) 0) (z.2.1)) ++ ((fb_mw cI (z.2.2.1) (z.2.2.2.1) (t.1)) ++ ((fb_mw cI (z.2.2.2.2.1) (z.2.2.2.2.2.1) (t.2.1)) ++ ((fb_mw cI zq (z.2.2.2.2.2.2.1) (t.2.2)) ++ (fb_o7 zst zs0 zs1 zs3 zs4 zs5 (z.2.2.2.2.2.2.2)))))))) args s 0 0 A) (F0 m 0 ls []) := by
  obtain ⟨hx, hb, hr, hml, hown, hts, hlk, hA, hK, hF⟩ := id X
  refine lv_aload_n hx hb dX11_stepOut_0 rfl (lv_at hl 0 rfl) ?_
  refine lv_sipush (v := (5000 : Int32)) hx hb dX11_stepOut_1 (by decide) ?_
  refine lv_aload_n hx hb dX11_stepOut_4 rfl (lv_at hl 0 rfl) ?_
  refine fb_get X I (k := 5) fu_X11 0 rfl rfl (Nat.le_of_ble_eq_true rfl) fw_692 rfl rfl dX11_stepOut_5 ?_
  refine fb_get X I (k := 13) fu_X2 18 rfl rfl (Nat.le_of_ble_eq_true rfl) fw_542 rfl rfl dX11_stepOut_8 ?_
  refine lv_iconst (v := (1 : Int32)) hx hb dX11_stepOut_11 (by decide) ?_
  refine lv_isub hx hb dX11_stepOut_12 ?_
  refine fb_goI (wn := fun (w1 : fb_AR × fb_AR × fb_AR) => (fb_o11 zb zr0 zr1 zr2 zr3 zr4 (zq 0) zr6 zh zst zr9) ++ ((fb_o0 zh (((f_X11_goOn ze0 zo zso zn zsn zs ze7 (5000 : Int32) (((zs).1 13) - (1 : Int32))).2.2.1) 0) (((f_X11_goOn ze0 zo zso zn zsn zs ze7 (5000 : Int32) (((zs).1 13) - (1 : Int32))).2.2.2.2.1) 0) ((f_X11_goOn ze0 zo zso zn zsn zs ze7 (5000 : Int32) (((zs).1 13) - (1 : Int32))).2.1)) ++ ((fb_mw cI ((f_X11_goOn ze0 zo zso zn zsn zs ze7 (5000 : Int32) (((zs).1 13) - (1 : Int32))).2.2.1) ((f_X11_goOn ze0 zo zso zn zsn zs ze7 (5000 : Int32) (((zs).1 13) - (1 : Int32))).2.2.2.1) (w1.1)) ++ ((fb_mw cI ((f_X11_goOn ze0 zo zso zn zsn zs ze7 (5000 : Int32) (((zs).1 13) - (1 : Int32))).2.2.2.2.1) ((f_X11_goOn ze0 zo zso zn zsn zs ze7 (5000 : Int32) (((zs).1 13) - (1 : Int32))).2.2.2.2.2.1) (w1.2.1)) ++ ((fb_mw cI zq ((f_X11_goOn ze0 zo zso zn zsn zs ze7 (5000 : Int32) (((zs).1 13) - (1 : Int32))).2.2.2.2.2.2.1) (w1.2.2)) ++ (fb_o7 zst zs0 zs1 zs3 zs4 zs5 ((f_X11_goOn ze0 zo zso zn zsn zs ze7 (5000 : Int32) (((zs).1 13) - (1 : Int32))).2.2.2.2.2.2.2))))))) X I (fb_runV (As := [.int (5000 : Int32), .int (((zs).1 13) - (1 : Int32))]) (rest := []) (q0 := 0) X I hl (c_X11_goOn l D cI cJ zb zr0 zr1 zr2 zr3 zr4 zr6 zh zst zr9 ze0 zo zso zwo zn zsn zwn zq zs zw zs0 zs1 zs3 zs4 zs5 ze7 (5000 : Int32) (((zs).1 13) - (1 : Int32)) _ h0 h1) (fb_goodV fw_1389 fw_1391 fw_78 fw_191 fw_1392) rfl rfl rfl (by decide +kernel : fb_hd yX11_goOn 2) ⟨Nat.le_of_ble_eq_true rfl, Nat.le_of_ble_eq_true rfl⟩ [0, 1, 2, 3, 4, 5, 6, 7, 8, 9, 10, 11, 12, 13, 14, 15, 16, 17, 18, 19, 20, 21, 22, 23, 24, 25, 26] (by decide) rfl rfl rfl rfl rfl rfl (Nat.le_of_ble_eq_true rfl) ⟨Nat.zero_le _, Nat.zero_le _⟩ dX11_stepOut_13) [0, 1, 2, 3, 4, 5, 6, 7, 8, 9, 10, 11, 12, 13, 14, 15, 16, 17, 18, 19, 20, 21, 22, 23, 24, 25, 26] [] [0, 1, 2, 3, 4, 5, 6, 7, 8, 9, 10, 11, 12, 13, 14, 15, 16, 17, 18, 19, 20, 21, 22, 23, 24, 25, 26] rfl rfl (by decide) (by decide) (by decide) (fun _ => rfl) ?_
  intro r2 w1 H locs e0 I
  subst e0
  subst E
  exact fb_retI (u := ((w1.1), (w1.2.1), (w1.2.2))) X I rfl rfl dX11_stepOut_16
set_option maxHeartbeats 4000000 in
set_option maxRecDepth 100000 in
theorem c_X11_stepOut (l : Launch) (D : va_G) (cI cJ : ClassId) (zb : Nat) (zr0 : Nat) (zr1 : Nat) (zr2 : Nat) (zr3 : Nat) (zr4 : Nat) (zr6 : Nat) (zh : Nat) (zst : Nat) (zr9 : Nat) (ze0 : fb_AR) (zo : Nat → Nat) (zso : fb_MS) (zwo : fb_AR) (zn : Nat → Nat) (zsn : fb_MS) (zwn : fb_AR) (zq : Nat → Nat) (zs : fb_MS) (zw : fb_AR) (zs0 : Nat) (zs1 : Nat) (zs3 : Nat) (zs4 : Nat) (zs5 : Nat) (ze7 : fb_AR)  (sz : Nat) (h0 : ze7 6 = 0) (h1 : ze7 2 = 0) : Met l yX11_stepOut (Cond.code yX11_stepOut cX11_stepOut 1 (some .int) :: fb_all) ({ frames := 7, cells := 0, slots := 0, locals := 178 } : Room) (fb_PP D (fb_ty D cI cJ) [.ref zb] ((fb_o11 zb zr0 zr1 zr2 zr3 zr4 (zq 0) zr6 zh zst zr9) ++ ((fb_o0 zh (zo 0) (zn 0) ze0) ++ ((fb_mw cI zo zso zwo) ++ ((fb_mw cI zn zsn zwn) ++ ((fb_mw cI zq zs zw) ++ (fb_o7 zst zs0 zs1 zs3 zs4 zs5 ze7)))))) sz) (fb_QI D (va_A ((fb_o11 zb zr0 zr1 zr2 zr3 zr4 (zq 0) zr6 zh zst zr9) ++ ((fb_o0 zh (zo 0) (zn 0) ze0) ++ ((fb_mw cI zo zso zwo) ++ ((fb_mw cI zn zsn zwn) ++ ((fb_mw cI zq zs zw) ++ (fb_o7 zst zs0 zs1 zs3 zs4 zs5 ze7)))))) sz) (fun (r : Int32) (_ : fb_AR × fb_AR × fb_AR) => r = ((f_X11_stepOut ze0 zo zso zn zsn zs ze7)).1) (fun (t : fb_AR × fb_AR × fb_AR) => (fb_o11 zb zr0 zr1 zr2 zr3 zr4 (zq 0) zr6 zh zst zr9) ++ ((fb_o0 zh ((((f_X11_stepOut ze0 zo zso zn zsn zs ze7)).2.2.1) 0) ((((f_X11_stepOut ze0 zo zso zn zsn zs ze7)).2.2.2.2.1) 0) (((f_X11_stepOut ze0 zo zso zn zsn zs ze7)).2.1)) ++ ((fb_mw cI (((f_X11_stepOut ze0 zo zso zn zsn zs ze7)).2.2.1) (((f_X11_stepOut ze0 zo zso zn zsn zs ze7)).2.2.2.1) (t.1)) ++ ((fb_mw cI (((f_X11_stepOut ze0 zo zso zn zsn zs ze7)).2.2.2.2.1) (((f_X11_stepOut ze0 zo zso zn zsn zs ze7)).2.2.2.2.2.1) (t.2.1)) ++ ((fb_mw cI zq (((f_X11_stepOut ze0 zo zso zn zsn zs ze7)).2.2.2.2.2.2.1) (t.2.2)) ++ (fb_o7 zst zs0 zs1 zs3 zs4 zs5 (((f_X11_stepOut ze0 zo zso zn zsn zs ze7)).2.2.2.2.2.2.2)))))))) 0 0 (va_A ((fb_o11 zb zr0 zr1 zr2 zr3 zr4 (zq 0) zr6 zh zst zr9) ++ ((fb_o0 zh (zo 0) (zn 0) ze0) ++ ((fb_mw cI zo zso zwo) ++ ((fb_mw cI zn zsn zwn) ++ ((fb_mw cI zq zs zw) ++ (fb_o7 zst zs0 zs1 zs3 zs4 zs5 ze7)))))) sz) := by
  refine fb_ent (Qf := fun A => (fb_QI D A (fun (r : Int32) (_ : fb_AR × fb_AR × fb_AR) => r = ((f_X11_stepOut ze0 zo zso zn zsn zs ze7)).1) (fun (t : fb_AR × fb_AR × fb_AR) => (fb_o11 zb zr0 zr1 zr2 zr3 zr4 (zq 0) zr6 zh zst zr9) ++ ((fb_o0 zh ((((f_X11_stepOut ze0 zo zso zn zsn zs ze7)).2.2.1) 0) ((((f_X11_stepOut ze0 zo zso zn zsn zs ze7)).2.2.2.2.1) 0) (((f_X11_stepOut ze0 zo zso zn zsn zs ze7)).2.1)) ++ ((fb_mw cI (((f_X11_stepOut ze0 zo zso zn zsn zs ze7)).2.2.1) (((f_X11_stepOut ze0 zo zso zn zsn zs ze7)).2.2.2.1) (t.1)) ++ ((fb_mw cI (((f_X11_stepOut ze0 zo zso zn zsn zs ze7)).2.2.2.2.1) (((f_X11_stepOut ze0 zo zso zn zsn zs ze7)).2.2.2.2.2.1) (t.2.1)) ++ ((fb_mw cI zq (((f_X11_stepOut ze0 zo zso zn zsn zs ze7)).2.2.2.2.2.2.1) (t.2.2)) ++ (fb_o7 zst zs0 zs1 zs3 zs4 zs5 (((f_X11_stepOut ze0 zo zso zn zsn zs ze7)).2.2.2.2.2.2.2))))))))) (by decide +kernel) (Nat.le_of_ble_eq_true rfl) ?_
  intro p e s m args below meth c A ls X I hl hin
  exact b_X11_stepOut_0 X h0 h1 I hl rfl
/-! X11_errorAt -/
def f_X11_errorAt (ze4 : fb_AR) : Int32 := (ze4 14)
set_option maxHeartbeats 4000000 in
set_option maxRecDepth 100000 in
theorem b_X11_errorAt_0 {p : Program} {l : Launch} {e : Env} {s : State} {m : MethodId} {args : Array Value} {below : List Frame} {meth : Method} {c : Code} {D : va_G} {cI cJ : ClassId} {A : Nat → Prop} {zb : Nat} {zr0 : Nat} {zr1 : Nat} {zr2 : Nat} {zr3 : Nat} {zpa : Nat} {zr5 : Nat} {zr6 : Nat} {zr7 : Nat} {zr8 : Nat} {zr9 : Nat} {zp0 : Nat} {zp1 : Nat} {zp2 : Nat} {zp3 : Nat} {zp4 : Nat} {zp5 : Nat} {zp6 : Nat} {zp7 : Nat} {zp9 : Nat} {z : Int32} (X : fb_Bx p s m args meth c cX11_errorAt RX11 1 (some .int) D (fb_ty D cI cJ) A) {ze4 : fb_AR} {ls : Array Slot}  (I : fb_In D A s.heap ((fb_o11 zb zr0 zr1 zr2 zr3 zpa zr5 zr6 zr7 zr8 zr9) ++ (fb_o4 zpa zp0 zp1 zp2 zp3 zp4 zp5 zp6 zp7 zp9 ze4)) s.heap []) (hl : lv_has ls 1 [(0, .ref zb)]) (E : z = f_X11_errorAt ze4) : W p l e ({ frames := 0, cells := 0, slots := 0, locals := 0 } : Room) s m args below meth c s.heap [] 0 0 (MQ below (vp_Si (fun r => r = z)) args s 0 0 (fun _ => False)) (F0 m 0 ls []) := by
  obtain ⟨hx, hb, hr, hml, hown, hts, hlk, hA, hK, hF⟩ := id X
  refine lv_aload_n hx hb dX11_errorAt_0 rfl (lv_at hl 0 rfl) ?_
  refine fb_get X I (k := 4) fu_X11 0 rfl rfl (Nat.le_of_ble_eq_true rfl) fw_691 rfl rfl dX11_errorAt_1 ?_
  refine fb_get X I (k := 14) fu_X4 1 rfl rfl (Nat.le_of_ble_eq_true rfl) fw_416 rfl rfl dX11_errorAt_4 ?_
  exact fb_retRI X E rfl dX11_errorAt_7
set_option maxHeartbeats 4000000 in
set_option maxRecDepth 100000 in
theorem c_X11_errorAt (l : Launch) (D : va_G) (cI cJ : ClassId) (zb : Nat) (zr0 : Nat) (zr1 : Nat) (zr2 : Nat) (zr3 : Nat) (zpa : Nat) (zr5 : Nat) (zr6 : Nat) (zr7 : Nat) (zr8 : Nat) (zr9 : Nat) (zp0 : Nat) (zp1 : Nat) (zp2 : Nat) (zp3 : Nat) (zp4 : Nat) (zp5 : Nat) (zp6 : Nat) (zp7 : Nat) (zp9 : Nat) (ze4 : fb_AR)  (sz : Nat)  : Met l yX11_errorAt (Cond.code yX11_errorAt cX11_errorAt 1 (some .int) :: fb_all) ({ frames := 0, cells := 0, slots := 0, locals := 0 } : Room) (fb_PP D (fb_ty D cI cJ) [.ref zb] ((fb_o11 zb zr0 zr1 zr2 zr3 zpa zr5 zr6 zr7 zr8 zr9) ++ (fb_o4 zpa zp0 zp1 zp2 zp3 zp4 zp5 zp6 zp7 zp9 ze4)) sz) (vp_Si (fun r => r = ((f_X11_errorAt ze4)))) 0 0 (fun _ => False) := by
  refine fb_entR (by decide +kernel) (Nat.le_of_ble_eq_true rfl) ?_
  intro p e s m args below meth c A ls X I hl hin
  exact b_X11_errorAt_0 X  I hl rfl
/-! X11_names -/
def f_X11_names (ze3 : fb_AR) : Int32 := (ze3 4)
set_option maxHeartbeats 4000000 in
set_option maxRecDepth 100000 in
theorem b_X11_names_0 {p : Program} {l : Launch} {e : Env} {s : State} {m : MethodId} {args : Array Value} {below : List Frame} {meth : Method} {c : Code} {D : va_G} {cI cJ : ClassId} {A : Nat → Prop} {zb : Nat} {zr0 : Nat} {zna : Nat} {zr2 : Nat} {zr3 : Nat} {zr4 : Nat} {zr5 : Nat} {zr6 : Nat} {zr7 : Nat} {zr8 : Nat} {zr9 : Nat} {zn0 : Nat} {zn1 : Nat} {zn3 : Nat} {z : Int32} (X : fb_Bx p s m args meth c cX11_names RX11 1 (some .int) D (fb_ty D cI cJ) A) {ze3 : fb_AR} {ls : Array Slot}  (I : fb_In D A s.heap ((fb_o11 zb zr0 zna zr2 zr3 zr4 zr5 zr6 zr7 zr8 zr9) ++ (fb_o3 zna zn0 zn1 zn3 ze3)) s.heap []) (hl : lv_has ls 1 [(0, .ref zb)]) (E : z = f_X11_names ze3) : W p l e ({ frames := 0, cells := 0, slots := 0, locals := 0 } : Room) s m args below meth c s.heap [] 0 0 (MQ below (vp_Si (fun r => r = z)) args s 0 0 (fun _ => False)) (F0 m 0 ls []) := by
  obtain ⟨hx, hb, hr, hml, hown, hts, hlk, hA, hK, hF⟩ := id X
  refine lv_aload_n hx hb dX11_names_0 rfl (lv_at hl 0 rfl) ?_
  refine fb_get X I (k := 1) fu_X11 0 rfl rfl (Nat.le_of_ble_eq_true rfl) fw_688 rfl rfl dX11_names_1 ?_
  refine fb_get X I (k := 4) fu_X3 1 rfl rfl (Nat.le_of_ble_eq_true rfl) fw_276 rfl rfl dX11_names_4 ?_
  exact fb_retRI X E rfl dX11_names_7
set_option maxHeartbeats 4000000 in
set_option maxRecDepth 100000 in
theorem c_X11_names (l : Launch) (D : va_G) (cI cJ : ClassId) (zb : Nat) (zr0 : Nat) (zna : Nat) (zr2 : Nat) (zr3 : Nat) (zr4 : Nat) (zr5 : Nat) (zr6 : Nat) (zr7 : Nat) (zr8 : Nat) (zr9 : Nat) (zn0 : Nat) (zn1 : Nat) (zn3 : Nat) (ze3 : fb_AR)  (sz : Nat)  : Met l yX11_names (Cond.code yX11_names cX11_names 1 (some .int) :: fb_all) ({ frames := 0, cells := 0, slots := 0, locals := 0 } : Room) (fb_PP D (fb_ty D cI cJ) [.ref zb] ((fb_o11 zb zr0 zna zr2 zr3 zr4 zr5 zr6 zr7 zr8 zr9) ++ (fb_o3 zna zn0 zn1 zn3 ze3)) sz) (vp_Si (fun r => r = ((f_X11_names ze3)))) 0 0 (fun _ => False) := by
  refine fb_entR (by decide +kernel) (Nat.le_of_ble_eq_true rfl) ?_
  intro p e s m args below meth c A ls X I hl hin
  exact b_X11_names_0 X  I hl rfl
/-! X11_reset -/
def f_X11_reset (zs : fb_MS) (ze0 : fb_AR) (ze7 : fb_AR) : Int32 × fb_MS × fb_AR × fb_AR := (((((f_X2_restart zs))).1 9), ((f_X2_restart zs)), ((f_X0_forget ze0)), (upd ze7 7 (0 : Int32)))
set_option maxHeartbeats 4000000 in
set_option maxRecDepth 100000 in
theorem b_X11_reset_0 {p : Program} {l : Launch} {e : Env} {s : State} {m : MethodId} {args : Array Value} {below : List Frame} {meth : Method} {c : Code} {D : va_G} {cI cJ : ClassId} {A : Nat → Prop} {zb : Nat} {zr0 : Nat} {zr1 : Nat} {zr2 : Nat} {zr3 : Nat} {zr4 : Nat} {zr6 : Nat} {zh : Nat} {zst : Nat} {zr9 : Nat} {zq : Nat → Nat} {zo : Nat} {zn : Nat} {zs0 : Nat} {zs1 : Nat} {zs3 : Nat} {zs4 : Nat} {zs5 : Nat} {z : Int32 × fb_MS × fb_AR × fb_AR} (X : fb_Bx p s m args meth c cX11_reset RX11 1 (some .int) D (fb_ty D cI cJ) A) {zs : fb_MS} {zw : fb_AR} {ze0 : fb_AR} {ze7 : fb_AR} {H : Heap} {locs : List Loc} {ls : Array Slot}  (I : fb_In D A s.heap ((fb_o11 zb zr0 zr1 zr2 zr3 zr4 (zq 0) zr6 zh zst zr9) ++ ((fb_mw cI zq zs zw) ++ ((fb_o0 zh zo zn ze0) ++ (fb_o7 zst zs0 zs1 zs3 zs4 zs5 ze7)))) H locs) (hl : lv_has ls 1 [(0, .ref zb)]) (E : z = f_X11_reset zs ze0 ze7) : W p l e ({ frames := 3, cells := 0, slots := 0, locals := 63 } : Room) s m args below meth c H locs 0 0 (MQ below (fb_QI D A (fun (r : Int32) (_ : fb_AR) => r = z.1) (fun (t : fb_AR) => (fb_o11 zb zr0 zr1 zr2 zr3 zr4 (zq 0) zr6 zh zst zr9) ++ ((fb_mw cI zq (z.2.1) (t)) ++ ((fb_o0 zh zo zn (z.2.2.1)) ++ (fb_o7 zst zs0 zs1 zs3 zs4 zs5 (z.2.2.2)))))) args s 0 0 A) (F0 m 0 ls []) := by
  obtain ⟨hx, hb, hr, hml, hown, hts, hlk, hA, hK, hF⟩ := id X
  refine lv_aload_n hx hb dX11_reset_0 rfl (lv_at hl 0 rfl) ?_
  refine fb_get X I (k := 7) fu_X11 0 rfl rfl (Nat.le_of_ble_eq_true rfl) fw_694 rfl rfl dX11_reset_1 ?_
  refine fb_goV (wn := fun (w1 : Unit) => (fb_o11 zb zr0 zr1 zr2 zr3 zr4 (zq 0) zr6 zh zst zr9) ++ ((fb_mw cI zq zs zw) ++ ((fb_o0 zh zo zn ((f_X0_forget ze0))) ++ (fb_o7 zst zs0 zs1 zs3 zs4 zs5 ze7)))) X I (fb_runV (As := []) (rest := []) (q0 := 9) X I hl (c_X0_forget l D cI cJ zh zo zn ze0 _) (fb_goodV fw_1117 fw_1118 fw_1119 fw_200 fw_1120) rfl rfl rfl (by decide +kernel : fb_hd yX0_forget 0) ⟨Nat.le_of_ble_eq_true rfl, Nat.le_of_ble_eq_true rfl⟩ [9] (by decide) rfl rfl rfl rfl rfl rfl (Nat.le_of_ble_eq_true rfl) ⟨Nat.zero_le _, Nat.zero_le _⟩ dX11_reset_4) [9] [0, 1, 2, 3, 4, 5, 6, 7, 8, 10] [0, 1, 2, 3, 4, 5, 6, 7, 8, 10, 9] rfl rfl (by decide) (by decide) (by decide) (fun _ => rfl) ?_
  intro w1 H locs _ I
  refine lv_aload_n hx hb dX11_reset_7 rfl (lv_at hl 0 rfl) ?_
  refine fb_get X I (k := 8) fu_X11 0 rfl rfl (Nat.le_of_ble_eq_true rfl) fw_695 rfl rfl dX11_reset_8 ?_
  refine lv_iconst (v := (0 : Int32)) hx hb dX11_reset_11 (by decide) ?_
  refine fb_put X I (k := 7) (wn := (fb_o11 zb zr0 zr1 zr2 zr3 zr4 (zq 0) zr6 zh zst zr9) ++ ((fb_mw cI zq zs zw) ++ ((fb_o0 zh zo zn ((f_X0_forget ze0))) ++ (fb_o7 zst zs0 zs1 zs3 zs4 zs5 (upd ze7 7 (0 : Int32)))))) fu_X7 tyX7 tyX7_ok nmX7 10 rfl rfl (Nat.le_of_ble_eq_true rfl) fw_627 rfl rfl rfl rfl rfl (Nat.le_of_ble_eq_true rfl) rfl dX11_reset_12 (fun H locs I => ?_)
  refine lv_aload_n hx hb dX11_reset_15 rfl (lv_at hl 0 rfl) ?_
  refine fb_get X I (k := 5) fu_X11 0 rfl rfl (Nat.le_of_ble_eq_true rfl) fw_692 rfl rfl dX11_reset_16 ?_
  refine fb_goV (wn := fun (w2 : fb_AR) => (fb_o11 zb zr0 zr1 zr2 zr3 zr4 (zq 0) zr6 zh zst zr9) ++ ((fb_mw cI zq ((f_X2_restart zs)) (w2)) ++ ((fb_o0 zh zo zn ((f_X0_forget ze0))) ++ (fb_o7 zst zs0 zs1 zs3 zs4 zs5 (upd ze7 7 (0 : Int32)))))) X I (fb_runV (As := []) (rest := []) (q0 := 1) X I hl (c_X2_restart l D cI cJ zq zs zw _) (fb_goodV fw_669 fw_670 fw_671 fw_198 fw_672) rfl rfl rfl (by decide +kernel : fb_hd yX2_restart 0) ⟨Nat.le_of_ble_eq_true rfl, Nat.le_of_ble_eq_true rfl⟩ [1, 2, 3, 4, 5, 6, 7, 8] (by decide) rfl rfl rfl rfl rfl rfl (Nat.le_of_ble_eq_true rfl) ⟨Nat.zero_le _, Nat.zero_le _⟩ dX11_reset_19) [1, 2, 3, 4, 5, 6, 7, 8] [0, 9, 10] [0, 3, 4, 5, 6, 7, 8, 9, 10, 1, 2] rfl rfl (by decide) (by decide) (by decide) (fun _ => rfl) ?_
  intro w2 H locs _ I
  refine lv_aload_n hx hb dX11_reset_22 rfl (lv_at hl 0 rfl) ?_
  refine fb_get X I (k := 5) fu_X11 0 rfl rfl (Nat.le_of_ble_eq_true rfl) fw_692 rfl rfl dX11_reset_23 ?_
  refine fb_get X I (k := 9) fu_X2 1 rfl rfl (Nat.le_of_ble_eq_true rfl) fw_534 rfl rfl dX11_reset_26 ?_
  subst E
  exact fb_retI (u := ((w2))) X I rfl rfl dX11_reset_29
set_option maxHeartbeats 4000000 in
set_option maxRecDepth 100000 in
theorem c_X11_reset (l : Launch) (D : va_G) (cI cJ : ClassId) (zb : Nat) (zr0 : Nat) (zr1 : Nat) (zr2 : Nat) (zr3 : Nat) (zr4 : Nat) (zr6 : Nat) (zh : Nat) (zst : Nat) (zr9 : Nat) (zq : Nat → Nat) (zs : fb_MS) (zw : fb_AR) (zo : Nat) (zn : Nat) (ze0 : fb_AR) (zs0 : Nat) (zs1 : Nat) (zs3 : Nat) (zs4 : Nat) (zs5 : Nat) (ze7 : fb_AR)  (sz : Nat)  : Met l yX11_reset (Cond.code yX11_reset cX11_reset 1 (some .int) :: fb_all) ({ frames := 3, cells := 0, slots := 0, locals := 63 } : Room) (fb_PP D (fb_ty D cI cJ) [.ref zb] ((fb_o11 zb zr0 zr1 zr2 zr3 zr4 (zq 0) zr6 zh zst zr9) ++ ((fb_mw cI zq zs zw) ++ ((fb_o0 zh zo zn ze0) ++ (fb_o7 zst zs0 zs1 zs3 zs4 zs5 ze7)))) sz) (fb_QI D (va_A ((fb_o11 zb zr0 zr1 zr2 zr3 zr4 (zq 0) zr6 zh zst zr9) ++ ((fb_mw cI zq zs zw) ++ ((fb_o0 zh zo zn ze0) ++ (fb_o7 zst zs0 zs1 zs3 zs4 zs5 ze7)))) sz) (fun (r : Int32) (_ : fb_AR) => r = ((f_X11_reset zs ze0 ze7)).1) (fun (t : fb_AR) => (fb_o11 zb zr0 zr1 zr2 zr3 zr4 (zq 0) zr6 zh zst zr9) ++ ((fb_mw cI zq (((f_X11_reset zs ze0 ze7)).2.1) (t)) ++ ((fb_o0 zh zo zn (((f_X11_reset zs ze0 ze7)).2.2.1)) ++ (fb_o7 zst zs0 zs1 zs3 zs4 zs5 (((f_X11_reset zs ze0 ze7)).2.2.2)))))) 0 0 (va_A ((fb_o11 zb zr0 zr1 zr2 zr3 zr4 (zq 0) zr6 zh zst zr9) ++ ((fb_mw cI zq zs zw) ++ ((fb_o0 zh zo zn ze0) ++ (fb_o7 zst zs0 zs1 zs3 zs4 zs5 ze7)))) sz) := by
  refine fb_ent (Qf := fun A => (fb_QI D A (fun (r : Int32) (_ : fb_AR) => r = ((f_X11_reset zs ze0 ze7)).1) (fun (t : fb_AR) => (fb_o11 zb zr0 zr1 zr2 zr3 zr4 (zq 0) zr6 zh zst zr9) ++ ((fb_mw cI zq (((f_X11_reset zs ze0 ze7)).2.1) (t)) ++ ((fb_o0 zh zo zn (((f_X11_reset zs ze0 ze7)).2.2.1)) ++ (fb_o7 zst zs0 zs1 zs3 zs4 zs5 (((f_X11_reset zs ze0 ze7)).2.2.2))))))) (by decide +kernel) (Nat.le_of_ble_eq_true rfl) ?_
  intro p e s m args below meth c A ls X I hl hin
  exact b_X11_reset_0 X  I hl rfl
/-! X7_dropBreak -/
def f_X7_dropBreak (ze7 : fb_AR) (l1 : Int32) : Int32 := (-1 : Int32)
set_option maxHeartbeats 4000000 in
set_option maxRecDepth 100000 in
theorem b_X7_dropBreak_0 {p : Program} {l : Launch} {e : Env} {s : State} {m : MethodId} {args : Array Value} {below : List Frame} {meth : Method} {c : Code} {D : va_G} {cI cJ : ClassId} {A : Nat → Prop} {zst : Nat} {zs0 : Nat} {zs1 : Nat} {zs3 : Nat} {zs4 : Nat} {zs5 : Nat} (X : fb_Bx p s m args meth c cX7_dropBreak RX7 4 (some .int) D (fb_ty D cI cJ) A) {ze7 : fb_AR} {l1 : Int32} {ls : Array Slot} (h1 : ze7 2 = 0) (I : fb_In D A s.heap ((fb_o7 zst zs0 zs1 zs3 zs4 zs5 ze7)) s.heap []) (hl : lv_has ls 4 [(0, .ref zst), (1, .int l1)]) : W p l e ({ frames := 2, cells := 0, slots := 0, locals := 43 } : Room) s m args below meth c s.heap [] 0 0 (MQ below (vp_Si (fun r => r = (-1 : Int32))) args s 0 0 (fun _ => False)) (F0 m 0 ls []) := by
  obtain ⟨hx, hb, hr, hml, hown, hts, hlk, hA, hK, hF⟩ := id X
  refine lv_aload_n hx hb dX7_dropBreak_0 rfl (lv_at hl 0 rfl) ?_
  refine lv_iload_n hx hb dX7_dropBreak_1 rfl (lv_at hl 1 rfl) ?_
  refine fb_roI X I (fb_runV (As := [.int l1]) (rest := []) (q0 := 0) X I hl (c_X7_breakIndex l D cI cJ zst zs0 zs1 zs3 zs4 zs5 ze7 l1 _ h1) (fb_goodV fw_1411 fw_1412 fw_1413 fw_201 fw_1414) rfl rfl rfl (by decide +kernel : fb_hd yX7_breakIndex 1) ⟨Nat.le_of_ble_eq_true rfl, Nat.le_of_ble_eq_true rfl⟩ [0] (by decide) rfl rfl rfl rfl rfl rfl (Nat.le_of_ble_eq_true rfl) ⟨Nat.zero_le _, Nat.zero_le _⟩ dX7_dropBreak_2) ?_
  refine lv_istore_n (lv' := [(2, .int (-1 : Int32)), (0, .ref zst), (1, .int l1)]) hx hb dX7_dropBreak_5 rfl hl (by decide) rfl (fun ls hl => ?_)
  refine lv_iload_n hx hb dX7_dropBreak_6 rfl (lv_at hl 0 rfl) ?_
  refine lv_if_ge (tgt := 12) hx hb dX7_dropBreak_7 (by decide) (fun c1 => absurd c1 (by decide)) (fun _ => ?_)
  refine lv_iconst (v := (-1 : Int32)) hx hb dX7_dropBreak_10 (by decide) ?_
  exact fb_retRI X rfl rfl dX7_dropBreak_11
set_option maxHeartbeats 4000000 in
set_option maxRecDepth 100000 in
theorem c_X7_dropBreak (l : Launch) (D : va_G) (cI cJ : ClassId) (zst : Nat) (zs0 : Nat) (zs1 : Nat) (zs3 : Nat) (zs4 : Nat) (zs5 : Nat) (ze7 : fb_AR) (l1 : Int32) (sz : Nat) (h1 : ze7 2 = 0) : Met l yX7_dropBreak (Cond.code yX7_dropBreak cX7_dropBreak 4 (some .int) :: fb_all) ({ frames := 2, cells := 0, slots := 0, locals := 43 } : Room) (fb_PP D (fb_ty D cI cJ) [.ref zst, .int l1] ((fb_o7 zst zs0 zs1 zs3 zs4 zs5 ze7)) sz) (vp_Si (fun r => r = (-1 : Int32))) 0 0 (fun _ => False) := by
  refine fb_entR (by decide +kernel) (Nat.le_of_ble_eq_true rfl) ?_
  intro p e s m args below meth c A ls X I hl hin
  exact b_X7_dropBreak_0 X h1 I hl
/-! X11_clearBreak -/
def f_X11_clearBreak (ze7 : fb_AR) (l1 : Int32) : Int32 := (-1 : Int32)
set_option maxHeartbeats 4000000 in
set_option maxRecDepth 100000 in
theorem b_X11_clearBreak_0 {p : Program} {l : Launch} {e : Env} {s : State} {m : MethodId} {args : Array Value} {below : List Frame} {meth : Method} {c : Code} {D : va_G} {cI cJ : ClassId} {A : Nat → Prop} {zb : Nat} {zr0 : Nat} {zr1 : Nat} {zr2 : Nat} {zr3 : Nat} {zr4 : Nat} {zr5 : Nat} {zr6 : Nat} {zr7 : Nat} {zst : Nat} {zr9 : Nat} {zs0 : Nat} {zs1 : Nat} {zs3 : Nat} {zs4 : Nat} {zs5 : Nat} (X : fb_Bx p s m args meth c cX11_clearBreak RX11 2 (some .int) D (fb_ty D cI cJ) A) {ze7 : fb_AR} {l1 : Int32} {ls : Array Slot} (h1 : ze7 2 = 0) (I : fb_In D A s.heap ((fb_o11 zb zr0 zr1 zr2 zr3 zr4 zr5 zr6 zr7 zst zr9) ++ (fb_o7 zst zs0 zs1 zs3 zs4 zs5 ze7)) s.heap []) (hl : lv_has ls 2 [(0, .ref zb), (1, .int l1)]) : W p l e ({ frames := 3, cells := 0, slots := 0, locals := 66 } : Room) s m args below meth c s.heap [] 0 0 (MQ below (vp_Si (fun r => r = (-1 : Int32))) args s 0 0 (fun _ => False)) (F0 m 0 ls []) := by
  obtain ⟨hx, hb, hr, hml, hown, hts, hlk, hA, hK, hF⟩ := id X
  refine lv_aload_n hx hb dX11_clearBreak_0 rfl (lv_at hl 0 rfl) ?_
  refine fb_get X I (k := 8) fu_X11 0 rfl rfl (Nat.le_of_ble_eq_true rfl) fw_695 rfl rfl dX11_clearBreak_1 ?_
  refine lv_iload_n hx hb dX11_clearBreak_4 rfl (lv_at hl 1 rfl) ?_
  refine fb_roI X I (fb_runV (As := [.int l1]) (rest := []) (q0 := 1) X I hl (c_X7_dropBreak l D cI cJ zst zs0 zs1 zs3 zs4 zs5 ze7 l1 _ h1) (fb_goodV fw_1433 fw_1434 fw_1435 fw_201 fw_1436) rfl rfl rfl (by decide +kernel : fb_hd yX7_dropBreak 1) ⟨Nat.le_of_ble_eq_true rfl, Nat.le_of_ble_eq_true rfl⟩ [1] (by decide) rfl rfl rfl rfl rfl rfl (Nat.le_of_ble_eq_true rfl) ⟨Nat.zero_le _, Nat.zero_le _⟩ dX11_clearBreak_5) ?_
  exact fb_retRI X rfl rfl dX11_clearBreak_8
set_option maxHeartbeats 4000000 in
set_option maxRecDepth 100000 in
theorem c_X11_clearBreak (l : Launch) (D : va_G) (cI cJ : ClassId) (zb : Nat) (zr0 : Nat) (zr1 : Nat) (zr2 : Nat) (zr3 : Nat) (zr4 : Nat) (zr5 : Nat) (zr6 : Nat) (zr7 : Nat) (zst : Nat) (zr9 : Nat) (zs0 : Nat) (zs1 : Nat) (zs3 : Nat) (zs4 : Nat) (zs5 : Nat) (ze7 : fb_AR) (l1 : Int32) (sz : Nat) (h1 : ze7 2 = 0) : Met l yX11_clearBreak (Cond.code yX11_clearBreak cX11_clearBreak 2 (some .int) :: fb_all) ({ frames := 3, cells := 0, slots := 0, locals := 66 } : Room) (fb_PP D (fb_ty D cI cJ) [.ref zb, .int l1] ((fb_o11 zb zr0 zr1 zr2 zr3 zr4 zr5 zr6 zr7 zst zr9) ++ (fb_o7 zst zs0 zs1 zs3 zs4 zs5 ze7)) sz) (vp_Si (fun r => r = (-1 : Int32))) 0 0 (fun _ => False) := by
  refine fb_entR (by decide +kernel) (Nat.le_of_ble_eq_true rfl) ?_
  intro p e s m args below meth c A ls X I hl hin
  exact b_X11_clearBreak_0 X h1 I hl
/-! X7_addBreak -/
def f_X7_addBreak_22 (ze7 : fb_AR) (zb0 : fb_AR) (zb1 : fb_AR) (l1 : Int32) (l2 : Int32) (l3 : Int32) : fb_AR × fb_AR × fb_AR := (ze7, ((f_X11_put 6 zb0 l3 l1)), ((f_X11_put 6 zb1 l3 l2)))
def f_X7_addBreak (ze7 : fb_AR) (zb0 : fb_AR) (zb1 : fb_AR) (l1 : Int32) (l2 : Int32) : fb_AR × fb_AR × fb_AR := f_X7_addBreak_22 (upd ze7 2 ((ze7 2) + (1 : Int32))) zb0 zb1 l1 l2 (ze7 2)
set_option maxHeartbeats 4000000 in
set_option maxRecDepth 100000 in
theorem b_X7_addBreak_22 {p : Program} {l : Launch} {e : Env} {s : State} {m : MethodId} {args : Array Value} {below : List Frame} {meth : Method} {c : Code} {D : va_G} {cI cJ : ClassId} {A : Nat → Prop} {zst : Nat} {zs0 : Nat} {zs1 : Nat} {zs3 : Nat} {zs4 : Nat} {zs5 : Nat} {z : fb_AR × fb_AR × fb_AR} (X : fb_Bx p s m args meth c cX7_addBreak RX7 4 none D (fb_ty D cI cJ) A) {ze7 : fb_AR} {zb0 : fb_AR} {zb1 : fb_AR} {l1 : Int32} {l2 : Int32} {l3 : Int32} {H : Heap} {locs : List Loc} {ls : Array Slot}  (I : fb_In D A s.heap ((fb_o7 zst zs0 zs1 zs3 zs4 zs5 ze7) ++ ((fb_aw cI zs0 6 zb0) ++ (fb_aw cI zs1 6 zb1))) H locs) (hl : lv_has ls 4 [(0, .ref zst), (1, .int l1), (2, .int l2), (3, .int l3)]) (E : z = f_X7_addBreak_22 ze7 zb0 zb1 l1 l2 l3) : W p l e ({ frames := 2, cells := 0, slots := 0, locals := 43 } : Room) s m args below meth c H locs 0 0 (MQ below (fb_QV D A (fun (_ : Unit) => True) (fun (t : Unit) => (fb_o7 zst zs0 zs1 zs3 zs4 zs5 (z.1)) ++ ((fb_aw cI zs0 6 (z.2.1)) ++ (fb_aw cI zs1 6 (z.2.2))))) args s 0 0 A) (F0 m 22 ls []) := by
  obtain ⟨hx, hb, hr, hml, hown, hts, hlk, hA, hK, hF⟩ := id X
  refine lv_aload_n hx hb dX7_addBreak_22 rfl (lv_at hl 0 rfl) ?_
  refine fb_get X I (k := 0) fu_X7 0 rfl rfl (Nat.le_of_ble_eq_true rfl) fw_617 rfl rfl dX7_addBreak_23 ?_
  refine lv_iload_n hx hb dX7_addBreak_26 rfl (lv_at hl 3 rfl) ?_
  refine lv_iload_n hx hb dX7_addBreak_27 rfl (lv_at hl 1 rfl) ?_
  refine fb_goV (wn := fun (w2 : Unit) => (fb_o7 zst zs0 zs1 zs3 zs4 zs5 ze7) ++ ((fb_aw cI zs0 6 ((f_X11_put 6 zb0 l3 l1))) ++ (fb_aw cI zs1 6 zb1))) X I (fb_runSN (As := [.ref zs0, .int l3, .int l1]) (rest := []) X I hl (c_X11_put l D cI cJ zs0 6 zb0 l3 l1 _ (by decide)) fw_756 rfl rfl (List.mem_of_getElem? (i := 34) rfl) fw_191 fw_755 (by decide +kernel : fb_hd yX11_put 3) ⟨Nat.le_of_ble_eq_true rfl, Nat.le_of_ble_eq_true rfl⟩ [1] (by decide) rfl rfl rfl (Nat.le_of_ble_eq_true rfl) ⟨Nat.zero_le _, Nat.zero_le _⟩ dX7_addBreak_28) [1] [0, 2] [0, 2, 1] rfl rfl (by decide) (by decide) (by decide) (fun _ => rfl) ?_
  intro w2 H locs _ I
  refine lv_aload_n hx hb dX7_addBreak_31 rfl (lv_at hl 0 rfl) ?_
  refine fb_get X I (k := 1) fu_X7 0 rfl rfl (Nat.le_of_ble_eq_true rfl) fw_618 rfl rfl dX7_addBreak_32 ?_
  refine lv_iload_n hx hb dX7_addBreak_35 rfl (lv_at hl 3 rfl) ?_
  refine lv_iload_n hx hb dX7_addBreak_36 rfl (lv_at hl 2 rfl) ?_
  refine fb_goV (wn := fun (w3 : Unit) => (fb_o7 zst zs0 zs1 zs3 zs4 zs5 ze7) ++ ((fb_aw cI zs0 6 ((f_X11_put 6 zb0 l3 l1))) ++ (fb_aw cI zs1 6 ((f_X11_put 6 zb1 l3 l2))))) X I (fb_runSN (As := [.ref zs1, .int l3, .int l2]) (rest := []) X I hl (c_X11_put l D cI cJ zs1 6 zb1 l3 l2 _ (by decide)) fw_756 rfl rfl (List.mem_of_getElem? (i := 34) rfl) fw_191 fw_755 (by decide +kernel : fb_hd yX11_put 3) ⟨Nat.le_of_ble_eq_true rfl, Nat.le_of_ble_eq_true rfl⟩ [2] (by decide) rfl rfl rfl (Nat.le_of_ble_eq_true rfl) ⟨Nat.zero_le _, Nat.zero_le _⟩ dX7_addBreak_37) [2] [0, 1] [0, 1, 2] rfl rfl (by decide) (by decide) (by decide) (fun _ => rfl) ?_
  intro w3 H locs _ I
  subst E
  exact fb_retV (u := ()) X I trivial dX7_addBreak_40
set_option maxHeartbeats 4000000 in
set_option maxRecDepth 100000 in
theorem b_X7_addBreak_0 {p : Program} {l : Launch} {e : Env} {s : State} {m : MethodId} {args : Array Value} {below : List Frame} {meth : Method} {c : Code} {D : va_G} {cI cJ : ClassId} {A : Nat → Prop} {zst : Nat} {zs0 : Nat} {zs1 : Nat} {zs3 : Nat} {zs4 : Nat} {zs5 : Nat} {z : fb_AR × fb_AR × fb_AR} (X : fb_Bx p s m args meth c cX7_addBreak RX7 4 none D (fb_ty D cI cJ) A) {ze7 : fb_AR} {zb0 : fb_AR} {zb1 : fb_AR} {l1 : Int32} {l2 : Int32} {H : Heap} {locs : List Loc} {ls : Array Slot} (h1 : ze7 2 = 0) (I : fb_In D A s.heap ((fb_o7 zst zs0 zs1 zs3 zs4 zs5 ze7) ++ ((fb_aw cI zs0 6 zb0) ++ (fb_aw cI zs1 6 zb1))) H locs) (hl : lv_has ls 4 [(0, .ref zst), (1, .int l1), (2, .int l2)]) (E : z = f_X7_addBreak ze7 zb0 zb1 l1 l2) : W p l e ({ frames := 2, cells := 0, slots := 0, locals := 43 } : Room) s m args below meth c H locs 0 0 (MQ below (fb_QV D A (fun (_ : Unit) => True) (fun (t : Unit) => (fb_o7 zst zs0 zs1 zs3 zs4 zs5 (z.1)) ++ ((fb_aw cI zs0 6 (z.2.1)) ++ (fb_aw cI zs1 6 (z.2.2))))) args s 0 0 A) (F0 m 0 ls []) := by
  obtain ⟨hx, hb, hr, hml, hown, hts, hlk, hA, hK, hF⟩ := id X
  refine lv_aload_n hx hb dX7_addBreak_0 rfl (lv_at hl 0 rfl) ?_
  refine lv_iload_n hx hb dX7_addBreak_1 rfl (lv_at hl 1 rfl) ?_
  refine fb_roI X I (fb_runV (As := [.int l1]) (rest := []) (q0 := 0) X I hl (c_X7_breakIndex l D cI cJ zst zs0 zs1 zs3 zs4 zs5 ze7 l1 _ h1) (fb_goodV fw_1411 fw_1412 fw_1413 fw_201 fw_1414) rfl rfl rfl (by decide +kernel : fb_hd yX7_breakIndex 1) ⟨Nat.le_of_ble_eq_true rfl, Nat.le_of_ble_eq_true rfl⟩ [0] (by decide) rfl rfl rfl rfl rfl rfl (Nat.le_of_ble_eq_true rfl) ⟨Nat.zero_le _, Nat.zero_le _⟩ dX7_addBreak_2) ?_
  refine lv_istore_n (lv' := [(3, .int (-1 : Int32)), (0, .ref zst), (1, .int l1), (2, .int l2)]) hx hb dX7_addBreak_5 rfl hl (by decide) rfl (fun ls hl => ?_)
  refine lv_iload_n hx hb dX7_addBreak_6 rfl (lv_at hl 0 rfl) ?_
  refine lv_if_ge (tgt := 22) hx hb dX7_addBreak_7 (by decide) (fun c1 => absurd c1 (by decide)) (fun _ => ?_)
  refine lv_aload_n hx hb dX7_addBreak_10 rfl (lv_at hl 1 rfl) ?_
  refine lv_dup hx hb dX7_addBreak_11 rfl ?_
  refine fb_get X I (k := 2) fu_X7 0 rfl rfl (Nat.le_of_ble_eq_true rfl) fw_619 rfl rfl dX7_addBreak_12 ?_
  refine lv_dup_x1 hx hb dX7_addBreak_15 rfl rfl ?_
  refine lv_iconst (v := (1 : Int32)) hx hb dX7_addBreak_16 (by decide) ?_
  refine lv_iadd hx hb dX7_addBreak_17 ?_
  refine fb_put X I (k := 2) (wn := (fb_o7 zst zs0 zs1 zs3 zs4 zs5 (upd ze7 2 ((ze7 2) + (1 : Int32)))) ++ ((fb_aw cI zs0 6 zb0) ++ (fb_aw cI zs1 6 zb1))) fu_X7 tyX7 tyX7_ok nmX7 0 rfl rfl (Nat.le_of_ble_eq_true rfl) fw_619 rfl rfl rfl rfl rfl (Nat.le_of_ble_eq_true rfl) rfl dX7_addBreak_18 (fun H locs I => ?_)
  refine lv_istore_n (lv' := [(3, .int (ze7 2)), (0, .ref zst), (1, .int l1), (2, .int l2)]) hx hb dX7_addBreak_21 rfl hl (by decide) rfl (fun ls hl => ?_)
  exact b_X7_addBreak_22 X  (l1 := l1) (l2 := l2) (l3 := (ze7 2)) I (lv_sub hl [1, 2, 3, 0] rfl) E
set_option maxHeartbeats 4000000 in
set_option maxRecDepth 100000 in
theorem c_X7_addBreak (l : Launch) (D : va_G) (cI cJ : ClassId) (zst : Nat) (zs0 : Nat) (zs1 : Nat) (zs3 : Nat) (zs4 : Nat) (zs5 : Nat) (ze7 : fb_AR) (zb0 : fb_AR) (zb1 : fb_AR) (l1 : Int32) (l2 : Int32) (sz : Nat) (h1 : ze7 2 = 0) : Met l yX7_addBreak (Cond.code yX7_addBreak cX7_addBreak 4 none :: fb_all) ({ frames := 2, cells := 0, slots := 0, locals := 43 } : Room) (fb_PP D (fb_ty D cI cJ) [.ref zst, .int l1, .int l2] ((fb_o7 zst zs0 zs1 zs3 zs4 zs5 ze7) ++ ((fb_aw cI zs0 6 zb0) ++ (fb_aw cI zs1 6 zb1))) sz) (fb_QV D (va_A ((fb_o7 zst zs0 zs1 zs3 zs4 zs5 ze7) ++ ((fb_aw cI zs0 6 zb0) ++ (fb_aw cI zs1 6 zb1))) sz) (fun (_ : Unit) => True) (fun (t : Unit) => (fb_o7 zst zs0 zs1 zs3 zs4 zs5 (((f_X7_addBreak ze7 zb0 zb1 l1 l2)).1)) ++ ((fb_aw cI zs0 6 (((f_X7_addBreak ze7 zb0 zb1 l1 l2)).2.1)) ++ (fb_aw cI zs1 6 (((f_X7_addBreak ze7 zb0 zb1 l1 l2)).2.2))))) 0 0 (va_A ((fb_o7 zst zs0 zs1 zs3 zs4 zs5 ze7) ++ ((fb_aw cI zs0 6 zb0) ++ (fb_aw cI zs1 6 zb1))) sz) := by
  refine fb_ent (Qf := fun A => (fb_QV D A (fun (_ : Unit) => True) (fun (t : Unit) => (fb_o7 zst zs0 zs1 zs3 zs4 zs5 (((f_X7_addBreak ze7 zb0 zb1 l1 l2)).1)) ++ ((fb_aw cI zs0 6 (((f_X7_addBreak ze7 zb0 zb1 l1 l2)).2.1)) ++ (fb_aw cI zs1 6 (((f_X7_addBreak ze7 zb0 zb1 l1 l2)).2.2)))))) (by decide +kernel) (Nat.le_of_ble_eq_true rfl) ?_
  intro p e s m args below meth c A ls X I hl hin
  exact b_X7_addBreak_0 X h1 I hl rfl
/-! X11_setBreak -/
def f_X11_setBreak_73 (ze7 : fb_AR) (zb0 : fb_AR) (zb1 : fb_AR) (l1 : Int32) (l2 : Int32) : Int32 × fb_AR × fb_AR × fb_AR := ((((f_X7_addBreak ze7 zb0 zb1 l1 l2).1) 2), ((f_X7_addBreak ze7 zb0 zb1 l1 l2).1), ((f_X7_addBreak ze7 zb0 zb1 l1 l2).2.1), ((f_X7_addBreak ze7 zb0 zb1 l1 l2).2.2))
def f_X11_setBreak (ze7 : fb_AR) (zb0 : fb_AR) (zb1 : fb_AR) (l1 : Int32) (l2 : Int32) : Int32 × fb_AR × fb_AR × fb_AR := f_X11_setBreak_73 ze7 zb0 zb1 l1 l2
set_option maxHeartbeats 4000000 in
set_option maxRecDepth 100000 in
theorem b_X11_setBreak_73 {p : Program} {l : Launch} {e : Env} {s : State} {m : MethodId} {args : Array Value} {below : List Frame} {meth : Method} {c : Code} {D : va_G} {cI cJ : ClassId} {A : Nat → Prop} {zb : Nat} {zr0 : Nat} {zr1 : Nat} {zr2 : Nat} {zr3 : Nat} {zr4 : Nat} {zr5 : Nat} {zr6 : Nat} {zr7 : Nat} {zst : Nat} {zr9 : Nat} {zs0 : Nat} {zs1 : Nat} {zs3 : Nat} {zs4 : Nat} {zs5 : Nat} {z : Int32 × fb_AR × fb_AR × fb_AR} (X : fb_Bx p s m args meth c cX11_setBreak RX11 3 (some .int) D (fb_ty D cI cJ) A) {ze7 : fb_AR} {zb0 : fb_AR} {zb1 : fb_AR} {l1 : Int32} {l2 : Int32} {H : Heap} {locs : List Loc} {ls : Array Slot} (h1 : ze7 2 = 0) (I : fb_In D A s.heap ((fb_o11 zb zr0 zr1 zr2 zr3 zr4 zr5 zr6 zr7 zst zr9) ++ ((fb_o7 zst zs0 zs1 zs3 zs4 zs5 ze7) ++ ((fb_aw cI zs0 6 zb0) ++ (fb_aw cI zs1 6 zb1)))) H locs) (hl : lv_has ls 3 [(0, .ref zb), (1, .int l1), (2, .int l2)]) (E : z = f_X11_setBreak_73 ze7 zb0 zb1 l1 l2) : W p l e ({ frames := 3, cells := 0, slots := 0, locals := 66 } : Room) s m args below meth c H locs 0 0 (MQ below (fb_QI D A (fun (r : Int32) (_ : Unit) => r = z.1) (fun (t : Unit) => (fb_o11 zb zr0 zr1 zr2 zr3 zr4 zr5 zr6 zr7 zst zr9) ++ ((fb_o7 zst zs0 zs1 zs3 zs4 zs5 (z.2.1)) ++ ((fb_aw cI zs0 6 (z.2.2.1)) ++ (fb_aw cI zs1 6 (z.2.2.2)))))) args s 0 0 A) (F0 m 73 ls []) := by
  obtain ⟨hx, hb, hr, hml, hown, hts, hlk, hA, hK, hF⟩ := id X
  refine lv_aload_n hx hb dX11_setBreak_73 rfl (lv_at hl 0 rfl) ?_
  refine fb_get X I (k := 8) fu_X11 0 rfl rfl (Nat.le_of_ble_eq_true rfl) fw_695 rfl rfl dX11_setBreak_74 ?_
  refine lv_iload_n hx hb dX11_setBreak_77 rfl (lv_at hl 1 rfl) ?_
  refine lv_iload_n hx hb dX11_setBreak_78 rfl (lv_at hl 2 rfl) ?_
  refine fb_goV (wn := fun (w6 : Unit) => (fb_o11 zb zr0 zr1 zr2 zr3 zr4 zr5 zr6 zr7 zst zr9) ++ ((fb_o7 zst zs0 zs1 zs3 zs4 zs5 ((f_X7_addBreak ze7 zb0 zb1 l1 l2).1)) ++ ((fb_aw cI zs0 6 ((f_X7_addBreak ze7 zb0 zb1 l1 l2).2.1)) ++ (fb_aw cI zs1 6 ((f_X7_addBreak ze7 zb0 zb1 l1 l2).2.2))))) X I (fb_runV (As := [.int l1, .int l2]) (rest := []) (q0 := 1) X I hl (c_X7_addBreak l D cI cJ zst zs0 zs1 zs3 zs4 zs5 ze7 zb0 zb1 l1 l2 _ h1) (fb_goodV fw_1806 fw_1807 fw_1808 fw_201 fw_1809) rfl rfl rfl (by decide +kernel : fb_hd yX7_addBreak 2) ⟨Nat.le_of_ble_eq_true rfl, Nat.le_of_ble_eq_true rfl⟩ [1, 2, 3] (by decide) rfl rfl rfl rfl rfl rfl (Nat.le_of_ble_eq_true rfl) ⟨Nat.zero_le _, Nat.zero_le _⟩ dX11_setBreak_79) [1, 2, 3] [0] [0, 1, 2, 3] rfl rfl (by decide) (by decide) (by decide) (fun _ => rfl) ?_
  intro w6 H locs _ I
  refine lv_aload_n hx hb dX11_setBreak_82 rfl (lv_at hl 0 rfl) ?_
  refine fb_get X I (k := 8) fu_X11 0 rfl rfl (Nat.le_of_ble_eq_true rfl) fw_695 rfl rfl dX11_setBreak_83 ?_
  refine fb_get X I (k := 2) fu_X7 1 rfl rfl (Nat.le_of_ble_eq_true rfl) fw_620 rfl rfl dX11_setBreak_86 ?_
  subst E
  exact fb_retI (u := ()) X I rfl rfl dX11_setBreak_89
set_option maxHeartbeats 4000000 in
set_option maxRecDepth 100000 in
theorem b_X11_setBreak_0 {p : Program} {l : Launch} {e : Env} {s : State} {m : MethodId} {args : Array Value} {below : List Frame} {meth : Method} {c : Code} {D : va_G} {cI cJ : ClassId} {A : Nat → Prop} {zb : Nat} {zr0 : Nat} {zr1 : Nat} {zr2 : Nat} {zr3 : Nat} {zr4 : Nat} {zr5 : Nat} {zr6 : Nat} {zr7 : Nat} {zst : Nat} {zr9 : Nat} {zs0 : Nat} {zs1 : Nat} {zs3 : Nat} {zs4 : Nat} {zs5 : Nat} {z : Int32 × fb_AR × fb_AR × fb_AR} (X : fb_Bx p s m args meth c cX11_setBreak RX11 3 (some .int) D (fb_ty D cI cJ) A) {ze7 : fb_AR} {zb0 : fb_AR} {zb1 : fb_AR} {l1 : Int32} {l2 : Int32} {H : Heap} {locs : List Loc} {ls : Array Slot} (gA : f_X11_isNoAddress l1 = 0) (k0 : ¬ l2 < 0) (k1 : l2 ≤ 1000) (h1 : ze7 2 = 0) (I : fb_In D A s.heap ((fb_o11 zb zr0 zr1 zr2 zr3 zr4 zr5 zr6 zr7 zst zr9) ++ ((fb_o7 zst zs0 zs1 zs3 zs4 zs5 ze7) ++ ((fb_aw cI zs0 6 zb0) ++ (fb_aw cI zs1 6 zb1)))) H locs) (hl : lv_has ls 3 [(0, .ref zb), (1, .int l1), (2, .int l2)]) (E : z = f_X11_setBreak ze7 zb0 zb1 l1 l2) : W p l e ({ frames := 3, cells := 0, slots := 0, locals := 66 } : Room) s m args below meth c H locs 0 0 (MQ below (fb_QI D A (fun (r : Int32) (_ : Unit) => r = z.1) (fun (t : Unit) => (fb_o11 zb zr0 zr1 zr2 zr3 zr4 zr5 zr6 zr7 zst zr9) ++ ((fb_o7 zst zs0 zs1 zs3 zs4 zs5 (z.2.1)) ++ ((fb_aw cI zs0 6 (z.2.2.1)) ++ (fb_aw cI zs1 6 (z.2.2.2)))))) args s 0 0 A) (F0 m 0 ls []) := by
  obtain ⟨hx, hb, hr, hml, hown, hts, hlk, hA, hK, hF⟩ := id X
  refine lv_iload_n hx hb dX11_setBreak_0 rfl (lv_at hl 1 rfl) ?_
  refine fb_roI X I (fb_runS (As := [.int l1]) (rest := []) X I hl (c_X11_isNoAddress l D cI cJ l1 _) (fb_goodS fw_1717 fw_1718 fw_191 fw_1719) rfl rfl (by decide +kernel : fb_hd yX11_isNoAddress 1) ⟨Nat.le_of_ble_eq_true rfl, Nat.le_of_ble_eq_true rfl⟩ [] (by decide) rfl rfl rfl (Nat.le_of_ble_eq_true rfl) ⟨Nat.zero_le _, Nat.zero_le _⟩ dX11_setBreak_1) ?_
  refine lv_if_eq (tgt := 17) hx hb dX11_setBreak_4 (by decide) (fun _ => ?_) (fun c1 => absurd gA c1)
  refine lv_iload_n hx hb dX11_setBreak_17 rfl (lv_at hl 2 rfl) ?_
  refine lv_if_lt (tgt := 28) hx hb dX11_setBreak_18 (by decide) (fun c2 => absurd c2 k0) (fun _ => ?_)
  refine lv_iload_n hx hb dX11_setBreak_21 rfl (lv_at hl 2 rfl) ?_
  refine lv_sipush (v := (1000 : Int32)) hx hb dX11_setBreak_22 (by decide) ?_
  refine lv_icmp_le (tgt := 39) hx hb dX11_setBreak_25 (by decide) (fun _ => ?_) (fun c3 => absurd k1 c3)
  refine lv_aload_n hx hb dX11_setBreak_39 rfl (lv_at hl 0 rfl) ?_
  refine fb_get X I (k := 8) fu_X11 0 rfl rfl (Nat.le_of_ble_eq_true rfl) fw_695 rfl rfl dX11_setBreak_40 ?_
  refine lv_iload_n hx hb dX11_setBreak_43 rfl (lv_at hl 1 rfl) ?_
  refine fb_roI X I (fb_runV (As := [.int l1]) (rest := []) (q0 := 1) X I hl (c_X7_breakIndex l D cI cJ zst zs0 zs1 zs3 zs4 zs5 ze7 l1 _ h1) (fb_goodV fw_1804 fw_1412 fw_1413 fw_201 fw_1414) rfl rfl rfl (by decide +kernel : fb_hd yX7_breakIndex 1) ⟨Nat.le_of_ble_eq_true rfl, Nat.le_of_ble_eq_true rfl⟩ [1] (by decide) rfl rfl rfl rfl rfl rfl (Nat.le_of_ble_eq_true rfl) ⟨Nat.zero_le _, Nat.zero_le _⟩ dX11_setBreak_44) ?_
  refine lv_if_ge (tgt := 73) hx hb dX11_setBreak_47 (by decide) (fun c4 => absurd c4 (by decide)) (fun _ => ?_)
  refine lv_aload_n hx hb dX11_setBreak_50 rfl (lv_at hl 0 rfl) ?_
  refine fb_get X I (k := 8) fu_X11 0 rfl rfl (Nat.le_of_ble_eq_true rfl) fw_695 rfl rfl dX11_setBreak_51 ?_
  refine fb_get X I (k := 2) fu_X7 1 rfl rfl (Nat.le_of_ble_eq_true rfl) fw_620 rfl rfl dX11_setBreak_54 ?_
  refine lv_bipush (v := (6 : Int32)) hx hb dX11_setBreak_57 (by decide) ?_
  refine lv_icmp_lt (tgt := 73) hx hb dX11_setBreak_59 (by decide) (fun _ => ?_) (fun c5 => absurd (by rw [h1]; decide) c5)
  exact b_X11_setBreak_73 X h1 (l1 := l1) (l2 := l2) I (lv_sub hl [0, 1, 2] rfl) E
set_option maxHeartbeats 4000000 in
set_option maxRecDepth 100000 in
theorem c_X11_setBreak (l : Launch) (D : va_G) (cI cJ : ClassId) (zb : Nat) (zr0 : Nat) (zr1 : Nat) (zr2 : Nat) (zr3 : Nat) (zr4 : Nat) (zr5 : Nat) (zr6 : Nat) (zr7 : Nat) (zst : Nat) (zr9 : Nat) (zs0 : Nat) (zs1 : Nat) (zs3 : Nat) (zs4 : Nat) (zs5 : Nat) (ze7 : fb_AR) (zb0 : fb_AR) (zb1 : fb_AR) (l1 : Int32) (l2 : Int32) (sz : Nat) (gA : f_X11_isNoAddress l1 = 0) (k0 : ¬ l2 < 0) (k1 : l2 ≤ 1000) (h1 : ze7 2 = 0) : Met l yX11_setBreak (Cond.code yX11_setBreak cX11_setBreak 3 (some .int) :: fb_all) ({ frames := 3, cells := 0, slots := 0, locals := 66 } : Room) (fb_PP D (fb_ty D cI cJ) [.ref zb, .int l1, .int l2] ((fb_o11 zb zr0 zr1 zr2 zr3 zr4 zr5 zr6 zr7 zst zr9) ++ ((fb_o7 zst zs0 zs1 zs3 zs4 zs5 ze7) ++ ((fb_aw cI zs0 6 zb0) ++ (fb_aw cI zs1 6 zb1)))) sz) (fb_QI D (va_A ((fb_o11 zb zr0 zr1 zr2 zr3 zr4 zr5 zr6 zr7 zst zr9) ++ ((fb_o7 zst zs0 zs1 zs3 zs4 zs5 ze7) ++ ((fb_aw cI zs0 6 zb0) ++ (fb_aw cI zs1 6 zb1)))) sz) (fun (r : Int32) (_ : Unit) => r = ((f_X11_setBreak ze7 zb0 zb1 l1 l2)).1) (fun (t : Unit) => (fb_o11 zb zr0 zr1 zr2 zr3 zr4 zr5 zr6 zr7 zst zr9) ++ ((fb_o7 zst zs0 zs1 zs3 zs4 zs5 (((f_X11_setBreak ze7 zb0 zb1 l1 l2)).2.1)) ++ ((fb_aw cI zs0 6 (((f_X11_setBreak ze7 zb0 zb1 l1 l2)).2.2.1)) ++ (fb_aw cI zs1 6 (((f_X11_setBreak ze7 zb0 zb1 l1 l2)).2.2.2)))))) 0 0 (va_A ((fb_o11 zb zr0 zr1 zr2 zr3 zr4 zr5 zr6 zr7 zst zr9) ++ ((fb_o7 zst zs0 zs1 zs3 zs4 zs5 ze7) ++ ((fb_aw cI zs0 6 zb0) ++ (fb_aw cI zs1 6 zb1)))) sz) := by
  refine fb_ent (Qf := fun A => (fb_QI D A (fun (r : Int32) (_ : Unit) => r = ((f_X11_setBreak ze7 zb0 zb1 l1 l2)).1) (fun (t : Unit) => (fb_o11 zb zr0 zr1 zr2 zr3 zr4 zr5 zr6 zr7 zst zr9) ++ ((fb_o7 zst zs0 zs1 zs3 zs4 zs5 (((f_X11_setBreak ze7 zb0 zb1 l1 l2)).2.1)) ++ ((fb_aw cI zs0 6 (((f_X11_setBreak ze7 zb0 zb1 l1 l2)).2.2.1)) ++ (fb_aw cI zs1 6 (((f_X11_setBreak ze7 zb0 zb1 l1 l2)).2.2.2))))))) (by decide +kernel) (Nat.le_of_ble_eq_true rfl) ?_
  intro p e s m args below meth c A ls X I hl hin
  exact b_X11_setBreak_0 X gA k0 k1 h1 I hl rfl
/-! X7_addWatch -/
def f_X7_addWatch_51 (ze7 : fb_AR) (zb3 : fb_AR) (zb4 : fb_AR) (zb5 : fb_AR) (k0 : Int32) (k1 : Int32) (k2 : Int32) : fb_AR × fb_AR × fb_AR × fb_AR := ((upd ze7 6 ((ze7 6) + (1 : Int32))), zb3, zb4, ((f_X11_put 4 zb5 k2 (k1 + k0))))
def f_X7_addWatch_41 (ze7 : fb_AR) (zb3 : fb_AR) (zb4 : fb_AR) (zb5 : fb_AR) (l4 : Int32) (k0 : Int32) (k1 : Int32) : fb_AR × fb_AR × fb_AR × fb_AR := (if l4 = 0 then f_X7_addWatch_51 ze7 zb3 zb4 zb5 (0 : Int32) k0 k1 else f_X7_addWatch_51 ze7 zb3 zb4 zb5 (2 : Int32) k0 k1)
def f_X7_addWatch (ze7 : fb_AR) (zb3 : fb_AR) (zb4 : fb_AR) (zb5 : fb_AR) (l1 : Int32) (l2 : Int32) (l3 : Int32) (l4 : Int32) : fb_AR × fb_AR × fb_AR × fb_AR := (if l3 = 0 then f_X7_addWatch_41 ze7 ((f_X11_put 4 zb3 (ze7 6) l1)) ((f_X11_put 4 zb4 (ze7 6) l2)) zb5 l4 (0 : Int32) (ze7 6) else f_X7_addWatch_41 ze7 ((f_X11_put 4 zb3 (ze7 6) l1)) ((f_X11_put 4 zb4 (ze7 6) l2)) zb5 l4 (1 : Int32) (ze7 6))
set_option maxHeartbeats 4000000 in
set_option maxRecDepth 100000 in
theorem b_X7_addWatch_51 {p : Program} {l : Launch} {e : Env} {s : State} {m : MethodId} {args : Array Value} {below : List Frame} {meth : Method} {c : Code} {D : va_G} {cI cJ : ClassId} {A : Nat → Prop} {zst : Nat} {zs0 : Nat} {zs1 : Nat} {zs3 : Nat} {zs4 : Nat} {zs5 : Nat} {z : fb_AR × fb_AR × fb_AR × fb_AR} (X : fb_Bx p s m args meth c cX7_addWatch RX7 5 none D (fb_ty D cI cJ) A) {ze7 : fb_AR} {zb3 : fb_AR} {zb4 : fb_AR} {zb5 : fb_AR} {k0 : Int32} {k1 : Int32} {k2 : Int32} {H : Heap} {locs : List Loc} {ls : Array Slot}  (I : fb_In D A s.heap ((fb_o7 zst zs0 zs1 zs3 zs4 zs5 ze7) ++ ((fb_aw cI zs3 4 zb3) ++ ((fb_aw cI zs4 4 zb4) ++ (fb_aw cI zs5 4 zb5)))) H locs) (hl : lv_has ls 5 [(0, .ref zst)]) (E : z = f_X7_addWatch_51 ze7 zb3 zb4 zb5 k0 k1 k2) : W p l e ({ frames := 1, cells := 0, slots := 0, locals := 22 } : Room) s m args below meth c H locs 0 0 (MQ below (fb_QV D A (fun (_ : Unit) => True) (fun (t : Unit) => (fb_o7 zst zs0 zs1 zs3 zs4 zs5 (z.1)) ++ ((fb_aw cI zs3 4 (z.2.1)) ++ ((fb_aw cI zs4 4 (z.2.2.1)) ++ (fb_aw cI zs5 4 (z.2.2.2)))))) args s 0 0 A) (F0 m 51 ls [.int k0, .int k1, .int k2, .ref zs5]) := by
  obtain ⟨hx, hb, hr, hml, hown, hts, hlk, hA, hK, hF⟩ := id X
  refine lv_iadd hx hb dX7_addWatch_51 ?_
  refine fb_goV (wn := fun (w9 : Unit) => (fb_o7 zst zs0 zs1 zs3 zs4 zs5 ze7) ++ ((fb_aw cI zs3 4 zb3) ++ ((fb_aw cI zs4 4 zb4) ++ (fb_aw cI zs5 4 ((f_X11_put 4 zb5 k2 (k1 + k0))))))) X I (fb_runSN (As := [.ref zs5, .int k2, .int (k1 + k0)]) (rest := []) X I hl (c_X11_put l D cI cJ zs5 4 zb5 k2 (k1 + k0) _ (by decide)) fw_756 rfl rfl (List.mem_of_getElem? (i := 34) rfl) fw_191 fw_755 (by decide +kernel : fb_hd yX11_put 3) ⟨Nat.le_of_ble_eq_true rfl, Nat.le_of_ble_eq_true rfl⟩ [3] (by decide) rfl rfl rfl (Nat.le_of_ble_eq_true rfl) ⟨Nat.zero_le _, Nat.zero_le _⟩ dX7_addWatch_52) [3] [0, 1, 2] [0, 1, 2, 3] rfl rfl (by decide) (by decide) (by decide) (fun _ => rfl) ?_
  intro w9 H locs _ I
  refine lv_aload_n hx hb dX7_addWatch_55 rfl (lv_at hl 0 rfl) ?_
  refine lv_dup hx hb dX7_addWatch_56 rfl ?_
  refine fb_get X I (k := 6) fu_X7 0 rfl rfl (Nat.le_of_ble_eq_true rfl) fw_624 rfl rfl dX7_addWatch_57 ?_
  refine lv_iconst (v := (1 : Int32)) hx hb dX7_addWatch_60 (by decide) ?_
  refine lv_iadd hx hb dX7_addWatch_61 ?_
  refine fb_put X I (k := 6) (wn := (fb_o7 zst zs0 zs1 zs3 zs4 zs5 (upd ze7 6 ((ze7 6) + (1 : Int32)))) ++ ((fb_aw cI zs3 4 zb3) ++ ((fb_aw cI zs4 4 zb4) ++ (fb_aw cI zs5 4 ((f_X11_put 4 zb5 k2 (k1 + k0))))))) fu_X7 tyX7 tyX7_ok nmX7 0 rfl rfl (Nat.le_of_ble_eq_true rfl) fw_624 rfl rfl rfl rfl rfl (Nat.le_of_ble_eq_true rfl) rfl dX7_addWatch_62 (fun H locs I => ?_)
  subst E
  exact fb_retV (u := ()) X I trivial dX7_addWatch_65
set_option maxHeartbeats 4000000 in
set_option maxRecDepth 100000 in
theorem b_X7_addWatch_41 {p : Program} {l : Launch} {e : Env} {s : State} {m : MethodId} {args : Array Value} {below : List Frame} {meth : Method} {c : Code} {D : va_G} {cI cJ : ClassId} {A : Nat → Prop} {zst : Nat} {zs0 : Nat} {zs1 : Nat} {zs3 : Nat} {zs4 : Nat} {zs5 : Nat} {z : fb_AR × fb_AR × fb_AR × fb_AR} (X : fb_Bx p s m args meth c cX7_addWatch RX7 5 none D (fb_ty D cI cJ) A) {ze7 : fb_AR} {zb3 : fb_AR} {zb4 : fb_AR} {zb5 : fb_AR} {l4 : Int32} {k0 : Int32} {k1 : Int32} {H : Heap} {locs : List Loc} {ls : Array Slot}  (I : fb_In D A s.heap ((fb_o7 zst zs0 zs1 zs3 zs4 zs5 ze7) ++ ((fb_aw cI zs3 4 zb3) ++ ((fb_aw cI zs4 4 zb4) ++ (fb_aw cI zs5 4 zb5)))) H locs) (hl : lv_has ls 5 [(0, .ref zst), (4, .int l4)]) (E : z = f_X7_addWatch_41 ze7 zb3 zb4 zb5 l4 k0 k1) : W p l e ({ frames := 1, cells := 0, slots := 0, locals := 22 } : Room) s m args below meth c H locs 0 0 (MQ below (fb_QV D A (fun (_ : Unit) => True) (fun (t : Unit) => (fb_o7 zst zs0 zs1 zs3 zs4 zs5 (z.1)) ++ ((fb_aw cI zs3 4 (z.2.1)) ++ ((fb_aw cI zs4 4 (z.2.2.1)) ++ (fb_aw cI zs5 4 (z.2.2.2)))))) args s 0 0 A) (F0 m 41 ls [.int k0, .int k1, .ref zs5]) := by
  obtain ⟨hx, hb, hr, hml, hown, hts, hlk, hA, hK, hF⟩ := id X
  refine lv_iload hx hb dX7_addWatch_41 (lv_at hl 1 rfl) ?_
  refine lv_if_eq (tgt := 50) hx hb dX7_addWatch_43 (by decide) (fun c6 => ?_) (fun c6 => ?_)
  · have E7 := (E.trans (if_pos c6))
    refine lv_iconst (v := (0 : Int32)) hx hb dX7_addWatch_50 (by decide) ?_
    exact b_X7_addWatch_51 X  (k0 := (0 : Int32)) (k1 := k0) (k2 := k1) I (lv_sub hl [0] rfl) E7
  · have E8 := (E.trans (if_neg c6))
    refine lv_iconst (v := (2 : Int32)) hx hb dX7_addWatch_46 (by decide) ?_
    refine lv_goto (tgt := 51) hx hb dX7_addWatch_47 (by decide) ?_
    exact b_X7_addWatch_51 X  (k0 := (2 : Int32)) (k1 := k0) (k2 := k1) I (lv_sub hl [0] rfl) E8
set_option maxHeartbeats 4000000 in
set_option maxRecDepth 100000 in
theorem b_X7_addWatch_0 {p : Program} {l : Launch} {e : Env} {s : State} {m : MethodId} {args : Array Value} {below : List Frame} {meth : Method} {c : Code} {D : va_G} {cI cJ : ClassId} {A : Nat → Prop} {zst : Nat} {zs0 : Nat} {zs1 : Nat} {zs3 : Nat} {zs4 : Nat} {zs5 : Nat} {z : fb_AR × fb_AR × fb_AR × fb_AR} (X : fb_Bx p s m args meth c cX7_addWatch RX7 5 none D (fb_ty D cI cJ) A) {ze7 : fb_AR} {zb3 : fb_AR} {zb4 : fb_AR} {zb5 : fb_AR} {l1 : Int32} {l2 : Int32} {l3 : Int32} {l4 : Int32} {H : Heap} {locs : List Loc} {ls : Array Slot}  (I : fb_In D A s.heap ((fb_o7 zst zs0 zs1 zs3 zs4 zs5 ze7) ++ ((fb_aw cI zs3 4 zb3) ++ ((fb_aw cI zs4 4 zb4) ++ (fb_aw cI zs5 4 zb5)))) H locs) (hl : lv_has ls 5 [(0, .ref zst), (1, .int l1), (2, .int l2), (3, .int l3), (4, .int l4)]) (E : z = f_X7_addWatch ze7 zb3 zb4 zb5 l1 l2 l3 l4) : W p l e ({ frames := 1, cells := 0, slots := 0, locals := 22 } : Room) s m args below meth c H locs 0 0 (MQ below (fb_QV D A (fun (_ : Unit) => True) (fun (t : Unit) => (fb_o7 zst zs0 zs1 zs3 zs4 zs5 (z.1)) ++ ((fb_aw cI zs3 4 (z.2.1)) ++ ((fb_aw cI zs4 4 (z.2.2.1)) ++ (fb_aw cI zs5 4 (z.2.2.2)))))) args s 0 0 A) (F0 m 0 ls []) := by
  obtain ⟨hx, hb, hr, hml, hown, hts, hlk, hA, hK, hF⟩ := id X
  refine lv_aload_n hx hb dX7_addWatch_0 rfl (lv_at hl 0 rfl) ?_
  refine fb_get X I (k := 3) fu_X7 0 rfl rfl (Nat.le_of_ble_eq_true rfl) fw_621 rfl rfl dX7_addWatch_1 ?_
  refine lv_aload_n hx hb dX7_addWatch_4 rfl (lv_at hl 0 rfl) ?_
  refine fb_get X I (k := 6) fu_X7 0 rfl rfl (Nat.le_of_ble_eq_true rfl) fw_624 rfl rfl dX7_addWatch_5 ?_
  refine lv_iload_n hx hb dX7_addWatch_8 rfl (lv_at hl 1 rfl) ?_
  refine fb_goV (wn := fun (w1 : Unit) => (fb_o7 zst zs0 zs1 zs3 zs4 zs5 ze7) ++ ((fb_aw cI zs3 4 ((f_X11_put 4 zb3 (ze7 6) l1))) ++ ((fb_aw cI zs4 4 zb4) ++ (fb_aw cI zs5 4 zb5)))) X I (fb_runSN (As := [.ref zs3, .int (ze7 6), .int l1]) (rest := []) X I hl (c_X11_put l D cI cJ zs3 4 zb3 (ze7 6) l1 _ (by decide)) fw_756 rfl rfl (List.mem_of_getElem? (i := 34) rfl) fw_191 fw_755 (by decide +kernel : fb_hd yX11_put 3) ⟨Nat.le_of_ble_eq_true rfl, Nat.le_of_ble_eq_true rfl⟩ [1] (by decide) rfl rfl rfl (Nat.le_of_ble_eq_true rfl) ⟨Nat.zero_le _, Nat.zero_le _⟩ dX7_addWatch_9) [1] [0, 2, 3] [0, 3, 1, 2] rfl rfl (by decide) (by decide) (by decide) (fun _ => rfl) ?_
  intro w1 H locs _ I
  refine lv_aload_n hx hb dX7_addWatch_12 rfl (lv_at hl 0 rfl) ?_
  refine fb_get X I (k := 4) fu_X7 0 rfl rfl (Nat.le_of_ble_eq_true rfl) fw_622 rfl rfl dX7_addWatch_13 ?_
  refine lv_aload_n hx hb dX7_addWatch_16 rfl (lv_at hl 0 rfl) ?_
  refine fb_get X I (k := 6) fu_X7 0 rfl rfl (Nat.le_of_ble_eq_true rfl) fw_624 rfl rfl dX7_addWatch_17 ?_
  refine lv_iload_n hx hb dX7_addWatch_20 rfl (lv_at hl 2 rfl) ?_
  refine fb_goV (wn := fun (w2 : Unit) => (fb_o7 zst zs0 zs1 zs3 zs4 zs5 ze7) ++ ((fb_aw cI zs3 4 ((f_X11_put 4 zb3 (ze7 6) l1))) ++ ((fb_aw cI zs4 4 ((f_X11_put 4 zb4 (ze7 6) l2))) ++ (fb_aw cI zs5 4 zb5)))) X I (fb_runSN (As := [.ref zs4, .int (ze7 6), .int l2]) (rest := []) X I hl (c_X11_put l D cI cJ zs4 4 zb4 (ze7 6) l2 _ (by decide)) fw_756 rfl rfl (List.mem_of_getElem? (i := 34) rfl) fw_191 fw_755 (by decide +kernel : fb_hd yX11_put 3) ⟨Nat.le_of_ble_eq_true rfl, Nat.le_of_ble_eq_true rfl⟩ [2] (by decide) rfl rfl rfl (Nat.le_of_ble_eq_true rfl) ⟨Nat.zero_le _, Nat.zero_le _⟩ dX7_addWatch_21) [2] [0, 1, 3] [0, 1, 3, 2] rfl rfl (by decide) (by decide) (by decide) (fun _ => rfl) ?_
  intro w2 H locs _ I
  refine lv_aload_n hx hb dX7_addWatch_24 rfl (lv_at hl 0 rfl) ?_
  refine fb_get X I (k := 5) fu_X7 0 rfl rfl (Nat.le_of_ble_eq_true rfl) fw_623 rfl rfl dX7_addWatch_25 ?_
  refine lv_aload_n hx hb dX7_addWatch_28 rfl (lv_at hl 0 rfl) ?_
  refine fb_get X I (k := 6) fu_X7 0 rfl rfl (Nat.le_of_ble_eq_true rfl) fw_624 rfl rfl dX7_addWatch_29 ?_
  refine lv_iload_n hx hb dX7_addWatch_32 rfl (lv_at hl 3 rfl) ?_
  refine lv_if_eq (tgt := 40) hx hb dX7_addWatch_33 (by decide) (fun c3 => ?_) (fun c3 => ?_)
  · have E4 := (E.trans (if_pos c3))
    refine lv_iconst (v := (0 : Int32)) hx hb dX7_addWatch_40 (by decide) ?_
    exact b_X7_addWatch_41 X  (l4 := l4) (k0 := (0 : Int32)) (k1 := (ze7 6)) I (lv_sub hl [0, 4] rfl) E4
  · have E5 := (E.trans (if_neg c3))
    refine lv_iconst (v := (1 : Int32)) hx hb dX7_addWatch_36 (by decide) ?_
    refine lv_goto (tgt := 41) hx hb dX7_addWatch_37 (by decide) ?_
    exact b_X7_addWatch_41 X  (l4 := l4) (k0 := (1 : Int32)) (k1 := (ze7 6)) I (lv_sub hl [0, 4] rfl) E5
set_option maxHeartbeats 4000000 in
set_option maxRecDepth 100000 in
theorem c_X7_addWatch (l : Launch) (D : va_G) (cI cJ : ClassId) (zst : Nat) (zs0 : Nat) (zs1 : Nat) (zs3 : Nat) (zs4 : Nat) (zs5 : Nat) (ze7 : fb_AR) (zb3 : fb_AR) (zb4 : fb_AR) (zb5 : fb_AR) (l1 : Int32) (l2 : Int32) (l3 : Int32) (l4 : Int32) (sz : Nat)  : Met l yX7_addWatch (Cond.code yX7_addWatch cX7_addWatch 5 none :: fb_all) ({ frames := 1, cells := 0, slots := 0, locals := 22 } : Room) (fb_PP D (fb_ty D cI cJ) [.ref zst, .int l1, .int l2, .int l3, .int l4] ((fb_o7 zst zs0 zs1 zs3 zs4 zs5 ze7) ++ ((fb_aw cI zs3 4 zb3) ++ ((fb_aw cI zs4 4 zb4) ++ (fb_aw cI zs5 4 zb5)))) sz) (fb_QV D (va_A ((fb_o7 zst zs0 zs1 zs3 zs4 zs5 ze7) ++ ((fb_aw cI zs3 4 zb3) ++ ((fb_aw cI zs4 4 zb4) ++ (fb_aw cI zs5 4 zb5)))) sz) (fun (_ : Unit) => True) (fun (t : Unit) => (fb_o7 zst zs0 zs1 zs3 zs4 zs5 (((f_X7_addWatch ze7 zb3 zb4 zb5 l1 l2 l3 l4)).1)) ++ ((fb_aw cI zs3 4 (((f_X7_addWatch ze7 zb3 zb4 zb5 l1 l2 l3 l4)).2.1)) ++ ((fb_aw cI zs4 4 (((f_X7_addWatch ze7 zb3 zb4 zb5 l1 l2 l3 l4)).2.2.1)) ++ (fb_aw cI zs5 4 (((f_X7_addWatch ze7 zb3 zb4 zb5 l1 l2 l3 l4)).2.2.2)))))) 0 0 (va_A ((fb_o7 zst zs0 zs1 zs3 zs4 zs5 ze7) ++ ((fb_aw cI zs3 4 zb3) ++ ((fb_aw cI zs4 4 zb4) ++ (fb_aw cI zs5 4 zb5)))) sz) := by
  refine fb_ent (Qf := fun A => (fb_QV D A (fun (_ : Unit) => True) (fun (t : Unit) => (fb_o7 zst zs0 zs1 zs3 zs4 zs5 (((f_X7_addWatch ze7 zb3 zb4 zb5 l1 l2 l3 l4)).1)) ++ ((fb_aw cI zs3 4 (((f_X7_addWatch ze7 zb3 zb4 zb5 l1 l2 l3 l4)).2.1)) ++ ((fb_aw cI zs4 4 (((f_X7_addWatch ze7 zb3 zb4 zb5 l1 l2 l3 l4)).2.2.1)) ++ (fb_aw cI zs5 4 (((f_X7_addWatch ze7 zb3 zb4 zb5 l1 l2 l3 l4)).2.2.2))))))) (by decide +kernel) (Nat.le_of_ble_eq_true rfl) ?_
  intro p e s m args below meth c A ls X I hl hin
  exact b_X7_addWatch_0 X  I hl rfl
/-! X11_setWatch -/
def f_X11_setWatch (ze7 : fb_AR) (zb3 : fb_AR) (zb4 : fb_AR) (zb5 : fb_AR) (l1 : Int32) (l2 : Int32) (l3 : Int32) (l4 : Int32) : Int32 × fb_AR × fb_AR × fb_AR × fb_AR := ((((f_X7_addWatch ze7 zb3 zb4 zb5 l1 l2 l3 l4).1) 6), ((f_X7_addWatch ze7 zb3 zb4 zb5 l1 l2 l3 l4).1), ((f_X7_addWatch ze7 zb3 zb4 zb5 l1 l2 l3 l4).2.1), ((f_X7_addWatch ze7 zb3 zb4 zb5 l1 l2 l3 l4).2.2.1), ((f_X7_addWatch ze7 zb3 zb4 zb5 l1 l2 l3 l4).2.2.2))
set_option maxHeartbeats 4000000 in
set_option maxRecDepth 100000 in
theorem b_X11_setWatch_0 {p : Program} {l : Launch} {e : Env} {s : State} {m : MethodId} {args : Array Value} {below : List Frame} {meth : Method} {c : Code} {D : va_G} {cI cJ : ClassId} {A : Nat → Prop} {zb : Nat} {zr0 : Nat} {zr1 : Nat} {zr2 : Nat} {zr3 : Nat} {zr4 : Nat} {zr5 : Nat} {zr6 : Nat} {zr7 : Nat} {zst : Nat} {zr9 : Nat} {zs0 : Nat} {zs1 : Nat} {zs3 : Nat} {zs4 : Nat} {zs5 : Nat} {z : Int32 × fb_AR × fb_AR × fb_AR × fb_AR} (X : fb_Bx p s m args meth c cX11_setWatch RX11 5 (some .int) D (fb_ty D cI cJ) A) {ze7 : fb_AR} {zb3 : fb_AR} {zb4 : fb_AR} {zb5 : fb_AR} {l1 : Int32} {l2 : Int32} {l3 : Int32} {l4 : Int32} {H : Heap} {locs : List Loc} {ls : Array Slot} (gA : f_X11_isNoAddress l1 = 0) (gA2 : f_X11_isNoAddress l2 = 0) (w1 : l1 ≤ l2) (h0 : ze7 6 = 0) (I : fb_In D A s.heap ((fb_o11 zb zr0 zr1 zr2 zr3 zr4 zr5 zr6 zr7 zst zr9) ++ ((fb_o7 zst zs0 zs1 zs3 zs4 zs5 ze7) ++ ((fb_aw cI zs3 4 zb3) ++ ((fb_aw cI zs4 4 zb4) ++ (fb_aw cI zs5 4 zb5))))) H locs) (hl : lv_has ls 5 [(0, .ref zb), (1, .int l1), (2, .int l2), (3, .int l3), (4, .int l4)]) (E : z = f_X11_setWatch ze7 zb3 zb4 zb5 l1 l2 l3 l4) : W p l e ({ frames := 2, cells := 0, slots := 0, locals := 46 } : Room) s m args below meth c H locs 0 0 (MQ below (fb_QI D A (fun (r : Int32) (_ : Unit) => r = z.1) (fun (t : Unit) => (fb_o11 zb zr0 zr1 zr2 zr3 zr4 zr5 zr6 zr7 zst zr9) ++ ((fb_o7 zst zs0 zs1 zs3 zs4 zs5 (z.2.1)) ++ ((fb_aw cI zs3 4 (z.2.2.1)) ++ ((fb_aw cI zs4 4 (z.2.2.2.1)) ++ (fb_aw cI zs5 4 (z.2.2.2.2))))))) args s 0 0 A) (F0 m 0 ls []) := by
  obtain ⟨hx, hb, hr, hml, hown, hts, hlk, hA, hK, hF⟩ := id X
  refine lv_iload_n hx hb dX11_setWatch_0 rfl (lv_at hl 1 rfl) ?_
  refine fb_roI X I (fb_runS (As := [.int l1]) (rest := []) X I hl (c_X11_isNoAddress l D cI cJ l1 _) (fb_goodS fw_1717 fw_1718 fw_191 fw_1719) rfl rfl (by decide +kernel : fb_hd yX11_isNoAddress 1) ⟨Nat.le_of_ble_eq_true rfl, Nat.le_of_ble_eq_true rfl⟩ [] (by decide) rfl rfl rfl (Nat.le_of_ble_eq_true rfl) ⟨Nat.zero_le _, Nat.zero_le _⟩ dX11_setWatch_1) ?_
  refine lv_if_ne (tgt := 14) hx hb dX11_setWatch_4 (by decide) (fun c1 => absurd gA c1) (fun _ => ?_)
  refine lv_iload_n hx hb dX11_setWatch_7 rfl (lv_at hl 2 rfl) ?_
  refine fb_roI X I (fb_runS (As := [.int l2]) (rest := []) X I hl (c_X11_isNoAddress l D cI cJ l2 _) (fb_goodS fw_1717 fw_1718 fw_191 fw_1719) rfl rfl (by decide +kernel : fb_hd yX11_isNoAddress 1) ⟨Nat.le_of_ble_eq_true rfl, Nat.le_of_ble_eq_true rfl⟩ [] (by decide) rfl rfl rfl (Nat.le_of_ble_eq_true rfl) ⟨Nat.zero_le _, Nat.zero_le _⟩ dX11_setWatch_8) ?_
  refine lv_if_eq (tgt := 24) hx hb dX11_setWatch_11 (by decide) (fun _ => ?_) (fun c2 => absurd gA2 c2)
  refine lv_iload_n hx hb dX11_setWatch_24 rfl (lv_at hl 2 rfl) ?_
  refine lv_iload_n hx hb dX11_setWatch_25 rfl (lv_at hl 1 rfl) ?_
  refine lv_icmp_ge (tgt := 40) hx hb dX11_setWatch_26 (by decide) (fun _ => ?_) (fun c3 => absurd w1 c3)
  refine lv_aload_n hx hb dX11_setWatch_40 rfl (lv_at hl 0 rfl) ?_
  refine fb_get X I (k := 8) fu_X11 0 rfl rfl (Nat.le_of_ble_eq_true rfl) fw_695 rfl rfl dX11_setWatch_41 ?_
  refine fb_get X I (k := 6) fu_X7 1 rfl rfl (Nat.le_of_ble_eq_true rfl) fw_625 rfl rfl dX11_setWatch_44 ?_
  refine lv_iconst (v := (4 : Int32)) hx hb dX11_setWatch_47 (by decide) ?_
  refine lv_icmp_lt (tgt := 62) hx hb dX11_setWatch_48 (by decide) (fun _ => ?_) (fun c4 => absurd (by rw [h0]; decide) c4)
  refine lv_aload_n hx hb dX11_setWatch_62 rfl (lv_at hl 0 rfl) ?_
  refine fb_get X I (k := 8) fu_X11 0 rfl rfl (Nat.le_of_ble_eq_true rfl) fw_695 rfl rfl dX11_setWatch_63 ?_
  refine lv_iload_n hx hb dX11_setWatch_66 rfl (lv_at hl 1 rfl) ?_
  refine lv_iload_n hx hb dX11_setWatch_67 rfl (lv_at hl 2 rfl) ?_
  refine lv_iload_n hx hb dX11_setWatch_68 rfl (lv_at hl 3 rfl) ?_
  refine lv_iload hx hb dX11_setWatch_69 (lv_at hl 4 rfl) ?_
  refine fb_goV (wn := fun (w5 : Unit) => (fb_o11 zb zr0 zr1 zr2 zr3 zr4 zr5 zr6 zr7 zst zr9) ++ ((fb_o7 zst zs0 zs1 zs3 zs4 zs5 ((f_X7_addWatch ze7 zb3 zb4 zb5 l1 l2 l3 l4).1)) ++ ((fb_aw cI zs3 4 ((f_X7_addWatch ze7 zb3 zb4 zb5 l1 l2 l3 l4).2.1)) ++ ((fb_aw cI zs4 4 ((f_X7_addWatch ze7 zb3 zb4 zb5 l1 l2 l3 l4).2.2.1)) ++ (fb_aw cI zs5 4 ((f_X7_addWatch ze7 zb3 zb4 zb5 l1 l2 l3 l4).2.2.2)))))) X I (fb_runV (As := [.int l1, .int l2, .int l3, .int l4]) (rest := []) (q0 := 1) X I hl (c_X7_addWatch l D cI cJ zst zs0 zs1 zs3 zs4 zs5 ze7 zb3 zb4 zb5 l1 l2 l3 l4 _) (fb_goodV fw_1819 fw_1820 fw_1821 fw_201 fw_1822) rfl rfl rfl (by decide +kernel : fb_hd yX7_addWatch 4) ⟨Nat.le_of_ble_eq_true rfl, Nat.le_of_ble_eq_true rfl⟩ [1, 2, 3, 4] (by decide) rfl rfl rfl rfl rfl rfl (Nat.le_of_ble_eq_true rfl) ⟨Nat.zero_le _, Nat.zero_le _⟩ dX11_setWatch_71) [1, 2, 3, 4] [0] [0, 1, 2, 3, 4] rfl rfl (by decide) (by decide) (by decide) (fun _ => rfl) ?_
  intro w5 H locs _ I
  refine lv_aload_n hx hb dX11_setWatch_74 rfl (lv_at hl 0 rfl) ?_
  refine fb_get X I (k := 8) fu_X11 0 rfl rfl (Nat.le_of_ble_eq_true rfl) fw_695 rfl rfl dX11_setWatch_75 ?_
  refine fb_get X I (k := 6) fu_X7 1 rfl rfl (Nat.le_of_ble_eq_true rfl) fw_625 rfl rfl dX11_setWatch_78 ?_
  subst E
  exact fb_retI (u := ()) X I rfl rfl dX11_setWatch_81
set_option maxHeartbeats 4000000 in
set_option maxRecDepth 100000 in
theorem c_X11_setWatch (l : Launch) (D : va_G) (cI cJ : ClassId) (zb : Nat) (zr0 : Nat) (zr1 : Nat) (zr2 : Nat) (zr3 : Nat) (zr4 : Nat) (zr5 : Nat) (zr6 : Nat) (zr7 : Nat) (zst : Nat) (zr9 : Nat) (zs0 : Nat) (zs1 : Nat) (zs3 : Nat) (zs4 : Nat) (zs5 : Nat) (ze7 : fb_AR) (zb3 : fb_AR) (zb4 : fb_AR) (zb5 : fb_AR) (l1 : Int32) (l2 : Int32) (l3 : Int32) (l4 : Int32) (sz : Nat) (gA : f_X11_isNoAddress l1 = 0) (gA2 : f_X11_isNoAddress l2 = 0) (w1 : l1 ≤ l2) (h0 : ze7 6 = 0) : Met l yX11_setWatch (Cond.code yX11_setWatch cX11_setWatch 5 (some .int) :: fb_all) ({ frames := 2, cells := 0, slots := 0, locals := 46 } : Room) (fb_PP D (fb_ty D cI cJ) [.ref zb, .int l1, .int l2, .int l3, .int l4] ((fb_o11 zb zr0 zr1 zr2 zr3 zr4 zr5 zr6 zr7 zst zr9) ++ ((fb_o7 zst zs0 zs1 zs3 zs4 zs5 ze7) ++ ((fb_aw cI zs3 4 zb3) ++ ((fb_aw cI zs4 4 zb4) ++ (fb_aw cI zs5 4 zb5))))) sz) (fb_QI D (va_A ((fb_o11 zb zr0 zr1 zr2 zr3 zr4 zr5 zr6 zr7 zst zr9) ++ ((fb_o7 zst zs0 zs1 zs3 zs4 zs5 ze7) ++ ((fb_aw cI zs3 4 zb3) ++ ((fb_aw cI zs4 4 zb4) ++ (fb_aw cI zs5 4 zb5))))) sz) (fun (r : Int32) (_ : Unit) => r = ((f_X11_setWatch ze7 zb3 zb4 zb5 l1 l2 l3 l4)).1) (fun (t : Unit) => (fb_o11 zb zr0 zr1 zr2 zr3 zr4 zr5 zr6 zr7 zst zr9) ++ ((fb_o7 zst zs0 zs1 zs3 zs4 zs5 (((f_X11_setWatch ze7 zb3 zb4 zb5 l1 l2 l3 l4)).2.1)) ++ ((fb_aw cI zs3 4 (((f_X11_setWatch ze7 zb3 zb4 zb5 l1 l2 l3 l4)).2.2.1)) ++ ((fb_aw cI zs4 4 (((f_X11_setWatch ze7 zb3 zb4 zb5 l1 l2 l3 l4)).2.2.2.1)) ++ (fb_aw cI zs5 4 (((f_X11_setWatch ze7 zb3 zb4 zb5 l1 l2 l3 l4)).2.2.2.2))))))) 0 0 (va_A ((fb_o11 zb zr0 zr1 zr2 zr3 zr4 zr5 zr6 zr7 zst zr9) ++ ((fb_o7 zst zs0 zs1 zs3 zs4 zs5 ze7) ++ ((fb_aw cI zs3 4 zb3) ++ ((fb_aw cI zs4 4 zb4) ++ (fb_aw cI zs5 4 zb5))))) sz) := by
  refine fb_ent (Qf := fun A => (fb_QI D A (fun (r : Int32) (_ : Unit) => r = ((f_X11_setWatch ze7 zb3 zb4 zb5 l1 l2 l3 l4)).1) (fun (t : Unit) => (fb_o11 zb zr0 zr1 zr2 zr3 zr4 zr5 zr6 zr7 zst zr9) ++ ((fb_o7 zst zs0 zs1 zs3 zs4 zs5 (((f_X11_setWatch ze7 zb3 zb4 zb5 l1 l2 l3 l4)).2.1)) ++ ((fb_aw cI zs3 4 (((f_X11_setWatch ze7 zb3 zb4 zb5 l1 l2 l3 l4)).2.2.1)) ++ ((fb_aw cI zs4 4 (((f_X11_setWatch ze7 zb3 zb4 zb5 l1 l2 l3 l4)).2.2.2.1)) ++ (fb_aw cI zs5 4 (((f_X11_setWatch ze7 zb3 zb4 zb5 l1 l2 l3 l4)).2.2.2.2)))))))) (by decide +kernel) (Nat.le_of_ble_eq_true rfl) ?_
  intro p e s m args below meth c A ls X I hl hin
  exact b_X11_setWatch_0 X gA gA2 w1 h0 I hl rfl
/-! X11_clearWatches -/
def f_X11_clearWatches (ze7 : fb_AR) : Int32 × fb_AR := ((ze7 6), (upd ze7 6 (0 : Int32)))
set_option maxHeartbeats 4000000 in
set_option maxRecDepth 100000 in
theorem b_X11_clearWatches_0 {p : Program} {l : Launch} {e : Env} {s : State} {m : MethodId} {args : Array Value} {below : List Frame} {meth : Method} {c : Code} {D : va_G} {cI cJ : ClassId} {A : Nat → Prop} {zb : Nat} {zr0 : Nat} {zr1 : Nat} {zr2 : Nat} {zr3 : Nat} {zr4 : Nat} {zr5 : Nat} {zr6 : Nat} {zr7 : Nat} {zst : Nat} {zr9 : Nat} {zs0 : Nat} {zs1 : Nat} {zs3 : Nat} {zs4 : Nat} {zs5 : Nat} {z : Int32 × fb_AR} (X : fb_Bx p s m args meth c cX11_clearWatches RX11 2 (some .int) D (fb_ty D cI cJ) A) {ze7 : fb_AR} {H : Heap} {locs : List Loc} {ls : Array Slot}  (I : fb_In D A s.heap ((fb_o11 zb zr0 zr1 zr2 zr3 zr4 zr5 zr6 zr7 zst zr9) ++ (fb_o7 zst zs0 zs1 zs3 zs4 zs5 ze7)) H locs) (hl : lv_has ls 2 [(0, .ref zb)]) (E : z = f_X11_clearWatches ze7) : W p l e ({ frames := 0, cells := 0, slots := 0, locals := 0 } : Room) s m args below meth c H locs 0 0 (MQ below (fb_QI D A (fun (r : Int32) (_ : Unit) => r = z.1) (fun (t : Unit) => (fb_o11 zb zr0 zr1 zr2 zr3 zr4 zr5 zr6 zr7 zst zr9) ++ (fb_o7 zst zs0 zs1 zs3 zs4 zs5 (z.2)))) args s 0 0 A) (F0 m 0 ls []) := by
  obtain ⟨hx, hb, hr, hml, hown, hts, hlk, hA, hK, hF⟩ := id X
  refine lv_aload_n hx hb dX11_clearWatches_0 rfl (lv_at hl 0 rfl) ?_
  refine fb_get X I (k := 8) fu_X11 0 rfl rfl (Nat.le_of_ble_eq_true rfl) fw_695 rfl rfl dX11_clearWatches_1 ?_
  refine fb_get X I (k := 6) fu_X7 1 rfl rfl (Nat.le_of_ble_eq_true rfl) fw_625 rfl rfl dX11_clearWatches_4 ?_
  refine lv_istore_n (lv' := [(1, .int (ze7 6)), (0, .ref zb)]) hx hb dX11_clearWatches_7 rfl hl (by decide) rfl (fun ls hl => ?_)
  refine lv_aload_n hx hb dX11_clearWatches_8 rfl (lv_at hl 1 rfl) ?_
  refine fb_get X I (k := 8) fu_X11 0 rfl rfl (Nat.le_of_ble_eq_true rfl) fw_695 rfl rfl dX11_clearWatches_9 ?_
  refine lv_iconst (v := (0 : Int32)) hx hb dX11_clearWatches_12 (by decide) ?_
  refine fb_put X I (k := 6) (wn := (fb_o11 zb zr0 zr1 zr2 zr3 zr4 zr5 zr6 zr7 zst zr9) ++ (fb_o7 zst zs0 zs1 zs3 zs4 zs5 (upd ze7 6 (0 : Int32)))) fu_X7 tyX7 tyX7_ok nmX7 1 rfl rfl (Nat.le_of_ble_eq_true rfl) fw_625 rfl rfl rfl rfl rfl (Nat.le_of_ble_eq_true rfl) rfl dX11_clearWatches_13 (fun H locs I => ?_)
  refine lv_iload_n hx hb dX11_clearWatches_16 rfl (lv_at hl 0 rfl) ?_
  subst E
  exact fb_retI (u := ()) X I rfl rfl dX11_clearWatches_17
set_option maxHeartbeats 4000000 in
set_option maxRecDepth 100000 in
theorem c_X11_clearWatches (l : Launch) (D : va_G) (cI cJ : ClassId) (zb : Nat) (zr0 : Nat) (zr1 : Nat) (zr2 : Nat) (zr3 : Nat) (zr4 : Nat) (zr5 : Nat) (zr6 : Nat) (zr7 : Nat) (zst : Nat) (zr9 : Nat) (zs0 : Nat) (zs1 : Nat) (zs3 : Nat) (zs4 : Nat) (zs5 : Nat) (ze7 : fb_AR)  (sz : Nat)  : Met l yX11_clearWatches (Cond.code yX11_clearWatches cX11_clearWatches 2 (some .int) :: fb_all) ({ frames := 0, cells := 0, slots := 0, locals := 0 } : Room) (fb_PP D (fb_ty D cI cJ) [.ref zb] ((fb_o11 zb zr0 zr1 zr2 zr3 zr4 zr5 zr6 zr7 zst zr9) ++ (fb_o7 zst zs0 zs1 zs3 zs4 zs5 ze7)) sz) (fb_QI D (va_A ((fb_o11 zb zr0 zr1 zr2 zr3 zr4 zr5 zr6 zr7 zst zr9) ++ (fb_o7 zst zs0 zs1 zs3 zs4 zs5 ze7)) sz) (fun (r : Int32) (_ : Unit) => r = ((f_X11_clearWatches ze7)).1) (fun (t : Unit) => (fb_o11 zb zr0 zr1 zr2 zr3 zr4 zr5 zr6 zr7 zst zr9) ++ (fb_o7 zst zs0 zs1 zs3 zs4 zs5 (((f_X11_clearWatches ze7)).2)))) 0 0 (va_A ((fb_o11 zb zr0 zr1 zr2 zr3 zr4 zr5 zr6 zr7 zst zr9) ++ (fb_o7 zst zs0 zs1 zs3 zs4 zs5 ze7)) sz) := by
  refine fb_ent (Qf := fun A => (fb_QI D A (fun (r : Int32) (_ : Unit) => r = ((f_X11_clearWatches ze7)).1) (fun (t : Unit) => (fb_o11 zb zr0 zr1 zr2 zr3 zr4 zr5 zr6 zr7 zst zr9) ++ (fb_o7 zst zs0 zs1 zs3 zs4 zs5 (((f_X11_clearWatches ze7)).2))))) (by decide +kernel) (Nat.le_of_ble_eq_true rfl) ?_
  intro p e s m args below meth c A ls X I hl hin
  exact b_X11_clearWatches_0 X  I hl rfl
/-! X11_trim -/
def f_X11_trim (ze9 : fb_AR) (ze0 : fb_AR) (l1 : Int32) : Int32 × fb_AR × fb_AR := (l1, (upd ze9 1 l1), ((f_X0_forget ze0)))
set_option maxHeartbeats 4000000 in
set_option maxRecDepth 100000 in
theorem b_X11_trim_0 {p : Program} {l : Launch} {e : Env} {s : State} {m : MethodId} {args : Array Value} {below : List Frame} {meth : Method} {c : Code} {D : va_G} {cI cJ : ClassId} {A : Nat → Prop} {zb : Nat} {zte : Nat} {zr1 : Nat} {zr2 : Nat} {zr3 : Nat} {zr4 : Nat} {zr5 : Nat} {zr6 : Nat} {zh : Nat} {zr8 : Nat} {zr9 : Nat} {zt0 : Nat} {zt2 : Nat} {zt3 : Nat} {zt4 : Nat} {zo : Nat} {zn : Nat} {z : Int32 × fb_AR × fb_AR} (X : fb_Bx p s m args meth c cX11_trim RX11 2 (some .int) D (fb_ty D cI cJ) A) {ze9 : fb_AR} {ze0 : fb_AR} {l1 : Int32} {H : Heap} {locs : List Loc} {ls : Array Slot} (t0 : ¬ l1 < 0) (t1 : l1 ≤ ze9 1) (I : fb_In D A s.heap ((fb_o11 zb zte zr1 zr2 zr3 zr4 zr5 zr6 zh zr8 zr9) ++ ((fb_o9 zte zt0 zt2 zt3 zt4 ze9) ++ (fb_o0 zh zo zn ze0))) H locs) (hl : lv_has ls 2 [(0, .ref zb), (1, .int l1)]) (E : z = f_X11_trim ze9 ze0 l1) : W p l e ({ frames := 1, cells := 0, slots := 0, locals := 40 } : Room) s m args below meth c H locs 0 0 (MQ below (fb_QI D A (fun (r : Int32) (_ : Unit) => r = z.1) (fun (t : Unit) => (fb_o11 zb zte zr1 zr2 zr3 zr4 zr5 zr6 zh zr8 zr9) ++ ((fb_o9 zte zt0 zt2 zt3 zt4 (z.2.1)) ++ (fb_o0 zh zo zn (z.2.2))))) args s 0 0 A) (F0 m 0 ls []) := by
  obtain ⟨hx, hb, hr, hml, hown, hts, hlk, hA, hK, hF⟩ := id X
  refine lv_iload_n hx hb dX11_trim_0 rfl (lv_at hl 1 rfl) ?_
  refine lv_if_lt (tgt := 15) hx hb dX11_trim_1 (by decide) (fun c1 => absurd c1 t0) (fun _ => ?_)
  refine lv_iload_n hx hb dX11_trim_4 rfl (lv_at hl 1 rfl) ?_
  refine lv_aload_n hx hb dX11_trim_5 rfl (lv_at hl 0 rfl) ?_
  refine fb_get X I (k := 0) fu_X11 0 rfl rfl (Nat.le_of_ble_eq_true rfl) fw_687 rfl rfl dX11_trim_6 ?_
  refine fb_get X I (k := 1) fu_X9 1 rfl rfl (Nat.le_of_ble_eq_true rfl) fw_234 rfl rfl dX11_trim_9 ?_
  refine lv_icmp_le (tgt := 25) hx hb dX11_trim_12 (by decide) (fun _ => ?_) (fun c2 => absurd t1 c2)
  refine lv_aload_n hx hb dX11_trim_25 rfl (lv_at hl 0 rfl) ?_
  refine fb_get X I (k := 0) fu_X11 0 rfl rfl (Nat.le_of_ble_eq_true rfl) fw_687 rfl rfl dX11_trim_26 ?_
  refine lv_iload_n hx hb dX11_trim_29 rfl (lv_at hl 1 rfl) ?_
  refine fb_put X I (k := 1) (wn := (fb_o11 zb zte zr1 zr2 zr3 zr4 zr5 zr6 zh zr8 zr9) ++ ((fb_o9 zte zt0 zt2 zt3 zt4 (upd ze9 1 l1)) ++ (fb_o0 zh zo zn ze0))) fu_X9 tyX9 tyX9_ok nmX9 1 rfl rfl (Nat.le_of_ble_eq_true rfl) fw_234 rfl rfl rfl rfl rfl (Nat.le_of_ble_eq_true rfl) rfl dX11_trim_30 (fun H locs I => ?_)
  refine lv_aload_n hx hb dX11_trim_33 rfl (lv_at hl 0 rfl) ?_
  refine fb_get X I (k := 7) fu_X11 0 rfl rfl (Nat.le_of_ble_eq_true rfl) fw_694 rfl rfl dX11_trim_34 ?_
  refine fb_goV (wn := fun (w3 : Unit) => (fb_o11 zb zte zr1 zr2 zr3 zr4 zr5 zr6 zh zr8 zr9) ++ ((fb_o9 zte zt0 zt2 zt3 zt4 (upd ze9 1 l1)) ++ (fb_o0 zh zo zn ((f_X0_forget ze0))))) X I (fb_runV (As := []) (rest := []) (q0 := 2) X I hl (c_X0_forget l D cI cJ zh zo zn ze0 _) (fb_goodV fw_1117 fw_1118 fw_1119 fw_200 fw_1120) rfl rfl rfl (by decide +kernel : fb_hd yX0_forget 0) ⟨Nat.le_of_ble_eq_true rfl, Nat.le_of_ble_eq_true rfl⟩ [2] (by decide) rfl rfl rfl rfl rfl rfl (Nat.le_of_ble_eq_true rfl) ⟨Nat.zero_le _, Nat.zero_le _⟩ dX11_trim_37) [2] [0, 1] [0, 1, 2] rfl rfl (by decide) (by decide) (by decide) (fun _ => rfl) ?_
  intro w3 H locs _ I
  refine lv_iload_n hx hb dX11_trim_40 rfl (lv_at hl 1 rfl) ?_
  subst E
  exact fb_retI (u := ()) X I rfl rfl dX11_trim_41
set_option maxHeartbeats 4000000 in
set_option maxRecDepth 100000 in
theorem c_X11_trim (l : Launch) (D : va_G) (cI cJ : ClassId) (zb : Nat) (zte : Nat) (zr1 : Nat) (zr2 : Nat) (zr3 : Nat) (zr4 : Nat) (zr5 : Nat) (zr6 : Nat) (zh : Nat) (zr8 : Nat) (zr9 : Nat) (zt0 : Nat) (zt2 : Nat) (zt3 : Nat) (zt4 : Nat) (ze9 : fb_AR) (zo : Nat) (zn : Nat) (ze0 : fb_AR) (l1 : Int32) (sz : Nat) (t0 : ¬ l1 < 0) (t1 : l1 ≤ ze9 1) : Met l yX11_trim (Cond.code yX11_trim cX11_trim 2 (some .int) :: fb_all) ({ frames := 1, cells := 0, slots := 0, locals := 40 } : Room) (fb_PP D (fb_ty D cI cJ) [.ref zb, .int l1] ((fb_o11 zb zte zr1 zr2 zr3 zr4 zr5 zr6 zh zr8 zr9) ++ ((fb_o9 zte zt0 zt2 zt3 zt4 ze9) ++ (fb_o0 zh zo zn ze0))) sz) (fb_QI D (va_A ((fb_o11 zb zte zr1 zr2 zr3 zr4 zr5 zr6 zh zr8 zr9) ++ ((fb_o9 zte zt0 zt2 zt3 zt4 ze9) ++ (fb_o0 zh zo zn ze0))) sz) (fun (r : Int32) (_ : Unit) => r = ((f_X11_trim ze9 ze0 l1)).1) (fun (t : Unit) => (fb_o11 zb zte zr1 zr2 zr3 zr4 zr5 zr6 zh zr8 zr9) ++ ((fb_o9 zte zt0 zt2 zt3 zt4 (((f_X11_trim ze9 ze0 l1)).2.1)) ++ (fb_o0 zh zo zn (((f_X11_trim ze9 ze0 l1)).2.2))))) 0 0 (va_A ((fb_o11 zb zte zr1 zr2 zr3 zr4 zr5 zr6 zh zr8 zr9) ++ ((fb_o9 zte zt0 zt2 zt3 zt4 ze9) ++ (fb_o0 zh zo zn ze0))) sz) := by
  refine fb_ent (Qf := fun A => (fb_QI D A (fun (r : Int32) (_ : Unit) => r = ((f_X11_trim ze9 ze0 l1)).1) (fun (t : Unit) => (fb_o11 zb zte zr1 zr2 zr3 zr4 zr5 zr6 zh zr8 zr9) ++ ((fb_o9 zte zt0 zt2 zt3 zt4 (((f_X11_trim ze9 ze0 l1)).2.1)) ++ (fb_o0 zh zo zn (((f_X11_trim ze9 ze0 l1)).2.2)))))) (by decide +kernel) (Nat.le_of_ble_eq_true rfl) ?_
  intro p e s m args below meth c A ls X I hl hin
  exact b_X11_trim_0 X t0 t1 I hl rfl
/-! X11_byteIn -/
def f_X11_byteIn (zs : fb_MS) (l1 : Int32) (l2 : Int32) : Int32 := (f_X11_at 11008 ((zs).2.1) (((1792 : Int32) + (l1 * (1024 : Int32))) + l2))
set_option maxHeartbeats 4000000 in
set_option maxRecDepth 100000 in
theorem b_X11_byteIn_0 {p : Program} {l : Launch} {e : Env} {s : State} {m : MethodId} {args : Array Value} {below : List Frame} {meth : Method} {c : Code} {D : va_G} {cI cJ : ClassId} {A : Nat → Prop} {zb : Nat} {zr0 : Nat} {zr1 : Nat} {zr2 : Nat} {zr3 : Nat} {zr4 : Nat} {zr6 : Nat} {zr7 : Nat} {zr8 : Nat} {zr9 : Nat} {zq : Nat → Nat} {z : Int32} (X : fb_Bx p s m args meth c cX11_byteIn RX11 3 (some .int) D (fb_ty D cI cJ) A) {zs : fb_MS} {zw : fb_AR} {l1 : Int32} {l2 : Int32} {ls : Array Slot} (u0 : ¬ l1 < 0) (u1 : l1 < 8) (u2 : ¬ l2 < 0) (u3 : l2 < 1024) (I : fb_In D A s.heap ((fb_o11 zb zr0 zr1 zr2 zr3 zr4 (zq 0) zr6 zr7 zr8 zr9) ++ (fb_mw cI zq zs zw)) s.heap []) (hl : lv_has ls 3 [(0, .ref zb), (1, .int l1), (2, .int l2)]) (E : z = f_X11_byteIn zs l1 l2) : W p l e ({ frames := 1, cells := 0, slots := 0, locals := 40 } : Room) s m args below meth c s.heap [] 0 0 (MQ below (vp_Si (fun r => r = z)) args s 0 0 (fun _ => False)) (F0 m 0 ls []) := by
  obtain ⟨hx, hb, hr, hml, hown, hts, hlk, hA, hK, hF⟩ := id X
  refine lv_iload_n hx hb dX11_byteIn_0 rfl (lv_at hl 1 rfl) ?_
  refine lv_if_lt (tgt := 10) hx hb dX11_byteIn_1 (by decide) (fun c1 => absurd c1 u0) (fun _ => ?_)
  refine lv_iload_n hx hb dX11_byteIn_4 rfl (lv_at hl 1 rfl) ?_
  refine lv_bipush (v := (8 : Int32)) hx hb dX11_byteIn_5 (by decide) ?_
  refine lv_icmp_lt (tgt := 21) hx hb dX11_byteIn_7 (by decide) (fun _ => ?_) (fun c2 => absurd u1 c2)
  refine lv_iload_n hx hb dX11_byteIn_21 rfl (lv_at hl 2 rfl) ?_
  refine lv_if_lt (tgt := 32) hx hb dX11_byteIn_22 (by decide) (fun c3 => absurd c3 u2) (fun _ => ?_)
  refine lv_iload_n hx hb dX11_byteIn_25 rfl (lv_at hl 2 rfl) ?_
  refine lv_sipush (v := (1024 : Int32)) hx hb dX11_byteIn_26 (by decide) ?_
  refine lv_icmp_lt (tgt := 43) hx hb dX11_byteIn_29 (by decide) (fun _ => ?_) (fun c4 => absurd u3 c4)
  refine lv_aload_n hx hb dX11_byteIn_43 rfl (lv_at hl 0 rfl) ?_
  refine fb_get X I (k := 5) fu_X11 0 rfl rfl (Nat.le_of_ble_eq_true rfl) fw_692 rfl rfl dX11_byteIn_44 ?_
  refine fb_get X I (k := 0) fu_X2 1 rfl rfl (Nat.le_of_ble_eq_true rfl) fw_515 rfl rfl dX11_byteIn_47 ?_
  refine lv_sipush (v := (1792 : Int32)) hx hb dX11_byteIn_50 (by decide) ?_
  refine lv_iload_n hx hb dX11_byteIn_53 rfl (lv_at hl 1 rfl) ?_
  refine lv_sipush (v := (1024 : Int32)) hx hb dX11_byteIn_54 (by decide) ?_
  refine lv_imul hx hb dX11_byteIn_57 ?_
  refine lv_iadd hx hb dX11_byteIn_58 ?_
  refine lv_iload_n hx hb dX11_byteIn_59 rfl (lv_at hl 2 rfl) ?_
  refine lv_iadd hx hb dX11_byteIn_60 ?_
  refine fb_roI X I (fb_runS (As := [.ref (zq 1), .int (((1792 : Int32) + (l1 * (1024 : Int32))) + l2)]) (rest := []) X I hl (c_X11_at l D cI cJ (zq 1) 11008 ((zs).2.1) (((1792 : Int32) + (l1 * (1024 : Int32))) + l2) _ (by decide)) (fb_goodS fw_1569 fw_685 fw_191 fw_686) rfl rfl (by decide +kernel : fb_hd yX11_at 2) ⟨Nat.le_of_ble_eq_true rfl, Nat.le_of_ble_eq_true rfl⟩ [2] (by decide) rfl rfl rfl (Nat.le_of_ble_eq_true rfl) ⟨Nat.zero_le _, Nat.zero_le _⟩ dX11_byteIn_61) ?_
  exact fb_retRI X E rfl dX11_byteIn_64
set_option maxHeartbeats 4000000 in
set_option maxRecDepth 100000 in
theorem c_X11_byteIn (l : Launch) (D : va_G) (cI cJ : ClassId) (zb : Nat) (zr0 : Nat) (zr1 : Nat) (zr2 : Nat) (zr3 : Nat) (zr4 : Nat) (zr6 : Nat) (zr7 : Nat) (zr8 : Nat) (zr9 : Nat) (zq : Nat → Nat) (zs : fb_MS) (zw : fb_AR) (l1 : Int32) (l2 : Int32) (sz : Nat) (u0 : ¬ l1 < 0) (u1 : l1 < 8) (u2 : ¬ l2 < 0) (u3 : l2 < 1024) : Met l yX11_byteIn (Cond.code yX11_byteIn cX11_byteIn 3 (some .int) :: fb_all) ({ frames := 1, cells := 0, slots := 0, locals := 40 } : Room) (fb_PP D (fb_ty D cI cJ) [.ref zb, .int l1, .int l2] ((fb_o11 zb zr0 zr1 zr2 zr3 zr4 (zq 0) zr6 zr7 zr8 zr9) ++ (fb_mw cI zq zs zw)) sz) (vp_Si (fun r => r = ((f_X11_byteIn zs l1 l2)))) 0 0 (fun _ => False) := by
  refine fb_entR (by decide +kernel) (Nat.le_of_ble_eq_true rfl) ?_
  intro p e s m args below meth c A ls X I hl hin
  exact b_X11_byteIn_0 X u0 u1 u2 u3 I hl rfl
/-! X11_codeAt -/
def f_X11_codeAt (zs : fb_MS) (l1 : Int32) : Int32 := (if (f_X11_lengthOf (f_X2_shown zs l1)) ≤ 0 then (-1 : Int32) else (f_X2_shown zs l1))
set_option maxHeartbeats 4000000 in
set_option maxRecDepth 100000 in
theorem b_X11_codeAt_0 {p : Program} {l : Launch} {e : Env} {s : State} {m : MethodId} {args : Array Value} {below : List Frame} {meth : Method} {c : Code} {D : va_G} {cI cJ : ClassId} {A : Nat → Prop} {zb : Nat} {zr0 : Nat} {zr1 : Nat} {zr2 : Nat} {zr3 : Nat} {zr4 : Nat} {zr6 : Nat} {zr7 : Nat} {zr8 : Nat} {zr9 : Nat} {zq : Nat → Nat} {z : Int32} (X : fb_Bx p s m args meth c cX11_codeAt RX11 3 (some .int) D (fb_ty D cI cJ) A) {zs : fb_MS} {zw : fb_AR} {l1 : Int32} {ls : Array Slot} (gA : f_X11_isNoAddress l1 = 0) (I : fb_In D A s.heap ((fb_o11 zb zr0 zr1 zr2 zr3 zr4 (zq 0) zr6 zr7 zr8 zr9) ++ (fb_mw cI zq zs zw)) s.heap []) (hl : lv_has ls 3 [(0, .ref zb), (1, .int l1)]) (E : z = f_X11_codeAt zs l1) : W p l e ({ frames := 2, cells := 0, slots := 0, locals := 44 } : Room) s m args below meth c s.heap [] 0 0 (MQ below (vp_Si (fun r => r = z)) args s 0 0 (fun _ => False)) (F0 m 0 ls []) := by
  obtain ⟨hx, hb, hr, hml, hown, hts, hlk, hA, hK, hF⟩ := id X
  refine lv_iload_n hx hb dX11_codeAt_0 rfl (lv_at hl 1 rfl) ?_
  refine fb_roI X I (fb_runS (As := [.int l1]) (rest := []) X I hl (c_X11_isNoAddress l D cI cJ l1 _) (fb_goodS fw_1717 fw_1718 fw_191 fw_1719) rfl rfl (by decide +kernel : fb_hd yX11_isNoAddress 1) ⟨Nat.le_of_ble_eq_true rfl, Nat.le_of_ble_eq_true rfl⟩ [] (by decide) rfl rfl rfl (Nat.le_of_ble_eq_true rfl) ⟨Nat.zero_le _, Nat.zero_le _⟩ dX11_codeAt_1) ?_
  refine lv_if_eq (tgt := 17) hx hb dX11_codeAt_4 (by decide) (fun _ => ?_) (fun c1 => absurd gA c1)
  refine lv_aload_n hx hb dX11_codeAt_17 rfl (lv_at hl 0 rfl) ?_
  refine fb_get X I (k := 5) fu_X11 0 rfl rfl (Nat.le_of_ble_eq_true rfl) fw_692 rfl rfl dX11_codeAt_18 ?_
  refine lv_iload_n hx hb dX11_codeAt_21 rfl (lv_at hl 1 rfl) ?_
  refine fb_roI X I (fb_runV (As := [.int l1]) (rest := []) (q0 := 1) X I hl (c_X2_shown l D cI cJ zq zs zw l1 _) (fb_goodV fw_1830 fw_1225 fw_1226 fw_198 fw_1227) rfl rfl rfl (by decide +kernel : fb_hd yX2_shown 1) ⟨Nat.le_of_ble_eq_true rfl, Nat.le_of_ble_eq_true rfl⟩ [1, 2, 3, 4, 5, 6, 7, 8] (by decide) rfl rfl rfl rfl rfl rfl (Nat.le_of_ble_eq_true rfl) ⟨Nat.zero_le _, Nat.zero_le _⟩ dX11_codeAt_22) ?_
  refine lv_istore_n (lv' := [(2, .int (f_X2_shown zs l1)), (0, .ref zb), (1, .int l1)]) hx hb dX11_codeAt_25 rfl hl (by decide) rfl (fun ls hl => ?_)
  refine lv_iload_n hx hb dX11_codeAt_26 rfl (lv_at hl 0 rfl) ?_
  refine fb_roI X I (fb_runS (As := [.int (f_X2_shown zs l1)]) (rest := []) X I hl (c_X11_lengthOf l D cI cJ (f_X2_shown zs l1) _) (fb_goodS fw_1872 fw_1058 fw_191 fw_1059) rfl rfl (by decide +kernel : fb_hd yX11_lengthOf 1) ⟨Nat.le_of_ble_eq_true rfl, Nat.le_of_ble_eq_true rfl⟩ [] (by decide) rfl rfl rfl (Nat.le_of_ble_eq_true rfl) ⟨Nat.zero_le _, Nat.zero_le _⟩ dX11_codeAt_27) ?_
  refine lv_if_le (tgt := 37) hx hb dX11_codeAt_30 (by decide) (fun c2 => ?_) (fun c2 => ?_)
  · have E3 := (E.trans (if_pos c2))
    refine lv_iconst (v := (-1 : Int32)) hx hb dX11_codeAt_37 (by decide) ?_
    exact fb_retRI X E3 rfl dX11_codeAt_38
  · have E4 := (E.trans (if_neg c2))
    refine lv_iload_n hx hb dX11_codeAt_33 rfl (lv_at hl 0 rfl) ?_
    refine lv_goto (tgt := 38) hx hb dX11_codeAt_34 (by decide) ?_
    exact fb_retRI X E4 rfl dX11_codeAt_38
set_option maxHeartbeats 4000000 in
set_option maxRecDepth 100000 in
theorem c_X11_codeAt (l : Launch) (D : va_G) (cI cJ : ClassId) (zb : Nat) (zr0 : Nat) (zr1 : Nat) (zr2 : Nat) (zr3 : Nat) (zr4 : Nat) (zr6 : Nat) (zr7 : Nat) (zr8 : Nat) (zr9 : Nat) (zq : Nat → Nat) (zs : fb_MS) (zw : fb_AR) (l1 : Int32) (sz : Nat) (gA : f_X11_isNoAddress l1 = 0) : Met l yX11_codeAt (Cond.code yX11_codeAt cX11_codeAt 3 (some .int) :: fb_all) ({ frames := 2, cells := 0, slots := 0, locals := 44 } : Room) (fb_PP D (fb_ty D cI cJ) [.ref zb, .int l1] ((fb_o11 zb zr0 zr1 zr2 zr3 zr4 (zq 0) zr6 zr7 zr8 zr9) ++ (fb_mw cI zq zs zw)) sz) (vp_Si (fun r => r = ((f_X11_codeAt zs l1)))) 0 0 (fun _ => False) := by
  refine fb_entR (by decide +kernel) (Nat.le_of_ble_eq_true rfl) ?_
  intro p e s m args below meth c A ls X I hl hin
  exact b_X11_codeAt_0 X gA I hl rfl
/-! X11_lengthAt -/
def f_X11_lengthAt (zs : fb_MS) (l1 : Int32) : Int32 := (f_X11_lengthOf (f_X2_shown zs l1))
set_option maxHeartbeats 4000000 in
set_option maxRecDepth 100000 in
theorem b_X11_lengthAt_0 {p : Program} {l : Launch} {e : Env} {s : State} {m : MethodId} {args : Array Value} {below : List Frame} {meth : Method} {c : Code} {D : va_G} {cI cJ : ClassId} {A : Nat → Prop} {zb : Nat} {zr0 : Nat} {zr1 : Nat} {zr2 : Nat} {zr3 : Nat} {zr4 : Nat} {zr6 : Nat} {zr7 : Nat} {zr8 : Nat} {zr9 : Nat} {zq : Nat → Nat} {z : Int32} (X : fb_Bx p s m args meth c cX11_lengthAt RX11 2 (some .int) D (fb_ty D cI cJ) A) {zs : fb_MS} {zw : fb_AR} {l1 : Int32} {ls : Array Slot} (gA : f_X11_isNoAddress l1 = 0) (I : fb_In D A s.heap ((fb_o11 zb zr0 zr1 zr2 zr3 zr4 (zq 0) zr6 zr7 zr8 zr9) ++ (fb_mw cI zq zs zw)) s.heap []) (hl : lv_has ls 2 [(0, .ref zb), (1, .int l1)]) (E : z = f_X11_lengthAt zs l1) : W p l e ({ frames := 2, cells := 0, slots := 0, locals := 44 } : Room) s m args below meth c s.heap [] 0 0 (MQ below (vp_Si (fun r => r = z)) args s 0 0 (fun _ => False)) (F0 m 0 ls []) := by
  obtain ⟨hx, hb, hr, hml, hown, hts, hlk, hA, hK, hF⟩ := id X
  refine lv_iload_n hx hb dX11_lengthAt_0 rfl (lv_at hl 1 rfl) ?_
  refine fb_roI X I (fb_runS (As := [.int l1]) (rest := []) X I hl (c_X11_isNoAddress l D cI cJ l1 _) (fb_goodS fw_1717 fw_1718 fw_191 fw_1719) rfl rfl (by decide +kernel : fb_hd yX11_isNoAddress 1) ⟨Nat.le_of_ble_eq_true rfl, Nat.le_of_ble_eq_true rfl⟩ [] (by decide) rfl rfl rfl (Nat.le_of_ble_eq_true rfl) ⟨Nat.zero_le _, Nat.zero_le _⟩ dX11_lengthAt_1) ?_
  refine lv_if_eq (tgt := 17) hx hb dX11_lengthAt_4 (by decide) (fun _ => ?_) (fun c1 => absurd gA c1)
  refine lv_aload_n hx hb dX11_lengthAt_17 rfl (lv_at hl 0 rfl) ?_
  refine fb_get X I (k := 5) fu_X11 0 rfl rfl (Nat.le_of_ble_eq_true rfl) fw_692 rfl rfl dX11_lengthAt_18 ?_
  refine lv_iload_n hx hb dX11_lengthAt_21 rfl (lv_at hl 1 rfl) ?_
  refine fb_roI X I (fb_runV (As := [.int l1]) (rest := []) (q0 := 1) X I hl (c_X2_shown l D cI cJ zq zs zw l1 _) (fb_goodV fw_1830 fw_1225 fw_1226 fw_198 fw_1227) rfl rfl rfl (by decide +kernel : fb_hd yX2_shown 1) ⟨Nat.le_of_ble_eq_true rfl, Nat.le_of_ble_eq_true rfl⟩ [1, 2, 3, 4, 5, 6, 7, 8] (by decide) rfl rfl rfl rfl rfl rfl (Nat.le_of_ble_eq_true rfl) ⟨Nat.zero_le _, Nat.zero_le _⟩ dX11_lengthAt_22) ?_
  refine fb_roI X I (fb_runS (As := [.int (f_X2_shown zs l1)]) (rest := []) X I hl (c_X11_lengthOf l D cI cJ (f_X2_shown zs l1) _) (fb_goodS fw_1872 fw_1058 fw_191 fw_1059) rfl rfl (by decide +kernel : fb_hd yX11_lengthOf 1) ⟨Nat.le_of_ble_eq_true rfl, Nat.le_of_ble_eq_true rfl⟩ [] (by decide) rfl rfl rfl (Nat.le_of_ble_eq_true rfl) ⟨Nat.zero_le _, Nat.zero_le _⟩ dX11_lengthAt_25) ?_
  exact fb_retRI X E rfl dX11_lengthAt_28
set_option maxHeartbeats 4000000 in
set_option maxRecDepth 100000 in
theorem c_X11_lengthAt (l : Launch) (D : va_G) (cI cJ : ClassId) (zb : Nat) (zr0 : Nat) (zr1 : Nat) (zr2 : Nat) (zr3 : Nat) (zr4 : Nat) (zr6 : Nat) (zr7 : Nat) (zr8 : Nat) (zr9 : Nat) (zq : Nat → Nat) (zs : fb_MS) (zw : fb_AR) (l1 : Int32) (sz : Nat) (gA : f_X11_isNoAddress l1 = 0) : Met l yX11_lengthAt (Cond.code yX11_lengthAt cX11_lengthAt 2 (some .int) :: fb_all) ({ frames := 2, cells := 0, slots := 0, locals := 44 } : Room) (fb_PP D (fb_ty D cI cJ) [.ref zb, .int l1] ((fb_o11 zb zr0 zr1 zr2 zr3 zr4 (zq 0) zr6 zr7 zr8 zr9) ++ (fb_mw cI zq zs zw)) sz) (vp_Si (fun r => r = ((f_X11_lengthAt zs l1)))) 0 0 (fun _ => False) := by
  refine fb_entR (by decide +kernel) (Nat.le_of_ble_eq_true rfl) ?_
  intro p e s m args below meth c A ls X I hl hin
  exact b_X11_lengthAt_0 X gA I hl rfl
/-! X11_stepOver -/
def f_X11_stepOver (ze0 : fb_AR) (zo : (Nat → Nat)) (zso : fb_MS) (zn : (Nat → Nat)) (zsn : fb_MS) (zs : fb_MS) (ze7 : fb_AR) : Int32 × fb_AR × (Nat → Nat) × fb_MS × (Nat → Nat) × fb_MS × fb_MS × fb_AR := (if (f_X2_isReady zs) = 0 then (if (f_X2_endReason ((f_X11_step ze0 zo zso zn zsn zs).2.2.2.2.2.2)) = 0 then (((f_X11_step ze0 zo zso zn zsn zs).1), ((f_X11_step ze0 zo zso zn zsn zs).2.1), ((f_X11_step ze0 zo zso zn zsn zs).2.2.1), ((f_X11_step ze0 zo zso zn zsn zs).2.2.2.1), ((f_X11_step ze0 zo zso zn zsn zs).2.2.2.2.1), ((f_X11_step ze0 zo zso zn zsn zs).2.2.2.2.2.1), ((f_X11_step ze0 zo zso zn zsn zs).2.2.2.2.2.2), (upd ze7 7 (6 : Int32))) else (((f_X11_step ze0 zo zso zn zsn zs).1), ((f_X11_step ze0 zo zso zn zsn zs).2.1), ((f_X11_step ze0 zo zso zn zsn zs).2.2.1), ((f_X11_step ze0 zo zso zn zsn zs).2.2.2.1), ((f_X11_step ze0 zo zso zn zsn zs).2.2.2.2.1), ((f_X11_step ze0 zo zso zn zsn zs).2.2.2.2.2.1), ((f_X11_step ze0 zo zso zn zsn zs).2.2.2.2.2.2), (upd ze7 7 (f_X2_endReason ((f_X11_step ze0 zo zso zn zsn zs).2.2.2.2.2.2))))) else (if (f_X2_isAtCall zs) = 0 then (if (f_X2_endReason ((f_X11_step ze0 zo zso zn zsn zs).2.2.2.2.2.2)) = 0 then (((f_X11_step ze0 zo zso zn zsn zs).1), ((f_X11_step ze0 zo zso zn zsn zs).2.1), ((f_X11_step ze0 zo zso zn zsn zs).2.2.1), ((f_X11_step ze0 zo zso zn zsn zs).2.2.2.1), ((f_X11_step ze0 zo zso zn zsn zs).2.2.2.2.1), ((f_X11_step ze0 zo zso zn zsn zs).2.2.2.2.2.1), ((f_X11_step ze0 zo zso zn zsn zs).2.2.2.2.2.2), (upd ze7 7 (6 : Int32))) else (((f_X11_step ze0 zo zso zn zsn zs).1), ((f_X11_step ze0 zo zso zn zsn zs).2.1), ((f_X11_step ze0 zo zso zn zsn zs).2.2.1), ((f_X11_step ze0 zo zso zn zsn zs).2.2.2.1), ((f_X11_step ze0 zo zso zn zsn zs).2.2.2.2.1), ((f_X11_step ze0 zo zso zn zsn zs).2.2.2.2.2.1), ((f_X11_step ze0 zo zso zn zsn zs).2.2.2.2.2.2), (upd ze7 7 (f_X2_endReason ((f_X11_step ze0 zo zso zn zsn zs).2.2.2.2.2.2))))) else (((f_X11_goOn ze0 zo zso zn zsn zs ze7 (5000 : Int32) ((zs).1 13)).1), ((f_X11_goOn ze0 zo zso zn zsn zs ze7 (5000 : Int32) ((zs).1 13)).2.1), ((f_X11_goOn ze0 zo zso zn zsn zs ze7 (5000 : Int32) ((zs).1 13)).2.2.1), ((f_X11_goOn ze0 zo zso zn zsn zs ze7 (5000 : Int32) ((zs).1 13)).2.2.2.1), ((f_X11_goOn ze0 zo zso zn zsn zs ze7 (5000 : Int32) ((zs).1 13)).2.2.2.2.1), ((f_X11_goOn ze0 zo zso zn zsn zs ze7 (5000 : Int32) ((zs).1 13)).2.2.2.2.2.1), ((f_X11_goOn ze0 zo zso zn zsn zs ze7 (5000 : Int32) ((zs).1 13)).2.2.2.2.2.2.1), ((f_X11_goOn ze0 zo zso zn zsn zs ze7 (5000 : Int32) ((zs).1 13)).2.2.2.2.2.2.2))))
set_option maxHeartbeats 4000000 in
set_option maxRecDepth 100000 in
theorem b_X11_stepOver_0 {p : Program} {l : Launch} {e : Env} {s : State} {m : MethodId} {args : Array Value} {below : List Frame} {meth : Method} {c : Code} {D : va_G} {cI cJ : ClassId} {A : Nat → Prop} {zb : Nat} {zr0 : Nat} {zr1 : Nat} {zr2 : Nat} {zr3 : Nat} {zr4 : Nat} {zr6 : Nat} {zh : Nat} {zst : Nat} {zr9 : Nat} {zq : Nat → Nat} {zs0 : Nat} {zs1 : Nat} {zs3 : Nat} {zs4 : Nat} {zs5 : Nat} {z : Int32 × fb_AR × (Nat → Nat) × fb_MS × (Nat → Nat) × fb_MS × fb_MS × fb_AR} (X : fb_Bx p s m args meth c cX11_stepOver RX11 3 (some .int) D (fb_ty D cI cJ) A) {ze0 : fb_AR} {zo : Nat → Nat} {zso : fb_MS} {zwo : fb_AR} {zn : Nat → Nat} {zsn : fb_MS} {zwn : fb_AR} {zs : fb_MS} {zw : fb_AR} {ze7 : fb_AR} {H : Heap} {locs : List Loc} {ls : Array Slot} (h0 : ze7 6 = 0) (h1 : ze7 2 = 0) (I : fb_In D A s.heap ((fb_o11 zb zr0 zr1 zr2 zr3 zr4 (zq 0) zr6 zh zst zr9) ++ ((fb_o0 zh (zo 0) (zn 0) ze0) ++ ((fb_mw cI zo zso zwo) ++ ((fb_mw cI zn zsn zwn) ++ ((fb_mw cI zq zs zw) ++ (fb_o7 zst zs0 zs1 zs3 zs4 zs5 ze7)))))) H locs) (hl : lv_has ls 3 [(0, .ref zb)]) (E : z = f_X11_stepOver ze0 zo zso zn zsn zs ze7) : W p l e ({ frames := 7, cells := 0, slots := 0, locals := 178 } : Room) s m args below meth c H locs 0 0 (MQ below (fb_QI D A (fun (r : Int32) (_ : fb_AR × fb_AR × fb_AR) => r = z.1) (fun (t : fb_AR × fb_AR × fb_AR) => (fb_o11 zb zr0 zr1 zr2 zr3 zr4 (zq 0) zr6 zh zst zr9) ++ ((fb_o0 zh ((z.2.2.1) 0) ((z.2.2.2.2.1) 0) (z.2.1)) ++ ((fb_mw cI (z.2.2.1) (z.2.2.2.1) (t.1)) ++ ((fb_mw cI (z.2.2.2.2.1) (z.2.2.2.2.2.1) (t.2.1)) ++ ((fb_mw cI zq (z.2.2.2.2.2.2.1) (t.2.2)) ++ (fb_o7 zst zs0 zs1 zs3 zs4 zs5 (z.2.2.2.2.2.2.2)))))))) args s 0 0 A) (F0 m 0 ls []) := by
  obtain ⟨hx, hb, hr, hml, hown, hts, hlk, hA, hK, hF⟩ := id X
  refine lv_aload_n hx hb dX11_stepOver_0 rfl (lv_at hl 0 rfl) ?_
  refine fb_get X I (k := 5) fu_X11 0 rfl rfl (Nat.le_of_ble_eq_true rfl) fw_692 rfl rfl dX11_stepOver_1 ?_
  refine fb_roI X I (fb_runV (As := []) (rest := []) (q0 := 18) X I hl (c_X2_isReady l D cI cJ zq zs zw _) (fb_goodV fw_1381 fw_1382 fw_1383 fw_198 fw_1384) rfl rfl rfl (by decide +kernel : fb_hd yX2_isReady 0) ⟨Nat.le_of_ble_eq_true rfl, Nat.le_of_ble_eq_true rfl⟩ [18, 19, 20, 21, 22, 23, 24, 25] (by decide) rfl rfl rfl rfl rfl rfl (Nat.le_of_ble_eq_true rfl) ⟨Nat.zero_le _, Nat.zero_le _⟩ dX11_stepOver_4) ?_
  refine lv_if_eq (tgt := 35) hx hb dX11_stepOver_7 (by decide) (fun c1 => ?_) (fun c1 => ?_)
  · have E2 := (E.trans (if_pos c1))
    refine lv_aload_n hx hb dX11_stepOver_35 rfl (lv_at hl 0 rfl) ?_
    refine fb_goI (wn := fun (w4 : fb_AR × fb_AR × fb_AR) => (fb_o11 zb zr0 zr1 zr2 zr3 zr4 (zq 0) zr6 zh zst zr9) ++ ((fb_o0 zh (((f_X11_step ze0 zo zso zn zsn zs).2.2.1) 0) (((f_X11_step ze0 zo zso zn zsn zs).2.2.2.2.1) 0) ((f_X11_step ze0 zo zso zn zsn zs).2.1)) ++ ((fb_mw cI ((f_X11_step ze0 zo zso zn zsn zs).2.2.1) ((f_X11_step ze0 zo zso zn zsn zs).2.2.2.1) (w4.1)) ++ ((fb_mw cI ((f_X11_step ze0 zo zso zn zsn zs).2.2.2.2.1) ((f_X11_step ze0 zo zso zn zsn zs).2.2.2.2.2.1) (w4.2.1)) ++ ((fb_mw cI zq ((f_X11_step ze0 zo zso zn zsn zs).2.2.2.2.2.2) (w4.2.2)) ++ (fb_o7 zst zs0 zs1 zs3 zs4 zs5 ze7)))))) X I (fb_runV (As := []) (rest := []) (q0 := 0) X I hl (c_X11_step l D cI cJ zb zr0 zr1 zr2 zr3 zr4 zr6 zh zst zr9 ze0 zo zso zwo zn zsn zwn zq zs zw _) (fb_goodV fw_1416 fw_1164 fw_1165 fw_191 fw_1166) rfl rfl rfl (by decide +kernel : fb_hd yX11_step 0) ⟨Nat.le_of_ble_eq_true rfl, Nat.le_of_ble_eq_true rfl⟩ [0, 1, 2, 3, 4, 5, 6, 7, 8, 9, 10, 11, 12, 13, 14, 15, 16, 17, 18, 19, 20, 21, 22, 23, 24, 25] (by decide) rfl rfl rfl rfl rfl rfl (Nat.le_of_ble_eq_true rfl) ⟨Nat.zero_le _, Nat.zero_le _⟩ dX11_stepOver_36) [0, 1, 2, 3, 4, 5, 6, 7, 8, 9, 10, 11, 12, 13, 14, 15, 16, 17, 18, 19, 20, 21, 22, 23, 24, 25] [26] [1, 2, 3, 4, 5, 6, 7, 8, 9, 10, 11, 12, 13, 14, 15, 16, 17, 18, 19, 20, 21, 22, 23, 24, 25, 26, 0] rfl rfl (by decide) (by decide) (by decide) (fun _ => rfl) ?_
    intro r5 w4 H locs e0 I
    subst e0
    refine lv_istore_n (lv' := [(1, .int ((f_X11_step ze0 zo zso zn zsn zs).1)), (0, .ref zb)]) hx hb dX11_stepOver_39 rfl hl (by decide) rfl (fun ls hl => ?_)
    refine lv_aload_n hx hb dX11_stepOver_40 rfl (lv_at hl 1 rfl) ?_
    refine fb_get X I (k := 5) fu_X11 0 rfl rfl (Nat.le_of_ble_eq_true rfl) fw_692 rfl rfl dX11_stepOver_41 ?_
    refine fb_roI X I (fb_runV (As := []) (rest := []) (q0 := 18) X I hl (c_X2_endReason l D cI cJ zq ((f_X11_step ze0 zo zso zn zsn zs).2.2.2.2.2.2) (w4.2.2) _) (fb_goodV fw_1167 fw_1168 fw_1169 fw_198 fw_1170) rfl rfl rfl (by decide +kernel : fb_hd yX2_endReason 0) ⟨Nat.le_of_ble_eq_true rfl, Nat.le_of_ble_eq_true rfl⟩ [18, 19, 20, 21, 22, 23, 24, 25] (by decide) rfl rfl rfl rfl rfl rfl (Nat.le_of_ble_eq_true rfl) ⟨Nat.zero_le _, Nat.zero_le _⟩ dX11_stepOver_44) ?_
    refine lv_istore_n (lv' := [(2, .int (f_X2_endReason ((f_X11_step ze0 zo zso zn zsn zs).2.2.2.2.2.2))), (1, .int ((f_X11_step ze0 zo zso zn zsn zs).1)), (0, .ref zb)]) hx hb dX11_stepOver_47 rfl hl (by decide) rfl (fun ls hl => ?_)
    refine lv_aload_n hx hb dX11_stepOver_48 rfl (lv_at hl 2 rfl) ?_
    refine fb_get X I (k := 8) fu_X11 0 rfl rfl (Nat.le_of_ble_eq_true rfl) fw_695 rfl rfl dX11_stepOver_49 ?_
    refine lv_iload_n hx hb dX11_stepOver_52 rfl (lv_at hl 0 rfl) ?_
    refine lv_if_eq (tgt := 60) hx hb dX11_stepOver_53 (by decide) (fun c6 => ?_) (fun c6 => ?_)
    · have E7 := (E2.trans (if_pos c6))
      refine lv_bipush (v := (6 : Int32)) hx hb dX11_stepOver_60 (by decide) ?_
      refine fb_put X I (k := 7) (wn := (fb_o11 zb zr0 zr1 zr2 zr3 zr4 (zq 0) zr6 zh zst zr9) ++ ((fb_o0 zh (((f_X11_step ze0 zo zso zn zsn zs).2.2.1) 0) (((f_X11_step ze0 zo zso zn zsn zs).2.2.2.2.1) 0) ((f_X11_step ze0 zo zso zn zsn zs).2.1)) ++ ((fb_mw cI ((f_X11_step ze0 zo zso zn zsn zs).2.2.1) ((f_X11_step ze0 zo zso zn zsn zs).2.2.2.1) (w4.1)) ++ ((fb_mw cI ((f_X11_step ze0 zo zso zn zsn zs).2.2.2.2.1) ((f_X11_step ze0 zo zso zn zsn zs).2.2.2.2.2.1) (w4.2.1)) ++ ((fb_mw cI zq ((f_X11_step ze0 zo zso zn zsn zs).2.2.2.2.2.2) (w4.2.2)) ++ (fb_o7 zst zs0 zs1 zs3 zs4 zs5 (upd ze7 7 (6 : Int32)))))))) fu_X7 tyX7 tyX7_ok nmX7 26 rfl rfl (Nat.le_of_ble_eq_true rfl) fw_627 rfl rfl rfl rfl rfl (Nat.le_of_ble_eq_true rfl) rfl dX11_stepOver_62 (fun H locs I => ?_)
      refine lv_iload_n hx hb dX11_stepOver_65 rfl (lv_at hl 1 rfl) ?_
      subst E7
      exact fb_retI (u := ((w4.1), (w4.2.1), (w4.2.2))) X I rfl rfl dX11_stepOver_66
    · have E8 := (E2.trans (if_neg c6))
      refine lv_iload_n hx hb dX11_stepOver_56 rfl (lv_at hl 0 rfl) ?_
      refine lv_goto (tgt := 62) hx hb dX11_stepOver_57 (by decide) ?_
      refine fb_put X I (k := 7) (wn := (fb_o11 zb zr0 zr1 zr2 zr3 zr4 (zq 0) zr6 zh zst zr9) ++ ((fb_o0 zh (((f_X11_step ze0 zo zso zn zsn zs).2.2.1) 0) (((f_X11_step ze0 zo zso zn zsn zs).2.2.2.2.1) 0) ((f_X11_step ze0 zo zso zn zsn zs).2.1)) ++ ((fb_mw cI ((f_X11_step ze0 zo zso zn zsn zs).2.2.1) ((f_X11_step ze0 zo zso zn zsn zs).2.2.2.1) (w4.1)) ++ ((fb_mw cI ((f_X11_step ze0 zo zso zn zsn zs).2.2.2.2.1) ((f_X11_step ze0 zo zso zn zsn zs).2.2.2.2.2.1) (w4.2.1)) ++ ((fb_mw cI zq ((f_X11_step ze0 zo zso zn zsn zs).2.2.2.2.2.2) (w4.2.2)) ++ (fb_o7 zst zs0 zs1 zs3 zs4 zs5 (upd ze7 7 (f_X2_endReason ((f_X11_step ze0 zo zso zn zsn zs).2.2.2.2.2.2))))))))) fu_X7 tyX7 tyX7_ok nmX7 26 rfl rfl (Nat.le_of_ble_eq_true rfl) fw_627 rfl rfl rfl rfl rfl (Nat.le_of_ble_eq_true rfl) rfl dX11_stepOver_62 (fun H locs I => ?_)
      refine lv_iload_n hx hb dX11_stepOver_65 rfl (lv_at hl 1 rfl) ?_
      subst E8
      exact fb_retI (u := ((w4.1), (w4.2.1), (w4.2.2))) X I rfl rfl dX11_stepOver_66
  · have E3 := (E.trans (if_neg c1))
    refine lv_aload_n hx hb dX11_stepOver_10 rfl (lv_at hl 0 rfl) ?_
    refine fb_get X I (k := 5) fu_X11 0 rfl rfl (Nat.le_of_ble_eq_true rfl) fw_692 rfl rfl dX11_stepOver_11 ?_
    refine fb_roI X I (fb_runV (As := []) (rest := []) (q0 := 18) X I hl (c_X2_isAtCall l D cI cJ zq zs zw _) (fb_goodV fw_1385 fw_1386 fw_1387 fw_198 fw_1388) rfl rfl rfl (by decide +kernel : fb_hd yX2_isAtCall 0) ⟨Nat.le_of_ble_eq_true rfl, Nat.le_of_ble_eq_true rfl⟩ [18, 19, 20, 21, 22, 23, 24, 25] (by decide) rfl rfl rfl rfl rfl rfl (Nat.le_of_ble_eq_true rfl) ⟨Nat.zero_le _, Nat.zero_le _⟩ dX11_stepOver_14) ?_
    refine lv_if_eq (tgt := 35) hx hb dX11_stepOver_17 (by decide) (fun c9 => ?_) (fun c9 => ?_)
    · have E10 := (E3.trans (if_pos c9))
      refine lv_aload_n hx hb dX11_stepOver_35 rfl (lv_at hl 0 rfl) ?_
      refine fb_goI (wn := fun (w12 : fb_AR × fb_AR × fb_AR) => (fb_o11 zb zr0 zr1 zr2 zr3 zr4 (zq 0) zr6 zh zst zr9) ++ ((fb_o0 zh (((f_X11_step ze0 zo zso zn zsn zs).2.2.1) 0) (((f_X11_step ze0 zo zso zn zsn zs).2.2.2.2.1) 0) ((f_X11_step ze0 zo zso zn zsn zs).2.1)) ++ ((fb_mw cI ((f_X11_step ze0 zo zso zn zsn zs).2.2.1) ((f_X11_step ze0 zo zso zn zsn zs).2.2.2.1) (w12.1)) ++ ((fb_mw cI ((f_X11_step ze0 zo zso zn zsn zs).2.2.2.2.1) ((f_X11_step ze0 zo zso zn zsn zs).2.2.2.2.2.1) (w12.2.1)) ++ ((fb_mw cI zq ((f_X11_step ze0 zo zso zn zsn zs).2.2.2.2.2.2) (w12.2.2)) ++ (fb_o7 zst zs0 zs1 zs3 zs4 zs5 ze7)))))) X I (fb_runV (As := []) (rest := []) (q0 := 0) X I hl (c_X11_step l D cI cJ zb zr0 zr1 zr2 zr3 zr4 zr6 zh zst zr9 ze0 zo zso zwo zn zsn zwn zq zs zw _) (fb_goodV fw_1416 fw_1164 fw_1165 fw_191 fw_1166) rfl rfl rfl (by decide +kernel : fb_hd yX11_step 0) ⟨Nat.le_of_ble_eq_true rfl, Nat.le_of_ble_eq_true rfl⟩ [0, 1, 2, 3, 4, 5, 6, 7, 8, 9, 10, 11, 12, 13, 14, 15, 16, 17, 18, 19, 20, 21, 22, 23, 24, 25] (by decide) rfl rfl rfl rfl rfl rfl (Nat.le_of_ble_eq_true rfl) ⟨Nat.zero_le _, Nat.zero_le _⟩ dX11_stepOver_36) [0, 1, 2, 3, 4, 5, 6, 7, 8, 9, 10, 11, 12, 13, 14, 15, 16, 17, 18, 19, 20, 21, 22, 23, 24, 25] [26] [1, 2, 3, 4, 5, 6, 7, 8, 9, 10, 11, 12, 13, 14, 15, 16, 17, 18, 19, 20, 21, 22, 23, 24, 25, 26, 0] rfl rfl (by decide) (by decide) (by decide) (fun _ => rfl) ?_
      intro r13 w12 H locs e0 I
      subst e0
      refine lv_istore_n (lv' := [(1, .int ((f_X11_step ze0 zo zso zn zsn zs).1)), (0, .ref zb)]) hx hb dX11_stepOver_39 rfl hl (by decide) rfl (fun ls hl => ?_)
      refine lv_aload_n hx hb dX11_stepOver_40 rfl (lv_at hl 1 rfl) ?_
      refine fb_get X I (k := 5) fu_X11 0 rfl rfl (Nat.le_of_ble_eq_true rfl) fw_692 rfl rfl dX11_stepOver_41 ?_
      refine fb_roI X I (fb_runV (As := []) (rest := []) (q0 := 18) X I hl (c_X2_endReason l D cI cJ zq ((f_X11_step ze0 zo zso zn zsn zs).2.2.2.2.2.2) (w12.2.2) _) (fb_goodV fw_1167 fw_1168 fw_1169 fw_198 fw_1170) rfl rfl rfl (by decide +kernel : fb_hd yX2_endReason 0) ⟨Nat.le_of_ble_eq_true rfl, Nat.le_of_ble_eq_true rfl⟩ [18, 19, 20, 21, 22, 23, 24, 25] (by decide) rfl rfl rfl rfl rfl rfl (Nat.le_of_ble_eq_true rfl) ⟨Nat.zero_le _, Nat.zero_le _⟩ dX11_stepOver_44) ?_
      refine lv_istore_n (lv' := [(2, .int (f_X2_endReason ((f_X11_step ze0 zo zso zn zsn zs).2.2.2.2.2.2))), (1, .int ((f_X11_step ze0 zo zso zn zsn zs).1)), (0, .ref zb)]) hx hb dX11_stepOver_47 rfl hl (by decide) rfl (fun ls hl => ?_)
      refine lv_aload_n hx hb dX11_stepOver_48 rfl (lv_at hl 2 rfl) ?_
      refine fb_get X I (k := 8) fu_X11 0 rfl rfl (Nat.le_of_ble_eq_true rfl) fw_695 rfl rfl dX11_stepOver_49 ?_
      refine lv_iload_n hx hb dX11_stepOver_52 rfl (lv_at hl 0 rfl) ?_
      refine lv_if_eq (tgt := 60) hx hb dX11_stepOver_53 (by decide) (fun c14 => ?_) (fun c14 => ?_)
      · have E15 := (E10.trans (if_pos c14))
        refine lv_bipush (v := (6 : Int32)) hx hb dX11_stepOver_60 (by decide) ?_
        refine fb_put X I (k := 7) (wn := (fb_o11 zb zr0 zr1 zr2 zr3 zr4 (zq 0) zr6 zh zst zr9) ++ ((fb_o0 zh (((f_X11_step ze0 zo zso zn zsn zs).2.2.1) 0) (((f_X11_step ze0 zo zso zn zsn zs).2.2.2.2.1) 0) ((f_X11_step ze0 zo zso zn zsn zs).2.1)) ++ ((fb_mw cI ((f_X11_step ze0 zo zso zn zsn zs).2.2.1) ((f_X11_step ze0 zo zso zn zsn zs).2.2.2.1) (w12.1)) ++ ((fb_mw cI ((f_X11_step ze0 zo zso zn zsn zs).2.2.2.2.1) ((f_X11_step ze0 zo zso zn zsn zs).2.2.2.2.2.1) (w12.2.1)) ++ ((fb_mw cI zq ((f_X11_step ze0 zo zso zn zsn zs).2.2.2.2.2.2) (w12.2.2)) ++ (fb_o7 zst zs0 zs1 zs3 zs4 zs5 (upd ze7 7 (6 : Int32)))))))) fu_X7 tyX7 tyX7_ok nmX7 26 rfl rfl (Nat.le_of_ble_eq_true rfl) fw_627 rfl rfl rfl rfl rfl (Nat.le_of_ble_eq_true rfl) rfl dX11_stepOver_62 (fun H locs I => ?_)
        refine lv_iload_n hx hb dX11_stepOver_65 rfl (lv_at hl 1 rfl) ?_
        subst E15
        exact fb_retI (u := ((w12.1), (w12.2.1), (w12.2.2))) X I rfl rfl dX11_stepOver_66
      · have E16 := (E10.trans (if_neg c14))
        refine lv_iload_n hx hb dX11_stepOver_56 rfl (lv_at hl 0 rfl) ?_
        refine lv_goto (tgt := 62) hx hb dX11_stepOver_57 (by decide) ?_
        refine fb_put X I (k := 7) (wn := (fb_o11 zb zr0 zr1 zr2 zr3 zr4 (zq 0) zr6 zh zst zr9) ++ ((fb_o0 zh (((f_X11_step ze0 zo zso zn zsn zs).2.2.1) 0) (((f_X11_step ze0 zo zso zn zsn zs).2.2.2.2.1) 0) ((f_X11_step ze0 zo zso zn zsn zs).2.1)) ++ ((fb_mw cI ((f_X11_step ze0 zo zso zn zsn zs).2.2.1) ((f_X11_step ze0 zo zso zn zsn zs).2.2.2.1) (w12.1)) ++ ((fb_mw cI ((f_X11_step ze0 zo zso zn zsn zs).2.2.2.2.1) ((f_X11_step ze0 zo zso zn zsn zs).2.2.2.2.2.1) (w12.2.1)) ++ ((fb_mw cI zq ((f_X11_step ze0 zo zso zn zsn zs).2.2.2.2.2.2) (w12.2.2)) ++ (fb_o7 zst zs0 zs1 zs3 zs4 zs5 (upd ze7 7 (f_X2_endReason ((f_X11_step ze0 zo zso zn zsn zs).2.2.2.2.2.2))))))))) fu_X7 tyX7 tyX7_ok nmX7 26 rfl rfl (Nat.le_of_ble_eq_true rfl) fw_627 rfl rfl rfl rfl rfl (Nat.le_of_ble_eq_true rfl) rfl dX11_stepOver_62 (fun H locs I => ?_)
        refine lv_iload_n hx hb dX11_stepOver_65 rfl (lv_at hl 1 rfl) ?_
        subst E16
        exact fb_retI (u := ((w12.1), (w12.2.1), (w12.2.2))) X I rfl rfl dX11_stepOver_66
    · have E11 := (E3.trans (if_neg c9))
      refine lv_aload_n hx hb dX11_stepOver_20 rfl (lv_at hl 0 rfl) ?_
      refine lv_sipush (v := (5000 : Int32)) hx hb dX11_stepOver_21 (by decide) ?_
      refine lv_aload_n hx hb dX11_stepOver_24 rfl (lv_at hl 0 rfl) ?_
      refine fb_get X I (k := 5) fu_X11 0 rfl rfl (Nat.le_of_ble_eq_true rfl) fw_692 rfl rfl dX11_stepOver_25 ?_
      refine fb_get X I (k := 13) fu_X2 18 rfl rfl (Nat.le_of_ble_eq_true rfl) fw_542 rfl rfl dX11_stepOver_28 ?_
      refine fb_goI (wn := fun (w17 : fb_AR × fb_AR × fb_AR) => (fb_o11 zb zr0 zr1 zr2 zr3 zr4 (zq 0) zr6 zh zst zr9) ++ ((fb_o0 zh (((f_X11_goOn ze0 zo zso zn zsn zs ze7 (5000 : Int32) ((zs).1 13)).2.2.1) 0) (((f_X11_goOn ze0 zo zso zn zsn zs ze7 (5000 : Int32) ((zs).1 13)).2.2.2.2.1) 0) ((f_X11_goOn ze0 zo zso zn zsn zs ze7 (5000 : Int32) ((zs).1 13)).2.1)) ++ ((fb_mw cI ((f_X11_goOn ze0 zo zso zn zsn zs ze7 (5000 : Int32) ((zs).1 13)).2.2.1) ((f_X11_goOn ze0 zo zso zn zsn zs ze7 (5000 : Int32) ((zs).1 13)).2.2.2.1) (w17.1)) ++ ((fb_mw cI ((f_X11_goOn ze0 zo zso zn zsn zs ze7 (5000 : Int32) ((zs).1 13)).2.2.2.2.1) ((f_X11_goOn ze0 zo zso zn zsn zs ze7 (5000 : Int32) ((zs).1 13)).2.2.2.2.2.1) (w17.2.1)) ++ ((fb_mw cI zq ((f_X11_goOn ze0 zo zso zn zsn zs ze7 (5000 : Int32) ((zs).1 13)).2.2.2.2.2.2.1) (w17.2.2)) ++ (fb_o7 zst zs0 zs1 zs3 zs4 zs5 ((f_X11_goOn ze0 zo zso zn zsn zs ze7 (5000 : Int32) ((zs).1 13)).2.2.2.2.2.2.2))))))) X I (fb_runV (As := [.int (5000 : Int32), .int ((zs).1 13)]) (rest := []) (q0 := 0) X I hl (c_X11_goOn l D cI cJ zb zr0 zr1 zr2 zr3 zr4 zr6 zh zst zr9 ze0 zo zso zwo zn zsn zwn zq zs zw zs0 zs1 zs3 zs4 zs5 ze7 (5000 : Int32) ((zs).1 13) _ h0 h1) (fb_goodV fw_1389 fw_1391 fw_78 fw_191 fw_1392) rfl rfl rfl (by decide +kernel : fb_hd yX11_goOn 2) ⟨Nat.le_of_ble_eq_true rfl, Nat.le_of_ble_eq_true rfl⟩ [0, 1, 2, 3, 4, 5, 6, 7, 8, 9, 10, 11, 12, 13, 14, 15, 16, 17, 18, 19, 20, 21, 22, 23, 24, 25, 26] (by decide) rfl rfl rfl rfl rfl rfl (Nat.le_of_ble_eq_true rfl) ⟨Nat.zero_le _, Nat.zero_le _⟩ dX11_stepOver_31) [0, 1, 2, 3, 4, 5, 6, 7, 8, 9, 10, 11, 12, 13, 14, 15, 16, 17, 18, 19, 20, 21, 22, 23, 24, 25, 26] [] [0, 1, 2, 3, 4, 5, 6, 7, 8, 9, 10, 11, 12, 13, 14, 15, 16, 17, 18, 19, 20, 21, 22, 23, 24, 25, 26] rfl rfl (by decide) (by decide) (by decide) (fun _ => rfl) ?_
      intro r18 w17 H locs e0 I
      subst e0
      subst E11
      exact fb_retI (u := ((w17.1), (w17.2.1), (w17.2.2))) X I rfl rfl dX11_stepOver_34
set_option maxHeartbeats 4000000 in
set_option maxRecDepth 100000 in
theorem c_X11_stepOver (l : Launch) (D : va_G) (cI cJ : ClassId) (zb : Nat) (zr0 : Nat) (zr1 : Nat) (zr2 : Nat) (zr3 : Nat) (zr4 : Nat) (zr6 : Nat) (zh : Nat) (zst : Nat) (zr9 : Nat) (ze0 : fb_AR) (zo : Nat → Nat) (zso : fb_MS) (zwo : fb_AR) (zn : Nat → Nat) (zsn : fb_MS) (zwn : fb_AR) (zq : Nat → Nat) (zs : fb_MS) (zw : fb_AR) (zs0 : Nat) (zs1 : Nat) (zs3 : Nat) (zs4 : Nat) (zs5 : Nat) (ze7 : fb_AR)  (sz : Nat) (h0 : ze7 6 = 0) (h1 : ze7 2 = 0) : Met l yX11_stepOver (Cond.code yX11_stepOver cX11_stepOver 3 (some .int) :: fb_all) ({ frames := 7, cells := 0, slots := 0, locals := 178 } : Room) (fb_PP D (fb_ty D cI cJ) [.ref zb] ((fb_o11 zb zr0 zr1 zr2 zr3 zr4 (zq 0) zr6 zh zst zr9) ++ ((fb_o0 zh (zo 0) (zn 0) ze0) ++ ((fb_mw cI zo zso zwo) ++ ((fb_mw cI zn zsn zwn) ++ ((fb_mw cI zq zs zw) ++ (fb_o7 zst zs0 zs1 zs3 zs4 zs5 ze7)))))) sz) (fb_QI D (va_A ((fb_o11 zb zr0 zr1 zr2 zr3 zr4 (zq 0) zr6 zh zst zr9) ++ ((fb_o0 zh (zo 0) (zn 0) ze0) ++ ((fb_mw cI zo zso zwo) ++ ((fb_mw cI zn zsn zwn) ++ ((fb_mw cI zq zs zw) ++ (fb_o7 zst zs0 zs1 zs3 zs4 zs5 ze7)))))) sz) (fun (r : Int32) (_ : fb_AR × fb_AR × fb_AR) => r = ((f_X11_stepOver ze0 zo zso zn zsn zs ze7)).1) (fun (t : fb_AR × fb_AR × fb_AR) => (fb_o11 zb zr0 zr1 zr2 zr3 zr4 (zq 0) zr6 zh zst zr9) ++ ((fb_o0 zh ((((f_X11_stepOver ze0 zo zso zn zsn zs ze7)).2.2.1) 0) ((((f_X11_stepOver ze0 zo zso zn zsn zs ze7)).2.2.2.2.1) 0) (((f_X11_stepOver ze0 zo zso zn zsn zs ze7)).2.1)) ++ ((fb_mw cI (((f_X11_stepOver ze0 zo zso zn zsn zs ze7)).2.2.1) (((f_X11_stepOver ze0 zo zso zn zsn zs ze7)).2.2.2.1) (t.1)) ++ ((fb_mw cI (((f_X11_stepOver ze0 zo zso zn zsn zs ze7)).2.2.2.2.1) (((f_X11_stepOver ze0 zo zso zn zsn zs ze7)).2.2.2.2.2.1) (t.2.1)) ++ ((fb_mw cI zq (((f_X11_stepOver ze0 zo zso zn zsn zs ze7)).2.2.2.2.2.2.1) (t.2.2)) ++ (fb_o7 zst zs0 zs1 zs3 zs4 zs5 (((f_X11_stepOver ze0 zo zso zn zsn zs ze7)).2.2.2.2.2.2.2)))))))) 0 0 (va_A ((fb_o11 zb zr0 zr1 zr2 zr3 zr4 (zq 0) zr6 zh zst zr9) ++ ((fb_o0 zh (zo 0) (zn 0) ze0) ++ ((fb_mw cI zo zso zwo) ++ ((fb_mw cI zn zsn zwn) ++ ((fb_mw cI zq zs zw) ++ (fb_o7 zst zs0 zs1 zs3 zs4 zs5 ze7)))))) sz) := by
  refine fb_ent (Qf := fun A => (fb_QI D A (fun (r : Int32) (_ : fb_AR × fb_AR × fb_AR) => r = ((f_X11_stepOver ze0 zo zso zn zsn zs ze7)).1) (fun (t : fb_AR × fb_AR × fb_AR) => (fb_o11 zb zr0 zr1 zr2 zr3 zr4 (zq 0) zr6 zh zst zr9) ++ ((fb_o0 zh ((((f_X11_stepOver ze0 zo zso zn zsn zs ze7)).2.2.1) 0) ((((f_X11_stepOver ze0 zo zso zn zsn zs ze7)).2.2.2.2.1) 0) (((f_X11_stepOver ze0 zo zso zn zsn zs ze7)).2.1)) ++ ((fb_mw cI (((f_X11_stepOver ze0 zo zso zn zsn zs ze7)).2.2.1) (((f_X11_stepOver ze0 zo zso zn zsn zs ze7)).2.2.2.1) (t.1)) ++ ((fb_mw cI (((f_X11_stepOver ze0 zo zso zn zsn zs ze7)).2.2.2.2.1) (((f_X11_stepOver ze0 zo zso zn zsn zs ze7)).2.2.2.2.2.1) (t.2.1)) ++ ((fb_mw cI zq (((f_X11_stepOver ze0 zo zso zn zsn zs ze7)).2.2.2.2.2.2.1) (t.2.2)) ++ (fb_o7 zst zs0 zs1 zs3 zs4 zs5 (((f_X11_stepOver ze0 zo zso zn zsn zs ze7)).2.2.2.2.2.2.2))))))))) (by decide +kernel) (Nat.le_of_ble_eq_true rfl) ?_
  intro p e s m args below meth c A ls X I hl hin
  exact b_X11_stepOver_0 X h0 h1 I hl rfl
