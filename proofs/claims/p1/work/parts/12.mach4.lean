/-! X2_branch -/
def f_X2_branch_73 (zs : fb_MS) (l2 : Int32) : fb_MS := (fb_sR (fb_sR zs 15 (((zs).1 15) + (1 : Int32))) 9 (((((fb_sR zs 15 (((zs).1 15) + (1 : Int32)))).1 9) + (f_X11_signed l2)) &&& (4095 : Int32)))
def f_X2_branch_53 (zs : fb_MS) (l1 : Int32) (l2 : Int32) (l3 : Int32) : fb_MS := (if l1 = (217 : Int32) then f_X2_branch_73 ((f_X2_pushAddress ((f_X2_beginCall zs l3)) ((((f_X2_beginCall zs l3))).1 9))) l2 else f_X2_branch_73 zs l2)
def f_X2_branch_49 (zs : fb_MS) (l1 : Int32) (l2 : Int32) (l3 : Int32) (k0 : Int32) (k1 : Int32) : fb_MS := (if k1 = k0 then zs else f_X2_branch_53 zs l1 l2 l3)
def f_X2_branch_33 (zs : fb_MS) (l1 : Int32) (l2 : Int32) (l3 : Int32) (k0 : Int32) : fb_MS := (if (l1 &&& (1 : Int32)) = (1 : Int32) then f_X2_branch_49 zs l1 l2 l3 (1 : Int32) k0 else f_X2_branch_49 zs l1 l2 l3 (0 : Int32) k0)
def f_X2_branch (zs : fb_MS) (l1 : Int32) (l2 : Int32) (l3 : Int32) : fb_MS := (if (216 : Int32) ≤ l1 then f_X2_branch_53 zs l1 l2 l3 else (if (((zs).1 8) &&& (f_X11_at 4 fb_bf ((l1 - (208 : Int32)) >>> ((1 : Int32) &&& 31)))) = 0 then f_X2_branch_33 zs l1 l2 l3 (0 : Int32) else f_X2_branch_33 zs l1 l2 l3 (1 : Int32)))
set_option maxHeartbeats 4000000 in
set_option maxRecDepth 100000 in
theorem b_X2_branch_73 {p : Program} {l : Launch} {e : Env} {s : State} {m : MethodId} {args : Array Value} {below : List Frame} {meth : Method} {c : Code} {D : va_G} {cI cJ : ClassId} {A : Nat → Prop} {zq : Nat → Nat} {z : fb_MS} (X : fb_Bx p s m args meth c cX2_branch RX2 5 none D (fb_ty D cI cJ) A) {zs : fb_MS} {zw : fb_AR} {l2 : Int32} {H : Heap} {locs : List Loc} {ls : Array Slot}  (I : fb_In D A s.heap ((fb_mw cI zq zs zw)) H locs) (hl : lv_has ls 5 [(0, .ref (zq 0)), (2, .int l2)]) (E : z = f_X2_branch_73 zs l2) : W p l e ({ frames := 3, cells := 0, slots := 0, locals := 64 } : Room) s m args below meth c H locs 0 0 (MQ below (fb_QV D A (fun (_ : fb_AR) => True) (fun (t : fb_AR) => (fb_mw cI zq (z) (t)))) args s 0 0 A) (F0 m 73 ls []) := by
  obtain ⟨hx, hb, hr, hml, hown, hts, hlk, hA, hK, hF⟩ := id X
  refine lv_aload_n hx hb dX2_branch_73 rfl (lv_at hl 0 rfl) ?_
  refine lv_dup hx hb dX2_branch_74 rfl ?_
  refine fb_get X I (k := 15) fu_X2 0 rfl rfl (Nat.le_of_ble_eq_true rfl) fw_545 rfl rfl dX2_branch_75 ?_
  refine lv_iconst (v := (1 : Int32)) hx hb dX2_branch_78 (by decide) ?_
  refine lv_iadd hx hb dX2_branch_79 ?_
  refine fb_put X I (k := 15) (wn := (fb_mw cI zq (fb_sR zs 15 (((zs).1 15) + (1 : Int32))) zw)) fu_X2 tyX2 tyX2_ok nmX2 0 rfl rfl (Nat.le_of_ble_eq_true rfl) fw_545 rfl rfl rfl rfl rfl (Nat.le_of_ble_eq_true rfl) fb_ms15 dX2_branch_80 (fun H locs I => ?_)
  refine lv_aload_n hx hb dX2_branch_83 rfl (lv_at hl 0 rfl) ?_
  refine lv_aload_n hx hb dX2_branch_84 rfl (lv_at hl 0 rfl) ?_
  refine fb_get X I (k := 9) fu_X2 0 rfl rfl (Nat.le_of_ble_eq_true rfl) fw_533 rfl rfl dX2_branch_85 ?_
  refine lv_iload_n hx hb dX2_branch_88 rfl (lv_at hl 1 rfl) ?_
  refine fb_roI X I (fb_runSN (As := [.int l2]) (rest := [.int (((fb_sR zs 15 (((zs).1 15) + (1 : Int32)))).1 9), .ref (zq 0)]) X I hl (c_X11_signed l D cI cJ l2 _) fw_1290 rfl rfl (List.mem_of_getElem? (i := 30) rfl) fw_191 fw_1289 (by decide +kernel : fb_hd yX11_signed 1) ⟨Nat.le_of_ble_eq_true rfl, Nat.le_of_ble_eq_true rfl⟩ [] (by decide) rfl rfl rfl (Nat.le_of_ble_eq_true rfl) ⟨Nat.zero_le _, Nat.zero_le _⟩ dX2_branch_89) ?_
  refine lv_iadd hx hb dX2_branch_92 ?_
  refine lv_sipush (v := (4095 : Int32)) hx hb dX2_branch_93 (by decide) ?_
  refine lv_iand hx hb dX2_branch_96 ?_
  refine fb_put X I (k := 9) (wn := (fb_mw cI zq (fb_sR (fb_sR zs 15 (((zs).1 15) + (1 : Int32))) 9 (((((fb_sR zs 15 (((zs).1 15) + (1 : Int32)))).1 9) + (f_X11_signed l2)) &&& (4095 : Int32))) zw)) fu_X2 tyX2 tyX2_ok nmX2 0 rfl rfl (Nat.le_of_ble_eq_true rfl) fw_533 rfl rfl rfl rfl rfl (Nat.le_of_ble_eq_true rfl) fb_ms9 dX2_branch_97 (fun H locs I => ?_)
  subst E
  exact fb_retV (u := (zw)) X I trivial dX2_branch_100
set_option maxHeartbeats 4000000 in
set_option maxRecDepth 100000 in
theorem b_X2_branch_53 {p : Program} {l : Launch} {e : Env} {s : State} {m : MethodId} {args : Array Value} {below : List Frame} {meth : Method} {c : Code} {D : va_G} {cI cJ : ClassId} {A : Nat → Prop} {zq : Nat → Nat} {z : fb_MS} (X : fb_Bx p s m args meth c cX2_branch RX2 5 none D (fb_ty D cI cJ) A) {zs : fb_MS} {zw : fb_AR} {l1 : Int32} {l2 : Int32} {l3 : Int32} {H : Heap} {locs : List Loc} {ls : Array Slot}  (I : fb_In D A s.heap ((fb_mw cI zq zs zw)) H locs) (hl : lv_has ls 5 [(0, .ref (zq 0)), (1, .int l1), (2, .int l2), (3, .int l3)]) (E : z = f_X2_branch_53 zs l1 l2 l3) : W p l e ({ frames := 3, cells := 0, slots := 0, locals := 64 } : Room) s m args below meth c H locs 0 0 (MQ below (fb_QV D A (fun (_ : fb_AR) => True) (fun (t : fb_AR) => (fb_mw cI zq (z) (t)))) args s 0 0 A) (F0 m 53 ls []) := by
  obtain ⟨hx, hb, hr, hml, hown, hts, hlk, hA, hK, hF⟩ := id X
  refine lv_iload_n hx hb dX2_branch_53 rfl (lv_at hl 1 rfl) ?_
  refine lv_sipush (v := (217 : Int32)) hx hb dX2_branch_54 (by decide) ?_
  refine lv_icmp_ne (tgt := 73) hx hb dX2_branch_57 (by decide) (fun c13 => ?_) (fun c13 => ?_)
  · have E14 := (E.trans (if_neg c13))
    exact b_X2_branch_73 X  (l2 := l2) I (lv_sub hl [0, 2] rfl) E14
  · have E15 := (E.trans (if_pos c13))
    refine lv_aload_n hx hb dX2_branch_60 rfl (lv_at hl 0 rfl) ?_
    refine lv_iload_n hx hb dX2_branch_61 rfl (lv_at hl 3 rfl) ?_
    refine fb_goV (wn := fun (w16 : fb_AR) => (fb_mw cI zq ((f_X2_beginCall zs l3)) (w16))) X I (fb_runV (As := [.int l3]) (rest := []) (q0 := 0) X I hl (c_X2_beginCall l D cI cJ zq zs zw l3 _) (fb_goodV fw_1202 fw_1204 fw_43 fw_198 fw_1205) rfl rfl rfl (by decide +kernel : fb_hd yX2_beginCall 1) ⟨Nat.le_of_ble_eq_true rfl, Nat.le_of_ble_eq_true rfl⟩ [0, 1, 2, 3, 4, 5, 6, 7] (by decide) rfl rfl rfl rfl rfl rfl (Nat.le_of_ble_eq_true rfl) ⟨Nat.zero_le _, Nat.zero_le _⟩ dX2_branch_62) [0, 1, 2, 3, 4, 5, 6, 7] [] [0, 1, 2, 3, 4, 5, 6, 7] rfl rfl (by decide) (by decide) (by decide) (fun _ => rfl) ?_
    intro w16 H locs _ I
    refine lv_aload_n hx hb dX2_branch_65 rfl (lv_at hl 0 rfl) ?_
    refine lv_aload_n hx hb dX2_branch_66 rfl (lv_at hl 0 rfl) ?_
    refine fb_get X I (k := 9) fu_X2 0 rfl rfl (Nat.le_of_ble_eq_true rfl) fw_533 rfl rfl dX2_branch_67 ?_
    refine fb_goV (wn := fun (w17 : fb_AR) => (fb_mw cI zq ((f_X2_pushAddress ((f_X2_beginCall zs l3)) ((((f_X2_beginCall zs l3))).1 9))) (w17))) X I (fb_runV (As := [.int ((((f_X2_beginCall zs l3))).1 9)]) (rest := []) (q0 := 0) X I hl (c_X2_pushAddress l D cI cJ zq ((f_X2_beginCall zs l3)) (w16) ((((f_X2_beginCall zs l3))).1 9) _) (fb_goodV fw_1284 fw_1286 fw_60 fw_198 fw_1287) rfl rfl rfl (by decide +kernel : fb_hd yX2_pushAddress 1) ⟨Nat.le_of_ble_eq_true rfl, Nat.le_of_ble_eq_true rfl⟩ [0, 1, 2, 3, 4, 5, 6, 7] (by decide) rfl rfl rfl rfl rfl rfl (Nat.le_of_ble_eq_true rfl) ⟨Nat.zero_le _, Nat.zero_le _⟩ dX2_branch_70) [0, 1, 2, 3, 4, 5, 6, 7] [] [0, 1, 2, 3, 4, 5, 6, 7] rfl rfl (by decide) (by decide) (by decide) (fun _ => rfl) ?_
    intro w17 H locs _ I
    exact b_X2_branch_73 X  (l2 := l2) I (lv_sub hl [0, 2] rfl) E15
set_option maxHeartbeats 4000000 in
set_option maxRecDepth 100000 in
theorem b_X2_branch_49 {p : Program} {l : Launch} {e : Env} {s : State} {m : MethodId} {args : Array Value} {below : List Frame} {meth : Method} {c : Code} {D : va_G} {cI cJ : ClassId} {A : Nat → Prop} {zq : Nat → Nat} {z : fb_MS} (X : fb_Bx p s m args meth c cX2_branch RX2 5 none D (fb_ty D cI cJ) A) {zs : fb_MS} {zw : fb_AR} {l1 : Int32} {l2 : Int32} {l3 : Int32} {k0 : Int32} {k1 : Int32} {H : Heap} {locs : List Loc} {ls : Array Slot}  (I : fb_In D A s.heap ((fb_mw cI zq zs zw)) H locs) (hl : lv_has ls 5 [(0, .ref (zq 0)), (1, .int l1), (2, .int l2), (3, .int l3)]) (E : z = f_X2_branch_49 zs l1 l2 l3 k0 k1) : W p l e ({ frames := 3, cells := 0, slots := 0, locals := 64 } : Room) s m args below meth c H locs 0 0 (MQ below (fb_QV D A (fun (_ : fb_AR) => True) (fun (t : fb_AR) => (fb_mw cI zq (z) (t)))) args s 0 0 A) (F0 m 49 ls [.int k0, .int k1]) := by
  obtain ⟨hx, hb, hr, hml, hown, hts, hlk, hA, hK, hF⟩ := id X
  refine lv_icmp_ne (tgt := 53) hx hb dX2_branch_49 (by decide) (fun c10 => ?_) (fun c10 => ?_)
  · have E11 := (E.trans (if_neg c10))
    exact b_X2_branch_53 X  (l1 := l1) (l2 := l2) (l3 := l3) I (lv_sub hl [0, 1, 2, 3] rfl) E11
  · have E12 := (E.trans (if_pos c10))
    subst E12
    exact fb_retV (u := (zw)) X I trivial dX2_branch_52
set_option maxHeartbeats 4000000 in
set_option maxRecDepth 100000 in
theorem b_X2_branch_33 {p : Program} {l : Launch} {e : Env} {s : State} {m : MethodId} {args : Array Value} {below : List Frame} {meth : Method} {c : Code} {D : va_G} {cI cJ : ClassId} {A : Nat → Prop} {zq : Nat → Nat} {z : fb_MS} (X : fb_Bx p s m args meth c cX2_branch RX2 5 none D (fb_ty D cI cJ) A) {zs : fb_MS} {zw : fb_AR} {l1 : Int32} {l2 : Int32} {l3 : Int32} {k0 : Int32} {H : Heap} {locs : List Loc} {ls : Array Slot}  (I : fb_In D A s.heap ((fb_mw cI zq zs zw)) H locs) (hl : lv_has ls 5 [(0, .ref (zq 0)), (1, .int l1), (2, .int l2), (3, .int l3)]) (E : z = f_X2_branch_33 zs l1 l2 l3 k0) : W p l e ({ frames := 3, cells := 0, slots := 0, locals := 64 } : Room) s m args below meth c H locs 0 0 (MQ below (fb_QV D A (fun (_ : fb_AR) => True) (fun (t : fb_AR) => (fb_mw cI zq (z) (t)))) args s 0 0 A) (F0 m 33 ls [.int k0]) := by
  obtain ⟨hx, hb, hr, hml, hown, hts, hlk, hA, hK, hF⟩ := id X
  refine lv_istore (lv' := [(4, .int k0), (0, .ref (zq 0)), (1, .int l1), (2, .int l2), (3, .int l3)]) hx hb dX2_branch_33 hl (by decide) rfl (fun ls hl => ?_)
  refine lv_iload hx hb dX2_branch_35 (lv_at hl 0 rfl) ?_
  refine lv_iload_n hx hb dX2_branch_37 rfl (lv_at hl 2 rfl) ?_
  refine lv_iconst (v := (1 : Int32)) hx hb dX2_branch_38 (by decide) ?_
  refine lv_iand hx hb dX2_branch_39 ?_
  refine lv_iconst (v := (1 : Int32)) hx hb dX2_branch_40 (by decide) ?_
  refine lv_icmp_ne (tgt := 48) hx hb dX2_branch_41 (by decide) (fun c7 => ?_) (fun c7 => ?_)
  · have E8 := (E.trans (if_neg c7))
    refine lv_iconst (v := (0 : Int32)) hx hb dX2_branch_48 (by decide) ?_
    exact b_X2_branch_49 X  (l1 := l1) (l2 := l2) (l3 := l3) (k0 := (0 : Int32)) (k1 := k0) I (lv_sub hl [1, 2, 3, 4] rfl) E8
  · have E9 := (E.trans (if_pos c7))
    refine lv_iconst (v := (1 : Int32)) hx hb dX2_branch_44 (by decide) ?_
    refine lv_goto (tgt := 49) hx hb dX2_branch_45 (by decide) ?_
    exact b_X2_branch_49 X  (l1 := l1) (l2 := l2) (l3 := l3) (k0 := (1 : Int32)) (k1 := k0) I (lv_sub hl [1, 2, 3, 4] rfl) E9
set_option maxHeartbeats 4000000 in
set_option maxRecDepth 100000 in
theorem b_X2_branch_0 {p : Program} {l : Launch} {e : Env} {s : State} {m : MethodId} {args : Array Value} {below : List Frame} {meth : Method} {c : Code} {D : va_G} {cI cJ : ClassId} {A : Nat → Prop} {zq : Nat → Nat} {z : fb_MS} (X : fb_Bx p s m args meth c cX2_branch RX2 5 none D (fb_ty D cI cJ) A) {zs : fb_MS} {zw : fb_AR} {l1 : Int32} {l2 : Int32} {l3 : Int32} {H : Heap} {locs : List Loc} {ls : Array Slot}  (I : fb_In D A s.heap ((fb_mw cI zq zs zw)) H locs) (hl : lv_has ls 5 [(0, .ref (zq 0)), (1, .int l1), (2, .int l2), (3, .int l3)]) (E : z = f_X2_branch zs l1 l2 l3) : W p l e ({ frames := 3, cells := 0, slots := 0, locals := 64 } : Room) s m args below meth c H locs 0 0 (MQ below (fb_QV D A (fun (_ : fb_AR) => True) (fun (t : fb_AR) => (fb_mw cI zq (z) (t)))) args s 0 0 A) (F0 m 0 ls []) := by
  obtain ⟨hx, hb, hr, hml, hown, hts, hlk, hA, hK, hF⟩ := id X
  refine lv_iload_n hx hb dX2_branch_0 rfl (lv_at hl 1 rfl) ?_
  refine lv_sipush (v := (216 : Int32)) hx hb dX2_branch_1 (by decide) ?_
  refine lv_icmp_ge (tgt := 53) hx hb dX2_branch_4 (by decide) (fun c1 => ?_) (fun c1 => ?_)
  · have E2 := (E.trans (if_pos c1))
    exact b_X2_branch_53 X  (l1 := l1) (l2 := l2) (l3 := l3) I (lv_sub hl [0, 1, 2, 3] rfl) E2
  · have E3 := (E.trans (if_neg c1))
    refine lv_aload_n hx hb dX2_branch_7 rfl (lv_at hl 0 rfl) ?_
    refine fb_get X I (k := 8) fu_X2 0 rfl rfl (Nat.le_of_ble_eq_true rfl) fw_530 rfl rfl dX2_branch_8 ?_
    obtain ⟨tS, zS1, zS2, _⟩ := hF
    refine va_getsN hx hb zS1 I.2.2 hown (va_Nw.use rfl hK.2.2.1) (fun _ h9 => h9) dX2_branch_11 ?_
    refine lv_iload_n hx hb dX2_branch_14 rfl (lv_at hl 1 rfl) ?_
    refine lv_sipush (v := (208 : Int32)) hx hb dX2_branch_15 (by decide) ?_
    refine lv_isub hx hb dX2_branch_18 ?_
    refine lv_iconst (v := (1 : Int32)) hx hb dX2_branch_19 (by decide) ?_
    refine lv_ishr hx hb dX2_branch_20 ?_
    refine fb_atS (rest := [.int ((zs).1 8)]) (i := ((l1 - (208 : Int32)) >>> ((1 : Int32) &&& 31))) X I hl zS2 (List.mem_of_getElem? (i := 9) rfl) (Nat.le_of_ble_eq_true rfl) ⟨Nat.le_of_ble_eq_true rfl, Nat.le_of_ble_eq_true rfl⟩ ⟨Nat.zero_le _, Nat.zero_le _⟩ dX2_branch_21 ?_
    refine lv_iand hx hb dX2_branch_24 ?_
    refine lv_if_eq (tgt := 32) hx hb dX2_branch_25 (by decide) (fun c4 => ?_) (fun c4 => ?_)
    · have E5 := (E3.trans (if_pos c4))
      refine lv_iconst (v := (0 : Int32)) hx hb dX2_branch_32 (by decide) ?_
      exact b_X2_branch_33 X  (l1 := l1) (l2 := l2) (l3 := l3) (k0 := (0 : Int32)) I (lv_sub hl [0, 1, 2, 3] rfl) E5
    · have E6 := (E3.trans (if_neg c4))
      refine lv_iconst (v := (1 : Int32)) hx hb dX2_branch_28 (by decide) ?_
      refine lv_goto (tgt := 33) hx hb dX2_branch_29 (by decide) ?_
      exact b_X2_branch_33 X  (l1 := l1) (l2 := l2) (l3 := l3) (k0 := (1 : Int32)) I (lv_sub hl [0, 1, 2, 3] rfl) E6
set_option maxHeartbeats 4000000 in
set_option maxRecDepth 100000 in
theorem c_X2_branch (l : Launch) (D : va_G) (cI cJ : ClassId) (zq : Nat → Nat) (zs : fb_MS) (zw : fb_AR) (l1 : Int32) (l2 : Int32) (l3 : Int32) (sz : Nat)  : Met l yX2_branch (Cond.code yX2_branch cX2_branch 5 none :: fb_all) ({ frames := 3, cells := 0, slots := 0, locals := 64 } : Room) (fb_PP D (fb_ty D cI cJ) [.ref (zq 0), .int l1, .int l2, .int l3] ((fb_mw cI zq zs zw)) sz) (fb_QV D (va_A ((fb_mw cI zq zs zw)) sz) (fun (_ : fb_AR) => True) (fun (t : fb_AR) => (fb_mw cI zq (((f_X2_branch zs l1 l2 l3))) (t)))) 0 0 (va_A ((fb_mw cI zq zs zw)) sz) := by
  refine fb_ent (Qf := fun A => (fb_QV D A (fun (_ : fb_AR) => True) (fun (t : fb_AR) => (fb_mw cI zq (((f_X2_branch zs l1 l2 l3))) (t))))) (by decide +kernel) (Nat.le_of_ble_eq_true rfl) ?_
  intro p e s m args below meth c A ls X I hl hin
  exact b_X2_branch_0 X  I hl rfl
/-! X2_jump -/
def f_X2_jump (zs : fb_MS) (l1 : Int32) (l2 : Int32) (l3 : Int32) : fb_MS := (if l1 = (25 : Int32) then (fb_sR ((f_X2_pushAddress ((f_X2_beginCall zs l3)) ((((f_X2_beginCall zs l3))).1 9))) 9 l2) else (fb_sR zs 9 l2))
set_option maxHeartbeats 4000000 in
set_option maxRecDepth 100000 in
theorem b_X2_jump_0 {p : Program} {l : Launch} {e : Env} {s : State} {m : MethodId} {args : Array Value} {below : List Frame} {meth : Method} {c : Code} {D : va_G} {cI cJ : ClassId} {A : Nat → Prop} {zq : Nat → Nat} {z : fb_MS} (X : fb_Bx p s m args meth c cX2_jump RX2 4 none D (fb_ty D cI cJ) A) {zs : fb_MS} {zw : fb_AR} {l1 : Int32} {l2 : Int32} {l3 : Int32} {H : Heap} {locs : List Loc} {ls : Array Slot}  (I : fb_In D A s.heap ((fb_mw cI zq zs zw)) H locs) (hl : lv_has ls 4 [(0, .ref (zq 0)), (1, .int l1), (2, .int l2), (3, .int l3)]) (E : z = f_X2_jump zs l1 l2 l3) : W p l e ({ frames := 3, cells := 0, slots := 0, locals := 64 } : Room) s m args below meth c H locs 0 0 (MQ below (fb_QV D A (fun (_ : fb_AR) => True) (fun (t : fb_AR) => (fb_mw cI zq (z) (t)))) args s 0 0 A) (F0 m 0 ls []) := by
  obtain ⟨hx, hb, hr, hml, hown, hts, hlk, hA, hK, hF⟩ := id X
  refine lv_iload_n hx hb dX2_jump_0 rfl (lv_at hl 1 rfl) ?_
  refine lv_bipush (v := (25 : Int32)) hx hb dX2_jump_1 (by decide) ?_
  refine lv_icmp_ne (tgt := 19) hx hb dX2_jump_3 (by decide) (fun c1 => ?_) (fun c1 => ?_)
  · have E2 := (E.trans (if_neg c1))
    refine lv_aload_n hx hb dX2_jump_19 rfl (lv_at hl 0 rfl) ?_
    refine lv_iload_n hx hb dX2_jump_20 rfl (lv_at hl 2 rfl) ?_
    refine fb_put X I (k := 9) (wn := (fb_mw cI zq (fb_sR zs 9 l2) zw)) fu_X2 tyX2 tyX2_ok nmX2 0 rfl rfl (Nat.le_of_ble_eq_true rfl) fw_533 rfl rfl rfl rfl rfl (Nat.le_of_ble_eq_true rfl) fb_ms9 dX2_jump_21 (fun H locs I => ?_)
    subst E2
    exact fb_retV (u := (zw)) X I trivial dX2_jump_24
  · have E3 := (E.trans (if_pos c1))
    refine lv_aload_n hx hb dX2_jump_6 rfl (lv_at hl 0 rfl) ?_
    refine lv_iload_n hx hb dX2_jump_7 rfl (lv_at hl 3 rfl) ?_
    refine fb_goV (wn := fun (w4 : fb_AR) => (fb_mw cI zq ((f_X2_beginCall zs l3)) (w4))) X I (fb_runV (As := [.int l3]) (rest := []) (q0 := 0) X I hl (c_X2_beginCall l D cI cJ zq zs zw l3 _) (fb_goodV fw_1202 fw_1204 fw_43 fw_198 fw_1205) rfl rfl rfl (by decide +kernel : fb_hd yX2_beginCall 1) ⟨Nat.le_of_ble_eq_true rfl, Nat.le_of_ble_eq_true rfl⟩ [0, 1, 2, 3, 4, 5, 6, 7] (by decide) rfl rfl rfl rfl rfl rfl (Nat.le_of_ble_eq_true rfl) ⟨Nat.zero_le _, Nat.zero_le _⟩ dX2_jump_8) [0, 1, 2, 3, 4, 5, 6, 7] [] [0, 1, 2, 3, 4, 5, 6, 7] rfl rfl (by decide) (by decide) (by decide) (fun _ => rfl) ?_
    intro w4 H locs _ I
    refine lv_aload_n hx hb dX2_jump_11 rfl (lv_at hl 0 rfl) ?_
    refine lv_aload_n hx hb dX2_jump_12 rfl (lv_at hl 0 rfl) ?_
    refine fb_get X I (k := 9) fu_X2 0 rfl rfl (Nat.le_of_ble_eq_true rfl) fw_533 rfl rfl dX2_jump_13 ?_
    refine fb_goV (wn := fun (w5 : fb_AR) => (fb_mw cI zq ((f_X2_pushAddress ((f_X2_beginCall zs l3)) ((((f_X2_beginCall zs l3))).1 9))) (w5))) X I (fb_runV (As := [.int ((((f_X2_beginCall zs l3))).1 9)]) (rest := []) (q0 := 0) X I hl (c_X2_pushAddress l D cI cJ zq ((f_X2_beginCall zs l3)) (w4) ((((f_X2_beginCall zs l3))).1 9) _) (fb_goodV fw_1284 fw_1286 fw_60 fw_198 fw_1287) rfl rfl rfl (by decide +kernel : fb_hd yX2_pushAddress 1) ⟨Nat.le_of_ble_eq_true rfl, Nat.le_of_ble_eq_true rfl⟩ [0, 1, 2, 3, 4, 5, 6, 7] (by decide) rfl rfl rfl rfl rfl rfl (Nat.le_of_ble_eq_true rfl) ⟨Nat.zero_le _, Nat.zero_le _⟩ dX2_jump_16) [0, 1, 2, 3, 4, 5, 6, 7] [] [0, 1, 2, 3, 4, 5, 6, 7] rfl rfl (by decide) (by decide) (by decide) (fun _ => rfl) ?_
    intro w5 H locs _ I
    refine lv_aload_n hx hb dX2_jump_19 rfl (lv_at hl 0 rfl) ?_
    refine lv_iload_n hx hb dX2_jump_20 rfl (lv_at hl 2 rfl) ?_
    refine fb_put X I (k := 9) (wn := (fb_mw cI zq (fb_sR ((f_X2_pushAddress ((f_X2_beginCall zs l3)) ((((f_X2_beginCall zs l3))).1 9))) 9 l2) (w5))) fu_X2 tyX2 tyX2_ok nmX2 0 rfl rfl (Nat.le_of_ble_eq_true rfl) fw_533 rfl rfl rfl rfl rfl (Nat.le_of_ble_eq_true rfl) fb_ms9 dX2_jump_21 (fun H locs I => ?_)
    subst E3
    exact fb_retV (u := ((w5))) X I trivial dX2_jump_24
set_option maxHeartbeats 4000000 in
set_option maxRecDepth 100000 in
theorem c_X2_jump (l : Launch) (D : va_G) (cI cJ : ClassId) (zq : Nat → Nat) (zs : fb_MS) (zw : fb_AR) (l1 : Int32) (l2 : Int32) (l3 : Int32) (sz : Nat)  : Met l yX2_jump (Cond.code yX2_jump cX2_jump 4 none :: fb_all) ({ frames := 3, cells := 0, slots := 0, locals := 64 } : Room) (fb_PP D (fb_ty D cI cJ) [.ref (zq 0), .int l1, .int l2, .int l3] ((fb_mw cI zq zs zw)) sz) (fb_QV D (va_A ((fb_mw cI zq zs zw)) sz) (fun (_ : fb_AR) => True) (fun (t : fb_AR) => (fb_mw cI zq (((f_X2_jump zs l1 l2 l3))) (t)))) 0 0 (va_A ((fb_mw cI zq zs zw)) sz) := by
  refine fb_ent (Qf := fun A => (fb_QV D A (fun (_ : fb_AR) => True) (fun (t : fb_AR) => (fb_mw cI zq (((f_X2_jump zs l1 l2 l3))) (t))))) (by decide +kernel) (Nat.le_of_ble_eq_true rfl) ?_
  intro p e s m args below meth c A ls X I hl hin
  exact b_X2_jump_0 X  I hl rfl
/-! X2_moded -/
def f_X2_moded_17 (zs : fb_MS) (l1 : Int32) (l2 : Int32) (l3 : Int32) (k0 : Int32) : fb_MS := (if l1 = (16 : Int32) then ((f_X2_write zs k0 ((zs).1 5))) else (if l1 = (17 : Int32) then ((f_X2_write zs k0 ((zs).1 6))) else (if l1 ≤ (17 : Int32) then (if l2 = (1 : Int32) then ((f_X2_operate zs l1 l3)) else ((f_X2_operate ((f_X2_read zs k0).2) l1 ((f_X2_read zs k0).1)))) else ((f_X2_write ((f_X2_changed ((f_X2_read zs k0).2) l1 ((f_X2_read zs k0).1)).2) k0 ((f_X2_changed ((f_X2_read zs k0).2) l1 ((f_X2_read zs k0).1)).1))))))
def f_X2_moded (zs : fb_MS) (l1 : Int32) (l2 : Int32) (l3 : Int32) (l4 : Int32) : fb_MS := (if l2 = (1 : Int32) then f_X2_moded_17 zs l1 l2 l3 (-1 : Int32) else f_X2_moded_17 ((f_X2_target zs l2 l3 l4).2) l1 l2 l3 ((f_X2_target zs l2 l3 l4).1))
set_option maxHeartbeats 4000000 in
set_option maxRecDepth 100000 in
theorem b_X2_moded_17 {p : Program} {l : Launch} {e : Env} {s : State} {m : MethodId} {args : Array Value} {below : List Frame} {meth : Method} {c : Code} {D : va_G} {cI cJ : ClassId} {A : Nat → Prop} {zq : Nat → Nat} {z : fb_MS} (X : fb_Bx p s m args meth c cX2_moded RX2 6 none D (fb_ty D cI cJ) A) {zs : fb_MS} {zw : fb_AR} {l1 : Int32} {l2 : Int32} {l3 : Int32} {k0 : Int32} {H : Heap} {locs : List Loc} {ls : Array Slot}  (I : fb_In D A s.heap ((fb_mw cI zq zs zw)) H locs) (hl : lv_has ls 6 [(0, .ref (zq 0)), (1, .int l1), (2, .int l2), (3, .int l3)]) (E : z = f_X2_moded_17 zs l1 l2 l3 k0) : W p l e ({ frames := 3, cells := 0, slots := 0, locals := 69 } : Room) s m args below meth c H locs 0 0 (MQ below (fb_QV D A (fun (_ : fb_AR) => True) (fun (t : fb_AR) => (fb_mw cI zq (z) (t)))) args s 0 0 A) (F0 m 17 ls [.int k0]) := by
  obtain ⟨hx, hb, hr, hml, hown, hts, hlk, hA, hK, hF⟩ := id X
  refine lv_istore (lv' := [(5, .int k0), (0, .ref (zq 0)), (1, .int l1), (2, .int l2), (3, .int l3)]) hx hb dX2_moded_17 hl (by decide) rfl (fun ls hl => ?_)
  refine lv_iload_n hx hb dX2_moded_19 rfl (lv_at hl 2 rfl) ?_
  refine lv_bipush (v := (16 : Int32)) hx hb dX2_moded_20 (by decide) ?_
  refine lv_icmp_ne (tgt := 38) hx hb dX2_moded_22 (by decide) (fun c6 => ?_) (fun c6 => ?_)
  · have E7 := (E.trans (if_neg c6))
    refine lv_iload_n hx hb dX2_moded_38 rfl (lv_at hl 2 rfl) ?_
    refine lv_bipush (v := (17 : Int32)) hx hb dX2_moded_39 (by decide) ?_
    refine lv_icmp_ne (tgt := 57) hx hb dX2_moded_41 (by decide) (fun c9 => ?_) (fun c9 => ?_)
    · have E10 := (E7.trans (if_neg c9))
      refine lv_iload_n hx hb dX2_moded_57 rfl (lv_at hl 2 rfl) ?_
      refine lv_bipush (v := (17 : Int32)) hx hb dX2_moded_58 (by decide) ?_
      refine lv_icmp_le (tgt := 83) hx hb dX2_moded_60 (by decide) (fun c12 => ?_) (fun c12 => ?_)
      · have E13 := (E10.trans (if_pos c12))
        refine lv_aload_n hx hb dX2_moded_83 rfl (lv_at hl 1 rfl) ?_
        refine lv_iload_n hx hb dX2_moded_84 rfl (lv_at hl 2 rfl) ?_
        refine lv_iload_n hx hb dX2_moded_85 rfl (lv_at hl 3 rfl) ?_
        refine lv_iconst (v := (1 : Int32)) hx hb dX2_moded_86 (by decide) ?_
        refine lv_icmp_ne (tgt := 94) hx hb dX2_moded_87 (by decide) (fun c15 => ?_) (fun c15 => ?_)
        · have E16 := (E13.trans (if_neg c15))
          refine lv_aload_n hx hb dX2_moded_94 rfl (lv_at hl 1 rfl) ?_
          refine lv_iload hx hb dX2_moded_95 (lv_at hl 0 rfl) ?_
          refine fb_goI (wn := fun (w18 : fb_AR) => (fb_mw cI zq ((f_X2_read zs k0).2) (w18))) X I (fb_runV (As := [.int k0]) (rest := [.int l1, .ref (zq 0)]) (q0 := 0) X I hl (c_X2_read l D cI cJ zq zs zw k0 _) (fb_goodV fw_1332 fw_1334 fw_69 fw_198 fw_1335) rfl rfl rfl (by decide +kernel : fb_hd yX2_read 1) ⟨Nat.le_of_ble_eq_true rfl, Nat.le_of_ble_eq_true rfl⟩ [0, 1, 2, 3, 4, 5, 6, 7] (by decide) rfl rfl rfl rfl rfl rfl (Nat.le_of_ble_eq_true rfl) ⟨Nat.zero_le _, Nat.zero_le _⟩ dX2_moded_97) [0, 1, 2, 3, 4, 5, 6, 7] [] [0, 1, 2, 3, 4, 5, 6, 7] rfl rfl (by decide) (by decide) (by decide) (fun _ => rfl) ?_
          intro r19 w18 H locs e0 I
          subst e0
          refine fb_goV (wn := fun (w20 : fb_AR) => (fb_mw cI zq ((f_X2_operate ((f_X2_read zs k0).2) l1 ((f_X2_read zs k0).1))) (w20))) X I (fb_runV (As := [.int l1, .int ((f_X2_read zs k0).1)]) (rest := []) (q0 := 0) X I hl (c_X2_operate l D cI cJ zq ((f_X2_read zs k0).2) (w18) l1 ((f_X2_read zs k0).1) _) (fb_goodV fw_1353 fw_1355 fw_73 fw_198 fw_1356) rfl rfl rfl (by decide +kernel : fb_hd yX2_operate 2) ⟨Nat.le_of_ble_eq_true rfl, Nat.le_of_ble_eq_true rfl⟩ [0, 1, 2, 3, 4, 5, 6, 7] (by decide) rfl rfl rfl rfl rfl rfl (Nat.le_of_ble_eq_true rfl) ⟨Nat.zero_le _, Nat.zero_le _⟩ dX2_moded_100) [0, 1, 2, 3, 4, 5, 6, 7] [] [0, 1, 2, 3, 4, 5, 6, 7] rfl rfl (by decide) (by decide) (by decide) (fun _ => rfl) ?_
          intro w20 H locs _ I
          subst E16
          exact fb_retV (u := ((w20))) X I trivial dX2_moded_103
        · have E17 := (E13.trans (if_pos c15))
          refine lv_iload_n hx hb dX2_moded_90 rfl (lv_at hl 4 rfl) ?_
          refine lv_goto (tgt := 100) hx hb dX2_moded_91 (by decide) ?_
          refine fb_goV (wn := fun (w21 : fb_AR) => (fb_mw cI zq ((f_X2_operate zs l1 l3)) (w21))) X I (fb_runV (As := [.int l1, .int l3]) (rest := []) (q0 := 0) X I hl (c_X2_operate l D cI cJ zq zs zw l1 l3 _) (fb_goodV fw_1353 fw_1355 fw_73 fw_198 fw_1356) rfl rfl rfl (by decide +kernel : fb_hd yX2_operate 2) ⟨Nat.le_of_ble_eq_true rfl, Nat.le_of_ble_eq_true rfl⟩ [0, 1, 2, 3, 4, 5, 6, 7] (by decide) rfl rfl rfl rfl rfl rfl (Nat.le_of_ble_eq_true rfl) ⟨Nat.zero_le _, Nat.zero_le _⟩ dX2_moded_100) [0, 1, 2, 3, 4, 5, 6, 7] [] [0, 1, 2, 3, 4, 5, 6, 7] rfl rfl (by decide) (by decide) (by decide) (fun _ => rfl) ?_
          intro w21 H locs _ I
          subst E17
          exact fb_retV (u := ((w21))) X I trivial dX2_moded_103
      · have E14 := (E10.trans (if_neg c12))
        refine lv_aload_n hx hb dX2_moded_63 rfl (lv_at hl 1 rfl) ?_
        refine lv_iload hx hb dX2_moded_64 (lv_at hl 0 rfl) ?_
        refine lv_aload_n hx hb dX2_moded_66 rfl (lv_at hl 1 rfl) ?_
        refine lv_iload_n hx hb dX2_moded_67 rfl (lv_at hl 2 rfl) ?_
        refine lv_aload_n hx hb dX2_moded_68 rfl (lv_at hl 1 rfl) ?_
        refine lv_iload hx hb dX2_moded_69 (lv_at hl 0 rfl) ?_
        refine fb_goI (wn := fun (w22 : fb_AR) => (fb_mw cI zq ((f_X2_read zs k0).2) (w22))) X I (fb_runV (As := [.int k0]) (rest := [.int l1, .ref (zq 0), .int k0, .ref (zq 0)]) (q0 := 0) X I hl (c_X2_read l D cI cJ zq zs zw k0 _) (fb_goodV fw_1332 fw_1334 fw_69 fw_198 fw_1335) rfl rfl rfl (by decide +kernel : fb_hd yX2_read 1) ⟨Nat.le_of_ble_eq_true rfl, Nat.le_of_ble_eq_true rfl⟩ [0, 1, 2, 3, 4, 5, 6, 7] (by decide) rfl rfl rfl rfl rfl rfl (Nat.le_of_ble_eq_true rfl) ⟨Nat.zero_le _, Nat.zero_le _⟩ dX2_moded_71) [0, 1, 2, 3, 4, 5, 6, 7] [] [0, 1, 2, 3, 4, 5, 6, 7] rfl rfl (by decide) (by decide) (by decide) (fun _ => rfl) ?_
        intro r23 w22 H locs e0 I
        subst e0
        refine fb_goI (wn := fun (w24 : fb_AR) => (fb_mw cI zq ((f_X2_changed ((f_X2_read zs k0).2) l1 ((f_X2_read zs k0).1)).2) (w24))) X I (fb_runV (As := [.int l1, .int ((f_X2_read zs k0).1)]) (rest := [.int k0, .ref (zq 0)]) (q0 := 0) X I hl (c_X2_changed l D cI cJ zq ((f_X2_read zs k0).2) (w22) l1 ((f_X2_read zs k0).1) _) (fb_goodV fw_1349 fw_1351 fw_72 fw_198 fw_1352) rfl rfl rfl (by decide +kernel : fb_hd yX2_changed 2) ⟨Nat.le_of_ble_eq_true rfl, Nat.le_of_ble_eq_true rfl⟩ [0, 1, 2, 3, 4, 5, 6, 7] (by decide) rfl rfl rfl rfl rfl rfl (Nat.le_of_ble_eq_true rfl) ⟨Nat.zero_le _, Nat.zero_le _⟩ dX2_moded_74) [0, 1, 2, 3, 4, 5, 6, 7] [] [0, 1, 2, 3, 4, 5, 6, 7] rfl rfl (by decide) (by decide) (by decide) (fun _ => rfl) ?_
        intro r25 w24 H locs e0 I
        subst e0
        refine fb_goV (wn := fun (w26 : fb_AR) => (fb_mw cI zq ((f_X2_write ((f_X2_changed ((f_X2_read zs k0).2) l1 ((f_X2_read zs k0).1)).2) k0 ((f_X2_changed ((f_X2_read zs k0).2) l1 ((f_X2_read zs k0).1)).1))) (w26))) X I (fb_runV (As := [.int k0, .int ((f_X2_changed ((f_X2_read zs k0).2) l1 ((f_X2_read zs k0).1)).1)]) (rest := []) (q0 := 0) X I hl (c_X2_write l D cI cJ zq ((f_X2_changed ((f_X2_read zs k0).2) l1 ((f_X2_read zs k0).1)).2) (w24) k0 ((f_X2_changed ((f_X2_read zs k0).2) l1 ((f_X2_read zs k0).1)).1) _) (fb_goodV fw_1303 fw_1305 fw_64 fw_198 fw_1306) rfl rfl rfl (by decide +kernel : fb_hd yX2_write 2) ⟨Nat.le_of_ble_eq_true rfl, Nat.le_of_ble_eq_true rfl⟩ [0, 1, 2, 3, 4, 5, 6, 7] (by decide) rfl rfl rfl rfl rfl rfl (Nat.le_of_ble_eq_true rfl) ⟨Nat.zero_le _, Nat.zero_le _⟩ dX2_moded_77) [0, 1, 2, 3, 4, 5, 6, 7] [] [0, 1, 2, 3, 4, 5, 6, 7] rfl rfl (by decide) (by decide) (by decide) (fun _ => rfl) ?_
        intro w26 H locs _ I
        refine lv_goto (tgt := 103) hx hb dX2_moded_80 (by decide) ?_
        subst E14
        exact fb_retV (u := ((w26))) X I trivial dX2_moded_103
    · have E11 := (E7.trans (if_pos c9))
      refine lv_aload_n hx hb dX2_moded_44 rfl (lv_at hl 1 rfl) ?_
      refine lv_iload hx hb dX2_moded_45 (lv_at hl 0 rfl) ?_
      refine lv_aload_n hx hb dX2_moded_47 rfl (lv_at hl 1 rfl) ?_
      refine fb_get X I (k := 6) fu_X2 0 rfl rfl (Nat.le_of_ble_eq_true rfl) fw_526 rfl rfl dX2_moded_48 ?_
      refine fb_goV (wn := fun (w27 : fb_AR) => (fb_mw cI zq ((f_X2_write zs k0 ((zs).1 6))) (w27))) X I (fb_runV (As := [.int k0, .int ((zs).1 6)]) (rest := []) (q0 := 0) X I hl (c_X2_write l D cI cJ zq zs zw k0 ((zs).1 6) _) (fb_goodV fw_1303 fw_1305 fw_64 fw_198 fw_1306) rfl rfl rfl (by decide +kernel : fb_hd yX2_write 2) ⟨Nat.le_of_ble_eq_true rfl, Nat.le_of_ble_eq_true rfl⟩ [0, 1, 2, 3, 4, 5, 6, 7] (by decide) rfl rfl rfl rfl rfl rfl (Nat.le_of_ble_eq_true rfl) ⟨Nat.zero_le _, Nat.zero_le _⟩ dX2_moded_51) [0, 1, 2, 3, 4, 5, 6, 7] [] [0, 1, 2, 3, 4, 5, 6, 7] rfl rfl (by decide) (by decide) (by decide) (fun _ => rfl) ?_
      intro w27 H locs _ I
      refine lv_goto (tgt := 103) hx hb dX2_moded_54 (by decide) ?_
      subst E11
      exact fb_retV (u := ((w27))) X I trivial dX2_moded_103
  · have E8 := (E.trans (if_pos c6))
    refine lv_aload_n hx hb dX2_moded_25 rfl (lv_at hl 1 rfl) ?_
    refine lv_iload hx hb dX2_moded_26 (lv_at hl 0 rfl) ?_
    refine lv_aload_n hx hb dX2_moded_28 rfl (lv_at hl 1 rfl) ?_
    refine fb_get X I (k := 5) fu_X2 0 rfl rfl (Nat.le_of_ble_eq_true rfl) fw_524 rfl rfl dX2_moded_29 ?_
    refine fb_goV (wn := fun (w28 : fb_AR) => (fb_mw cI zq ((f_X2_write zs k0 ((zs).1 5))) (w28))) X I (fb_runV (As := [.int k0, .int ((zs).1 5)]) (rest := []) (q0 := 0) X I hl (c_X2_write l D cI cJ zq zs zw k0 ((zs).1 5) _) (fb_goodV fw_1303 fw_1305 fw_64 fw_198 fw_1306) rfl rfl rfl (by decide +kernel : fb_hd yX2_write 2) ⟨Nat.le_of_ble_eq_true rfl, Nat.le_of_ble_eq_true rfl⟩ [0, 1, 2, 3, 4, 5, 6, 7] (by decide) rfl rfl rfl rfl rfl rfl (Nat.le_of_ble_eq_true rfl) ⟨Nat.zero_le _, Nat.zero_le _⟩ dX2_moded_32) [0, 1, 2, 3, 4, 5, 6, 7] [] [0, 1, 2, 3, 4, 5, 6, 7] rfl rfl (by decide) (by decide) (by decide) (fun _ => rfl) ?_
    intro w28 H locs _ I
    refine lv_goto (tgt := 103) hx hb dX2_moded_35 (by decide) ?_
    subst E8
    exact fb_retV (u := ((w28))) X I trivial dX2_moded_103
set_option maxHeartbeats 4000000 in
set_option maxRecDepth 100000 in
theorem b_X2_moded_0 {p : Program} {l : Launch} {e : Env} {s : State} {m : MethodId} {args : Array Value} {below : List Frame} {meth : Method} {c : Code} {D : va_G} {cI cJ : ClassId} {A : Nat → Prop} {zq : Nat → Nat} {z : fb_MS} (X : fb_Bx p s m args meth c cX2_moded RX2 6 none D (fb_ty D cI cJ) A) {zs : fb_MS} {zw : fb_AR} {l1 : Int32} {l2 : Int32} {l3 : Int32} {l4 : Int32} {H : Heap} {locs : List Loc} {ls : Array Slot}  (I : fb_In D A s.heap ((fb_mw cI zq zs zw)) H locs) (hl : lv_has ls 6 [(0, .ref (zq 0)), (1, .int l1), (2, .int l2), (3, .int l3), (4, .int l4)]) (E : z = f_X2_moded zs l1 l2 l3 l4) : W p l e ({ frames := 3, cells := 0, slots := 0, locals := 69 } : Room) s m args below meth c H locs 0 0 (MQ below (fb_QV D A (fun (_ : fb_AR) => True) (fun (t : fb_AR) => (fb_mw cI zq (z) (t)))) args s 0 0 A) (F0 m 0 ls []) := by
  obtain ⟨hx, hb, hr, hml, hown, hts, hlk, hA, hK, hF⟩ := id X
  refine lv_iload_n hx hb dX2_moded_0 rfl (lv_at hl 2 rfl) ?_
  refine lv_iconst (v := (1 : Int32)) hx hb dX2_moded_1 (by decide) ?_
  refine lv_icmp_ne (tgt := 9) hx hb dX2_moded_2 (by decide) (fun c1 => ?_) (fun c1 => ?_)
  · have E2 := (E.trans (if_neg c1))
    refine lv_aload_n hx hb dX2_moded_9 rfl (lv_at hl 0 rfl) ?_
    refine lv_iload_n hx hb dX2_moded_10 rfl (lv_at hl 2 rfl) ?_
    refine lv_iload_n hx hb dX2_moded_11 rfl (lv_at hl 3 rfl) ?_
    refine lv_iload hx hb dX2_moded_12 (lv_at hl 4 rfl) ?_
    refine fb_goI (wn := fun (w4 : fb_AR) => (fb_mw cI zq ((f_X2_target zs l2 l3 l4).2) (w4))) X I (fb_runV (As := [.int l2, .int l3, .int l4]) (rest := []) (q0 := 0) X I hl (c_X2_target l D cI cJ zq zs zw l2 l3 l4 _) (fb_goodV fw_1291 fw_1293 fw_61 fw_198 fw_1294) rfl rfl rfl (by decide +kernel : fb_hd yX2_target 3) ⟨Nat.le_of_ble_eq_true rfl, Nat.le_of_ble_eq_true rfl⟩ [0, 1, 2, 3, 4, 5, 6, 7] (by decide) rfl rfl rfl rfl rfl rfl (Nat.le_of_ble_eq_true rfl) ⟨Nat.zero_le _, Nat.zero_le _⟩ dX2_moded_14) [0, 1, 2, 3, 4, 5, 6, 7] [] [0, 1, 2, 3, 4, 5, 6, 7] rfl rfl (by decide) (by decide) (by decide) (fun _ => rfl) ?_
    intro r5 w4 H locs e0 I
    subst e0
    exact b_X2_moded_17 X  (l1 := l1) (l2 := l2) (l3 := l3) (k0 := ((f_X2_target zs l2 l3 l4).1)) I (lv_sub hl [0, 1, 2, 3] rfl) E2
  · have E3 := (E.trans (if_pos c1))
    refine lv_iconst (v := (-1 : Int32)) hx hb dX2_moded_5 (by decide) ?_
    refine lv_goto (tgt := 17) hx hb dX2_moded_6 (by decide) ?_
    exact b_X2_moded_17 X  (l1 := l1) (l2 := l2) (l3 := l3) (k0 := (-1 : Int32)) I (lv_sub hl [0, 1, 2, 3] rfl) E3
set_option maxHeartbeats 4000000 in
set_option maxRecDepth 100000 in
theorem c_X2_moded (l : Launch) (D : va_G) (cI cJ : ClassId) (zq : Nat → Nat) (zs : fb_MS) (zw : fb_AR) (l1 : Int32) (l2 : Int32) (l3 : Int32) (l4 : Int32) (sz : Nat)  : Met l yX2_moded (Cond.code yX2_moded cX2_moded 6 none :: fb_all) ({ frames := 3, cells := 0, slots := 0, locals := 69 } : Room) (fb_PP D (fb_ty D cI cJ) [.ref (zq 0), .int l1, .int l2, .int l3, .int l4] ((fb_mw cI zq zs zw)) sz) (fb_QV D (va_A ((fb_mw cI zq zs zw)) sz) (fun (_ : fb_AR) => True) (fun (t : fb_AR) => (fb_mw cI zq (((f_X2_moded zs l1 l2 l3 l4))) (t)))) 0 0 (va_A ((fb_mw cI zq zs zw)) sz) := by
  refine fb_ent (Qf := fun A => (fb_QV D A (fun (_ : fb_AR) => True) (fun (t : fb_AR) => (fb_mw cI zq (((f_X2_moded zs l1 l2 l3 l4))) (t))))) (by decide +kernel) (Nat.le_of_ble_eq_true rfl) ?_
  intro p e s m args below meth c A ls X I hl hin
  exact b_X2_moded_0 X  I hl rfl
/-! X2_copy -/
def f_X2_copy_2  : Nat → fb_MS → Int32 → Int32 → fb_MS
  | 0, zs, _, _ => zs
  | n + 1, zs, l1, l2 => (if l1 ≤ l2 then (fb_sP (fb_sR zs 15 (((zs).1 15) + ((2 : Int32) * l1))) (fb_pR ((fb_sR zs 15 (((zs).1 15) + ((2 : Int32) * l1)))).2.2.2.2.2 4 (((((fb_sR zs 15 (((zs).1 15) + ((2 : Int32) * l1)))).2.2.2.2.2).1 4) ||| (8 : Int32)))) else f_X2_copy_2 n ((f_X2_store zs (((((zs).2.2.2.2.2).1 12) + l2) &&& (4095 : Int32)) (f_X2_shown zs ((((zs).2.2.2.2.2).1 11) + l2)))) l1 (l2 + (1 : Int32)))
def f_X2_copy (zs : fb_MS) (l1 : Int32) : fb_MS := f_X2_copy_2 ((fb_mu (0 : Int32) l1) + 1) zs l1 (0 : Int32)
set_option maxHeartbeats 4000000 in
set_option maxRecDepth 100000 in
theorem b_X2_copy_2 {p : Program} {l : Launch} {e : Env} {s : State} {m : MethodId} {args : Array Value} {below : List Frame} {meth : Method} {c : Code} {D : va_G} {cI cJ : ClassId} {A : Nat → Prop} {zq : Nat → Nat} {z : fb_MS} (X : fb_Bx p s m args meth c cX2_copy RX2 3 none D (fb_ty D cI cJ) A)  : ∀ (n : Nat) {zs : fb_MS} {zw : fb_AR} {l1 : Int32} {l2 : Int32} {H : Heap} {locs : List Loc} {ls : Array Slot} (hm : (fb_mu l2 l1) < n) (I : fb_In D A s.heap ((fb_mw cI zq zs zw)) H locs) (hl : lv_has ls 3 [(0, .ref (zq 0)), (1, .int l1), (2, .int l2)]) (E : z = f_X2_copy_2 n zs l1 l2), W p l e ({ frames := 2, cells := 0, slots := 0, locals := 45 } : Room) s m args below meth c H locs 0 0 (MQ below (fb_QV D A (fun (_ : fb_AR) => True) (fun (t : fb_AR) => (fb_mw cI zq (z) (t)))) args s 0 0 A) (F0 m 2 ls []) := by
  intro n
  obtain ⟨hx, hb, hr, hml, hown, hts, hlk, hA, hK, hF⟩ := id X
  induction n with
  | zero =>
    intro zs zw l1 l2 H locs ls hm
    exact absurd hm (Nat.not_lt_zero _)
  | succ n ih =>
    intro zs zw l1 l2 H locs ls hm I hl E
    refine lv_iload_n hx hb dX2_copy_2 rfl (lv_at hl 2 rfl) ?_
    refine lv_iload_n hx hb dX2_copy_3 rfl (lv_at hl 1 rfl) ?_
    refine lv_icmp_ge (tgt := 43) hx hb dX2_copy_4 (by decide) (fun c1 => ?_) (fun c1 => ?_)
    · have E2 := (E.trans (if_pos c1))
      refine lv_aload_n hx hb dX2_copy_43 rfl (lv_at hl 0 rfl) ?_
      refine lv_dup hx hb dX2_copy_44 rfl ?_
      refine fb_get X I (k := 15) fu_X2 0 rfl rfl (Nat.le_of_ble_eq_true rfl) fw_545 rfl rfl dX2_copy_45 ?_
      refine lv_iconst (v := (2 : Int32)) hx hb dX2_copy_48 (by decide) ?_
      refine lv_iload_n hx hb dX2_copy_49 rfl (lv_at hl 1 rfl) ?_
      refine lv_imul hx hb dX2_copy_50 ?_
      refine lv_iadd hx hb dX2_copy_51 ?_
      refine fb_put X I (k := 15) (wn := (fb_mw cI zq (fb_sR zs 15 (((zs).1 15) + ((2 : Int32) * l1))) zw)) fu_X2 tyX2 tyX2_ok nmX2 0 rfl rfl (Nat.le_of_ble_eq_true rfl) fw_545 rfl rfl rfl rfl rfl (Nat.le_of_ble_eq_true rfl) fb_ms15 dX2_copy_52 (fun H locs I => ?_)
      refine lv_aload_n hx hb dX2_copy_55 rfl (lv_at hl 0 rfl) ?_
      refine fb_get X I (k := 4) fu_X2 0 rfl rfl (Nat.le_of_ble_eq_true rfl) fw_522 rfl rfl dX2_copy_56 ?_
      refine lv_dup hx hb dX2_copy_59 rfl ?_
      refine fb_get X I (k := 4) fu_X5 5 rfl rfl (Nat.le_of_ble_eq_true rfl) fw_469 rfl rfl dX2_copy_60 ?_
      refine lv_bipush (v := (8 : Int32)) hx hb dX2_copy_63 (by decide) ?_
      refine lv_ior hx hb dX2_copy_65 ?_
      refine fb_put X I (k := 4) (wn := (fb_mw cI zq (fb_sP (fb_sR zs 15 (((zs).1 15) + ((2 : Int32) * l1))) (fb_pR ((fb_sR zs 15 (((zs).1 15) + ((2 : Int32) * l1)))).2.2.2.2.2 4 (((((fb_sR zs 15 (((zs).1 15) + ((2 : Int32) * l1)))).2.2.2.2.2).1 4) ||| (8 : Int32)))) zw)) fu_X5 tyX5 tyX5_ok nmX5 5 rfl rfl (Nat.le_of_ble_eq_true rfl) fw_469 rfl rfl rfl rfl rfl (Nat.le_of_ble_eq_true rfl) fb_mp4 dX2_copy_66 (fun H locs I => ?_)
      subst E2
      exact fb_retV (u := (zw)) X I trivial dX2_copy_69
    · have E3 := (E.trans (if_neg c1))
      refine lv_aload_n hx hb dX2_copy_7 rfl (lv_at hl 0 rfl) ?_
      refine lv_aload_n hx hb dX2_copy_8 rfl (lv_at hl 0 rfl) ?_
      refine fb_get X I (k := 4) fu_X2 0 rfl rfl (Nat.le_of_ble_eq_true rfl) fw_522 rfl rfl dX2_copy_9 ?_
      refine fb_get X I (k := 12) fu_X5 5 rfl rfl (Nat.le_of_ble_eq_true rfl) fw_482 rfl rfl dX2_copy_12 ?_
      refine lv_iload_n hx hb dX2_copy_15 rfl (lv_at hl 2 rfl) ?_
      refine lv_iadd hx hb dX2_copy_16 ?_
      refine lv_sipush (v := (4095 : Int32)) hx hb dX2_copy_17 (by decide) ?_
      refine lv_iand hx hb dX2_copy_20 ?_
      refine lv_aload_n hx hb dX2_copy_21 rfl (lv_at hl 0 rfl) ?_
      refine lv_aload_n hx hb dX2_copy_22 rfl (lv_at hl 0 rfl) ?_
      refine fb_get X I (k := 4) fu_X2 0 rfl rfl (Nat.le_of_ble_eq_true rfl) fw_522 rfl rfl dX2_copy_23 ?_
      refine fb_get X I (k := 11) fu_X5 5 rfl rfl (Nat.le_of_ble_eq_true rfl) fw_480 rfl rfl dX2_copy_26 ?_
      refine lv_iload_n hx hb dX2_copy_29 rfl (lv_at hl 2 rfl) ?_
      refine lv_iadd hx hb dX2_copy_30 ?_
      refine fb_roI X I (fb_runV (As := [.int ((((zs).2.2.2.2.2).1 11) + l2)]) (rest := [.int (((((zs).2.2.2.2.2).1 12) + l2) &&& (4095 : Int32)), .ref (zq 0)]) (q0 := 0) X I hl (c_X2_shown l D cI cJ zq zs zw ((((zs).2.2.2.2.2).1 11) + l2) _) (fb_goodV fw_1224 fw_1225 fw_1226 fw_198 fw_1227) rfl rfl rfl (by decide +kernel : fb_hd yX2_shown 1) ⟨Nat.le_of_ble_eq_true rfl, Nat.le_of_ble_eq_true rfl⟩ [0, 1, 2, 3, 4, 5, 6, 7] (by decide) rfl rfl rfl rfl rfl rfl (Nat.le_of_ble_eq_true rfl) ⟨Nat.zero_le _, Nat.zero_le _⟩ dX2_copy_31) ?_
      refine fb_goV (wn := fun (w4 : fb_AR) => (fb_mw cI zq ((f_X2_store zs (((((zs).2.2.2.2.2).1 12) + l2) &&& (4095 : Int32)) (f_X2_shown zs ((((zs).2.2.2.2.2).1 11) + l2)))) (w4))) X I (fb_runV (As := [.int (((((zs).2.2.2.2.2).1 12) + l2) &&& (4095 : Int32)), .int (f_X2_shown zs ((((zs).2.2.2.2.2).1 11) + l2))]) (rest := []) (q0 := 0) X I hl (c_X2_store l D cI cJ zq zs zw (((((zs).2.2.2.2.2).1 12) + l2) &&& (4095 : Int32)) (f_X2_shown zs ((((zs).2.2.2.2.2).1 11) + l2)) _) (fb_goodV fw_1328 fw_1330 fw_68 fw_198 fw_1331) rfl rfl rfl (by decide +kernel : fb_hd yX2_store 2) ⟨Nat.le_of_ble_eq_true rfl, Nat.le_of_ble_eq_true rfl⟩ [0, 1, 2, 3, 4, 5, 6, 7] (by decide) rfl rfl rfl rfl rfl rfl (Nat.le_of_ble_eq_true rfl) ⟨Nat.zero_le _, Nat.zero_le _⟩ dX2_copy_34) [0, 1, 2, 3, 4, 5, 6, 7] [] [0, 1, 2, 3, 4, 5, 6, 7] rfl rfl (by decide) (by decide) (by decide) (fun _ => rfl) ?_
      intro w4 H locs _ I
      refine lv_iinc (v := (l2 + (1 : Int32))) (lv' := [(2, .int (l2 + (1 : Int32))), (0, .ref (zq 0)), (1, .int l1)]) hx hb dX2_copy_37 hl (k := 2) rfl rfl (by decide) rfl (fun ls hl => ?_)
      refine lv_goto (tgt := 2) hx hb dX2_copy_40 (by decide) ?_
      exact ih (l1 := l1) (l2 := (l2 + (1 : Int32))) (fb_mu_ge c1 hm)  I (lv_sub hl [1, 2, 0] rfl) E3
set_option maxHeartbeats 4000000 in
set_option maxRecDepth 100000 in
theorem b_X2_copy_0 {p : Program} {l : Launch} {e : Env} {s : State} {m : MethodId} {args : Array Value} {below : List Frame} {meth : Method} {c : Code} {D : va_G} {cI cJ : ClassId} {A : Nat → Prop} {zq : Nat → Nat} {z : fb_MS} (X : fb_Bx p s m args meth c cX2_copy RX2 3 none D (fb_ty D cI cJ) A) {zs : fb_MS} {zw : fb_AR} {l1 : Int32} {H : Heap} {locs : List Loc} {ls : Array Slot}  (I : fb_In D A s.heap ((fb_mw cI zq zs zw)) H locs) (hl : lv_has ls 3 [(0, .ref (zq 0)), (1, .int l1)]) (E : z = f_X2_copy zs l1) : W p l e ({ frames := 2, cells := 0, slots := 0, locals := 45 } : Room) s m args below meth c H locs 0 0 (MQ below (fb_QV D A (fun (_ : fb_AR) => True) (fun (t : fb_AR) => (fb_mw cI zq (z) (t)))) args s 0 0 A) (F0 m 0 ls []) := by
  obtain ⟨hx, hb, hr, hml, hown, hts, hlk, hA, hK, hF⟩ := id X
  refine lv_iconst (v := (0 : Int32)) hx hb dX2_copy_0 (by decide) ?_
  refine lv_istore_n (lv' := [(2, .int (0 : Int32)), (0, .ref (zq 0)), (1, .int l1)]) hx hb dX2_copy_1 rfl hl (by decide) rfl (fun ls hl => ?_)
  exact b_X2_copy_2 X  ((fb_mu (0 : Int32) l1) + 1) (l1 := l1) (l2 := (0 : Int32)) (Nat.lt_succ_self _)  I (lv_sub hl [1, 2, 0] rfl) E
set_option maxHeartbeats 4000000 in
set_option maxRecDepth 100000 in
theorem c_X2_copy (l : Launch) (D : va_G) (cI cJ : ClassId) (zq : Nat → Nat) (zs : fb_MS) (zw : fb_AR) (l1 : Int32) (sz : Nat)  : Met l yX2_copy (Cond.code yX2_copy cX2_copy 3 none :: fb_all) ({ frames := 2, cells := 0, slots := 0, locals := 45 } : Room) (fb_PP D (fb_ty D cI cJ) [.ref (zq 0), .int l1] ((fb_mw cI zq zs zw)) sz) (fb_QV D (va_A ((fb_mw cI zq zs zw)) sz) (fun (_ : fb_AR) => True) (fun (t : fb_AR) => (fb_mw cI zq (((f_X2_copy zs l1))) (t)))) 0 0 (va_A ((fb_mw cI zq zs zw)) sz) := by
  refine fb_ent (Qf := fun A => (fb_QV D A (fun (_ : fb_AR) => True) (fun (t : fb_AR) => (fb_mw cI zq (((f_X2_copy zs l1))) (t))))) (by decide +kernel) (Nat.le_of_ble_eq_true rfl) ?_
  intro p e s m args below meth c A ls X I hl hin
  exact b_X2_copy_0 X  I hl rfl
