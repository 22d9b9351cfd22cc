/-! X2_exchange -/
def f_X2_exchange_81 (zs : fb_MS) (l1 : Int32) (l2 : Int32) (l3 : Int32) : Int32 × fb_MS := (if l1 = (3 : Int32) then (if l1 = (4 : Int32) then (l3, (fb_sR (fb_sR zs 8 l2) 9 l2)) else (l3, (fb_sR zs 8 l2))) else (if l1 = (4 : Int32) then (l3, (fb_sR zs 9 l2)) else (l3, zs)))
def f_X2_exchange_71 (zs : fb_MS) (l1 : Int32) (l2 : Int32) (l3 : Int32) : Int32 × fb_MS := (if l1 = (2 : Int32) then f_X2_exchange_81 (fb_sR zs 7 l2) l1 l2 l3 else f_X2_exchange_81 zs l1 l2 l3)
def f_X2_exchange_61 (zs : fb_MS) (l1 : Int32) (l2 : Int32) (l3 : Int32) : Int32 × fb_MS := (if l1 = (1 : Int32) then f_X2_exchange_71 (fb_sR zs 6 l2) l1 l2 l3 else f_X2_exchange_71 zs l1 l2 l3)
def f_X2_exchange_51 (zs : fb_MS) (l1 : Int32) (l2 : Int32) (k0 : Int32) : Int32 × fb_MS := (if l1 = 0 then f_X2_exchange_61 (fb_sR zs 5 l2) l1 l2 k0 else f_X2_exchange_61 zs l1 l2 k0)
def f_X2_exchange (zs : fb_MS) (l1 : Int32) (l2 : Int32) : Int32 × fb_MS := (if l1 = 0 then f_X2_exchange_51 zs l1 l2 ((zs).1 5) else (if l1 = (1 : Int32) then f_X2_exchange_51 zs l1 l2 ((zs).1 6) else (if l1 = (2 : Int32) then f_X2_exchange_51 zs l1 l2 ((zs).1 7) else (if l1 = (3 : Int32) then f_X2_exchange_51 zs l1 l2 ((zs).1 8) else f_X2_exchange_51 zs l1 l2 ((zs).1 9)))))
set_option maxHeartbeats 4000000 in
set_option maxRecDepth 100000 in
theorem b_X2_exchange_81 {p : Program} {l : Launch} {e : Env} {s : State} {m : MethodId} {args : Array Value} {below : List Frame} {meth : Method} {c : Code} {D : va_G} {cI cJ : ClassId} {A : Nat → Prop} {zq : Nat → Nat} {z : Int32 × fb_MS} (X : fb_Bx p s m args meth c cX2_exchange RX2 4 (some .int) D (fb_ty D cI cJ) A) {zs : fb_MS} {zw : fb_AR} {l1 : Int32} {l2 : Int32} {l3 : Int32} {H : Heap} {locs : List Loc} {ls : Array Slot}  (I : fb_In D A s.heap ((fb_mw cI zq zs zw)) H locs) (hl : lv_has ls 4 [(0, .ref (zq 0)), (1, .int l1), (2, .int l2), (3, .int l3)]) (E : z = f_X2_exchange_81 zs l1 l2 l3) : W p l e ({ frames := 0, cells := 0, slots := 0, locals := 0 } : Room) s m args below meth c H locs 0 0 (MQ below (fb_QI D A (fun (r : Int32) (_ : fb_AR) => r = z.1) (fun (t : fb_AR) => (fb_mw cI zq (z.2) (t)))) args s 0 0 A) (F0 m 81 ls []) := by
  obtain ⟨hx, hb, hr, hml, hown, hts, hlk, hA, hK, hF⟩ := id X
  refine lv_iload_n hx hb dX2_exchange_81 rfl (lv_at hl 1 rfl) ?_
  refine lv_iconst (v := (3 : Int32)) hx hb dX2_exchange_82 (by decide) ?_
  refine lv_icmp_ne (tgt := 91) hx hb dX2_exchange_83 (by decide) (fun c22 => ?_) (fun c22 => ?_)
  · have E23 := (E.trans (if_neg c22))
    refine lv_iload_n hx hb dX2_exchange_91 rfl (lv_at hl 1 rfl) ?_
    refine lv_iconst (v := (4 : Int32)) hx hb dX2_exchange_92 (by decide) ?_
    refine lv_icmp_ne (tgt := 101) hx hb dX2_exchange_93 (by decide) (fun c25 => ?_) (fun c25 => ?_)
    · have E26 := (E23.trans (if_neg c25))
      refine lv_iload_n hx hb dX2_exchange_101 rfl (lv_at hl 3 rfl) ?_
      subst E26
      exact fb_retI (u := (zw)) X I rfl rfl dX2_exchange_102
    · have E27 := (E23.trans (if_pos c25))
      refine lv_aload_n hx hb dX2_exchange_96 rfl (lv_at hl 0 rfl) ?_
      refine lv_iload_n hx hb dX2_exchange_97 rfl (lv_at hl 2 rfl) ?_
      refine fb_put X I (k := 9) (wn := (fb_mw cI zq (fb_sR zs 9 l2) zw)) fu_X2 tyX2 tyX2_ok nmX2 0 rfl rfl (Nat.le_of_ble_eq_true rfl) fw_533 rfl rfl rfl rfl rfl (Nat.le_of_ble_eq_true rfl) fb_ms9 dX2_exchange_98 (fun H locs I => ?_)
      refine lv_iload_n hx hb dX2_exchange_101 rfl (lv_at hl 3 rfl) ?_
      subst E27
      exact fb_retI (u := (zw)) X I rfl rfl dX2_exchange_102
  · have E24 := (E.trans (if_pos c22))
    refine lv_aload_n hx hb dX2_exchange_86 rfl (lv_at hl 0 rfl) ?_
    refine lv_iload_n hx hb dX2_exchange_87 rfl (lv_at hl 2 rfl) ?_
    refine fb_put X I (k := 8) (wn := (fb_mw cI zq (fb_sR zs 8 l2) zw)) fu_X2 tyX2 tyX2_ok nmX2 0 rfl rfl (Nat.le_of_ble_eq_true rfl) fw_530 rfl rfl rfl rfl rfl (Nat.le_of_ble_eq_true rfl) fb_ms8 dX2_exchange_88 (fun H locs I => ?_)
    refine lv_iload_n hx hb dX2_exchange_91 rfl (lv_at hl 1 rfl) ?_
    refine lv_iconst (v := (4 : Int32)) hx hb dX2_exchange_92 (by decide) ?_
    refine lv_icmp_ne (tgt := 101) hx hb dX2_exchange_93 (by decide) (fun c28 => ?_) (fun c28 => ?_)
    · have E29 := (E24.trans (if_neg c28))
      refine lv_iload_n hx hb dX2_exchange_101 rfl (lv_at hl 3 rfl) ?_
      subst E29
      exact fb_retI (u := (zw)) X I rfl rfl dX2_exchange_102
    · have E30 := (E24.trans (if_pos c28))
      refine lv_aload_n hx hb dX2_exchange_96 rfl (lv_at hl 0 rfl) ?_
      refine lv_iload_n hx hb dX2_exchange_97 rfl (lv_at hl 2 rfl) ?_
      refine fb_put X I (k := 9) (wn := (fb_mw cI zq (fb_sR (fb_sR zs 8 l2) 9 l2) zw)) fu_X2 tyX2 tyX2_ok nmX2 0 rfl rfl (Nat.le_of_ble_eq_true rfl) fw_533 rfl rfl rfl rfl rfl (Nat.le_of_ble_eq_true rfl) fb_ms9 dX2_exchange_98 (fun H locs I => ?_)
      refine lv_iload_n hx hb dX2_exchange_101 rfl (lv_at hl 3 rfl) ?_
      subst E30
      exact fb_retI (u := (zw)) X I rfl rfl dX2_exchange_102
set_option maxHeartbeats 4000000 in
set_option maxRecDepth 100000 in
theorem b_X2_exchange_71 {p : Program} {l : Launch} {e : Env} {s : State} {m : MethodId} {args : Array Value} {below : List Frame} {meth : Method} {c : Code} {D : va_G} {cI cJ : ClassId} {A : Nat → Prop} {zq : Nat → Nat} {z : Int32 × fb_MS} (X : fb_Bx p s m args meth c cX2_exchange RX2 4 (some .int) D (fb_ty D cI cJ) A) {zs : fb_MS} {zw : fb_AR} {l1 : Int32} {l2 : Int32} {l3 : Int32} {H : Heap} {locs : List Loc} {ls : Array Slot}  (I : fb_In D A s.heap ((fb_mw cI zq zs zw)) H locs) (hl : lv_has ls 4 [(0, .ref (zq 0)), (1, .int l1), (2, .int l2), (3, .int l3)]) (E : z = f_X2_exchange_71 zs l1 l2 l3) : W p l e ({ frames := 0, cells := 0, slots := 0, locals := 0 } : Room) s m args below meth c H locs 0 0 (MQ below (fb_QI D A (fun (r : Int32) (_ : fb_AR) => r = z.1) (fun (t : fb_AR) => (fb_mw cI zq (z.2) (t)))) args s 0 0 A) (F0 m 71 ls []) := by
  obtain ⟨hx, hb, hr, hml, hown, hts, hlk, hA, hK, hF⟩ := id X
  refine lv_iload_n hx hb dX2_exchange_71 rfl (lv_at hl 1 rfl) ?_
  refine lv_iconst (v := (2 : Int32)) hx hb dX2_exchange_72 (by decide) ?_
  refine lv_icmp_ne (tgt := 81) hx hb dX2_exchange_73 (by decide) (fun c19 => ?_) (fun c19 => ?_)
  · have E20 := (E.trans (if_neg c19))
    exact b_X2_exchange_81 X  (l1 := l1) (l2 := l2) (l3 := l3) I (lv_sub hl [0, 1, 2, 3] rfl) E20
  · have E21 := (E.trans (if_pos c19))
    refine lv_aload_n hx hb dX2_exchange_76 rfl (lv_at hl 0 rfl) ?_
    refine lv_iload_n hx hb dX2_exchange_77 rfl (lv_at hl 2 rfl) ?_
    refine fb_put X I (k := 7) (wn := (fb_mw cI zq (fb_sR zs 7 l2) zw)) fu_X2 tyX2 tyX2_ok nmX2 0 rfl rfl (Nat.le_of_ble_eq_true rfl) fw_528 rfl rfl rfl rfl rfl (Nat.le_of_ble_eq_true rfl) fb_ms7 dX2_exchange_78 (fun H locs I => ?_)
    exact b_X2_exchange_81 X  (l1 := l1) (l2 := l2) (l3 := l3) I (lv_sub hl [0, 1, 2, 3] rfl) E21
set_option maxHeartbeats 4000000 in
set_option maxRecDepth 100000 in
theorem b_X2_exchange_61 {p : Program} {l : Launch} {e : Env} {s : State} {m : MethodId} {args : Array Value} {below : List Frame} {meth : Method} {c : Code} {D : va_G} {cI cJ : ClassId} {A : Nat → Prop} {zq : Nat → Nat} {z : Int32 × fb_MS} (X : fb_Bx p s m args meth c cX2_exchange RX2 4 (some .int) D (fb_ty D cI cJ) A) {zs : fb_MS} {zw : fb_AR} {l1 : Int32} {l2 : Int32} {l3 : Int32} {H : Heap} {locs : List Loc} {ls : Array Slot}  (I : fb_In D A s.heap ((fb_mw cI zq zs zw)) H locs) (hl : lv_has ls 4 [(0, .ref (zq 0)), (1, .int l1), (2, .int l2), (3, .int l3)]) (E : z = f_X2_exchange_61 zs l1 l2 l3) : W p l e ({ frames := 0, cells := 0, slots := 0, locals := 0 } : Room) s m args below meth c H locs 0 0 (MQ below (fb_QI D A (fun (r : Int32) (_ : fb_AR) => r = z.1) (fun (t : fb_AR) => (fb_mw cI zq (z.2) (t)))) args s 0 0 A) (F0 m 61 ls []) := by
  obtain ⟨hx, hb, hr, hml, hown, hts, hlk, hA, hK, hF⟩ := id X
  refine lv_iload_n hx hb dX2_exchange_61 rfl (lv_at hl 1 rfl) ?_
  refine lv_iconst (v := (1 : Int32)) hx hb dX2_exchange_62 (by decide) ?_
  refine lv_icmp_ne (tgt := 71) hx hb dX2_exchange_63 (by decide) (fun c16 => ?_) (fun c16 => ?_)
  · have E17 := (E.trans (if_neg c16))
    exact b_X2_exchange_71 X  (l1 := l1) (l2 := l2) (l3 := l3) I (lv_sub hl [0, 1, 2, 3] rfl) E17
  · have E18 := (E.trans (if_pos c16))
    refine lv_aload_n hx hb dX2_exchange_66 rfl (lv_at hl 0 rfl) ?_
    refine lv_iload_n hx hb dX2_exchange_67 rfl (lv_at hl 2 rfl) ?_
    refine fb_put X I (k := 6) (wn := (fb_mw cI zq (fb_sR zs 6 l2) zw)) fu_X2 tyX2 tyX2_ok nmX2 0 rfl rfl (Nat.le_of_ble_eq_true rfl) fw_526 rfl rfl rfl rfl rfl (Nat.le_of_ble_eq_true rfl) fb_ms6 dX2_exchange_68 (fun H locs I => ?_)
    exact b_X2_exchange_71 X  (l1 := l1) (l2 := l2) (l3 := l3) I (lv_sub hl [0, 1, 2, 3] rfl) E18
set_option maxHeartbeats 4000000 in
set_option maxRecDepth 100000 in
theorem b_X2_exchange_51 {p : Program} {l : Launch} {e : Env} {s : State} {m : MethodId} {args : Array Value} {below : List Frame} {meth : Method} {c : Code} {D : va_G} {cI cJ : ClassId} {A : Nat → Prop} {zq : Nat → Nat} {z : Int32 × fb_MS} (X : fb_Bx p s m args meth c cX2_exchange RX2 4 (some .int) D (fb_ty D cI cJ) A) {zs : fb_MS} {zw : fb_AR} {l1 : Int32} {l2 : Int32} {k0 : Int32} {H : Heap} {locs : List Loc} {ls : Array Slot}  (I : fb_In D A s.heap ((fb_mw cI zq zs zw)) H locs) (hl : lv_has ls 4 [(0, .ref (zq 0)), (1, .int l1), (2, .int l2)]) (E : z = f_X2_exchange_51 zs l1 l2 k0) : W p l e ({ frames := 0, cells := 0, slots := 0, locals := 0 } : Room) s m args below meth c H locs 0 0 (MQ below (fb_QI D A (fun (r : Int32) (_ : fb_AR) => r = z.1) (fun (t : fb_AR) => (fb_mw cI zq (z.2) (t)))) args s 0 0 A) (F0 m 51 ls [.int k0]) := by
  obtain ⟨hx, hb, hr, hml, hown, hts, hlk, hA, hK, hF⟩ := id X
  refine lv_istore_n (lv' := [(3, .int k0), (0, .ref (zq 0)), (1, .int l1), (2, .int l2)]) hx hb dX2_exchange_51 rfl hl (by decide) rfl (fun ls hl => ?_)
  refine lv_iload_n hx hb dX2_exchange_52 rfl (lv_at hl 2 rfl) ?_
  refine lv_if_ne (tgt := 61) hx hb dX2_exchange_53 (by decide) (fun c13 => ?_) (fun c13 => ?_)
  · have E14 := (E.trans (if_neg c13))
    exact b_X2_exchange_61 X  (l1 := l1) (l2 := l2) (l3 := k0) I (lv_sub hl [1, 2, 3, 0] rfl) E14
  · have E15 := (E.trans (if_pos c13))
    refine lv_aload_n hx hb dX2_exchange_56 rfl (lv_at hl 1 rfl) ?_
    refine lv_iload_n hx hb dX2_exchange_57 rfl (lv_at hl 3 rfl) ?_
    refine fb_put X I (k := 5) (wn := (fb_mw cI zq (fb_sR zs 5 l2) zw)) fu_X2 tyX2 tyX2_ok nmX2 0 rfl rfl (Nat.le_of_ble_eq_true rfl) fw_524 rfl rfl rfl rfl rfl (Nat.le_of_ble_eq_true rfl) fb_ms5 dX2_exchange_58 (fun H locs I => ?_)
    exact b_X2_exchange_61 X  (l1 := l1) (l2 := l2) (l3 := k0) I (lv_sub hl [1, 2, 3, 0] rfl) E15
set_option maxHeartbeats 4000000 in
set_option maxRecDepth 100000 in
theorem b_X2_exchange_0 {p : Program} {l : Launch} {e : Env} {s : State} {m : MethodId} {args : Array Value} {below : List Frame} {meth : Method} {c : Code} {D : va_G} {cI cJ : ClassId} {A : Nat → Prop} {zq : Nat → Nat} {z : Int32 × fb_MS} (X : fb_Bx p s m args meth c cX2_exchange RX2 4 (some .int) D (fb_ty D cI cJ) A) {zs : fb_MS} {zw : fb_AR} {l1 : Int32} {l2 : Int32} {H : Heap} {locs : List Loc} {ls : Array Slot}  (I : fb_In D A s.heap ((fb_mw cI zq zs zw)) H locs) (hl : lv_has ls 4 [(0, .ref (zq 0)), (1, .int l1), (2, .int l2)]) (E : z = f_X2_exchange zs l1 l2) : W p l e ({ frames := 0, cells := 0, slots := 0, locals := 0 } : Room) s m args below meth c H locs 0 0 (MQ below (fb_QI D A (fun (r : Int32) (_ : fb_AR) => r = z.1) (fun (t : fb_AR) => (fb_mw cI zq (z.2) (t)))) args s 0 0 A) (F0 m 0 ls []) := by
  obtain ⟨hx, hb, hr, hml, hown, hts, hlk, hA, hK, hF⟩ := id X
  refine lv_iload_n hx hb dX2_exchange_0 rfl (lv_at hl 1 rfl) ?_
  refine lv_if_ne (tgt := 11) hx hb dX2_exchange_1 (by decide) (fun c1 => ?_) (fun c1 => ?_)
  · have E2 := (E.trans (if_neg c1))
    refine lv_iload_n hx hb dX2_exchange_11 rfl (lv_at hl 1 rfl) ?_
    refine lv_iconst (v := (1 : Int32)) hx hb dX2_exchange_12 (by decide) ?_
    refine lv_icmp_ne (tgt := 23) hx hb dX2_exchange_13 (by decide) (fun c4 => ?_) (fun c4 => ?_)
    · have E5 := (E2.trans (if_neg c4))
      refine lv_iload_n hx hb dX2_exchange_23 rfl (lv_at hl 1 rfl) ?_
      refine lv_iconst (v := (2 : Int32)) hx hb dX2_exchange_24 (by decide) ?_
      refine lv_icmp_ne (tgt := 35) hx hb dX2_exchange_25 (by decide) (fun c7 => ?_) (fun c7 => ?_)
      · have E8 := (E5.trans (if_neg c7))
        refine lv_iload_n hx hb dX2_exchange_35 rfl (lv_at hl 1 rfl) ?_
        refine lv_iconst (v := (3 : Int32)) hx hb dX2_exchange_36 (by decide) ?_
        refine lv_icmp_ne (tgt := 47) hx hb dX2_exchange_37 (by decide) (fun c10 => ?_) (fun c10 => ?_)
        · have E11 := (E8.trans (if_neg c10))
          refine lv_aload_n hx hb dX2_exchange_47 rfl (lv_at hl 0 rfl) ?_
          refine fb_get X I (k := 9) fu_X2 0 rfl rfl (Nat.le_of_ble_eq_true rfl) fw_533 rfl rfl dX2_exchange_48 ?_
          exact b_X2_exchange_51 X  (l1 := l1) (l2 := l2) (k0 := ((zs).1 9)) I (lv_sub hl [0, 1, 2] rfl) E11
        · have E12 := (E8.trans (if_pos c10))
          refine lv_aload_n hx hb dX2_exchange_40 rfl (lv_at hl 0 rfl) ?_
          refine fb_get X I (k := 8) fu_X2 0 rfl rfl (Nat.le_of_ble_eq_true rfl) fw_530 rfl rfl dX2_exchange_41 ?_
          refine lv_goto (tgt := 51) hx hb dX2_exchange_44 (by decide) ?_
          exact b_X2_exchange_51 X  (l1 := l1) (l2 := l2) (k0 := ((zs).1 8)) I (lv_sub hl [0, 1, 2] rfl) E12
      · have E9 := (E5.trans (if_pos c7))
        refine lv_aload_n hx hb dX2_exchange_28 rfl (lv_at hl 0 rfl) ?_
        refine fb_get X I (k := 7) fu_X2 0 rfl rfl (Nat.le_of_ble_eq_true rfl) fw_528 rfl rfl dX2_exchange_29 ?_
        refine lv_goto (tgt := 51) hx hb dX2_exchange_32 (by decide) ?_
        exact b_X2_exchange_51 X  (l1 := l1) (l2 := l2) (k0 := ((zs).1 7)) I (lv_sub hl [0, 1, 2] rfl) E9
    · have E6 := (E2.trans (if_pos c4))
      refine lv_aload_n hx hb dX2_exchange_16 rfl (lv_at hl 0 rfl) ?_
      refine fb_get X I (k := 6) fu_X2 0 rfl rfl (Nat.le_of_ble_eq_true rfl) fw_526 rfl rfl dX2_exchange_17 ?_
      refine lv_goto (tgt := 51) hx hb dX2_exchange_20 (by decide) ?_
      exact b_X2_exchange_51 X  (l1 := l1) (l2 := l2) (k0 := ((zs).1 6)) I (lv_sub hl [0, 1, 2] rfl) E6
  · have E3 := (E.trans (if_pos c1))
    refine lv_aload_n hx hb dX2_exchange_4 rfl (lv_at hl 0 rfl) ?_
    refine fb_get X I (k := 5) fu_X2 0 rfl rfl (Nat.le_of_ble_eq_true rfl) fw_524 rfl rfl dX2_exchange_5 ?_
    refine lv_goto (tgt := 51) hx hb dX2_exchange_8 (by decide) ?_
    exact b_X2_exchange_51 X  (l1 := l1) (l2 := l2) (k0 := ((zs).1 5)) I (lv_sub hl [0, 1, 2] rfl) E3
set_option maxHeartbeats 4000000 in
set_option maxRecDepth 100000 in
theorem c_X2_exchange (l : Launch) (D : va_G) (cI cJ : ClassId) (zq : Nat → Nat) (zs : fb_MS) (zw : fb_AR) (l1 : Int32) (l2 : Int32) (sz : Nat)  : Met l yX2_exchange (Cond.code yX2_exchange cX2_exchange 4 (some .int) :: fb_all) ({ frames := 0, cells := 0, slots := 0, locals := 0 } : Room) (fb_PP D (fb_ty D cI cJ) [.ref (zq 0), .int l1, .int l2] ((fb_mw cI zq zs zw)) sz) (fb_QI D (va_A ((fb_mw cI zq zs zw)) sz) (fun (r : Int32) (_ : fb_AR) => r = ((f_X2_exchange zs l1 l2)).1) (fun (t : fb_AR) => (fb_mw cI zq (((f_X2_exchange zs l1 l2)).2) (t)))) 0 0 (va_A ((fb_mw cI zq zs zw)) sz) := by
  refine fb_ent (Qf := fun A => (fb_QI D A (fun (r : Int32) (_ : fb_AR) => r = ((f_X2_exchange zs l1 l2)).1) (fun (t : fb_AR) => (fb_mw cI zq (((f_X2_exchange zs l1 l2)).2) (t))))) (by decide +kernel) (Nat.le_of_ble_eq_true rfl) ?_
  intro p e s m args below meth c A ls X I hl hin
  exact b_X2_exchange_0 X  I hl rfl
