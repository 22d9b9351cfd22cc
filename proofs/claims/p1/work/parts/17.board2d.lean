/-! X11_outputsIn -/
def f_X11_outputsIn_32  : Nat → fb_MS → fb_MS → Int32 → Int32 → Int32 → Int32
  | 0, zs, zst1, _, _, _ => 0
  | n + 1, zs, zst1, l1, l2, l3 => (if (1000000 : Int32) ≤ l3 then ((((zst1).2.2.2.2.2).1 6) - (((zs).2.2.2.2.2).1 6)) else (if l1 ≤ l2 then ((((zst1).2.2.2.2.2).1 6) - (((zs).2.2.2.2.2).1 6)) else (if (f_X2_endReason zst1) = 0 then f_X11_outputsIn_32 n zs ((f_X2_advance zst1).2) l1 (l2 + ((f_X2_advance zst1).1)) (l3 + (1 : Int32)) else ((((zst1).2.2.2.2.2).1 6) - (((zs).2.2.2.2.2).1 6)))))
def f_X11_outputsIn (zs : fb_MS) (zst1 : fb_MS) (l1 : Int32) : Int32 := f_X11_outputsIn_32 ((fb_mu (0 : Int32) (1000000 : Int32)) + 1) zs ((f_X2_copyFrom zst1 zs)) l1 (0 : Int32) (0 : Int32)
set_option maxHeartbeats 4000000 in
set_option maxRecDepth 100000 in
theorem b_X11_outputsIn_32 {p : Program} {l : Launch} {e : Env} {s : State} {m : MethodId} {args : Array Value} {below : List Frame} {meth : Method} {c : Code} {D : va_G} {cI cJ : ClassId} {A : Nat → Prop} {zb : Nat} {zr0 : Nat} {zr1 : Nat} {zr2 : Nat} {zr3 : Nat} {zr4 : Nat} {zr7 : Nat} {zr8 : Nat} {zr9 : Nat} {zq : Nat → Nat} {zs : fb_MS} {zw : fb_AR} {zt : Nat → Nat} {z : Int32} (X : fb_Bx p s m args meth c cX11_outputsIn RX11 4 (some .int) D (fb_ty D cI cJ) A)  : ∀ (n : Nat) {zst1 : fb_MS} {zwt : fb_AR} {l1 : Int32} {l2 : Int32} {l3 : Int32} {H : Heap} {locs : List Loc} {ls : Array Slot} (hm : (fb_mu l3 (1000000 : Int32)) < n) (I : fb_In D A s.heap ((fb_o11 zb zr0 zr1 zr2 zr3 zr4 (zq 0) (zt 0) zr7 zr8 zr9) ++ ((fb_mw cI zq zs zw) ++ (fb_mw cI zt zst1 zwt))) H locs) (hl : lv_has ls 4 [(0, .ref zb), (1, .int l1), (2, .int l2), (3, .int l3)]) (E : z = f_X11_outputsIn_32 n zs zst1 l1 l2 l3), W p l e ({ frames := 6, cells := 0, slots := 0, locals := 153 } : Room) s m args below meth c H locs 0 0 (MQ below (fb_QI D A (fun (r : Int32) (_ : fb_MS × fb_AR) => r = z) (fun (t : fb_MS × fb_AR) => (fb_o11 zb zr0 zr1 zr2 zr3 zr4 (zq 0) (zt 0) zr7 zr8 zr9) ++ ((fb_mw cI zq zs zw) ++ (fb_mw cI zt (t.1) (t.2))))) args s 0 0 A) (F0 m 32 ls []) := by
  intro n
  obtain ⟨hx, hb, hr, hml, hown, hts, hlk, hA, hK, hF⟩ := id X
  induction n with
  | zero =>
    intro zst1 zwt l1 l2 l3 H locs ls hm
    exact absurd hm (Nat.not_lt_zero _)
  | succ n ih =>
    intro zst1 zwt l1 l2 l3 H locs ls hm I hl E
    refine lv_iload_n hx hb dX11_outputsIn_32 rfl (lv_at hl 3 rfl) ?_
    refine lv_ldcw hx hb hown (hts _ fw_1393) dX11_outputsIn_33 ?_
    refine lv_icmp_ge (tgt := 70) hx hb dX11_outputsIn_36 (by decide) (fun c3 => ?_) (fun c3 => ?_)
    · have E4 := (E.trans (if_pos c3))
      refine lv_aload_n hx hb dX11_outputsIn_70 rfl (lv_at hl 0 rfl) ?_
      refine fb_get X I (k := 6) fu_X11 0 rfl rfl (Nat.le_of_ble_eq_true rfl) fw_693 rfl rfl dX11_outputsIn_71 ?_
      refine fb_get X I (k := 4) fu_X2 9 rfl rfl (Nat.le_of_ble_eq_true rfl) fw_523 rfl rfl dX11_outputsIn_74 ?_
      refine fb_get X I (k := 6) fu_X5 14 rfl rfl (Nat.le_of_ble_eq_true rfl) fw_473 rfl rfl dX11_outputsIn_77 ?_
      refine lv_aload_n hx hb dX11_outputsIn_80 rfl (lv_at hl 0 rfl) ?_
      refine fb_get X I (k := 5) fu_X11 0 rfl rfl (Nat.le_of_ble_eq_true rfl) fw_692 rfl rfl dX11_outputsIn_81 ?_
      refine fb_get X I (k := 4) fu_X2 1 rfl rfl (Nat.le_of_ble_eq_true rfl) fw_523 rfl rfl dX11_outputsIn_84 ?_
      refine fb_get X I (k := 6) fu_X5 6 rfl rfl (Nat.le_of_ble_eq_true rfl) fw_473 rfl rfl dX11_outputsIn_87 ?_
      refine lv_isub hx hb dX11_outputsIn_90 ?_
      subst E4
      exact fb_retI (u := (zst1, zwt)) X I rfl rfl dX11_outputsIn_91
    · have E5 := (E.trans (if_neg c3))
      refine lv_iload_n hx hb dX11_outputsIn_39 rfl (lv_at hl 2 rfl) ?_
      refine lv_iload_n hx hb dX11_outputsIn_40 rfl (lv_at hl 1 rfl) ?_
      refine lv_icmp_ge (tgt := 70) hx hb dX11_outputsIn_41 (by decide) (fun c6 => ?_) (fun c6 => ?_)
      · have E7 := (E5.trans (if_pos c6))
        refine lv_aload_n hx hb dX11_outputsIn_70 rfl (lv_at hl 0 rfl) ?_
        refine fb_get X I (k := 6) fu_X11 0 rfl rfl (Nat.le_of_ble_eq_true rfl) fw_693 rfl rfl dX11_outputsIn_71 ?_
        refine fb_get X I (k := 4) fu_X2 9 rfl rfl (Nat.le_of_ble_eq_true rfl) fw_523 rfl rfl dX11_outputsIn_74 ?_
        refine fb_get X I (k := 6) fu_X5 14 rfl rfl (Nat.le_of_ble_eq_true rfl) fw_473 rfl rfl dX11_outputsIn_77 ?_
        refine lv_aload_n hx hb dX11_outputsIn_80 rfl (lv_at hl 0 rfl) ?_
        refine fb_get X I (k := 5) fu_X11 0 rfl rfl (Nat.le_of_ble_eq_true rfl) fw_692 rfl rfl dX11_outputsIn_81 ?_
        refine fb_get X I (k := 4) fu_X2 1 rfl rfl (Nat.le_of_ble_eq_true rfl) fw_523 rfl rfl dX11_outputsIn_84 ?_
        refine fb_get X I (k := 6) fu_X5 6 rfl rfl (Nat.le_of_ble_eq_true rfl) fw_473 rfl rfl dX11_outputsIn_87 ?_
        refine lv_isub hx hb dX11_outputsIn_90 ?_
        subst E7
        exact fb_retI (u := (zst1, zwt)) X I rfl rfl dX11_outputsIn_91
      · have E8 := (E5.trans (if_neg c6))
        refine lv_aload_n hx hb dX11_outputsIn_44 rfl (lv_at hl 0 rfl) ?_
        refine fb_get X I (k := 6) fu_X11 0 rfl rfl (Nat.le_of_ble_eq_true rfl) fw_693 rfl rfl dX11_outputsIn_45 ?_
        refine fb_roI X I (fb_runV (As := []) (rest := []) (q0 := 9) X I hl (c_X2_endReason l D cI cJ zt zst1 zwt _) (fb_goodV fw_1167 fw_1168 fw_1169 fw_198 fw_1170) rfl rfl rfl (by decide +kernel : fb_hd yX2_endReason 0) ⟨Nat.le_of_ble_eq_true rfl, Nat.le_of_ble_eq_true rfl⟩ [9, 10, 11, 12, 13, 14, 15, 16] (by decide) rfl rfl rfl rfl rfl rfl (Nat.le_of_ble_eq_true rfl) ⟨Nat.zero_le _, Nat.zero_le _⟩ dX11_outputsIn_48) ?_
        refine lv_if_ne (tgt := 70) hx hb dX11_outputsIn_51 (by decide) (fun c9 => ?_) (fun c9 => ?_)
        · have E10 := (E8.trans (if_neg c9))
          refine lv_aload_n hx hb dX11_outputsIn_70 rfl (lv_at hl 0 rfl) ?_
          refine fb_get X I (k := 6) fu_X11 0 rfl rfl (Nat.le_of_ble_eq_true rfl) fw_693 rfl rfl dX11_outputsIn_71 ?_
          refine fb_get X I (k := 4) fu_X2 9 rfl rfl (Nat.le_of_ble_eq_true rfl) fw_523 rfl rfl dX11_outputsIn_74 ?_
          refine fb_get X I (k := 6) fu_X5 14 rfl rfl (Nat.le_of_ble_eq_true rfl) fw_473 rfl rfl dX11_outputsIn_77 ?_
          refine lv_aload_n hx hb dX11_outputsIn_80 rfl (lv_at hl 0 rfl) ?_
          refine fb_get X I (k := 5) fu_X11 0 rfl rfl (Nat.le_of_ble_eq_true rfl) fw_692 rfl rfl dX11_outputsIn_81 ?_
          refine fb_get X I (k := 4) fu_X2 1 rfl rfl (Nat.le_of_ble_eq_true rfl) fw_523 rfl rfl dX11_outputsIn_84 ?_
          refine fb_get X I (k := 6) fu_X5 6 rfl rfl (Nat.le_of_ble_eq_true rfl) fw_473 rfl rfl dX11_outputsIn_87 ?_
          refine lv_isub hx hb dX11_outputsIn_90 ?_
          subst E10
          exact fb_retI (u := (zst1, zwt)) X I rfl rfl dX11_outputsIn_91
        · have E11 := (E8.trans (if_pos c9))
          refine lv_iload_n hx hb dX11_outputsIn_54 rfl (lv_at hl 2 rfl) ?_
          refine lv_aload_n hx hb dX11_outputsIn_55 rfl (lv_at hl 0 rfl) ?_
          refine fb_get X I (k := 6) fu_X11 0 rfl rfl (Nat.le_of_ble_eq_true rfl) fw_693 rfl rfl dX11_outputsIn_56 ?_
          refine fb_goI (wn := fun (w12 : fb_AR) => (fb_o11 zb zr0 zr1 zr2 zr3 zr4 (zq 0) (zt 0) zr7 zr8 zr9) ++ ((fb_mw cI zq zs zw) ++ (fb_mw cI zt ((f_X2_advance zst1).2) (w12)))) X I (fb_runV (As := []) (rest := [.int l2]) (q0 := 9) X I hl (c_X2_advance l D cI cJ zt zst1 zwt _) (fb_goodV fw_1185 fw_1186 fw_1187 fw_198 fw_1188) rfl rfl rfl (by decide +kernel : fb_hd yX2_advance 0) ⟨Nat.le_of_ble_eq_true rfl, Nat.le_of_ble_eq_true rfl⟩ [9, 10, 11, 12, 13, 14, 15, 16] (by decide) rfl rfl rfl rfl rfl rfl (Nat.le_of_ble_eq_true rfl) ⟨Nat.zero_le _, Nat.zero_le _⟩ dX11_outputsIn_59) [9, 10, 11, 12, 13, 14, 15, 16] [0, 1, 2, 3, 4, 5, 6, 7, 8] [0, 1, 2, 3, 4, 5, 6, 7, 8, 9, 10, 11, 12, 13, 14, 15, 16] rfl rfl (by decide) (by decide) (by decide) (fun _ => rfl) ?_
          intro r13 w12 H locs e0 I
          subst e0
          refine lv_iadd hx hb dX11_outputsIn_62 ?_
          refine lv_istore_n (lv' := [(2, .int (l2 + ((f_X2_advance zst1).1))), (0, .ref zb), (1, .int l1), (3, .int l3)]) hx hb dX11_outputsIn_63 rfl hl (by decide) rfl (fun ls hl => ?_)
          refine lv_iinc (v := (l3 + (1 : Int32))) (lv' := [(3, .int (l3 + (1 : Int32))), (2, .int (l2 + ((f_X2_advance zst1).1))), (0, .ref zb), (1, .int l1)]) hx hb dX11_outputsIn_64 hl (k := 3) rfl rfl (by decide) rfl (fun ls hl => ?_)
          refine lv_goto (tgt := 32) hx hb dX11_outputsIn_67 (by decide) ?_
          exact ih (l1 := l1) (l2 := (l2 + ((f_X2_advance zst1).1))) (l3 := (l3 + (1 : Int32))) (fb_mu_ge c3 hm)  I (lv_sub hl [2, 3, 1, 0] rfl) E11
set_option maxHeartbeats 4000000 in
set_option maxRecDepth 100000 in
theorem b_X11_outputsIn_0 {p : Program} {l : Launch} {e : Env} {s : State} {m : MethodId} {args : Array Value} {below : List Frame} {meth : Method} {c : Code} {D : va_G} {cI cJ : ClassId} {A : Nat → Prop} {zb : Nat} {zr0 : Nat} {zr1 : Nat} {zr2 : Nat} {zr3 : Nat} {zr4 : Nat} {zr7 : Nat} {zr8 : Nat} {zr9 : Nat} {zq : Nat → Nat} {zs : fb_MS} {zw : fb_AR} {zt : Nat → Nat} {z : Int32} (X : fb_Bx p s m args meth c cX11_outputsIn RX11 4 (some .int) D (fb_ty D cI cJ) A) {zst1 : fb_MS} {zwt : fb_AR} {l1 : Int32} {H : Heap} {locs : List Loc} {ls : Array Slot} (gs : f_X11_isNoSpan l1 = 0) (I : fb_In D A s.heap ((fb_o11 zb zr0 zr1 zr2 zr3 zr4 (zq 0) (zt 0) zr7 zr8 zr9) ++ ((fb_mw cI zq zs zw) ++ (fb_mw cI zt zst1 zwt))) H locs) (hl : lv_has ls 4 [(0, .ref zb), (1, .int l1)]) (E : z = f_X11_outputsIn zs zst1 l1) : W p l e ({ frames := 6, cells := 0, slots := 0, locals := 153 } : Room) s m args below meth c H locs 0 0 (MQ below (fb_QI D A (fun (r : Int32) (_ : fb_MS × fb_AR) => r = z) (fun (t : fb_MS × fb_AR) => (fb_o11 zb zr0 zr1 zr2 zr3 zr4 (zq 0) (zt 0) zr7 zr8 zr9) ++ ((fb_mw cI zq zs zw) ++ (fb_mw cI zt (t.1) (t.2))))) args s 0 0 A) (F0 m 0 ls []) := by
  obtain ⟨hx, hb, hr, hml, hown, hts, hlk, hA, hK, hF⟩ := id X
  refine lv_iload_n hx hb dX11_outputsIn_0 rfl (lv_at hl 1 rfl) ?_
  refine fb_roI X I (fb_runS (As := [.int l1]) (rest := []) X I hl (c_X11_isNoSpan l D cI cJ l1 _) (fb_goodS fw_1779 fw_1780 fw_191 fw_1781) rfl rfl (by decide +kernel : fb_hd yX11_isNoSpan 1) ⟨Nat.le_of_ble_eq_true rfl, Nat.le_of_ble_eq_true rfl⟩ [] (by decide) rfl rfl rfl (Nat.le_of_ble_eq_true rfl) ⟨Nat.zero_le _, Nat.zero_le _⟩ dX11_outputsIn_1) ?_
  refine lv_if_eq (tgt := 17) hx hb dX11_outputsIn_4 (by decide) (fun _ => ?_) (fun c1 => absurd gs c1)
  refine lv_aload_n hx hb dX11_outputsIn_17 rfl (lv_at hl 0 rfl) ?_
  refine fb_get X I (k := 6) fu_X11 0 rfl rfl (Nat.le_of_ble_eq_true rfl) fw_693 rfl rfl dX11_outputsIn_18 ?_
  refine lv_aload_n hx hb dX11_outputsIn_21 rfl (lv_at hl 0 rfl) ?_
  refine fb_get X I (k := 5) fu_X11 0 rfl rfl (Nat.le_of_ble_eq_true rfl) fw_692 rfl rfl dX11_outputsIn_22 ?_
  refine fb_goV (wn := fun (w2 : fb_AR) => (fb_o11 zb zr0 zr1 zr2 zr3 zr4 (zq 0) (zt 0) zr7 zr8 zr9) ++ ((fb_mw cI zq zs zw) ++ (fb_mw cI zt ((f_X2_copyFrom zst1 zs)) (w2)))) X I (fb_runV (As := [.ref (zq 0)]) (rest := []) (q0 := 9) X I hl (c_X2_copyFrom l D cI cJ zt zst1 zwt zq zs zw _) (fb_goodV fw_1895 fw_1176 fw_1177 fw_198 fw_1178) rfl rfl rfl (by decide +kernel : fb_hd yX2_copyFrom 1) ⟨Nat.le_of_ble_eq_true rfl, Nat.le_of_ble_eq_true rfl⟩ [9, 10, 11, 12, 13, 14, 15, 16, 1, 2, 3, 4, 5, 6, 7, 8] (by decide) rfl rfl rfl rfl rfl rfl (Nat.le_of_ble_eq_true rfl) ⟨Nat.zero_le _, Nat.zero_le _⟩ dX11_outputsIn_25) [9, 10, 11, 12, 13, 14, 15, 16, 1, 2, 3, 4, 5, 6, 7, 8] [0] [0, 9, 10, 11, 12, 13, 14, 15, 16, 1, 2, 3, 4, 5, 6, 7, 8] rfl rfl (by decide) (by decide) (by decide) (fun _ => rfl) ?_
  intro w2 H locs _ I
  refine lv_iconst (v := (0 : Int32)) hx hb dX11_outputsIn_28 (by decide) ?_
  refine lv_istore_n (lv' := [(2, .int (0 : Int32)), (0, .ref zb), (1, .int l1)]) hx hb dX11_outputsIn_29 rfl hl (by decide) rfl (fun ls hl => ?_)
  refine lv_iconst (v := (0 : Int32)) hx hb dX11_outputsIn_30 (by decide) ?_
  refine lv_istore_n (lv' := [(3, .int (0 : Int32)), (2, .int (0 : Int32)), (0, .ref zb), (1, .int l1)]) hx hb dX11_outputsIn_31 rfl hl (by decide) rfl (fun ls hl => ?_)
  exact b_X11_outputsIn_32 X  ((fb_mu (0 : Int32) (1000000 : Int32)) + 1) (l1 := l1) (l2 := (0 : Int32)) (l3 := (0 : Int32)) (Nat.lt_succ_self _)  I (lv_sub hl [2, 3, 1, 0] rfl) E
set_option maxHeartbeats 4000000 in
set_option maxRecDepth 100000 in
theorem c_X11_outputsIn (l : Launch) (D : va_G) (cI cJ : ClassId) (zb : Nat) (zr0 : Nat) (zr1 : Nat) (zr2 : Nat) (zr3 : Nat) (zr4 : Nat) (zr7 : Nat) (zr8 : Nat) (zr9 : Nat) (zq : Nat → Nat) (zs : fb_MS) (zw : fb_AR) (zt : Nat → Nat) (zst1 : fb_MS) (zwt : fb_AR) (l1 : Int32) (sz : Nat) (gs : f_X11_isNoSpan l1 = 0) : Met l yX11_outputsIn (Cond.code yX11_outputsIn cX11_outputsIn 4 (some .int) :: fb_all) ({ frames := 6, cells := 0, slots := 0, locals := 153 } : Room) (fb_PP D (fb_ty D cI cJ) [.ref zb, .int l1] ((fb_o11 zb zr0 zr1 zr2 zr3 zr4 (zq 0) (zt 0) zr7 zr8 zr9) ++ ((fb_mw cI zq zs zw) ++ (fb_mw cI zt zst1 zwt))) sz) (fb_QI D (va_A ((fb_o11 zb zr0 zr1 zr2 zr3 zr4 (zq 0) (zt 0) zr7 zr8 zr9) ++ ((fb_mw cI zq zs zw) ++ (fb_mw cI zt zst1 zwt))) sz) (fun (r : Int32) (_ : fb_MS × fb_AR) => r = ((f_X11_outputsIn zs zst1 l1))) (fun (t : fb_MS × fb_AR) => (fb_o11 zb zr0 zr1 zr2 zr3 zr4 (zq 0) (zt 0) zr7 zr8 zr9) ++ ((fb_mw cI zq zs zw) ++ (fb_mw cI zt (t.1) (t.2))))) 0 0 (va_A ((fb_o11 zb zr0 zr1 zr2 zr3 zr4 (zq 0) (zt 0) zr7 zr8 zr9) ++ ((fb_mw cI zq zs zw) ++ (fb_mw cI zt zst1 zwt))) sz) := by
  refine fb_ent (Qf := fun A => (fb_QI D A (fun (r : Int32) (_ : fb_MS × fb_AR) => r = ((f_X11_outputsIn zs zst1 l1))) (fun (t : fb_MS × fb_AR) => (fb_o11 zb zr0 zr1 zr2 zr3 zr4 (zq 0) (zt 0) zr7 zr8 zr9) ++ ((fb_mw cI zq zs zw) ++ (fb_mw cI zt (t.1) (t.2)))))) (by decide +kernel) (Nat.le_of_ble_eq_true rfl) ?_
  intro p e s m args below meth c A ls X I hl hin
  exact b_X11_outputsIn_0 X gs I hl rfl
/-! X11_cyclesToReach -/
def f_X11_cyclesToReach_60  : Nat → fb_MS → fb_MS → Int32 → Int32 → Int32 → Int32 → Int32 → Int32
  | 0, zs, zst1, _, _, _, _, _ => 0
  | n + 1, zs, zst1, l1, l2, l3, l4, l5 => (if (1000000 : Int32) ≤ l5 then (if l4 = 0 then (-1 : Int32) else l3) else (if l4 = 0 then (if l2 ≤ l3 then (-1 : Int32) else (if (f_X2_endReason zst1) = 0 then f_X11_cyclesToReach_60 n zs ((f_X2_advance zst1).2) l1 l2 (l3 + ((f_X2_advance zst1).1)) (f_X2_isReadyAt ((f_X2_advance zst1).2) l1) (l5 + (1 : Int32)) else (-1 : Int32))) else l3))
def f_X11_cyclesToReach (zs : fb_MS) (zst1 : fb_MS) (l1 : Int32) (l2 : Int32) : Int32 := f_X11_cyclesToReach_60 ((fb_mu (0 : Int32) (1000000 : Int32)) + 1) zs ((f_X2_copyFrom zst1 zs)) l1 l2 (0 : Int32) (f_X2_isReadyAt ((f_X2_copyFrom zst1 zs)) l1) (0 : Int32)
set_option maxHeartbeats 4000000 in
set_option maxRecDepth 100000 in
theorem b_X11_cyclesToReach_60 {p : Program} {l : Launch} {e : Env} {s : State} {m : MethodId} {args : Array Value} {below : List Frame} {meth : Method} {c : Code} {D : va_G} {cI cJ : ClassId} {A : Nat → Prop} {zb : Nat} {zr0 : Nat} {zr1 : Nat} {zr2 : Nat} {zr3 : Nat} {zr4 : Nat} {zr7 : Nat} {zr8 : Nat} {zr9 : Nat} {zq : Nat → Nat} {zs : fb_MS} {zw : fb_AR} {zt : Nat → Nat} {z : Int32} (X : fb_Bx p s m args meth c cX11_cyclesToReach RX11 6 (some .int) D (fb_ty D cI cJ) A)  : ∀ (n : Nat) {zst1 : fb_MS} {zwt : fb_AR} {l1 : Int32} {l2 : Int32} {l3 : Int32} {l4 : Int32} {l5 : Int32} {H : Heap} {locs : List Loc} {ls : Array Slot} (hm : (fb_mu l5 (1000000 : Int32)) < n) (I : fb_In D A s.heap ((fb_o11 zb zr0 zr1 zr2 zr3 zr4 (zq 0) (zt 0) zr7 zr8 zr9) ++ ((fb_mw cI zq zs zw) ++ (fb_mw cI zt zst1 zwt))) H locs) (hl : lv_has ls 6 [(0, .ref zb), (1, .int l1), (2, .int l2), (3, .int l3), (4, .int l4), (5, .int l5)]) (E : z = f_X11_cyclesToReach_60 n zs zst1 l1 l2 l3 l4 l5), W p l e ({ frames := 6, cells := 0, slots := 0, locals := 153 } : Room) s m args below meth c H locs 0 0 (MQ below (fb_QI D A (fun (r : Int32) (_ : fb_MS × fb_AR) => r = z) (fun (t : fb_MS × fb_AR) => (fb_o11 zb zr0 zr1 zr2 zr3 zr4 (zq 0) (zt 0) zr7 zr8 zr9) ++ ((fb_mw cI zq zs zw) ++ (fb_mw cI zt (t.1) (t.2))))) args s 0 0 A) (F0 m 60 ls []) := by
  intro n
  obtain ⟨hx, hb, hr, hml, hown, hts, hlk, hA, hK, hF⟩ := id X
  induction n with
  | zero =>
    intro zst1 zwt l1 l2 l3 l4 l5 H locs ls hm
    exact absurd hm (Nat.not_lt_zero _)
  | succ n ih =>
    intro zst1 zwt l1 l2 l3 l4 l5 H locs ls hm I hl E
    refine lv_iload hx hb dX11_cyclesToReach_60 (lv_at hl 5 rfl) ?_
    refine lv_ldcw hx hb hown (hts _ fw_1393) dX11_cyclesToReach_62 ?_
    refine lv_icmp_ge (tgt := 114) hx hb dX11_cyclesToReach_65 (by decide) (fun c4 => ?_) (fun c4 => ?_)
    · have E5 := (E.trans (if_pos c4))
      refine lv_iload hx hb dX11_cyclesToReach_114 (lv_at hl 4 rfl) ?_
      refine lv_if_eq (tgt := 123) hx hb dX11_cyclesToReach_116 (by decide) (fun c7 => ?_) (fun c7 => ?_)
      · have E8 := (E5.trans (if_pos c7))
        refine lv_iconst (v := (-1 : Int32)) hx hb dX11_cyclesToReach_123 (by decide) ?_
        subst E8
        exact fb_retI (u := (zst1, zwt)) X I rfl rfl dX11_cyclesToReach_124
      · have E9 := (E5.trans (if_neg c7))
        refine lv_iload_n hx hb dX11_cyclesToReach_119 rfl (lv_at hl 3 rfl) ?_
        refine lv_goto (tgt := 124) hx hb dX11_cyclesToReach_120 (by decide) ?_
        subst E9
        exact fb_retI (u := (zst1, zwt)) X I rfl rfl dX11_cyclesToReach_124
    · have E6 := (E.trans (if_neg c4))
      refine lv_iload hx hb dX11_cyclesToReach_68 (lv_at hl 4 rfl) ?_
      refine lv_if_ne (tgt := 114) hx hb dX11_cyclesToReach_70 (by decide) (fun c10 => ?_) (fun c10 => ?_)
      · have E11 := (E6.trans (if_neg c10))
        refine lv_iload hx hb dX11_cyclesToReach_114 (lv_at hl 4 rfl) ?_
        refine lv_if_eq (tgt := 123) hx hb dX11_cyclesToReach_116 (by decide) (fun c13 => absurd c13 c10) (fun _ => ?_)
        refine lv_iload_n hx hb dX11_cyclesToReach_119 rfl (lv_at hl 3 rfl) ?_
        refine lv_goto (tgt := 124) hx hb dX11_cyclesToReach_120 (by decide) ?_
        subst E11
        exact fb_retI (u := (zst1, zwt)) X I rfl rfl dX11_cyclesToReach_124
      · have E12 := (E6.trans (if_pos c10))
        refine lv_iload_n hx hb dX11_cyclesToReach_73 rfl (lv_at hl 3 rfl) ?_
        refine lv_iload_n hx hb dX11_cyclesToReach_74 rfl (lv_at hl 2 rfl) ?_
        refine lv_icmp_ge (tgt := 114) hx hb dX11_cyclesToReach_75 (by decide) (fun c14 => ?_) (fun c14 => ?_)
        · have E15 := (E12.trans (if_pos c14))
          refine lv_iload hx hb dX11_cyclesToReach_114 (lv_at hl 4 rfl) ?_
          refine lv_if_eq (tgt := 123) hx hb dX11_cyclesToReach_116 (by decide) (fun _ => ?_) (fun c17 => absurd c10 c17)
          refine lv_iconst (v := (-1 : Int32)) hx hb dX11_cyclesToReach_123 (by decide) ?_
          subst E15
          exact fb_retI (u := (zst1, zwt)) X I rfl rfl dX11_cyclesToReach_124
        · have E16 := (E12.trans (if_neg c14))
          refine lv_aload_n hx hb dX11_cyclesToReach_78 rfl (lv_at hl 0 rfl) ?_
          refine fb_get X I (k := 6) fu_X11 0 rfl rfl (Nat.le_of_ble_eq_true rfl) fw_693 rfl rfl dX11_cyclesToReach_79 ?_
          refine fb_roI X I (fb_runV (As := []) (rest := []) (q0 := 9) X I hl (c_X2_endReason l D cI cJ zt zst1 zwt _) (fb_goodV fw_1167 fw_1168 fw_1169 fw_198 fw_1170) rfl rfl rfl (by decide +kernel : fb_hd yX2_endReason 0) ⟨Nat.le_of_ble_eq_true rfl, Nat.le_of_ble_eq_true rfl⟩ [9, 10, 11, 12, 13, 14, 15, 16] (by decide) rfl rfl rfl rfl rfl rfl (Nat.le_of_ble_eq_true rfl) ⟨Nat.zero_le _, Nat.zero_le _⟩ dX11_cyclesToReach_82) ?_
          refine lv_if_ne (tgt := 114) hx hb dX11_cyclesToReach_85 (by decide) (fun c18 => ?_) (fun c18 => ?_)
          · have E19 := (E16.trans (if_neg c18))
            refine lv_iload hx hb dX11_cyclesToReach_114 (lv_at hl 4 rfl) ?_
            refine lv_if_eq (tgt := 123) hx hb dX11_cyclesToReach_116 (by decide) (fun _ => ?_) (fun c21 => absurd c10 c21)
            refine lv_iconst (v := (-1 : Int32)) hx hb dX11_cyclesToReach_123 (by decide) ?_
            subst E19
            exact fb_retI (u := (zst1, zwt)) X I rfl rfl dX11_cyclesToReach_124
          · have E20 := (E16.trans (if_pos c18))
            refine lv_iload_n hx hb dX11_cyclesToReach_88 rfl (lv_at hl 3 rfl) ?_
            refine lv_aload_n hx hb dX11_cyclesToReach_89 rfl (lv_at hl 0 rfl) ?_
            refine fb_get X I (k := 6) fu_X11 0 rfl rfl (Nat.le_of_ble_eq_true rfl) fw_693 rfl rfl dX11_cyclesToReach_90 ?_
            refine fb_goI (wn := fun (w22 : fb_AR) => (fb_o11 zb zr0 zr1 zr2 zr3 zr4 (zq 0) (zt 0) zr7 zr8 zr9) ++ ((fb_mw cI zq zs zw) ++ (fb_mw cI zt ((f_X2_advance zst1).2) (w22)))) X I (fb_runV (As := []) (rest := [.int l3]) (q0 := 9) X I hl (c_X2_advance l D cI cJ zt zst1 zwt _) (fb_goodV fw_1185 fw_1186 fw_1187 fw_198 fw_1188) rfl rfl rfl (by decide +kernel : fb_hd yX2_advance 0) ⟨Nat.le_of_ble_eq_true rfl, Nat.le_of_ble_eq_true rfl⟩ [9, 10, 11, 12, 13, 14, 15, 16] (by decide) rfl rfl rfl rfl rfl rfl (Nat.le_of_ble_eq_true rfl) ⟨Nat.zero_le _, Nat.zero_le _⟩ dX11_cyclesToReach_93) [9, 10, 11, 12, 13, 14, 15, 16] [0, 1, 2, 3, 4, 5, 6, 7, 8] [0, 1, 2, 3, 4, 5, 6, 7, 8, 9, 10, 11, 12, 13, 14, 15, 16] rfl rfl (by decide) (by decide) (by decide) (fun _ => rfl) ?_
            intro r23 w22 H locs e0 I
            subst e0
            refine lv_iadd hx hb dX11_cyclesToReach_96 ?_
            refine lv_istore_n (lv' := [(3, .int (l3 + ((f_X2_advance zst1).1))), (0, .ref zb), (1, .int l1), (2, .int l2), (4, .int l4), (5, .int l5)]) hx hb dX11_cyclesToReach_97 rfl hl (by decide) rfl (fun ls hl => ?_)
            refine lv_aload_n hx hb dX11_cyclesToReach_98 rfl (lv_at hl 1 rfl) ?_
            refine fb_get X I (k := 6) fu_X11 0 rfl rfl (Nat.le_of_ble_eq_true rfl) fw_693 rfl rfl dX11_cyclesToReach_99 ?_
            refine lv_iload_n hx hb dX11_cyclesToReach_102 rfl (lv_at hl 2 rfl) ?_
            refine fb_roI X I (fb_runV (As := [.int l1]) (rest := []) (q0 := 9) X I hl (c_X2_isReadyAt l D cI cJ zt ((f_X2_advance zst1).2) (w22) l1 _) (fb_goodV fw_1903 fw_1904 fw_1905 fw_198 fw_1906) rfl rfl rfl (by decide +kernel : fb_hd yX2_isReadyAt 1) ⟨Nat.le_of_ble_eq_true rfl, Nat.le_of_ble_eq_true rfl⟩ [9, 10, 11, 12, 13, 14, 15, 16] (by decide) rfl rfl rfl rfl rfl rfl (Nat.le_of_ble_eq_true rfl) ⟨Nat.zero_le _, Nat.zero_le _⟩ dX11_cyclesToReach_103) ?_
            refine lv_istore (lv' := [(4, .int (f_X2_isReadyAt ((f_X2_advance zst1).2) l1)), (3, .int (l3 + ((f_X2_advance zst1).1))), (0, .ref zb), (1, .int l1), (2, .int l2), (5, .int l5)]) hx hb dX11_cyclesToReach_106 hl (by decide) rfl (fun ls hl => ?_)
            refine lv_iinc (v := (l5 + (1 : Int32))) (lv' := [(5, .int (l5 + (1 : Int32))), (4, .int (f_X2_isReadyAt ((f_X2_advance zst1).2) l1)), (3, .int (l3 + ((f_X2_advance zst1).1))), (0, .ref zb), (1, .int l1), (2, .int l2)]) hx hb dX11_cyclesToReach_108 hl (k := 5) rfl rfl (by decide) rfl (fun ls hl => ?_)
            refine lv_goto (tgt := 60) hx hb dX11_cyclesToReach_111 (by decide) ?_
            exact ih (l1 := l1) (l2 := l2) (l3 := (l3 + ((f_X2_advance zst1).1))) (l4 := (f_X2_isReadyAt ((f_X2_advance zst1).2) l1)) (l5 := (l5 + (1 : Int32))) (fb_mu_ge c4 hm)  I (lv_sub hl [3, 4, 5, 2, 1, 0] rfl) E20
set_option maxHeartbeats 4000000 in
set_option maxRecDepth 100000 in
theorem b_X11_cyclesToReach_0 {p : Program} {l : Launch} {e : Env} {s : State} {m : MethodId} {args : Array Value} {below : List Frame} {meth : Method} {c : Code} {D : va_G} {cI cJ : ClassId} {A : Nat → Prop} {zb : Nat} {zr0 : Nat} {zr1 : Nat} {zr2 : Nat} {zr3 : Nat} {zr4 : Nat} {zr7 : Nat} {zr8 : Nat} {zr9 : Nat} {zq : Nat → Nat} {zs : fb_MS} {zw : fb_AR} {zt : Nat → Nat} {z : Int32} (X : fb_Bx p s m args meth c cX11_cyclesToReach RX11 6 (some .int) D (fb_ty D cI cJ) A) {zst1 : fb_MS} {zwt : fb_AR} {l1 : Int32} {l2 : Int32} {H : Heap} {locs : List Loc} {ls : Array Slot} (gA : f_X11_isNoAddress l1 = 0) (gs : f_X11_isNoSpan l2 = 0) (I : fb_In D A s.heap ((fb_o11 zb zr0 zr1 zr2 zr3 zr4 (zq 0) (zt 0) zr7 zr8 zr9) ++ ((fb_mw cI zq zs zw) ++ (fb_mw cI zt zst1 zwt))) H locs) (hl : lv_has ls 6 [(0, .ref zb), (1, .int l1), (2, .int l2)]) (E : z = f_X11_cyclesToReach zs zst1 l1 l2) : W p l e ({ frames := 6, cells := 0, slots := 0, locals := 153 } : Room) s m args below meth c H locs 0 0 (MQ below (fb_QI D A (fun (r : Int32) (_ : fb_MS × fb_AR) => r = z) (fun (t : fb_MS × fb_AR) => (fb_o11 zb zr0 zr1 zr2 zr3 zr4 (zq 0) (zt 0) zr7 zr8 zr9) ++ ((fb_mw cI zq zs zw) ++ (fb_mw cI zt (t.1) (t.2))))) args s 0 0 A) (F0 m 0 ls []) := by
  obtain ⟨hx, hb, hr, hml, hown, hts, hlk, hA, hK, hF⟩ := id X
  refine lv_iload_n hx hb dX11_cyclesToReach_0 rfl (lv_at hl 1 rfl) ?_
  refine fb_roI X I (fb_runS (As := [.int l1]) (rest := []) X I hl (c_X11_isNoAddress l D cI cJ l1 _) (fb_goodS fw_1717 fw_1718 fw_191 fw_1719) rfl rfl (by decide +kernel : fb_hd yX11_isNoAddress 1) ⟨Nat.le_of_ble_eq_true rfl, Nat.le_of_ble_eq_true rfl⟩ [] (by decide) rfl rfl rfl (Nat.le_of_ble_eq_true rfl) ⟨Nat.zero_le _, Nat.zero_le _⟩ dX11_cyclesToReach_1) ?_
  refine lv_if_eq (tgt := 17) hx hb dX11_cyclesToReach_4 (by decide) (fun _ => ?_) (fun c1 => absurd gA c1)
  refine lv_iload_n hx hb dX11_cyclesToReach_17 rfl (lv_at hl 2 rfl) ?_
  refine fb_roI X I (fb_runS (As := [.int l2]) (rest := []) X I hl (c_X11_isNoSpan l D cI cJ l2 _) (fb_goodS fw_1779 fw_1780 fw_191 fw_1781) rfl rfl (by decide +kernel : fb_hd yX11_isNoSpan 1) ⟨Nat.le_of_ble_eq_true rfl, Nat.le_of_ble_eq_true rfl⟩ [] (by decide) rfl rfl rfl (Nat.le_of_ble_eq_true rfl) ⟨Nat.zero_le _, Nat.zero_le _⟩ dX11_cyclesToReach_18) ?_
  refine lv_if_eq (tgt := 34) hx hb dX11_cyclesToReach_21 (by decide) (fun _ => ?_) (fun c2 => absurd gs c2)
  refine lv_aload_n hx hb dX11_cyclesToReach_34 rfl (lv_at hl 0 rfl) ?_
  refine fb_get X I (k := 6) fu_X11 0 rfl rfl (Nat.le_of_ble_eq_true rfl) fw_693 rfl rfl dX11_cyclesToReach_35 ?_
  refine lv_aload_n hx hb dX11_cyclesToReach_38 rfl (lv_at hl 0 rfl) ?_
  refine fb_get X I (k := 5) fu_X11 0 rfl rfl (Nat.le_of_ble_eq_true rfl) fw_692 rfl rfl dX11_cyclesToReach_39 ?_
  refine fb_goV (wn := fun (w3 : fb_AR) => (fb_o11 zb zr0 zr1 zr2 zr3 zr4 (zq 0) (zt 0) zr7 zr8 zr9) ++ ((fb_mw cI zq zs zw) ++ (fb_mw cI zt ((f_X2_copyFrom zst1 zs)) (w3)))) X I (fb_runV (As := [.ref (zq 0)]) (rest := []) (q0 := 9) X I hl (c_X2_copyFrom l D cI cJ zt zst1 zwt zq zs zw _) (fb_goodV fw_1895 fw_1176 fw_1177 fw_198 fw_1178) rfl rfl rfl (by decide +kernel : fb_hd yX2_copyFrom 1) ⟨Nat.le_of_ble_eq_true rfl, Nat.le_of_ble_eq_true rfl⟩ [9, 10, 11, 12, 13, 14, 15, 16, 1, 2, 3, 4, 5, 6, 7, 8] (by decide) rfl rfl rfl rfl rfl rfl (Nat.le_of_ble_eq_true rfl) ⟨Nat.zero_le _, Nat.zero_le _⟩ dX11_cyclesToReach_42) [9, 10, 11, 12, 13, 14, 15, 16, 1, 2, 3, 4, 5, 6, 7, 8] [0] [0, 9, 10, 11, 12, 13, 14, 15, 16, 1, 2, 3, 4, 5, 6, 7, 8] rfl rfl (by decide) (by decide) (by decide) (fun _ => rfl) ?_
  intro w3 H locs _ I
  refine lv_iconst (v := (0 : Int32)) hx hb dX11_cyclesToReach_45 (by decide) ?_
  refine lv_istore_n (lv' := [(3, .int (0 : Int32)), (0, .ref zb), (1, .int l1), (2, .int l2)]) hx hb dX11_cyclesToReach_46 rfl hl (by decide) rfl (fun ls hl => ?_)
  refine lv_aload_n hx hb dX11_cyclesToReach_47 rfl (lv_at hl 1 rfl) ?_
  refine fb_get X I (k := 6) fu_X11 0 rfl rfl (Nat.le_of_ble_eq_true rfl) fw_693 rfl rfl dX11_cyclesToReach_48 ?_
  refine lv_iload_n hx hb dX11_cyclesToReach_51 rfl (lv_at hl 2 rfl) ?_
  refine fb_roI X I (fb_runV (As := [.int l1]) (rest := []) (q0 := 9) X I hl (c_X2_isReadyAt l D cI cJ zt ((f_X2_copyFrom zst1 zs)) (w3) l1 _) (fb_goodV fw_1903 fw_1904 fw_1905 fw_198 fw_1906) rfl rfl rfl (by decide +kernel : fb_hd yX2_isReadyAt 1) ⟨Nat.le_of_ble_eq_true rfl, Nat.le_of_ble_eq_true rfl⟩ [9, 10, 11, 12, 13, 14, 15, 16] (by decide) rfl rfl rfl rfl rfl rfl (Nat.le_of_ble_eq_true rfl) ⟨Nat.zero_le _, Nat.zero_le _⟩ dX11_cyclesToReach_52) ?_
  refine lv_istore (lv' := [(4, .int (f_X2_isReadyAt ((f_X2_copyFrom zst1 zs)) l1)), (3, .int (0 : Int32)), (0, .ref zb), (1, .int l1), (2, .int l2)]) hx hb dX11_cyclesToReach_55 hl (by decide) rfl (fun ls hl => ?_)
  refine lv_iconst (v := (0 : Int32)) hx hb dX11_cyclesToReach_57 (by decide) ?_
  refine lv_istore (lv' := [(5, .int (0 : Int32)), (4, .int (f_X2_isReadyAt ((f_X2_copyFrom zst1 zs)) l1)), (3, .int (0 : Int32)), (0, .ref zb), (1, .int l1), (2, .int l2)]) hx hb dX11_cyclesToReach_58 hl (by decide) rfl (fun ls hl => ?_)
  exact b_X11_cyclesToReach_60 X  ((fb_mu (0 : Int32) (1000000 : Int32)) + 1) (l1 := l1) (l2 := l2) (l3 := (0 : Int32)) (l4 := (f_X2_isReadyAt ((f_X2_copyFrom zst1 zs)) l1)) (l5 := (0 : Int32)) (Nat.lt_succ_self _)  I (lv_sub hl [3, 4, 5, 2, 1, 0] rfl) E
set_option maxHeartbeats 4000000 in
set_option maxRecDepth 100000 in
theorem c_X11_cyclesToReach (l : Launch) (D : va_G) (cI cJ : ClassId) (zb : Nat) (zr0 : Nat) (zr1 : Nat) (zr2 : Nat) (zr3 : Nat) (zr4 : Nat) (zr7 : Nat) (zr8 : Nat) (zr9 : Nat) (zq : Nat → Nat) (zs : fb_MS) (zw : fb_AR) (zt : Nat → Nat) (zst1 : fb_MS) (zwt : fb_AR) (l1 : Int32) (l2 : Int32) (sz : Nat) (gA : f_X11_isNoAddress l1 = 0) (gs : f_X11_isNoSpan l2 = 0) : Met l yX11_cyclesToReach (Cond.code yX11_cyclesToReach cX11_cyclesToReach 6 (some .int) :: fb_all) ({ frames := 6, cells := 0, slots := 0, locals := 153 } : Room) (fb_PP D (fb_ty D cI cJ) [.ref zb, .int l1, .int l2] ((fb_o11 zb zr0 zr1 zr2 zr3 zr4 (zq 0) (zt 0) zr7 zr8 zr9) ++ ((fb_mw cI zq zs zw) ++ (fb_mw cI zt zst1 zwt))) sz) (fb_QI D (va_A ((fb_o11 zb zr0 zr1 zr2 zr3 zr4 (zq 0) (zt 0) zr7 zr8 zr9) ++ ((fb_mw cI zq zs zw) ++ (fb_mw cI zt zst1 zwt))) sz) (fun (r : Int32) (_ : fb_MS × fb_AR) => r = ((f_X11_cyclesToReach zs zst1 l1 l2))) (fun (t : fb_MS × fb_AR) => (fb_o11 zb zr0 zr1 zr2 zr3 zr4 (zq 0) (zt 0) zr7 zr8 zr9) ++ ((fb_mw cI zq zs zw) ++ (fb_mw cI zt (t.1) (t.2))))) 0 0 (va_A ((fb_o11 zb zr0 zr1 zr2 zr3 zr4 (zq 0) (zt 0) zr7 zr8 zr9) ++ ((fb_mw cI zq zs zw) ++ (fb_mw cI zt zst1 zwt))) sz) := by
  refine fb_ent (Qf := fun A => (fb_QI D A (fun (r : Int32) (_ : fb_MS × fb_AR) => r = ((f_X11_cyclesToReach zs zst1 l1 l2))) (fun (t : fb_MS × fb_AR) => (fb_o11 zb zr0 zr1 zr2 zr3 zr4 (zq 0) (zt 0) zr7 zr8 zr9) ++ ((fb_mw cI zq zs zw) ++ (fb_mw cI zt (t.1) (t.2)))))) (by decide +kernel) (Nat.le_of_ble_eq_true rfl) ?_
  intro p e s m args below meth c A ls X I hl hin
  exact b_X11_cyclesToReach_0 X gA gs I hl rfl
/-! X2_writesTo -/
def f_X2_writesTo (zs : fb_MS) (l1 : Int32) : Int32 := (0 : Int32)
set_option maxHeartbeats 4000000 in
set_option maxRecDepth 100000 in
theorem b_X2_writesTo_0 {p : Program} {l : Launch} {e : Env} {s : State} {m : MethodId} {args : Array Value} {below : List Frame} {meth : Method} {c : Code} {D : va_G} {cI cJ : ClassId} {A : Nat → Prop} {zq : Nat → Nat} (X : fb_Bx p s m args meth c cX2_writesTo RX2 4 (some .int) D (fb_ty D cI cJ) A) {zs : fb_MS} {zw : fb_AR} {l1 : Int32} {ls : Array Slot} (h14 : zs.1 14 = 0) (I : fb_In D A s.heap ((fb_mw cI zq zs zw)) s.heap []) (hl : lv_has ls 4 [(0, .ref (zq 0)), (1, .int l1)]) : W p l e ({ frames := 1, cells := 0, slots := 0, locals := 21 } : Room) s m args below meth c s.heap [] 0 0 (MQ below (vp_Si (fun r => r = (0 : Int32))) args s 0 0 (fun _ => False)) (F0 m 0 ls []) := by
  obtain ⟨hx, hb, hr, hml, hown, hts, hlk, hA, hK, hF⟩ := id X
  refine lv_iconst (v := (0 : Int32)) hx hb dX2_writesTo_0 (by decide) ?_
  refine lv_istore_n (lv' := [(2, .int (0 : Int32)), (0, .ref (zq 0)), (1, .int l1)]) hx hb dX2_writesTo_1 rfl hl (by decide) rfl (fun ls hl => ?_)
  refine lv_iconst (v := (0 : Int32)) hx hb dX2_writesTo_2 (by decide) ?_
  refine lv_istore_n (lv' := [(3, .int (0 : Int32)), (2, .int (0 : Int32)), (0, .ref (zq 0)), (1, .int l1)]) hx hb dX2_writesTo_3 rfl hl (by decide) rfl (fun ls hl => ?_)
  refine lv_iload_n hx hb dX2_writesTo_4 rfl (lv_at hl 0 rfl) ?_
  refine lv_aload_n hx hb dX2_writesTo_5 rfl (lv_at hl 2 rfl) ?_
  refine fb_get X I (k := 14) fu_X2 0 rfl rfl (Nat.le_of_ble_eq_true rfl) fw_543 rfl rfl dX2_writesTo_6 ?_
  refine lv_icmp_ge (tgt := 37) hx hb dX2_writesTo_9 (by decide) (fun _ => ?_) (fun c1 => absurd (by rw [h14]; decide) c1)
  refine lv_iload_n hx hb dX2_writesTo_37 rfl (lv_at hl 1 rfl) ?_
  exact fb_retRI X rfl rfl dX2_writesTo_38
set_option maxHeartbeats 4000000 in
set_option maxRecDepth 100000 in
theorem c_X2_writesTo (l : Launch) (D : va_G) (cI cJ : ClassId) (zq : Nat → Nat) (zs : fb_MS) (zw : fb_AR) (l1 : Int32) (sz : Nat) (h14 : zs.1 14 = 0) : Met l yX2_writesTo (Cond.code yX2_writesTo cX2_writesTo 4 (some .int) :: fb_all) ({ frames := 1, cells := 0, slots := 0, locals := 21 } : Room) (fb_PP D (fb_ty D cI cJ) [.ref (zq 0), .int l1] ((fb_mw cI zq zs zw)) sz) (vp_Si (fun r => r = (0 : Int32))) 0 0 (fun _ => False) := by
  refine fb_entR (by decide +kernel) (Nat.le_of_ble_eq_true rfl) ?_
  intro p e s m args below meth c A ls X I hl hin
  exact b_X2_writesTo_0 X h14 I hl
/-! X11_writesIn -/
def f_X11_writesIn_53  : Nat → fb_MS → fb_MS → Int32 → Int32 → Int32 → Int32 → Int32 → Int32
  | 0, zs, zst1, _, _, _, _, _ => 0
  | n + 1, zs, zst1, l1, l2, l3, l4, l5 => (if (1000000 : Int32) ≤ l5 then l4 else (if l2 ≤ l3 then l4 else (if (f_X2_endReason zst1) = 0 then f_X11_writesIn_53 n zs ((f_X2_advance zst1).2) l1 l2 (l3 + ((f_X2_advance zst1).1)) (l4 + (0 : Int32)) (l5 + (1 : Int32)) else l4)))
def f_X11_writesIn (zs : fb_MS) (zst1 : fb_MS) (l1 : Int32) (l2 : Int32) : Int32 := f_X11_writesIn_53 ((fb_mu (0 : Int32) (1000000 : Int32)) + 1) zs ((f_X2_copyFrom zst1 zs)) l1 l2 (0 : Int32) (0 : Int32) (0 : Int32)
set_option maxHeartbeats 4000000 in
set_option maxRecDepth 100000 in
theorem b_X11_writesIn_53 {p : Program} {l : Launch} {e : Env} {s : State} {m : MethodId} {args : Array Value} {below : List Frame} {meth : Method} {c : Code} {D : va_G} {cI cJ : ClassId} {A : Nat → Prop} {zb : Nat} {zr0 : Nat} {zr1 : Nat} {zr2 : Nat} {zr3 : Nat} {zr4 : Nat} {zr7 : Nat} {zr8 : Nat} {zr9 : Nat} {zq : Nat → Nat} {zs : fb_MS} {zw : fb_AR} {zt : Nat → Nat} {z : Int32} (X : fb_Bx p s m args meth c cX11_writesIn RX11 6 (some .int) D (fb_ty D cI cJ) A) (zP : fb_MS → Prop) (hT : ∀ s : fb_MS, zP s → (f_X2_advance s).2.1 14 = 0 ∧ zP (f_X2_advance s).2) : ∀ (n : Nat) {zst1 : fb_MS} {zwt : fb_AR} {l1 : Int32} {l2 : Int32} {l3 : Int32} {l4 : Int32} {l5 : Int32} {H : Heap} {locs : List Loc} {ls : Array Slot} (hm : (fb_mu l5 (1000000 : Int32)) < n) (hv : zP zst1) (I : fb_In D A s.heap ((fb_o11 zb zr0 zr1 zr2 zr3 zr4 (zq 0) (zt 0) zr7 zr8 zr9) ++ ((fb_mw cI zq zs zw) ++ (fb_mw cI zt zst1 zwt))) H locs) (hl : lv_has ls 6 [(0, .ref zb), (1, .int l1), (2, .int l2), (3, .int l3), (4, .int l4), (5, .int l5)]) (E : z = f_X11_writesIn_53 n zs zst1 l1 l2 l3 l4 l5), W p l e ({ frames := 6, cells := 0, slots := 0, locals := 153 } : Room) s m args below meth c H locs 0 0 (MQ below (fb_QI D A (fun (r : Int32) (_ : fb_MS × fb_AR) => r = z) (fun (t : fb_MS × fb_AR) => (fb_o11 zb zr0 zr1 zr2 zr3 zr4 (zq 0) (zt 0) zr7 zr8 zr9) ++ ((fb_mw cI zq zs zw) ++ (fb_mw cI zt (t.1) (t.2))))) args s 0 0 A) (F0 m 53 ls []) := by
  intro n
  obtain ⟨hx, hb, hr, hml, hown, hts, hlk, hA, hK, hF⟩ := id X
  induction n with
  | zero =>
    intro zst1 zwt l1 l2 l3 l4 l5 H locs ls hm
    exact absurd hm (Nat.not_lt_zero _)
  | succ n ih =>
    intro zst1 zwt l1 l2 l3 l4 l5 H locs ls hm hv I hl E
    refine lv_iload hx hb dX11_writesIn_53 (lv_at hl 5 rfl) ?_
    refine lv_ldcw hx hb hown (hts _ fw_1393) dX11_writesIn_55 ?_
    refine lv_icmp_ge (tgt := 105) hx hb dX11_writesIn_58 (by decide) (fun c4 => ?_) (fun c4 => ?_)
    · have E5 := (E.trans (if_pos c4))
      refine lv_iload hx hb dX11_writesIn_105 (lv_at hl 4 rfl) ?_
      subst E5
      exact fb_retI (u := (zst1, zwt)) X I rfl rfl dX11_writesIn_107
    · have E6 := (E.trans (if_neg c4))
      refine lv_iload_n hx hb dX11_writesIn_61 rfl (lv_at hl 3 rfl) ?_
      refine lv_iload_n hx hb dX11_writesIn_62 rfl (lv_at hl 2 rfl) ?_
      refine lv_icmp_ge (tgt := 105) hx hb dX11_writesIn_63 (by decide) (fun c7 => ?_) (fun c7 => ?_)
      · have E8 := (E6.trans (if_pos c7))
        refine lv_iload hx hb dX11_writesIn_105 (lv_at hl 4 rfl) ?_
        subst E8
        exact fb_retI (u := (zst1, zwt)) X I rfl rfl dX11_writesIn_107
      · have E9 := (E6.trans (if_neg c7))
        refine lv_aload_n hx hb dX11_writesIn_66 rfl (lv_at hl 0 rfl) ?_
        refine fb_get X I (k := 6) fu_X11 0 rfl rfl (Nat.le_of_ble_eq_true rfl) fw_693 rfl rfl dX11_writesIn_67 ?_
        refine fb_roI X I (fb_runV (As := []) (rest := []) (q0 := 9) X I hl (c_X2_endReason l D cI cJ zt zst1 zwt _) (fb_goodV fw_1167 fw_1168 fw_1169 fw_198 fw_1170) rfl rfl rfl (by decide +kernel : fb_hd yX2_endReason 0) ⟨Nat.le_of_ble_eq_true rfl, Nat.le_of_ble_eq_true rfl⟩ [9, 10, 11, 12, 13, 14, 15, 16] (by decide) rfl rfl rfl rfl rfl rfl (Nat.le_of_ble_eq_true rfl) ⟨Nat.zero_le _, Nat.zero_le _⟩ dX11_writesIn_70) ?_
        refine lv_if_ne (tgt := 105) hx hb dX11_writesIn_73 (by decide) (fun c10 => ?_) (fun c10 => ?_)
        · have E11 := (E9.trans (if_neg c10))
          refine lv_iload hx hb dX11_writesIn_105 (lv_at hl 4 rfl) ?_
          subst E11
          exact fb_retI (u := (zst1, zwt)) X I rfl rfl dX11_writesIn_107
        · have E12 := (E9.trans (if_pos c10))
          refine lv_iload_n hx hb dX11_writesIn_76 rfl (lv_at hl 3 rfl) ?_
          refine lv_aload_n hx hb dX11_writesIn_77 rfl (lv_at hl 0 rfl) ?_
          refine fb_get X I (k := 6) fu_X11 0 rfl rfl (Nat.le_of_ble_eq_true rfl) fw_693 rfl rfl dX11_writesIn_78 ?_
          refine fb_goI (wn := fun (w13 : fb_AR) => (fb_o11 zb zr0 zr1 zr2 zr3 zr4 (zq 0) (zt 0) zr7 zr8 zr9) ++ ((fb_mw cI zq zs zw) ++ (fb_mw cI zt ((f_X2_advance zst1).2) (w13)))) X I (fb_runV (As := []) (rest := [.int l3]) (q0 := 9) X I hl (c_X2_advance l D cI cJ zt zst1 zwt _) (fb_goodV fw_1185 fw_1186 fw_1187 fw_198 fw_1188) rfl rfl rfl (by decide +kernel : fb_hd yX2_advance 0) ⟨Nat.le_of_ble_eq_true rfl, Nat.le_of_ble_eq_true rfl⟩ [9, 10, 11, 12, 13, 14, 15, 16] (by decide) rfl rfl rfl rfl rfl rfl (Nat.le_of_ble_eq_true rfl) ⟨Nat.zero_le _, Nat.zero_le _⟩ dX11_writesIn_81) [9, 10, 11, 12, 13, 14, 15, 16] [0, 1, 2, 3, 4, 5, 6, 7, 8] [0, 1, 2, 3, 4, 5, 6, 7, 8, 9, 10, 11, 12, 13, 14, 15, 16] rfl rfl (by decide) (by decide) (by decide) (fun _ => rfl) ?_
          intro r14 w13 H locs e0 I
          subst e0
          refine lv_iadd hx hb dX11_writesIn_84 ?_
          refine lv_istore_n (lv' := [(3, .int (l3 + ((f_X2_advance zst1).1))), (0, .ref zb), (1, .int l1), (2, .int l2), (4, .int l4), (5, .int l5)]) hx hb dX11_writesIn_85 rfl hl (by decide) rfl (fun ls hl => ?_)
          refine lv_iload hx hb dX11_writesIn_86 (lv_at hl 4 rfl) ?_
          refine lv_aload_n hx hb dX11_writesIn_88 rfl (lv_at hl 1 rfl) ?_
          refine fb_get X I (k := 6) fu_X11 0 rfl rfl (Nat.le_of_ble_eq_true rfl) fw_693 rfl rfl dX11_writesIn_89 ?_
          refine lv_iload_n hx hb dX11_writesIn_92 rfl (lv_at hl 2 rfl) ?_
          refine fb_roI X I (fb_runV (As := [.int l1]) (rest := [.int l4]) (q0 := 9) X I hl (c_X2_writesTo l D cI cJ zt ((f_X2_advance zst1).2) (w13) l1 _ (hT _ hv).1) (fb_goodV fw_1922 fw_1923 fw_1924 fw_198 fw_1925) rfl rfl rfl (by decide +kernel : fb_hd yX2_writesTo 1) ⟨Nat.le_of_ble_eq_true rfl, Nat.le_of_ble_eq_true rfl⟩ [9, 10, 11, 12, 13, 14, 15, 16] (by decide) rfl rfl rfl rfl rfl rfl (Nat.le_of_ble_eq_true rfl) ⟨Nat.zero_le _, Nat.zero_le _⟩ dX11_writesIn_93) ?_
          refine lv_iadd hx hb dX11_writesIn_96 ?_
          refine lv_istore (lv' := [(4, .int (l4 + (0 : Int32))), (3, .int (l3 + ((f_X2_advance zst1).1))), (0, .ref zb), (1, .int l1), (2, .int l2), (5, .int l5)]) hx hb dX11_writesIn_97 hl (by decide) rfl (fun ls hl => ?_)
          refine lv_iinc (v := (l5 + (1 : Int32))) (lv' := [(5, .int (l5 + (1 : Int32))), (4, .int (l4 + (0 : Int32))), (3, .int (l3 + ((f_X2_advance zst1).1))), (0, .ref zb), (1, .int l1), (2, .int l2)]) hx hb dX11_writesIn_99 hl (k := 5) rfl rfl (by decide) rfl (fun ls hl => ?_)
          refine lv_goto (tgt := 53) hx hb dX11_writesIn_102 (by decide) ?_
          exact ih (l1 := l1) (l2 := l2) (l3 := (l3 + ((f_X2_advance zst1).1))) (l4 := (l4 + (0 : Int32))) (l5 := (l5 + (1 : Int32))) (fb_mu_ge c4 hm) ((hT _ hv).2) I (lv_sub hl [3, 4, 5, 2, 1, 0] rfl) E12
set_option maxHeartbeats 4000000 in
set_option maxRecDepth 100000 in
theorem b_X11_writesIn_0 {p : Program} {l : Launch} {e : Env} {s : State} {m : MethodId} {args : Array Value} {below : List Frame} {meth : Method} {c : Code} {D : va_G} {cI cJ : ClassId} {A : Nat → Prop} {zb : Nat} {zr0 : Nat} {zr1 : Nat} {zr2 : Nat} {zr3 : Nat} {zr4 : Nat} {zr7 : Nat} {zr8 : Nat} {zr9 : Nat} {zq : Nat → Nat} {zs : fb_MS} {zw : fb_AR} {zt : Nat → Nat} {z : Int32} (X : fb_Bx p s m args meth c cX11_writesIn RX11 6 (some .int) D (fb_ty D cI cJ) A) {zst1 : fb_MS} {zwt : fb_AR} {l1 : Int32} {l2 : Int32} {H : Heap} {locs : List Loc} {ls : Array Slot} (gA : f_X11_isNoAddress l1 = 0) (gs : f_X11_isNoSpan l2 = 0) (zP : fb_MS → Prop) (hT : ∀ s : fb_MS, zP s → (f_X2_advance s).2.1 14 = 0 ∧ zP (f_X2_advance s).2) (hP : zP (f_X2_copyFrom zst1 zs)) (I : fb_In D A s.heap ((fb_o11 zb zr0 zr1 zr2 zr3 zr4 (zq 0) (zt 0) zr7 zr8 zr9) ++ ((fb_mw cI zq zs zw) ++ (fb_mw cI zt zst1 zwt))) H locs) (hl : lv_has ls 6 [(0, .ref zb), (1, .int l1), (2, .int l2)]) (E : z = f_X11_writesIn zs zst1 l1 l2) : W p l e ({ frames := 6, cells := 0, slots := 0, locals := 153 } : Room) s m args below meth c H locs 0 0 (MQ below (fb_QI D A (fun (r : Int32) (_ : fb_MS × fb_AR) => r = z) (fun (t : fb_MS × fb_AR) => (fb_o11 zb zr0 zr1 zr2 zr3 zr4 (zq 0) (zt 0) zr7 zr8 zr9) ++ ((fb_mw cI zq zs zw) ++ (fb_mw cI zt (t.1) (t.2))))) args s 0 0 A) (F0 m 0 ls []) := by
  obtain ⟨hx, hb, hr, hml, hown, hts, hlk, hA, hK, hF⟩ := id X
  refine lv_iload_n hx hb dX11_writesIn_0 rfl (lv_at hl 1 rfl) ?_
  refine fb_roI X I (fb_runS (As := [.int l1]) (rest := []) X I hl (c_X11_isNoAddress l D cI cJ l1 _) (fb_goodS fw_1717 fw_1718 fw_191 fw_1719) rfl rfl (by decide +kernel : fb_hd yX11_isNoAddress 1) ⟨Nat.le_of_ble_eq_true rfl, Nat.le_of_ble_eq_true rfl⟩ [] (by decide) rfl rfl rfl (Nat.le_of_ble_eq_true rfl) ⟨Nat.zero_le _, Nat.zero_le _⟩ dX11_writesIn_1) ?_
  refine lv_if_eq (tgt := 17) hx hb dX11_writesIn_4 (by decide) (fun _ => ?_) (fun c1 => absurd gA c1)
  refine lv_iload_n hx hb dX11_writesIn_17 rfl (lv_at hl 2 rfl) ?_
  refine fb_roI X I (fb_runS (As := [.int l2]) (rest := []) X I hl (c_X11_isNoSpan l D cI cJ l2 _) (fb_goodS fw_1779 fw_1780 fw_191 fw_1781) rfl rfl (by decide +kernel : fb_hd yX11_isNoSpan 1) ⟨Nat.le_of_ble_eq_true rfl, Nat.le_of_ble_eq_true rfl⟩ [] (by decide) rfl rfl rfl (Nat.le_of_ble_eq_true rfl) ⟨Nat.zero_le _, Nat.zero_le _⟩ dX11_writesIn_18) ?_
  refine lv_if_eq (tgt := 34) hx hb dX11_writesIn_21 (by decide) (fun _ => ?_) (fun c2 => absurd gs c2)
  refine lv_aload_n hx hb dX11_writesIn_34 rfl (lv_at hl 0 rfl) ?_
  refine fb_get X I (k := 6) fu_X11 0 rfl rfl (Nat.le_of_ble_eq_true rfl) fw_693 rfl rfl dX11_writesIn_35 ?_
  refine lv_aload_n hx hb dX11_writesIn_38 rfl (lv_at hl 0 rfl) ?_
  refine fb_get X I (k := 5) fu_X11 0 rfl rfl (Nat.le_of_ble_eq_true rfl) fw_692 rfl rfl dX11_writesIn_39 ?_
  refine fb_goV (wn := fun (w3 : fb_AR) => (fb_o11 zb zr0 zr1 zr2 zr3 zr4 (zq 0) (zt 0) zr7 zr8 zr9) ++ ((fb_mw cI zq zs zw) ++ (fb_mw cI zt ((f_X2_copyFrom zst1 zs)) (w3)))) X I (fb_runV (As := [.ref (zq 0)]) (rest := []) (q0 := 9) X I hl (c_X2_copyFrom l D cI cJ zt zst1 zwt zq zs zw _) (fb_goodV fw_1895 fw_1176 fw_1177 fw_198 fw_1178) rfl rfl rfl (by decide +kernel : fb_hd yX2_copyFrom 1) ⟨Nat.le_of_ble_eq_true rfl, Nat.le_of_ble_eq_true rfl⟩ [9, 10, 11, 12, 13, 14, 15, 16, 1, 2, 3, 4, 5, 6, 7, 8] (by decide) rfl rfl rfl rfl rfl rfl (Nat.le_of_ble_eq_true rfl) ⟨Nat.zero_le _, Nat.zero_le _⟩ dX11_writesIn_42) [9, 10, 11, 12, 13, 14, 15, 16, 1, 2, 3, 4, 5, 6, 7, 8] [0] [0, 9, 10, 11, 12, 13, 14, 15, 16, 1, 2, 3, 4, 5, 6, 7, 8] rfl rfl (by decide) (by decide) (by decide) (fun _ => rfl) ?_
  intro w3 H locs _ I
  refine lv_iconst (v := (0 : Int32)) hx hb dX11_writesIn_45 (by decide) ?_
  refine lv_istore_n (lv' := [(3, .int (0 : Int32)), (0, .ref zb), (1, .int l1), (2, .int l2)]) hx hb dX11_writesIn_46 rfl hl (by decide) rfl (fun ls hl => ?_)
  refine lv_iconst (v := (0 : Int32)) hx hb dX11_writesIn_47 (by decide) ?_
  refine lv_istore (lv' := [(4, .int (0 : Int32)), (3, .int (0 : Int32)), (0, .ref zb), (1, .int l1), (2, .int l2)]) hx hb dX11_writesIn_48 hl (by decide) rfl (fun ls hl => ?_)
  refine lv_iconst (v := (0 : Int32)) hx hb dX11_writesIn_50 (by decide) ?_
  refine lv_istore (lv' := [(5, .int (0 : Int32)), (4, .int (0 : Int32)), (3, .int (0 : Int32)), (0, .ref zb), (1, .int l1), (2, .int l2)]) hx hb dX11_writesIn_51 hl (by decide) rfl (fun ls hl => ?_)
  exact b_X11_writesIn_53 X zP hT ((fb_mu (0 : Int32) (1000000 : Int32)) + 1) (l1 := l1) (l2 := l2) (l3 := (0 : Int32)) (l4 := (0 : Int32)) (l5 := (0 : Int32)) (Nat.lt_succ_self _) (hP) I (lv_sub hl [3, 4, 5, 2, 1, 0] rfl) E
set_option maxHeartbeats 4000000 in
set_option maxRecDepth 100000 in
theorem c_X11_writesIn (l : Launch) (D : va_G) (cI cJ : ClassId) (zb : Nat) (zr0 : Nat) (zr1 : Nat) (zr2 : Nat) (zr3 : Nat) (zr4 : Nat) (zr7 : Nat) (zr8 : Nat) (zr9 : Nat) (zq : Nat → Nat) (zs : fb_MS) (zw : fb_AR) (zt : Nat → Nat) (zst1 : fb_MS) (zwt : fb_AR) (l1 : Int32) (l2 : Int32) (sz : Nat) (gA : f_X11_isNoAddress l1 = 0) (gs : f_X11_isNoSpan l2 = 0) (zP : fb_MS → Prop) (hT : ∀ s : fb_MS, zP s → (f_X2_advance s).2.1 14 = 0 ∧ zP (f_X2_advance s).2) (hP : zP (f_X2_copyFrom zst1 zs)) : Met l yX11_writesIn (Cond.code yX11_writesIn cX11_writesIn 6 (some .int) :: fb_all) ({ frames := 6, cells := 0, slots := 0, locals := 153 } : Room) (fb_PP D (fb_ty D cI cJ) [.ref zb, .int l1, .int l2] ((fb_o11 zb zr0 zr1 zr2 zr3 zr4 (zq 0) (zt 0) zr7 zr8 zr9) ++ ((fb_mw cI zq zs zw) ++ (fb_mw cI zt zst1 zwt))) sz) (fb_QI D (va_A ((fb_o11 zb zr0 zr1 zr2 zr3 zr4 (zq 0) (zt 0) zr7 zr8 zr9) ++ ((fb_mw cI zq zs zw) ++ (fb_mw cI zt zst1 zwt))) sz) (fun (r : Int32) (_ : fb_MS × fb_AR) => r = ((f_X11_writesIn zs zst1 l1 l2))) (fun (t : fb_MS × fb_AR) => (fb_o11 zb zr0 zr1 zr2 zr3 zr4 (zq 0) (zt 0) zr7 zr8 zr9) ++ ((fb_mw cI zq zs zw) ++ (fb_mw cI zt (t.1) (t.2))))) 0 0 (va_A ((fb_o11 zb zr0 zr1 zr2 zr3 zr4 (zq 0) (zt 0) zr7 zr8 zr9) ++ ((fb_mw cI zq zs zw) ++ (fb_mw cI zt zst1 zwt))) sz) := by
  refine fb_ent (Qf := fun A => (fb_QI D A (fun (r : Int32) (_ : fb_MS × fb_AR) => r = ((f_X11_writesIn zs zst1 l1 l2))) (fun (t : fb_MS × fb_AR) => (fb_o11 zb zr0 zr1 zr2 zr3 zr4 (zq 0) (zt 0) zr7 zr8 zr9) ++ ((fb_mw cI zq zs zw) ++ (fb_mw cI zt (t.1) (t.2)))))) (by decide +kernel) (Nat.le_of_ble_eq_true rfl) ?_
  intro p e s m args below meth c A ls X I hl hin
  exact b_X11_writesIn_0 X gA gs zP hT hP I hl rfl
