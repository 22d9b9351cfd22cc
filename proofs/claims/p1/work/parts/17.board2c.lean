/-! X11_cyclesToHalt -/
def f_X11_cyclesToHalt_32  : Nat → fb_MS → fb_MS → Int32 → Int32 → Int32 → Int32
  | 0, zs, zst1, _, _, _ => 0
  | n + 1, zs, zst1, l1, l2, l3 => (if (1000000 : Int32) ≤ l3 then (if (f_X2_endReason zst1) = 0 then (-1 : Int32) else l2) else (if l1 ≤ l2 then (if (f_X2_endReason zst1) = 0 then (-1 : Int32) else l2) else (if (f_X2_endReason zst1) = 0 then f_X11_cyclesToHalt_32 n zs ((f_X2_advance zst1).2) l1 (l2 + ((f_X2_advance zst1).1)) (l3 + (1 : Int32)) else l2)))
def f_X11_cyclesToHalt (zs : fb_MS) (zst1 : fb_MS) (l1 : Int32) : Int32 := f_X11_cyclesToHalt_32 ((fb_mu (0 : Int32) (1000000 : Int32)) + 1) zs ((f_X2_copyFrom zst1 zs)) l1 (0 : Int32) (0 : Int32)
set_option maxHeartbeats 4000000 in
set_option maxRecDepth 100000 in
theorem b_X11_cyclesToHalt_32 {p : Program} {l : Launch} {e : Env} {s : State} {m : MethodId} {args : Array Value} {below : List Frame} {meth : Method} {c : Code} {D : va_G} {cI cJ : ClassId} {A : Nat → Prop} {zb : Nat} {zr0 : Nat} {zr1 : Nat} {zr2 : Nat} {zr3 : Nat} {zr4 : Nat} {zr7 : Nat} {zr8 : Nat} {zr9 : Nat} {zq : Nat → Nat} {zs : fb_MS} {zw : fb_AR} {zt : Nat → Nat} {z : Int32} (X : fb_Bx p s m args meth c cX11_cyclesToHalt RX11 4 (some .int) D (fb_ty D cI cJ) A)  : ∀ (n : Nat) {zst1 : fb_MS} {zwt : fb_AR} {l1 : Int32} {l2 : Int32} {l3 : Int32} {H : Heap} {locs : List Loc} {ls : Array Slot} (hm : (fb_mu l3 (1000000 : Int32)) < n) (I : fb_In D A s.heap ((fb_o11 zb zr0 zr1 zr2 zr3 zr4 (zq 0) (zt 0) zr7 zr8 zr9) ++ ((fb_mw cI zq zs zw) ++ (fb_mw cI zt zst1 zwt))) H locs) (hl : lv_has ls 4 [(0, .ref zb), (1, .int l1), (2, .int l2), (3, .int l3)]) (E : z = f_X11_cyclesToHalt_32 n zs zst1 l1 l2 l3), W p l e ({ frames := 6, cells := 0, slots := 0, locals := 153 } : Room) s m args below meth c H locs 0 0 (MQ below (fb_QI D A (fun (r : Int32) (_ : fb_MS × fb_AR) => r = z) (fun (t : fb_MS × fb_AR) => (fb_o11 zb zr0 zr1 zr2 zr3 zr4 (zq 0) (zt 0) zr7 zr8 zr9) ++ ((fb_mw cI zq zs zw) ++ (fb_mw cI zt (t.1) (t.2))))) args s 0 0 A) (F0 m 32 ls []) := by
  intro n
  obtain ⟨hx, hb, hr, hml, hown, hts, hlk, hA, hK, hF⟩ := id X
  induction n with
  | zero =>
    intro zst1 zwt l1 l2 l3 H locs ls hm
    exact absurd hm (Nat.not_lt_zero _)
  | succ n ih =>
    intro zst1 zwt l1 l2 l3 H locs ls hm I hl E
    refine lv_iload_n hx hb dX11_cyclesToHalt_32 rfl (lv_at hl 3 rfl) ?_
    refine lv_ldcw hx hb hown (hts _ fw_1393) dX11_cyclesToHalt_33 ?_
    refine lv_icmp_ge (tgt := 70) hx hb dX11_cyclesToHalt_36 (by decide) (fun c3 => ?_) (fun c3 => ?_)
    · have E4 := (E.trans (if_pos c3))
      refine lv_aload_n hx hb dX11_cyclesToHalt_70 rfl (lv_at hl 0 rfl) ?_
      refine fb_get X I (k := 6) fu_X11 0 rfl rfl (Nat.le_of_ble_eq_true rfl) fw_693 rfl rfl dX11_cyclesToHalt_71 ?_
      refine fb_roI X I (fb_runV (As := []) (rest := []) (q0 := 9) X I hl (c_X2_endReason l D cI cJ zt zst1 zwt _) (fb_goodV fw_1167 fw_1168 fw_1169 fw_198 fw_1170) rfl rfl rfl (by decide +kernel : fb_hd yX2_endReason 0) ⟨Nat.le_of_ble_eq_true rfl, Nat.le_of_ble_eq_true rfl⟩ [9, 10, 11, 12, 13, 14, 15, 16] (by decide) rfl rfl rfl rfl rfl rfl (Nat.le_of_ble_eq_true rfl) ⟨Nat.zero_le _, Nat.zero_le _⟩ dX11_cyclesToHalt_74) ?_
      refine lv_if_eq (tgt := 84) hx hb dX11_cyclesToHalt_77 (by decide) (fun c6 => ?_) (fun c6 => ?_)
      · have E7 := (E4.trans (if_pos c6))
        refine lv_iconst (v := (-1 : Int32)) hx hb dX11_cyclesToHalt_84 (by decide) ?_
        subst E7
        exact fb_retI (u := (zst1, zwt)) X I rfl rfl dX11_cyclesToHalt_85
      · have E8 := (E4.trans (if_neg c6))
        refine lv_iload_n hx hb dX11_cyclesToHalt_80 rfl (lv_at hl 2 rfl) ?_
        refine lv_goto (tgt := 85) hx hb dX11_cyclesToHalt_81 (by decide) ?_
        subst E8
        exact fb_retI (u := (zst1, zwt)) X I rfl rfl dX11_cyclesToHalt_85
    · have E5 := (E.trans (if_neg c3))
      refine lv_iload_n hx hb dX11_cyclesToHalt_39 rfl (lv_at hl 2 rfl) ?_
      refine lv_iload_n hx hb dX11_cyclesToHalt_40 rfl (lv_at hl 1 rfl) ?_
      refine lv_icmp_ge (tgt := 70) hx hb dX11_cyclesToHalt_41 (by decide) (fun c9 => ?_) (fun c9 => ?_)
      · have E10 := (E5.trans (if_pos c9))
        refine lv_aload_n hx hb dX11_cyclesToHalt_70 rfl (lv_at hl 0 rfl) ?_
        refine fb_get X I (k := 6) fu_X11 0 rfl rfl (Nat.le_of_ble_eq_true rfl) fw_693 rfl rfl dX11_cyclesToHalt_71 ?_
        refine fb_roI X I (fb_runV (As := []) (rest := []) (q0 := 9) X I hl (c_X2_endReason l D cI cJ zt zst1 zwt _) (fb_goodV fw_1167 fw_1168 fw_1169 fw_198 fw_1170) rfl rfl rfl (by decide +kernel : fb_hd yX2_endReason 0) ⟨Nat.le_of_ble_eq_true rfl, Nat.le_of_ble_eq_true rfl⟩ [9, 10, 11, 12, 13, 14, 15, 16] (by decide) rfl rfl rfl rfl rfl rfl (Nat.le_of_ble_eq_true rfl) ⟨Nat.zero_le _, Nat.zero_le _⟩ dX11_cyclesToHalt_74) ?_
        refine lv_if_eq (tgt := 84) hx hb dX11_cyclesToHalt_77 (by decide) (fun c12 => ?_) (fun c12 => ?_)
        · have E13 := (E10.trans (if_pos c12))
          refine lv_iconst (v := (-1 : Int32)) hx hb dX11_cyclesToHalt_84 (by decide) ?_
          subst E13
          exact fb_retI (u := (zst1, zwt)) X I rfl rfl dX11_cyclesToHalt_85
        · have E14 := (E10.trans (if_neg c12))
          refine lv_iload_n hx hb dX11_cyclesToHalt_80 rfl (lv_at hl 2 rfl) ?_
          refine lv_goto (tgt := 85) hx hb dX11_cyclesToHalt_81 (by decide) ?_
          subst E14
          exact fb_retI (u := (zst1, zwt)) X I rfl rfl dX11_cyclesToHalt_85
      · have E11 := (E5.trans (if_neg c9))
        refine lv_aload_n hx hb dX11_cyclesToHalt_44 rfl (lv_at hl 0 rfl) ?_
        refine fb_get X I (k := 6) fu_X11 0 rfl rfl (Nat.le_of_ble_eq_true rfl) fw_693 rfl rfl dX11_cyclesToHalt_45 ?_
        refine fb_roI X I (fb_runV (As := []) (rest := []) (q0 := 9) X I hl (c_X2_endReason l D cI cJ zt zst1 zwt _) (fb_goodV fw_1167 fw_1168 fw_1169 fw_198 fw_1170) rfl rfl rfl (by decide +kernel : fb_hd yX2_endReason 0) ⟨Nat.le_of_ble_eq_true rfl, Nat.le_of_ble_eq_true rfl⟩ [9, 10, 11, 12, 13, 14, 15, 16] (by decide) rfl rfl rfl rfl rfl rfl (Nat.le_of_ble_eq_true rfl) ⟨Nat.zero_le _, Nat.zero_le _⟩ dX11_cyclesToHalt_48) ?_
        refine lv_if_ne (tgt := 70) hx hb dX11_cyclesToHalt_51 (by decide) (fun c15 => ?_) (fun c15 => ?_)
        · have E16 := (E11.trans (if_neg c15))
          refine lv_aload_n hx hb dX11_cyclesToHalt_70 rfl (lv_at hl 0 rfl) ?_
          refine fb_get X I (k := 6) fu_X11 0 rfl rfl (Nat.le_of_ble_eq_true rfl) fw_693 rfl rfl dX11_cyclesToHalt_71 ?_
          refine fb_roI X I (fb_runV (As := []) (rest := []) (q0 := 9) X I hl (c_X2_endReason l D cI cJ zt zst1 zwt _) (fb_goodV fw_1167 fw_1168 fw_1169 fw_198 fw_1170) rfl rfl rfl (by decide +kernel : fb_hd yX2_endReason 0) ⟨Nat.le_of_ble_eq_true rfl, Nat.le_of_ble_eq_true rfl⟩ [9, 10, 11, 12, 13, 14, 15, 16] (by decide) rfl rfl rfl rfl rfl rfl (Nat.le_of_ble_eq_true rfl) ⟨Nat.zero_le _, Nat.zero_le _⟩ dX11_cyclesToHalt_74) ?_
          refine lv_if_eq (tgt := 84) hx hb dX11_cyclesToHalt_77 (by decide) (fun c18 => absurd c18 c15) (fun _ => ?_)
          refine lv_iload_n hx hb dX11_cyclesToHalt_80 rfl (lv_at hl 2 rfl) ?_
          refine lv_goto (tgt := 85) hx hb dX11_cyclesToHalt_81 (by decide) ?_
          subst E16
          exact fb_retI (u := (zst1, zwt)) X I rfl rfl dX11_cyclesToHalt_85
        · have E17 := (E11.trans (if_pos c15))
          refine lv_iload_n hx hb dX11_cyclesToHalt_54 rfl (lv_at hl 2 rfl) ?_
          refine lv_aload_n hx hb dX11_cyclesToHalt_55 rfl (lv_at hl 0 rfl) ?_
          refine fb_get X I (k := 6) fu_X11 0 rfl rfl (Nat.le_of_ble_eq_true rfl) fw_693 rfl rfl dX11_cyclesToHalt_56 ?_
          refine fb_goI (wn := fun (w19 : fb_AR) => (fb_o11 zb zr0 zr1 zr2 zr3 zr4 (zq 0) (zt 0) zr7 zr8 zr9) ++ ((fb_mw cI zq zs zw) ++ (fb_mw cI zt ((f_X2_advance zst1).2) (w19)))) X I (fb_runV (As := []) (rest := [.int l2]) (q0 := 9) X I hl (c_X2_advance l D cI cJ zt zst1 zwt _) (fb_goodV fw_1185 fw_1186 fw_1187 fw_198 fw_1188) rfl rfl rfl (by decide +kernel : fb_hd yX2_advance 0) ⟨Nat.le_of_ble_eq_true rfl, Nat.le_of_ble_eq_true rfl⟩ [9, 10, 11, 12, 13, 14, 15, 16] (by decide) rfl rfl rfl rfl rfl rfl (Nat.le_of_ble_eq_true rfl) ⟨Nat.zero_le _, Nat.zero_le _⟩ dX11_cyclesToHalt_59) [9, 10, 11, 12, 13, 14, 15, 16] [0, 1, 2, 3, 4, 5, 6, 7, 8] [0, 1, 2, 3, 4, 5, 6, 7, 8, 9, 10, 11, 12, 13, 14, 15, 16] rfl rfl (by decide) (by decide) (by decide) (fun _ => rfl) ?_
          intro r20 w19 H locs e0 I
          subst e0
          refine lv_iadd hx hb dX11_cyclesToHalt_62 ?_
          refine lv_istore_n (lv' := [(2, .int (l2 + ((f_X2_advance zst1).1))), (0, .ref zb), (1, .int l1), (3, .int l3)]) hx hb dX11_cyclesToHalt_63 rfl hl (by decide) rfl (fun ls hl => ?_)
          refine lv_iinc (v := (l3 + (1 : Int32))) (lv' := [(3, .int (l3 + (1 : Int32))), (2, .int (l2 + ((f_X2_advance zst1).1))), (0, .ref zb), (1, .int l1)]) hx hb dX11_cyclesToHalt_64 hl (k := 3) rfl rfl (by decide) rfl (fun ls hl => ?_)
          refine lv_goto (tgt := 32) hx hb dX11_cyclesToHalt_67 (by decide) ?_
          exact ih (l1 := l1) (l2 := (l2 + ((f_X2_advance zst1).1))) (l3 := (l3 + (1 : Int32))) (fb_mu_ge c3 hm)  I (lv_sub hl [2, 3, 1, 0] rfl) E17
set_option maxHeartbeats 4000000 in
set_option maxRecDepth 100000 in
theorem b_X11_cyclesToHalt_0 {p : Program} {l : Launch} {e : Env} {s : State} {m : MethodId} {args : Array Value} {below : List Frame} {meth : Method} {c : Code} {D : va_G} {cI cJ : ClassId} {A : Nat → Prop} {zb : Nat} {zr0 : Nat} {zr1 : Nat} {zr2 : Nat} {zr3 : Nat} {zr4 : Nat} {zr7 : Nat} {zr8 : Nat} {zr9 : Nat} {zq : Nat → Nat} {zs : fb_MS} {zw : fb_AR} {zt : Nat → Nat} {z : Int32} (X : fb_Bx p s m args meth c cX11_cyclesToHalt RX11 4 (some .int) D (fb_ty D cI cJ) A) {zst1 : fb_MS} {zwt : fb_AR} {l1 : Int32} {H : Heap} {locs : List Loc} {ls : Array Slot} (gs : f_X11_isNoSpan l1 = 0) (I : fb_In D A s.heap ((fb_o11 zb zr0 zr1 zr2 zr3 zr4 (zq 0) (zt 0) zr7 zr8 zr9) ++ ((fb_mw cI zq zs zw) ++ (fb_mw cI zt zst1 zwt))) H locs) (hl : lv_has ls 4 [(0, .ref zb), (1, .int l1)]) (E : z = f_X11_cyclesToHalt zs zst1 l1) : W p l e ({ frames := 6, cells := 0, slots := 0, locals := 153 } : Room) s m args below meth c H locs 0 0 (MQ below (fb_QI D A (fun (r : Int32) (_ : fb_MS × fb_AR) => r = z) (fun (t : fb_MS × fb_AR) => (fb_o11 zb zr0 zr1 zr2 zr3 zr4 (zq 0) (zt 0) zr7 zr8 zr9) ++ ((fb_mw cI zq zs zw) ++ (fb_mw cI zt (t.1) (t.2))))) args s 0 0 A) (F0 m 0 ls []) := by
  obtain ⟨hx, hb, hr, hml, hown, hts, hlk, hA, hK, hF⟩ := id X
  refine lv_iload_n hx hb dX11_cyclesToHalt_0 rfl (lv_at hl 1 rfl) ?_
  refine fb_roI X I (fb_runS (As := [.int l1]) (rest := []) X I hl (c_X11_isNoSpan l D cI cJ l1 _) (fb_goodS fw_1779 fw_1780 fw_191 fw_1781) rfl rfl (by decide +kernel : fb_hd yX11_isNoSpan 1) ⟨Nat.le_of_ble_eq_true rfl, Nat.le_of_ble_eq_true rfl⟩ [] (by decide) rfl rfl rfl (Nat.le_of_ble_eq_true rfl) ⟨Nat.zero_le _, Nat.zero_le _⟩ dX11_cyclesToHalt_1) ?_
  refine lv_if_eq (tgt := 17) hx hb dX11_cyclesToHalt_4 (by decide) (fun _ => ?_) (fun c1 => absurd gs c1)
  refine lv_aload_n hx hb dX11_cyclesToHalt_17 rfl (lv_at hl 0 rfl) ?_
  refine fb_get X I (k := 6) fu_X11 0 rfl rfl (Nat.le_of_ble_eq_true rfl) fw_693 rfl rfl dX11_cyclesToHalt_18 ?_
  refine lv_aload_n hx hb dX11_cyclesToHalt_21 rfl (lv_at hl 0 rfl) ?_
  refine fb_get X I (k := 5) fu_X11 0 rfl rfl (Nat.le_of_ble_eq_true rfl) fw_692 rfl rfl dX11_cyclesToHalt_22 ?_
  refine fb_goV (wn := fun (w2 : fb_AR) => (fb_o11 zb zr0 zr1 zr2 zr3 zr4 (zq 0) (zt 0) zr7 zr8 zr9) ++ ((fb_mw cI zq zs zw) ++ (fb_mw cI zt ((f_X2_copyFrom zst1 zs)) (w2)))) X I (fb_runV (As := [.ref (zq 0)]) (rest := []) (q0 := 9) X I hl (c_X2_copyFrom l D cI cJ zt zst1 zwt zq zs zw _) (fb_goodV fw_1895 fw_1176 fw_1177 fw_198 fw_1178) rfl rfl rfl (by decide +kernel : fb_hd yX2_copyFrom 1) ⟨Nat.le_of_ble_eq_true rfl, Nat.le_of_ble_eq_true rfl⟩ [9, 10, 11, 12, 13, 14, 15, 16, 1, 2, 3, 4, 5, 6, 7, 8] (by decide) rfl rfl rfl rfl rfl rfl (Nat.le_of_ble_eq_true rfl) ⟨Nat.zero_le _, Nat.zero_le _⟩ dX11_cyclesToHalt_25) [9, 10, 11, 12, 13, 14, 15, 16, 1, 2, 3, 4, 5, 6, 7, 8] [0] [0, 9, 10, 11, 12, 13, 14, 15, 16, 1, 2, 3, 4, 5, 6, 7, 8] rfl rfl (by decide) (by decide) (by decide) (fun _ => rfl) ?_
  intro w2 H locs _ I
  refine lv_iconst (v := (0 : Int32)) hx hb dX11_cyclesToHalt_28 (by decide) ?_
  refine lv_istore_n (lv' := [(2, .int (0 : Int32)), (0, .ref zb), (1, .int l1)]) hx hb dX11_cyclesToHalt_29 rfl hl (by decide) rfl (fun ls hl => ?_)
  refine lv_iconst (v := (0 : Int32)) hx hb dX11_cyclesToHalt_30 (by decide) ?_
  refine lv_istore_n (lv' := [(3, .int (0 : Int32)), (2, .int (0 : Int32)), (0, .ref zb), (1, .int l1)]) hx hb dX11_cyclesToHalt_31 rfl hl (by decide) rfl (fun ls hl => ?_)
  exact b_X11_cyclesToHalt_32 X  ((fb_mu (0 : Int32) (1000000 : Int32)) + 1) (l1 := l1) (l2 := (0 : Int32)) (l3 := (0 : Int32)) (Nat.lt_succ_self _)  I (lv_sub hl [2, 3, 1, 0] rfl) E
set_option maxHeartbeats 4000000 in
set_option maxRecDepth 100000 in
theorem c_X11_cyclesToHalt (l : Launch) (D : va_G) (cI cJ : ClassId) (zb : Nat) (zr0 : Nat) (zr1 : Nat) (zr2 : Nat) (zr3 : Nat) (zr4 : Nat) (zr7 : Nat) (zr8 : Nat) (zr9 : Nat) (zq : Nat → Nat) (zs : fb_MS) (zw : fb_AR) (zt : Nat → Nat) (zst1 : fb_MS) (zwt : fb_AR) (l1 : Int32) (sz : Nat) (gs : f_X11_isNoSpan l1 = 0) : Met l yX11_cyclesToHalt (Cond.code yX11_cyclesToHalt cX11_cyclesToHalt 4 (some .int) :: fb_all) ({ frames := 6, cells := 0, slots := 0, locals := 153 } : Room) (fb_PP D (fb_ty D cI cJ) [.ref zb, .int l1] ((fb_o11 zb zr0 zr1 zr2 zr3 zr4 (zq 0) (zt 0) zr7 zr8 zr9) ++ ((fb_mw cI zq zs zw) ++ (fb_mw cI zt zst1 zwt))) sz) (fb_QI D (va_A ((fb_o11 zb zr0 zr1 zr2 zr3 zr4 (zq 0) (zt 0) zr7 zr8 zr9) ++ ((fb_mw cI zq zs zw) ++ (fb_mw cI zt zst1 zwt))) sz) (fun (r : Int32) (_ : fb_MS × fb_AR) => r = ((f_X11_cyclesToHalt zs zst1 l1))) (fun (t : fb_MS × fb_AR) => (fb_o11 zb zr0 zr1 zr2 zr3 zr4 (zq 0) (zt 0) zr7 zr8 zr9) ++ ((fb_mw cI zq zs zw) ++ (fb_mw cI zt (t.1) (t.2))))) 0 0 (va_A ((fb_o11 zb zr0 zr1 zr2 zr3 zr4 (zq 0) (zt 0) zr7 zr8 zr9) ++ ((fb_mw cI zq zs zw) ++ (fb_mw cI zt zst1 zwt))) sz) := by
  refine fb_ent (Qf := fun A => (fb_QI D A (fun (r : Int32) (_ : fb_MS × fb_AR) => r = ((f_X11_cyclesToHalt zs zst1 l1))) (fun (t : fb_MS × fb_AR) => (fb_o11 zb zr0 zr1 zr2 zr3 zr4 (zq 0) (zt 0) zr7 zr8 zr9) ++ ((fb_mw cI zq zs zw) ++ (fb_mw cI zt (t.1) (t.2)))))) (by decide +kernel) (Nat.le_of_ble_eq_true rfl) ?_
  intro p e s m args below meth c A ls X I hl hin
  exact b_X11_cyclesToHalt_0 X gs I hl rfl
