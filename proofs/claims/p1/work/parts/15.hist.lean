/-! X0_forget -/
def f_X0_forget (ze0 : fb_AR) : fb_AR := (upd (upd (upd (upd ze0 2 (-1 : Int32)) 3 (-1 : Int32)) 4 (0 : Int32)) 5 (0 : Int32))
set_option maxHeartbeats 4000000 in
set_option maxRecDepth 100000 in
theorem b_X0_forget_0 {p : Program} {l : Launch} {e : Env} {s : State} {m : MethodId} {args : Array Value} {below : List Frame} {meth : Method} {c : Code} {D : va_G} {cI cJ : ClassId} {A : Nat → Prop} {zh : Nat} {zo : Nat} {zn : Nat} {z : fb_AR} (X : fb_Bx p s m args meth c cX0_forget RX0 1 none D (fb_ty D cI cJ) A) {ze0 : fb_AR} {H : Heap} {locs : List Loc} {ls : Array Slot}  (I : fb_In D A s.heap ((fb_o0 zh zo zn ze0)) H locs) (hl : lv_has ls 1 [(0, .ref zh)]) (E : z = f_X0_forget ze0) : W p l e ({ frames := 0, cells := 0, slots := 0, locals := 0 } : Room) s m args below meth c H locs 0 0 (MQ below (fb_QV D A (fun (_ : Unit) => True) (fun (t : Unit) => (fb_o0 zh zo zn (z)))) args s 0 0 A) (F0 m 0 ls []) := by
  obtain ⟨hx, hb, hr, hml, hown, hts, hlk, hA, hK, hF⟩ := id X
  refine lv_aload_n hx hb dX0_forget_0 rfl (lv_at hl 0 rfl) ?_
  refine lv_iconst (v := (-1 : Int32)) hx hb dX0_forget_1 (by decide) ?_
  refine fb_put X I (k := 2) (wn := (fb_o0 zh zo zn (upd ze0 2 (-1 : Int32)))) fu_X0 tyX0 tyX0_ok nmX0 0 rfl rfl (Nat.le_of_ble_eq_true rfl) fw_593 rfl rfl rfl rfl rfl (Nat.le_of_ble_eq_true rfl) rfl dX0_forget_2 (fun H locs I => ?_)
  refine lv_aload_n hx hb dX0_forget_5 rfl (lv_at hl 0 rfl) ?_
  refine lv_iconst (v := (-1 : Int32)) hx hb dX0_forget_6 (by decide) ?_
  refine fb_put X I (k := 3) (wn := (fb_o0 zh zo zn (upd (upd ze0 2 (-1 : Int32)) 3 (-1 : Int32)))) fu_X0 tyX0 tyX0_ok nmX0 0 rfl rfl (Nat.le_of_ble_eq_true rfl) fw_594 rfl rfl rfl rfl rfl (Nat.le_of_ble_eq_true rfl) rfl dX0_forget_7 (fun H locs I => ?_)
  refine lv_aload_n hx hb dX0_forget_10 rfl (lv_at hl 0 rfl) ?_
  refine lv_iconst (v := (0 : Int32)) hx hb dX0_forget_11 (by decide) ?_
  refine fb_put X I (k := 4) (wn := (fb_o0 zh zo zn (upd (upd (upd ze0 2 (-1 : Int32)) 3 (-1 : Int32)) 4 (0 : Int32)))) fu_X0 tyX0 tyX0_ok nmX0 0 rfl rfl (Nat.le_of_ble_eq_true rfl) fw_595 rfl rfl rfl rfl rfl (Nat.le_of_ble_eq_true rfl) rfl dX0_forget_12 (fun H locs I => ?_)
  refine lv_aload_n hx hb dX0_forget_15 rfl (lv_at hl 0 rfl) ?_
  refine lv_iconst (v := (0 : Int32)) hx hb dX0_forget_16 (by decide) ?_
  refine fb_put X I (k := 5) (wn := (fb_o0 zh zo zn (upd (upd (upd (upd ze0 2 (-1 : Int32)) 3 (-1 : Int32)) 4 (0 : Int32)) 5 (0 : Int32)))) fu_X0 tyX0 tyX0_ok nmX0 0 rfl rfl (Nat.le_of_ble_eq_true rfl) fw_596 rfl rfl rfl rfl rfl (Nat.le_of_ble_eq_true rfl) rfl dX0_forget_17 (fun H locs I => ?_)
  subst E
  exact fb_retV (u := ()) X I trivial dX0_forget_20
set_option maxHeartbeats 4000000 in
set_option maxRecDepth 100000 in
theorem c_X0_forget (l : Launch) (D : va_G) (cI cJ : ClassId) (zh : Nat) (zo : Nat) (zn : Nat) (ze0 : fb_AR)  (sz : Nat)  : Met l yX0_forget (Cond.code yX0_forget cX0_forget 1 none :: fb_all) ({ frames := 0, cells := 0, slots := 0, locals := 0 } : Room) (fb_PP D (fb_ty D cI cJ) [.ref zh] ((fb_o0 zh zo zn ze0)) sz) (fb_QV D (va_A ((fb_o0 zh zo zn ze0)) sz) (fun (_ : Unit) => True) (fun (t : Unit) => (fb_o0 zh zo zn (((f_X0_forget ze0)))))) 0 0 (va_A ((fb_o0 zh zo zn ze0)) sz) := by
  refine fb_ent (Qf := fun A => (fb_QV D A (fun (_ : Unit) => True) (fun (t : Unit) => (fb_o0 zh zo zn (((f_X0_forget ze0))))))) (by decide +kernel) (Nat.le_of_ble_eq_true rfl) ?_
  intro p e s m args below meth c A ls X I hl hin
  exact b_X0_forget_0 X  I hl rfl
/-! X0_keepUp -/
def f_X0_keepUp_131 (ze0 : fb_AR) (zo : (Nat → Nat)) (zso : fb_MS) (zn : (Nat → Nat)) (zsn : fb_MS) (zs : fb_MS) : fb_AR × (Nat → Nat) × fb_MS × (Nat → Nat) × fb_MS := (if (200 : Int32) ≤ ((upd ze0 4 ((ze0 4) + (1 : Int32))) 5) then ((upd ze0 4 ((ze0 4) + (1 : Int32))), zo, zso, zn, zsn) else ((upd (upd ze0 4 ((ze0 4) + (1 : Int32))) 5 (((upd ze0 4 ((ze0 4) + (1 : Int32))) 5) + (1 : Int32))), zo, zso, zn, zsn))
def f_X0_keepUp_67 (ze0 : fb_AR) (zo : (Nat → Nat)) (zso : fb_MS) (zn : (Nat → Nat)) (zsn : fb_MS) (zs : fb_MS) : fb_AR × (Nat → Nat) × fb_MS × (Nat → Nat) × fb_MS := (if (ze0 3) < 0 then f_X0_keepUp_131 ze0 zo zso zn zsn zs else (if ((ze0 4) - (ze0 3)) < (200 : Int32) then f_X0_keepUp_131 ze0 zo zso zn zsn zs else f_X0_keepUp_131 (upd (upd ze0 2 (ze0 3)) 3 ((upd ze0 2 (ze0 3)) 4)) zn zsn zo ((f_X2_copyFrom zso zs)) zs))
def f_X0_keepUp (ze0 : fb_AR) (zo : (Nat → Nat)) (zso : fb_MS) (zn : (Nat → Nat)) (zsn : fb_MS) (zs : fb_MS) : fb_AR × (Nat → Nat) × fb_MS × (Nat → Nat) × fb_MS := (if 0 ≤ (ze0 2) then (if 0 ≤ (ze0 3) then f_X0_keepUp_67 ze0 zo zso zn zsn zs else (if ((ze0 4) - (ze0 2)) < (200 : Int32) then f_X0_keepUp_67 ze0 zo zso zn zsn zs else f_X0_keepUp_131 (upd ze0 3 (ze0 4)) zo zso zn ((f_X2_copyFrom zsn zs)) zs)) else f_X0_keepUp_131 (upd ze0 2 (ze0 4)) zo ((f_X2_copyFrom zso zs)) zn zsn zs)
set_option maxHeartbeats 4000000 in
set_option maxRecDepth 100000 in
theorem b_X0_keepUp_131 {p : Program} {l : Launch} {e : Env} {s : State} {m : MethodId} {args : Array Value} {below : List Frame} {meth : Method} {c : Code} {D : va_G} {cI cJ : ClassId} {A : Nat → Prop} {zh : Nat} {zq : Nat → Nat} {z : fb_AR × (Nat → Nat) × fb_MS × (Nat → Nat) × fb_MS} (X : fb_Bx p s m args meth c cX0_keepUp RX0 3 none D (fb_ty D cI cJ) A) {ze0 : fb_AR} {zo : Nat → Nat} {zso : fb_MS} {zwo : fb_AR} {zn : Nat → Nat} {zsn : fb_MS} {zwn : fb_AR} {zs : fb_MS} {zw : fb_AR} {H : Heap} {locs : List Loc} {ls : Array Slot}  (I : fb_In D A s.heap ((fb_o0 zh (zo 0) (zn 0) ze0) ++ ((fb_mw cI zo zso zwo) ++ ((fb_mw cI zn zsn zwn) ++ (fb_mw cI zq zs zw)))) H locs) (hl : lv_has ls 3 [(0, .ref zh)]) (E : z = f_X0_keepUp_131 ze0 zo zso zn zsn zs) : W p l e ({ frames := 3, cells := 0, slots := 0, locals := 82 } : Room) s m args below meth c H locs 0 0 (MQ below (fb_QV D A (fun (_ : fb_AR × fb_AR) => True) (fun (t : fb_AR × fb_AR) => (fb_o0 zh ((z.2.1) 0) ((z.2.2.2.1) 0) (z.1)) ++ ((fb_mw cI (z.2.1) (z.2.2.1) (t.1)) ++ ((fb_mw cI (z.2.2.2.1) (z.2.2.2.2) (t.2)) ++ (fb_mw cI zq zs zw))))) args s 0 0 A) (F0 m 131 ls []) := by
  obtain ⟨hx, hb, hr, hml, hown, hts, hlk, hA, hK, hF⟩ := id X
  refine lv_aload_n hx hb dX0_keepUp_131 rfl (lv_at hl 0 rfl) ?_
  refine lv_dup hx hb dX0_keepUp_132 rfl ?_
  refine fb_get X I (k := 4) fu_X0 0 rfl rfl (Nat.le_of_ble_eq_true rfl) fw_595 rfl rfl dX0_keepUp_133 ?_
  refine lv_iconst (v := (1 : Int32)) hx hb dX0_keepUp_136 (by decide) ?_
  refine lv_iadd hx hb dX0_keepUp_137 ?_
  refine fb_put X I (k := 4) (wn := (fb_o0 zh (zo 0) (zn 0) (upd ze0 4 ((ze0 4) + (1 : Int32)))) ++ ((fb_mw cI zo zso zwo) ++ ((fb_mw cI zn zsn zwn) ++ (fb_mw cI zq zs zw)))) fu_X0 tyX0 tyX0_ok nmX0 0 rfl rfl (Nat.le_of_ble_eq_true rfl) fw_595 rfl rfl rfl rfl rfl (Nat.le_of_ble_eq_true rfl) rfl dX0_keepUp_138 (fun H locs I => ?_)
  refine lv_aload_n hx hb dX0_keepUp_141 rfl (lv_at hl 0 rfl) ?_
  refine fb_get X I (k := 5) fu_X0 0 rfl rfl (Nat.le_of_ble_eq_true rfl) fw_596 rfl rfl dX0_keepUp_142 ?_
  refine lv_sipush (v := (200 : Int32)) hx hb dX0_keepUp_145 (by decide) ?_
  refine lv_icmp_ge (tgt := 161) hx hb dX0_keepUp_148 (by decide) (fun c12 => ?_) (fun c12 => ?_)
  · have E13 := (E.trans (if_pos c12))
    subst E13
    exact fb_retV (u := (zwo, zwn)) X I trivial dX0_keepUp_161
  · have E14 := (E.trans (if_neg c12))
    refine lv_aload_n hx hb dX0_keepUp_151 rfl (lv_at hl 0 rfl) ?_
    refine lv_dup hx hb dX0_keepUp_152 rfl ?_
    refine fb_get X I (k := 5) fu_X0 0 rfl rfl (Nat.le_of_ble_eq_true rfl) fw_596 rfl rfl dX0_keepUp_153 ?_
    refine lv_iconst (v := (1 : Int32)) hx hb dX0_keepUp_156 (by decide) ?_
    refine lv_iadd hx hb dX0_keepUp_157 ?_
    refine fb_put X I (k := 5) (wn := (fb_o0 zh (zo 0) (zn 0) (upd (upd ze0 4 ((ze0 4) + (1 : Int32))) 5 (((upd ze0 4 ((ze0 4) + (1 : Int32))) 5) + (1 : Int32)))) ++ ((fb_mw cI zo zso zwo) ++ ((fb_mw cI zn zsn zwn) ++ (fb_mw cI zq zs zw)))) fu_X0 tyX0 tyX0_ok nmX0 0 rfl rfl (Nat.le_of_ble_eq_true rfl) fw_596 rfl rfl rfl rfl rfl (Nat.le_of_ble_eq_true rfl) rfl dX0_keepUp_158 (fun H locs I => ?_)
    subst E14
    exact fb_retV (u := (zwo, zwn)) X I trivial dX0_keepUp_161
set_option maxHeartbeats 4000000 in
set_option maxRecDepth 100000 in
theorem b_X0_keepUp_67 {p : Program} {l : Launch} {e : Env} {s : State} {m : MethodId} {args : Array Value} {below : List Frame} {meth : Method} {c : Code} {D : va_G} {cI cJ : ClassId} {A : Nat → Prop} {zh : Nat} {zq : Nat → Nat} {z : fb_AR × (Nat → Nat) × fb_MS × (Nat → Nat) × fb_MS} (X : fb_Bx p s m args meth c cX0_keepUp RX0 3 none D (fb_ty D cI cJ) A) {ze0 : fb_AR} {zo : Nat → Nat} {zso : fb_MS} {zwo : fb_AR} {zn : Nat → Nat} {zsn : fb_MS} {zwn : fb_AR} {zs : fb_MS} {zw : fb_AR} {H : Heap} {locs : List Loc} {ls : Array Slot}  (I : fb_In D A s.heap ((fb_o0 zh (zo 0) (zn 0) ze0) ++ ((fb_mw cI zo zso zwo) ++ ((fb_mw cI zn zsn zwn) ++ (fb_mw cI zq zs zw)))) H locs) (hl : lv_has ls 3 [(0, .ref zh), (1, .ref (zq 0))]) (E : z = f_X0_keepUp_67 ze0 zo zso zn zsn zs) : W p l e ({ frames := 3, cells := 0, slots := 0, locals := 82 } : Room) s m args below meth c H locs 0 0 (MQ below (fb_QV D A (fun (_ : fb_AR × fb_AR) => True) (fun (t : fb_AR × fb_AR) => (fb_o0 zh ((z.2.1) 0) ((z.2.2.2.1) 0) (z.1)) ++ ((fb_mw cI (z.2.1) (z.2.2.1) (t.1)) ++ ((fb_mw cI (z.2.2.2.1) (z.2.2.2.2) (t.2)) ++ (fb_mw cI zq zs zw))))) args s 0 0 A) (F0 m 67 ls []) := by
  obtain ⟨hx, hb, hr, hml, hown, hts, hlk, hA, hK, hF⟩ := id X
  refine lv_aload_n hx hb dX0_keepUp_67 rfl (lv_at hl 0 rfl) ?_
  refine fb_get X I (k := 3) fu_X0 0 rfl rfl (Nat.le_of_ble_eq_true rfl) fw_594 rfl rfl dX0_keepUp_68 ?_
  refine lv_if_lt (tgt := 131) hx hb dX0_keepUp_71 (by decide) (fun c15 => ?_) (fun c15 => ?_)
  · have E16 := (E.trans (if_pos c15))
    exact b_X0_keepUp_131 X   I (lv_sub hl [0] rfl) E16
  · have E17 := (E.trans (if_neg c15))
    refine lv_aload_n hx hb dX0_keepUp_74 rfl (lv_at hl 0 rfl) ?_
    refine fb_get X I (k := 4) fu_X0 0 rfl rfl (Nat.le_of_ble_eq_true rfl) fw_595 rfl rfl dX0_keepUp_75 ?_
    refine lv_aload_n hx hb dX0_keepUp_78 rfl (lv_at hl 0 rfl) ?_
    refine fb_get X I (k := 3) fu_X0 0 rfl rfl (Nat.le_of_ble_eq_true rfl) fw_594 rfl rfl dX0_keepUp_79 ?_
    refine lv_isub hx hb dX0_keepUp_82 ?_
    refine lv_sipush (v := (200 : Int32)) hx hb dX0_keepUp_83 (by decide) ?_
    refine lv_icmp_lt (tgt := 131) hx hb dX0_keepUp_86 (by decide) (fun c18 => ?_) (fun c18 => ?_)
    · have E19 := (E17.trans (if_pos c18))
      exact b_X0_keepUp_131 X   I (lv_sub hl [0] rfl) E19
    · have E20 := (E17.trans (if_neg c18))
      refine lv_aload_n hx hb dX0_keepUp_89 rfl (lv_at hl 0 rfl) ?_
      refine fb_get X I (k := 0) fu_X0 0 rfl rfl (Nat.le_of_ble_eq_true rfl) fw_591 rfl rfl dX0_keepUp_90 ?_
      refine lv_astore_n (lv' := [(2, .ref (zo 0)), (0, .ref zh), (1, .ref (zq 0))]) hx hb dX0_keepUp_93 rfl hl (by decide) rfl (fun ls hl => ?_)
      refine lv_aload_n hx hb dX0_keepUp_94 rfl (lv_at hl 1 rfl) ?_
      refine lv_aload_n hx hb dX0_keepUp_95 rfl (lv_at hl 1 rfl) ?_
      refine fb_get X I (k := 1) fu_X0 0 rfl rfl (Nat.le_of_ble_eq_true rfl) fw_592 rfl rfl dX0_keepUp_96 ?_
      refine fb_put X I (k := 0) (wn := (fb_o0 zh (zn 0) (zn 0) ze0) ++ ((fb_mw cI zo zso zwo) ++ ((fb_mw cI zn zsn zwn) ++ (fb_mw cI zq zs zw)))) fu_X0 tyX0 tyX0_ok nmX0 0 rfl rfl (Nat.le_of_ble_eq_true rfl) fw_591 rfl rfl rfl rfl rfl (Nat.le_of_ble_eq_true rfl) rfl dX0_keepUp_99 (fun H locs I => ?_)
      refine lv_aload_n hx hb dX0_keepUp_102 rfl (lv_at hl 1 rfl) ?_
      refine lv_aload_n hx hb dX0_keepUp_103 rfl (lv_at hl 1 rfl) ?_
      refine fb_get X I (k := 3) fu_X0 0 rfl rfl (Nat.le_of_ble_eq_true rfl) fw_594 rfl rfl dX0_keepUp_104 ?_
      refine fb_put X I (k := 2) (wn := (fb_o0 zh (zn 0) (zn 0) (upd ze0 2 (ze0 3))) ++ ((fb_mw cI zo zso zwo) ++ ((fb_mw cI zn zsn zwn) ++ (fb_mw cI zq zs zw)))) fu_X0 tyX0 tyX0_ok nmX0 0 rfl rfl (Nat.le_of_ble_eq_true rfl) fw_593 rfl rfl rfl rfl rfl (Nat.le_of_ble_eq_true rfl) rfl dX0_keepUp_107 (fun H locs I => ?_)
      refine lv_aload_n hx hb dX0_keepUp_110 rfl (lv_at hl 1 rfl) ?_
      refine lv_aload_n hx hb dX0_keepUp_111 rfl (lv_at hl 0 rfl) ?_
      refine fb_put X I (k := 1) (wn := (fb_o0 zh (zn 0) (zo 0) (upd ze0 2 (ze0 3))) ++ ((fb_mw cI zo zso zwo) ++ ((fb_mw cI zn zsn zwn) ++ (fb_mw cI zq zs zw)))) fu_X0 tyX0 tyX0_ok nmX0 0 rfl rfl (Nat.le_of_ble_eq_true rfl) fw_592 rfl rfl rfl rfl rfl (Nat.le_of_ble_eq_true rfl) rfl dX0_keepUp_112 (fun H locs I => ?_)
      refine lv_aload_n hx hb dX0_keepUp_115 rfl (lv_at hl 1 rfl) ?_
      refine fb_get X I (k := 1) fu_X0 0 rfl rfl (Nat.le_of_ble_eq_true rfl) fw_592 rfl rfl dX0_keepUp_116 ?_
      refine lv_aload_n hx hb dX0_keepUp_119 rfl (lv_at hl 2 rfl) ?_
      refine fb_goV (wn := fun (w21 : fb_AR) => (fb_o0 zh (zn 0) (zo 0) (upd ze0 2 (ze0 3))) ++ ((fb_mw cI zo ((f_X2_copyFrom zso zs)) (w21)) ++ ((fb_mw cI zn zsn zwn) ++ (fb_mw cI zq zs zw)))) X I (fb_runV (As := [.ref (zq 0)]) (rest := []) (q0 := 1) X I hl (c_X2_copyFrom l D cI cJ zo zso zwo zq zs zw _) (fb_goodV fw_1175 fw_1176 fw_1177 fw_198 fw_1178) rfl rfl rfl (by decide +kernel : fb_hd yX2_copyFrom 1) ⟨Nat.le_of_ble_eq_true rfl, Nat.le_of_ble_eq_true rfl⟩ [1, 2, 3, 4, 5, 6, 7, 8, 17, 18, 19, 20, 21, 22, 23, 24] (by decide) rfl rfl rfl rfl rfl rfl (Nat.le_of_ble_eq_true rfl) ⟨Nat.zero_le _, Nat.zero_le _⟩ dX0_keepUp_120) [1, 2, 3, 4, 5, 6, 7, 8, 17, 18, 19, 20, 21, 22, 23, 24] [0, 9, 10, 11, 12, 13, 14, 15, 16] [0, 9, 10, 11, 12, 13, 14, 15, 16, 1, 2, 3, 4, 5, 6, 7, 8, 17, 18, 19, 20, 21, 22, 23, 24] rfl rfl (by decide) (by decide) (by decide) (fun _ => rfl) ?_
      intro w21 H locs _ I
      refine lv_aload_n hx hb dX0_keepUp_123 rfl (lv_at hl 1 rfl) ?_
      refine lv_aload_n hx hb dX0_keepUp_124 rfl (lv_at hl 1 rfl) ?_
      refine fb_get X I (k := 4) fu_X0 0 rfl rfl (Nat.le_of_ble_eq_true rfl) fw_595 rfl rfl dX0_keepUp_125 ?_
      refine fb_put X I (k := 3) (wn := (fb_o0 zh (zn 0) (zo 0) (upd (upd ze0 2 (ze0 3)) 3 ((upd ze0 2 (ze0 3)) 4))) ++ ((fb_mw cI zo ((f_X2_copyFrom zso zs)) (w21)) ++ ((fb_mw cI zn zsn zwn) ++ (fb_mw cI zq zs zw)))) fu_X0 tyX0 tyX0_ok nmX0 0 rfl rfl (Nat.le_of_ble_eq_true rfl) fw_594 rfl rfl rfl rfl rfl (Nat.le_of_ble_eq_true rfl) rfl dX0_keepUp_128 (fun H locs I => ?_)
      have I := fb_In.pick (ws' := (fb_o0 zh (zn 0) (zo 0) (upd (upd ze0 2 (ze0 3)) 3 ((upd ze0 2 (ze0 3)) 4))) ++ ((fb_mw cI zn zsn zwn) ++ ((fb_mw cI zo ((f_X2_copyFrom zso zs)) (w21)) ++ (fb_mw cI zq zs zw)))) I [0, 9, 10, 11, 12, 13, 14, 15, 16, 1, 2, 3, 4, 5, 6, 7, 8, 17, 18, 19, 20, 21, 22, 23, 24] (by decide) rfl
      exact b_X0_keepUp_131 X   I (lv_sub hl [1] rfl) E20
set_option maxHeartbeats 4000000 in
set_option maxRecDepth 100000 in
theorem b_X0_keepUp_0 {p : Program} {l : Launch} {e : Env} {s : State} {m : MethodId} {args : Array Value} {below : List Frame} {meth : Method} {c : Code} {D : va_G} {cI cJ : ClassId} {A : Nat → Prop} {zh : Nat} {zq : Nat → Nat} {z : fb_AR × (Nat → Nat) × fb_MS × (Nat → Nat) × fb_MS} (X : fb_Bx p s m args meth c cX0_keepUp RX0 3 none D (fb_ty D cI cJ) A) {ze0 : fb_AR} {zo : Nat → Nat} {zso : fb_MS} {zwo : fb_AR} {zn : Nat → Nat} {zsn : fb_MS} {zwn : fb_AR} {zs : fb_MS} {zw : fb_AR} {H : Heap} {locs : List Loc} {ls : Array Slot}  (I : fb_In D A s.heap ((fb_o0 zh (zo 0) (zn 0) ze0) ++ ((fb_mw cI zo zso zwo) ++ ((fb_mw cI zn zsn zwn) ++ (fb_mw cI zq zs zw)))) H locs) (hl : lv_has ls 3 [(0, .ref zh), (1, .ref (zq 0))]) (E : z = f_X0_keepUp ze0 zo zso zn zsn zs) : W p l e ({ frames := 3, cells := 0, slots := 0, locals := 82 } : Room) s m args below meth c H locs 0 0 (MQ below (fb_QV D A (fun (_ : fb_AR × fb_AR) => True) (fun (t : fb_AR × fb_AR) => (fb_o0 zh ((z.2.1) 0) ((z.2.2.2.1) 0) (z.1)) ++ ((fb_mw cI (z.2.1) (z.2.2.1) (t.1)) ++ ((fb_mw cI (z.2.2.2.1) (z.2.2.2.2) (t.2)) ++ (fb_mw cI zq zs zw))))) args s 0 0 A) (F0 m 0 ls []) := by
  obtain ⟨hx, hb, hr, hml, hown, hts, hlk, hA, hK, hF⟩ := id X
  refine lv_aload_n hx hb dX0_keepUp_0 rfl (lv_at hl 0 rfl) ?_
  refine fb_get X I (k := 2) fu_X0 0 rfl rfl (Nat.le_of_ble_eq_true rfl) fw_593 rfl rfl dX0_keepUp_1 ?_
  refine lv_if_ge (tgt := 26) hx hb dX0_keepUp_4 (by decide) (fun c1 => ?_) (fun c1 => ?_)
  · have E2 := (E.trans (if_pos c1))
    refine lv_aload_n hx hb dX0_keepUp_26 rfl (lv_at hl 0 rfl) ?_
    refine fb_get X I (k := 3) fu_X0 0 rfl rfl (Nat.le_of_ble_eq_true rfl) fw_594 rfl rfl dX0_keepUp_27 ?_
    refine lv_if_ge (tgt := 67) hx hb dX0_keepUp_30 (by decide) (fun c4 => ?_) (fun c4 => ?_)
    · have E5 := (E2.trans (if_pos c4))
      exact b_X0_keepUp_67 X   I (lv_sub hl [0, 1] rfl) E5
    · have E6 := (E2.trans (if_neg c4))
      refine lv_aload_n hx hb dX0_keepUp_33 rfl (lv_at hl 0 rfl) ?_
      refine fb_get X I (k := 4) fu_X0 0 rfl rfl (Nat.le_of_ble_eq_true rfl) fw_595 rfl rfl dX0_keepUp_34 ?_
      refine lv_aload_n hx hb dX0_keepUp_37 rfl (lv_at hl 0 rfl) ?_
      refine fb_get X I (k := 2) fu_X0 0 rfl rfl (Nat.le_of_ble_eq_true rfl) fw_593 rfl rfl dX0_keepUp_38 ?_
      refine lv_isub hx hb dX0_keepUp_41 ?_
      refine lv_sipush (v := (200 : Int32)) hx hb dX0_keepUp_42 (by decide) ?_
      refine lv_icmp_lt (tgt := 67) hx hb dX0_keepUp_45 (by decide) (fun c7 => ?_) (fun c7 => ?_)
      · have E8 := (E6.trans (if_pos c7))
        exact b_X0_keepUp_67 X   I (lv_sub hl [0, 1] rfl) E8
      · have E9 := (E6.trans (if_neg c7))
        refine lv_aload_n hx hb dX0_keepUp_48 rfl (lv_at hl 0 rfl) ?_
        refine fb_get X I (k := 1) fu_X0 0 rfl rfl (Nat.le_of_ble_eq_true rfl) fw_592 rfl rfl dX0_keepUp_49 ?_
        refine lv_aload_n hx hb dX0_keepUp_52 rfl (lv_at hl 1 rfl) ?_
        refine fb_goV (wn := fun (w10 : fb_AR) => (fb_o0 zh (zo 0) (zn 0) ze0) ++ ((fb_mw cI zo zso zwo) ++ ((fb_mw cI zn ((f_X2_copyFrom zsn zs)) (w10)) ++ (fb_mw cI zq zs zw)))) X I (fb_runV (As := [.ref (zq 0)]) (rest := []) (q0 := 9) X I hl (c_X2_copyFrom l D cI cJ zn zsn zwn zq zs zw _) (fb_goodV fw_1175 fw_1176 fw_1177 fw_198 fw_1178) rfl rfl rfl (by decide +kernel : fb_hd yX2_copyFrom 1) ⟨Nat.le_of_ble_eq_true rfl, Nat.le_of_ble_eq_true rfl⟩ [9, 10, 11, 12, 13, 14, 15, 16, 17, 18, 19, 20, 21, 22, 23, 24] (by decide) rfl rfl rfl rfl rfl rfl (Nat.le_of_ble_eq_true rfl) ⟨Nat.zero_le _, Nat.zero_le _⟩ dX0_keepUp_53) [9, 10, 11, 12, 13, 14, 15, 16, 17, 18, 19, 20, 21, 22, 23, 24] [0, 1, 2, 3, 4, 5, 6, 7, 8] [0, 1, 2, 3, 4, 5, 6, 7, 8, 9, 10, 11, 12, 13, 14, 15, 16, 17, 18, 19, 20, 21, 22, 23, 24] rfl rfl (by decide) (by decide) (by decide) (fun _ => rfl) ?_
        intro w10 H locs _ I
        refine lv_aload_n hx hb dX0_keepUp_56 rfl (lv_at hl 0 rfl) ?_
        refine lv_aload_n hx hb dX0_keepUp_57 rfl (lv_at hl 0 rfl) ?_
        refine fb_get X I (k := 4) fu_X0 0 rfl rfl (Nat.le_of_ble_eq_true rfl) fw_595 rfl rfl dX0_keepUp_58 ?_
        refine fb_put X I (k := 3) (wn := (fb_o0 zh (zo 0) (zn 0) (upd ze0 3 (ze0 4))) ++ ((fb_mw cI zo zso zwo) ++ ((fb_mw cI zn ((f_X2_copyFrom zsn zs)) (w10)) ++ (fb_mw cI zq zs zw)))) fu_X0 tyX0 tyX0_ok nmX0 0 rfl rfl (Nat.le_of_ble_eq_true rfl) fw_594 rfl rfl rfl rfl rfl (Nat.le_of_ble_eq_true rfl) rfl dX0_keepUp_61 (fun H locs I => ?_)
        refine lv_goto (tgt := 131) hx hb dX0_keepUp_64 (by decide) ?_
        exact b_X0_keepUp_131 X   I (lv_sub hl [0] rfl) E9
  · have E3 := (E.trans (if_neg c1))
    refine lv_aload_n hx hb dX0_keepUp_7 rfl (lv_at hl 0 rfl) ?_
    refine fb_get X I (k := 0) fu_X0 0 rfl rfl (Nat.le_of_ble_eq_true rfl) fw_591 rfl rfl dX0_keepUp_8 ?_
    refine lv_aload_n hx hb dX0_keepUp_11 rfl (lv_at hl 1 rfl) ?_
    refine fb_goV (wn := fun (w11 : fb_AR) => (fb_o0 zh (zo 0) (zn 0) ze0) ++ ((fb_mw cI zo ((f_X2_copyFrom zso zs)) (w11)) ++ ((fb_mw cI zn zsn zwn) ++ (fb_mw cI zq zs zw)))) X I (fb_runV (As := [.ref (zq 0)]) (rest := []) (q0 := 1) X I hl (c_X2_copyFrom l D cI cJ zo zso zwo zq zs zw _) (fb_goodV fw_1175 fw_1176 fw_1177 fw_198 fw_1178) rfl rfl rfl (by decide +kernel : fb_hd yX2_copyFrom 1) ⟨Nat.le_of_ble_eq_true rfl, Nat.le_of_ble_eq_true rfl⟩ [1, 2, 3, 4, 5, 6, 7, 8, 17, 18, 19, 20, 21, 22, 23, 24] (by decide) rfl rfl rfl rfl rfl rfl (Nat.le_of_ble_eq_true rfl) ⟨Nat.zero_le _, Nat.zero_le _⟩ dX0_keepUp_12) [1, 2, 3, 4, 5, 6, 7, 8, 17, 18, 19, 20, 21, 22, 23, 24] [0, 9, 10, 11, 12, 13, 14, 15, 16] [0, 9, 10, 11, 12, 13, 14, 15, 16, 1, 2, 3, 4, 5, 6, 7, 8, 17, 18, 19, 20, 21, 22, 23, 24] rfl rfl (by decide) (by decide) (by decide) (fun _ => rfl) ?_
    intro w11 H locs _ I
    refine lv_aload_n hx hb dX0_keepUp_15 rfl (lv_at hl 0 rfl) ?_
    refine lv_aload_n hx hb dX0_keepUp_16 rfl (lv_at hl 0 rfl) ?_
    refine fb_get X I (k := 4) fu_X0 0 rfl rfl (Nat.le_of_ble_eq_true rfl) fw_595 rfl rfl dX0_keepUp_17 ?_
    refine fb_put X I (k := 2) (wn := (fb_o0 zh (zo 0) (zn 0) (upd ze0 2 (ze0 4))) ++ ((fb_mw cI zo ((f_X2_copyFrom zso zs)) (w11)) ++ ((fb_mw cI zn zsn zwn) ++ (fb_mw cI zq zs zw)))) fu_X0 tyX0 tyX0_ok nmX0 0 rfl rfl (Nat.le_of_ble_eq_true rfl) fw_593 rfl rfl rfl rfl rfl (Nat.le_of_ble_eq_true rfl) rfl dX0_keepUp_20 (fun H locs I => ?_)
    refine lv_goto (tgt := 131) hx hb dX0_keepUp_23 (by decide) ?_
    exact b_X0_keepUp_131 X   I (lv_sub hl [0] rfl) E3
set_option maxHeartbeats 4000000 in
set_option maxRecDepth 100000 in
theorem c_X0_keepUp (l : Launch) (D : va_G) (cI cJ : ClassId) (zh : Nat) (ze0 : fb_AR) (zo : Nat → Nat) (zso : fb_MS) (zwo : fb_AR) (zn : Nat → Nat) (zsn : fb_MS) (zwn : fb_AR) (zq : Nat → Nat) (zs : fb_MS) (zw : fb_AR)  (sz : Nat)  : Met l yX0_keepUp (Cond.code yX0_keepUp cX0_keepUp 3 none :: fb_all) ({ frames := 3, cells := 0, slots := 0, locals := 82 } : Room) (fb_PP D (fb_ty D cI cJ) [.ref zh, .ref (zq 0)] ((fb_o0 zh (zo 0) (zn 0) ze0) ++ ((fb_mw cI zo zso zwo) ++ ((fb_mw cI zn zsn zwn) ++ (fb_mw cI zq zs zw)))) sz) (fb_QV D (va_A ((fb_o0 zh (zo 0) (zn 0) ze0) ++ ((fb_mw cI zo zso zwo) ++ ((fb_mw cI zn zsn zwn) ++ (fb_mw cI zq zs zw)))) sz) (fun (_ : fb_AR × fb_AR) => True) (fun (t : fb_AR × fb_AR) => (fb_o0 zh ((((f_X0_keepUp ze0 zo zso zn zsn zs)).2.1) 0) ((((f_X0_keepUp ze0 zo zso zn zsn zs)).2.2.2.1) 0) (((f_X0_keepUp ze0 zo zso zn zsn zs)).1)) ++ ((fb_mw cI (((f_X0_keepUp ze0 zo zso zn zsn zs)).2.1) (((f_X0_keepUp ze0 zo zso zn zsn zs)).2.2.1) (t.1)) ++ ((fb_mw cI (((f_X0_keepUp ze0 zo zso zn zsn zs)).2.2.2.1) (((f_X0_keepUp ze0 zo zso zn zsn zs)).2.2.2.2) (t.2)) ++ (fb_mw cI zq zs zw))))) 0 0 (va_A ((fb_o0 zh (zo 0) (zn 0) ze0) ++ ((fb_mw cI zo zso zwo) ++ ((fb_mw cI zn zsn zwn) ++ (fb_mw cI zq zs zw)))) sz) := by
  refine fb_ent (Qf := fun A => (fb_QV D A (fun (_ : fb_AR × fb_AR) => True) (fun (t : fb_AR × fb_AR) => (fb_o0 zh ((((f_X0_keepUp ze0 zo zso zn zsn zs)).2.1) 0) ((((f_X0_keepUp ze0 zo zso zn zsn zs)).2.2.2.1) 0) (((f_X0_keepUp ze0 zo zso zn zsn zs)).1)) ++ ((fb_mw cI (((f_X0_keepUp ze0 zo zso zn zsn zs)).2.1) (((f_X0_keepUp ze0 zo zso zn zsn zs)).2.2.1) (t.1)) ++ ((fb_mw cI (((f_X0_keepUp ze0 zo zso zn zsn zs)).2.2.2.1) (((f_X0_keepUp ze0 zo zso zn zsn zs)).2.2.2.2) (t.2)) ++ (fb_mw cI zq zs zw)))))) (by decide +kernel) (Nat.le_of_ble_eq_true rfl) ?_
  intro p e s m args below meth c A ls X I hl hin
  exact b_X0_keepUp_0 X  I hl rfl
/-! X0_rewind -/
def f_X0_rewind_109  : Nat → fb_AR → fb_MS → fb_MS → fb_MS → Int32 → Int32 → Int32 → Int32 × fb_AR × fb_MS
  | 0, ze0, zso, zsn, zs, _, _, _ => (0, ze0, zs)
  | n + 1, ze0, zso, zsn, zs, l3, l4, l5 => (if l4 ≤ l5 then (l3, ze0, zs) else f_X0_rewind_109 n ze0 zso zsn ((f_X2_advance zs).2) l3 l4 (l5 + (1 : Int32)))
def f_X0_rewind_59 (ze0 : fb_AR) (zso : fb_MS) (zsn : fb_MS) (zs : fb_MS) (l3 : Int32) : Int32 × fb_AR × fb_MS := (if (ze0 3) < 0 then f_X0_rewind_109 ((fb_mu (0 : Int32) ((ze0 4) - (ze0 2))) + 1) ze0 zso zsn ((f_X2_copyFrom zs zso)) l3 ((ze0 4) - (ze0 2)) (0 : Int32) else f_X0_rewind_109 ((fb_mu (0 : Int32) ((ze0 4) - (ze0 3))) + 1) ze0 zso zsn ((f_X2_copyFrom zs zsn)) l3 ((ze0 4) - (ze0 3)) (0 : Int32))
def f_X0_rewind_16 (ze0 : fb_AR) (zso : fb_MS) (zsn : fb_MS) (zs : fb_MS) (k0 : Int32) : Int32 × fb_AR × fb_MS := (if k0 = 0 then ((0 : Int32), ze0, zs) else (if ((upd (upd ze0 4 ((ze0 4) - k0)) 5 (((upd ze0 4 ((ze0 4) - k0)) 5) - k0)) 3) ≤ ((upd (upd ze0 4 ((ze0 4) - k0)) 5 (((upd ze0 4 ((ze0 4) - k0)) 5) - k0)) 4) then f_X0_rewind_59 (upd (upd ze0 4 ((ze0 4) - k0)) 5 (((upd ze0 4 ((ze0 4) - k0)) 5) - k0)) zso zsn zs k0 else f_X0_rewind_59 (upd (upd (upd ze0 4 ((ze0 4) - k0)) 5 (((upd ze0 4 ((ze0 4) - k0)) 5) - k0)) 3 (-1 : Int32)) zso zsn zs k0))
def f_X0_rewind (ze0 : fb_AR) (zso : fb_MS) (zsn : fb_MS) (zs : fb_MS) (l2 : Int32) : Int32 × fb_AR × fb_MS := (if (ze0 5) ≤ l2 then f_X0_rewind_16 ze0 zso zsn zs (ze0 5) else f_X0_rewind_16 ze0 zso zsn zs l2)
set_option maxHeartbeats 4000000 in
set_option maxRecDepth 100000 in
theorem b_X0_rewind_109 {p : Program} {l : Launch} {e : Env} {s : State} {m : MethodId} {args : Array Value} {below : List Frame} {meth : Method} {c : Code} {D : va_G} {cI cJ : ClassId} {A : Nat → Prop} {zh : Nat} {zo : Nat → Nat} {zso : fb_MS} {zwo : fb_AR} {zn : Nat → Nat} {zsn : fb_MS} {zwn : fb_AR} {zq : Nat → Nat} {z : Int32 × fb_AR × fb_MS} (X : fb_Bx p s m args meth c cX0_rewind RX0 6 (some .int) D (fb_ty D cI cJ) A)  : ∀ (n : Nat) {ze0 : fb_AR} {zs : fb_MS} {zw : fb_AR} {l3 : Int32} {l4 : Int32} {l5 : Int32} {H : Heap} {locs : List Loc} {ls : Array Slot} (hm : (fb_mu l5 l4) < n) (I : fb_In D A s.heap ((fb_o0 zh (zo 0) (zn 0) ze0) ++ ((fb_mw cI zo zso zwo) ++ ((fb_mw cI zn zsn zwn) ++ (fb_mw cI zq zs zw)))) H locs) (hl : lv_has ls 6 [(1, .ref (zq 0)), (3, .int l3), (4, .int l4), (5, .int l5)]) (E : z = f_X0_rewind_109 n ze0 zso zsn zs l3 l4 l5), W p l e ({ frames := 6, cells := 0, slots := 0, locals := 153 } : Room) s m args below meth c H locs 0 0 (MQ below (fb_QI D A (fun (r : Int32) (_ : fb_AR) => r = z.1) (fun (t : fb_AR) => (fb_o0 zh (zo 0) (zn 0) (z.2.1)) ++ ((fb_mw cI zo zso zwo) ++ ((fb_mw cI zn zsn zwn) ++ (fb_mw cI zq (z.2.2) (t)))))) args s 0 0 A) (F0 m 109 ls []) := by
  intro n
  obtain ⟨hx, hb, hr, hml, hown, hts, hlk, hA, hK, hF⟩ := id X
  induction n with
  | zero =>
    intro ze0 zs zw l3 l4 l5 H locs ls hm
    exact absurd hm (Nat.not_lt_zero _)
  | succ n ih =>
    intro ze0 zs zw l3 l4 l5 H locs ls hm I hl E
    refine lv_iload hx hb dX0_rewind_109 (lv_at hl 3 rfl) ?_
    refine lv_iload hx hb dX0_rewind_111 (lv_at hl 2 rfl) ?_
    refine lv_icmp_ge (tgt := 127) hx hb dX0_rewind_113 (by decide) (fun c17 => ?_) (fun c17 => ?_)
    · have E18 := (E.trans (if_pos c17))
      refine lv_iload_n hx hb dX0_rewind_127 rfl (lv_at hl 1 rfl) ?_
      subst E18
      exact fb_retI (u := (zw)) X I rfl rfl dX0_rewind_128
    · have E19 := (E.trans (if_neg c17))
      refine lv_aload_n hx hb dX0_rewind_116 rfl (lv_at hl 0 rfl) ?_
      refine fb_goI (wn := fun (w20 : fb_AR) => (fb_o0 zh (zo 0) (zn 0) ze0) ++ ((fb_mw cI zo zso zwo) ++ ((fb_mw cI zn zsn zwn) ++ (fb_mw cI zq ((f_X2_advance zs).2) (w20))))) X I (fb_runV (As := []) (rest := []) (q0 := 17) X I hl (c_X2_advance l D cI cJ zq zs zw _) (fb_goodV fw_1795 fw_1186 fw_1187 fw_198 fw_1188) rfl rfl rfl (by decide +kernel : fb_hd yX2_advance 0) ⟨Nat.le_of_ble_eq_true rfl, Nat.le_of_ble_eq_true rfl⟩ [17, 18, 19, 20, 21, 22, 23, 24] (by decide) rfl rfl rfl rfl rfl rfl (Nat.le_of_ble_eq_true rfl) ⟨Nat.zero_le _, Nat.zero_le _⟩ dX0_rewind_117) [17, 18, 19, 20, 21, 22, 23, 24] [0, 1, 2, 3, 4, 5, 6, 7, 8, 9, 10, 11, 12, 13, 14, 15, 16] [0, 1, 2, 3, 4, 5, 6, 7, 8, 9, 10, 11, 12, 13, 14, 15, 16, 17, 18, 19, 20, 21, 22, 23, 24] rfl rfl (by decide) (by decide) (by decide) (fun _ => rfl) ?_
      intro r21 w20 H locs e0 I
      subst e0
      refine lv_pop hx hb dX0_rewind_120 rfl ?_
      refine lv_iinc (v := (l5 + (1 : Int32))) (lv' := [(5, .int (l5 + (1 : Int32))), (1, .ref (zq 0)), (3, .int l3), (4, .int l4)]) hx hb dX0_rewind_121 hl (k := 3) rfl rfl (by decide) rfl (fun ls hl => ?_)
      refine lv_goto (tgt := 109) hx hb dX0_rewind_124 (by decide) ?_
      exact ih (l3 := l3) (l4 := l4) (l5 := (l5 + (1 : Int32))) (fb_mu_ge c17 hm)  I (lv_sub hl [1, 2, 3, 0] rfl) E19
set_option maxHeartbeats 4000000 in
set_option maxRecDepth 100000 in
theorem b_X0_rewind_59 {p : Program} {l : Launch} {e : Env} {s : State} {m : MethodId} {args : Array Value} {below : List Frame} {meth : Method} {c : Code} {D : va_G} {cI cJ : ClassId} {A : Nat → Prop} {zh : Nat} {zo : Nat → Nat} {zso : fb_MS} {zwo : fb_AR} {zn : Nat → Nat} {zsn : fb_MS} {zwn : fb_AR} {zq : Nat → Nat} {z : Int32 × fb_AR × fb_MS} (X : fb_Bx p s m args meth c cX0_rewind RX0 6 (some .int) D (fb_ty D cI cJ) A) {ze0 : fb_AR} {zs : fb_MS} {zw : fb_AR} {l3 : Int32} {H : Heap} {locs : List Loc} {ls : Array Slot}  (I : fb_In D A s.heap ((fb_o0 zh (zo 0) (zn 0) ze0) ++ ((fb_mw cI zo zso zwo) ++ ((fb_mw cI zn zsn zwn) ++ (fb_mw cI zq zs zw)))) H locs) (hl : lv_has ls 6 [(0, .ref zh), (1, .ref (zq 0)), (3, .int l3)]) (E : z = f_X0_rewind_59 ze0 zso zsn zs l3) : W p l e ({ frames := 6, cells := 0, slots := 0, locals := 153 } : Room) s m args below meth c H locs 0 0 (MQ below (fb_QI D A (fun (r : Int32) (_ : fb_AR) => r = z.1) (fun (t : fb_AR) => (fb_o0 zh (zo 0) (zn 0) (z.2.1)) ++ ((fb_mw cI zo zso zwo) ++ ((fb_mw cI zn zsn zwn) ++ (fb_mw cI zq (z.2.2) (t)))))) args s 0 0 A) (F0 m 59 ls []) := by
  obtain ⟨hx, hb, hr, hml, hown, hts, hlk, hA, hK, hF⟩ := id X
  refine lv_aload_n hx hb dX0_rewind_59 rfl (lv_at hl 1 rfl) ?_
  refine lv_aload_n hx hb dX0_rewind_60 rfl (lv_at hl 0 rfl) ?_
  refine fb_get X I (k := 3) fu_X0 0 rfl rfl (Nat.le_of_ble_eq_true rfl) fw_594 rfl rfl dX0_rewind_61 ?_
  refine lv_if_lt (tgt := 74) hx hb dX0_rewind_64 (by decide) (fun c10 => ?_) (fun c10 => ?_)
  · have E11 := (E.trans (if_pos c10))
    refine lv_aload_n hx hb dX0_rewind_74 rfl (lv_at hl 0 rfl) ?_
    refine fb_get X I (k := 0) fu_X0 0 rfl rfl (Nat.le_of_ble_eq_true rfl) fw_591 rfl rfl dX0_rewind_75 ?_
    refine fb_goV (wn := fun (w13 : fb_AR) => (fb_o0 zh (zo 0) (zn 0) ze0) ++ ((fb_mw cI zo zso zwo) ++ ((fb_mw cI zn zsn zwn) ++ (fb_mw cI zq ((f_X2_copyFrom zs zso)) (w13))))) X I (fb_runV (As := [.ref (zo 0)]) (rest := []) (q0 := 17) X I hl (c_X2_copyFrom l D cI cJ zq zs zw zo zso zwo _) (fb_goodV fw_1175 fw_1176 fw_1177 fw_198 fw_1178) rfl rfl rfl (by decide +kernel : fb_hd yX2_copyFrom 1) ⟨Nat.le_of_ble_eq_true rfl, Nat.le_of_ble_eq_true rfl⟩ [17, 18, 19, 20, 21, 22, 23, 24, 1, 2, 3, 4, 5, 6, 7, 8] (by decide) rfl rfl rfl rfl rfl rfl (Nat.le_of_ble_eq_true rfl) ⟨Nat.zero_le _, Nat.zero_le _⟩ dX0_rewind_78) [17, 18, 19, 20, 21, 22, 23, 24, 1, 2, 3, 4, 5, 6, 7, 8] [0, 9, 10, 11, 12, 13, 14, 15, 16] [0, 17, 18, 19, 20, 21, 22, 23, 24, 1, 2, 3, 4, 5, 6, 7, 8, 9, 10, 11, 12, 13, 14, 15, 16] rfl rfl (by decide) (by decide) (by decide) (fun _ => rfl) ?_
    intro w13 H locs _ I
    refine lv_aload_n hx hb dX0_rewind_81 rfl (lv_at hl 0 rfl) ?_
    refine fb_get X I (k := 4) fu_X0 0 rfl rfl (Nat.le_of_ble_eq_true rfl) fw_595 rfl rfl dX0_rewind_82 ?_
    refine lv_aload_n hx hb dX0_rewind_85 rfl (lv_at hl 0 rfl) ?_
    refine fb_get X I (k := 3) fu_X0 0 rfl rfl (Nat.le_of_ble_eq_true rfl) fw_594 rfl rfl dX0_rewind_86 ?_
    refine lv_if_lt (tgt := 99) hx hb dX0_rewind_89 (by decide) (fun _ => ?_) (fun c14 => absurd c10 c14)
    refine lv_aload_n hx hb dX0_rewind_99 rfl (lv_at hl 0 rfl) ?_
    refine fb_get X I (k := 2) fu_X0 0 rfl rfl (Nat.le_of_ble_eq_true rfl) fw_593 rfl rfl dX0_rewind_100 ?_
    refine lv_isub hx hb dX0_rewind_103 ?_
    refine lv_istore (lv' := [(4, .int ((ze0 4) - (ze0 2))), (0, .ref zh), (1, .ref (zq 0)), (3, .int l3)]) hx hb dX0_rewind_104 hl (by decide) rfl (fun ls hl => ?_)
    refine lv_iconst (v := (0 : Int32)) hx hb dX0_rewind_106 (by decide) ?_
    refine lv_istore (lv' := [(5, .int (0 : Int32)), (4, .int ((ze0 4) - (ze0 2))), (0, .ref zh), (1, .ref (zq 0)), (3, .int l3)]) hx hb dX0_rewind_107 hl (by decide) rfl (fun ls hl => ?_)
    exact b_X0_rewind_109 X  ((fb_mu (0 : Int32) ((ze0 4) - (ze0 2))) + 1) (l3 := l3) (l4 := ((ze0 4) - (ze0 2))) (l5 := (0 : Int32)) (Nat.lt_succ_self _)  I (lv_sub hl [3, 4, 1, 0] rfl) E11
  · have E12 := (E.trans (if_neg c10))
    refine lv_aload_n hx hb dX0_rewind_67 rfl (lv_at hl 0 rfl) ?_
    refine fb_get X I (k := 1) fu_X0 0 rfl rfl (Nat.le_of_ble_eq_true rfl) fw_592 rfl rfl dX0_rewind_68 ?_
    refine lv_goto (tgt := 78) hx hb dX0_rewind_71 (by decide) ?_
    refine fb_goV (wn := fun (w15 : fb_AR) => (fb_o0 zh (zo 0) (zn 0) ze0) ++ ((fb_mw cI zo zso zwo) ++ ((fb_mw cI zn zsn zwn) ++ (fb_mw cI zq ((f_X2_copyFrom zs zsn)) (w15))))) X I (fb_runV (As := [.ref (zn 0)]) (rest := []) (q0 := 17) X I hl (c_X2_copyFrom l D cI cJ zq zs zw zn zsn zwn _) (fb_goodV fw_1175 fw_1176 fw_1177 fw_198 fw_1178) rfl rfl rfl (by decide +kernel : fb_hd yX2_copyFrom 1) ⟨Nat.le_of_ble_eq_true rfl, Nat.le_of_ble_eq_true rfl⟩ [17, 18, 19, 20, 21, 22, 23, 24, 9, 10, 11, 12, 13, 14, 15, 16] (by decide) rfl rfl rfl rfl rfl rfl (Nat.le_of_ble_eq_true rfl) ⟨Nat.zero_le _, Nat.zero_le _⟩ dX0_rewind_78) [17, 18, 19, 20, 21, 22, 23, 24, 9, 10, 11, 12, 13, 14, 15, 16] [0, 1, 2, 3, 4, 5, 6, 7, 8] [0, 1, 2, 3, 4, 5, 6, 7, 8, 17, 18, 19, 20, 21, 22, 23, 24, 9, 10, 11, 12, 13, 14, 15, 16] rfl rfl (by decide) (by decide) (by decide) (fun _ => rfl) ?_
    intro w15 H locs _ I
    refine lv_aload_n hx hb dX0_rewind_81 rfl (lv_at hl 0 rfl) ?_
    refine fb_get X I (k := 4) fu_X0 0 rfl rfl (Nat.le_of_ble_eq_true rfl) fw_595 rfl rfl dX0_rewind_82 ?_
    refine lv_aload_n hx hb dX0_rewind_85 rfl (lv_at hl 0 rfl) ?_
    refine fb_get X I (k := 3) fu_X0 0 rfl rfl (Nat.le_of_ble_eq_true rfl) fw_594 rfl rfl dX0_rewind_86 ?_
    refine lv_if_lt (tgt := 99) hx hb dX0_rewind_89 (by decide) (fun c16 => absurd c16 c10) (fun _ => ?_)
    refine lv_aload_n hx hb dX0_rewind_92 rfl (lv_at hl 0 rfl) ?_
    refine fb_get X I (k := 3) fu_X0 0 rfl rfl (Nat.le_of_ble_eq_true rfl) fw_594 rfl rfl dX0_rewind_93 ?_
    refine lv_goto (tgt := 103) hx hb dX0_rewind_96 (by decide) ?_
    refine lv_isub hx hb dX0_rewind_103 ?_
    refine lv_istore (lv' := [(4, .int ((ze0 4) - (ze0 3))), (0, .ref zh), (1, .ref (zq 0)), (3, .int l3)]) hx hb dX0_rewind_104 hl (by decide) rfl (fun ls hl => ?_)
    refine lv_iconst (v := (0 : Int32)) hx hb dX0_rewind_106 (by decide) ?_
    refine lv_istore (lv' := [(5, .int (0 : Int32)), (4, .int ((ze0 4) - (ze0 3))), (0, .ref zh), (1, .ref (zq 0)), (3, .int l3)]) hx hb dX0_rewind_107 hl (by decide) rfl (fun ls hl => ?_)
    exact b_X0_rewind_109 X  ((fb_mu (0 : Int32) ((ze0 4) - (ze0 3))) + 1) (l3 := l3) (l4 := ((ze0 4) - (ze0 3))) (l5 := (0 : Int32)) (Nat.lt_succ_self _)  I (lv_sub hl [3, 4, 1, 0] rfl) E12
set_option maxHeartbeats 4000000 in
set_option maxRecDepth 100000 in
theorem b_X0_rewind_16 {p : Program} {l : Launch} {e : Env} {s : State} {m : MethodId} {args : Array Value} {below : List Frame} {meth : Method} {c : Code} {D : va_G} {cI cJ : ClassId} {A : Nat → Prop} {zh : Nat} {zo : Nat → Nat} {zso : fb_MS} {zwo : fb_AR} {zn : Nat → Nat} {zsn : fb_MS} {zwn : fb_AR} {zq : Nat → Nat} {z : Int32 × fb_AR × fb_MS} (X : fb_Bx p s m args meth c cX0_rewind RX0 6 (some .int) D (fb_ty D cI cJ) A) {ze0 : fb_AR} {zs : fb_MS} {zw : fb_AR} {k0 : Int32} {H : Heap} {locs : List Loc} {ls : Array Slot}  (I : fb_In D A s.heap ((fb_o0 zh (zo 0) (zn 0) ze0) ++ ((fb_mw cI zo zso zwo) ++ ((fb_mw cI zn zsn zwn) ++ (fb_mw cI zq zs zw)))) H locs) (hl : lv_has ls 6 [(0, .ref zh), (1, .ref (zq 0))]) (E : z = f_X0_rewind_16 ze0 zso zsn zs k0) : W p l e ({ frames := 6, cells := 0, slots := 0, locals := 153 } : Room) s m args below meth c H locs 0 0 (MQ below (fb_QI D A (fun (r : Int32) (_ : fb_AR) => r = z.1) (fun (t : fb_AR) => (fb_o0 zh (zo 0) (zn 0) (z.2.1)) ++ ((fb_mw cI zo zso zwo) ++ ((fb_mw cI zn zsn zwn) ++ (fb_mw cI zq (z.2.2) (t)))))) args s 0 0 A) (F0 m 16 ls [.int k0]) := by
  obtain ⟨hx, hb, hr, hml, hown, hts, hlk, hA, hK, hF⟩ := id X
  refine lv_istore_n (lv' := [(3, .int k0), (0, .ref zh), (1, .ref (zq 0))]) hx hb dX0_rewind_16 rfl hl (by decide) rfl (fun ls hl => ?_)
  refine lv_iload_n hx hb dX0_rewind_17 rfl (lv_at hl 0 rfl) ?_
  refine lv_if_ne (tgt := 23) hx hb dX0_rewind_18 (by decide) (fun c4 => ?_) (fun c4 => ?_)
  · have E5 := (E.trans (if_neg c4))
    refine lv_aload_n hx hb dX0_rewind_23 rfl (lv_at hl 1 rfl) ?_
    refine lv_dup hx hb dX0_rewind_24 rfl ?_
    refine fb_get X I (k := 4) fu_X0 0 rfl rfl (Nat.le_of_ble_eq_true rfl) fw_595 rfl rfl dX0_rewind_25 ?_
    refine lv_iload_n hx hb dX0_rewind_28 rfl (lv_at hl 0 rfl) ?_
    refine lv_isub hx hb dX0_rewind_29 ?_
    refine fb_put X I (k := 4) (wn := (fb_o0 zh (zo 0) (zn 0) (upd ze0 4 ((ze0 4) - k0))) ++ ((fb_mw cI zo zso zwo) ++ ((fb_mw cI zn zsn zwn) ++ (fb_mw cI zq zs zw)))) fu_X0 tyX0 tyX0_ok nmX0 0 rfl rfl (Nat.le_of_ble_eq_true rfl) fw_595 rfl rfl rfl rfl rfl (Nat.le_of_ble_eq_true rfl) rfl dX0_rewind_30 (fun H locs I => ?_)
    refine lv_aload_n hx hb dX0_rewind_33 rfl (lv_at hl 1 rfl) ?_
    refine lv_dup hx hb dX0_rewind_34 rfl ?_
    refine fb_get X I (k := 5) fu_X0 0 rfl rfl (Nat.le_of_ble_eq_true rfl) fw_596 rfl rfl dX0_rewind_35 ?_
    refine lv_iload_n hx hb dX0_rewind_38 rfl (lv_at hl 0 rfl) ?_
    refine lv_isub hx hb dX0_rewind_39 ?_
    refine fb_put X I (k := 5) (wn := (fb_o0 zh (zo 0) (zn 0) (upd (upd ze0 4 ((ze0 4) - k0)) 5 (((upd ze0 4 ((ze0 4) - k0)) 5) - k0))) ++ ((fb_mw cI zo zso zwo) ++ ((fb_mw cI zn zsn zwn) ++ (fb_mw cI zq zs zw)))) fu_X0 tyX0 tyX0_ok nmX0 0 rfl rfl (Nat.le_of_ble_eq_true rfl) fw_596 rfl rfl rfl rfl rfl (Nat.le_of_ble_eq_true rfl) rfl dX0_rewind_40 (fun H locs I => ?_)
    refine lv_aload_n hx hb dX0_rewind_43 rfl (lv_at hl 1 rfl) ?_
    refine fb_get X I (k := 3) fu_X0 0 rfl rfl (Nat.le_of_ble_eq_true rfl) fw_594 rfl rfl dX0_rewind_44 ?_
    refine lv_aload_n hx hb dX0_rewind_47 rfl (lv_at hl 1 rfl) ?_
    refine fb_get X I (k := 4) fu_X0 0 rfl rfl (Nat.le_of_ble_eq_true rfl) fw_595 rfl rfl dX0_rewind_48 ?_
    refine lv_icmp_le (tgt := 59) hx hb dX0_rewind_51 (by decide) (fun c7 => ?_) (fun c7 => ?_)
    · have E8 := (E5.trans (if_pos c7))
      exact b_X0_rewind_59 X  (l3 := k0) I (lv_sub hl [1, 2, 0] rfl) E8
    · have E9 := (E5.trans (if_neg c7))
      refine lv_aload_n hx hb dX0_rewind_54 rfl (lv_at hl 1 rfl) ?_
      refine lv_iconst (v := (-1 : Int32)) hx hb dX0_rewind_55 (by decide) ?_
      refine fb_put X I (k := 3) (wn := (fb_o0 zh (zo 0) (zn 0) (upd (upd (upd ze0 4 ((ze0 4) - k0)) 5 (((upd ze0 4 ((ze0 4) - k0)) 5) - k0)) 3 (-1 : Int32))) ++ ((fb_mw cI zo zso zwo) ++ ((fb_mw cI zn zsn zwn) ++ (fb_mw cI zq zs zw)))) fu_X0 tyX0 tyX0_ok nmX0 0 rfl rfl (Nat.le_of_ble_eq_true rfl) fw_594 rfl rfl rfl rfl rfl (Nat.le_of_ble_eq_true rfl) rfl dX0_rewind_56 (fun H locs I => ?_)
      exact b_X0_rewind_59 X  (l3 := k0) I (lv_sub hl [1, 2, 0] rfl) E9
  · have E6 := (E.trans (if_pos c4))
    refine lv_iconst (v := (0 : Int32)) hx hb dX0_rewind_21 (by decide) ?_
    subst E6
    exact fb_retI (u := (zw)) X I rfl rfl dX0_rewind_22
set_option maxHeartbeats 4000000 in
set_option maxRecDepth 100000 in
theorem b_X0_rewind_0 {p : Program} {l : Launch} {e : Env} {s : State} {m : MethodId} {args : Array Value} {below : List Frame} {meth : Method} {c : Code} {D : va_G} {cI cJ : ClassId} {A : Nat → Prop} {zh : Nat} {zo : Nat → Nat} {zso : fb_MS} {zwo : fb_AR} {zn : Nat → Nat} {zsn : fb_MS} {zwn : fb_AR} {zq : Nat → Nat} {z : Int32 × fb_AR × fb_MS} (X : fb_Bx p s m args meth c cX0_rewind RX0 6 (some .int) D (fb_ty D cI cJ) A) {ze0 : fb_AR} {zs : fb_MS} {zw : fb_AR} {l2 : Int32} {H : Heap} {locs : List Loc} {ls : Array Slot}  (I : fb_In D A s.heap ((fb_o0 zh (zo 0) (zn 0) ze0) ++ ((fb_mw cI zo zso zwo) ++ ((fb_mw cI zn zsn zwn) ++ (fb_mw cI zq zs zw)))) H locs) (hl : lv_has ls 6 [(0, .ref zh), (1, .ref (zq 0)), (2, .int l2)]) (E : z = f_X0_rewind ze0 zso zsn zs l2) : W p l e ({ frames := 6, cells := 0, slots := 0, locals := 153 } : Room) s m args below meth c H locs 0 0 (MQ below (fb_QI D A (fun (r : Int32) (_ : fb_AR) => r = z.1) (fun (t : fb_AR) => (fb_o0 zh (zo 0) (zn 0) (z.2.1)) ++ ((fb_mw cI zo zso zwo) ++ ((fb_mw cI zn zsn zwn) ++ (fb_mw cI zq (z.2.2) (t)))))) args s 0 0 A) (F0 m 0 ls []) := by
  obtain ⟨hx, hb, hr, hml, hown, hts, hlk, hA, hK, hF⟩ := id X
  refine lv_iload_n hx hb dX0_rewind_0 rfl (lv_at hl 2 rfl) ?_
  refine lv_aload_n hx hb dX0_rewind_1 rfl (lv_at hl 0 rfl) ?_
  refine fb_get X I (k := 5) fu_X0 0 rfl rfl (Nat.le_of_ble_eq_true rfl) fw_596 rfl rfl dX0_rewind_2 ?_
  refine lv_icmp_ge (tgt := 12) hx hb dX0_rewind_5 (by decide) (fun c1 => ?_) (fun c1 => ?_)
  · have E2 := (E.trans (if_pos c1))
    refine lv_aload_n hx hb dX0_rewind_12 rfl (lv_at hl 0 rfl) ?_
    refine fb_get X I (k := 5) fu_X0 0 rfl rfl (Nat.le_of_ble_eq_true rfl) fw_596 rfl rfl dX0_rewind_13 ?_
    exact b_X0_rewind_16 X  (k0 := (ze0 5)) I (lv_sub hl [0, 1] rfl) E2
  · have E3 := (E.trans (if_neg c1))
    refine lv_iload_n hx hb dX0_rewind_8 rfl (lv_at hl 2 rfl) ?_
    refine lv_goto (tgt := 16) hx hb dX0_rewind_9 (by decide) ?_
    exact b_X0_rewind_16 X  (k0 := l2) I (lv_sub hl [0, 1] rfl) E3
set_option maxHeartbeats 4000000 in
set_option maxRecDepth 100000 in
theorem c_X0_rewind (l : Launch) (D : va_G) (cI cJ : ClassId) (zh : Nat) (ze0 : fb_AR) (zo : Nat → Nat) (zso : fb_MS) (zwo : fb_AR) (zn : Nat → Nat) (zsn : fb_MS) (zwn : fb_AR) (zq : Nat → Nat) (zs : fb_MS) (zw : fb_AR) (l2 : Int32) (sz : Nat)  : Met l yX0_rewind (Cond.code yX0_rewind cX0_rewind 6 (some .int) :: fb_all) ({ frames := 6, cells := 0, slots := 0, locals := 153 } : Room) (fb_PP D (fb_ty D cI cJ) [.ref zh, .ref (zq 0), .int l2] ((fb_o0 zh (zo 0) (zn 0) ze0) ++ ((fb_mw cI zo zso zwo) ++ ((fb_mw cI zn zsn zwn) ++ (fb_mw cI zq zs zw)))) sz) (fb_QI D (va_A ((fb_o0 zh (zo 0) (zn 0) ze0) ++ ((fb_mw cI zo zso zwo) ++ ((fb_mw cI zn zsn zwn) ++ (fb_mw cI zq zs zw)))) sz) (fun (r : Int32) (_ : fb_AR) => r = ((f_X0_rewind ze0 zso zsn zs l2)).1) (fun (t : fb_AR) => (fb_o0 zh (zo 0) (zn 0) (((f_X0_rewind ze0 zso zsn zs l2)).2.1)) ++ ((fb_mw cI zo zso zwo) ++ ((fb_mw cI zn zsn zwn) ++ (fb_mw cI zq (((f_X0_rewind ze0 zso zsn zs l2)).2.2) (t)))))) 0 0 (va_A ((fb_o0 zh (zo 0) (zn 0) ze0) ++ ((fb_mw cI zo zso zwo) ++ ((fb_mw cI zn zsn zwn) ++ (fb_mw cI zq zs zw)))) sz) := by
  refine fb_ent (Qf := fun A => (fb_QI D A (fun (r : Int32) (_ : fb_AR) => r = ((f_X0_rewind ze0 zso zsn zs l2)).1) (fun (t : fb_AR) => (fb_o0 zh (zo 0) (zn 0) (((f_X0_rewind ze0 zso zsn zs l2)).2.1)) ++ ((fb_mw cI zo zso zwo) ++ ((fb_mw cI zn zsn zwn) ++ (fb_mw cI zq (((f_X0_rewind ze0 zso zsn zs l2)).2.2) (t))))))) (by decide +kernel) (Nat.le_of_ble_eq_true rfl) ?_
  intro p e s m args below meth c A ls X I hl hin
  exact b_X0_rewind_0 X  I hl rfl
/-! X7_isWatched -/
def f_X7_isWatched (ze7 : fb_AR) (l1 : Int32) (l2 : Int32) : Int32 := (0 : Int32)
set_option maxHeartbeats 4000000 in
set_option maxRecDepth 100000 in
theorem b_X7_isWatched_0 {p : Program} {l : Launch} {e : Env} {s : State} {m : MethodId} {args : Array Value} {below : List Frame} {meth : Method} {c : Code} {D : va_G} {cI cJ : ClassId} {A : Nat → Prop} {zst : Nat} {zs0 : Nat} {zs1 : Nat} {zs3 : Nat} {zs4 : Nat} {zs5 : Nat} (X : fb_Bx p s m args meth c cX7_isWatched RX7 5 (some .boolean) D (fb_ty D cI cJ) A) {ze7 : fb_AR} {l1 : Int32} {l2 : Int32} {ls : Array Slot} (h0 : ze7 6 = 0) (I : fb_In D A s.heap ((fb_o7 zst zs0 zs1 zs3 zs4 zs5 ze7)) s.heap []) (hl : lv_has ls 5 [(0, .ref zst), (1, .int l1), (2, .int l2)]) : W p l e ({ frames := 1, cells := 0, slots := 0, locals := 21 } : Room) s m args below meth c s.heap [] 0 0 (MQ below (vp_Si (fun r => r = (0 : Int32))) args s 0 0 (fun _ => False)) (F0 m 0 ls []) := by
  obtain ⟨hx, hb, hr, hml, hown, hts, hlk, hA, hK, hF⟩ := id X
  refine lv_iconst (v := (0 : Int32)) hx hb dX7_isWatched_0 (by decide) ?_
  refine lv_istore_n (lv' := [(3, .int (0 : Int32)), (0, .ref zst), (1, .int l1), (2, .int l2)]) hx hb dX7_isWatched_1 rfl hl (by decide) rfl (fun ls hl => ?_)
  refine lv_iload_n hx hb dX7_isWatched_2 rfl (lv_at hl 0 rfl) ?_
  refine lv_aload_n hx hb dX7_isWatched_3 rfl (lv_at hl 1 rfl) ?_
  refine fb_get X I (k := 6) fu_X7 0 rfl rfl (Nat.le_of_ble_eq_true rfl) fw_624 rfl rfl dX7_isWatched_4 ?_
  refine lv_icmp_ge (tgt := 67) hx hb dX7_isWatched_7 (by decide) (fun _ => ?_) (fun c1 => absurd (by rw [h0]; decide) c1)
  refine lv_iconst (v := (0 : Int32)) hx hb dX7_isWatched_67 (by decide) ?_
  exact fb_retRI X rfl rfl dX7_isWatched_68
set_option maxHeartbeats 4000000 in
set_option maxRecDepth 100000 in
theorem c_X7_isWatched (l : Launch) (D : va_G) (cI cJ : ClassId) (zst : Nat) (zs0 : Nat) (zs1 : Nat) (zs3 : Nat) (zs4 : Nat) (zs5 : Nat) (ze7 : fb_AR) (l1 : Int32) (l2 : Int32) (sz : Nat) (h0 : ze7 6 = 0) : Met l yX7_isWatched (Cond.code yX7_isWatched cX7_isWatched 5 (some .boolean) :: fb_all) ({ frames := 1, cells := 0, slots := 0, locals := 21 } : Room) (fb_PP D (fb_ty D cI cJ) [.ref zst, .int l1, .int l2] ((fb_o7 zst zs0 zs1 zs3 zs4 zs5 ze7)) sz) (vp_Si (fun r => r = (0 : Int32))) 0 0 (fun _ => False) := by
  refine fb_entR (by decide +kernel) (Nat.le_of_ble_eq_true rfl) ?_
  intro p e s m args below meth c A ls X I hl hin
  exact b_X7_isWatched_0 X h0 I hl
/-! X7_isHit -/

def f_X7_isHit (ze7 : fb_AR) (zs : fb_MS) : Int32 := (0 : Int32)
set_option maxHeartbeats 4000000 in
set_option maxRecDepth 100000 in
theorem b_X7_isHit_2 {p : Program} {l : Launch} {e : Env} {s : State} {m : MethodId} {args : Array Value} {below : List Frame} {meth : Method} {c : Code} {D : va_G} {cI cJ : ClassId} {A : Nat → Prop} {zst : Nat} {zs0 : Nat} {zs1 : Nat} {zs3 : Nat} {zs4 : Nat} {zs5 : Nat} {ze7 : fb_AR} {zq : Nat → Nat} {zs : fb_MS} {zw : fb_AR} (X : fb_Bx p s m args meth c cX7_isHit RX7 5 (some .boolean) D (fb_ty D cI cJ) A) (h0 : ze7 6 = 0) : ∀ (n : Nat) {l2 : Int32} {ls : Array Slot} (hm : (fb_mu l2 ((zs).1 14)) < n) (I : fb_In D A s.heap ((fb_o7 zst zs0 zs1 zs3 zs4 zs5 ze7) ++ (fb_mw cI zq zs zw)) s.heap []) (hl : lv_has ls 5 [(0, .ref zst), (1, .ref (zq 0)), (2, .int l2)]), W p l e ({ frames := 2, cells := 0, slots := 0, locals := 45 } : Room) s m args below meth c s.heap [] 0 0 (MQ below (vp_Si (fun r => r = (0 : Int32))) args s 0 0 (fun _ => False)) (F0 m 2 ls []) := by
  intro n
  obtain ⟨hx, hb, hr, hml, hown, hts, hlk, hA, hK, hF⟩ := id X
  induction n with
  | zero =>
    intro l2 ls hm
    exact absurd hm (Nat.not_lt_zero _)
  | succ n ih =>
    intro l2 ls hm I hl
    refine lv_iload_n hx hb dX7_isHit_2 rfl (lv_at hl 2 rfl) ?_
    refine lv_aload_n hx hb dX7_isHit_3 rfl (lv_at hl 1 rfl) ?_
    refine fb_get X I (k := 14) fu_X2 1 rfl rfl (Nat.le_of_ble_eq_true rfl) fw_544 rfl rfl dX7_isHit_4 ?_
    refine lv_icmp_ge (tgt := 55) hx hb dX7_isHit_7 (by decide) (fun c1 => ?_) (fun c1 => ?_)
    · refine lv_iconst (v := (0 : Int32)) hx hb dX7_isHit_55 (by decide) ?_
      exact fb_retRI X rfl rfl dX7_isHit_56
    · refine lv_aload_n hx hb dX7_isHit_10 rfl (lv_at hl 1 rfl) ?_
      refine fb_get X I (k := 3) fu_X2 1 rfl rfl (Nat.le_of_ble_eq_true rfl) fw_521 rfl rfl dX7_isHit_11 ?_
      refine lv_iload_n hx hb dX7_isHit_14 rfl (lv_at hl 2 rfl) ?_
      refine fb_roI X I (fb_runSN (As := [.ref (zq 4), .int l2]) (rest := []) X I hl (c_X11_at l D cI cJ (zq 4) 8 zw l2 _ (by decide)) fw_686 rfl rfl (List.mem_of_getElem? (i := 33) rfl) fw_191 fw_685 (by decide +kernel : fb_hd yX11_at 2) ⟨Nat.le_of_ble_eq_true rfl, Nat.le_of_ble_eq_true rfl⟩ [5] (by decide) rfl rfl rfl (Nat.le_of_ble_eq_true rfl) ⟨Nat.zero_le _, Nat.zero_le _⟩ dX7_isHit_15) ?_
      refine lv_istore_n (lv' := [(3, .int (f_X11_at 8 zw l2)), (0, .ref zst), (1, .ref (zq 0)), (2, .int l2)]) hx hb dX7_isHit_18 rfl hl (by decide) rfl (fun ls hl => ?_)
      refine lv_iload_n hx hb dX7_isHit_19 rfl (lv_at hl 0 rfl) ?_
      refine lv_sipush (v := (4096 : Int32)) hx hb dX7_isHit_20 (by decide) ?_
      refine lv_icmp_ge (tgt := 30) hx hb dX7_isHit_23 (by decide) (fun c4 => ?_) (fun c4 => ?_)
      · refine lv_iconst (v := (2 : Int32)) hx hb dX7_isHit_30 (by decide) ?_
        refine lv_istore (lv' := [(4, .int (2 : Int32)), (3, .int (f_X11_at 8 zw l2)), (0, .ref zst), (1, .ref (zq 0)), (2, .int l2)]) hx hb dX7_isHit_31 hl (by decide) rfl (fun ls hl => ?_)
        refine lv_aload_n hx hb dX7_isHit_33 rfl (lv_at hl 2 rfl) ?_
        refine lv_iload_n hx hb dX7_isHit_34 rfl (lv_at hl 1 rfl) ?_
        refine lv_sipush (v := (4095 : Int32)) hx hb dX7_isHit_35 (by decide) ?_
        refine lv_iand hx hb dX7_isHit_38 ?_
        refine lv_iload hx hb dX7_isHit_39 (lv_at hl 0 rfl) ?_
        refine fb_roI X I (fb_runV (As := [.int ((f_X11_at 8 zw l2) &&& (4095 : Int32)), .int (2 : Int32)]) (rest := []) (q0 := 0) X I hl (c_X7_isWatched l D cI cJ zst zs0 zs1 zs3 zs4 zs5 ze7 ((f_X11_at 8 zw l2) &&& (4095 : Int32)) (2 : Int32) _ h0) (fb_goodV fw_1403 fw_1405 fw_80 fw_201 fw_1406) rfl rfl rfl (by decide +kernel : fb_hd yX7_isWatched 2) ⟨Nat.le_of_ble_eq_true rfl, Nat.le_of_ble_eq_true rfl⟩ [0] (by decide) rfl rfl rfl rfl rfl rfl (Nat.le_of_ble_eq_true rfl) ⟨Nat.zero_le _, Nat.zero_le _⟩ dX7_isHit_41) ?_
        refine lv_if_eq (tgt := 49) hx hb dX7_isHit_44 (by decide) (fun _ => ?_) (fun c7 => absurd (by decide) c7)
        refine lv_iinc (v := (l2 + (1 : Int32))) (lv' := [(2, .int (l2 + (1 : Int32))), (4, .int (2 : Int32)), (3, .int (f_X11_at 8 zw l2)), (0, .ref zst), (1, .ref (zq 0))]) hx hb dX7_isHit_49 hl (k := 4) rfl rfl (by decide) rfl (fun ls hl => ?_)
        refine lv_goto (tgt := 2) hx hb dX7_isHit_52 (by decide) ?_
        exact ih (l2 := (l2 + (1 : Int32))) (fb_mu_ge c1 hm)  I (lv_sub hl [3, 4, 0] rfl) 
      · refine lv_iconst (v := (1 : Int32)) hx hb dX7_isHit_26 (by decide) ?_
        refine lv_goto (tgt := 31) hx hb dX7_isHit_27 (by decide) ?_
        refine lv_istore (lv' := [(4, .int (1 : Int32)), (3, .int (f_X11_at 8 zw l2)), (0, .ref zst), (1, .ref (zq 0)), (2, .int l2)]) hx hb dX7_isHit_31 hl (by decide) rfl (fun ls hl => ?_)
        refine lv_aload_n hx hb dX7_isHit_33 rfl (lv_at hl 2 rfl) ?_
        refine lv_iload_n hx hb dX7_isHit_34 rfl (lv_at hl 1 rfl) ?_
        refine lv_sipush (v := (4095 : Int32)) hx hb dX7_isHit_35 (by decide) ?_
        refine lv_iand hx hb dX7_isHit_38 ?_
        refine lv_iload hx hb dX7_isHit_39 (lv_at hl 0 rfl) ?_
        refine fb_roI X I (fb_runV (As := [.int ((f_X11_at 8 zw l2) &&& (4095 : Int32)), .int (1 : Int32)]) (rest := []) (q0 := 0) X I hl (c_X7_isWatched l D cI cJ zst zs0 zs1 zs3 zs4 zs5 ze7 ((f_X11_at 8 zw l2) &&& (4095 : Int32)) (1 : Int32) _ h0) (fb_goodV fw_1403 fw_1405 fw_80 fw_201 fw_1406) rfl rfl rfl (by decide +kernel : fb_hd yX7_isWatched 2) ⟨Nat.le_of_ble_eq_true rfl, Nat.le_of_ble_eq_true rfl⟩ [0] (by decide) rfl rfl rfl rfl rfl rfl (Nat.le_of_ble_eq_true rfl) ⟨Nat.zero_le _, Nat.zero_le _⟩ dX7_isHit_41) ?_
        refine lv_if_eq (tgt := 49) hx hb dX7_isHit_44 (by decide) (fun _ => ?_) (fun c8 => absurd (by decide) c8)
        refine lv_iinc (v := (l2 + (1 : Int32))) (lv' := [(2, .int (l2 + (1 : Int32))), (4, .int (1 : Int32)), (3, .int (f_X11_at 8 zw l2)), (0, .ref zst), (1, .ref (zq 0))]) hx hb dX7_isHit_49 hl (k := 4) rfl rfl (by decide) rfl (fun ls hl => ?_)
        refine lv_goto (tgt := 2) hx hb dX7_isHit_52 (by decide) ?_
        exact ih (l2 := (l2 + (1 : Int32))) (fb_mu_ge c1 hm)  I (lv_sub hl [3, 4, 0] rfl) 
set_option maxHeartbeats 4000000 in
set_option maxRecDepth 100000 in
theorem b_X7_isHit_0 {p : Program} {l : Launch} {e : Env} {s : State} {m : MethodId} {args : Array Value} {below : List Frame} {meth : Method} {c : Code} {D : va_G} {cI cJ : ClassId} {A : Nat → Prop} {zst : Nat} {zs0 : Nat} {zs1 : Nat} {zs3 : Nat} {zs4 : Nat} {zs5 : Nat} {ze7 : fb_AR} {zq : Nat → Nat} {zs : fb_MS} {zw : fb_AR} (X : fb_Bx p s m args meth c cX7_isHit RX7 5 (some .boolean) D (fb_ty D cI cJ) A)  {ls : Array Slot} (h0 : ze7 6 = 0) (I : fb_In D A s.heap ((fb_o7 zst zs0 zs1 zs3 zs4 zs5 ze7) ++ (fb_mw cI zq zs zw)) s.heap []) (hl : lv_has ls 5 [(0, .ref zst), (1, .ref (zq 0))]) : W p l e ({ frames := 2, cells := 0, slots := 0, locals := 45 } : Room) s m args below meth c s.heap [] 0 0 (MQ below (vp_Si (fun r => r = (0 : Int32))) args s 0 0 (fun _ => False)) (F0 m 0 ls []) := by
  obtain ⟨hx, hb, hr, hml, hown, hts, hlk, hA, hK, hF⟩ := id X
  refine lv_iconst (v := (0 : Int32)) hx hb dX7_isHit_0 (by decide) ?_
  refine lv_istore_n (lv' := [(2, .int (0 : Int32)), (0, .ref zst), (1, .ref (zq 0))]) hx hb dX7_isHit_1 rfl hl (by decide) rfl (fun ls hl => ?_)
  exact b_X7_isHit_2 X h0 ((fb_mu (0 : Int32) ((zs).1 14)) + 1) (l2 := (0 : Int32)) (Nat.lt_succ_self _)  I (lv_sub hl [1, 2, 0] rfl) 
set_option maxHeartbeats 4000000 in
set_option maxRecDepth 100000 in
theorem c_X7_isHit (l : Launch) (D : va_G) (cI cJ : ClassId) (zst : Nat) (zs0 : Nat) (zs1 : Nat) (zs3 : Nat) (zs4 : Nat) (zs5 : Nat) (ze7 : fb_AR) (zq : Nat → Nat) (zs : fb_MS) (zw : fb_AR)  (sz : Nat) (h0 : ze7 6 = 0) : Met l yX7_isHit (Cond.code yX7_isHit cX7_isHit 5 (some .boolean) :: fb_all) ({ frames := 2, cells := 0, slots := 0, locals := 45 } : Room) (fb_PP D (fb_ty D cI cJ) [.ref zst, .ref (zq 0)] ((fb_o7 zst zs0 zs1 zs3 zs4 zs5 ze7) ++ (fb_mw cI zq zs zw)) sz) (vp_Si (fun r => r = (0 : Int32))) 0 0 (fun _ => False) := by
  refine fb_entR (by decide +kernel) (Nat.le_of_ble_eq_true rfl) ?_
  intro p e s m args below meth c A ls X I hl hin
  exact b_X7_isHit_0 X h0 I hl
/-! X7_breakIndex -/
def f_X7_breakIndex (ze7 : fb_AR) (l1 : Int32) : Int32 := (-1 : Int32)
set_option maxHeartbeats 4000000 in
set_option maxRecDepth 100000 in
theorem b_X7_breakIndex_0 {p : Program} {l : Launch} {e : Env} {s : State} {m : MethodId} {args : Array Value} {below : List Frame} {meth : Method} {c : Code} {D : va_G} {cI cJ : ClassId} {A : Nat → Prop} {zst : Nat} {zs0 : Nat} {zs1 : Nat} {zs3 : Nat} {zs4 : Nat} {zs5 : Nat} (X : fb_Bx p s m args meth c cX7_breakIndex RX7 3 (some .int) D (fb_ty D cI cJ) A) {ze7 : fb_AR} {l1 : Int32} {ls : Array Slot} (h1 : ze7 2 = 0) (I : fb_In D A s.heap ((fb_o7 zst zs0 zs1 zs3 zs4 zs5 ze7)) s.heap []) (hl : lv_has ls 3 [(0, .ref zst), (1, .int l1)]) : W p l e ({ frames := 1, cells := 0, slots := 0, locals := 21 } : Room) s m args below meth c s.heap [] 0 0 (MQ below (vp_Si (fun r => r = (-1 : Int32))) args s 0 0 (fun _ => False)) (F0 m 0 ls []) := by
  obtain ⟨hx, hb, hr, hml, hown, hts, hlk, hA, hK, hF⟩ := id X
  refine lv_iconst (v := (0 : Int32)) hx hb dX7_breakIndex_0 (by decide) ?_
  refine lv_istore_n (lv' := [(2, .int (0 : Int32)), (0, .ref zst), (1, .int l1)]) hx hb dX7_breakIndex_1 rfl hl (by decide) rfl (fun ls hl => ?_)
  refine lv_iload_n hx hb dX7_breakIndex_2 rfl (lv_at hl 0 rfl) ?_
  refine lv_aload_n hx hb dX7_breakIndex_3 rfl (lv_at hl 1 rfl) ?_
  refine fb_get X I (k := 2) fu_X7 0 rfl rfl (Nat.le_of_ble_eq_true rfl) fw_619 rfl rfl dX7_breakIndex_4 ?_
  refine lv_icmp_ge (tgt := 30) hx hb dX7_breakIndex_7 (by decide) (fun _ => ?_) (fun c1 => absurd (by rw [h1]; decide) c1)
  refine lv_iconst (v := (-1 : Int32)) hx hb dX7_breakIndex_30 (by decide) ?_
  exact fb_retRI X rfl rfl dX7_breakIndex_31
set_option maxHeartbeats 4000000 in
set_option maxRecDepth 100000 in
theorem c_X7_breakIndex (l : Launch) (D : va_G) (cI cJ : ClassId) (zst : Nat) (zs0 : Nat) (zs1 : Nat) (zs3 : Nat) (zs4 : Nat) (zs5 : Nat) (ze7 : fb_AR) (l1 : Int32) (sz : Nat) (h1 : ze7 2 = 0) : Met l yX7_breakIndex (Cond.code yX7_breakIndex cX7_breakIndex 3 (some .int) :: fb_all) ({ frames := 1, cells := 0, slots := 0, locals := 21 } : Room) (fb_PP D (fb_ty D cI cJ) [.ref zst, .int l1] ((fb_o7 zst zs0 zs1 zs3 zs4 zs5 ze7)) sz) (vp_Si (fun r => r = (-1 : Int32))) 0 0 (fun _ => False) := by
  refine fb_entR (by decide +kernel) (Nat.le_of_ble_eq_true rfl) ?_
  intro p e s m args below meth c A ls X I hl hin
  exact b_X7_breakIndex_0 X h1 I hl
/-! X7_breaksAt -/
def f_X7_breaksAt (ze7 : fb_AR) (l1 : Int32) : Int32 := (0 : Int32)
set_option maxHeartbeats 4000000 in
set_option maxRecDepth 100000 in
theorem b_X7_breaksAt_0 {p : Program} {l : Launch} {e : Env} {s : State} {m : MethodId} {args : Array Value} {below : List Frame} {meth : Method} {c : Code} {D : va_G} {cI cJ : ClassId} {A : Nat → Prop} {zst : Nat} {zs0 : Nat} {zs1 : Nat} {zs3 : Nat} {zs4 : Nat} {zs5 : Nat} (X : fb_Bx p s m args meth c cX7_breaksAt RX7 4 (some .boolean) D (fb_ty D cI cJ) A) {ze7 : fb_AR} {l1 : Int32} {ls : Array Slot} (h1 : ze7 2 = 0) (I : fb_In D A s.heap ((fb_o7 zst zs0 zs1 zs3 zs4 zs5 ze7)) s.heap []) (hl : lv_has ls 4 [(0, .ref zst), (1, .int l1)]) : W p l e ({ frames := 2, cells := 0, slots := 0, locals := 43 } : Room) s m args below meth c s.heap [] 0 0 (MQ below (vp_Si (fun r => r = (0 : Int32))) args s 0 0 (fun _ => False)) (F0 m 0 ls []) := by
  obtain ⟨hx, hb, hr, hml, hown, hts, hlk, hA, hK, hF⟩ := id X
  refine lv_aload_n hx hb dX7_breaksAt_0 rfl (lv_at hl 0 rfl) ?_
  refine lv_iload_n hx hb dX7_breaksAt_1 rfl (lv_at hl 1 rfl) ?_
  refine fb_roI X I (fb_runV (As := [.int l1]) (rest := []) (q0 := 0) X I hl (c_X7_breakIndex l D cI cJ zst zs0 zs1 zs3 zs4 zs5 ze7 l1 _ h1) (fb_goodV fw_1411 fw_1412 fw_1413 fw_201 fw_1414) rfl rfl rfl (by decide +kernel : fb_hd yX7_breakIndex 1) ⟨Nat.le_of_ble_eq_true rfl, Nat.le_of_ble_eq_true rfl⟩ [0] (by decide) rfl rfl rfl rfl rfl rfl (Nat.le_of_ble_eq_true rfl) ⟨Nat.zero_le _, Nat.zero_le _⟩ dX7_breaksAt_2) ?_
  refine lv_istore_n (lv' := [(2, .int (-1 : Int32)), (0, .ref zst), (1, .int l1)]) hx hb dX7_breaksAt_5 rfl hl (by decide) rfl (fun ls hl => ?_)
  refine lv_iload_n hx hb dX7_breaksAt_6 rfl (lv_at hl 0 rfl) ?_
  refine lv_if_ge (tgt := 12) hx hb dX7_breaksAt_7 (by decide) (fun c1 => absurd c1 (by decide)) (fun _ => ?_)
  refine lv_iconst (v := (0 : Int32)) hx hb dX7_breaksAt_10 (by decide) ?_
  exact fb_retRI X rfl rfl dX7_breaksAt_11
set_option maxHeartbeats 4000000 in
set_option maxRecDepth 100000 in
theorem c_X7_breaksAt (l : Launch) (D : va_G) (cI cJ : ClassId) (zst : Nat) (zs0 : Nat) (zs1 : Nat) (zs3 : Nat) (zs4 : Nat) (zs5 : Nat) (ze7 : fb_AR) (l1 : Int32) (sz : Nat) (h1 : ze7 2 = 0) : Met l yX7_breaksAt (Cond.code yX7_breaksAt cX7_breaksAt 4 (some .boolean) :: fb_all) ({ frames := 2, cells := 0, slots := 0, locals := 43 } : Room) (fb_PP D (fb_ty D cI cJ) [.ref zst, .int l1] ((fb_o7 zst zs0 zs1 zs3 zs4 zs5 ze7)) sz) (vp_Si (fun r => r = (0 : Int32))) 0 0 (fun _ => False) := by
  refine fb_entR (by decide +kernel) (Nat.le_of_ble_eq_true rfl) ?_
  intro p e s m args below meth c A ls X I hl hin
  exact b_X7_breaksAt_0 X h1 I hl
/-! X11_reasonToStop -/
def f_X11_reasonToStop (zs : fb_MS) (ze7 : fb_AR) (l1 : Int32) (l2 : Int32) : Int32 := (if (f_X2_endReason zs) = 0 then (if l2 < ((zs).1 13) then (if l1 = 0 then (if (f_X2_isReady zs) = 0 then (0 : Int32) else (0 : Int32)) else (1 : Int32)) else (6 : Int32)) else (f_X2_endReason zs))
set_option maxHeartbeats 4000000 in
set_option maxRecDepth 100000 in
theorem b_X11_reasonToStop_0 {p : Program} {l : Launch} {e : Env} {s : State} {m : MethodId} {args : Array Value} {below : List Frame} {meth : Method} {c : Code} {D : va_G} {cI cJ : ClassId} {A : Nat → Prop} {zb : Nat} {zr0 : Nat} {zr1 : Nat} {zr2 : Nat} {zr3 : Nat} {zr4 : Nat} {zr6 : Nat} {zr7 : Nat} {zst : Nat} {zr9 : Nat} {zq : Nat → Nat} {zs0 : Nat} {zs1 : Nat} {zs3 : Nat} {zs4 : Nat} {zs5 : Nat} {z : Int32} (X : fb_Bx p s m args meth c cX11_reasonToStop RX11 4 (some .int) D (fb_ty D cI cJ) A) {zs : fb_MS} {zw : fb_AR} {ze7 : fb_AR} {l1 : Int32} {l2 : Int32} {ls : Array Slot} (h0 : ze7 6 = 0) (h1 : ze7 2 = 0) (I : fb_In D A s.heap ((fb_o11 zb zr0 zr1 zr2 zr3 zr4 (zq 0) zr6 zr7 zst zr9) ++ ((fb_mw cI zq zs zw) ++ (fb_o7 zst zs0 zs1 zs3 zs4 zs5 ze7))) s.heap []) (hl : lv_has ls 4 [(0, .ref zb), (1, .int l1), (2, .int l2)]) (E : z = f_X11_reasonToStop zs ze7 l1 l2) : W p l e ({ frames := 3, cells := 0, slots := 0, locals := 69 } : Room) s m args below meth c s.heap [] 0 0 (MQ below (vp_Si (fun r => r = z)) args s 0 0 (fun _ => False)) (F0 m 0 ls []) := by
  obtain ⟨hx, hb, hr, hml, hown, hts, hlk, hA, hK, hF⟩ := id X
  refine lv_aload_n hx hb dX11_reasonToStop_0 rfl (lv_at hl 0 rfl) ?_
  refine fb_get X I (k := 5) fu_X11 0 rfl rfl (Nat.le_of_ble_eq_true rfl) fw_692 rfl rfl dX11_reasonToStop_1 ?_
  refine fb_roI X I (fb_runV (As := []) (rest := []) (q0 := 1) X I hl (c_X2_endReason l D cI cJ zq zs zw _) (fb_goodV fw_1167 fw_1168 fw_1169 fw_198 fw_1170) rfl rfl rfl (by decide +kernel : fb_hd yX2_endReason 0) ⟨Nat.le_of_ble_eq_true rfl, Nat.le_of_ble_eq_true rfl⟩ [1, 2, 3, 4, 5, 6, 7, 8] (by decide) rfl rfl rfl rfl rfl rfl (Nat.le_of_ble_eq_true rfl) ⟨Nat.zero_le _, Nat.zero_le _⟩ dX11_reasonToStop_4) ?_
  refine lv_istore_n (lv' := [(3, .int (f_X2_endReason zs)), (0, .ref zb), (1, .int l1), (2, .int l2)]) hx hb dX11_reasonToStop_7 rfl hl (by decide) rfl (fun ls hl => ?_)
  refine lv_iload_n hx hb dX11_reasonToStop_8 rfl (lv_at hl 0 rfl) ?_
  refine lv_if_eq (tgt := 14) hx hb dX11_reasonToStop_9 (by decide) (fun c1 => ?_) (fun c1 => ?_)
  · have E2 := (E.trans (if_pos c1))
    refine lv_aload_n hx hb dX11_reasonToStop_14 rfl (lv_at hl 1 rfl) ?_
    refine fb_get X I (k := 5) fu_X11 0 rfl rfl (Nat.le_of_ble_eq_true rfl) fw_692 rfl rfl dX11_reasonToStop_15 ?_
    refine fb_get X I (k := 13) fu_X2 1 rfl rfl (Nat.le_of_ble_eq_true rfl) fw_542 rfl rfl dX11_reasonToStop_18 ?_
    refine lv_iload_n hx hb dX11_reasonToStop_21 rfl (lv_at hl 3 rfl) ?_
    refine lv_icmp_gt (tgt := 28) hx hb dX11_reasonToStop_22 (by decide) (fun c4 => ?_) (fun c4 => ?_)
    · have E5 := (E2.trans (if_pos c4))
      refine lv_aload_n hx hb dX11_reasonToStop_28 rfl (lv_at hl 1 rfl) ?_
      refine fb_get X I (k := 8) fu_X11 0 rfl rfl (Nat.le_of_ble_eq_true rfl) fw_695 rfl rfl dX11_reasonToStop_29 ?_
      refine lv_aload_n hx hb dX11_reasonToStop_32 rfl (lv_at hl 1 rfl) ?_
      refine fb_get X I (k := 5) fu_X11 0 rfl rfl (Nat.le_of_ble_eq_true rfl) fw_692 rfl rfl dX11_reasonToStop_33 ?_
      refine fb_roI X I (fb_runV (As := [.ref (zq 0)]) (rest := []) (q0 := 9) X I hl (c_X7_isHit l D cI cJ zst zs0 zs1 zs3 zs4 zs5 ze7 zq zs zw _ h0) (fb_goodV fw_1398 fw_1399 fw_1400 fw_201 fw_1401) rfl rfl rfl (by decide +kernel : fb_hd yX7_isHit 1) ⟨Nat.le_of_ble_eq_true rfl, Nat.le_of_ble_eq_true rfl⟩ [9, 1, 2, 3, 4, 5, 6, 7, 8] (by decide) rfl rfl rfl rfl rfl rfl (Nat.le_of_ble_eq_true rfl) ⟨Nat.zero_le _, Nat.zero_le _⟩ dX11_reasonToStop_36) ?_
      refine lv_if_eq (tgt := 44) hx hb dX11_reasonToStop_39 (by decide) (fun _ => ?_) (fun c7 => absurd (by decide) c7)
      refine lv_iload_n hx hb dX11_reasonToStop_44 rfl (lv_at hl 2 rfl) ?_
      refine lv_if_eq (tgt := 50) hx hb dX11_reasonToStop_45 (by decide) (fun c8 => ?_) (fun c8 => ?_)
      · have E9 := (E5.trans (if_pos c8))
        refine lv_aload_n hx hb dX11_reasonToStop_50 rfl (lv_at hl 1 rfl) ?_
        refine fb_get X I (k := 5) fu_X11 0 rfl rfl (Nat.le_of_ble_eq_true rfl) fw_692 rfl rfl dX11_reasonToStop_51 ?_
        refine fb_roI X I (fb_runV (As := []) (rest := []) (q0 := 1) X I hl (c_X2_isReady l D cI cJ zq zs zw _) (fb_goodV fw_1381 fw_1382 fw_1383 fw_198 fw_1384) rfl rfl rfl (by decide +kernel : fb_hd yX2_isReady 0) ⟨Nat.le_of_ble_eq_true rfl, Nat.le_of_ble_eq_true rfl⟩ [1, 2, 3, 4, 5, 6, 7, 8] (by decide) rfl rfl rfl rfl rfl rfl (Nat.le_of_ble_eq_true rfl) ⟨Nat.zero_le _, Nat.zero_le _⟩ dX11_reasonToStop_54) ?_
        refine lv_if_eq (tgt := 81) hx hb dX11_reasonToStop_57 (by decide) (fun c11 => ?_) (fun c11 => ?_)
        · have E12 := (E9.trans (if_pos c11))
          refine lv_iconst (v := (0 : Int32)) hx hb dX11_reasonToStop_81 (by decide) ?_
          exact fb_retRI X E12 rfl dX11_reasonToStop_82
        · have E13 := (E9.trans (if_neg c11))
          refine lv_aload_n hx hb dX11_reasonToStop_60 rfl (lv_at hl 1 rfl) ?_
          refine fb_get X I (k := 8) fu_X11 0 rfl rfl (Nat.le_of_ble_eq_true rfl) fw_695 rfl rfl dX11_reasonToStop_61 ?_
          refine lv_aload_n hx hb dX11_reasonToStop_64 rfl (lv_at hl 1 rfl) ?_
          refine fb_get X I (k := 5) fu_X11 0 rfl rfl (Nat.le_of_ble_eq_true rfl) fw_692 rfl rfl dX11_reasonToStop_65 ?_
          refine fb_get X I (k := 9) fu_X2 1 rfl rfl (Nat.le_of_ble_eq_true rfl) fw_534 rfl rfl dX11_reasonToStop_68 ?_
          refine fb_roI X I (fb_runV (As := [.int ((zs).1 9)]) (rest := []) (q0 := 9) X I hl (c_X7_breaksAt l D cI cJ zst zs0 zs1 zs3 zs4 zs5 ze7 ((zs).1 9) _ h1) (fb_goodV fw_1407 fw_1408 fw_1409 fw_201 fw_1410) rfl rfl rfl (by decide +kernel : fb_hd yX7_breaksAt 1) ⟨Nat.le_of_ble_eq_true rfl, Nat.le_of_ble_eq_true rfl⟩ [9] (by decide) rfl rfl rfl rfl rfl rfl (Nat.le_of_ble_eq_true rfl) ⟨Nat.zero_le _, Nat.zero_le _⟩ dX11_reasonToStop_71) ?_
          refine lv_if_eq (tgt := 81) hx hb dX11_reasonToStop_74 (by decide) (fun _ => ?_) (fun c14 => absurd (by decide) c14)
          refine lv_iconst (v := (0 : Int32)) hx hb dX11_reasonToStop_81 (by decide) ?_
          exact fb_retRI X E13 rfl dX11_reasonToStop_82
      · have E10 := (E5.trans (if_neg c8))
        refine lv_iconst (v := (1 : Int32)) hx hb dX11_reasonToStop_48 (by decide) ?_
        exact fb_retRI X E10 rfl dX11_reasonToStop_49
    · have E6 := (E2.trans (if_neg c4))
      refine lv_bipush (v := (6 : Int32)) hx hb dX11_reasonToStop_25 (by decide) ?_
      exact fb_retRI X E6 rfl dX11_reasonToStop_27
  · have E3 := (E.trans (if_neg c1))
    refine lv_iload_n hx hb dX11_reasonToStop_12 rfl (lv_at hl 0 rfl) ?_
    exact fb_retRI X E3 rfl dX11_reasonToStop_13
set_option maxHeartbeats 4000000 in
set_option maxRecDepth 100000 in
theorem c_X11_reasonToStop (l : Launch) (D : va_G) (cI cJ : ClassId) (zb : Nat) (zr0 : Nat) (zr1 : Nat) (zr2 : Nat) (zr3 : Nat) (zr4 : Nat) (zr6 : Nat) (zr7 : Nat) (zst : Nat) (zr9 : Nat) (zq : Nat → Nat) (zs : fb_MS) (zw : fb_AR) (zs0 : Nat) (zs1 : Nat) (zs3 : Nat) (zs4 : Nat) (zs5 : Nat) (ze7 : fb_AR) (l1 : Int32) (l2 : Int32) (sz : Nat) (h0 : ze7 6 = 0) (h1 : ze7 2 = 0) : Met l yX11_reasonToStop (Cond.code yX11_reasonToStop cX11_reasonToStop 4 (some .int) :: fb_all) ({ frames := 3, cells := 0, slots := 0, locals := 69 } : Room) (fb_PP D (fb_ty D cI cJ) [.ref zb, .int l1, .int l2] ((fb_o11 zb zr0 zr1 zr2 zr3 zr4 (zq 0) zr6 zr7 zst zr9) ++ ((fb_mw cI zq zs zw) ++ (fb_o7 zst zs0 zs1 zs3 zs4 zs5 ze7))) sz) (vp_Si (fun r => r = ((f_X11_reasonToStop zs ze7 l1 l2)))) 0 0 (fun _ => False) := by
  refine fb_entR (by decide +kernel) (Nat.le_of_ble_eq_true rfl) ?_
  intro p e s m args below meth c A ls X I hl hin
  exact b_X11_reasonToStop_0 X h0 h1 I hl rfl
/-! X11_goOn -/
def f_X11_goOn_14  : Nat → fb_AR → (Nat → Nat) → fb_MS → (Nat → Nat) → fb_MS → fb_MS → fb_AR → Int32 → Int32 → Int32 → Int32 → Int32 → Int32 × fb_AR × (Nat → Nat) × fb_MS × (Nat → Nat) × fb_MS × fb_MS × fb_AR
  | 0, ze0, zo, zso, zn, zsn, zs, ze7, _, _, _, _, _ => (0, ze0, zo, zso, zn, zsn, zs, ze7)
  | n + 1, ze0, zo, zso, zn, zsn, zs, ze7, l1, l2, l3, l4, l5 => (if (1000000 : Int32) ≤ l5 then (l3, ze0, zo, zso, zn, zsn, zs, (upd ze7 7 l4)) else (if l4 = 0 then (if (l3 + ((f_X2_advance zs).1)) < l1 then f_X11_goOn_14 n ((f_X0_keepUp ze0 zo zso zn zsn zs).1) ((f_X0_keepUp ze0 zo zso zn zsn zs).2.1) ((f_X0_keepUp ze0 zo zso zn zsn zs).2.2.1) ((f_X0_keepUp ze0 zo zso zn zsn zs).2.2.2.1) ((f_X0_keepUp ze0 zo zso zn zsn zs).2.2.2.2) ((f_X2_advance zs).2) ze7 l1 l2 (l3 + ((f_X2_advance zs).1)) (f_X11_reasonToStop ((f_X2_advance zs).2) ze7 (0 : Int32) l2) (l5 + (1 : Int32)) else f_X11_goOn_14 n ((f_X0_keepUp ze0 zo zso zn zsn zs).1) ((f_X0_keepUp ze0 zo zso zn zsn zs).2.1) ((f_X0_keepUp ze0 zo zso zn zsn zs).2.2.1) ((f_X0_keepUp ze0 zo zso zn zsn zs).2.2.2.1) ((f_X0_keepUp ze0 zo zso zn zsn zs).2.2.2.2) ((f_X2_advance zs).2) ze7 l1 l2 (l3 + ((f_X2_advance zs).1)) (f_X11_reasonToStop ((f_X2_advance zs).2) ze7 (1 : Int32) l2) (l5 + (1 : Int32))) else (l3, ze0, zo, zso, zn, zsn, zs, (upd ze7 7 l4))))
def f_X11_goOn (ze0 : fb_AR) (zo : (Nat → Nat)) (zso : fb_MS) (zn : (Nat → Nat)) (zsn : fb_MS) (zs : fb_MS) (ze7 : fb_AR) (l1 : Int32) (l2 : Int32) : Int32 × fb_AR × (Nat → Nat) × fb_MS × (Nat → Nat) × fb_MS × fb_MS × fb_AR := f_X11_goOn_14 ((fb_mu (0 : Int32) (1000000 : Int32)) + 1) ze0 zo zso zn zsn zs ze7 l1 l2 (0 : Int32) (f_X2_endReason zs) (0 : Int32)
set_option maxHeartbeats 4000000 in
set_option maxRecDepth 100000 in
theorem b_X11_goOn_14 {p : Program} {l : Launch} {e : Env} {s : State} {m : MethodId} {args : Array Value} {below : List Frame} {meth : Method} {c : Code} {D : va_G} {cI cJ : ClassId} {A : Nat → Prop} {zb : Nat} {zr0 : Nat} {zr1 : Nat} {zr2 : Nat} {zr3 : Nat} {zr4 : Nat} {zr6 : Nat} {zh : Nat} {zst : Nat} {zr9 : Nat} {zq : Nat → Nat} {zs0 : Nat} {zs1 : Nat} {zs3 : Nat} {zs4 : Nat} {zs5 : Nat} {ze7 : fb_AR} {z : Int32 × fb_AR × (Nat → Nat) × fb_MS × (Nat → Nat) × fb_MS × fb_MS × fb_AR} (X : fb_Bx p s m args meth c cX11_goOn RX11 6 (some .int) D (fb_ty D cI cJ) A) (h0 : ze7 6 = 0) (h1 : ze7 2 = 0) : ∀ (n : Nat) {ze0 : fb_AR} {zo : Nat → Nat} {zso : fb_MS} {zwo : fb_AR} {zn : Nat → Nat} {zsn : fb_MS} {zwn : fb_AR} {zs : fb_MS} {zw : fb_AR} {l1 : Int32} {l2 : Int32} {l3 : Int32} {l4 : Int32} {l5 : Int32} {H : Heap} {locs : List Loc} {ls : Array Slot} (hm : (fb_mu l5 (1000000 : Int32)) < n) (I : fb_In D A s.heap ((fb_o11 zb zr0 zr1 zr2 zr3 zr4 (zq 0) zr6 zh zst zr9) ++ ((fb_o0 zh (zo 0) (zn 0) ze0) ++ ((fb_mw cI zo zso zwo) ++ ((fb_mw cI zn zsn zwn) ++ ((fb_mw cI zq zs zw) ++ (fb_o7 zst zs0 zs1 zs3 zs4 zs5 ze7)))))) H locs) (hl : lv_has ls 6 [(0, .ref zb), (1, .int l1), (2, .int l2), (3, .int l3), (4, .int l4), (5, .int l5)]) (E : z = f_X11_goOn_14 n ze0 zo zso zn zsn zs ze7 l1 l2 l3 l4 l5), W p l e ({ frames := 6, cells := 0, slots := 0, locals := 153 } : Room) s m args below meth c H locs 0 0 (MQ below (fb_QI D A (fun (r : Int32) (_ : fb_AR × fb_AR × fb_AR) => r = z.1) (fun (t : fb_AR × fb_AR × fb_AR) => (fb_o11 zb zr0 zr1 zr2 zr3 zr4 (zq 0) zr6 zh zst zr9) ++ ((fb_o0 zh ((z.2.2.1) 0) ((z.2.2.2.2.1) 0) (z.2.1)) ++ ((fb_mw cI (z.2.2.1) (z.2.2.2.1) (t.1)) ++ ((fb_mw cI (z.2.2.2.2.1) (z.2.2.2.2.2.1) (t.2.1)) ++ ((fb_mw cI zq (z.2.2.2.2.2.2.1) (t.2.2)) ++ (fb_o7 zst zs0 zs1 zs3 zs4 zs5 (z.2.2.2.2.2.2.2)))))))) args s 0 0 A) (F0 m 14 ls []) := by
  intro n
  obtain ⟨hx, hb, hr, hml, hown, hts, hlk, hA, hK, hF⟩ := id X
  induction n with
  | zero =>
    intro ze0 zo zso zwo zn zsn zwn zs zw l1 l2 l3 l4 l5 H locs ls hm
    exact absurd hm (Nat.not_lt_zero _)
  | succ n ih =>
    intro ze0 zo zso zwo zn zsn zwn zs zw l1 l2 l3 l4 l5 H locs ls hm I hl E
    refine lv_iload hx hb dX11_goOn_14 (lv_at hl 5 rfl) ?_
    refine lv_ldcw hx hb hown (hts _ fw_1393) dX11_goOn_16 ?_
    refine lv_icmp_ge (tgt := 71) hx hb dX11_goOn_19 (by decide) (fun c1 => ?_) (fun c1 => ?_)
    · have E2 := (E.trans (if_pos c1))
      refine lv_aload_n hx hb dX11_goOn_71 rfl (lv_at hl 0 rfl) ?_
      refine fb_get X I (k := 8) fu_X11 0 rfl rfl (Nat.le_of_ble_eq_true rfl) fw_695 rfl rfl dX11_goOn_72 ?_
      refine lv_iload hx hb dX11_goOn_75 (lv_at hl 4 rfl) ?_
      refine fb_put X I (k := 7) (wn := (fb_o11 zb zr0 zr1 zr2 zr3 zr4 (zq 0) zr6 zh zst zr9) ++ ((fb_o0 zh (zo 0) (zn 0) ze0) ++ ((fb_mw cI zo zso zwo) ++ ((fb_mw cI zn zsn zwn) ++ ((fb_mw cI zq zs zw) ++ (fb_o7 zst zs0 zs1 zs3 zs4 zs5 (upd ze7 7 l4))))))) fu_X7 tyX7 tyX7_ok nmX7 26 rfl rfl (Nat.le_of_ble_eq_true rfl) fw_627 rfl rfl rfl rfl rfl (Nat.le_of_ble_eq_true rfl) rfl dX11_goOn_77 (fun H locs I => ?_)
      refine lv_iload_n hx hb dX11_goOn_80 rfl (lv_at hl 3 rfl) ?_
      subst E2
      exact fb_retI (u := (zwo, zwn, zw)) X I rfl rfl dX11_goOn_81
    · have E3 := (E.trans (if_neg c1))
      refine lv_iload hx hb dX11_goOn_22 (lv_at hl 4 rfl) ?_
      refine lv_if_ne (tgt := 71) hx hb dX11_goOn_24 (by decide) (fun c4 => ?_) (fun c4 => ?_)
      · have E5 := (E3.trans (if_neg c4))
        refine lv_aload_n hx hb dX11_goOn_71 rfl (lv_at hl 0 rfl) ?_
        refine fb_get X I (k := 8) fu_X11 0 rfl rfl (Nat.le_of_ble_eq_true rfl) fw_695 rfl rfl dX11_goOn_72 ?_
        refine lv_iload hx hb dX11_goOn_75 (lv_at hl 4 rfl) ?_
        refine fb_put X I (k := 7) (wn := (fb_o11 zb zr0 zr1 zr2 zr3 zr4 (zq 0) zr6 zh zst zr9) ++ ((fb_o0 zh (zo 0) (zn 0) ze0) ++ ((fb_mw cI zo zso zwo) ++ ((fb_mw cI zn zsn zwn) ++ ((fb_mw cI zq zs zw) ++ (fb_o7 zst zs0 zs1 zs3 zs4 zs5 (upd ze7 7 l4))))))) fu_X7 tyX7 tyX7_ok nmX7 26 rfl rfl (Nat.le_of_ble_eq_true rfl) fw_627 rfl rfl rfl rfl rfl (Nat.le_of_ble_eq_true rfl) rfl dX11_goOn_77 (fun H locs I => ?_)
        refine lv_iload_n hx hb dX11_goOn_80 rfl (lv_at hl 3 rfl) ?_
        subst E5
        exact fb_retI (u := (zwo, zwn, zw)) X I rfl rfl dX11_goOn_81
      · have E6 := (E3.trans (if_pos c4))
        refine lv_aload_n hx hb dX11_goOn_27 rfl (lv_at hl 0 rfl) ?_
        refine fb_get X I (k := 7) fu_X11 0 rfl rfl (Nat.le_of_ble_eq_true rfl) fw_694 rfl rfl dX11_goOn_28 ?_
        refine lv_aload_n hx hb dX11_goOn_31 rfl (lv_at hl 0 rfl) ?_
        refine fb_get X I (k := 5) fu_X11 0 rfl rfl (Nat.le_of_ble_eq_true rfl) fw_692 rfl rfl dX11_goOn_32 ?_
        refine fb_goV (wn := fun (w7 : fb_AR × fb_AR) => (fb_o11 zb zr0 zr1 zr2 zr3 zr4 (zq 0) zr6 zh zst zr9) ++ ((fb_o0 zh (((f_X0_keepUp ze0 zo zso zn zsn zs).2.1) 0) (((f_X0_keepUp ze0 zo zso zn zsn zs).2.2.2.1) 0) ((f_X0_keepUp ze0 zo zso zn zsn zs).1)) ++ ((fb_mw cI ((f_X0_keepUp ze0 zo zso zn zsn zs).2.1) ((f_X0_keepUp ze0 zo zso zn zsn zs).2.2.1) (w7.1)) ++ ((fb_mw cI ((f_X0_keepUp ze0 zo zso zn zsn zs).2.2.2.1) ((f_X0_keepUp ze0 zo zso zn zsn zs).2.2.2.2) (w7.2)) ++ ((fb_mw cI zq zs zw) ++ (fb_o7 zst zs0 zs1 zs3 zs4 zs5 ze7)))))) X I (fb_runV (As := [.ref (zq 0)]) (rest := []) (q0 := 1) X I hl (c_X0_keepUp l D cI cJ zh ze0 zo zso zwo zn zsn zwn zq zs zw _) (fb_goodV fw_1171 fw_1172 fw_1173 fw_200 fw_1174) rfl rfl rfl (by decide +kernel : fb_hd yX0_keepUp 1) ⟨Nat.le_of_ble_eq_true rfl, Nat.le_of_ble_eq_true rfl⟩ [1, 2, 3, 4, 5, 6, 7, 8, 9, 10, 11, 12, 13, 14, 15, 16, 17, 18, 19, 20, 21, 22, 23, 24, 25] (by decide) rfl rfl rfl rfl rfl rfl (Nat.le_of_ble_eq_true rfl) ⟨Nat.zero_le _, Nat.zero_le _⟩ dX11_goOn_35) [1, 2, 3, 4, 5, 6, 7, 8, 9, 10, 11, 12, 13, 14, 15, 16, 17, 18, 19, 20, 21, 22, 23, 24, 25] [0, 26] [0, 2, 3, 4, 5, 6, 7, 8, 9, 10, 11, 12, 13, 14, 15, 16, 17, 18, 19, 20, 21, 22, 23, 24, 25, 26, 1] rfl rfl (by decide) (by decide) (by decide) (fun _ => rfl) ?_
        intro w7 H locs _ I
        refine lv_iload_n hx hb dX11_goOn_38 rfl (lv_at hl 3 rfl) ?_
        refine lv_aload_n hx hb dX11_goOn_39 rfl (lv_at hl 0 rfl) ?_
        refine fb_get X I (k := 5) fu_X11 0 rfl rfl (Nat.le_of_ble_eq_true rfl) fw_692 rfl rfl dX11_goOn_40 ?_
        refine fb_goI (wn := fun (w8 : fb_AR) => (fb_o11 zb zr0 zr1 zr2 zr3 zr4 (zq 0) zr6 zh zst zr9) ++ ((fb_o0 zh (((f_X0_keepUp ze0 zo zso zn zsn zs).2.1) 0) (((f_X0_keepUp ze0 zo zso zn zsn zs).2.2.2.1) 0) ((f_X0_keepUp ze0 zo zso zn zsn zs).1)) ++ ((fb_mw cI ((f_X0_keepUp ze0 zo zso zn zsn zs).2.1) ((f_X0_keepUp ze0 zo zso zn zsn zs).2.2.1) (w7.1)) ++ ((fb_mw cI ((f_X0_keepUp ze0 zo zso zn zsn zs).2.2.2.1) ((f_X0_keepUp ze0 zo zso zn zsn zs).2.2.2.2) (w7.2)) ++ ((fb_mw cI zq ((f_X2_advance zs).2) (w8)) ++ (fb_o7 zst zs0 zs1 zs3 zs4 zs5 ze7)))))) X I (fb_runV (As := []) (rest := [.int l3]) (q0 := 18) X I hl (c_X2_advance l D cI cJ zq zs zw _) (fb_goodV fw_1185 fw_1186 fw_1187 fw_198 fw_1188) rfl rfl rfl (by decide +kernel : fb_hd yX2_advance 0) ⟨Nat.le_of_ble_eq_true rfl, Nat.le_of_ble_eq_true rfl⟩ [18, 19, 20, 21, 22, 23, 24, 25] (by decide) rfl rfl rfl rfl rfl rfl (Nat.le_of_ble_eq_true rfl) ⟨Nat.zero_le _, Nat.zero_le _⟩ dX11_goOn_43) [18, 19, 20, 21, 22, 23, 24, 25] [0, 1, 2, 3, 4, 5, 6, 7, 8, 9, 10, 11, 12, 13, 14, 15, 16, 17, 26] [0, 1, 2, 3, 4, 5, 6, 7, 8, 9, 10, 11, 12, 13, 14, 15, 16, 17, 19, 20, 21, 22, 23, 24, 25, 26, 18] rfl rfl (by decide) (by decide) (by decide) (fun _ => rfl) ?_
        intro r9 w8 H locs e0 I
        subst e0
        refine lv_iadd hx hb dX11_goOn_46 ?_
        refine lv_istore_n (lv' := [(3, .int (l3 + ((f_X2_advance zs).1))), (0, .ref zb), (1, .int l1), (2, .int l2), (4, .int l4), (5, .int l5)]) hx hb dX11_goOn_47 rfl hl (by decide) rfl (fun ls hl => ?_)
        refine lv_aload_n hx hb dX11_goOn_48 rfl (lv_at hl 1 rfl) ?_
        refine lv_iload_n hx hb dX11_goOn_49 rfl (lv_at hl 0 rfl) ?_
        refine lv_iload_n hx hb dX11_goOn_50 rfl (lv_at hl 2 rfl) ?_
        refine lv_icmp_lt (tgt := 58) hx hb dX11_goOn_51 (by decide) (fun c10 => ?_) (fun c10 => ?_)
        · have E11 := (E6.trans (if_pos c10))
          refine lv_iconst (v := (0 : Int32)) hx hb dX11_goOn_58 (by decide) ?_
          refine lv_iload_n hx hb dX11_goOn_59 rfl (lv_at hl 3 rfl) ?_
          refine fb_roI X I (fb_runV (As := [.int (0 : Int32), .int l2]) (rest := []) (q0 := 0) X I hl (c_X11_reasonToStop l D cI cJ zb zr0 zr1 zr2 zr3 zr4 zr6 zh zst zr9 zq ((f_X2_advance zs).2) (w8) zs0 zs1 zs3 zs4 zs5 ze7 (0 : Int32) l2 _ h0 h1) (fb_goodV fw_1394 fw_1396 fw_79 fw_191 fw_1397) rfl rfl rfl (by decide +kernel : fb_hd yX11_reasonToStop 2) ⟨Nat.le_of_ble_eq_true rfl, Nat.le_of_ble_eq_true rfl⟩ [0, 18, 19, 20, 21, 22, 23, 24, 25, 26] (by decide) rfl rfl rfl rfl rfl rfl (Nat.le_of_ble_eq_true rfl) ⟨Nat.zero_le _, Nat.zero_le _⟩ dX11_goOn_60) ?_
          refine lv_istore (lv' := [(4, .int (f_X11_reasonToStop ((f_X2_advance zs).2) ze7 (0 : Int32) l2)), (3, .int (l3 + ((f_X2_advance zs).1))), (0, .ref zb), (1, .int l1), (2, .int l2), (5, .int l5)]) hx hb dX11_goOn_63 hl (by decide) rfl (fun ls hl => ?_)
          refine lv_iinc (v := (l5 + (1 : Int32))) (lv' := [(5, .int (l5 + (1 : Int32))), (4, .int (f_X11_reasonToStop ((f_X2_advance zs).2) ze7 (0 : Int32) l2)), (3, .int (l3 + ((f_X2_advance zs).1))), (0, .ref zb), (1, .int l1), (2, .int l2)]) hx hb dX11_goOn_65 hl (k := 5) rfl rfl (by decide) rfl (fun ls hl => ?_)
          refine lv_goto (tgt := 14) hx hb dX11_goOn_68 (by decide) ?_
          exact ih (l1 := l1) (l2 := l2) (l3 := (l3 + ((f_X2_advance zs).1))) (l4 := (f_X11_reasonToStop ((f_X2_advance zs).2) ze7 (0 : Int32) l2)) (l5 := (l5 + (1 : Int32))) (fb_mu_ge c1 hm)  I (lv_sub hl [3, 4, 5, 2, 1, 0] rfl) E11
        · have E12 := (E6.trans (if_neg c10))
          refine lv_iconst (v := (1 : Int32)) hx hb dX11_goOn_54 (by decide) ?_
          refine lv_goto (tgt := 59) hx hb dX11_goOn_55 (by decide) ?_
          refine lv_iload_n hx hb dX11_goOn_59 rfl (lv_at hl 3 rfl) ?_
          refine fb_roI X I (fb_runV (As := [.int (1 : Int32), .int l2]) (rest := []) (q0 := 0) X I hl (c_X11_reasonToStop l D cI cJ zb zr0 zr1 zr2 zr3 zr4 zr6 zh zst zr9 zq ((f_X2_advance zs).2) (w8) zs0 zs1 zs3 zs4 zs5 ze7 (1 : Int32) l2 _ h0 h1) (fb_goodV fw_1394 fw_1396 fw_79 fw_191 fw_1397) rfl rfl rfl (by decide +kernel : fb_hd yX11_reasonToStop 2) ⟨Nat.le_of_ble_eq_true rfl, Nat.le_of_ble_eq_true rfl⟩ [0, 18, 19, 20, 21, 22, 23, 24, 25, 26] (by decide) rfl rfl rfl rfl rfl rfl (Nat.le_of_ble_eq_true rfl) ⟨Nat.zero_le _, Nat.zero_le _⟩ dX11_goOn_60) ?_
          refine lv_istore (lv' := [(4, .int (f_X11_reasonToStop ((f_X2_advance zs).2) ze7 (1 : Int32) l2)), (3, .int (l3 + ((f_X2_advance zs).1))), (0, .ref zb), (1, .int l1), (2, .int l2), (5, .int l5)]) hx hb dX11_goOn_63 hl (by decide) rfl (fun ls hl => ?_)
          refine lv_iinc (v := (l5 + (1 : Int32))) (lv' := [(5, .int (l5 + (1 : Int32))), (4, .int (f_X11_reasonToStop ((f_X2_advance zs).2) ze7 (1 : Int32) l2)), (3, .int (l3 + ((f_X2_advance zs).1))), (0, .ref zb), (1, .int l1), (2, .int l2)]) hx hb dX11_goOn_65 hl (k := 5) rfl rfl (by decide) rfl (fun ls hl => ?_)
          refine lv_goto (tgt := 14) hx hb dX11_goOn_68 (by decide) ?_
          exact ih (l1 := l1) (l2 := l2) (l3 := (l3 + ((f_X2_advance zs).1))) (l4 := (f_X11_reasonToStop ((f_X2_advance zs).2) ze7 (1 : Int32) l2)) (l5 := (l5 + (1 : Int32))) (fb_mu_ge c1 hm)  I (lv_sub hl [3, 4, 5, 2, 1, 0] rfl) E12
set_option maxHeartbeats 4000000 in
set_option maxRecDepth 100000 in
theorem b_X11_goOn_0 {p : Program} {l : Launch} {e : Env} {s : State} {m : MethodId} {args : Array Value} {below : List Frame} {meth : Method} {c : Code} {D : va_G} {cI cJ : ClassId} {A : Nat → Prop} {zb : Nat} {zr0 : Nat} {zr1 : Nat} {zr2 : Nat} {zr3 : Nat} {zr4 : Nat} {zr6 : Nat} {zh : Nat} {zst : Nat} {zr9 : Nat} {zq : Nat → Nat} {zs0 : Nat} {zs1 : Nat} {zs3 : Nat} {zs4 : Nat} {zs5 : Nat} {ze7 : fb_AR} {z : Int32 × fb_AR × (Nat → Nat) × fb_MS × (Nat → Nat) × fb_MS × fb_MS × fb_AR} (X : fb_Bx p s m args meth c cX11_goOn RX11 6 (some .int) D (fb_ty D cI cJ) A) {ze0 : fb_AR} {zo : Nat → Nat} {zso : fb_MS} {zwo : fb_AR} {zn : Nat → Nat} {zsn : fb_MS} {zwn : fb_AR} {zs : fb_MS} {zw : fb_AR} {l1 : Int32} {l2 : Int32} {H : Heap} {locs : List Loc} {ls : Array Slot} (h0 : ze7 6 = 0) (h1 : ze7 2 = 0) (I : fb_In D A s.heap ((fb_o11 zb zr0 zr1 zr2 zr3 zr4 (zq 0) zr6 zh zst zr9) ++ ((fb_o0 zh (zo 0) (zn 0) ze0) ++ ((fb_mw cI zo zso zwo) ++ ((fb_mw cI zn zsn zwn) ++ ((fb_mw cI zq zs zw) ++ (fb_o7 zst zs0 zs1 zs3 zs4 zs5 ze7)))))) H locs) (hl : lv_has ls 6 [(0, .ref zb), (1, .int l1), (2, .int l2)]) (E : z = f_X11_goOn ze0 zo zso zn zsn zs ze7 l1 l2) : W p l e ({ frames := 6, cells := 0, slots := 0, locals := 153 } : Room) s m args below meth c H locs 0 0 (MQ below (fb_QI D A (fun (r : Int32) (_ : fb_AR × fb_AR × fb_AR) => r = z.1) (fun (t : fb_AR × fb_AR × fb_AR) => (fb_o11 zb zr0 zr1 zr2 zr3 zr4 (zq 0) zr6 zh zst zr9) ++ ((fb_o0 zh ((z.2.2.1) 0) ((z.2.2.2.2.1) 0) (z.2.1)) ++ ((fb_mw cI (z.2.2.1) (z.2.2.2.1) (t.1)) ++ ((fb_mw cI (z.2.2.2.2.1) (z.2.2.2.2.2.1) (t.2.1)) ++ ((fb_mw cI zq (z.2.2.2.2.2.2.1) (t.2.2)) ++ (fb_o7 zst zs0 zs1 zs3 zs4 zs5 (z.2.2.2.2.2.2.2)))))))) args s 0 0 A) (F0 m 0 ls []) := by
  obtain ⟨hx, hb, hr, hml, hown, hts, hlk, hA, hK, hF⟩ := id X
  refine lv_iconst (v := (0 : Int32)) hx hb dX11_goOn_0 (by decide) ?_
  refine lv_istore_n (lv' := [(3, .int (0 : Int32)), (0, .ref zb), (1, .int l1), (2, .int l2)]) hx hb dX11_goOn_1 rfl hl (by decide) rfl (fun ls hl => ?_)
  refine lv_aload_n hx hb dX11_goOn_2 rfl (lv_at hl 1 rfl) ?_
  refine fb_get X I (k := 5) fu_X11 0 rfl rfl (Nat.le_of_ble_eq_true rfl) fw_692 rfl rfl dX11_goOn_3 ?_
  refine fb_roI X I (fb_runV (As := []) (rest := []) (q0 := 18) X I hl (c_X2_endReason l D cI cJ zq zs zw _) (fb_goodV fw_1167 fw_1168 fw_1169 fw_198 fw_1170) rfl rfl rfl (by decide +kernel : fb_hd yX2_endReason 0) ⟨Nat.le_of_ble_eq_true rfl, Nat.le_of_ble_eq_true rfl⟩ [18, 19, 20, 21, 22, 23, 24, 25] (by decide) rfl rfl rfl rfl rfl rfl (Nat.le_of_ble_eq_true rfl) ⟨Nat.zero_le _, Nat.zero_le _⟩ dX11_goOn_6) ?_
  refine lv_istore (lv' := [(4, .int (f_X2_endReason zs)), (3, .int (0 : Int32)), (0, .ref zb), (1, .int l1), (2, .int l2)]) hx hb dX11_goOn_9 hl (by decide) rfl (fun ls hl => ?_)
  refine lv_iconst (v := (0 : Int32)) hx hb dX11_goOn_11 (by decide) ?_
  refine lv_istore (lv' := [(5, .int (0 : Int32)), (4, .int (f_X2_endReason zs)), (3, .int (0 : Int32)), (0, .ref zb), (1, .int l1), (2, .int l2)]) hx hb dX11_goOn_12 hl (by decide) rfl (fun ls hl => ?_)
  exact b_X11_goOn_14 X h0 h1 ((fb_mu (0 : Int32) (1000000 : Int32)) + 1) (l1 := l1) (l2 := l2) (l3 := (0 : Int32)) (l4 := (f_X2_endReason zs)) (l5 := (0 : Int32)) (Nat.lt_succ_self _)  I (lv_sub hl [3, 4, 5, 2, 1, 0] rfl) E
set_option maxHeartbeats 4000000 in
set_option maxRecDepth 100000 in
theorem c_X11_goOn (l : Launch) (D : va_G) (cI cJ : ClassId) (zb : Nat) (zr0 : Nat) (zr1 : Nat) (zr2 : Nat) (zr3 : Nat) (zr4 : Nat) (zr6 : Nat) (zh : Nat) (zst : Nat) (zr9 : Nat) (ze0 : fb_AR) (zo : Nat → Nat) (zso : fb_MS) (zwo : fb_AR) (zn : Nat → Nat) (zsn : fb_MS) (zwn : fb_AR) (zq : Nat → Nat) (zs : fb_MS) (zw : fb_AR) (zs0 : Nat) (zs1 : Nat) (zs3 : Nat) (zs4 : Nat) (zs5 : Nat) (ze7 : fb_AR) (l1 : Int32) (l2 : Int32) (sz : Nat) (h0 : ze7 6 = 0) (h1 : ze7 2 = 0) : Met l yX11_goOn (Cond.code yX11_goOn cX11_goOn 6 (some .int) :: fb_all) ({ frames := 6, cells := 0, slots := 0, locals := 153 } : Room) (fb_PP D (fb_ty D cI cJ) [.ref zb, .int l1, .int l2] ((fb_o11 zb zr0 zr1 zr2 zr3 zr4 (zq 0) zr6 zh zst zr9) ++ ((fb_o0 zh (zo 0) (zn 0) ze0) ++ ((fb_mw cI zo zso zwo) ++ ((fb_mw cI zn zsn zwn) ++ ((fb_mw cI zq zs zw) ++ (fb_o7 zst zs0 zs1 zs3 zs4 zs5 ze7)))))) sz) (fb_QI D (va_A ((fb_o11 zb zr0 zr1 zr2 zr3 zr4 (zq 0) zr6 zh zst zr9) ++ ((fb_o0 zh (zo 0) (zn 0) ze0) ++ ((fb_mw cI zo zso zwo) ++ ((fb_mw cI zn zsn zwn) ++ ((fb_mw cI zq zs zw) ++ (fb_o7 zst zs0 zs1 zs3 zs4 zs5 ze7)))))) sz) (fun (r : Int32) (_ : fb_AR × fb_AR × fb_AR) => r = ((f_X11_goOn ze0 zo zso zn zsn zs ze7 l1 l2)).1) (fun (t : fb_AR × fb_AR × fb_AR) => (fb_o11 zb zr0 zr1 zr2 zr3 zr4 (zq 0) zr6 zh zst zr9) ++ ((fb_o0 zh ((((f_X11_goOn ze0 zo zso zn zsn zs ze7 l1 l2)).2.2.1) 0) ((((f_X11_goOn ze0 zo zso zn zsn zs ze7 l1 l2)).2.2.2.2.1) 0) (((f_X11_goOn ze0 zo zso zn zsn zs ze7 l1 l2)).2.1)) ++ ((fb_mw cI (((f_X11_goOn ze0 zo zso zn zsn zs ze7 l1 l2)).2.2.1) (((f_X11_goOn ze0 zo zso zn zsn zs ze7 l1 l2)).2.2.2.1) (t.1)) ++ ((fb_mw cI (((f_X11_goOn ze0 zo zso zn zsn zs ze7 l1 l2)).2.2.2.2.1) (((f_X11_goOn ze0 zo zso zn zsn zs ze7 l1 l2)).2.2.2.2.2.1) (t.2.1)) ++ ((fb_mw cI zq (((f_X11_goOn ze0 zo zso zn zsn zs ze7 l1 l2)).2.2.2.2.2.2.1) (t.2.2)) ++ (fb_o7 zst zs0 zs1 zs3 zs4 zs5 (((f_X11_goOn ze0 zo zso zn zsn zs ze7 l1 l2)).2.2.2.2.2.2.2)))))))) 0 0 (va_A ((fb_o11 zb zr0 zr1 zr2 zr3 zr4 (zq 0) zr6 zh zst zr9) ++ ((fb_o0 zh (zo 0) (zn 0) ze0) ++ ((fb_mw cI zo zso zwo) ++ ((fb_mw cI zn zsn zwn) ++ ((fb_mw cI zq zs zw) ++ (fb_o7 zst zs0 zs1 zs3 zs4 zs5 ze7)))))) sz) := by
  refine fb_ent (Qf := fun A => (fb_QI D A (fun (r : Int32) (_ : fb_AR × fb_AR × fb_AR) => r = ((f_X11_goOn ze0 zo zso zn zsn zs ze7 l1 l2)).1) (fun (t : fb_AR × fb_AR × fb_AR) => (fb_o11 zb zr0 zr1 zr2 zr3 zr4 (zq 0) zr6 zh zst zr9) ++ ((fb_o0 zh ((((f_X11_goOn ze0 zo zso zn zsn zs ze7 l1 l2)).2.2.1) 0) ((((f_X11_goOn ze0 zo zso zn zsn zs ze7 l1 l2)).2.2.2.2.1) 0) (((f_X11_goOn ze0 zo zso zn zsn zs ze7 l1 l2)).2.1)) ++ ((fb_mw cI (((f_X11_goOn ze0 zo zso zn zsn zs ze7 l1 l2)).2.2.1) (((f_X11_goOn ze0 zo zso zn zsn zs ze7 l1 l2)).2.2.2.1) (t.1)) ++ ((fb_mw cI (((f_X11_goOn ze0 zo zso zn zsn zs ze7 l1 l2)).2.2.2.2.1) (((f_X11_goOn ze0 zo zso zn zsn zs ze7 l1 l2)).2.2.2.2.2.1) (t.2.1)) ++ ((fb_mw cI zq (((f_X11_goOn ze0 zo zso zn zsn zs ze7 l1 l2)).2.2.2.2.2.2.1) (t.2.2)) ++ (fb_o7 zst zs0 zs1 zs3 zs4 zs5 (((f_X11_goOn ze0 zo zso zn zsn zs ze7 l1 l2)).2.2.2.2.2.2.2))))))))) (by decide +kernel) (Nat.le_of_ble_eq_true rfl) ?_
  intro p e s m args below meth c A ls X I hl hin
  exact b_X11_goOn_0 X h0 h1 I hl rfl
