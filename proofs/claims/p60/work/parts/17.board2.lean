/-! X11_step -/
def f_X11_step (ze0 : fb_AR) (zo : (Nat → Nat)) (zso : fb_MS) (zn : (Nat → Nat)) (zsn : fb_MS) (zs : fb_MS) : Int32 × fb_AR × (Nat → Nat) × fb_MS × (Nat → Nat) × fb_MS × fb_MS := (if (f_X2_endReason zs) = 0 then (((f_X2_advance zs).1), ((f_X0_keepUp ze0 zo zso zn zsn zs).1), ((f_X0_keepUp ze0 zo zso zn zsn zs).2.1), ((f_X0_keepUp ze0 zo zso zn zsn zs).2.2.1), ((f_X0_keepUp ze0 zo zso zn zsn zs).2.2.2.1), ((f_X0_keepUp ze0 zo zso zn zsn zs).2.2.2.2), ((f_X2_advance zs).2)) else ((0 : Int32), ze0, zo, zso, zn, zsn, zs))
set_option maxHeartbeats 4000000 in
set_option maxRecDepth 100000 in
theorem b_X11_step_0 {p : Program} {l : Launch} {e : Env} {s : State} {m : MethodId} {args : Array Value} {below : List Frame} {meth : Method} {c : Code} {D : va_G} {cI cJ : ClassId} {A : Nat → Prop} {zb : Nat} {zr0 : Nat} {zr1 : Nat} {zr2 : Nat} {zr3 : Nat} {zr4 : Nat} {zr6 : Nat} {zh : Nat} {zr8 : Nat} {zr9 : Nat} {zq : Nat → Nat} {z : Int32 × fb_AR × (Nat → Nat) × fb_MS × (Nat → Nat) × fb_MS × fb_MS} (X : fb_Bx p s m args meth c cX11_step RX11 1 (some .int) D (fb_ty cI cJ) A) {ze0 : fb_AR} {zo : Nat → Nat} {zso : fb_MS} {zwo : fb_AR} {zn : Nat → Nat} {zsn : fb_MS} {zwn : fb_AR} {zs : fb_MS} {zw : fb_AR} {H : Heap} {locs : List Loc} {ls : Array Slot}  (I : fb_In D A s.heap ((fb_o11 zb zr0 zr1 zr2 zr3 zr4 (zq 0) zr6 zh zr8 zr9) ++ (fb_o0 zh (zo 0) (zn 0) ze0) ++ (fb_mw cI zo zso zwo) ++ (fb_mw cI zn zsn zwn) ++ (fb_mw cI zq zs zw)) H locs) (hl : lv_has ls 1 [(0, .ref zb)]) (E : z = f_X11_step ze0 zo zso zn zsn zs) : W p l e ({ frames := 6, cells := 0, slots := 0, locals := 153 } : Room) s m args below meth c H locs 0 0 (MQ below (fb_QI D A (fun (r : Int32) (_ : fb_AR × fb_AR × fb_AR) => r = z.1) (fun (t : fb_AR × fb_AR × fb_AR) => (fb_o11 zb zr0 zr1 zr2 zr3 zr4 (zq 0) zr6 zh zr8 zr9) ++ (fb_o0 zh ((z.2.2.1) 0) ((z.2.2.2.2.1) 0) (z.2.1)) ++ (fb_mw cI (z.2.2.1) (z.2.2.2.1) (t.1)) ++ (fb_mw cI (z.2.2.2.2.1) (z.2.2.2.2.2.1) (t.2.1)) ++ (fb_mw cI zq (z.2.2.2.2.2.2) (t.2.2)))) args s 0 0 A) (F0 m 0 ls []) := by
  obtain ⟨hx, hb, hr, hml, hown, hts, hlk, hA, hK, hF⟩ := id X
  refine lv_aload_n hx hb dX11_step_0 rfl (lv_at hl 0 rfl) ?_
  refine fb_get X I (k := 5) fu_X11 0 rfl rfl (Nat.le_of_ble_eq_true rfl) fw_477 rfl rfl dX11_step_1 ?_
  refine fb_roI X I (fb_runV (As := []) (rest := []) (q0 := 18) X I hl (c_X2_endReason l D cI cJ zq zs zw _) (fb_goodV fw_658 fw_659 fw_660 fw_51 fw_661) rfl rfl rfl (by decide +kernel : fb_hd yX2_endReason 0) ⟨Nat.le_of_ble_eq_true rfl, Nat.le_of_ble_eq_true rfl⟩ [18, 19, 20, 21, 22, 23, 24, 25] (by decide) rfl rfl rfl rfl rfl rfl (Nat.le_of_ble_eq_true rfl) ⟨Nat.zero_le _, Nat.zero_le _⟩ dX11_step_4) ?_
  refine lv_if_eq (tgt := 12) hx hb dX11_step_7 (by decide) (fun c1 => ?_) (fun c1 => ?_)
  · have E2 := (E.trans (if_pos c1))
    refine lv_aload_n hx hb dX11_step_12 rfl (lv_at hl 0 rfl) ?_
    refine fb_get X I (k := 7) fu_X11 0 rfl rfl (Nat.le_of_ble_eq_true rfl) fw_479 rfl rfl dX11_step_13 ?_
    refine lv_aload_n hx hb dX11_step_16 rfl (lv_at hl 0 rfl) ?_
    refine fb_get X I (k := 5) fu_X11 0 rfl rfl (Nat.le_of_ble_eq_true rfl) fw_477 rfl rfl dX11_step_17 ?_
    refine fb_goV (wn := fun (w4 : fb_AR × fb_AR) => (fb_o11 zb zr0 zr1 zr2 zr3 zr4 (zq 0) zr6 zh zr8 zr9) ++ (fb_o0 zh (((f_X0_keepUp ze0 zo zso zn zsn zs).2.1) 0) (((f_X0_keepUp ze0 zo zso zn zsn zs).2.2.2.1) 0) ((f_X0_keepUp ze0 zo zso zn zsn zs).1)) ++ (fb_mw cI ((f_X0_keepUp ze0 zo zso zn zsn zs).2.1) ((f_X0_keepUp ze0 zo zso zn zsn zs).2.2.1) (w4.1)) ++ (fb_mw cI ((f_X0_keepUp ze0 zo zso zn zsn zs).2.2.2.1) ((f_X0_keepUp ze0 zo zso zn zsn zs).2.2.2.2) (w4.2)) ++ (fb_mw cI zq zs zw)) X I (fb_runV (As := [.ref (zq 0)]) (rest := []) (q0 := 1) X I hl (c_X0_keepUp l D cI cJ zh ze0 zo zso zwo zn zsn zwn zq zs zw _) (fb_goodV fw_662 fw_663 fw_664 fw_53 fw_665) rfl rfl rfl (by decide +kernel : fb_hd yX0_keepUp 1) ⟨Nat.le_of_ble_eq_true rfl, Nat.le_of_ble_eq_true rfl⟩ [1, 2, 3, 4, 5, 6, 7, 8, 9, 10, 11, 12, 13, 14, 15, 16, 17, 18, 19, 20, 21, 22, 23, 24, 25] (by decide) rfl rfl rfl rfl rfl rfl (Nat.le_of_ble_eq_true rfl) ⟨Nat.zero_le _, Nat.zero_le _⟩ dX11_step_20) [1, 2, 3, 4, 5, 6, 7, 8, 9, 10, 11, 12, 13, 14, 15, 16, 17, 18, 19, 20, 21, 22, 23, 24, 25] [0] [0, 1, 2, 3, 4, 5, 6, 7, 8, 9, 10, 11, 12, 13, 14, 15, 16, 17, 18, 19, 20, 21, 22, 23, 24, 25] rfl rfl (by decide) (by decide) (by decide) (fun _ => rfl) ?_
    intro w4 H locs _ I
    refine lv_aload_n hx hb dX11_step_23 rfl (lv_at hl 0 rfl) ?_
    refine fb_get X I (k := 5) fu_X11 0 rfl rfl (Nat.le_of_ble_eq_true rfl) fw_477 rfl rfl dX11_step_24 ?_
    refine fb_goI (wn := fun (w5 : fb_AR) => (fb_o11 zb zr0 zr1 zr2 zr3 zr4 (zq 0) zr6 zh zr8 zr9) ++ (fb_o0 zh (((f_X0_keepUp ze0 zo zso zn zsn zs).2.1) 0) (((f_X0_keepUp ze0 zo zso zn zsn zs).2.2.2.1) 0) ((f_X0_keepUp ze0 zo zso zn zsn zs).1)) ++ (fb_mw cI ((f_X0_keepUp ze0 zo zso zn zsn zs).2.1) ((f_X0_keepUp ze0 zo zso zn zsn zs).2.2.1) (w4.1)) ++ (fb_mw cI ((f_X0_keepUp ze0 zo zso zn zsn zs).2.2.2.1) ((f_X0_keepUp ze0 zo zso zn zsn zs).2.2.2.2) (w4.2)) ++ (fb_mw cI zq ((f_X2_advance zs).2) (w5))) X I (fb_runV (As := []) (rest := []) (q0 := 18) X I hl (c_X2_advance l D cI cJ zq zs zw _) (fb_goodV fw_678 fw_679 fw_680 fw_51 fw_681) rfl rfl rfl (by decide +kernel : fb_hd yX2_advance 0) ⟨Nat.le_of_ble_eq_true rfl, Nat.le_of_ble_eq_true rfl⟩ [18, 19, 20, 21, 22, 23, 24, 25] (by decide) rfl rfl rfl rfl rfl rfl (Nat.le_of_ble_eq_true rfl) ⟨Nat.zero_le _, Nat.zero_le _⟩ dX11_step_27) [18, 19, 20, 21, 22, 23, 24, 25] [0, 1, 2, 3, 4, 5, 6, 7, 8, 9, 10, 11, 12, 13, 14, 15, 16, 17] [0, 1, 2, 3, 4, 5, 6, 7, 8, 9, 10, 11, 12, 13, 14, 15, 16, 17, 18, 19, 20, 21, 22, 23, 24, 25] rfl rfl (by decide) (by decide) (by decide) (fun _ => rfl) ?_
    intro r6 w5 H locs e0 I
    subst e0
    subst E2
    exact fb_retI (u := ((w4.1), (w4.2), (w5))) X I rfl rfl dX11_step_30
  · have E3 := (E.trans (if_neg c1))
    refine lv_iconst (v := (0 : Int32)) hx hb dX11_step_10 (by decide) ?_
    subst E3
    exact fb_retI (u := (zwo, zwn, zw)) X I rfl rfl dX11_step_11
set_option maxHeartbeats 4000000 in
set_option maxRecDepth 100000 in
theorem c_X11_step (l : Launch) (D : va_G) (cI cJ : ClassId) (zb : Nat) (zr0 : Nat) (zr1 : Nat) (zr2 : Nat) (zr3 : Nat) (zr4 : Nat) (zr6 : Nat) (zh : Nat) (zr8 : Nat) (zr9 : Nat) (ze0 : fb_AR) (zo : Nat → Nat) (zso : fb_MS) (zwo : fb_AR) (zn : Nat → Nat) (zsn : fb_MS) (zwn : fb_AR) (zq : Nat → Nat) (zs : fb_MS) (zw : fb_AR)  (sz : Nat)  : Met l yX11_step (Cond.code yX11_step cX11_step 1 (some .int) :: fb_all) ({ frames := 6, cells := 0, slots := 0, locals := 153 } : Room) (fb_PP D (fb_ty cI cJ) [.ref zb] ((fb_o11 zb zr0 zr1 zr2 zr3 zr4 (zq 0) zr6 zh zr8 zr9) ++ (fb_o0 zh (zo 0) (zn 0) ze0) ++ (fb_mw cI zo zso zwo) ++ (fb_mw cI zn zsn zwn) ++ (fb_mw cI zq zs zw)) sz) (fb_QI D (va_A ((fb_o11 zb zr0 zr1 zr2 zr3 zr4 (zq 0) zr6 zh zr8 zr9) ++ (fb_o0 zh (zo 0) (zn 0) ze0) ++ (fb_mw cI zo zso zwo) ++ (fb_mw cI zn zsn zwn) ++ (fb_mw cI zq zs zw)) sz) (fun (r : Int32) (_ : fb_AR × fb_AR × fb_AR) => r = ((f_X11_step ze0 zo zso zn zsn zs)).1) (fun (t : fb_AR × fb_AR × fb_AR) => (fb_o11 zb zr0 zr1 zr2 zr3 zr4 (zq 0) zr6 zh zr8 zr9) ++ (fb_o0 zh ((((f_X11_step ze0 zo zso zn zsn zs)).2.2.1) 0) ((((f_X11_step ze0 zo zso zn zsn zs)).2.2.2.2.1) 0) (((f_X11_step ze0 zo zso zn zsn zs)).2.1)) ++ (fb_mw cI (((f_X11_step ze0 zo zso zn zsn zs)).2.2.1) (((f_X11_step ze0 zo zso zn zsn zs)).2.2.2.1) (t.1)) ++ (fb_mw cI (((f_X11_step ze0 zo zso zn zsn zs)).2.2.2.2.1) (((f_X11_step ze0 zo zso zn zsn zs)).2.2.2.2.2.1) (t.2.1)) ++ (fb_mw cI zq (((f_X11_step ze0 zo zso zn zsn zs)).2.2.2.2.2.2) (t.2.2)))) 0 0 (va_A ((fb_o11 zb zr0 zr1 zr2 zr3 zr4 (zq 0) zr6 zh zr8 zr9) ++ (fb_o0 zh (zo 0) (zn 0) ze0) ++ (fb_mw cI zo zso zwo) ++ (fb_mw cI zn zsn zwn) ++ (fb_mw cI zq zs zw)) sz) := by
  refine fb_ent (Qf := fun A => (fb_QI D A (fun (r : Int32) (_ : fb_AR × fb_AR × fb_AR) => r = ((f_X11_step ze0 zo zso zn zsn zs)).1) (fun (t : fb_AR × fb_AR × fb_AR) => (fb_o11 zb zr0 zr1 zr2 zr3 zr4 (zq 0) zr6 zh zr8 zr9) ++ (fb_o0 zh ((((f_X11_step ze0 zo zso zn zsn zs)).2.2.1) 0) ((((f_X11_step ze0 zo zso zn zsn zs)).2.2.2.2.1) 0) (((f_X11_step ze0 zo zso zn zsn zs)).2.1)) ++ (fb_mw cI (((f_X11_step ze0 zo zso zn zsn zs)).2.2.1) (((f_X11_step ze0 zo zso zn zsn zs)).2.2.2.1) (t.1)) ++ (fb_mw cI (((f_X11_step ze0 zo zso zn zsn zs)).2.2.2.2.1) (((f_X11_step ze0 zo zso zn zsn zs)).2.2.2.2.2.1) (t.2.1)) ++ (fb_mw cI zq (((f_X11_step ze0 zo zso zn zsn zs)).2.2.2.2.2.2) (t.2.2))))) (by decide +kernel) (Nat.le_of_ble_eq_true rfl) ?_
  intro p e s m args below meth c A ls X I hl hin
  exact b_X11_step_0 X  I hl rfl
/-! X11_run -/
def f_X11_run (ze0 : fb_AR) (zo : (Nat → Nat)) (zso : fb_MS) (zn : (Nat → Nat)) (zsn : fb_MS) (zs : fb_MS) (ze7 : fb_AR) (l1 : Int32) : Int32 × fb_AR × (Nat → Nat) × fb_MS × (Nat → Nat) × fb_MS × fb_MS × fb_AR := (((f_X11_goOn ze0 zo zso zn zsn zs ze7 l1 (-1 : Int32)).1), ((f_X11_goOn ze0 zo zso zn zsn zs ze7 l1 (-1 : Int32)).2.1), ((f_X11_goOn ze0 zo zso zn zsn zs ze7 l1 (-1 : Int32)).2.2.1), ((f_X11_goOn ze0 zo zso zn zsn zs ze7 l1 (-1 : Int32)).2.2.2.1), ((f_X11_goOn ze0 zo zso zn zsn zs ze7 l1 (-1 : Int32)).2.2.2.2.1), ((f_X11_goOn ze0 zo zso zn zsn zs ze7 l1 (-1 : Int32)).2.2.2.2.2.1), ((f_X11_goOn ze0 zo zso zn zsn zs ze7 l1 (-1 : Int32)).2.2.2.2.2.2.1), ((f_X11_goOn ze0 zo zso zn zsn zs ze7 l1 (-1 : Int32)).2.2.2.2.2.2.2))
set_option maxHeartbeats 4000000 in
set_option maxRecDepth 100000 in
theorem b_X11_run_0 {p : Program} {l : Launch} {e : Env} {s : State} {m : MethodId} {args : Array Value} {below : List Frame} {meth : Method} {c : Code} {D : va_G} {cI cJ : ClassId} {A : Nat → Prop} {zb : Nat} {zr0 : Nat} {zr1 : Nat} {zr2 : Nat} {zr3 : Nat} {zr4 : Nat} {zr6 : Nat} {zh : Nat} {zst : Nat} {zr9 : Nat} {zq : Nat → Nat} {zs0 : Nat} {zs1 : Nat} {zs3 : Nat} {zs4 : Nat} {zs5 : Nat} {z : Int32 × fb_AR × (Nat → Nat) × fb_MS × (Nat → Nat) × fb_MS × fb_MS × fb_AR} (X : fb_Bx p s m args meth c cX11_run RX11 2 (some .int) D (fb_ty cI cJ) A) {ze0 : fb_AR} {zo : Nat → Nat} {zso : fb_MS} {zwo : fb_AR} {zn : Nat → Nat} {zsn : fb_MS} {zwn : fb_AR} {zs : fb_MS} {zw : fb_AR} {ze7 : fb_AR} {l1 : Int32} {H : Heap} {locs : List Loc} {ls : Array Slot} (gs : f_X11_isNoSpan l1 = 0) (h0 : ze7 6 = 0) (h1 : ze7 2 = 0) (I : fb_In D A s.heap ((fb_o11 zb zr0 zr1 zr2 zr3 zr4 (zq 0) zr6 zh zst zr9) ++ (fb_o0 zh (zo 0) (zn 0) ze0) ++ (fb_mw cI zo zso zwo) ++ (fb_mw cI zn zsn zwn) ++ (fb_mw cI zq zs zw) ++ (fb_o7 zst zs0 zs1 zs3 zs4 zs5 ze7)) H locs) (hl : lv_has ls 2 [(0, .ref zb), (1, .int l1)]) (E : z = f_X11_run ze0 zo zso zn zsn zs ze7 l1) : W p l e ({ frames := 7, cells := 0, slots := 0, locals := 178 } : Room) s m args below meth c H locs 0 0 (MQ below (fb_QI D A (fun (r : Int32) (_ : fb_AR × fb_AR × fb_AR) => r = z.1) (fun (t : fb_AR × fb_AR × fb_AR) => (fb_o11 zb zr0 zr1 zr2 zr3 zr4 (zq 0) zr6 zh zst zr9) ++ (fb_o0 zh ((z.2.2.1) 0) ((z.2.2.2.2.1) 0) (z.2.1)) ++ (fb_mw cI (z.2.2.1) (z.2.2.2.1) (t.1)) ++ (fb_mw cI (z.2.2.2.2.1) (z.2.2.2.2.2.1) (t.2.1)) ++ (fb_mw cI zq (z.2.2.2.2.2.2.1) (t.2.2)) ++ (fb_o7 zst zs0 zs1 zs3 zs4 zs5 (z.2.2.2.2.2.2.2)))) args s 0 0 A) (F0 m 0 ls []) := by
  obtain ⟨hx, hb, hr, hml, hown, hts, hlk, hA, hK, hF⟩ := id X
  refine lv_iload_n hx hb dX11_run_0 rfl (lv_at hl 1 rfl) ?_
  refine fb_roI X I (fb_runS (As := [.int l1]) (rest := []) X I hl (c_X11_isNoSpan l D cI cJ l1 _) (fb_goodS fw_876 fw_877 fw_44 fw_878) rfl rfl (by decide +kernel : fb_hd yX11_isNoSpan 1) ⟨Nat.le_of_ble_eq_true rfl, Nat.le_of_ble_eq_true rfl⟩ [] (by decide) rfl rfl rfl (Nat.le_of_ble_eq_true rfl) ⟨Nat.zero_le _, Nat.zero_le _⟩ dX11_run_1) ?_
  refine lv_if_eq (tgt := 17) hx hb dX11_run_4 (by decide) (fun _ => ?_) (fun c1 => absurd gs c1)
  refine lv_aload_n hx hb dX11_run_17 rfl (lv_at hl 0 rfl) ?_
  refine lv_iload_n hx hb dX11_run_18 rfl (lv_at hl 1 rfl) ?_
  refine lv_iconst (v := (-1 : Int32)) hx hb dX11_run_19 (by decide) ?_
  refine fb_goI (wn := fun (w2 : fb_AR × fb_AR × fb_AR) => (fb_o11 zb zr0 zr1 zr2 zr3 zr4 (zq 0) zr6 zh zst zr9) ++ (fb_o0 zh (((f_X11_goOn ze0 zo zso zn zsn zs ze7 l1 (-1 : Int32)).2.2.1) 0) (((f_X11_goOn ze0 zo zso zn zsn zs ze7 l1 (-1 : Int32)).2.2.2.2.1) 0) ((f_X11_goOn ze0 zo zso zn zsn zs ze7 l1 (-1 : Int32)).2.1)) ++ (fb_mw cI ((f_X11_goOn ze0 zo zso zn zsn zs ze7 l1 (-1 : Int32)).2.2.1) ((f_X11_goOn ze0 zo zso zn zsn zs ze7 l1 (-1 : Int32)).2.2.2.1) (w2.1)) ++ (fb_mw cI ((f_X11_goOn ze0 zo zso zn zsn zs ze7 l1 (-1 : Int32)).2.2.2.2.1) ((f_X11_goOn ze0 zo zso zn zsn zs ze7 l1 (-1 : Int32)).2.2.2.2.2.1) (w2.2.1)) ++ (fb_mw cI zq ((f_X11_goOn ze0 zo zso zn zsn zs ze7 l1 (-1 : Int32)).2.2.2.2.2.2.1) (w2.2.2)) ++ (fb_o7 zst zs0 zs1 zs3 zs4 zs5 ((f_X11_goOn ze0 zo zso zn zsn zs ze7 l1 (-1 : Int32)).2.2.2.2.2.2.2))) X I (fb_runV (As := [.int l1, .int (-1 : Int32)]) (rest := []) (q0 := 0) X I hl (c_X11_goOn l D cI cJ zb zr0 zr1 zr2 zr3 zr4 zr6 zh zst zr9 ze0 zo zso zwo zn zsn zwn zq zs zw zs0 zs1 zs3 zs4 zs5 ze7 l1 (-1 : Int32) _ h0 h1) (fb_goodV fw_880 fw_882 fw_38 fw_44 fw_883) rfl rfl rfl (by decide +kernel : fb_hd yX11_goOn 2) ⟨Nat.le_of_ble_eq_true rfl, Nat.le_of_ble_eq_true rfl⟩ [0, 1, 2, 3, 4, 5, 6, 7, 8, 9, 10, 11, 12, 13, 14, 15, 16, 17, 18, 19, 20, 21, 22, 23, 24, 25, 26] (by decide) rfl rfl rfl rfl rfl rfl (Nat.le_of_ble_eq_true rfl) ⟨Nat.zero_le _, Nat.zero_le _⟩ dX11_run_20) [0, 1, 2, 3, 4, 5, 6, 7, 8, 9, 10, 11, 12, 13, 14, 15, 16, 17, 18, 19, 20, 21, 22, 23, 24, 25, 26] [] [0, 1, 2, 3, 4, 5, 6, 7, 8, 9, 10, 11, 12, 13, 14, 15, 16, 17, 18, 19, 20, 21, 22, 23, 24, 25, 26] rfl rfl (by decide) (by decide) (by decide) (fun _ => rfl) ?_
  intro r3 w2 H locs e0 I
  subst e0
  subst E
  exact fb_retI (u := ((w2.1), (w2.2.1), (w2.2.2))) X I rfl rfl dX11_run_23
set_option maxHeartbeats 4000000 in
set_option maxRecDepth 100000 in
theorem c_X11_run (l : Launch) (D : va_G) (cI cJ : ClassId) (zb : Nat) (zr0 : Nat) (zr1 : Nat) (zr2 : Nat) (zr3 : Nat) (zr4 : Nat) (zr6 : Nat) (zh : Nat) (zst : Nat) (zr9 : Nat) (ze0 : fb_AR) (zo : Nat → Nat) (zso : fb_MS) (zwo : fb_AR) (zn : Nat → Nat) (zsn : fb_MS) (zwn : fb_AR) (zq : Nat → Nat) (zs : fb_MS) (zw : fb_AR) (zs0 : Nat) (zs1 : Nat) (zs3 : Nat) (zs4 : Nat) (zs5 : Nat) (ze7 : fb_AR) (l1 : Int32) (sz : Nat) (gs : f_X11_isNoSpan l1 = 0) (h0 : ze7 6 = 0) (h1 : ze7 2 = 0) : Met l yX11_run (Cond.code yX11_run cX11_run 2 (some .int) :: fb_all) ({ frames := 7, cells := 0, slots := 0, locals := 178 } : Room) (fb_PP D (fb_ty cI cJ) [.ref zb, .int l1] ((fb_o11 zb zr0 zr1 zr2 zr3 zr4 (zq 0) zr6 zh zst zr9) ++ (fb_o0 zh (zo 0) (zn 0) ze0) ++ (fb_mw cI zo zso zwo) ++ (fb_mw cI zn zsn zwn) ++ (fb_mw cI zq zs zw) ++ (fb_o7 zst zs0 zs1 zs3 zs4 zs5 ze7)) sz) (fb_QI D (va_A ((fb_o11 zb zr0 zr1 zr2 zr3 zr4 (zq 0) zr6 zh zst zr9) ++ (fb_o0 zh (zo 0) (zn 0) ze0) ++ (fb_mw cI zo zso zwo) ++ (fb_mw cI zn zsn zwn) ++ (fb_mw cI zq zs zw) ++ (fb_o7 zst zs0 zs1 zs3 zs4 zs5 ze7)) sz) (fun (r : Int32) (_ : fb_AR × fb_AR × fb_AR) => r = ((f_X11_run ze0 zo zso zn zsn zs ze7 l1)).1) (fun (t : fb_AR × fb_AR × fb_AR) => (fb_o11 zb zr0 zr1 zr2 zr3 zr4 (zq 0) zr6 zh zst zr9) ++ (fb_o0 zh ((((f_X11_run ze0 zo zso zn zsn zs ze7 l1)).2.2.1) 0) ((((f_X11_run ze0 zo zso zn zsn zs ze7 l1)).2.2.2.2.1) 0) (((f_X11_run ze0 zo zso zn zsn zs ze7 l1)).2.1)) ++ (fb_mw cI (((f_X11_run ze0 zo zso zn zsn zs ze7 l1)).2.2.1) (((f_X11_run ze0 zo zso zn zsn zs ze7 l1)).2.2.2.1) (t.1)) ++ (fb_mw cI (((f_X11_run ze0 zo zso zn zsn zs ze7 l1)).2.2.2.2.1) (((f_X11_run ze0 zo zso zn zsn zs ze7 l1)).2.2.2.2.2.1) (t.2.1)) ++ (fb_mw cI zq (((f_X11_run ze0 zo zso zn zsn zs ze7 l1)).2.2.2.2.2.2.1) (t.2.2)) ++ (fb_o7 zst zs0 zs1 zs3 zs4 zs5 (((f_X11_run ze0 zo zso zn zsn zs ze7 l1)).2.2.2.2.2.2.2)))) 0 0 (va_A ((fb_o11 zb zr0 zr1 zr2 zr3 zr4 (zq 0) zr6 zh zst zr9) ++ (fb_o0 zh (zo 0) (zn 0) ze0) ++ (fb_mw cI zo zso zwo) ++ (fb_mw cI zn zsn zwn) ++ (fb_mw cI zq zs zw) ++ (fb_o7 zst zs0 zs1 zs3 zs4 zs5 ze7)) sz) := by
  refine fb_ent (Qf := fun A => (fb_QI D A (fun (r : Int32) (_ : fb_AR × fb_AR × fb_AR) => r = ((f_X11_run ze0 zo zso zn zsn zs ze7 l1)).1) (fun (t : fb_AR × fb_AR × fb_AR) => (fb_o11 zb zr0 zr1 zr2 zr3 zr4 (zq 0) zr6 zh zst zr9) ++ (fb_o0 zh ((((f_X11_run ze0 zo zso zn zsn zs ze7 l1)).2.2.1) 0) ((((f_X11_run ze0 zo zso zn zsn zs ze7 l1)).2.2.2.2.1) 0) (((f_X11_run ze0 zo zso zn zsn zs ze7 l1)).2.1)) ++ (fb_mw cI (((f_X11_run ze0 zo zso zn zsn zs ze7 l1)).2.2.1) (((f_X11_run ze0 zo zso zn zsn zs ze7 l1)).2.2.2.1) (t.1)) ++ (fb_mw cI (((f_X11_run ze0 zo zso zn zsn zs ze7 l1)).2.2.2.2.1) (((f_X11_run ze0 zo zso zn zsn zs ze7 l1)).2.2.2.2.2.1) (t.2.1)) ++ (fb_mw cI zq (((f_X11_run ze0 zo zso zn zsn zs ze7 l1)).2.2.2.2.2.2.1) (t.2.2)) ++ (fb_o7 zst zs0 zs1 zs3 zs4 zs5 (((f_X11_run ze0 zo zso zn zsn zs ze7 l1)).2.2.2.2.2.2.2))))) (by decide +kernel) (Nat.le_of_ble_eq_true rfl) ?_
  intro p e s m args below meth c A ls X I hl hin
  exact b_X11_run_0 X gs h0 h1 I hl rfl
/-! X11_back -/
def f_X11_back (ze0 : fb_AR) (zso : fb_MS) (zsn : fb_MS) (zs : fb_MS) (ze7 : fb_AR) (l1 : Int32) : Int32 × fb_AR × fb_MS × fb_AR := (((f_X0_rewind ze0 zso zsn zs l1).1), ((f_X0_rewind ze0 zso zsn zs l1).2.1), ((f_X0_rewind ze0 zso zsn zs l1).2.2), (upd ze7 7 (0 : Int32)))
set_option maxHeartbeats 4000000 in
set_option maxRecDepth 100000 in
theorem b_X11_back_0 {p : Program} {l : Launch} {e : Env} {s : State} {m : MethodId} {args : Array Value} {below : List Frame} {meth : Method} {c : Code} {D : va_G} {cI cJ : ClassId} {A : Nat → Prop} {zb : Nat} {zr0 : Nat} {zr1 : Nat} {zr2 : Nat} {zr3 : Nat} {zr4 : Nat} {zr6 : Nat} {zh : Nat} {zst : Nat} {zr9 : Nat} {zo : Nat → Nat} {zn : Nat → Nat} {zq : Nat → Nat} {zs0 : Nat} {zs1 : Nat} {zs3 : Nat} {zs4 : Nat} {zs5 : Nat} {z : Int32 × fb_AR × fb_MS × fb_AR} (X : fb_Bx p s m args meth c cX11_back RX11 2 (some .int) D (fb_ty cI cJ) A) {ze0 : fb_AR} {zso : fb_MS} {zwo : fb_AR} {zsn : fb_MS} {zwn : fb_AR} {zs : fb_MS} {zw : fb_AR} {ze7 : fb_AR} {l1 : Int32} {H : Heap} {locs : List Loc} {ls : Array Slot} (b1 : ¬ l1 < 1) (b2 : l1 ≤ 200) (I : fb_In D A s.heap ((fb_o11 zb zr0 zr1 zr2 zr3 zr4 (zq 0) zr6 zh zst zr9) ++ (fb_o0 zh (zo 0) (zn 0) ze0) ++ (fb_mw cI zo zso zwo) ++ (fb_mw cI zn zsn zwn) ++ (fb_mw cI zq zs zw) ++ (fb_o7 zst zs0 zs1 zs3 zs4 zs5 ze7)) H locs) (hl : lv_has ls 2 [(0, .ref zb), (1, .int l1)]) (E : z = f_X11_back ze0 zso zsn zs ze7 l1) : W p l e ({ frames := 7, cells := 0, slots := 0, locals := 178 } : Room) s m args below meth c H locs 0 0 (MQ below (fb_QI D A (fun (r : Int32) (_ : fb_AR) => r = z.1) (fun (t : fb_AR) => (fb_o11 zb zr0 zr1 zr2 zr3 zr4 (zq 0) zr6 zh zst zr9) ++ (fb_o0 zh (zo 0) (zn 0) (z.2.1)) ++ (fb_mw cI zo zso zwo) ++ (fb_mw cI zn zsn zwn) ++ (fb_mw cI zq (z.2.2.1) (t)) ++ (fb_o7 zst zs0 zs1 zs3 zs4 zs5 (z.2.2.2)))) args s 0 0 A) (F0 m 0 ls []) := by
  obtain ⟨hx, hb, hr, hml, hown, hts, hlk, hA, hK, hF⟩ := id X
  refine lv_iload_n hx hb dX11_back_0 rfl (lv_at hl 1 rfl) ?_
  refine lv_iconst (v := (1 : Int32)) hx hb dX11_back_1 (by decide) ?_
  refine lv_icmp_lt (tgt := 12) hx hb dX11_back_2 (by decide) (fun c1 => absurd c1 b1) (fun _ => ?_)
  refine lv_iload_n hx hb dX11_back_5 rfl (lv_at hl 1 rfl) ?_
  refine lv_sipush (v := (200 : Int32)) hx hb dX11_back_6 (by decide) ?_
  refine lv_icmp_le (tgt := 23) hx hb dX11_back_9 (by decide) (fun _ => ?_) (fun c2 => absurd b2 c2)
  refine lv_aload_n hx hb dX11_back_23 rfl (lv_at hl 0 rfl) ?_
  refine fb_get X I (k := 8) fu_X11 0 rfl rfl (Nat.le_of_ble_eq_true rfl) fw_480 rfl rfl dX11_back_24 ?_
  refine lv_iconst (v := (0 : Int32)) hx hb dX11_back_27 (by decide) ?_
  refine fb_put X I (k := 7) (wn := (fb_o11 zb zr0 zr1 zr2 zr3 zr4 (zq 0) zr6 zh zst zr9) ++ (fb_o0 zh (zo 0) (zn 0) ze0) ++ (fb_mw cI zo zso zwo) ++ (fb_mw cI zn zsn zwn) ++ (fb_mw cI zq zs zw) ++ (fb_o7 zst zs0 zs1 zs3 zs4 zs5 (upd ze7 7 (0 : Int32)))) fu_X7 tyX7 tyX7_ok nmX7 26 rfl rfl (Nat.le_of_ble_eq_true rfl) fw_412 rfl rfl rfl rfl rfl (Nat.le_of_ble_eq_true rfl) rfl dX11_back_28 (fun H locs I => ?_)
  refine lv_aload_n hx hb dX11_back_31 rfl (lv_at hl 0 rfl) ?_
  refine fb_get X I (k := 7) fu_X11 0 rfl rfl (Nat.le_of_ble_eq_true rfl) fw_479 rfl rfl dX11_back_32 ?_
  refine lv_aload_n hx hb dX11_back_35 rfl (lv_at hl 0 rfl) ?_
  refine fb_get X I (k := 5) fu_X11 0 rfl rfl (Nat.le_of_ble_eq_true rfl) fw_477 rfl rfl dX11_back_36 ?_
  refine lv_iload_n hx hb dX11_back_39 rfl (lv_at hl 1 rfl) ?_
  refine fb_goI (wn := fun (w3 : fb_AR) => (fb_o11 zb zr0 zr1 zr2 zr3 zr4 (zq 0) zr6 zh zst zr9) ++ (fb_o0 zh (zo 0) (zn 0) ((f_X0_rewind ze0 zso zsn zs l1).2.1)) ++ (fb_mw cI zo zso zwo) ++ (fb_mw cI zn zsn zwn) ++ (fb_mw cI zq ((f_X0_rewind ze0 zso zsn zs l1).2.2) (w3)) ++ (fb_o7 zst zs0 zs1 zs3 zs4 zs5 (upd ze7 7 (0 : Int32)))) X I (fb_runV (As := [.ref (zq 0), .int l1]) (rest := []) (q0 := 1) X I hl (c_X0_rewind l D cI cJ zh ze0 zo zso zwo zn zsn zwn zq zs zw l1 _) (fb_goodV fw_916 fw_917 fw_918 fw_53 fw_919) rfl rfl rfl (by decide +kernel : fb_hd yX0_rewind 2) ⟨Nat.le_of_ble_eq_true rfl, Nat.le_of_ble_eq_true rfl⟩ [1, 2, 3, 4, 5, 6, 7, 8, 9, 10, 11, 12, 13, 14, 15, 16, 17, 18, 19, 20, 21, 22, 23, 24, 25] (by decide) rfl rfl rfl rfl rfl rfl (Nat.le_of_ble_eq_true rfl) ⟨Nat.zero_le _, Nat.zero_le _⟩ dX11_back_40) [1, 2, 3, 4, 5, 6, 7, 8, 9, 10, 11, 12, 13, 14, 15, 16, 17, 18, 19, 20, 21, 22, 23, 24, 25] [0, 26] [0, 2, 3, 4, 5, 6, 7, 8, 9, 10, 11, 12, 13, 14, 15, 16, 17, 18, 19, 20, 21, 22, 23, 24, 25, 26, 1] rfl rfl (by decide) (by decide) (by decide) (fun _ => rfl) ?_
  intro r4 w3 H locs e0 I
  subst e0
  subst E
  exact fb_retI (u := ((w3))) X I rfl rfl dX11_back_43
set_option maxHeartbeats 4000000 in
set_option maxRecDepth 100000 in
theorem c_X11_back (l : Launch) (D : va_G) (cI cJ : ClassId) (zb : Nat) (zr0 : Nat) (zr1 : Nat) (zr2 : Nat) (zr3 : Nat) (zr4 : Nat) (zr6 : Nat) (zh : Nat) (zst : Nat) (zr9 : Nat) (ze0 : fb_AR) (zo : Nat → Nat) (zso : fb_MS) (zwo : fb_AR) (zn : Nat → Nat) (zsn : fb_MS) (zwn : fb_AR) (zq : Nat → Nat) (zs : fb_MS) (zw : fb_AR) (zs0 : Nat) (zs1 : Nat) (zs3 : Nat) (zs4 : Nat) (zs5 : Nat) (ze7 : fb_AR) (l1 : Int32) (sz : Nat) (b1 : ¬ l1 < 1) (b2 : l1 ≤ 200) : Met l yX11_back (Cond.code yX11_back cX11_back 2 (some .int) :: fb_all) ({ frames := 7, cells := 0, slots := 0, locals := 178 } : Room) (fb_PP D (fb_ty cI cJ) [.ref zb, .int l1] ((fb_o11 zb zr0 zr1 zr2 zr3 zr4 (zq 0) zr6 zh zst zr9) ++ (fb_o0 zh (zo 0) (zn 0) ze0) ++ (fb_mw cI zo zso zwo) ++ (fb_mw cI zn zsn zwn) ++ (fb_mw cI zq zs zw) ++ (fb_o7 zst zs0 zs1 zs3 zs4 zs5 ze7)) sz) (fb_QI D (va_A ((fb_o11 zb zr0 zr1 zr2 zr3 zr4 (zq 0) zr6 zh zst zr9) ++ (fb_o0 zh (zo 0) (zn 0) ze0) ++ (fb_mw cI zo zso zwo) ++ (fb_mw cI zn zsn zwn) ++ (fb_mw cI zq zs zw) ++ (fb_o7 zst zs0 zs1 zs3 zs4 zs5 ze7)) sz) (fun (r : Int32) (_ : fb_AR) => r = ((f_X11_back ze0 zso zsn zs ze7 l1)).1) (fun (t : fb_AR) => (fb_o11 zb zr0 zr1 zr2 zr3 zr4 (zq 0) zr6 zh zst zr9) ++ (fb_o0 zh (zo 0) (zn 0) (((f_X11_back ze0 zso zsn zs ze7 l1)).2.1)) ++ (fb_mw cI zo zso zwo) ++ (fb_mw cI zn zsn zwn) ++ (fb_mw cI zq (((f_X11_back ze0 zso zsn zs ze7 l1)).2.2.1) (t)) ++ (fb_o7 zst zs0 zs1 zs3 zs4 zs5 (((f_X11_back ze0 zso zsn zs ze7 l1)).2.2.2)))) 0 0 (va_A ((fb_o11 zb zr0 zr1 zr2 zr3 zr4 (zq 0) zr6 zh zst zr9) ++ (fb_o0 zh (zo 0) (zn 0) ze0) ++ (fb_mw cI zo zso zwo) ++ (fb_mw cI zn zsn zwn) ++ (fb_mw cI zq zs zw) ++ (fb_o7 zst zs0 zs1 zs3 zs4 zs5 ze7)) sz) := by
  refine fb_ent (Qf := fun A => (fb_QI D A (fun (r : Int32) (_ : fb_AR) => r = ((f_X11_back ze0 zso zsn zs ze7 l1)).1) (fun (t : fb_AR) => (fb_o11 zb zr0 zr1 zr2 zr3 zr4 (zq 0) zr6 zh zst zr9) ++ (fb_o0 zh (zo 0) (zn 0) (((f_X11_back ze0 zso zsn zs ze7 l1)).2.1)) ++ (fb_mw cI zo zso zwo) ++ (fb_mw cI zn zsn zwn) ++ (fb_mw cI zq (((f_X11_back ze0 zso zsn zs ze7 l1)).2.2.1) (t)) ++ (fb_o7 zst zs0 zs1 zs3 zs4 zs5 (((f_X11_back ze0 zso zsn zs ze7 l1)).2.2.2))))) (by decide +kernel) (Nat.le_of_ble_eq_true rfl) ?_
  intro p e s m args below meth c A ls X I hl hin
  exact b_X11_back_0 X b1 b2 I hl rfl
/-! X11_cyclesToHalt -/
def f_X11_cyclesToHalt_32  : Nat → fb_MS → fb_MS → Int32 → Int32 → Int32 → Int32
  | 0, zs, zst1, _, _, _ => 0
  | n + 1, zs, zst1, l1, l2, l3 => (if (1000000 : Int32) ≤ l3 then (if (f_X2_endReason zst1) = 0 then (-1 : Int32) else l2) else (if l1 ≤ l2 then (if (f_X2_endReason zst1) = 0 then (-1 : Int32) else l2) else (if (f_X2_endReason zst1) = 0 then f_X11_cyclesToHalt_32 n zs ((f_X2_advance zst1).2) l1 (l2 + ((f_X2_advance zst1).1)) (l3 + (1 : Int32)) else l2)))
def f_X11_cyclesToHalt (zs : fb_MS) (l1 : Int32) : Int32 := f_X11_cyclesToHalt_32 ((fb_mu (0 : Int32) (1000000 : Int32)) + 1) zs ((f_X2_copyFrom zst1 zs)) l1 (0 : Int32) (0 : Int32)
set_option maxHeartbeats 4000000 in
set_option maxRecDepth 100000 in
theorem b_X11_cyclesToHalt_32 {p : Program} {l : Launch} {e : Env} {s : State} {m : MethodId} {args : Array Value} {below : List Frame} {meth : Method} {c : Code} {D : va_G} {cI cJ : ClassId} {A : Nat → Prop} {zb : Nat} {zr0 : Nat} {zr1 : Nat} {zr2 : Nat} {zr3 : Nat} {zr4 : Nat} {zr7 : Nat} {zr8 : Nat} {zr9 : Nat} {zq : Nat → Nat} {zs : fb_MS} {zw : fb_AR} {zt : Nat → Nat} {z : Int32} (X : fb_Bx p s m args meth c cX11_cyclesToHalt RX11 4 (some .int) D (fb_ty cI cJ) A) (gs : f_X11_isNoSpan l1 = 0) : ∀ (n : Nat) {zst1 : fb_MS} {zwt : fb_AR} {l1 : Int32} {l2 : Int32} {l3 : Int32} {H : Heap} {locs : List Loc} {ls : Array Slot} (hm : (fb_mu l3 (1000000 : Int32)) < n) (I : fb_In D A s.heap ((fb_o11 zb zr0 zr1 zr2 zr3 zr4 (zq 0) (zt 0) zr7 zr8 zr9) ++ (fb_mw cI zq zs zw) ++ (fb_mw cI zt zst1 zwt)) H locs) (hl : lv_has ls 4 [(0, .ref zb), (1, .int l1), (2, .int l2), (3, .int l3)]) (E : z = f_X11_cyclesToHalt_32 n zs zst1 l1 l2 l3), W p l e ({ frames := 6, cells := 0, slots := 0, locals := 153 } : Room) s m args below meth c H locs 0 0 (MQ below (fb_QI D A (fun (r : Int32) (_ : fb_MS × fb_AR) => r = z) (fun (t : fb_MS × fb_AR) => (fb_o11 zb zr0 zr1 zr2 zr3 zr4 (zq 0) (zt 0) zr7 zr8 zr9) ++ (fb_mw cI zq zs zw) ++ (fb_mw cI zt (t.1) (t.2)))) args s 0 0 A) (F0 m 32 ls []) := by
  intro n
  obtain ⟨hx, hb, hr, hml, hown, hts, hlk, hA, hK, hF⟩ := id X
  induction n with
  | zero =>
    intro zst1 zwt l1 l2 l3 H locs ls hm
    exact absurd hm (Nat.not_lt_zero _)
  | succ n ih =>
    intro zst1 zwt l1 l2 l3 H locs ls hm I hl E
    refine lv_iload_n hx hb dX11_cyclesToHalt_32 rfl (lv_at hl 3 rfl) ?_
    refine lv_ldcw hx hb hown (hts _ fw_884) dX11_cyclesToHalt_33 ?_
    refine lv_icmp_ge (tgt := 70) hx hb dX11_cyclesToHalt_36 (by decide) (fun c3 => ?_) (fun c3 => ?_)
    · have E4 := (E.trans (if_pos c3))
      refine lv_aload_n hx hb dX11_cyclesToHalt_70 rfl (lv_at hl 0 rfl) ?_
      refine fb_get X I (k := 6) fu_X11 0 rfl rfl (Nat.le_of_ble_eq_true rfl) fw_478 rfl rfl dX11_cyclesToHalt_71 ?_
      refine fb_roI X I (fb_runV (As := []) (rest := []) (q0 := 9) X I hl (c_X2_endReason l D cI cJ zt zst1 zwt _) (fb_goodV fw_658 fw_659 fw_660 fw_51 fw_661) rfl rfl rfl (by decide +kernel : fb_hd yX2_endReason 0) ⟨Nat.le_of_ble_eq_true rfl, Nat.le_of_ble_eq_true rfl⟩ [9, 10, 11, 12, 13, 14, 15, 16] (by decide) rfl rfl rfl rfl rfl rfl (Nat.le_of_ble_eq_true rfl) ⟨Nat.zero_le _, Nat.zero_le _⟩ dX11_cyclesToHalt_74) ?_
      refine lv_if_eq (tgt := 84) hx hb dX11_cyclesToHalt_77 (by decide) (fun c6 => ?_) (fun c6 => ?_)
      · have E7 := (E4.trans (if_pos c6))
        refine lv_iconst (v := (-1 : Int32)) hx hb dX11_cyclesToHalt_84 (by decide) ?_
        subst E7
        exact fb_retI (u := (zst1, zwt)) X I rfl rfl dX11_cyclesToHalt_85
      · have E8 := (E4.trans (if_neg c6))
        refine lv_iload_n hx hb dX11_cyclesToHalt_80 rfl (lv_at hl 2 rfl) ?_
        refine lv_goto (tgt := 85) hx hb dX11_cyclesToHalt_81 (by decide) ?_
        subst E8
        exact fb_retI (u := (zst1, zwt)) X I rfl rfl dX11_cyclesToHalt_85
    · have E5 := (E.trans (if_neg c3))
      refine lv_iload_n hx hb dX11_cyclesToHalt_39 rfl (lv_at hl 2 rfl) ?_
      refine lv_iload_n hx hb dX11_cyclesToHalt_40 rfl (lv_at hl 1 rfl) ?_
      refine lv_icmp_ge (tgt := 70) hx hb dX11_cyclesToHalt_41 (by decide) (fun c9 => ?_) (fun c9 => ?_)
      · have E10 := (E5.trans (if_pos c9))
        refine lv_aload_n hx hb dX11_cyclesToHalt_70 rfl (lv_at hl 0 rfl) ?_
        refine fb_get X I (k := 6) fu_X11 0 rfl rfl (Nat.le_of_ble_eq_true rfl) fw_478 rfl rfl dX11_cyclesToHalt_71 ?_
        refine fb_roI X I (fb_runV (As := []) (rest := []) (q0 := 9) X I hl (c_X2_endReason l D cI cJ zt zst1 zwt _) (fb_goodV fw_658 fw_659 fw_660 fw_51 fw_661) rfl rfl rfl (by decide +kernel : fb_hd yX2_endReason 0) ⟨Nat.le_of_ble_eq_true rfl, Nat.le_of_ble_eq_true rfl⟩ [9, 10, 11, 12, 13, 14, 15, 16] (by decide) rfl rfl rfl rfl rfl rfl (Nat.le_of_ble_eq_true rfl) ⟨Nat.zero_le _, Nat.zero_le _⟩ dX11_cyclesToHalt_74) ?_
        refine lv_if_eq (tgt := 84) hx hb dX11_cyclesToHalt_77 (by decide) (fun c12 => ?_) (fun c12 => ?_)
        · have E13 := (E10.trans (if_pos c12))
          refine lv_iconst (v := (-1 : Int32)) hx hb dX11_cyclesToHalt_84 (by decide) ?_
          subst E13
          exact fb_retI (u := (zst1, zwt)) X I rfl rfl dX11_cyclesToHalt_85
        · have E14 := (E10.trans (if_neg c12))
          refine lv_iload_n hx hb dX11_cyclesToHalt_80 rfl (lv_at hl 2 rfl) ?_
          refine lv_goto (tgt := 85) hx hb dX11_cyclesToHalt_81 (by decide) ?_
          subst E14
          exact fb_retI (u := (zst1, zwt)) X I rfl rfl dX11_cyclesToHalt_85
      · have E11 := (E5.trans (if_neg c9))
        refine lv_aload_n hx hb dX11_cyclesToHalt_44 rfl (lv_at hl 0 rfl) ?_
        refine fb_get X I (k := 6) fu_X11 0 rfl rfl (Nat.le_of_ble_eq_true rfl) fw_478 rfl rfl dX11_cyclesToHalt_45 ?_
        refine fb_roI X I (fb_runV (As := []) (rest := []) (q0 := 9) X I hl (c_X2_endReason l D cI cJ zt zst1 zwt _) (fb_goodV fw_658 fw_659 fw_660 fw_51 fw_661) rfl rfl rfl (by decide +kernel : fb_hd yX2_endReason 0) ⟨Nat.le_of_ble_eq_true rfl, Nat.le_of_ble_eq_true rfl⟩ [9, 10, 11, 12, 13, 14, 15, 16] (by decide) rfl rfl rfl rfl rfl rfl (Nat.le_of_ble_eq_true rfl) ⟨Nat.zero_le _, Nat.zero_le _⟩ dX11_cyclesToHalt_48) ?_
        refine lv_if_ne (tgt := 70) hx hb dX11_cyclesToHalt_51 (by decide) (fun c15 => ?_) (fun c15 => ?_)
        · have E16 := (E11.trans (if_neg c15))
          refine lv_aload_n hx hb dX11_cyclesToHalt_70 rfl (lv_at hl 0 rfl) ?_
          refine fb_get X I (k := 6) fu_X11 0 rfl rfl (Nat.le_of_ble_eq_true rfl) fw_478 rfl rfl dX11_cyclesToHalt_71 ?_
          refine fb_roI X I (fb_runV (As := []) (rest := []) (q0 := 9) X I hl (c_X2_endReason l D cI cJ zt zst1 zwt _) (fb_goodV fw_658 fw_659 fw_660 fw_51 fw_661) rfl rfl rfl (by decide +kernel : fb_hd yX2_endReason 0) ⟨Nat.le_of_ble_eq_true rfl, Nat.le_of_ble_eq_true rfl⟩ [9, 10, 11, 12, 13, 14, 15, 16] (by decide) rfl rfl rfl rfl rfl rfl (Nat.le_of_ble_eq_true rfl) ⟨Nat.zero_le _, Nat.zero_le _⟩ dX11_cyclesToHalt_74) ?_
          refine lv_if_eq (tgt := 84) hx hb dX11_cyclesToHalt_77 (by decide) (fun c18 => absurd c18 c15) (fun _ => ?_)
          refine lv_iload_n hx hb dX11_cyclesToHalt_80 rfl (lv_at hl 2 rfl) ?_
          refine lv_goto (tgt := 85) hx hb dX11_cyclesToHalt_81 (by decide) ?_
          subst E16
          exact fb_retI (u := (zst1, zwt)) X I rfl rfl dX11_cyclesToHalt_85
        · have E17 := (E11.trans (if_pos c15))
          refine lv_iload_n hx hb dX11_cyclesToHalt_54 rfl (lv_at hl 2 rfl) ?_
          refine lv_aload_n hx hb dX11_cyclesToHalt_55 rfl (lv_at hl 0 rfl) ?_
          refine fb_get X I (k := 6) fu_X11 0 rfl rfl (Nat.le_of_ble_eq_true rfl) fw_478 rfl rfl dX11_cyclesToHalt_56 ?_
          refine fb_goI (wn := fun (w19 : fb_AR) => (fb_o11 zb zr0 zr1 zr2 zr3 zr4 (zq 0) (zt 0) zr7 zr8 zr9) ++ (fb_mw cI zq zs zw) ++ (fb_mw cI zt ((f_X2_advance zst1).2) (w19))) X I (fb_runV (As := []) (rest := [.int l2]) (q0 := 9) X I hl (c_X2_advance l D cI cJ zt zst1 zwt _) (fb_goodV fw_678 fw_679 fw_680 fw_51 fw_681) rfl rfl rfl (by decide +kernel : fb_hd yX2_advance 0) ⟨Nat.le_of_ble_eq_true rfl, Nat.le_of_ble_eq_true rfl⟩ [9, 10, 11, 12, 13, 14, 15, 16] (by decide) rfl rfl rfl rfl rfl rfl (Nat.le_of_ble_eq_true rfl) ⟨Nat.zero_le _, Nat.zero_le _⟩ dX11_cyclesToHalt_59) [9, 10, 11, 12, 13, 14, 15, 16] [0, 1, 2, 3, 4, 5, 6, 7, 8] [0, 1, 2, 3, 4, 5, 6, 7, 8, 9, 10, 11, 12, 13, 14, 15, 16] rfl rfl (by decide) (by decide) (by decide) (fun _ => rfl) ?_
          intro r20 w19 H locs e0 I
          subst e0
          refine lv_iadd hx hb dX11_cyclesToHalt_62 ?_
          refine lv_istore_n (lv' := [(2, .int (l2 + ((f_X2_advance zst1).1))), (0, .ref zb), (1, .int l1), (3, .int l3)]) hx hb dX11_cyclesToHalt_63 rfl hl (by decide) rfl (fun ls hl => ?_)
          refine lv_iinc (v := (l3 + (1 : Int32))) (lv' := [(3, .int (l3 + (1 : Int32))), (2, .int (l2 + ((f_X2_advance zst1).1))), (0, .ref zb), (1, .int l1)]) hx hb dX11_cyclesToHalt_64 hl (k := 3) rfl rfl (by decide) rfl (fun ls hl => ?_)
          refine lv_goto (tgt := 32) hx hb dX11_cyclesToHalt_67 (by decide) ?_
          exact ih (l1 := l1) (l2 := (l2 + ((f_X2_advance zst1).1))) (l3 := (l3 + (1 : Int32))) (fb_mu_ge c3 hm)  I (lv_sub hl [2, 3, 1, 0] rfl) E17
set_option maxHeartbeats 4000000 in
set_option maxRecDepth 100000 in
theorem b_X11_cyclesToHalt_0 {p : Program} {l : Launch} {e : Env} {s : State} {m : MethodId} {args : Array Value} {below : List Frame} {meth : Method} {c : Code} {D : va_G} {cI cJ : ClassId} {A : Nat → Prop} {zb : Nat} {zr0 : Nat} {zr1 : Nat} {zr2 : Nat} {zr3 : Nat} {zr4 : Nat} {zr7 : Nat} {zr8 : Nat} {zr9 : Nat} {zq : Nat → Nat} {zs : fb_MS} {zw : fb_AR} {zt : Nat → Nat} {z : Int32} (X : fb_Bx p s m args meth c cX11_cyclesToHalt RX11 4 (some .int) D (fb_ty cI cJ) A) {zst1 : fb_MS} {zwt : fb_AR} {l1 : Int32} {H : Heap} {locs : List Loc} {ls : Array Slot} (gs : f_X11_isNoSpan l1 = 0) (I : fb_In D A s.heap ((fb_o11 zb zr0 zr1 zr2 zr3 zr4 (zq 0) (zt 0) zr7 zr8 zr9) ++ (fb_mw cI zq zs zw) ++ (fb_mw cI zt zst1 zwt)) H locs) (hl : lv_has ls 4 [(0, .ref zb), (1, .int l1)]) (E : z = f_X11_cyclesToHalt zs l1) : W p l e ({ frames := 6, cells := 0, slots := 0, locals := 153 } : Room) s m args below meth c H locs 0 0 (MQ below (fb_QI D A (fun (r : Int32) (_ : fb_MS × fb_AR) => r = z) (fun (t : fb_MS × fb_AR) => (fb_o11 zb zr0 zr1 zr2 zr3 zr4 (zq 0) (zt 0) zr7 zr8 zr9) ++ (fb_mw cI zq zs zw) ++ (fb_mw cI zt (t.1) (t.2)))) args s 0 0 A) (F0 m 0 ls []) := by
  obtain ⟨hx, hb, hr, hml, hown, hts, hlk, hA, hK, hF⟩ := id X
  refine lv_iload_n hx hb dX11_cyclesToHalt_0 rfl (lv_at hl 1 rfl) ?_
  refine fb_roI X I (fb_runS (As := [.int l1]) (rest := []) X I hl (c_X11_isNoSpan l D cI cJ l1 _) (fb_goodS fw_876 fw_877 fw_44 fw_878) rfl rfl (by decide +kernel : fb_hd yX11_isNoSpan 1) ⟨Nat.le_of_ble_eq_true rfl, Nat.le_of_ble_eq_true rfl⟩ [] (by decide) rfl rfl rfl (Nat.le_of_ble_eq_true rfl) ⟨Nat.zero_le _, Nat.zero_le _⟩ dX11_cyclesToHalt_1) ?_
  refine lv_if_eq (tgt := 17) hx hb dX11_cyclesToHalt_4 (by decide) (fun _ => ?_) (fun c1 => absurd gs c1)
  refine lv_aload_n hx hb dX11_cyclesToHalt_17 rfl (lv_at hl 0 rfl) ?_
  refine fb_get X I (k := 6) fu_X11 0 rfl rfl (Nat.le_of_ble_eq_true rfl) fw_478 rfl rfl dX11_cyclesToHalt_18 ?_
  refine lv_aload_n hx hb dX11_cyclesToHalt_21 rfl (lv_at hl 0 rfl) ?_
  refine fb_get X I (k := 5) fu_X11 0 rfl rfl (Nat.le_of_ble_eq_true rfl) fw_477 rfl rfl dX11_cyclesToHalt_22 ?_
  refine fb_goV (wn := fun (w2 : fb_AR) => (fb_o11 zb zr0 zr1 zr2 zr3 zr4 (zq 0) (zt 0) zr7 zr8 zr9) ++ (fb_mw cI zq zs zw) ++ (fb_mw cI zt ((f_X2_copyFrom zst1 zs)) (w2))) X I (fb_runV (As := [.ref (zq 0)]) (rest := []) (q0 := 9) X I hl (c_X2_copyFrom l D cI cJ zt zst1 zwt zq zs zw _) (fb_goodV fw_945 fw_667 fw_668 fw_51 fw_669) rfl rfl rfl (by decide +kernel : fb_hd yX2_copyFrom 1) ⟨Nat.le_of_ble_eq_true rfl, Nat.le_of_ble_eq_true rfl⟩ [9, 10, 11, 12, 13, 14, 15, 16, 1, 2, 3, 4, 5, 6, 7, 8] (by decide) rfl rfl rfl rfl rfl rfl (Nat.le_of_ble_eq_true rfl) ⟨Nat.zero_le _, Nat.zero_le _⟩ dX11_cyclesToHalt_25) [9, 10, 11, 12, 13, 14, 15, 16, 1, 2, 3, 4, 5, 6, 7, 8] [0] [0, 9, 10, 11, 12, 13, 14, 15, 16, 1, 2, 3, 4, 5, 6, 7, 8] rfl rfl (by decide) (by decide) (by decide) (fun _ => rfl) ?_
  intro w2 H locs _ I
  refine lv_iconst (v := (0 : Int32)) hx hb dX11_cyclesToHalt_28 (by decide) ?_
  refine lv_istore_n (lv' := [(2, .int (0 : Int32)), (0, .ref zb), (1, .int l1)]) hx hb dX11_cyclesToHalt_29 rfl hl (by decide) rfl (fun ls hl => ?_)
  refine lv_iconst (v := (0 : Int32)) hx hb dX11_cyclesToHalt_30 (by decide) ?_
  refine lv_istore_n (lv' := [(3, .int (0 : Int32)), (2, .int (0 : Int32)), (0, .ref zb), (1, .int l1)]) hx hb dX11_cyclesToHalt_31 rfl hl (by decide) rfl (fun ls hl => ?_)
  exact b_X11_cyclesToHalt_32 X gs ((fb_mu (0 : Int32) (1000000 : Int32)) + 1) (l1 := l1) (l2 := (0 : Int32)) (l3 := (0 : Int32)) (Nat.lt_succ_self _)  I (lv_sub hl [2, 3, 1, 0] rfl) E
set_option maxHeartbeats 4000000 in
set_option maxRecDepth 100000 in
theorem c_X11_cyclesToHalt (l : Launch) (D : va_G) (cI cJ : ClassId) (zb : Nat) (zr0 : Nat) (zr1 : Nat) (zr2 : Nat) (zr3 : Nat) (zr4 : Nat) (zr7 : Nat) (zr8 : Nat) (zr9 : Nat) (zq : Nat → Nat) (zs : fb_MS) (zw : fb_AR) (zt : Nat → Nat) (zst1 : fb_MS) (zwt : fb_AR) (l1 : Int32) (sz : Nat) (gs : f_X11_isNoSpan l1 = 0) : Met l yX11_cyclesToHalt (Cond.code yX11_cyclesToHalt cX11_cyclesToHalt 4 (some .int) :: fb_all) ({ frames := 6, cells := 0, slots := 0, locals := 153 } : Room) (fb_PP D (fb_ty cI cJ) [.ref zb, .int l1] ((fb_o11 zb zr0 zr1 zr2 zr3 zr4 (zq 0) (zt 0) zr7 zr8 zr9) ++ (fb_mw cI zq zs zw) ++ (fb_mw cI zt zst1 zwt)) sz) (fb_QI D (va_A ((fb_o11 zb zr0 zr1 zr2 zr3 zr4 (zq 0) (zt 0) zr7 zr8 zr9) ++ (fb_mw cI zq zs zw) ++ (fb_mw cI zt zst1 zwt)) sz) (fun (r : Int32) (_ : fb_MS × fb_AR) => r = ((f_X11_cyclesToHalt zs l1))) (fun (t : fb_MS × fb_AR) => (fb_o11 zb zr0 zr1 zr2 zr3 zr4 (zq 0) (zt 0) zr7 zr8 zr9) ++ (fb_mw cI zq zs zw) ++ (fb_mw cI zt (t.1) (t.2)))) 0 0 (va_A ((fb_o11 zb zr0 zr1 zr2 zr3 zr4 (zq 0) (zt 0) zr7 zr8 zr9) ++ (fb_mw cI zq zs zw) ++ (fb_mw cI zt zst1 zwt)) sz) := by
  refine fb_ent (Qf := fun A => (fb_QI D A (fun (r : Int32) (_ : fb_MS × fb_AR) => r = ((f_X11_cyclesToHalt zs l1))) (fun (t : fb_MS × fb_AR) => (fb_o11 zb zr0 zr1 zr2 zr3 zr4 (zq 0) (zt 0) zr7 zr8 zr9) ++ (fb_mw cI zq zs zw) ++ (fb_mw cI zt (t.1) (t.2))))) (by decide +kernel) (Nat.le_of_ble_eq_true rfl) ?_
  intro p e s m args below meth c A ls X I hl hin
  exact b_X11_cyclesToHalt_0 X gs I hl rfl
/-! X11_outputsIn -/
def f_X11_outputsIn_32  : Nat → fb_MS → fb_MS → Int32 → Int32 → Int32 → Int32
  | 0, zs, zst1, _, _, _ => 0
  | n + 1, zs, zst1, l1, l2, l3 => (if (1000000 : Int32) ≤ l3 then ((((zst1).2.2.2.2.2).1 6) - (((zs).2.2.2.2.2).1 6)) else (if l1 ≤ l2 then ((((zst1).2.2.2.2.2).1 6) - (((zs).2.2.2.2.2).1 6)) else (if (f_X2_endReason zst1) = 0 then f_X11_outputsIn_32 n zs ((f_X2_advance zst1).2) l1 (l2 + ((f_X2_advance zst1).1)) (l3 + (1 : Int32)) else ((((zst1).2.2.2.2.2).1 6) - (((zs).2.2.2.2.2).1 6)))))
def f_X11_outputsIn (zs : fb_MS) (l1 : Int32) : Int32 := f_X11_outputsIn_32 ((fb_mu (0 : Int32) (1000000 : Int32)) + 1) zs ((f_X2_copyFrom zst1 zs)) l1 (0 : Int32) (0 : Int32)
set_option maxHeartbeats 4000000 in
set_option maxRecDepth 100000 in
theorem b_X11_outputsIn_32 {p : Program} {l : Launch} {e : Env} {s : State} {m : MethodId} {args : Array Value} {below : List Frame} {meth : Method} {c : Code} {D : va_G} {cI cJ : ClassId} {A : Nat → Prop} {zb : Nat} {zr0 : Nat} {zr1 : Nat} {zr2 : Nat} {zr3 : Nat} {zr4 : Nat} {zr7 : Nat} {zr8 : Nat} {zr9 : Nat} {zq : Nat → Nat} {zs : fb_MS} {zw : fb_AR} {zt : Nat → Nat} {z : Int32} (X : fb_Bx p s m args meth c cX11_outputsIn RX11 4 (some .int) D (fb_ty cI cJ) A) (gs : f_X11_isNoSpan l1 = 0) : ∀ (n : Nat) {zst1 : fb_MS} {zwt : fb_AR} {l1 : Int32} {l2 : Int32} {l3 : Int32} {H : Heap} {locs : List Loc} {ls : Array Slot} (hm : (fb_mu l3 (1000000 : Int32)) < n) (I : fb_In D A s.heap ((fb_o11 zb zr0 zr1 zr2 zr3 zr4 (zq 0) (zt 0) zr7 zr8 zr9) ++ (fb_mw cI zq zs zw) ++ (fb_mw cI zt zst1 zwt)) H locs) (hl : lv_has ls 4 [(0, .ref zb), (1, .int l1), (2, .int l2), (3, .int l3)]) (E : z = f_X11_outputsIn_32 n zs zst1 l1 l2 l3), W p l e ({ frames := 6, cells := 0, slots := 0, locals := 153 } : Room) s m args below meth c H locs 0 0 (MQ below (fb_QI D A (fun (r : Int32) (_ : fb_MS × fb_AR) => r = z) (fun (t : fb_MS × fb_AR) => (fb_o11 zb zr0 zr1 zr2 zr3 zr4 (zq 0) (zt 0) zr7 zr8 zr9) ++ (fb_mw cI zq zs zw) ++ (fb_mw cI zt (t.1) (t.2)))) args s 0 0 A) (F0 m 32 ls []) := by
  intro n
  obtain ⟨hx, hb, hr, hml, hown, hts, hlk, hA, hK, hF⟩ := id X
  induction n with
  | zero =>
    intro zst1 zwt l1 l2 l3 H locs ls hm
    exact absurd hm (Nat.not_lt_zero _)
  | succ n ih =>
    intro zst1 zwt l1 l2 l3 H locs ls hm I hl E
    refine lv_iload_n hx hb dX11_outputsIn_32 rfl (lv_at hl 3 rfl) ?_
    refine lv_ldcw hx hb hown (hts _ fw_884) dX11_outputsIn_33 ?_
    refine lv_icmp_ge (tgt := 70) hx hb dX11_outputsIn_36 (by decide) (fun c3 => ?_) (fun c3 => ?_)
    · have E4 := (E.trans (if_pos c3))
      refine lv_aload_n hx hb dX11_outputsIn_70 rfl (lv_at hl 0 rfl) ?_
      refine fb_get X I (k := 6) fu_X11 0 rfl rfl (Nat.le_of_ble_eq_true rfl) fw_478 rfl rfl dX11_outputsIn_71 ?_
      refine fb_get X I (k := 4) fu_X2 9 rfl rfl (Nat.le_of_ble_eq_true rfl) fw_311 rfl rfl dX11_outputsIn_74 ?_
      refine fb_get X I (k := 6) fu_X5 14 rfl rfl (Nat.le_of_ble_eq_true rfl) fw_262 rfl rfl dX11_outputsIn_77 ?_
      refine lv_aload_n hx hb dX11_outputsIn_80 rfl (lv_at hl 0 rfl) ?_
      refine fb_get X I (k := 5) fu_X11 0 rfl rfl (Nat.le_of_ble_eq_true rfl) fw_477 rfl rfl dX11_outputsIn_81 ?_
      refine fb_get X I (k := 4) fu_X2 1 rfl rfl (Nat.le_of_ble_eq_true rfl) fw_311 rfl rfl dX11_outputsIn_84 ?_
      refine fb_get X I (k := 6) fu_X5 6 rfl rfl (Nat.le_of_ble_eq_true rfl) fw_262 rfl rfl dX11_outputsIn_87 ?_
      refine lv_isub hx hb dX11_outputsIn_90 ?_
      subst E4
      exact fb_retI (u := (zst1, zwt)) X I rfl rfl dX11_outputsIn_91
    · have E5 := (E.trans (if_neg c3))
      refine lv_iload_n hx hb dX11_outputsIn_39 rfl (lv_at hl 2 rfl) ?_
      refine lv_iload_n hx hb dX11_outputsIn_40 rfl (lv_at hl 1 rfl) ?_
      refine lv_icmp_ge (tgt := 70) hx hb dX11_outputsIn_41 (by decide) (fun c6 => ?_) (fun c6 => ?_)
      · have E7 := (E5.trans (if_pos c6))
        refine lv_aload_n hx hb dX11_outputsIn_70 rfl (lv_at hl 0 rfl) ?_
        refine fb_get X I (k := 6) fu_X11 0 rfl rfl (Nat.le_of_ble_eq_true rfl) fw_478 rfl rfl dX11_outputsIn_71 ?_
        refine fb_get X I (k := 4) fu_X2 9 rfl rfl (Nat.le_of_ble_eq_true rfl) fw_311 rfl rfl dX11_outputsIn_74 ?_
        refine fb_get X I (k := 6) fu_X5 14 rfl rfl (Nat.le_of_ble_eq_true rfl) fw_262 rfl rfl dX11_outputsIn_77 ?_
        refine lv_aload_n hx hb dX11_outputsIn_80 rfl (lv_at hl 0 rfl) ?_
        refine fb_get X I (k := 5) fu_X11 0 rfl rfl (Nat.le_of_ble_eq_true rfl) fw_477 rfl rfl dX11_outputsIn_81 ?_
        refine fb_get X I (k := 4) fu_X2 1 rfl rfl (Nat.le_of_ble_eq_true rfl) fw_311 rfl rfl dX11_outputsIn_84 ?_
        refine fb_get X I (k := 6) fu_X5 6 rfl rfl (Nat.le_of_ble_eq_true rfl) fw_262 rfl rfl dX11_outputsIn_87 ?_
        refine lv_isub hx hb dX11_outputsIn_90 ?_
        subst E7
        exact fb_retI (u := (zst1, zwt)) X I rfl rfl dX11_outputsIn_91
      · have E8 := (E5.trans (if_neg c6))
        refine lv_aload_n hx hb dX11_outputsIn_44 rfl (lv_at hl 0 rfl) ?_
        refine fb_get X I (k := 6) fu_X11 0 rfl rfl (Nat.le_of_ble_eq_true rfl) fw_478 rfl rfl dX11_outputsIn_45 ?_
        refine fb_roI X I (fb_runV (As := []) (rest := []) (q0 := 9) X I hl (c_X2_endReason l D cI cJ zt zst1 zwt _) (fb_goodV fw_658 fw_659 fw_660 fw_51 fw_661) rfl rfl rfl (by decide +kernel : fb_hd yX2_endReason 0) ⟨Nat.le_of_ble_eq_true rfl, Nat.le_of_ble_eq_true rfl⟩ [9, 10, 11, 12, 13, 14, 15, 16] (by decide) rfl rfl rfl rfl rfl rfl (Nat.le_of_ble_eq_true rfl) ⟨Nat.zero_le _, Nat.zero_le _⟩ dX11_outputsIn_48) ?_
        refine lv_if_ne (tgt := 70) hx hb dX11_outputsIn_51 (by decide) (fun c9 => ?_) (fun c9 => ?_)
        · have E10 := (E8.trans (if_neg c9))
          refine lv_aload_n hx hb dX11_outputsIn_70 rfl (lv_at hl 0 rfl) ?_
          refine fb_get X I (k := 6) fu_X11 0 rfl rfl (Nat.le_of_ble_eq_true rfl) fw_478 rfl rfl dX11_outputsIn_71 ?_
          refine fb_get X I (k := 4) fu_X2 9 rfl rfl (Nat.le_of_ble_eq_true rfl) fw_311 rfl rfl dX11_outputsIn_74 ?_
          refine fb_get X I (k := 6) fu_X5 14 rfl rfl (Nat.le_of_ble_eq_true rfl) fw_262 rfl rfl dX11_outputsIn_77 ?_
          refine lv_aload_n hx hb dX11_outputsIn_80 rfl (lv_at hl 0 rfl) ?_
          refine fb_get X I (k := 5) fu_X11 0 rfl rfl (Nat.le_of_ble_eq_true rfl) fw_477 rfl rfl dX11_outputsIn_81 ?_
          refine fb_get X I (k := 4) fu_X2 1 rfl rfl (Nat.le_of_ble_eq_true rfl) fw_311 rfl rfl dX11_outputsIn_84 ?_
          refine fb_get X I (k := 6) fu_X5 6 rfl rfl (Nat.le_of_ble_eq_true rfl) fw_262 rfl rfl dX11_outputsIn_87 ?_
          refine lv_isub hx hb dX11_outputsIn_90 ?_
          subst E10
          exact fb_retI (u := (zst1, zwt)) X I rfl rfl dX11_outputsIn_91
        · have E11 := (E8.trans (if_pos c9))
          refine lv_iload_n hx hb dX11_outputsIn_54 rfl (lv_at hl 2 rfl) ?_
          refine lv_aload_n hx hb dX11_outputsIn_55 rfl (lv_at hl 0 rfl) ?_
          refine fb_get X I (k := 6) fu_X11 0 rfl rfl (Nat.le_of_ble_eq_true rfl) fw_478 rfl rfl dX11_outputsIn_56 ?_
          refine fb_goI (wn := fun (w12 : fb_AR) => (fb_o11 zb zr0 zr1 zr2 zr3 zr4 (zq 0) (zt 0) zr7 zr8 zr9) ++ (fb_mw cI zq zs zw) ++ (fb_mw cI zt ((f_X2_advance zst1).2) (w12))) X I (fb_runV (As := []) (rest := [.int l2]) (q0 := 9) X I hl (c_X2_advance l D cI cJ zt zst1 zwt _) (fb_goodV fw_678 fw_679 fw_680 fw_51 fw_681) rfl rfl rfl (by decide +kernel : fb_hd yX2_advance 0) ⟨Nat.le_of_ble_eq_true rfl, Nat.le_of_ble_eq_true rfl⟩ [9, 10, 11, 12, 13, 14, 15, 16] (by decide) rfl rfl rfl rfl rfl rfl (Nat.le_of_ble_eq_true rfl) ⟨Nat.zero_le _, Nat.zero_le _⟩ dX11_outputsIn_59) [9, 10, 11, 12, 13, 14, 15, 16] [0, 1, 2, 3, 4, 5, 6, 7, 8] [0, 1, 2, 3, 4, 5, 6, 7, 8, 9, 10, 11, 12, 13, 14, 15, 16] rfl rfl (by decide) (by decide) (by decide) (fun _ => rfl) ?_
          intro r13 w12 H locs e0 I
          subst e0
          refine lv_iadd hx hb dX11_outputsIn_62 ?_
          refine lv_istore_n (lv' := [(2, .int (l2 + ((f_X2_advance zst1).1))), (0, .ref zb), (1, .int l1), (3, .int l3)]) hx hb dX11_outputsIn_63 rfl hl (by decide) rfl (fun ls hl => ?_)
          refine lv_iinc (v := (l3 + (1 : Int32))) (lv' := [(3, .int (l3 + (1 : Int32))), (2, .int (l2 + ((f_X2_advance zst1).1))), (0, .ref zb), (1, .int l1)]) hx hb dX11_outputsIn_64 hl (k := 3) rfl rfl (by decide) rfl (fun ls hl => ?_)
          refine lv_goto (tgt := 32) hx hb dX11_outputsIn_67 (by decide) ?_
          exact ih (l1 := l1) (l2 := (l2 + ((f_X2_advance zst1).1))) (l3 := (l3 + (1 : Int32))) (fb_mu_ge c3 hm)  I (lv_sub hl [2, 3, 1, 0] rfl) E11
set_option maxHeartbeats 4000000 in
set_option maxRecDepth 100000 in
theorem b_X11_outputsIn_0 {p : Program} {l : Launch} {e : Env} {s : State} {m : MethodId} {args : Array Value} {below : List Frame} {meth : Method} {c : Code} {D : va_G} {cI cJ : ClassId} {A : Nat → Prop} {zb : Nat} {zr0 : Nat} {zr1 : Nat} {zr2 : Nat} {zr3 : Nat} {zr4 : Nat} {zr7 : Nat} {zr8 : Nat} {zr9 : Nat} {zq : Nat → Nat} {zs : fb_MS} {zw : fb_AR} {zt : Nat → Nat} {z : Int32} (X : fb_Bx p s m args meth c cX11_outputsIn RX11 4 (some .int) D (fb_ty cI cJ) A) {zst1 : fb_MS} {zwt : fb_AR} {l1 : Int32} {H : Heap} {locs : List Loc} {ls : Array Slot} (gs : f_X11_isNoSpan l1 = 0) (I : fb_In D A s.heap ((fb_o11 zb zr0 zr1 zr2 zr3 zr4 (zq 0) (zt 0) zr7 zr8 zr9) ++ (fb_mw cI zq zs zw) ++ (fb_mw cI zt zst1 zwt)) H locs) (hl : lv_has ls 4 [(0, .ref zb), (1, .int l1)]) (E : z = f_X11_outputsIn zs l1) : W p l e ({ frames := 6, cells := 0, slots := 0, locals := 153 } : Room) s m args below meth c H locs 0 0 (MQ below (fb_QI D A (fun (r : Int32) (_ : fb_MS × fb_AR) => r = z) (fun (t : fb_MS × fb_AR) => (fb_o11 zb zr0 zr1 zr2 zr3 zr4 (zq 0) (zt 0) zr7 zr8 zr9) ++ (fb_mw cI zq zs zw) ++ (fb_mw cI zt (t.1) (t.2)))) args s 0 0 A) (F0 m 0 ls []) := by
  obtain ⟨hx, hb, hr, hml, hown, hts, hlk, hA, hK, hF⟩ := id X
  refine lv_iload_n hx hb dX11_outputsIn_0 rfl (lv_at hl 1 rfl) ?_
  refine fb_roI X I (fb_runS (As := [.int l1]) (rest := []) X I hl (c_X11_isNoSpan l D cI cJ l1 _) (fb_goodS fw_876 fw_877 fw_44 fw_878) rfl rfl (by decide +kernel : fb_hd yX11_isNoSpan 1) ⟨Nat.le_of_ble_eq_true rfl, Nat.le_of_ble_eq_true rfl⟩ [] (by decide) rfl rfl rfl (Nat.le_of_ble_eq_true rfl) ⟨Nat.zero_le _, Nat.zero_le _⟩ dX11_outputsIn_1) ?_
  refine lv_if_eq (tgt := 17) hx hb dX11_outputsIn_4 (by decide) (fun _ => ?_) (fun c1 => absurd gs c1)
  refine lv_aload_n hx hb dX11_outputsIn_17 rfl (lv_at hl 0 rfl) ?_
  refine fb_get X I (k := 6) fu_X11 0 rfl rfl (Nat.le_of_ble_eq_true rfl) fw_478 rfl rfl dX11_outputsIn_18 ?_
  refine lv_aload_n hx hb dX11_outputsIn_21 rfl (lv_at hl 0 rfl) ?_
  refine fb_get X I (k := 5) fu_X11 0 rfl rfl (Nat.le_of_ble_eq_true rfl) fw_477 rfl rfl dX11_outputsIn_22 ?_
  refine fb_goV (wn := fun (w2 : fb_AR) => (fb_o11 zb zr0 zr1 zr2 zr3 zr4 (zq 0) (zt 0) zr7 zr8 zr9) ++ (fb_mw cI zq zs zw) ++ (fb_mw cI zt ((f_X2_copyFrom zst1 zs)) (w2))) X I (fb_runV (As := [.ref (zq 0)]) (rest := []) (q0 := 9) X I hl (c_X2_copyFrom l D cI cJ zt zst1 zwt zq zs zw _) (fb_goodV fw_945 fw_667 fw_668 fw_51 fw_669) rfl rfl rfl (by decide +kernel : fb_hd yX2_copyFrom 1) ⟨Nat.le_of_ble_eq_true rfl, Nat.le_of_ble_eq_true rfl⟩ [9, 10, 11, 12, 13, 14, 15, 16, 1, 2, 3, 4, 5, 6, 7, 8] (by decide) rfl rfl rfl rfl rfl rfl (Nat.le_of_ble_eq_true rfl) ⟨Nat.zero_le _, Nat.zero_le _⟩ dX11_outputsIn_25) [9, 10, 11, 12, 13, 14, 15, 16, 1, 2, 3, 4, 5, 6, 7, 8] [0] [0, 9, 10, 11, 12, 13, 14, 15, 16, 1, 2, 3, 4, 5, 6, 7, 8] rfl rfl (by decide) (by decide) (by decide) (fun _ => rfl) ?_
  intro w2 H locs _ I
  refine lv_iconst (v := (0 : Int32)) hx hb dX11_outputsIn_28 (by decide) ?_
  refine lv_istore_n (lv' := [(2, .int (0 : Int32)), (0, .ref zb), (1, .int l1)]) hx hb dX11_outputsIn_29 rfl hl (by decide) rfl (fun ls hl => ?_)
  refine lv_iconst (v := (0 : Int32)) hx hb dX11_outputsIn_30 (by decide) ?_
  refine lv_istore_n (lv' := [(3, .int (0 : Int32)), (2, .int (0 : Int32)), (0, .ref zb), (1, .int l1)]) hx hb dX11_outputsIn_31 rfl hl (by decide) rfl (fun ls hl => ?_)
  exact b_X11_outputsIn_32 X gs ((fb_mu (0 : Int32) (1000000 : Int32)) + 1) (l1 := l1) (l2 := (0 : Int32)) (l3 := (0 : Int32)) (Nat.lt_succ_self _)  I (lv_sub hl [2, 3, 1, 0] rfl) E
set_option maxHeartbeats 4000000 in
set_option maxRecDepth 100000 in
theorem c_X11_outputsIn (l : Launch) (D : va_G) (cI cJ : ClassId) (zb : Nat) (zr0 : Nat) (zr1 : Nat) (zr2 : Nat) (zr3 : Nat) (zr4 : Nat) (zr7 : Nat) (zr8 : Nat) (zr9 : Nat) (zq : Nat → Nat) (zs : fb_MS) (zw : fb_AR) (zt : Nat → Nat) (zst1 : fb_MS) (zwt : fb_AR) (l1 : Int32) (sz : Nat) (gs : f_X11_isNoSpan l1 = 0) : Met l yX11_outputsIn (Cond.code yX11_outputsIn cX11_outputsIn 4 (some .int) :: fb_all) ({ frames := 6, cells := 0, slots := 0, locals := 153 } : Room) (fb_PP D (fb_ty cI cJ) [.ref zb, .int l1] ((fb_o11 zb zr0 zr1 zr2 zr3 zr4 (zq 0) (zt 0) zr7 zr8 zr9) ++ (fb_mw cI zq zs zw) ++ (fb_mw cI zt zst1 zwt)) sz) (fb_QI D (va_A ((fb_o11 zb zr0 zr1 zr2 zr3 zr4 (zq 0) (zt 0) zr7 zr8 zr9) ++ (fb_mw cI zq zs zw) ++ (fb_mw cI zt zst1 zwt)) sz) (fun (r : Int32) (_ : fb_MS × fb_AR) => r = ((f_X11_outputsIn zs l1))) (fun (t : fb_MS × fb_AR) => (fb_o11 zb zr0 zr1 zr2 zr3 zr4 (zq 0) (zt 0) zr7 zr8 zr9) ++ (fb_mw cI zq zs zw) ++ (fb_mw cI zt (t.1) (t.2)))) 0 0 (va_A ((fb_o11 zb zr0 zr1 zr2 zr3 zr4 (zq 0) (zt 0) zr7 zr8 zr9) ++ (fb_mw cI zq zs zw) ++ (fb_mw cI zt zst1 zwt)) sz) := by
  refine fb_ent (Qf := fun A => (fb_QI D A (fun (r : Int32) (_ : fb_MS × fb_AR) => r = ((f_X11_outputsIn zs l1))) (fun (t : fb_MS × fb_AR) => (fb_o11 zb zr0 zr1 zr2 zr3 zr4 (zq 0) (zt 0) zr7 zr8 zr9) ++ (fb_mw cI zq zs zw) ++ (fb_mw cI zt (t.1) (t.2))))) (by decide +kernel) (Nat.le_of_ble_eq_true rfl) ?_
  intro p e s m args below meth c A ls X I hl hin
  exact b_X11_outputsIn_0 X gs I hl rfl
/-! X11_cyclesToReach -/


set_option maxHeartbeats 4000000 in
set_option maxRecDepth 100000 in
theorem b_X11_cyclesToReach_60 {p : Program} {l : Launch} {e : Env} {s : State} {m : MethodId} {args : Array Value} {below : List Frame} {meth : Method} {c : Code} {D : va_G} {cI cJ : ClassId} {A : Nat → Prop} {zb : Nat} {zr0 : Nat} {zr1 : Nat} {zr2 : Nat} {zr3 : Nat} {zr4 : Nat} {zr7 : Nat} {zr8 : Nat} {zr9 : Nat} {zq : Nat → Nat} {zs : fb_MS} {zw : fb_AR} {zt : Nat → Nat} (X : fb_Bx p s m args meth c cX11_cyclesToReach RX11 6 (some .int) D (fb_ty cI cJ) A) (gA : f_X11_isNoAddress l1 = 0) (gs : f_X11_isNoSpan l2 = 0) : ∀ (n : Nat) {zst1 : fb_MS} {zwt : fb_AR} {l1 : Int32} {l2 : Int32} {l3 : Int32} {l4 : Int32} {l5 : Int32} {H : Heap} {locs : List Loc} {ls : Array Slot} (hm : (fb_mu l5 (1000000 : Int32)) < n) (I : fb_In D A s.heap ((fb_o11 zb zr0 zr1 zr2 zr3 zr4 (zq 0) (zt 0) zr7 zr8 zr9) ++ (fb_mw cI zq zs zw) ++ (fb_mw cI zt zst1 zwt)) H locs) (hl : lv_has ls 6 [(0, .ref zb), (1, .int l1), (2, .int l2), (3, .int l3), (4, .int l4), (5, .int l5)]), W p l e ({ frames := 6, cells := 0, slots := 0, locals := 153 } : Room) s m args below meth c H locs 0 0 (MQ below (fb_QI D A (fun (_ : Int32) (_ : fb_MS × fb_AR) => True) (fun (t : fb_MS × fb_AR) => (fb_o11 zb zr0 zr1 zr2 zr3 zr4 (zq 0) (zt 0) zr7 zr8 zr9) ++ (fb_mw cI zq zs zw) ++ (fb_mw cI zt (t.1) (t.2)))) args s 0 0 A) (F0 m 60 ls []) := by
  intro n
  obtain ⟨hx, hb, hr, hml, hown, hts, hlk, hA, hK, hF⟩ := id X
  induction n with
  | zero =>
    intro zst1 zwt l1 l2 l3 l4 l5 H locs ls hm
    exact absurd hm (Nat.not_lt_zero _)
  | succ n ih =>
    intro zst1 zwt l1 l2 l3 l4 l5 H locs ls hm I hl
    refine lv_iload hx hb dX11_cyclesToReach_60 (lv_at hl 5 rfl) ?_
    refine lv_ldcw hx hb hown (hts _ fw_884) dX11_cyclesToReach_62 ?_
    refine lv_icmp_ge (tgt := 114) hx hb dX11_cyclesToReach_65 (by decide) (fun c4 => ?_) (fun c4 => ?_)
    · refine lv_iload hx hb dX11_cyclesToReach_114 (lv_at hl 4 rfl) ?_
      refine lv_if_eq (tgt := 123) hx hb dX11_cyclesToReach_116 (by decide) (fun c7 => ?_) (fun c7 => ?_)
      · refine lv_iconst (v := (-1 : Int32)) hx hb dX11_cyclesToReach_123 (by decide) ?_
        exact fb_retI (u := (zst1, zwt)) X I trivial rfl dX11_cyclesToReach_124
      · refine lv_iload_n hx hb dX11_cyclesToReach_119 rfl (lv_at hl 3 rfl) ?_
        refine lv_goto (tgt := 124) hx hb dX11_cyclesToReach_120 (by decide) ?_
        exact fb_retI (u := (zst1, zwt)) X I trivial rfl dX11_cyclesToReach_124
    · refine lv_iload hx hb dX11_cyclesToReach_68 (lv_at hl 4 rfl) ?_
      refine lv_if_ne (tgt := 114) hx hb dX11_cyclesToReach_70 (by decide) (fun c10 => ?_) (fun c10 => ?_)
      · refine lv_iload hx hb dX11_cyclesToReach_114 (lv_at hl 4 rfl) ?_
        refine lv_if_eq (tgt := 123) hx hb dX11_cyclesToReach_116 (by decide) (fun c13 => absurd c13 c10) (fun _ => ?_)
        refine lv_iload_n hx hb dX11_cyclesToReach_119 rfl (lv_at hl 3 rfl) ?_
        refine lv_goto (tgt := 124) hx hb dX11_cyclesToReach_120 (by decide) ?_
        exact fb_retI (u := (zst1, zwt)) X I trivial rfl dX11_cyclesToReach_124
      · refine lv_iload_n hx hb dX11_cyclesToReach_73 rfl (lv_at hl 3 rfl) ?_
        refine lv_iload_n hx hb dX11_cyclesToReach_74 rfl (lv_at hl 2 rfl) ?_
        refine lv_icmp_ge (tgt := 114) hx hb dX11_cyclesToReach_75 (by decide) (fun c14 => ?_) (fun c14 => ?_)
        · refine lv_iload hx hb dX11_cyclesToReach_114 (lv_at hl 4 rfl) ?_
          refine lv_if_eq (tgt := 123) hx hb dX11_cyclesToReach_116 (by decide) (fun _ => ?_) (fun c17 => absurd c10 c17)
          refine lv_iconst (v := (-1 : Int32)) hx hb dX11_cyclesToReach_123 (by decide) ?_
          exact fb_retI (u := (zst1, zwt)) X I trivial rfl dX11_cyclesToReach_124
        · refine lv_aload_n hx hb dX11_cyclesToReach_78 rfl (lv_at hl 0 rfl) ?_
          refine fb_get X I (k := 6) fu_X11 0 rfl rfl (Nat.le_of_ble_eq_true rfl) fw_478 rfl rfl dX11_cyclesToReach_79 ?_
          refine fb_roI X I (fb_runV (As := []) (rest := []) (q0 := 9) X I hl (c_X2_endReason l D cI cJ zt zst1 zwt _) (fb_goodV fw_658 fw_659 fw_660 fw_51 fw_661) rfl rfl rfl (by decide +kernel : fb_hd yX2_endReason 0) ⟨Nat.le_of_ble_eq_true rfl, Nat.le_of_ble_eq_true rfl⟩ [9, 10, 11, 12, 13, 14, 15, 16] (by decide) rfl rfl rfl rfl rfl rfl (Nat.le_of_ble_eq_true rfl) ⟨Nat.zero_le _, Nat.zero_le _⟩ dX11_cyclesToReach_82) ?_
          refine lv_if_ne (tgt := 114) hx hb dX11_cyclesToReach_85 (by decide) (fun c18 => ?_) (fun c18 => ?_)
          · refine lv_iload hx hb dX11_cyclesToReach_114 (lv_at hl 4 rfl) ?_
            refine lv_if_eq (tgt := 123) hx hb dX11_cyclesToReach_116 (by decide) (fun _ => ?_) (fun c21 => absurd c10 c21)
            refine lv_iconst (v := (-1 : Int32)) hx hb dX11_cyclesToReach_123 (by decide) ?_
            exact fb_retI (u := (zst1, zwt)) X I trivial rfl dX11_cyclesToReach_124
          · refine lv_iload_n hx hb dX11_cyclesToReach_88 rfl (lv_at hl 3 rfl) ?_
            refine lv_aload_n hx hb dX11_cyclesToReach_89 rfl (lv_at hl 0 rfl) ?_
            refine fb_get X I (k := 6) fu_X11 0 rfl rfl (Nat.le_of_ble_eq_true rfl) fw_478 rfl rfl dX11_cyclesToReach_90 ?_
            refine fb_goI (wn := fun (w22 : fb_AR) => (fb_o11 zb zr0 zr1 zr2 zr3 zr4 (zq 0) (zt 0) zr7 zr8 zr9) ++ (fb_mw cI zq zs zw) ++ (fb_mw cI zt ((f_X2_advance zst1).2) (w22))) X I (fb_runV (As := []) (rest := [.int l3]) (q0 := 9) X I hl (c_X2_advance l D cI cJ zt zst1 zwt _) (fb_goodV fw_678 fw_679 fw_680 fw_51 fw_681) rfl rfl rfl (by decide +kernel : fb_hd yX2_advance 0) ⟨Nat.le_of_ble_eq_true rfl, Nat.le_of_ble_eq_true rfl⟩ [9, 10, 11, 12, 13, 14, 15, 16] (by decide) rfl rfl rfl rfl rfl rfl (Nat.le_of_ble_eq_true rfl) ⟨Nat.zero_le _, Nat.zero_le _⟩ dX11_cyclesToReach_93) [9, 10, 11, 12, 13, 14, 15, 16] [0, 1, 2, 3, 4, 5, 6, 7, 8] [0, 1, 2, 3, 4, 5, 6, 7, 8, 9, 10, 11, 12, 13, 14, 15, 16] rfl rfl (by decide) (by decide) (by decide) (fun _ => rfl) ?_
            intro r23 w22 H locs e0 I
            subst e0
            refine lv_iadd hx hb dX11_cyclesToReach_96 ?_
            refine lv_istore_n (lv' := [(3, .int (l3 + ((f_X2_advance zst1).1))), (0, .ref zb), (1, .int l1), (2, .int l2), (4, .int l4), (5, .int l5)]) hx hb dX11_cyclesToReach_97 rfl hl (by decide) rfl (fun ls hl => ?_)
            refine lv_aload_n hx hb dX11_cyclesToReach_98 rfl (lv_at hl 1 rfl) ?_
            refine fb_get X I (k := 6) fu_X11 0 rfl rfl (Nat.le_of_ble_eq_true rfl) fw_478 rfl rfl dX11_cyclesToReach_99 ?_
            refine lv_iload_n hx hb dX11_cyclesToReach_102 rfl (lv_at hl 2 rfl) ?_
            refine fb_roI X I (fb_runV (As := [.int l1]) (rest := []) (q0 := 9) X I hl (c_X2_isReadyAt l D cI cJ zt ((f_X2_advance zst1).2) (w22) l1 _) (fb_goodV fw_1056 fw_1057 fw_1058 fw_51 fw_1059) rfl rfl rfl (by decide +kernel : fb_hd yX2_isReadyAt 1) ⟨Nat.le_of_ble_eq_true rfl, Nat.le_of_ble_eq_true rfl⟩ [9, 10, 11, 12, 13, 14, 15, 16] (by decide) rfl rfl rfl rfl rfl rfl (Nat.le_of_ble_eq_true rfl) ⟨Nat.zero_le _, Nat.zero_le _⟩ dX11_cyclesToReach_103) ?_
            refine lv_istore (lv' := [(4, .int (f_X2_isReadyAt ((f_X2_advance zst1).2) l1)), (3, .int (l3 + ((f_X2_advance zst1).1))), (0, .ref zb), (1, .int l1), (2, .int l2), (5, .int l5)]) hx hb dX11_cyclesToReach_106 hl (by decide) rfl (fun ls hl => ?_)
            refine lv_iinc (v := (l5 + (1 : Int32))) (lv' := [(5, .int (l5 + (1 : Int32))), (4, .int (f_X2_isReadyAt ((f_X2_advance zst1).2) l1)), (3, .int (l3 + ((f_X2_advance zst1).1))), (0, .ref zb), (1, .int l1), (2, .int l2)]) hx hb dX11_cyclesToReach_108 hl (k := 5) rfl rfl (by decide) rfl (fun ls hl => ?_)
            refine lv_goto (tgt := 60) hx hb dX11_cyclesToReach_111 (by decide) ?_
            exact ih (l1 := l1) (l2 := l2) (l3 := (l3 + ((f_X2_advance zst1).1))) (l4 := (f_X2_isReadyAt ((f_X2_advance zst1).2) l1)) (l5 := (l5 + (1 : Int32))) (fb_mu_ge c4 hm)  I (lv_sub hl [3, 4, 5, 2, 1, 0] rfl) 
set_option maxHeartbeats 4000000 in
set_option maxRecDepth 100000 in
theorem b_X11_cyclesToReach_0 {p : Program} {l : Launch} {e : Env} {s : State} {m : MethodId} {args : Array Value} {below : List Frame} {meth : Method} {c : Code} {D : va_G} {cI cJ : ClassId} {A : Nat → Prop} {zb : Nat} {zr0 : Nat} {zr1 : Nat} {zr2 : Nat} {zr3 : Nat} {zr4 : Nat} {zr7 : Nat} {zr8 : Nat} {zr9 : Nat} {zq : Nat → Nat} {zs : fb_MS} {zw : fb_AR} {zt : Nat → Nat} (X : fb_Bx p s m args meth c cX11_cyclesToReach RX11 6 (some .int) D (fb_ty cI cJ) A) {zst1 : fb_MS} {zwt : fb_AR} {l1 : Int32} {l2 : Int32} {H : Heap} {locs : List Loc} {ls : Array Slot} (gA : f_X11_isNoAddress l1 = 0) (gs : f_X11_isNoSpan l2 = 0) (I : fb_In D A s.heap ((fb_o11 zb zr0 zr1 zr2 zr3 zr4 (zq 0) (zt 0) zr7 zr8 zr9) ++ (fb_mw cI zq zs zw) ++ (fb_mw cI zt zst1 zwt)) H locs) (hl : lv_has ls 6 [(0, .ref zb), (1, .int l1), (2, .int l2)]) : W p l e ({ frames := 6, cells := 0, slots := 0, locals := 153 } : Room) s m args below meth c H locs 0 0 (MQ below (fb_QI D A (fun (_ : Int32) (_ : fb_MS × fb_AR) => True) (fun (t : fb_MS × fb_AR) => (fb_o11 zb zr0 zr1 zr2 zr3 zr4 (zq 0) (zt 0) zr7 zr8 zr9) ++ (fb_mw cI zq zs zw) ++ (fb_mw cI zt (t.1) (t.2)))) args s 0 0 A) (F0 m 0 ls []) := by
  obtain ⟨hx, hb, hr, hml, hown, hts, hlk, hA, hK, hF⟩ := id X
  refine lv_iload_n hx hb dX11_cyclesToReach_0 rfl (lv_at hl 1 rfl) ?_
  refine fb_roI X I (fb_runS (As := [.int l1]) (rest := []) X I hl (c_X11_isNoAddress l D cI cJ l1 _) (fb_goodS fw_617 fw_618 fw_44 fw_619) rfl rfl (by decide +kernel : fb_hd yX11_isNoAddress 1) ⟨Nat.le_of_ble_eq_true rfl, Nat.le_of_ble_eq_true rfl⟩ [] (by decide) rfl rfl rfl (Nat.le_of_ble_eq_true rfl) ⟨Nat.zero_le _, Nat.zero_le _⟩ dX11_cyclesToReach_1) ?_
  refine lv_if_eq (tgt := 17) hx hb dX11_cyclesToReach_4 (by decide) (fun _ => ?_) (fun c1 => absurd gA c1)
  refine lv_iload_n hx hb dX11_cyclesToReach_17 rfl (lv_at hl 2 rfl) ?_
  refine fb_roI X I (fb_runS (As := [.int l2]) (rest := []) X I hl (c_X11_isNoSpan l D cI cJ l2 _) (fb_goodS fw_876 fw_877 fw_44 fw_878) rfl rfl (by decide +kernel : fb_hd yX11_isNoSpan 1) ⟨Nat.le_of_ble_eq_true rfl, Nat.le_of_ble_eq_true rfl⟩ [] (by decide) rfl rfl rfl (Nat.le_of_ble_eq_true rfl) ⟨Nat.zero_le _, Nat.zero_le _⟩ dX11_cyclesToReach_18) ?_
  refine lv_if_eq (tgt := 34) hx hb dX11_cyclesToReach_21 (by decide) (fun _ => ?_) (fun c2 => absurd gs c2)
  refine lv_aload_n hx hb dX11_cyclesToReach_34 rfl (lv_at hl 0 rfl) ?_
  refine fb_get X I (k := 6) fu_X11 0 rfl rfl (Nat.le_of_ble_eq_true rfl) fw_478 rfl rfl dX11_cyclesToReach_35 ?_
  refine lv_aload_n hx hb dX11_cyclesToReach_38 rfl (lv_at hl 0 rfl) ?_
  refine fb_get X I (k := 5) fu_X11 0 rfl rfl (Nat.le_of_ble_eq_true rfl) fw_477 rfl rfl dX11_cyclesToReach_39 ?_
  refine fb_goV (wn := fun (w3 : fb_AR) => (fb_o11 zb zr0 zr1 zr2 zr3 zr4 (zq 0) (zt 0) zr7 zr8 zr9) ++ (fb_mw cI zq zs zw) ++ (fb_mw cI zt ((f_X2_copyFrom zst1 zs)) (w3))) X I (fb_runV (As := [.ref (zq 0)]) (rest := []) (q0 := 9) X I hl (c_X2_copyFrom l D cI cJ zt zst1 zwt zq zs zw _) (fb_goodV fw_945 fw_667 fw_668 fw_51 fw_669) rfl rfl rfl (by decide +kernel : fb_hd yX2_copyFrom 1) ⟨Nat.le_of_ble_eq_true rfl, Nat.le_of_ble_eq_true rfl⟩ [9, 10, 11, 12, 13, 14, 15, 16, 1, 2, 3, 4, 5, 6, 7, 8] (by decide) rfl rfl rfl rfl rfl rfl (Nat.le_of_ble_eq_true rfl) ⟨Nat.zero_le _, Nat.zero_le _⟩ dX11_cyclesToReach_42) [9, 10, 11, 12, 13, 14, 15, 16, 1, 2, 3, 4, 5, 6, 7, 8] [0] [0, 9, 10, 11, 12, 13, 14, 15, 16, 1, 2, 3, 4, 5, 6, 7, 8] rfl rfl (by decide) (by decide) (by decide) (fun _ => rfl) ?_
  intro w3 H locs _ I
  refine lv_iconst (v := (0 : Int32)) hx hb dX11_cyclesToReach_45 (by decide) ?_
  refine lv_istore_n (lv' := [(3, .int (0 : Int32)), (0, .ref zb), (1, .int l1), (2, .int l2)]) hx hb dX11_cyclesToReach_46 rfl hl (by decide) rfl (fun ls hl => ?_)
  refine lv_aload_n hx hb dX11_cyclesToReach_47 rfl (lv_at hl 1 rfl) ?_
  refine fb_get X I (k := 6) fu_X11 0 rfl rfl (Nat.le_of_ble_eq_true rfl) fw_478 rfl rfl dX11_cyclesToReach_48 ?_
  refine lv_iload_n hx hb dX11_cyclesToReach_51 rfl (lv_at hl 2 rfl) ?_
  refine fb_roI X I (fb_runV (As := [.int l1]) (rest := []) (q0 := 9) X I hl (c_X2_isReadyAt l D cI cJ zt ((f_X2_copyFrom zst1 zs)) (w3) l1 _) (fb_goodV fw_1056 fw_1057 fw_1058 fw_51 fw_1059) rfl rfl rfl (by decide +kernel : fb_hd yX2_isReadyAt 1) ⟨Nat.le_of_ble_eq_true rfl, Nat.le_of_ble_eq_true rfl⟩ [9, 10, 11, 12, 13, 14, 15, 16] (by decide) rfl rfl rfl rfl rfl rfl (Nat.le_of_ble_eq_true rfl) ⟨Nat.zero_le _, Nat.zero_le _⟩ dX11_cyclesToReach_52) ?_
  refine lv_istore (lv' := [(4, .int (f_X2_isReadyAt ((f_X2_copyFrom zst1 zs)) l1)), (3, .int (0 : Int32)), (0, .ref zb), (1, .int l1), (2, .int l2)]) hx hb dX11_cyclesToReach_55 hl (by decide) rfl (fun ls hl => ?_)
  refine lv_iconst (v := (0 : Int32)) hx hb dX11_cyclesToReach_57 (by decide) ?_
  refine lv_istore (lv' := [(5, .int (0 : Int32)), (4, .int (f_X2_isReadyAt ((f_X2_copyFrom zst1 zs)) l1)), (3, .int (0 : Int32)), (0, .ref zb), (1, .int l1), (2, .int l2)]) hx hb dX11_cyclesToReach_58 hl (by decide) rfl (fun ls hl => ?_)
  exact b_X11_cyclesToReach_60 X gA gs ((fb_mu (0 : Int32) (1000000 : Int32)) + 1) (l1 := l1) (l2 := l2) (l3 := (0 : Int32)) (l4 := (f_X2_isReadyAt ((f_X2_copyFrom zst1 zs)) l1)) (l5 := (0 : Int32)) (Nat.lt_succ_self _)  I (lv_sub hl [3, 4, 5, 2, 1, 0] rfl) 
set_option maxHeartbeats 4000000 in
set_option maxRecDepth 100000 in
theorem c_X11_cyclesToReach (l : Launch) (D : va_G) (cI cJ : ClassId) (zb : Nat) (zr0 : Nat) (zr1 : Nat) (zr2 : Nat) (zr3 : Nat) (zr4 : Nat) (zr7 : Nat) (zr8 : Nat) (zr9 : Nat) (zq : Nat → Nat) (zs : fb_MS) (zw : fb_AR) (zt : Nat → Nat) (zst1 : fb_MS) (zwt : fb_AR) (l1 : Int32) (l2 : Int32) (sz : Nat) (gA : f_X11_isNoAddress l1 = 0) (gs : f_X11_isNoSpan l2 = 0) : Met l yX11_cyclesToReach (Cond.code yX11_cyclesToReach cX11_cyclesToReach 6 (some .int) :: fb_all) ({ frames := 6, cells := 0, slots := 0, locals := 153 } : Room) (fb_PP D (fb_ty cI cJ) [.ref zb, .int l1, .int l2] ((fb_o11 zb zr0 zr1 zr2 zr3 zr4 (zq 0) (zt 0) zr7 zr8 zr9) ++ (fb_mw cI zq zs zw) ++ (fb_mw cI zt zst1 zwt)) sz) (fb_QI D (va_A ((fb_o11 zb zr0 zr1 zr2 zr3 zr4 (zq 0) (zt 0) zr7 zr8 zr9) ++ (fb_mw cI zq zs zw) ++ (fb_mw cI zt zst1 zwt)) sz) (fun (_ : Int32) (_ : fb_MS × fb_AR) => True) (fun (t : fb_MS × fb_AR) => (fb_o11 zb zr0 zr1 zr2 zr3 zr4 (zq 0) (zt 0) zr7 zr8 zr9) ++ (fb_mw cI zq zs zw) ++ (fb_mw cI zt (t.1) (t.2)))) 0 0 (va_A ((fb_o11 zb zr0 zr1 zr2 zr3 zr4 (zq 0) (zt 0) zr7 zr8 zr9) ++ (fb_mw cI zq zs zw) ++ (fb_mw cI zt zst1 zwt)) sz) := by
  refine fb_ent (Qf := fun A => (fb_QI D A (fun (_ : Int32) (_ : fb_MS × fb_AR) => True) (fun (t : fb_MS × fb_AR) => (fb_o11 zb zr0 zr1 zr2 zr3 zr4 (zq 0) (zt 0) zr7 zr8 zr9) ++ (fb_mw cI zq zs zw) ++ (fb_mw cI zt (t.1) (t.2))))) (by decide +kernel) (Nat.le_of_ble_eq_true rfl) ?_
  intro p e s m args below meth c A ls X I hl hin
  exact b_X11_cyclesToReach_0 X gA gs I hl
/-! X2_writesTo -/


set_option maxHeartbeats 4000000 in
set_option maxRecDepth 100000 in
theorem b_X2_writesTo_4 {p : Program} {l : Launch} {e : Env} {s : State} {m : MethodId} {args : Array Value} {below : List Frame} {meth : Method} {c : Code} {D : va_G} {cI cJ : ClassId} {A : Nat → Prop} {zq : Nat → Nat} (X : fb_Bx p s m args meth c cX2_writesTo RX2 4 (some .int) D (fb_ty cI cJ) A)  : ∀ (n : Nat) {zs : fb_MS} {zw : fb_AR} {l1 : Int32} {l2 : Int32} {l3 : Int32} {ls : Array Slot} (hm : (fb_mu l3 ((zs).1 14)) < n) (I : fb_In D A s.heap ((fb_mw cI zq zs zw)) s.heap []) (hl : lv_has ls 4 [(0, .ref (zq 0)), (1, .int l1), (2, .int l2), (3, .int l3)]), W p l e ({ frames := 1, cells := 0, slots := 0, locals := 21 } : Room) s m args below meth c s.heap [] 0 0 (MQ below (vp_Si (fun _ => True)) args s 0 0 (fun _ => False)) (F0 m 4 ls []) := by
  intro n
  obtain ⟨hx, hb, hr, hml, hown, hts, hlk, hA, hK, hF⟩ := id X
  induction n with
  | zero =>
    intro zs zw l1 l2 l3 ls hm
    exact absurd hm (Nat.not_lt_zero _)
  | succ n ih =>
    intro zs zw l1 l2 l3 ls hm I hl
    refine lv_iload_n hx hb dX2_writesTo_4 rfl (lv_at hl 3 rfl) ?_
    refine lv_aload_n hx hb dX2_writesTo_5 rfl (lv_at hl 0 rfl) ?_
    refine fb_get X I (k := 14) fu_X2 0 rfl rfl (Nat.le_of_ble_eq_true rfl) fw_331 rfl rfl dX2_writesTo_6 ?_
    refine lv_icmp_ge (tgt := 37) hx hb dX2_writesTo_9 (by decide) (fun c1 => ?_) (fun c1 => ?_)
    · refine lv_iload_n hx hb dX2_writesTo_37 rfl (lv_at hl 2 rfl) ?_
      exact fb_retRAI X rfl dX2_writesTo_38
    · refine lv_aload_n hx hb dX2_writesTo_12 rfl (lv_at hl 0 rfl) ?_
      refine fb_get X I (k := 3) fu_X2 0 rfl rfl (Nat.le_of_ble_eq_true rfl) fw_308 rfl rfl dX2_writesTo_13 ?_
      refine lv_iload_n hx hb dX2_writesTo_16 rfl (lv_at hl 3 rfl) ?_
      refine fb_roI X I (fb_runSN (As := [.ref (zq 4), .int l3]) (rest := []) X I hl (c_X11_at l D cI cJ (zq 4) 8 zw l3 _ (by decide)) fw_471 rfl rfl (List.mem_of_getElem? (i := 0) rfl) fw_44 fw_470 (by decide +kernel : fb_hd yX11_at 2) ⟨Nat.le_of_ble_eq_true rfl, Nat.le_of_ble_eq_true rfl⟩ [4] (by decide) rfl rfl rfl (Nat.le_of_ble_eq_true rfl) ⟨Nat.zero_le _, Nat.zero_le _⟩ dX2_writesTo_17) ?_
      refine lv_iload_n hx hb dX2_writesTo_20 rfl (lv_at hl 1 rfl) ?_
      refine lv_sipush (v := (4096 : Int32)) hx hb dX2_writesTo_21 (by decide) ?_
      refine lv_iadd hx hb dX2_writesTo_24 ?_
      refine lv_icmp_ne (tgt := 31) hx hb dX2_writesTo_25 (by decide) (fun c4 => ?_) (fun c4 => ?_)
      · refine lv_iinc (v := (l3 + (1 : Int32))) (lv' := [(3, .int (l3 + (1 : Int32))), (0, .ref (zq 0)), (1, .int l1), (2, .int l2)]) hx hb dX2_writesTo_31 hl (k := 3) rfl rfl (by decide) rfl (fun ls hl => ?_)
        refine lv_goto (tgt := 4) hx hb dX2_writesTo_34 (by decide) ?_
        exact ih (l1 := l1) (l2 := l2) (l3 := (l3 + (1 : Int32))) (fb_mu_ge c1 hm)  I (lv_sub hl [1, 2, 3, 0] rfl) 
      · refine lv_iinc (v := (l2 + (1 : Int32))) (lv' := [(2, .int (l2 + (1 : Int32))), (0, .ref (zq 0)), (1, .int l1), (3, .int l3)]) hx hb dX2_writesTo_28 hl (k := 2) rfl rfl (by decide) rfl (fun ls hl => ?_)
        refine lv_iinc (v := (l3 + (1 : Int32))) (lv' := [(3, .int (l3 + (1 : Int32))), (2, .int (l2 + (1 : Int32))), (0, .ref (zq 0)), (1, .int l1)]) hx hb dX2_writesTo_31 hl (k := 3) rfl rfl (by decide) rfl (fun ls hl => ?_)
        refine lv_goto (tgt := 4) hx hb dX2_writesTo_34 (by decide) ?_
        exact ih (l1 := l1) (l2 := (l2 + (1 : Int32))) (l3 := (l3 + (1 : Int32))) (fb_mu_ge c1 hm)  I (lv_sub hl [2, 3, 1, 0] rfl) 
set_option maxHeartbeats 4000000 in
set_option maxRecDepth 100000 in
theorem b_X2_writesTo_0 {p : Program} {l : Launch} {e : Env} {s : State} {m : MethodId} {args : Array Value} {below : List Frame} {meth : Method} {c : Code} {D : va_G} {cI cJ : ClassId} {A : Nat → Prop} {zq : Nat → Nat} (X : fb_Bx p s m args meth c cX2_writesTo RX2 4 (some .int) D (fb_ty cI cJ) A) {zs : fb_MS} {zw : fb_AR} {l1 : Int32} {ls : Array Slot}  (I : fb_In D A s.heap ((fb_mw cI zq zs zw)) s.heap []) (hl : lv_has ls 4 [(0, .ref (zq 0)), (1, .int l1)]) : W p l e ({ frames := 1, cells := 0, slots := 0, locals := 21 } : Room) s m args below meth c s.heap [] 0 0 (MQ below (vp_Si (fun _ => True)) args s 0 0 (fun _ => False)) (F0 m 0 ls []) := by
  obtain ⟨hx, hb, hr, hml, hown, hts, hlk, hA, hK, hF⟩ := id X
  refine lv_iconst (v := (0 : Int32)) hx hb dX2_writesTo_0 (by decide) ?_
  refine lv_istore_n (lv' := [(2, .int (0 : Int32)), (0, .ref (zq 0)), (1, .int l1)]) hx hb dX2_writesTo_1 rfl hl (by decide) rfl (fun ls hl => ?_)
  refine lv_iconst (v := (0 : Int32)) hx hb dX2_writesTo_2 (by decide) ?_
  refine lv_istore_n (lv' := [(3, .int (0 : Int32)), (2, .int (0 : Int32)), (0, .ref (zq 0)), (1, .int l1)]) hx hb dX2_writesTo_3 rfl hl (by decide) rfl (fun ls hl => ?_)
  exact b_X2_writesTo_4 X  ((fb_mu (0 : Int32) ((zs).1 14)) + 1) (l1 := l1) (l2 := (0 : Int32)) (l3 := (0 : Int32)) (Nat.lt_succ_self _)  I (lv_sub hl [2, 3, 1, 0] rfl) 
set_option maxHeartbeats 4000000 in
set_option maxRecDepth 100000 in
theorem c_X2_writesTo (l : Launch) (D : va_G) (cI cJ : ClassId) (zq : Nat → Nat) (zs : fb_MS) (zw : fb_AR) (l1 : Int32) (sz : Nat)  : Met l yX2_writesTo (Cond.code yX2_writesTo cX2_writesTo 4 (some .int) :: fb_all) ({ frames := 1, cells := 0, slots := 0, locals := 21 } : Room) (fb_PP D (fb_ty cI cJ) [.ref (zq 0), .int l1] ((fb_mw cI zq zs zw)) sz) (vp_Si (fun _ => True)) 0 0 (fun _ => False) := by
  refine fb_entR (by decide +kernel) (Nat.le_of_ble_eq_true rfl) ?_
  intro p e s m args below meth c A ls X I hl hin
  exact b_X2_writesTo_0 X  I hl
/-! X11_writesIn -/


set_option maxHeartbeats 4000000 in
set_option maxRecDepth 100000 in
theorem b_X11_writesIn_53 {p : Program} {l : Launch} {e : Env} {s : State} {m : MethodId} {args : Array Value} {below : List Frame} {meth : Method} {c : Code} {D : va_G} {cI cJ : ClassId} {A : Nat → Prop} {zb : Nat} {zr0 : Nat} {zr1 : Nat} {zr2 : Nat} {zr3 : Nat} {zr4 : Nat} {zr7 : Nat} {zr8 : Nat} {zr9 : Nat} {zq : Nat → Nat} {zs : fb_MS} {zw : fb_AR} {zt : Nat → Nat} (X : fb_Bx p s m args meth c cX11_writesIn RX11 6 (some .int) D (fb_ty cI cJ) A) (gA : f_X11_isNoAddress l1 = 0) (gs : f_X11_isNoSpan l2 = 0) : ∀ (n : Nat) {zst1 : fb_MS} {zwt : fb_AR} {l1 : Int32} {l2 : Int32} {l3 : Int32} {l4 : Int32} {l5 : Int32} {H : Heap} {locs : List Loc} {ls : Array Slot} (hm : (fb_mu l5 (1000000 : Int32)) < n) (I : fb_In D A s.heap ((fb_o11 zb zr0 zr1 zr2 zr3 zr4 (zq 0) (zt 0) zr7 zr8 zr9) ++ (fb_mw cI zq zs zw) ++ (fb_mw cI zt zst1 zwt)) H locs) (hl : lv_has ls 6 [(0, .ref zb), (1, .int l1), (2, .int l2), (3, .int l3), (4, .int l4), (5, .int l5)]), W p l e ({ frames := 6, cells := 0, slots := 0, locals := 153 } : Room) s m args below meth c H locs 0 0 (MQ below (fb_QI D A (fun (_ : Int32) (_ : fb_MS × fb_AR) => True) (fun (t : fb_MS × fb_AR) => (fb_o11 zb zr0 zr1 zr2 zr3 zr4 (zq 0) (zt 0) zr7 zr8 zr9) ++ (fb_mw cI zq zs zw) ++ (fb_mw cI zt (t.1) (t.2)))) args s 0 0 A) (F0 m 53 ls []) := by
  intro n
  obtain ⟨hx, hb, hr, hml, hown, hts, hlk, hA, hK, hF⟩ := id X
  induction n with
  | zero =>
    intro zst1 zwt l1 l2 l3 l4 l5 H locs ls hm
    exact absurd hm (Nat.not_lt_zero _)
  | succ n ih =>
    intro zst1 zwt l1 l2 l3 l4 l5 H locs ls hm I hl
    refine lv_iload hx hb dX11_writesIn_53 (lv_at hl 5 rfl) ?_
    refine lv_ldcw hx hb hown (hts _ fw_884) dX11_writesIn_55 ?_
    refine lv_icmp_ge (tgt := 105) hx hb dX11_writesIn_58 (by decide) (fun c4 => ?_) (fun c4 => ?_)
    · refine lv_iload hx hb dX11_writesIn_105 (lv_at hl 4 rfl) ?_
      exact fb_retI (u := (zst1, zwt)) X I trivial rfl dX11_writesIn_107
    · refine lv_iload_n hx hb dX11_writesIn_61 rfl (lv_at hl 3 rfl) ?_
      refine lv_iload_n hx hb dX11_writesIn_62 rfl (lv_at hl 2 rfl) ?_
      refine lv_icmp_ge (tgt := 105) hx hb dX11_writesIn_63 (by decide) (fun c7 => ?_) (fun c7 => ?_)
      · refine lv_iload hx hb dX11_writesIn_105 (lv_at hl 4 rfl) ?_
        exact fb_retI (u := (zst1, zwt)) X I trivial rfl dX11_writesIn_107
      · refine lv_aload_n hx hb dX11_writesIn_66 rfl (lv_at hl 0 rfl) ?_
        refine fb_get X I (k := 6) fu_X11 0 rfl rfl (Nat.le_of_ble_eq_true rfl) fw_478 rfl rfl dX11_writesIn_67 ?_
        refine fb_roI X I (fb_runV (As := []) (rest := []) (q0 := 9) X I hl (c_X2_endReason l D cI cJ zt zst1 zwt _) (fb_goodV fw_658 fw_659 fw_660 fw_51 fw_661) rfl rfl rfl (by decide +kernel : fb_hd yX2_endReason 0) ⟨Nat.le_of_ble_eq_true rfl, Nat.le_of_ble_eq_true rfl⟩ [9, 10, 11, 12, 13, 14, 15, 16] (by decide) rfl rfl rfl rfl rfl rfl (Nat.le_of_ble_eq_true rfl) ⟨Nat.zero_le _, Nat.zero_le _⟩ dX11_writesIn_70) ?_
        refine lv_if_ne (tgt := 105) hx hb dX11_writesIn_73 (by decide) (fun c10 => ?_) (fun c10 => ?_)
        · refine lv_iload hx hb dX11_writesIn_105 (lv_at hl 4 rfl) ?_
          exact fb_retI (u := (zst1, zwt)) X I trivial rfl dX11_writesIn_107
        · refine lv_iload_n hx hb dX11_writesIn_76 rfl (lv_at hl 3 rfl) ?_
          refine lv_aload_n hx hb dX11_writesIn_77 rfl (lv_at hl 0 rfl) ?_
          refine fb_get X I (k := 6) fu_X11 0 rfl rfl (Nat.le_of_ble_eq_true rfl) fw_478 rfl rfl dX11_writesIn_78 ?_
          refine fb_goI (wn := fun (w13 : fb_AR) => (fb_o11 zb zr0 zr1 zr2 zr3 zr4 (zq 0) (zt 0) zr7 zr8 zr9) ++ (fb_mw cI zq zs zw) ++ (fb_mw cI zt ((f_X2_advance zst1).2) (w13))) X I (fb_runV (As := []) (rest := [.int l3]) (q0 := 9) X I hl (c_X2_advance l D cI cJ zt zst1 zwt _) (fb_goodV fw_678 fw_679 fw_680 fw_51 fw_681) rfl rfl rfl (by decide +kernel : fb_hd yX2_advance 0) ⟨Nat.le_of_ble_eq_true rfl, Nat.le_of_ble_eq_true rfl⟩ [9, 10, 11, 12, 13, 14, 15, 16] (by decide) rfl rfl rfl rfl rfl rfl (Nat.le_of_ble_eq_true rfl) ⟨Nat.zero_le _, Nat.zero_le _⟩ dX11_writesIn_81) [9, 10, 11, 12, 13, 14, 15, 16] [0, 1, 2, 3, 4, 5, 6, 7, 8] [0, 1, 2, 3, 4, 5, 6, 7, 8, 9, 10, 11, 12, 13, 14, 15, 16] rfl rfl (by decide) (by decide) (by decide) (fun _ => rfl) ?_
          intro r14 w13 H locs e0 I
          subst e0
          refine lv_iadd hx hb dX11_writesIn_84 ?_
          refine lv_istore_n (lv' := [(3, .int (l3 + ((f_X2_advance zst1).1))), (0, .ref zb), (1, .int l1), (2, .int l2), (4, .int l4), (5, .int l5)]) hx hb dX11_writesIn_85 rfl hl (by decide) rfl (fun ls hl => ?_)
          refine lv_iload hx hb dX11_writesIn_86 (lv_at hl 4 rfl) ?_
          refine lv_aload_n hx hb dX11_writesIn_88 rfl (lv_at hl 1 rfl) ?_
          refine fb_get X I (k := 6) fu_X11 0 rfl rfl (Nat.le_of_ble_eq_true rfl) fw_478 rfl rfl dX11_writesIn_89 ?_
          refine lv_iload_n hx hb dX11_writesIn_92 rfl (lv_at hl 2 rfl) ?_
          refine fb_roAI X I (fb_runV (As := [.int l1]) (rest := [.int l4]) (q0 := 9) X I hl (c_X2_writesTo l D cI cJ zt ((f_X2_advance zst1).2) (w13) l1 _) (fb_goodV fw_1065 fw_1066 fw_1067 fw_51 fw_1068) rfl rfl rfl (by decide +kernel : fb_hd yX2_writesTo 1) ⟨Nat.le_of_ble_eq_true rfl, Nat.le_of_ble_eq_true rfl⟩ [9, 10, 11, 12, 13, 14, 15, 16] (by decide) rfl rfl rfl rfl rfl rfl (Nat.le_of_ble_eq_true rfl) ⟨Nat.zero_le _, Nat.zero_le _⟩ dX11_writesIn_93) (fun r15 => ?_)
          refine lv_iadd hx hb dX11_writesIn_96 ?_
          refine lv_istore (lv' := [(4, .int (l4 + r15)), (3, .int (l3 + ((f_X2_advance zst1).1))), (0, .ref zb), (1, .int l1), (2, .int l2), (5, .int l5)]) hx hb dX11_writesIn_97 hl (by decide) rfl (fun ls hl => ?_)
          refine lv_iinc (v := (l5 + (1 : Int32))) (lv' := [(5, .int (l5 + (1 : Int32))), (4, .int (l4 + r15)), (3, .int (l3 + ((f_X2_advance zst1).1))), (0, .ref zb), (1, .int l1), (2, .int l2)]) hx hb dX11_writesIn_99 hl (k := 5) rfl rfl (by decide) rfl (fun ls hl => ?_)
          refine lv_goto (tgt := 53) hx hb dX11_writesIn_102 (by decide) ?_
          exact ih (l1 := l1) (l2 := l2) (l3 := (l3 + ((f_X2_advance zst1).1))) (l4 := (l4 + r15)) (l5 := (l5 + (1 : Int32))) (fb_mu_ge c4 hm)  I (lv_sub hl [3, 4, 5, 2, 1, 0] rfl) 
set_option maxHeartbeats 4000000 in
set_option maxRecDepth 100000 in
theorem b_X11_writesIn_0 {p : Program} {l : Launch} {e : Env} {s : State} {m : MethodId} {args : Array Value} {below : List Frame} {meth : Method} {c : Code} {D : va_G} {cI cJ : ClassId} {A : Nat → Prop} {zb : Nat} {zr0 : Nat} {zr1 : Nat} {zr2 : Nat} {zr3 : Nat} {zr4 : Nat} {zr7 : Nat} {zr8 : Nat} {zr9 : Nat} {zq : Nat → Nat} {zs : fb_MS} {zw : fb_AR} {zt : Nat → Nat} (X : fb_Bx p s m args meth c cX11_writesIn RX11 6 (some .int) D (fb_ty cI cJ) A) {zst1 : fb_MS} {zwt : fb_AR} {l1 : Int32} {l2 : Int32} {H : Heap} {locs : List Loc} {ls : Array Slot} (gA : f_X11_isNoAddress l1 = 0) (gs : f_X11_isNoSpan l2 = 0) (I : fb_In D A s.heap ((fb_o11 zb zr0 zr1 zr2 zr3 zr4 (zq 0) (zt 0) zr7 zr8 zr9) ++ (fb_mw cI zq zs zw) ++ (fb_mw cI zt zst1 zwt)) H locs) (hl : lv_has ls 6 [(0, .ref zb), (1, .int l1), (2, .int l2)]) : W p l e ({ frames := 6, cells := 0, slots := 0, locals := 153 } : Room) s m args below meth c H locs 0 0 (MQ below (fb_QI D A (fun (_ : Int32) (_ : fb_MS × fb_AR) => True) (fun (t : fb_MS × fb_AR) => (fb_o11 zb zr0 zr1 zr2 zr3 zr4 (zq 0) (zt 0) zr7 zr8 zr9) ++ (fb_mw cI zq zs zw) ++ (fb_mw cI zt (t.1) (t.2)))) args s 0 0 A) (F0 m 0 ls []) := by
  obtain ⟨hx, hb, hr, hml, hown, hts, hlk, hA, hK, hF⟩ := id X
  refine lv_iload_n hx hb dX11_writesIn_0 rfl (lv_at hl 1 rfl) ?_
  refine fb_roI X I (fb_runS (As := [.int l1]) (rest := []) X I hl (c_X11_isNoAddress l D cI cJ l1 _) (fb_goodS fw_617 fw_618 fw_44 fw_619) rfl rfl (by decide +kernel : fb_hd yX11_isNoAddress 1) ⟨Nat.le_of_ble_eq_true rfl, Nat.le_of_ble_eq_true rfl⟩ [] (by decide) rfl rfl rfl (Nat.le_of_ble_eq_true rfl) ⟨Nat.zero_le _, Nat.zero_le _⟩ dX11_writesIn_1) ?_
  refine lv_if_eq (tgt := 17) hx hb dX11_writesIn_4 (by decide) (fun _ => ?_) (fun c1 => absurd gA c1)
  refine lv_iload_n hx hb dX11_writesIn_17 rfl (lv_at hl 2 rfl) ?_
  refine fb_roI X I (fb_runS (As := [.int l2]) (rest := []) X I hl (c_X11_isNoSpan l D cI cJ l2 _) (fb_goodS fw_876 fw_877 fw_44 fw_878) rfl rfl (by decide +kernel : fb_hd yX11_isNoSpan 1) ⟨Nat.le_of_ble_eq_true rfl, Nat.le_of_ble_eq_true rfl⟩ [] (by decide) rfl rfl rfl (Nat.le_of_ble_eq_true rfl) ⟨Nat.zero_le _, Nat.zero_le _⟩ dX11_writesIn_18) ?_
  refine lv_if_eq (tgt := 34) hx hb dX11_writesIn_21 (by decide) (fun _ => ?_) (fun c2 => absurd gs c2)
  refine lv_aload_n hx hb dX11_writesIn_34 rfl (lv_at hl 0 rfl) ?_
  refine fb_get X I (k := 6) fu_X11 0 rfl rfl (Nat.le_of_ble_eq_true rfl) fw_478 rfl rfl dX11_writesIn_35 ?_
  refine lv_aload_n hx hb dX11_writesIn_38 rfl (lv_at hl 0 rfl) ?_
  refine fb_get X I (k := 5) fu_X11 0 rfl rfl (Nat.le_of_ble_eq_true rfl) fw_477 rfl rfl dX11_writesIn_39 ?_
  refine fb_goV (wn := fun (w3 : fb_AR) => (fb_o11 zb zr0 zr1 zr2 zr3 zr4 (zq 0) (zt 0) zr7 zr8 zr9) ++ (fb_mw cI zq zs zw) ++ (fb_mw cI zt ((f_X2_copyFrom zst1 zs)) (w3))) X I (fb_runV (As := [.ref (zq 0)]) (rest := []) (q0 := 9) X I hl (c_X2_copyFrom l D cI cJ zt zst1 zwt zq zs zw _) (fb_goodV fw_945 fw_667 fw_668 fw_51 fw_669) rfl rfl rfl (by decide +kernel : fb_hd yX2_copyFrom 1) ⟨Nat.le_of_ble_eq_true rfl, Nat.le_of_ble_eq_true rfl⟩ [9, 10, 11, 12, 13, 14, 15, 16, 1, 2, 3, 4, 5, 6, 7, 8] (by decide) rfl rfl rfl rfl rfl rfl (Nat.le_of_ble_eq_true rfl) ⟨Nat.zero_le _, Nat.zero_le _⟩ dX11_writesIn_42) [9, 10, 11, 12, 13, 14, 15, 16, 1, 2, 3, 4, 5, 6, 7, 8] [0] [0, 9, 10, 11, 12, 13, 14, 15, 16, 1, 2, 3, 4, 5, 6, 7, 8] rfl rfl (by decide) (by decide) (by decide) (fun _ => rfl) ?_
  intro w3 H locs _ I
  refine lv_iconst (v := (0 : Int32)) hx hb dX11_writesIn_45 (by decide) ?_
  refine lv_istore_n (lv' := [(3, .int (0 : Int32)), (0, .ref zb), (1, .int l1), (2, .int l2)]) hx hb dX11_writesIn_46 rfl hl (by decide) rfl (fun ls hl => ?_)
  refine lv_iconst (v := (0 : Int32)) hx hb dX11_writesIn_47 (by decide) ?_
  refine lv_istore (lv' := [(4, .int (0 : Int32)), (3, .int (0 : Int32)), (0, .ref zb), (1, .int l1), (2, .int l2)]) hx hb dX11_writesIn_48 hl (by decide) rfl (fun ls hl => ?_)
  refine lv_iconst (v := (0 : Int32)) hx hb dX11_writesIn_50 (by decide) ?_
  refine lv_istore (lv' := [(5, .int (0 : Int32)), (4, .int (0 : Int32)), (3, .int (0 : Int32)), (0, .ref zb), (1, .int l1), (2, .int l2)]) hx hb dX11_writesIn_51 hl (by decide) rfl (fun ls hl => ?_)
  exact b_X11_writesIn_53 X gA gs ((fb_mu (0 : Int32) (1000000 : Int32)) + 1) (l1 := l1) (l2 := l2) (l3 := (0 : Int32)) (l4 := (0 : Int32)) (l5 := (0 : Int32)) (Nat.lt_succ_self _)  I (lv_sub hl [3, 4, 5, 2, 1, 0] rfl) 
set_option maxHeartbeats 4000000 in
set_option maxRecDepth 100000 in
theorem c_X11_writesIn (l : Launch) (D : va_G) (cI cJ : ClassId) (zb : Nat) (zr0 : Nat) (zr1 : Nat) (zr2 : Nat) (zr3 : Nat) (zr4 : Nat) (zr7 : Nat) (zr8 : Nat) (zr9 : Nat) (zq : Nat → Nat) (zs : fb_MS) (zw : fb_AR) (zt : Nat → Nat) (zst1 : fb_MS) (zwt : fb_AR) (l1 : Int32) (l2 : Int32) (sz : Nat) (gA : f_X11_isNoAddress l1 = 0) (gs : f_X11_isNoSpan l2 = 0) : Met l yX11_writesIn (Cond.code yX11_writesIn cX11_writesIn 6 (some .int) :: fb_all) ({ frames := 6, cells := 0, slots := 0, locals := 153 } : Room) (fb_PP D (fb_ty cI cJ) [.ref zb, .int l1, .int l2] ((fb_o11 zb zr0 zr1 zr2 zr3 zr4 (zq 0) (zt 0) zr7 zr8 zr9) ++ (fb_mw cI zq zs zw) ++ (fb_mw cI zt zst1 zwt)) sz) (fb_QI D (va_A ((fb_o11 zb zr0 zr1 zr2 zr3 zr4 (zq 0) (zt 0) zr7 zr8 zr9) ++ (fb_mw cI zq zs zw) ++ (fb_mw cI zt zst1 zwt)) sz) (fun (_ : Int32) (_ : fb_MS × fb_AR) => True) (fun (t : fb_MS × fb_AR) => (fb_o11 zb zr0 zr1 zr2 zr3 zr4 (zq 0) (zt 0) zr7 zr8 zr9) ++ (fb_mw cI zq zs zw) ++ (fb_mw cI zt (t.1) (t.2)))) 0 0 (va_A ((fb_o11 zb zr0 zr1 zr2 zr3 zr4 (zq 0) (zt 0) zr7 zr8 zr9) ++ (fb_mw cI zq zs zw) ++ (fb_mw cI zt zst1 zwt)) sz) := by
  refine fb_ent (Qf := fun A => (fb_QI D A (fun (_ : Int32) (_ : fb_MS × fb_AR) => True) (fun (t : fb_MS × fb_AR) => (fb_o11 zb zr0 zr1 zr2 zr3 zr4 (zq 0) (zt 0) zr7 zr8 zr9) ++ (fb_mw cI zq zs zw) ++ (fb_mw cI zt (t.1) (t.2))))) (by decide +kernel) (Nat.le_of_ble_eq_true rfl) ?_
  intro p e s m args below meth c A ls X I hl hin
  exact b_X11_writesIn_0 X gA gs I hl
