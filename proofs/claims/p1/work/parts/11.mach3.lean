/-! X2_operate -/
def f_X2_operate_227 (zs : fb_MS) (l2 : Int32) (k0 : Int32) (k1 : Int32) : fb_MS := (if (l2 &&& (128 : Int32)) = 0 then (if (l2 &&& (64 : Int32)) = 0 then ((f_X2_setFlag ((f_X2_setFlag ((f_X2_setFlag zs k1 k0)) (16 : Int32) (0 : Int32))) (8 : Int32) (0 : Int32))) else ((f_X2_setFlag ((f_X2_setFlag ((f_X2_setFlag zs k1 k0)) (16 : Int32) (0 : Int32))) (8 : Int32) (1 : Int32)))) else (if (l2 &&& (64 : Int32)) = 0 then ((f_X2_setFlag ((f_X2_setFlag ((f_X2_setFlag zs k1 k0)) (16 : Int32) (1 : Int32))) (8 : Int32) (0 : Int32))) else ((f_X2_setFlag ((f_X2_setFlag ((f_X2_setFlag zs k1 k0)) (16 : Int32) (1 : Int32))) (8 : Int32) (1 : Int32)))))
def f_X2_operate (zs : fb_MS) (l1 : Int32) (l2 : Int32) : fb_MS := (if l1 = (4 : Int32) then (fb_sR ((f_X2_zn zs l2).2) 5 ((f_X2_zn zs l2).1)) else (if l1 = (5 : Int32) then (fb_sR ((f_X2_zn zs l2).2) 6 ((f_X2_zn zs l2).1)) else (if l1 = (6 : Int32) then ((f_X2_add zs l2 (0 : Int32))) else (if l1 = (7 : Int32) then ((f_X2_add zs l2 (((zs).1 8) &&& (1 : Int32)))) else (if l1 = (8 : Int32) then ((f_X2_add zs ((255 : Int32) - l2) (1 : Int32))) else (if l1 = (9 : Int32) then ((f_X2_add zs ((255 : Int32) - l2) (((zs).1 8) &&& (1 : Int32)))) else (if l1 = (10 : Int32) then ((f_X2_compare zs ((zs).1 5) l2)) else (if l1 = (11 : Int32) then ((f_X2_compare zs ((zs).1 6) l2)) else (if l1 = (12 : Int32) then (fb_sR ((f_X2_zn zs (((zs).1 5) &&& l2)).2) 5 ((f_X2_zn zs (((zs).1 5) &&& l2)).1)) else (if l1 = (13 : Int32) then (fb_sR ((f_X2_zn zs (((zs).1 5) ||| l2)).2) 5 ((f_X2_zn zs (((zs).1 5) ||| l2)).1)) else (if l1 = (14 : Int32) then (fb_sR ((f_X2_zn zs (((zs).1 5) ^^^ l2)).2) 5 ((f_X2_zn zs (((zs).1 5) ^^^ l2)).1)) else (if (((zs).1 5) &&& l2) = 0 then f_X2_operate_227 zs l2 (1 : Int32) (2 : Int32) else f_X2_operate_227 zs l2 (0 : Int32) (2 : Int32)))))))))))))
set_option maxHeartbeats 4000000 in
set_option maxRecDepth 100000 in
theorem b_X2_operate_227 {p : Program} {l : Launch} {e : Env} {s : State} {m : MethodId} {args : Array Value} {below : List Frame} {meth : Method} {c : Code} {D : va_G} {cI cJ : ClassId} {A : Nat → Prop} {zq : Nat → Nat} {z : fb_MS} (X : fb_Bx p s m args meth c cX2_operate RX2 4 none D (fb_ty D cI cJ) A) {zs : fb_MS} {zw : fb_AR} {l2 : Int32} {k0 : Int32} {k1 : Int32} {H : Heap} {locs : List Loc} {ls : Array Slot}  (I : fb_In D A s.heap ((fb_mw cI zq zs zw)) H locs) (hl : lv_has ls 4 [(0, .ref (zq 0)), (2, .int l2)]) (E : z = f_X2_operate_227 zs l2 k0 k1) : W p l e ({ frames := 2, cells := 0, slots := 0, locals := 46 } : Room) s m args below meth c H locs 0 0 (MQ below (fb_QV D A (fun (_ : fb_AR) => True) (fun (t : fb_AR) => (fb_mw cI zq (z) (t)))) args s 0 0 A) (F0 m 227 ls [.int k0, .int k1, .ref (zq 0)]) := by
  obtain ⟨hx, hb, hr, hml, hown, hts, hlk, hA, hK, hF⟩ := id X
  refine fb_goV (wn := fun (w53 : fb_AR) => (fb_mw cI zq ((f_X2_setFlag zs k1 k0)) (w53))) X I (fb_runV (As := [.int k1, .int k0]) (rest := []) (q0 := 0) X I hl (c_X2_setFlag l D cI cJ zq zs zw k1 k0 _) (fb_goodV fw_1246 fw_1248 fw_51 fw_198 fw_1249) rfl rfl rfl (by decide +kernel : fb_hd yX2_setFlag 2) ⟨Nat.le_of_ble_eq_true rfl, Nat.le_of_ble_eq_true rfl⟩ [0, 1, 2, 3, 4, 5, 6, 7] (by decide) rfl rfl rfl rfl rfl rfl (Nat.le_of_ble_eq_true rfl) ⟨Nat.zero_le _, Nat.zero_le _⟩ dX2_operate_227) [0, 1, 2, 3, 4, 5, 6, 7] [] [0, 1, 2, 3, 4, 5, 6, 7] rfl rfl (by decide) (by decide) (by decide) (fun _ => rfl) ?_
  intro w53 H locs _ I
  refine lv_aload_n hx hb dX2_operate_230 rfl (lv_at hl 0 rfl) ?_
  refine lv_bipush (v := (16 : Int32)) hx hb dX2_operate_231 (by decide) ?_
  refine lv_iload_n hx hb dX2_operate_233 rfl (lv_at hl 1 rfl) ?_
  refine lv_sipush (v := (128 : Int32)) hx hb dX2_operate_234 (by decide) ?_
  refine lv_iand hx hb dX2_operate_237 ?_
  refine lv_if_eq (tgt := 245) hx hb dX2_operate_238 (by decide) (fun c54 => ?_) (fun c54 => ?_)
  · have E55 := (E.trans (if_pos c54))
    refine lv_iconst (v := (0 : Int32)) hx hb dX2_operate_245 (by decide) ?_
    refine fb_goV (wn := fun (w57 : fb_AR) => (fb_mw cI zq ((f_X2_setFlag ((f_X2_setFlag zs k1 k0)) (16 : Int32) (0 : Int32))) (w57))) X I (fb_runV (As := [.int (16 : Int32), .int (0 : Int32)]) (rest := []) (q0 := 0) X I hl (c_X2_setFlag l D cI cJ zq ((f_X2_setFlag zs k1 k0)) (w53) (16 : Int32) (0 : Int32) _) (fb_goodV fw_1246 fw_1248 fw_51 fw_198 fw_1249) rfl rfl rfl (by decide +kernel : fb_hd yX2_setFlag 2) ⟨Nat.le_of_ble_eq_true rfl, Nat.le_of_ble_eq_true rfl⟩ [0, 1, 2, 3, 4, 5, 6, 7] (by decide) rfl rfl rfl rfl rfl rfl (Nat.le_of_ble_eq_true rfl) ⟨Nat.zero_le _, Nat.zero_le _⟩ dX2_operate_246) [0, 1, 2, 3, 4, 5, 6, 7] [] [0, 1, 2, 3, 4, 5, 6, 7] rfl rfl (by decide) (by decide) (by decide) (fun _ => rfl) ?_
    intro w57 H locs _ I
    refine lv_aload_n hx hb dX2_operate_249 rfl (lv_at hl 0 rfl) ?_
    refine lv_bipush (v := (8 : Int32)) hx hb dX2_operate_250 (by decide) ?_
    refine lv_iload_n hx hb dX2_operate_252 rfl (lv_at hl 1 rfl) ?_
    refine lv_bipush (v := (64 : Int32)) hx hb dX2_operate_253 (by decide) ?_
    refine lv_iand hx hb dX2_operate_255 ?_
    refine lv_if_eq (tgt := 263) hx hb dX2_operate_256 (by decide) (fun c58 => ?_) (fun c58 => ?_)
    · have E59 := (E55.trans (if_pos c58))
      refine lv_iconst (v := (0 : Int32)) hx hb dX2_operate_263 (by decide) ?_
      refine fb_goV (wn := fun (w61 : fb_AR) => (fb_mw cI zq ((f_X2_setFlag ((f_X2_setFlag ((f_X2_setFlag zs k1 k0)) (16 : Int32) (0 : Int32))) (8 : Int32) (0 : Int32))) (w61))) X I (fb_runV (As := [.int (8 : Int32), .int (0 : Int32)]) (rest := []) (q0 := 0) X I hl (c_X2_setFlag l D cI cJ zq ((f_X2_setFlag ((f_X2_setFlag zs k1 k0)) (16 : Int32) (0 : Int32))) (w57) (8 : Int32) (0 : Int32) _) (fb_goodV fw_1246 fw_1248 fw_51 fw_198 fw_1249) rfl rfl rfl (by decide +kernel : fb_hd yX2_setFlag 2) ⟨Nat.le_of_ble_eq_true rfl, Nat.le_of_ble_eq_true rfl⟩ [0, 1, 2, 3, 4, 5, 6, 7] (by decide) rfl rfl rfl rfl rfl rfl (Nat.le_of_ble_eq_true rfl) ⟨Nat.zero_le _, Nat.zero_le _⟩ dX2_operate_264) [0, 1, 2, 3, 4, 5, 6, 7] [] [0, 1, 2, 3, 4, 5, 6, 7] rfl rfl (by decide) (by decide) (by decide) (fun _ => rfl) ?_
      intro w61 H locs _ I
      subst E59
      exact fb_retV (u := ((w61))) X I trivial dX2_operate_267
    · have E60 := (E55.trans (if_neg c58))
      refine lv_iconst (v := (1 : Int32)) hx hb dX2_operate_259 (by decide) ?_
      refine lv_goto (tgt := 264) hx hb dX2_operate_260 (by decide) ?_
      refine fb_goV (wn := fun (w62 : fb_AR) => (fb_mw cI zq ((f_X2_setFlag ((f_X2_setFlag ((f_X2_setFlag zs k1 k0)) (16 : Int32) (0 : Int32))) (8 : Int32) (1 : Int32))) (w62))) X I (fb_runV (As := [.int (8 : Int32), .int (1 : Int32)]) (rest := []) (q0 := 0) X I hl (c_X2_setFlag l D cI cJ zq ((f_X2_setFlag ((f_X2_setFlag zs k1 k0)) (16 : Int32) (0 : Int32))) (w57) (8 : Int32) (1 : Int32) _) (fb_goodV fw_1246 fw_1248 fw_51 fw_198 fw_1249) rfl rfl rfl (by decide +kernel : fb_hd yX2_setFlag 2) ⟨Nat.le_of_ble_eq_true rfl, Nat.le_of_ble_eq_true rfl⟩ [0, 1, 2, 3, 4, 5, 6, 7] (by decide) rfl rfl rfl rfl rfl rfl (Nat.le_of_ble_eq_true rfl) ⟨Nat.zero_le _, Nat.zero_le _⟩ dX2_operate_264) [0, 1, 2, 3, 4, 5, 6, 7] [] [0, 1, 2, 3, 4, 5, 6, 7] rfl rfl (by decide) (by decide) (by decide) (fun _ => rfl) ?_
      intro w62 H locs _ I
      subst E60
      exact fb_retV (u := ((w62))) X I trivial dX2_operate_267
  · have E56 := (E.trans (if_neg c54))
    refine lv_iconst (v := (1 : Int32)) hx hb dX2_operate_241 (by decide) ?_
    refine lv_goto (tgt := 246) hx hb dX2_operate_242 (by decide) ?_
    refine fb_goV (wn := fun (w63 : fb_AR) => (fb_mw cI zq ((f_X2_setFlag ((f_X2_setFlag zs k1 k0)) (16 : Int32) (1 : Int32))) (w63))) X I (fb_runV (As := [.int (16 : Int32), .int (1 : Int32)]) (rest := []) (q0 := 0) X I hl (c_X2_setFlag l D cI cJ zq ((f_X2_setFlag zs k1 k0)) (w53) (16 : Int32) (1 : Int32) _) (fb_goodV fw_1246 fw_1248 fw_51 fw_198 fw_1249) rfl rfl rfl (by decide +kernel : fb_hd yX2_setFlag 2) ⟨Nat.le_of_ble_eq_true rfl, Nat.le_of_ble_eq_true rfl⟩ [0, 1, 2, 3, 4, 5, 6, 7] (by decide) rfl rfl rfl rfl rfl rfl (Nat.le_of_ble_eq_true rfl) ⟨Nat.zero_le _, Nat.zero_le _⟩ dX2_operate_246) [0, 1, 2, 3, 4, 5, 6, 7] [] [0, 1, 2, 3, 4, 5, 6, 7] rfl rfl (by decide) (by decide) (by decide) (fun _ => rfl) ?_
    intro w63 H locs _ I
    refine lv_aload_n hx hb dX2_operate_249 rfl (lv_at hl 0 rfl) ?_
    refine lv_bipush (v := (8 : Int32)) hx hb dX2_operate_250 (by decide) ?_
    refine lv_iload_n hx hb dX2_operate_252 rfl (lv_at hl 1 rfl) ?_
    refine lv_bipush (v := (64 : Int32)) hx hb dX2_operate_253 (by decide) ?_
    refine lv_iand hx hb dX2_operate_255 ?_
    refine lv_if_eq (tgt := 263) hx hb dX2_operate_256 (by decide) (fun c64 => ?_) (fun c64 => ?_)
    · have E65 := (E56.trans (if_pos c64))
      refine lv_iconst (v := (0 : Int32)) hx hb dX2_operate_263 (by decide) ?_
      refine fb_goV (wn := fun (w67 : fb_AR) => (fb_mw cI zq ((f_X2_setFlag ((f_X2_setFlag ((f_X2_setFlag zs k1 k0)) (16 : Int32) (1 : Int32))) (8 : Int32) (0 : Int32))) (w67))) X I (fb_runV (As := [.int (8 : Int32), .int (0 : Int32)]) (rest := []) (q0 := 0) X I hl (c_X2_setFlag l D cI cJ zq ((f_X2_setFlag ((f_X2_setFlag zs k1 k0)) (16 : Int32) (1 : Int32))) (w63) (8 : Int32) (0 : Int32) _) (fb_goodV fw_1246 fw_1248 fw_51 fw_198 fw_1249) rfl rfl rfl (by decide +kernel : fb_hd yX2_setFlag 2) ⟨Nat.le_of_ble_eq_true rfl, Nat.le_of_ble_eq_true rfl⟩ [0, 1, 2, 3, 4, 5, 6, 7] (by decide) rfl rfl rfl rfl rfl rfl (Nat.le_of_ble_eq_true rfl) ⟨Nat.zero_le _, Nat.zero_le _⟩ dX2_operate_264) [0, 1, 2, 3, 4, 5, 6, 7] [] [0, 1, 2, 3, 4, 5, 6, 7] rfl rfl (by decide) (by decide) (by decide) (fun _ => rfl) ?_
      intro w67 H locs _ I
      subst E65
      exact fb_retV (u := ((w67))) X I trivial dX2_operate_267
    · have E66 := (E56.trans (if_neg c64))
      refine lv_iconst (v := (1 : Int32)) hx hb dX2_operate_259 (by decide) ?_
      refine lv_goto (tgt := 264) hx hb dX2_operate_260 (by decide) ?_
      refine fb_goV (wn := fun (w68 : fb_AR) => (fb_mw cI zq ((f_X2_setFlag ((f_X2_setFlag ((f_X2_setFlag zs k1 k0)) (16 : Int32) (1 : Int32))) (8 : Int32) (1 : Int32))) (w68))) X I (fb_runV (As := [.int (8 : Int32), .int (1 : Int32)]) (rest := []) (q0 := 0) X I hl (c_X2_setFlag l D cI cJ zq ((f_X2_setFlag ((f_X2_setFlag zs k1 k0)) (16 : Int32) (1 : Int32))) (w63) (8 : Int32) (1 : Int32) _) (fb_goodV fw_1246 fw_1248 fw_51 fw_198 fw_1249) rfl rfl rfl (by decide +kernel : fb_hd yX2_setFlag 2) ⟨Nat.le_of_ble_eq_true rfl, Nat.le_of_ble_eq_true rfl⟩ [0, 1, 2, 3, 4, 5, 6, 7] (by decide) rfl rfl rfl rfl rfl rfl (Nat.le_of_ble_eq_true rfl) ⟨Nat.zero_le _, Nat.zero_le _⟩ dX2_operate_264) [0, 1, 2, 3, 4, 5, 6, 7] [] [0, 1, 2, 3, 4, 5, 6, 7] rfl rfl (by decide) (by decide) (by decide) (fun _ => rfl) ?_
      intro w68 H locs _ I
      subst E66
      exact fb_retV (u := ((w68))) X I trivial dX2_operate_267
set_option maxHeartbeats 4000000 in
set_option maxRecDepth 100000 in
theorem b_X2_operate_0 {p : Program} {l : Launch} {e : Env} {s : State} {m : MethodId} {args : Array Value} {below : List Frame} {meth : Method} {c : Code} {D : va_G} {cI cJ : ClassId} {A : Nat → Prop} {zq : Nat → Nat} {z : fb_MS} (X : fb_Bx p s m args meth c cX2_operate RX2 4 none D (fb_ty D cI cJ) A) {zs : fb_MS} {zw : fb_AR} {l1 : Int32} {l2 : Int32} {H : Heap} {locs : List Loc} {ls : Array Slot}  (I : fb_In D A s.heap ((fb_mw cI zq zs zw)) H locs) (hl : lv_has ls 4 [(0, .ref (zq 0)), (1, .int l1), (2, .int l2)]) (E : z = f_X2_operate zs l1 l2) : W p l e ({ frames := 2, cells := 0, slots := 0, locals := 46 } : Room) s m args below meth c H locs 0 0 (MQ below (fb_QV D A (fun (_ : fb_AR) => True) (fun (t : fb_AR) => (fb_mw cI zq (z) (t)))) args s 0 0 A) (F0 m 0 ls []) := by
  obtain ⟨hx, hb, hr, hml, hown, hts, hlk, hA, hK, hF⟩ := id X
  refine lv_aload_n hx hb dX2_operate_0 rfl (lv_at hl 0 rfl) ?_
  refine fb_get X I (k := 8) fu_X2 0 rfl rfl (Nat.le_of_ble_eq_true rfl) fw_530 rfl rfl dX2_operate_1 ?_
  refine lv_iconst (v := (1 : Int32)) hx hb dX2_operate_4 (by decide) ?_
  refine lv_iand hx hb dX2_operate_5 ?_
  refine lv_istore_n (lv' := [(3, .int (((zs).1 8) &&& (1 : Int32))), (0, .ref (zq 0)), (1, .int l1), (2, .int l2)]) hx hb dX2_operate_6 rfl hl (by decide) rfl (fun ls hl => ?_)
  refine lv_iload_n hx hb dX2_operate_7 rfl (lv_at hl 2 rfl) ?_
  by_cases c1 : l1 = (4 : Int32)
  · have E2 := (E.trans (if_pos c1))
    refine lv_tableIn (tgt := 68) hx hb dX2_operate_8 (by rw [c1]; decide) (by rw [c1]; decide) (by rw [c1]; rfl) (by decide) ?_
    refine lv_aload_n hx hb dX2_operate_68 rfl (lv_at hl 1 rfl) ?_
    refine lv_aload_n hx hb dX2_operate_69 rfl (lv_at hl 1 rfl) ?_
    refine lv_iload_n hx hb dX2_operate_70 rfl (lv_at hl 3 rfl) ?_
    refine fb_goI (wn := fun (w3 : fb_AR) => (fb_mw cI zq ((f_X2_zn zs l2).2) (w3))) X I (fb_runV (As := [.int l2]) (rest := [.ref (zq 0)]) (q0 := 0) X I hl (c_X2_zn l D cI cJ zq zs zw l2 _) (fb_goodV fw_1254 fw_1256 fw_53 fw_198 fw_1257) rfl rfl rfl (by decide +kernel : fb_hd yX2_zn 1) ⟨Nat.le_of_ble_eq_true rfl, Nat.le_of_ble_eq_true rfl⟩ [0, 1, 2, 3, 4, 5, 6, 7] (by decide) rfl rfl rfl rfl rfl rfl (Nat.le_of_ble_eq_true rfl) ⟨Nat.zero_le _, Nat.zero_le _⟩ dX2_operate_71) [0, 1, 2, 3, 4, 5, 6, 7] [] [0, 1, 2, 3, 4, 5, 6, 7] rfl rfl (by decide) (by decide) (by decide) (fun _ => rfl) ?_
    intro r4 w3 H locs e0 I
    subst e0
    refine fb_put X I (k := 5) (wn := (fb_mw cI zq (fb_sR ((f_X2_zn zs l2).2) 5 ((f_X2_zn zs l2).1)) (w3))) fu_X2 tyX2 tyX2_ok nmX2 0 rfl rfl (Nat.le_of_ble_eq_true rfl) fw_524 rfl rfl rfl rfl rfl (Nat.le_of_ble_eq_true rfl) fb_ms5 dX2_operate_74 (fun H locs I => ?_)
    refine lv_goto (tgt := 267) hx hb dX2_operate_77 (by decide) ?_
    subst E2
    exact fb_retV (u := ((w3))) X I trivial dX2_operate_267
  have E5 := (E.trans (if_neg c1))
  by_cases c6 : l1 = (5 : Int32)
  · have E7 := (E5.trans (if_pos c6))
    refine lv_tableIn (tgt := 80) hx hb dX2_operate_8 (by rw [c6]; decide) (by rw [c6]; decide) (by rw [c6]; rfl) (by decide) ?_
    refine lv_aload_n hx hb dX2_operate_80 rfl (lv_at hl 1 rfl) ?_
    refine lv_aload_n hx hb dX2_operate_81 rfl (lv_at hl 1 rfl) ?_
    refine lv_iload_n hx hb dX2_operate_82 rfl (lv_at hl 3 rfl) ?_
    refine fb_goI (wn := fun (w8 : fb_AR) => (fb_mw cI zq ((f_X2_zn zs l2).2) (w8))) X I (fb_runV (As := [.int l2]) (rest := [.ref (zq 0)]) (q0 := 0) X I hl (c_X2_zn l D cI cJ zq zs zw l2 _) (fb_goodV fw_1254 fw_1256 fw_53 fw_198 fw_1257) rfl rfl rfl (by decide +kernel : fb_hd yX2_zn 1) ⟨Nat.le_of_ble_eq_true rfl, Nat.le_of_ble_eq_true rfl⟩ [0, 1, 2, 3, 4, 5, 6, 7] (by decide) rfl rfl rfl rfl rfl rfl (Nat.le_of_ble_eq_true rfl) ⟨Nat.zero_le _, Nat.zero_le _⟩ dX2_operate_83) [0, 1, 2, 3, 4, 5, 6, 7] [] [0, 1, 2, 3, 4, 5, 6, 7] rfl rfl (by decide) (by decide) (by decide) (fun _ => rfl) ?_
    intro r9 w8 H locs e0 I
    subst e0
    refine fb_put X I (k := 6) (wn := (fb_mw cI zq (fb_sR ((f_X2_zn zs l2).2) 6 ((f_X2_zn zs l2).1)) (w8))) fu_X2 tyX2 tyX2_ok nmX2 0 rfl rfl (Nat.le_of_ble_eq_true rfl) fw_526 rfl rfl rfl rfl rfl (Nat.le_of_ble_eq_true rfl) fb_ms6 dX2_operate_86 (fun H locs I => ?_)
    refine lv_goto (tgt := 267) hx hb dX2_operate_89 (by decide) ?_
    subst E7
    exact fb_retV (u := ((w8))) X I trivial dX2_operate_267
  have E10 := (E5.trans (if_neg c6))
  by_cases c11 : l1 = (6 : Int32)
  · have E12 := (E10.trans (if_pos c11))
    refine lv_tableIn (tgt := 92) hx hb dX2_operate_8 (by rw [c11]; decide) (by rw [c11]; decide) (by rw [c11]; rfl) (by decide) ?_
    refine lv_aload_n hx hb dX2_operate_92 rfl (lv_at hl 1 rfl) ?_
    refine lv_iload_n hx hb dX2_operate_93 rfl (lv_at hl 3 rfl) ?_
    refine lv_iconst (v := (0 : Int32)) hx hb dX2_operate_94 (by decide) ?_
    refine fb_goV (wn := fun (w13 : fb_AR) => (fb_mw cI zq ((f_X2_add zs l2 (0 : Int32))) (w13))) X I (fb_runV (As := [.int l2, .int (0 : Int32)]) (rest := []) (q0 := 0) X I hl (c_X2_add l D cI cJ zq zs zw l2 (0 : Int32) _) (fb_goodV fw_1357 fw_1359 fw_74 fw_198 fw_1360) rfl rfl rfl (by decide +kernel : fb_hd yX2_add 2) ⟨Nat.le_of_ble_eq_true rfl, Nat.le_of_ble_eq_true rfl⟩ [0, 1, 2, 3, 4, 5, 6, 7] (by decide) rfl rfl rfl rfl rfl rfl (Nat.le_of_ble_eq_true rfl) ⟨Nat.zero_le _, Nat.zero_le _⟩ dX2_operate_95) [0, 1, 2, 3, 4, 5, 6, 7] [] [0, 1, 2, 3, 4, 5, 6, 7] rfl rfl (by decide) (by decide) (by decide) (fun _ => rfl) ?_
    intro w13 H locs _ I
    refine lv_goto (tgt := 267) hx hb dX2_operate_98 (by decide) ?_
    subst E12
    exact fb_retV (u := ((w13))) X I trivial dX2_operate_267
  have E14 := (E10.trans (if_neg c11))
  by_cases c15 : l1 = (7 : Int32)
  · have E16 := (E14.trans (if_pos c15))
    refine lv_tableIn (tgt := 101) hx hb dX2_operate_8 (by rw [c15]; decide) (by rw [c15]; decide) (by rw [c15]; rfl) (by decide) ?_
    refine lv_aload_n hx hb dX2_operate_101 rfl (lv_at hl 1 rfl) ?_
    refine lv_iload_n hx hb dX2_operate_102 rfl (lv_at hl 3 rfl) ?_
    refine lv_iload_n hx hb dX2_operate_103 rfl (lv_at hl 0 rfl) ?_
    refine fb_goV (wn := fun (w17 : fb_AR) => (fb_mw cI zq ((f_X2_add zs l2 (((zs).1 8) &&& (1 : Int32)))) (w17))) X I (fb_runV (As := [.int l2, .int (((zs).1 8) &&& (1 : Int32))]) (rest := []) (q0 := 0) X I hl (c_X2_add l D cI cJ zq zs zw l2 (((zs).1 8) &&& (1 : Int32)) _) (fb_goodV fw_1357 fw_1359 fw_74 fw_198 fw_1360) rfl rfl rfl (by decide +kernel : fb_hd yX2_add 2) ⟨Nat.le_of_ble_eq_true rfl, Nat.le_of_ble_eq_true rfl⟩ [0, 1, 2, 3, 4, 5, 6, 7] (by decide) rfl rfl rfl rfl rfl rfl (Nat.le_of_ble_eq_true rfl) ⟨Nat.zero_le _, Nat.zero_le _⟩ dX2_operate_104) [0, 1, 2, 3, 4, 5, 6, 7] [] [0, 1, 2, 3, 4, 5, 6, 7] rfl rfl (by decide) (by decide) (by decide) (fun _ => rfl) ?_
    intro w17 H locs _ I
    refine lv_goto (tgt := 267) hx hb dX2_operate_107 (by decide) ?_
    subst E16
    exact fb_retV (u := ((w17))) X I trivial dX2_operate_267
  have E18 := (E14.trans (if_neg c15))
  by_cases c19 : l1 = (8 : Int32)
  · have E20 := (E18.trans (if_pos c19))
    refine lv_tableIn (tgt := 110) hx hb dX2_operate_8 (by rw [c19]; decide) (by rw [c19]; decide) (by rw [c19]; rfl) (by decide) ?_
    refine lv_aload_n hx hb dX2_operate_110 rfl (lv_at hl 1 rfl) ?_
    refine lv_sipush (v := (255 : Int32)) hx hb dX2_operate_111 (by decide) ?_
    refine lv_iload_n hx hb dX2_operate_114 rfl (lv_at hl 3 rfl) ?_
    refine lv_isub hx hb dX2_operate_115 ?_
    refine lv_iconst (v := (1 : Int32)) hx hb dX2_operate_116 (by decide) ?_
    refine fb_goV (wn := fun (w21 : fb_AR) => (fb_mw cI zq ((f_X2_add zs ((255 : Int32) - l2) (1 : Int32))) (w21))) X I (fb_runV (As := [.int ((255 : Int32) - l2), .int (1 : Int32)]) (rest := []) (q0 := 0) X I hl (c_X2_add l D cI cJ zq zs zw ((255 : Int32) - l2) (1 : Int32) _) (fb_goodV fw_1357 fw_1359 fw_74 fw_198 fw_1360) rfl rfl rfl (by decide +kernel : fb_hd yX2_add 2) ⟨Nat.le_of_ble_eq_true rfl, Nat.le_of_ble_eq_true rfl⟩ [0, 1, 2, 3, 4, 5, 6, 7] (by decide) rfl rfl rfl rfl rfl rfl (Nat.le_of_ble_eq_true rfl) ⟨Nat.zero_le _, Nat.zero_le _⟩ dX2_operate_117) [0, 1, 2, 3, 4, 5, 6, 7] [] [0, 1, 2, 3, 4, 5, 6, 7] rfl rfl (by decide) (by decide) (by decide) (fun _ => rfl) ?_
    intro w21 H locs _ I
    refine lv_goto (tgt := 267) hx hb dX2_operate_120 (by decide) ?_
    subst E20
    exact fb_retV (u := ((w21))) X I trivial dX2_operate_267
  have E22 := (E18.trans (if_neg c19))
  by_cases c23 : l1 = (9 : Int32)
  · have E24 := (E22.trans (if_pos c23))
    refine lv_tableIn (tgt := 123) hx hb dX2_operate_8 (by rw [c23]; decide) (by rw [c23]; decide) (by rw [c23]; rfl) (by decide) ?_
    refine lv_aload_n hx hb dX2_operate_123 rfl (lv_at hl 1 rfl) ?_
    refine lv_sipush (v := (255 : Int32)) hx hb dX2_operate_124 (by decide) ?_
    refine lv_iload_n hx hb dX2_operate_127 rfl (lv_at hl 3 rfl) ?_
    refine lv_isub hx hb dX2_operate_128 ?_
    refine lv_iload_n hx hb dX2_operate_129 rfl (lv_at hl 0 rfl) ?_
    refine fb_goV (wn := fun (w25 : fb_AR) => (fb_mw cI zq ((f_X2_add zs ((255 : Int32) - l2) (((zs).1 8) &&& (1 : Int32)))) (w25))) X I (fb_runV (As := [.int ((255 : Int32) - l2), .int (((zs).1 8) &&& (1 : Int32))]) (rest := []) (q0 := 0) X I hl (c_X2_add l D cI cJ zq zs zw ((255 : Int32) - l2) (((zs).1 8) &&& (1 : Int32)) _) (fb_goodV fw_1357 fw_1359 fw_74 fw_198 fw_1360) rfl rfl rfl (by decide +kernel : fb_hd yX2_add 2) ⟨Nat.le_of_ble_eq_true rfl, Nat.le_of_ble_eq_true rfl⟩ [0, 1, 2, 3, 4, 5, 6, 7] (by decide) rfl rfl rfl rfl rfl rfl (Nat.le_of_ble_eq_true rfl) ⟨Nat.zero_le _, Nat.zero_le _⟩ dX2_operate_130) [0, 1, 2, 3, 4, 5, 6, 7] [] [0, 1, 2, 3, 4, 5, 6, 7] rfl rfl (by decide) (by decide) (by decide) (fun _ => rfl) ?_
    intro w25 H locs _ I
    refine lv_goto (tgt := 267) hx hb dX2_operate_133 (by decide) ?_
    subst E24
    exact fb_retV (u := ((w25))) X I trivial dX2_operate_267
  have E26 := (E22.trans (if_neg c23))
  by_cases c27 : l1 = (10 : Int32)
  · have E28 := (E26.trans (if_pos c27))
    refine lv_tableIn (tgt := 136) hx hb dX2_operate_8 (by rw [c27]; decide) (by rw [c27]; decide) (by rw [c27]; rfl) (by decide) ?_
    refine lv_aload_n hx hb dX2_operate_136 rfl (lv_at hl 1 rfl) ?_
    refine lv_aload_n hx hb dX2_operate_137 rfl (lv_at hl 1 rfl) ?_
    refine fb_get X I (k := 5) fu_X2 0 rfl rfl (Nat.le_of_ble_eq_true rfl) fw_524 rfl rfl dX2_operate_138 ?_
    refine lv_iload_n hx hb dX2_operate_141 rfl (lv_at hl 3 rfl) ?_
    refine fb_goV (wn := fun (w29 : fb_AR) => (fb_mw cI zq ((f_X2_compare zs ((zs).1 5) l2)) (w29))) X I (fb_runV (As := [.int ((zs).1 5), .int l2]) (rest := []) (q0 := 0) X I hl (c_X2_compare l D cI cJ zq zs zw ((zs).1 5) l2 _) (fb_goodV fw_1361 fw_1363 fw_75 fw_198 fw_1364) rfl rfl rfl (by decide +kernel : fb_hd yX2_compare 2) ⟨Nat.le_of_ble_eq_true rfl, Nat.le_of_ble_eq_true rfl⟩ [0, 1, 2, 3, 4, 5, 6, 7] (by decide) rfl rfl rfl rfl rfl rfl (Nat.le_of_ble_eq_true rfl) ⟨Nat.zero_le _, Nat.zero_le _⟩ dX2_operate_142) [0, 1, 2, 3, 4, 5, 6, 7] [] [0, 1, 2, 3, 4, 5, 6, 7] rfl rfl (by decide) (by decide) (by decide) (fun _ => rfl) ?_
    intro w29 H locs _ I
    refine lv_goto (tgt := 267) hx hb dX2_operate_145 (by decide) ?_
    subst E28
    exact fb_retV (u := ((w29))) X I trivial dX2_operate_267
  have E30 := (E26.trans (if_neg c27))
  by_cases c31 : l1 = (11 : Int32)
  · have E32 := (E30.trans (if_pos c31))
    refine lv_tableIn (tgt := 148) hx hb dX2_operate_8 (by rw [c31]; decide) (by rw [c31]; decide) (by rw [c31]; rfl) (by decide) ?_
    refine lv_aload_n hx hb dX2_operate_148 rfl (lv_at hl 1 rfl) ?_
    refine lv_aload_n hx hb dX2_operate_149 rfl (lv_at hl 1 rfl) ?_
    refine fb_get X I (k := 6) fu_X2 0 rfl rfl (Nat.le_of_ble_eq_true rfl) fw_526 rfl rfl dX2_operate_150 ?_
    refine lv_iload_n hx hb dX2_operate_153 rfl (lv_at hl 3 rfl) ?_
    refine fb_goV (wn := fun (w33 : fb_AR) => (fb_mw cI zq ((f_X2_compare zs ((zs).1 6) l2)) (w33))) X I (fb_runV (As := [.int ((zs).1 6), .int l2]) (rest := []) (q0 := 0) X I hl (c_X2_compare l D cI cJ zq zs zw ((zs).1 6) l2 _) (fb_goodV fw_1361 fw_1363 fw_75 fw_198 fw_1364) rfl rfl rfl (by decide +kernel : fb_hd yX2_compare 2) ⟨Nat.le_of_ble_eq_true rfl, Nat.le_of_ble_eq_true rfl⟩ [0, 1, 2, 3, 4, 5, 6, 7] (by decide) rfl rfl rfl rfl rfl rfl (Nat.le_of_ble_eq_true rfl) ⟨Nat.zero_le _, Nat.zero_le _⟩ dX2_operate_154) [0, 1, 2, 3, 4, 5, 6, 7] [] [0, 1, 2, 3, 4, 5, 6, 7] rfl rfl (by decide) (by decide) (by decide) (fun _ => rfl) ?_
    intro w33 H locs _ I
    refine lv_goto (tgt := 267) hx hb dX2_operate_157 (by decide) ?_
    subst E32
    exact fb_retV (u := ((w33))) X I trivial dX2_operate_267
  have E34 := (E30.trans (if_neg c31))
  by_cases c35 : l1 = (12 : Int32)
  · have E36 := (E34.trans (if_pos c35))
    refine lv_tableIn (tgt := 160) hx hb dX2_operate_8 (by rw [c35]; decide) (by rw [c35]; decide) (by rw [c35]; rfl) (by decide) ?_
    refine lv_aload_n hx hb dX2_operate_160 rfl (lv_at hl 1 rfl) ?_
    refine lv_aload_n hx hb dX2_operate_161 rfl (lv_at hl 1 rfl) ?_
    refine lv_aload_n hx hb dX2_operate_162 rfl (lv_at hl 1 rfl) ?_
    refine fb_get X I (k := 5) fu_X2 0 rfl rfl (Nat.le_of_ble_eq_true rfl) fw_524 rfl rfl dX2_operate_163 ?_
    refine lv_iload_n hx hb dX2_operate_166 rfl (lv_at hl 3 rfl) ?_
    refine lv_iand hx hb dX2_operate_167 ?_
    refine fb_goI (wn := fun (w37 : fb_AR) => (fb_mw cI zq ((f_X2_zn zs (((zs).1 5) &&& l2)).2) (w37))) X I (fb_runV (As := [.int (((zs).1 5) &&& l2)]) (rest := [.ref (zq 0)]) (q0 := 0) X I hl (c_X2_zn l D cI cJ zq zs zw (((zs).1 5) &&& l2) _) (fb_goodV fw_1254 fw_1256 fw_53 fw_198 fw_1257) rfl rfl rfl (by decide +kernel : fb_hd yX2_zn 1) ⟨Nat.le_of_ble_eq_true rfl, Nat.le_of_ble_eq_true rfl⟩ [0, 1, 2, 3, 4, 5, 6, 7] (by decide) rfl rfl rfl rfl rfl rfl (Nat.le_of_ble_eq_true rfl) ⟨Nat.zero_le _, Nat.zero_le _⟩ dX2_operate_168) [0, 1, 2, 3, 4, 5, 6, 7] [] [0, 1, 2, 3, 4, 5, 6, 7] rfl rfl (by decide) (by decide) (by decide) (fun _ => rfl) ?_
    intro r38 w37 H locs e0 I
    subst e0
    refine fb_put X I (k := 5) (wn := (fb_mw cI zq (fb_sR ((f_X2_zn zs (((zs).1 5) &&& l2)).2) 5 ((f_X2_zn zs (((zs).1 5) &&& l2)).1)) (w37))) fu_X2 tyX2 tyX2_ok nmX2 0 rfl rfl (Nat.le_of_ble_eq_true rfl) fw_524 rfl rfl rfl rfl rfl (Nat.le_of_ble_eq_true rfl) fb_ms5 dX2_operate_171 (fun H locs I => ?_)
    refine lv_goto (tgt := 267) hx hb dX2_operate_174 (by decide) ?_
    subst E36
    exact fb_retV (u := ((w37))) X I trivial dX2_operate_267
  have E39 := (E34.trans (if_neg c35))
  by_cases c40 : l1 = (13 : Int32)
  · have E41 := (E39.trans (if_pos c40))
    refine lv_tableIn (tgt := 177) hx hb dX2_operate_8 (by rw [c40]; decide) (by rw [c40]; decide) (by rw [c40]; rfl) (by decide) ?_
    refine lv_aload_n hx hb dX2_operate_177 rfl (lv_at hl 1 rfl) ?_
    refine lv_aload_n hx hb dX2_operate_178 rfl (lv_at hl 1 rfl) ?_
    refine lv_aload_n hx hb dX2_operate_179 rfl (lv_at hl 1 rfl) ?_
    refine fb_get X I (k := 5) fu_X2 0 rfl rfl (Nat.le_of_ble_eq_true rfl) fw_524 rfl rfl dX2_operate_180 ?_
    refine lv_iload_n hx hb dX2_operate_183 rfl (lv_at hl 3 rfl) ?_
    refine lv_ior hx hb dX2_operate_184 ?_
    refine fb_goI (wn := fun (w42 : fb_AR) => (fb_mw cI zq ((f_X2_zn zs (((zs).1 5) ||| l2)).2) (w42))) X I (fb_runV (As := [.int (((zs).1 5) ||| l2)]) (rest := [.ref (zq 0)]) (q0 := 0) X I hl (c_X2_zn l D cI cJ zq zs zw (((zs).1 5) ||| l2) _) (fb_goodV fw_1254 fw_1256 fw_53 fw_198 fw_1257) rfl rfl rfl (by decide +kernel : fb_hd yX2_zn 1) ⟨Nat.le_of_ble_eq_true rfl, Nat.le_of_ble_eq_true rfl⟩ [0, 1, 2, 3, 4, 5, 6, 7] (by decide) rfl rfl rfl rfl rfl rfl (Nat.le_of_ble_eq_true rfl) ⟨Nat.zero_le _, Nat.zero_le _⟩ dX2_operate_185) [0, 1, 2, 3, 4, 5, 6, 7] [] [0, 1, 2, 3, 4, 5, 6, 7] rfl rfl (by decide) (by decide) (by decide) (fun _ => rfl) ?_
    intro r43 w42 H locs e0 I
    subst e0
    refine fb_put X I (k := 5) (wn := (fb_mw cI zq (fb_sR ((f_X2_zn zs (((zs).1 5) ||| l2)).2) 5 ((f_X2_zn zs (((zs).1 5) ||| l2)).1)) (w42))) fu_X2 tyX2 tyX2_ok nmX2 0 rfl rfl (Nat.le_of_ble_eq_true rfl) fw_524 rfl rfl rfl rfl rfl (Nat.le_of_ble_eq_true rfl) fb_ms5 dX2_operate_188 (fun H locs I => ?_)
    refine lv_goto (tgt := 267) hx hb dX2_operate_191 (by decide) ?_
    subst E41
    exact fb_retV (u := ((w42))) X I trivial dX2_operate_267
  have E44 := (E39.trans (if_neg c40))
  by_cases c45 : l1 = (14 : Int32)
  · have E46 := (E44.trans (if_pos c45))
    refine lv_tableIn (tgt := 194) hx hb dX2_operate_8 (by rw [c45]; decide) (by rw [c45]; decide) (by rw [c45]; rfl) (by decide) ?_
    refine lv_aload_n hx hb dX2_operate_194 rfl (lv_at hl 1 rfl) ?_
    refine lv_aload_n hx hb dX2_operate_195 rfl (lv_at hl 1 rfl) ?_
    refine lv_aload_n hx hb dX2_operate_196 rfl (lv_at hl 1 rfl) ?_
    refine fb_get X I (k := 5) fu_X2 0 rfl rfl (Nat.le_of_ble_eq_true rfl) fw_524 rfl rfl dX2_operate_197 ?_
    refine lv_iload_n hx hb dX2_operate_200 rfl (lv_at hl 3 rfl) ?_
    refine lv_ixor hx hb dX2_operate_201 ?_
    refine fb_goI (wn := fun (w47 : fb_AR) => (fb_mw cI zq ((f_X2_zn zs (((zs).1 5) ^^^ l2)).2) (w47))) X I (fb_runV (As := [.int (((zs).1 5) ^^^ l2)]) (rest := [.ref (zq 0)]) (q0 := 0) X I hl (c_X2_zn l D cI cJ zq zs zw (((zs).1 5) ^^^ l2) _) (fb_goodV fw_1254 fw_1256 fw_53 fw_198 fw_1257) rfl rfl rfl (by decide +kernel : fb_hd yX2_zn 1) ⟨Nat.le_of_ble_eq_true rfl, Nat.le_of_ble_eq_true rfl⟩ [0, 1, 2, 3, 4, 5, 6, 7] (by decide) rfl rfl rfl rfl rfl rfl (Nat.le_of_ble_eq_true rfl) ⟨Nat.zero_le _, Nat.zero_le _⟩ dX2_operate_202) [0, 1, 2, 3, 4, 5, 6, 7] [] [0, 1, 2, 3, 4, 5, 6, 7] rfl rfl (by decide) (by decide) (by decide) (fun _ => rfl) ?_
    intro r48 w47 H locs e0 I
    subst e0
    refine fb_put X I (k := 5) (wn := (fb_mw cI zq (fb_sR ((f_X2_zn zs (((zs).1 5) ^^^ l2)).2) 5 ((f_X2_zn zs (((zs).1 5) ^^^ l2)).1)) (w47))) fu_X2 tyX2 tyX2_ok nmX2 0 rfl rfl (Nat.le_of_ble_eq_true rfl) fw_524 rfl rfl rfl rfl rfl (Nat.le_of_ble_eq_true rfl) fb_ms5 dX2_operate_205 (fun H locs I => ?_)
    refine lv_goto (tgt := 267) hx hb dX2_operate_208 (by decide) ?_
    subst E46
    exact fb_retV (u := ((w47))) X I trivial dX2_operate_267
  have E49 := (E44.trans (if_neg c45))
  refine lv_tableOut (tgt := 211) hx hb dX2_operate_8 (fb_tab_4_11 c1 c6 c11 c15 c19 c23 c27 c31 c35 c40 c45) (by decide) ?_
  refine lv_aload_n hx hb dX2_operate_211 rfl (lv_at hl 1 rfl) ?_
  refine lv_iconst (v := (2 : Int32)) hx hb dX2_operate_212 (by decide) ?_
  refine lv_aload_n hx hb dX2_operate_213 rfl (lv_at hl 1 rfl) ?_
  refine fb_get X I (k := 5) fu_X2 0 rfl rfl (Nat.le_of_ble_eq_true rfl) fw_524 rfl rfl dX2_operate_214 ?_
  refine lv_iload_n hx hb dX2_operate_217 rfl (lv_at hl 3 rfl) ?_
  refine lv_iand hx hb dX2_operate_218 ?_
  refine lv_if_ne (tgt := 226) hx hb dX2_operate_219 (by decide) (fun c50 => ?_) (fun c50 => ?_)
  · have E51 := (E49.trans (if_neg c50))
    refine lv_iconst (v := (0 : Int32)) hx hb dX2_operate_226 (by decide) ?_
    exact b_X2_operate_227 X  (l2 := l2) (k0 := (0 : Int32)) (k1 := (2 : Int32)) I (lv_sub hl [1, 3] rfl) E51
  · have E52 := (E49.trans (if_pos c50))
    refine lv_iconst (v := (1 : Int32)) hx hb dX2_operate_222 (by decide) ?_
    refine lv_goto (tgt := 227) hx hb dX2_operate_223 (by decide) ?_
    exact b_X2_operate_227 X  (l2 := l2) (k0 := (1 : Int32)) (k1 := (2 : Int32)) I (lv_sub hl [1, 3] rfl) E52
set_option maxHeartbeats 4000000 in
set_option maxRecDepth 100000 in
theorem c_X2_operate (l : Launch) (D : va_G) (cI cJ : ClassId) (zq : Nat → Nat) (zs : fb_MS) (zw : fb_AR) (l1 : Int32) (l2 : Int32) (sz : Nat)  : Met l yX2_operate (Cond.code yX2_operate cX2_operate 4 none :: fb_all) ({ frames := 2, cells := 0, slots := 0, locals := 46 } : Room) (fb_PP D (fb_ty D cI cJ) [.ref (zq 0), .int l1, .int l2] ((fb_mw cI zq zs zw)) sz) (fb_QV D (va_A ((fb_mw cI zq zs zw)) sz) (fun (_ : fb_AR) => True) (fun (t : fb_AR) => (fb_mw cI zq (((f_X2_operate zs l1 l2))) (t)))) 0 0 (va_A ((fb_mw cI zq zs zw)) sz) := by
  refine fb_ent (Qf := fun A => (fb_QV D A (fun (_ : fb_AR) => True) (fun (t : fb_AR) => (fb_mw cI zq (((f_X2_operate zs l1 l2))) (t))))) (by decide +kernel) (Nat.le_of_ble_eq_true rfl) ?_
  intro p e s m args below meth c A ls X I hl hin
  exact b_X2_operate_0 X  I hl rfl
/-! X2_control -/
def f_X2_control (zs : fb_MS) (l1 : Int32) (l2 : Int32) : fb_MS := (if l1 = (1 : Int32) then (fb_sR zs 10 (2 : Int32)) else (if l1 = (2 : Int32) then (fb_sR zs 10 (1 : Int32)) else (if l1 = (3 : Int32) then ((f_X2_endCall (fb_sR ((f_X2_pullAddress zs).2) 9 ((f_X2_pullAddress zs).1)))) else (if l1 = (4 : Int32) then ((f_X2_endCall (fb_sR ((f_X2_pullAddress (fb_sR ((f_X2_pull zs).2) 8 (((f_X2_pull zs).1) &&& (31 : Int32)))).2) 9 ((f_X2_pullAddress (fb_sR ((f_X2_pull zs).2) 8 (((f_X2_pull zs).1) &&& (31 : Int32)))).1)))) else (if l1 = (5 : Int32) then ((f_X2_enter zs (6 : Int32) l2)) else (if l1 = (6 : Int32) then ((f_X2_setFlag zs (1 : Int32) (0 : Int32))) else (if l1 = (7 : Int32) then ((f_X2_setFlag zs (1 : Int32) (1 : Int32))) else zs)))))))
set_option maxHeartbeats 4000000 in
set_option maxRecDepth 100000 in
theorem b_X2_control_0 {p : Program} {l : Launch} {e : Env} {s : State} {m : MethodId} {args : Array Value} {below : List Frame} {meth : Method} {c : Code} {D : va_G} {cI cJ : ClassId} {A : Nat → Prop} {zq : Nat → Nat} {z : fb_MS} (X : fb_Bx p s m args meth c cX2_control RX2 3 none D (fb_ty D cI cJ) A) {zs : fb_MS} {zw : fb_AR} {l1 : Int32} {l2 : Int32} {H : Heap} {locs : List Loc} {ls : Array Slot}  (I : fb_In D A s.heap ((fb_mw cI zq zs zw)) H locs) (hl : lv_has ls 3 [(0, .ref (zq 0)), (1, .int l1), (2, .int l2)]) (E : z = f_X2_control zs l1 l2) : W p l e ({ frames := 3, cells := 0, slots := 0, locals := 83 } : Room) s m args below meth c H locs 0 0 (MQ below (fb_QV D A (fun (_ : fb_AR) => True) (fun (t : fb_AR) => (fb_mw cI zq (z) (t)))) args s 0 0 A) (F0 m 0 ls []) := by
  obtain ⟨hx, hb, hr, hml, hown, hts, hlk, hA, hK, hF⟩ := id X
  refine lv_iload_n hx hb dX2_control_0 rfl (lv_at hl 1 rfl) ?_
  by_cases c1 : l1 = (1 : Int32)
  · have E2 := (E.trans (if_pos c1))
    refine lv_tableIn (tgt := 44) hx hb dX2_control_1 (by rw [c1]; decide) (by rw [c1]; decide) (by rw [c1]; rfl) (by decide) ?_
    refine lv_aload_n hx hb dX2_control_44 rfl (lv_at hl 0 rfl) ?_
    refine lv_iconst (v := (2 : Int32)) hx hb dX2_control_45 (by decide) ?_
    refine fb_put X I (k := 10) (wn := (fb_mw cI zq (fb_sR zs 10 (2 : Int32)) zw)) fu_X2 tyX2 tyX2_ok nmX2 0 rfl rfl (Nat.le_of_ble_eq_true rfl) fw_535 rfl rfl rfl rfl rfl (Nat.le_of_ble_eq_true rfl) fb_ms10 dX2_control_46 (fun H locs I => ?_)
    refine lv_goto (tgt := 129) hx hb dX2_control_49 (by decide) ?_
    subst E2
    exact fb_retV (u := (zw)) X I trivial dX2_control_129
  have E3 := (E.trans (if_neg c1))
  by_cases c4 : l1 = (2 : Int32)
  · have E5 := (E3.trans (if_pos c4))
    refine lv_tableIn (tgt := 52) hx hb dX2_control_1 (by rw [c4]; decide) (by rw [c4]; decide) (by rw [c4]; rfl) (by decide) ?_
    refine lv_aload_n hx hb dX2_control_52 rfl (lv_at hl 0 rfl) ?_
    refine lv_iconst (v := (1 : Int32)) hx hb dX2_control_53 (by decide) ?_
    refine fb_put X I (k := 10) (wn := (fb_mw cI zq (fb_sR zs 10 (1 : Int32)) zw)) fu_X2 tyX2 tyX2_ok nmX2 0 rfl rfl (Nat.le_of_ble_eq_true rfl) fw_535 rfl rfl rfl rfl rfl (Nat.le_of_ble_eq_true rfl) fb_ms10 dX2_control_54 (fun H locs I => ?_)
    refine lv_goto (tgt := 129) hx hb dX2_control_57 (by decide) ?_
    subst E5
    exact fb_retV (u := (zw)) X I trivial dX2_control_129
  have E6 := (E3.trans (if_neg c4))
  by_cases c7 : l1 = (3 : Int32)
  · have E8 := (E6.trans (if_pos c7))
    refine lv_tableIn (tgt := 60) hx hb dX2_control_1 (by rw [c7]; decide) (by rw [c7]; decide) (by rw [c7]; rfl) (by decide) ?_
    refine lv_aload_n hx hb dX2_control_60 rfl (lv_at hl 0 rfl) ?_
    refine lv_aload_n hx hb dX2_control_61 rfl (lv_at hl 0 rfl) ?_
    refine fb_goI (wn := fun (w9 : fb_AR) => (fb_mw cI zq ((f_X2_pullAddress zs).2) (w9))) X I (fb_runV (As := []) (rest := [.ref (zq 0)]) (q0 := 0) X I hl (c_X2_pullAddress l D cI cJ zq zs zw _) (fb_goodV fw_1234 fw_1236 fw_48 fw_198 fw_1237) rfl rfl rfl (by decide +kernel : fb_hd yX2_pullAddress 0) ⟨Nat.le_of_ble_eq_true rfl, Nat.le_of_ble_eq_true rfl⟩ [0, 1, 2, 3, 4, 5, 6, 7] (by decide) rfl rfl rfl rfl rfl rfl (Nat.le_of_ble_eq_true rfl) ⟨Nat.zero_le _, Nat.zero_le _⟩ dX2_control_62) [0, 1, 2, 3, 4, 5, 6, 7] [] [0, 1, 2, 3, 4, 5, 6, 7] rfl rfl (by decide) (by decide) (by decide) (fun _ => rfl) ?_
    intro r10 w9 H locs e0 I
    subst e0
    refine fb_put X I (k := 9) (wn := (fb_mw cI zq (fb_sR ((f_X2_pullAddress zs).2) 9 ((f_X2_pullAddress zs).1)) (w9))) fu_X2 tyX2 tyX2_ok nmX2 0 rfl rfl (Nat.le_of_ble_eq_true rfl) fw_533 rfl rfl rfl rfl rfl (Nat.le_of_ble_eq_true rfl) fb_ms9 dX2_control_65 (fun H locs I => ?_)
    refine lv_aload_n hx hb dX2_control_68 rfl (lv_at hl 0 rfl) ?_
    refine fb_goV (wn := fun (w11 : fb_AR) => (fb_mw cI zq ((f_X2_endCall (fb_sR ((f_X2_pullAddress zs).2) 9 ((f_X2_pullAddress zs).1)))) (w11))) X I (fb_runV (As := []) (rest := []) (q0 := 0) X I hl (c_X2_endCall l D cI cJ zq (fb_sR ((f_X2_pullAddress zs).2) 9 ((f_X2_pullAddress zs).1)) (w9) _) (fb_goodV fw_1242 fw_1244 fw_50 fw_198 fw_1245) rfl rfl rfl (by decide +kernel : fb_hd yX2_endCall 0) ⟨Nat.le_of_ble_eq_true rfl, Nat.le_of_ble_eq_true rfl⟩ [0, 1, 2, 3, 4, 5, 6, 7] (by decide) rfl rfl rfl rfl rfl rfl (Nat.le_of_ble_eq_true rfl) ⟨Nat.zero_le _, Nat.zero_le _⟩ dX2_control_69) [0, 1, 2, 3, 4, 5, 6, 7] [] [0, 1, 2, 3, 4, 5, 6, 7] rfl rfl (by decide) (by decide) (by decide) (fun _ => rfl) ?_
    intro w11 H locs _ I
    refine lv_goto (tgt := 129) hx hb dX2_control_72 (by decide) ?_
    subst E8
    exact fb_retV (u := ((w11))) X I trivial dX2_control_129
  have E12 := (E6.trans (if_neg c7))
  by_cases c13 : l1 = (4 : Int32)
  · have E14 := (E12.trans (if_pos c13))
    refine lv_tableIn (tgt := 75) hx hb dX2_control_1 (by rw [c13]; decide) (by rw [c13]; decide) (by rw [c13]; rfl) (by decide) ?_
    refine lv_aload_n hx hb dX2_control_75 rfl (lv_at hl 0 rfl) ?_
    refine lv_aload_n hx hb dX2_control_76 rfl (lv_at hl 0 rfl) ?_
    refine fb_goI (wn := fun (w15 : fb_AR) => (fb_mw cI zq ((f_X2_pull zs).2) (w15))) X I (fb_runV (As := []) (rest := [.ref (zq 0)]) (q0 := 0) X I hl (c_X2_pull l D cI cJ zq zs zw _) (fb_goodV fw_1238 fw_1240 fw_49 fw_198 fw_1241) rfl rfl rfl (by decide +kernel : fb_hd yX2_pull 0) ⟨Nat.le_of_ble_eq_true rfl, Nat.le_of_ble_eq_true rfl⟩ [0, 1, 2, 3, 4, 5, 6, 7] (by decide) rfl rfl rfl rfl rfl rfl (Nat.le_of_ble_eq_true rfl) ⟨Nat.zero_le _, Nat.zero_le _⟩ dX2_control_77) [0, 1, 2, 3, 4, 5, 6, 7] [] [0, 1, 2, 3, 4, 5, 6, 7] rfl rfl (by decide) (by decide) (by decide) (fun _ => rfl) ?_
    intro r16 w15 H locs e0 I
    subst e0
    refine lv_bipush (v := (31 : Int32)) hx hb dX2_control_80 (by decide) ?_
    refine lv_iand hx hb dX2_control_82 ?_
    refine fb_put X I (k := 8) (wn := (fb_mw cI zq (fb_sR ((f_X2_pull zs).2) 8 (((f_X2_pull zs).1) &&& (31 : Int32))) (w15))) fu_X2 tyX2 tyX2_ok nmX2 0 rfl rfl (Nat.le_of_ble_eq_true rfl) fw_530 rfl rfl rfl rfl rfl (Nat.le_of_ble_eq_true rfl) fb_ms8 dX2_control_83 (fun H locs I => ?_)
    refine lv_aload_n hx hb dX2_control_86 rfl (lv_at hl 0 rfl) ?_
    refine lv_aload_n hx hb dX2_control_87 rfl (lv_at hl 0 rfl) ?_
    refine fb_goI (wn := fun (w17 : fb_AR) => (fb_mw cI zq ((f_X2_pullAddress (fb_sR ((f_X2_pull zs).2) 8 (((f_X2_pull zs).1) &&& (31 : Int32)))).2) (w17))) X I (fb_runV (As := []) (rest := [.ref (zq 0)]) (q0 := 0) X I hl (c_X2_pullAddress l D cI cJ zq (fb_sR ((f_X2_pull zs).2) 8 (((f_X2_pull zs).1) &&& (31 : Int32))) (w15) _) (fb_goodV fw_1234 fw_1236 fw_48 fw_198 fw_1237) rfl rfl rfl (by decide +kernel : fb_hd yX2_pullAddress 0) ⟨Nat.le_of_ble_eq_true rfl, Nat.le_of_ble_eq_true rfl⟩ [0, 1, 2, 3, 4, 5, 6, 7] (by decide) rfl rfl rfl rfl rfl rfl (Nat.le_of_ble_eq_true rfl) ⟨Nat.zero_le _, Nat.zero_le _⟩ dX2_control_88) [0, 1, 2, 3, 4, 5, 6, 7] [] [0, 1, 2, 3, 4, 5, 6, 7] rfl rfl (by decide) (by decide) (by decide) (fun _ => rfl) ?_
    intro r18 w17 H locs e0 I
    subst e0
    refine fb_put X I (k := 9) (wn := (fb_mw cI zq (fb_sR ((f_X2_pullAddress (fb_sR ((f_X2_pull zs).2) 8 (((f_X2_pull zs).1) &&& (31 : Int32)))).2) 9 ((f_X2_pullAddress (fb_sR ((f_X2_pull zs).2) 8 (((f_X2_pull zs).1) &&& (31 : Int32)))).1)) (w17))) fu_X2 tyX2 tyX2_ok nmX2 0 rfl rfl (Nat.le_of_ble_eq_true rfl) fw_533 rfl rfl rfl rfl rfl (Nat.le_of_ble_eq_true rfl) fb_ms9 dX2_control_91 (fun H locs I => ?_)
    refine lv_aload_n hx hb dX2_control_94 rfl (lv_at hl 0 rfl) ?_
    refine fb_goV (wn := fun (w19 : fb_AR) => (fb_mw cI zq ((f_X2_endCall (fb_sR ((f_X2_pullAddress (fb_sR ((f_X2_pull zs).2) 8 (((f_X2_pull zs).1) &&& (31 : Int32)))).2) 9 ((f_X2_pullAddress (fb_sR ((f_X2_pull zs).2) 8 (((f_X2_pull zs).1) &&& (31 : Int32)))).1)))) (w19))) X I (fb_runV (As := []) (rest := []) (q0 := 0) X I hl (c_X2_endCall l D cI cJ zq (fb_sR ((f_X2_pullAddress (fb_sR ((f_X2_pull zs).2) 8 (((f_X2_pull zs).1) &&& (31 : Int32)))).2) 9 ((f_X2_pullAddress (fb_sR ((f_X2_pull zs).2) 8 (((f_X2_pull zs).1) &&& (31 : Int32)))).1)) (w17) _) (fb_goodV fw_1242 fw_1244 fw_50 fw_198 fw_1245) rfl rfl rfl (by decide +kernel : fb_hd yX2_endCall 0) ⟨Nat.le_of_ble_eq_true rfl, Nat.le_of_ble_eq_true rfl⟩ [0, 1, 2, 3, 4, 5, 6, 7] (by decide) rfl rfl rfl rfl rfl rfl (Nat.le_of_ble_eq_true rfl) ⟨Nat.zero_le _, Nat.zero_le _⟩ dX2_control_95) [0, 1, 2, 3, 4, 5, 6, 7] [] [0, 1, 2, 3, 4, 5, 6, 7] rfl rfl (by decide) (by decide) (by decide) (fun _ => rfl) ?_
    intro w19 H locs _ I
    refine lv_goto (tgt := 129) hx hb dX2_control_98 (by decide) ?_
    subst E14
    exact fb_retV (u := ((w19))) X I trivial dX2_control_129
  have E20 := (E12.trans (if_neg c13))
  by_cases c21 : l1 = (5 : Int32)
  · have E22 := (E20.trans (if_pos c21))
    refine lv_tableIn (tgt := 101) hx hb dX2_control_1 (by rw [c21]; decide) (by rw [c21]; decide) (by rw [c21]; rfl) (by decide) ?_
    refine lv_aload_n hx hb dX2_control_101 rfl (lv_at hl 0 rfl) ?_
    refine lv_bipush (v := (6 : Int32)) hx hb dX2_control_102 (by decide) ?_
    refine lv_iload_n hx hb dX2_control_104 rfl (lv_at hl 2 rfl) ?_
    refine fb_goV (wn := fun (w23 : fb_AR) => (fb_mw cI zq ((f_X2_enter zs (6 : Int32) l2)) (w23))) X I (fb_runV (As := [.int (6 : Int32), .int l2]) (rest := []) (q0 := 0) X I hl (c_X2_enter l D cI cJ zq zs zw (6 : Int32) l2 _) (fb_goodV fw_1198 fw_1200 fw_42 fw_198 fw_1201) rfl rfl rfl (by decide +kernel : fb_hd yX2_enter 2) ⟨Nat.le_of_ble_eq_true rfl, Nat.le_of_ble_eq_true rfl⟩ [0, 1, 2, 3, 4, 5, 6, 7] (by decide) rfl rfl rfl rfl rfl rfl (Nat.le_of_ble_eq_true rfl) ⟨Nat.zero_le _, Nat.zero_le _⟩ dX2_control_105) [0, 1, 2, 3, 4, 5, 6, 7] [] [0, 1, 2, 3, 4, 5, 6, 7] rfl rfl (by decide) (by decide) (by decide) (fun _ => rfl) ?_
    intro w23 H locs _ I
    refine lv_goto (tgt := 129) hx hb dX2_control_108 (by decide) ?_
    subst E22
    exact fb_retV (u := ((w23))) X I trivial dX2_control_129
  have E24 := (E20.trans (if_neg c21))
  by_cases c25 : l1 = (6 : Int32)
  · have E26 := (E24.trans (if_pos c25))
    refine lv_tableIn (tgt := 111) hx hb dX2_control_1 (by rw [c25]; decide) (by rw [c25]; decide) (by rw [c25]; rfl) (by decide) ?_
    refine lv_aload_n hx hb dX2_control_111 rfl (lv_at hl 0 rfl) ?_
    refine lv_iconst (v := (1 : Int32)) hx hb dX2_control_112 (by decide) ?_
    refine lv_iconst (v := (0 : Int32)) hx hb dX2_control_113 (by decide) ?_
    refine fb_goV (wn := fun (w27 : fb_AR) => (fb_mw cI zq ((f_X2_setFlag zs (1 : Int32) (0 : Int32))) (w27))) X I (fb_runV (As := [.int (1 : Int32), .int (0 : Int32)]) (rest := []) (q0 := 0) X I hl (c_X2_setFlag l D cI cJ zq zs zw (1 : Int32) (0 : Int32) _) (fb_goodV fw_1246 fw_1248 fw_51 fw_198 fw_1249) rfl rfl rfl (by decide +kernel : fb_hd yX2_setFlag 2) ⟨Nat.le_of_ble_eq_true rfl, Nat.le_of_ble_eq_true rfl⟩ [0, 1, 2, 3, 4, 5, 6, 7] (by decide) rfl rfl rfl rfl rfl rfl (Nat.le_of_ble_eq_true rfl) ⟨Nat.zero_le _, Nat.zero_le _⟩ dX2_control_114) [0, 1, 2, 3, 4, 5, 6, 7] [] [0, 1, 2, 3, 4, 5, 6, 7] rfl rfl (by decide) (by decide) (by decide) (fun _ => rfl) ?_
    intro w27 H locs _ I
    refine lv_goto (tgt := 129) hx hb dX2_control_117 (by decide) ?_
    subst E26
    exact fb_retV (u := ((w27))) X I trivial dX2_control_129
  have E28 := (E24.trans (if_neg c25))
  by_cases c29 : l1 = (7 : Int32)
  · have E30 := (E28.trans (if_pos c29))
    refine lv_tableIn (tgt := 120) hx hb dX2_control_1 (by rw [c29]; decide) (by rw [c29]; decide) (by rw [c29]; rfl) (by decide) ?_
    refine lv_aload_n hx hb dX2_control_120 rfl (lv_at hl 0 rfl) ?_
    refine lv_iconst (v := (1 : Int32)) hx hb dX2_control_121 (by decide) ?_
    refine lv_iconst (v := (1 : Int32)) hx hb dX2_control_122 (by decide) ?_
    refine fb_goV (wn := fun (w31 : fb_AR) => (fb_mw cI zq ((f_X2_setFlag zs (1 : Int32) (1 : Int32))) (w31))) X I (fb_runV (As := [.int (1 : Int32), .int (1 : Int32)]) (rest := []) (q0 := 0) X I hl (c_X2_setFlag l D cI cJ zq zs zw (1 : Int32) (1 : Int32) _) (fb_goodV fw_1246 fw_1248 fw_51 fw_198 fw_1249) rfl rfl rfl (by decide +kernel : fb_hd yX2_setFlag 2) ⟨Nat.le_of_ble_eq_true rfl, Nat.le_of_ble_eq_true rfl⟩ [0, 1, 2, 3, 4, 5, 6, 7] (by decide) rfl rfl rfl rfl rfl rfl (Nat.le_of_ble_eq_true rfl) ⟨Nat.zero_le _, Nat.zero_le _⟩ dX2_control_123) [0, 1, 2, 3, 4, 5, 6, 7] [] [0, 1, 2, 3, 4, 5, 6, 7] rfl rfl (by decide) (by decide) (by decide) (fun _ => rfl) ?_
    intro w31 H locs _ I
    refine lv_goto (tgt := 129) hx hb dX2_control_126 (by decide) ?_
    subst E30
    exact fb_retV (u := ((w31))) X I trivial dX2_control_129
  have E32 := (E28.trans (if_neg c29))
  refine lv_tableOut (tgt := 129) hx hb dX2_control_1 (fb_tab_1_7 c1 c4 c7 c13 c21 c25 c29) (by decide) ?_
  subst E32
  exact fb_retV (u := (zw)) X I trivial dX2_control_129
set_option maxHeartbeats 4000000 in
set_option maxRecDepth 100000 in
theorem c_X2_control (l : Launch) (D : va_G) (cI cJ : ClassId) (zq : Nat → Nat) (zs : fb_MS) (zw : fb_AR) (l1 : Int32) (l2 : Int32) (sz : Nat)  : Met l yX2_control (Cond.code yX2_control cX2_control 3 none :: fb_all) ({ frames := 3, cells := 0, slots := 0, locals := 83 } : Room) (fb_PP D (fb_ty D cI cJ) [.ref (zq 0), .int l1, .int l2] ((fb_mw cI zq zs zw)) sz) (fb_QV D (va_A ((fb_mw cI zq zs zw)) sz) (fun (_ : fb_AR) => True) (fun (t : fb_AR) => (fb_mw cI zq (((f_X2_control zs l1 l2))) (t)))) 0 0 (va_A ((fb_mw cI zq zs zw)) sz) := by
  refine fb_ent (Qf := fun A => (fb_QV D A (fun (_ : fb_AR) => True) (fun (t : fb_AR) => (fb_mw cI zq (((f_X2_control zs l1 l2))) (t))))) (by decide +kernel) (Nat.le_of_ble_eq_true rfl) ?_
  intro p e s m args below meth c A ls X I hl hin
  exact b_X2_control_0 X  I hl rfl
/-! X2_transfer -/
def f_X2_transfer (zs : fb_MS) (l1 : Int32) : fb_MS := (if l1 = (0 : Int32) then ((f_X2_setFlag zs (4 : Int32) (0 : Int32))) else (if l1 = (1 : Int32) then ((f_X2_setFlag zs (4 : Int32) (1 : Int32))) else (if l1 = (2 : Int32) then (fb_sR ((f_X2_zn zs ((zs).1 5)).2) 6 ((f_X2_zn zs ((zs).1 5)).1)) else (if l1 = (3 : Int32) then (fb_sR ((f_X2_zn zs ((zs).1 6)).2) 5 ((f_X2_zn zs ((zs).1 6)).1)) else (if l1 = (4 : Int32) then (fb_sR ((f_X2_zn zs ((zs).1 7)).2) 6 ((f_X2_zn zs ((zs).1 7)).1)) else (if l1 = (5 : Int32) then (fb_sR zs 7 ((zs).1 6)) else (if l1 = (6 : Int32) then (fb_sR (fb_sR ((f_X2_zn zs ((zs).1 6)).2) 5 ((f_X2_zn zs ((zs).1 6)).1)) 6 ((zs).1 5)) else ((f_X2_multiply zs)))))))))
set_option maxHeartbeats 4000000 in
set_option maxRecDepth 100000 in
theorem b_X2_transfer_0 {p : Program} {l : Launch} {e : Env} {s : State} {m : MethodId} {args : Array Value} {below : List Frame} {meth : Method} {c : Code} {D : va_G} {cI cJ : ClassId} {A : Nat → Prop} {zq : Nat → Nat} {z : fb_MS} (X : fb_Bx p s m args meth c cX2_transfer RX2 3 none D (fb_ty D cI cJ) A) {zs : fb_MS} {zw : fb_AR} {l1 : Int32} {H : Heap} {locs : List Loc} {ls : Array Slot}  (I : fb_In D A s.heap ((fb_mw cI zq zs zw)) H locs) (hl : lv_has ls 3 [(0, .ref (zq 0)), (1, .int l1)]) (E : z = f_X2_transfer zs l1) : W p l e ({ frames := 2, cells := 0, slots := 0, locals := 43 } : Room) s m args below meth c H locs 0 0 (MQ below (fb_QV D A (fun (_ : fb_AR) => True) (fun (t : fb_AR) => (fb_mw cI zq (z) (t)))) args s 0 0 A) (F0 m 0 ls []) := by
  obtain ⟨hx, hb, hr, hml, hown, hts, hlk, hA, hK, hF⟩ := id X
  refine lv_iload_n hx hb dX2_transfer_0 rfl (lv_at hl 1 rfl) ?_
  by_cases c1 : l1 = (0 : Int32)
  · have E2 := (E.trans (if_pos c1))
    refine lv_tableIn (tgt := 44) hx hb dX2_transfer_1 (by rw [c1]; decide) (by rw [c1]; decide) (by rw [c1]; rfl) (by decide) ?_
    refine lv_aload_n hx hb dX2_transfer_44 rfl (lv_at hl 0 rfl) ?_
    refine lv_iconst (v := (4 : Int32)) hx hb dX2_transfer_45 (by decide) ?_
    refine lv_iconst (v := (0 : Int32)) hx hb dX2_transfer_46 (by decide) ?_
    refine fb_goV (wn := fun (w3 : fb_AR) => (fb_mw cI zq ((f_X2_setFlag zs (4 : Int32) (0 : Int32))) (w3))) X I (fb_runV (As := [.int (4 : Int32), .int (0 : Int32)]) (rest := []) (q0 := 0) X I hl (c_X2_setFlag l D cI cJ zq zs zw (4 : Int32) (0 : Int32) _) (fb_goodV fw_1246 fw_1248 fw_51 fw_198 fw_1249) rfl rfl rfl (by decide +kernel : fb_hd yX2_setFlag 2) ⟨Nat.le_of_ble_eq_true rfl, Nat.le_of_ble_eq_true rfl⟩ [0, 1, 2, 3, 4, 5, 6, 7] (by decide) rfl rfl rfl rfl rfl rfl (Nat.le_of_ble_eq_true rfl) ⟨Nat.zero_le _, Nat.zero_le _⟩ dX2_transfer_47) [0, 1, 2, 3, 4, 5, 6, 7] [] [0, 1, 2, 3, 4, 5, 6, 7] rfl rfl (by decide) (by decide) (by decide) (fun _ => rfl) ?_
    intro w3 H locs _ I
    refine lv_goto (tgt := 147) hx hb dX2_transfer_50 (by decide) ?_
    subst E2
    exact fb_retV (u := ((w3))) X I trivial dX2_transfer_147
  have E4 := (E.trans (if_neg c1))
  by_cases c5 : l1 = (1 : Int32)
  · have E6 := (E4.trans (if_pos c5))
    refine lv_tableIn (tgt := 53) hx hb dX2_transfer_1 (by rw [c5]; decide) (by rw [c5]; decide) (by rw [c5]; rfl) (by decide) ?_
    refine lv_aload_n hx hb dX2_transfer_53 rfl (lv_at hl 0 rfl) ?_
    refine lv_iconst (v := (4 : Int32)) hx hb dX2_transfer_54 (by decide) ?_
    refine lv_iconst (v := (1 : Int32)) hx hb dX2_transfer_55 (by decide) ?_
    refine fb_goV (wn := fun (w7 : fb_AR) => (fb_mw cI zq ((f_X2_setFlag zs (4 : Int32) (1 : Int32))) (w7))) X I (fb_runV (As := [.int (4 : Int32), .int (1 : Int32)]) (rest := []) (q0 := 0) X I hl (c_X2_setFlag l D cI cJ zq zs zw (4 : Int32) (1 : Int32) _) (fb_goodV fw_1246 fw_1248 fw_51 fw_198 fw_1249) rfl rfl rfl (by decide +kernel : fb_hd yX2_setFlag 2) ⟨Nat.le_of_ble_eq_true rfl, Nat.le_of_ble_eq_true rfl⟩ [0, 1, 2, 3, 4, 5, 6, 7] (by decide) rfl rfl rfl rfl rfl rfl (Nat.le_of_ble_eq_true rfl) ⟨Nat.zero_le _, Nat.zero_le _⟩ dX2_transfer_56) [0, 1, 2, 3, 4, 5, 6, 7] [] [0, 1, 2, 3, 4, 5, 6, 7] rfl rfl (by decide) (by decide) (by decide) (fun _ => rfl) ?_
    intro w7 H locs _ I
    refine lv_goto (tgt := 147) hx hb dX2_transfer_59 (by decide) ?_
    subst E6
    exact fb_retV (u := ((w7))) X I trivial dX2_transfer_147
  have E8 := (E4.trans (if_neg c5))
  by_cases c9 : l1 = (2 : Int32)
  · have E10 := (E8.trans (if_pos c9))
    refine lv_tableIn (tgt := 62) hx hb dX2_transfer_1 (by rw [c9]; decide) (by rw [c9]; decide) (by rw [c9]; rfl) (by decide) ?_
    refine lv_aload_n hx hb dX2_transfer_62 rfl (lv_at hl 0 rfl) ?_
    refine lv_aload_n hx hb dX2_transfer_63 rfl (lv_at hl 0 rfl) ?_
    refine lv_aload_n hx hb dX2_transfer_64 rfl (lv_at hl 0 rfl) ?_
    refine fb_get X I (k := 5) fu_X2 0 rfl rfl (Nat.le_of_ble_eq_true rfl) fw_524 rfl rfl dX2_transfer_65 ?_
    refine fb_goI (wn := fun (w11 : fb_AR) => (fb_mw cI zq ((f_X2_zn zs ((zs).1 5)).2) (w11))) X I (fb_runV (As := [.int ((zs).1 5)]) (rest := [.ref (zq 0)]) (q0 := 0) X I hl (c_X2_zn l D cI cJ zq zs zw ((zs).1 5) _) (fb_goodV fw_1254 fw_1256 fw_53 fw_198 fw_1257) rfl rfl rfl (by decide +kernel : fb_hd yX2_zn 1) ⟨Nat.le_of_ble_eq_true rfl, Nat.le_of_ble_eq_true rfl⟩ [0, 1, 2, 3, 4, 5, 6, 7] (by decide) rfl rfl rfl rfl rfl rfl (Nat.le_of_ble_eq_true rfl) ⟨Nat.zero_le _, Nat.zero_le _⟩ dX2_transfer_68) [0, 1, 2, 3, 4, 5, 6, 7] [] [0, 1, 2, 3, 4, 5, 6, 7] rfl rfl (by decide) (by decide) (by decide) (fun _ => rfl) ?_
    intro r12 w11 H locs e0 I
    subst e0
    refine fb_put X I (k := 6) (wn := (fb_mw cI zq (fb_sR ((f_X2_zn zs ((zs).1 5)).2) 6 ((f_X2_zn zs ((zs).1 5)).1)) (w11))) fu_X2 tyX2 tyX2_ok nmX2 0 rfl rfl (Nat.le_of_ble_eq_true rfl) fw_526 rfl rfl rfl rfl rfl (Nat.le_of_ble_eq_true rfl) fb_ms6 dX2_transfer_71 (fun H locs I => ?_)
    refine lv_goto (tgt := 147) hx hb dX2_transfer_74 (by decide) ?_
    subst E10
    exact fb_retV (u := ((w11))) X I trivial dX2_transfer_147
  have E13 := (E8.trans (if_neg c9))
  by_cases c14 : l1 = (3 : Int32)
  · have E15 := (E13.trans (if_pos c14))
    refine lv_tableIn (tgt := 77) hx hb dX2_transfer_1 (by rw [c14]; decide) (by rw [c14]; decide) (by rw [c14]; rfl) (by decide) ?_
    refine lv_aload_n hx hb dX2_transfer_77 rfl (lv_at hl 0 rfl) ?_
    refine lv_aload_n hx hb dX2_transfer_78 rfl (lv_at hl 0 rfl) ?_
    refine lv_aload_n hx hb dX2_transfer_79 rfl (lv_at hl 0 rfl) ?_
    refine fb_get X I (k := 6) fu_X2 0 rfl rfl (Nat.le_of_ble_eq_true rfl) fw_526 rfl rfl dX2_transfer_80 ?_
    refine fb_goI (wn := fun (w16 : fb_AR) => (fb_mw cI zq ((f_X2_zn zs ((zs).1 6)).2) (w16))) X I (fb_runV (As := [.int ((zs).1 6)]) (rest := [.ref (zq 0)]) (q0 := 0) X I hl (c_X2_zn l D cI cJ zq zs zw ((zs).1 6) _) (fb_goodV fw_1254 fw_1256 fw_53 fw_198 fw_1257) rfl rfl rfl (by decide +kernel : fb_hd yX2_zn 1) ⟨Nat.le_of_ble_eq_true rfl, Nat.le_of_ble_eq_true rfl⟩ [0, 1, 2, 3, 4, 5, 6, 7] (by decide) rfl rfl rfl rfl rfl rfl (Nat.le_of_ble_eq_true rfl) ⟨Nat.zero_le _, Nat.zero_le _⟩ dX2_transfer_83) [0, 1, 2, 3, 4, 5, 6, 7] [] [0, 1, 2, 3, 4, 5, 6, 7] rfl rfl (by decide) (by decide) (by decide) (fun _ => rfl) ?_
    intro r17 w16 H locs e0 I
    subst e0
    refine fb_put X I (k := 5) (wn := (fb_mw cI zq (fb_sR ((f_X2_zn zs ((zs).1 6)).2) 5 ((f_X2_zn zs ((zs).1 6)).1)) (w16))) fu_X2 tyX2 tyX2_ok nmX2 0 rfl rfl (Nat.le_of_ble_eq_true rfl) fw_524 rfl rfl rfl rfl rfl (Nat.le_of_ble_eq_true rfl) fb_ms5 dX2_transfer_86 (fun H locs I => ?_)
    refine lv_goto (tgt := 147) hx hb dX2_transfer_89 (by decide) ?_
    subst E15
    exact fb_retV (u := ((w16))) X I trivial dX2_transfer_147
  have E18 := (E13.trans (if_neg c14))
  by_cases c19 : l1 = (4 : Int32)
  · have E20 := (E18.trans (if_pos c19))
    refine lv_tableIn (tgt := 92) hx hb dX2_transfer_1 (by rw [c19]; decide) (by rw [c19]; decide) (by rw [c19]; rfl) (by decide) ?_
    refine lv_aload_n hx hb dX2_transfer_92 rfl (lv_at hl 0 rfl) ?_
    refine lv_aload_n hx hb dX2_transfer_93 rfl (lv_at hl 0 rfl) ?_
    refine lv_aload_n hx hb dX2_transfer_94 rfl (lv_at hl 0 rfl) ?_
    refine fb_get X I (k := 7) fu_X2 0 rfl rfl (Nat.le_of_ble_eq_true rfl) fw_528 rfl rfl dX2_transfer_95 ?_
    refine fb_goI (wn := fun (w21 : fb_AR) => (fb_mw cI zq ((f_X2_zn zs ((zs).1 7)).2) (w21))) X I (fb_runV (As := [.int ((zs).1 7)]) (rest := [.ref (zq 0)]) (q0 := 0) X I hl (c_X2_zn l D cI cJ zq zs zw ((zs).1 7) _) (fb_goodV fw_1254 fw_1256 fw_53 fw_198 fw_1257) rfl rfl rfl (by decide +kernel : fb_hd yX2_zn 1) ⟨Nat.le_of_ble_eq_true rfl, Nat.le_of_ble_eq_true rfl⟩ [0, 1, 2, 3, 4, 5, 6, 7] (by decide) rfl rfl rfl rfl rfl rfl (Nat.le_of_ble_eq_true rfl) ⟨Nat.zero_le _, Nat.zero_le _⟩ dX2_transfer_98) [0, 1, 2, 3, 4, 5, 6, 7] [] [0, 1, 2, 3, 4, 5, 6, 7] rfl rfl (by decide) (by decide) (by decide) (fun _ => rfl) ?_
    intro r22 w21 H locs e0 I
    subst e0
    refine fb_put X I (k := 6) (wn := (fb_mw cI zq (fb_sR ((f_X2_zn zs ((zs).1 7)).2) 6 ((f_X2_zn zs ((zs).1 7)).1)) (w21))) fu_X2 tyX2 tyX2_ok nmX2 0 rfl rfl (Nat.le_of_ble_eq_true rfl) fw_526 rfl rfl rfl rfl rfl (Nat.le_of_ble_eq_true rfl) fb_ms6 dX2_transfer_101 (fun H locs I => ?_)
    refine lv_goto (tgt := 147) hx hb dX2_transfer_104 (by decide) ?_
    subst E20
    exact fb_retV (u := ((w21))) X I trivial dX2_transfer_147
  have E23 := (E18.trans (if_neg c19))
  by_cases c24 : l1 = (5 : Int32)
  · have E25 := (E23.trans (if_pos c24))
    refine lv_tableIn (tgt := 107) hx hb dX2_transfer_1 (by rw [c24]; decide) (by rw [c24]; decide) (by rw [c24]; rfl) (by decide) ?_
    refine lv_aload_n hx hb dX2_transfer_107 rfl (lv_at hl 0 rfl) ?_
    refine lv_aload_n hx hb dX2_transfer_108 rfl (lv_at hl 0 rfl) ?_
    refine fb_get X I (k := 6) fu_X2 0 rfl rfl (Nat.le_of_ble_eq_true rfl) fw_526 rfl rfl dX2_transfer_109 ?_
    refine fb_put X I (k := 7) (wn := (fb_mw cI zq (fb_sR zs 7 ((zs).1 6)) zw)) fu_X2 tyX2 tyX2_ok nmX2 0 rfl rfl (Nat.le_of_ble_eq_true rfl) fw_528 rfl rfl rfl rfl rfl (Nat.le_of_ble_eq_true rfl) fb_ms7 dX2_transfer_112 (fun H locs I => ?_)
    refine lv_goto (tgt := 147) hx hb dX2_transfer_115 (by decide) ?_
    subst E25
    exact fb_retV (u := (zw)) X I trivial dX2_transfer_147
  have E26 := (E23.trans (if_neg c24))
  by_cases c27 : l1 = (6 : Int32)
  · have E28 := (E26.trans (if_pos c27))
    refine lv_tableIn (tgt := 118) hx hb dX2_transfer_1 (by rw [c27]; decide) (by rw [c27]; decide) (by rw [c27]; rfl) (by decide) ?_
    refine lv_aload_n hx hb dX2_transfer_118 rfl (lv_at hl 0 rfl) ?_
    refine fb_get X I (k := 5) fu_X2 0 rfl rfl (Nat.le_of_ble_eq_true rfl) fw_524 rfl rfl dX2_transfer_119 ?_
    refine lv_istore_n (lv' := [(2, .int ((zs).1 5)), (0, .ref (zq 0)), (1, .int l1)]) hx hb dX2_transfer_122 rfl hl (by decide) rfl (fun ls hl => ?_)
    refine lv_aload_n hx hb dX2_transfer_123 rfl (lv_at hl 1 rfl) ?_
    refine lv_aload_n hx hb dX2_transfer_124 rfl (lv_at hl 1 rfl) ?_
    refine lv_aload_n hx hb dX2_transfer_125 rfl (lv_at hl 1 rfl) ?_
    refine fb_get X I (k := 6) fu_X2 0 rfl rfl (Nat.le_of_ble_eq_true rfl) fw_526 rfl rfl dX2_transfer_126 ?_
    refine fb_goI (wn := fun (w29 : fb_AR) => (fb_mw cI zq ((f_X2_zn zs ((zs).1 6)).2) (w29))) X I (fb_runV (As := [.int ((zs).1 6)]) (rest := [.ref (zq 0)]) (q0 := 0) X I hl (c_X2_zn l D cI cJ zq zs zw ((zs).1 6) _) (fb_goodV fw_1254 fw_1256 fw_53 fw_198 fw_1257) rfl rfl rfl (by decide +kernel : fb_hd yX2_zn 1) ⟨Nat.le_of_ble_eq_true rfl, Nat.le_of_ble_eq_true rfl⟩ [0, 1, 2, 3, 4, 5, 6, 7] (by decide) rfl rfl rfl rfl rfl rfl (Nat.le_of_ble_eq_true rfl) ⟨Nat.zero_le _, Nat.zero_le _⟩ dX2_transfer_129) [0, 1, 2, 3, 4, 5, 6, 7] [] [0, 1, 2, 3, 4, 5, 6, 7] rfl rfl (by decide) (by decide) (by decide) (fun _ => rfl) ?_
    intro r30 w29 H locs e0 I
    subst e0
    refine fb_put X I (k := 5) (wn := (fb_mw cI zq (fb_sR ((f_X2_zn zs ((zs).1 6)).2) 5 ((f_X2_zn zs ((zs).1 6)).1)) (w29))) fu_X2 tyX2 tyX2_ok nmX2 0 rfl rfl (Nat.le_of_ble_eq_true rfl) fw_524 rfl rfl rfl rfl rfl (Nat.le_of_ble_eq_true rfl) fb_ms5 dX2_transfer_132 (fun H locs I => ?_)
    refine lv_aload_n hx hb dX2_transfer_135 rfl (lv_at hl 1 rfl) ?_
    refine lv_iload_n hx hb dX2_transfer_136 rfl (lv_at hl 0 rfl) ?_
    refine fb_put X I (k := 6) (wn := (fb_mw cI zq (fb_sR (fb_sR ((f_X2_zn zs ((zs).1 6)).2) 5 ((f_X2_zn zs ((zs).1 6)).1)) 6 ((zs).1 5)) (w29))) fu_X2 tyX2 tyX2_ok nmX2 0 rfl rfl (Nat.le_of_ble_eq_true rfl) fw_526 rfl rfl rfl rfl rfl (Nat.le_of_ble_eq_true rfl) fb_ms6 dX2_transfer_137 (fun H locs I => ?_)
    refine lv_goto (tgt := 147) hx hb dX2_transfer_140 (by decide) ?_
    subst E28
    exact fb_retV (u := ((w29))) X I trivial dX2_transfer_147
  have E31 := (E26.trans (if_neg c27))
  refine lv_tableOut (tgt := 143) hx hb dX2_transfer_1 (fb_tab_0_7 c1 c5 c9 c14 c19 c24 c27) (by decide) ?_
  refine lv_aload_n hx hb dX2_transfer_143 rfl (lv_at hl 0 rfl) ?_
  refine fb_goV (wn := fun (w32 : fb_AR) => (fb_mw cI zq ((f_X2_multiply zs)) (w32))) X I (fb_runV (As := []) (rest := []) (q0 := 0) X I hl (c_X2_multiply l D cI cJ zq zs zw _) (fb_goodV fw_1258 fw_1260 fw_54 fw_198 fw_1261) rfl rfl rfl (by decide +kernel : fb_hd yX2_multiply 0) ⟨Nat.le_of_ble_eq_true rfl, Nat.le_of_ble_eq_true rfl⟩ [0, 1, 2, 3, 4, 5, 6, 7] (by decide) rfl rfl rfl rfl rfl rfl (Nat.le_of_ble_eq_true rfl) ⟨Nat.zero_le _, Nat.zero_le _⟩ dX2_transfer_144) [0, 1, 2, 3, 4, 5, 6, 7] [] [0, 1, 2, 3, 4, 5, 6, 7] rfl rfl (by decide) (by decide) (by decide) (fun _ => rfl) ?_
  intro w32 H locs _ I
  subst E31
  exact fb_retV (u := ((w32))) X I trivial dX2_transfer_147
set_option maxHeartbeats 4000000 in
set_option maxRecDepth 100000 in
theorem c_X2_transfer (l : Launch) (D : va_G) (cI cJ : ClassId) (zq : Nat → Nat) (zs : fb_MS) (zw : fb_AR) (l1 : Int32) (sz : Nat)  : Met l yX2_transfer (Cond.code yX2_transfer cX2_transfer 3 none :: fb_all) ({ frames := 2, cells := 0, slots := 0, locals := 43 } : Room) (fb_PP D (fb_ty D cI cJ) [.ref (zq 0), .int l1] ((fb_mw cI zq zs zw)) sz) (fb_QV D (va_A ((fb_mw cI zq zs zw)) sz) (fun (_ : fb_AR) => True) (fun (t : fb_AR) => (fb_mw cI zq (((f_X2_transfer zs l1))) (t)))) 0 0 (va_A ((fb_mw cI zq zs zw)) sz) := by
  refine fb_ent (Qf := fun A => (fb_QV D A (fun (_ : fb_AR) => True) (fun (t : fb_AR) => (fb_mw cI zq (((f_X2_transfer zs l1))) (t))))) (by decide +kernel) (Nat.le_of_ble_eq_true rfl) ?_
  intro p e s m args below meth c A ls X I hl hin
  exact b_X2_transfer_0 X  I hl rfl
/-! X2_stack -/
def f_X2_stack (zs : fb_MS) (l1 : Int32) : fb_MS := (if l1 = (0 : Int32) then ((f_X2_push zs ((zs).1 5))) else (if l1 = (1 : Int32) then (fb_sR ((f_X2_zn ((f_X2_pull zs).2) ((f_X2_pull zs).1)).2) 5 ((f_X2_zn ((f_X2_pull zs).2) ((f_X2_pull zs).1)).1)) else (if l1 = (2 : Int32) then ((f_X2_push zs ((zs).1 6))) else (if l1 = (3 : Int32) then (fb_sR ((f_X2_zn ((f_X2_pull zs).2) ((f_X2_pull zs).1)).2) 6 ((f_X2_zn ((f_X2_pull zs).2) ((f_X2_pull zs).1)).1)) else (if l1 = (4 : Int32) then ((f_X2_push zs ((zs).1 8))) else (if l1 = (5 : Int32) then (fb_sR ((f_X2_pull zs).2) 8 (((f_X2_pull zs).1) &&& (31 : Int32))) else (if l1 = (6 : Int32) then (fb_sR ((f_X2_zn zs ((((zs).1 6) + (1 : Int32)) &&& (255 : Int32))).2) 6 ((f_X2_zn zs ((((zs).1 6) + (1 : Int32)) &&& (255 : Int32))).1)) else (fb_sR ((f_X2_zn zs ((((zs).1 6) - (1 : Int32)) &&& (255 : Int32))).2) 6 ((f_X2_zn zs ((((zs).1 6) - (1 : Int32)) &&& (255 : Int32))).1)))))))))
set_option maxHeartbeats 4000000 in
set_option maxRecDepth 100000 in
theorem b_X2_stack_0 {p : Program} {l : Launch} {e : Env} {s : State} {m : MethodId} {args : Array Value} {below : List Frame} {meth : Method} {c : Code} {D : va_G} {cI cJ : ClassId} {A : Nat → Prop} {zq : Nat → Nat} {z : fb_MS} (X : fb_Bx p s m args meth c cX2_stack RX2 2 none D (fb_ty D cI cJ) A) {zs : fb_MS} {zw : fb_AR} {l1 : Int32} {H : Heap} {locs : List Loc} {ls : Array Slot}  (I : fb_In D A s.heap ((fb_mw cI zq zs zw)) H locs) (hl : lv_has ls 2 [(0, .ref (zq 0)), (1, .int l1)]) (E : z = f_X2_stack zs l1) : W p l e ({ frames := 2, cells := 0, slots := 0, locals := 43 } : Room) s m args below meth c H locs 0 0 (MQ below (fb_QV D A (fun (_ : fb_AR) => True) (fun (t : fb_AR) => (fb_mw cI zq (z) (t)))) args s 0 0 A) (F0 m 0 ls []) := by
  obtain ⟨hx, hb, hr, hml, hown, hts, hlk, hA, hK, hF⟩ := id X
  refine lv_iload_n hx hb dX2_stack_0 rfl (lv_at hl 1 rfl) ?_
  by_cases c1 : l1 = (0 : Int32)
  · have E2 := (E.trans (if_pos c1))
    refine lv_tableIn (tgt := 44) hx hb dX2_stack_1 (by rw [c1]; decide) (by rw [c1]; decide) (by rw [c1]; rfl) (by decide) ?_
    refine lv_aload_n hx hb dX2_stack_44 rfl (lv_at hl 0 rfl) ?_
    refine lv_aload_n hx hb dX2_stack_45 rfl (lv_at hl 0 rfl) ?_
    refine fb_get X I (k := 5) fu_X2 0 rfl rfl (Nat.le_of_ble_eq_true rfl) fw_524 rfl rfl dX2_stack_46 ?_
    refine fb_goV (wn := fun (w3 : fb_AR) => (fb_mw cI zq ((f_X2_push zs ((zs).1 5))) (w3))) X I (fb_runV (As := [.int ((zs).1 5)]) (rest := []) (q0 := 0) X I hl (c_X2_push l D cI cJ zq zs zw ((zs).1 5) _) (fb_goodV fw_1207 fw_1209 fw_44 fw_198 fw_1210) rfl rfl rfl (by decide +kernel : fb_hd yX2_push 1) ⟨Nat.le_of_ble_eq_true rfl, Nat.le_of_ble_eq_true rfl⟩ [0, 1, 2, 3, 4, 5, 6, 7] (by decide) rfl rfl rfl rfl rfl rfl (Nat.le_of_ble_eq_true rfl) ⟨Nat.zero_le _, Nat.zero_le _⟩ dX2_stack_49) [0, 1, 2, 3, 4, 5, 6, 7] [] [0, 1, 2, 3, 4, 5, 6, 7] rfl rfl (by decide) (by decide) (by decide) (fun _ => rfl) ?_
    intro w3 H locs _ I
    refine lv_goto (tgt := 160) hx hb dX2_stack_52 (by decide) ?_
    subst E2
    exact fb_retV (u := ((w3))) X I trivial dX2_stack_160
  have E4 := (E.trans (if_neg c1))
  by_cases c5 : l1 = (1 : Int32)
  · have E6 := (E4.trans (if_pos c5))
    refine lv_tableIn (tgt := 55) hx hb dX2_stack_1 (by rw [c5]; decide) (by rw [c5]; decide) (by rw [c5]; rfl) (by decide) ?_
    refine lv_aload_n hx hb dX2_stack_55 rfl (lv_at hl 0 rfl) ?_
    refine lv_aload_n hx hb dX2_stack_56 rfl (lv_at hl 0 rfl) ?_
    refine lv_aload_n hx hb dX2_stack_57 rfl (lv_at hl 0 rfl) ?_
    refine fb_goI (wn := fun (w7 : fb_AR) => (fb_mw cI zq ((f_X2_pull zs).2) (w7))) X I (fb_runV (As := []) (rest := [.ref (zq 0), .ref (zq 0)]) (q0 := 0) X I hl (c_X2_pull l D cI cJ zq zs zw _) (fb_goodV fw_1238 fw_1240 fw_49 fw_198 fw_1241) rfl rfl rfl (by decide +kernel : fb_hd yX2_pull 0) ⟨Nat.le_of_ble_eq_true rfl, Nat.le_of_ble_eq_true rfl⟩ [0, 1, 2, 3, 4, 5, 6, 7] (by decide) rfl rfl rfl rfl rfl rfl (Nat.le_of_ble_eq_true rfl) ⟨Nat.zero_le _, Nat.zero_le _⟩ dX2_stack_58) [0, 1, 2, 3, 4, 5, 6, 7] [] [0, 1, 2, 3, 4, 5, 6, 7] rfl rfl (by decide) (by decide) (by decide) (fun _ => rfl) ?_
    intro r8 w7 H locs e0 I
    subst e0
    refine fb_goI (wn := fun (w9 : fb_AR) => (fb_mw cI zq ((f_X2_zn ((f_X2_pull zs).2) ((f_X2_pull zs).1)).2) (w9))) X I (fb_runV (As := [.int ((f_X2_pull zs).1)]) (rest := [.ref (zq 0)]) (q0 := 0) X I hl (c_X2_zn l D cI cJ zq ((f_X2_pull zs).2) (w7) ((f_X2_pull zs).1) _) (fb_goodV fw_1254 fw_1256 fw_53 fw_198 fw_1257) rfl rfl rfl (by decide +kernel : fb_hd yX2_zn 1) ⟨Nat.le_of_ble_eq_true rfl, Nat.le_of_ble_eq_true rfl⟩ [0, 1, 2, 3, 4, 5, 6, 7] (by decide) rfl rfl rfl rfl rfl rfl (Nat.le_of_ble_eq_true rfl) ⟨Nat.zero_le _, Nat.zero_le _⟩ dX2_stack_61) [0, 1, 2, 3, 4, 5, 6, 7] [] [0, 1, 2, 3, 4, 5, 6, 7] rfl rfl (by decide) (by decide) (by decide) (fun _ => rfl) ?_
    intro r10 w9 H locs e0 I
    subst e0
    refine fb_put X I (k := 5) (wn := (fb_mw cI zq (fb_sR ((f_X2_zn ((f_X2_pull zs).2) ((f_X2_pull zs).1)).2) 5 ((f_X2_zn ((f_X2_pull zs).2) ((f_X2_pull zs).1)).1)) (w9))) fu_X2 tyX2 tyX2_ok nmX2 0 rfl rfl (Nat.le_of_ble_eq_true rfl) fw_524 rfl rfl rfl rfl rfl (Nat.le_of_ble_eq_true rfl) fb_ms5 dX2_stack_64 (fun H locs I => ?_)
    refine lv_goto (tgt := 160) hx hb dX2_stack_67 (by decide) ?_
    subst E6
    exact fb_retV (u := ((w9))) X I trivial dX2_stack_160
  have E11 := (E4.trans (if_neg c5))
  by_cases c12 : l1 = (2 : Int32)
  · have E13 := (E11.trans (if_pos c12))
    refine lv_tableIn (tgt := 70) hx hb dX2_stack_1 (by rw [c12]; decide) (by rw [c12]; decide) (by rw [c12]; rfl) (by decide) ?_
    refine lv_aload_n hx hb dX2_stack_70 rfl (lv_at hl 0 rfl) ?_
    refine lv_aload_n hx hb dX2_stack_71 rfl (lv_at hl 0 rfl) ?_
    refine fb_get X I (k := 6) fu_X2 0 rfl rfl (Nat.le_of_ble_eq_true rfl) fw_526 rfl rfl dX2_stack_72 ?_
    refine fb_goV (wn := fun (w14 : fb_AR) => (fb_mw cI zq ((f_X2_push zs ((zs).1 6))) (w14))) X I (fb_runV (As := [.int ((zs).1 6)]) (rest := []) (q0 := 0) X I hl (c_X2_push l D cI cJ zq zs zw ((zs).1 6) _) (fb_goodV fw_1207 fw_1209 fw_44 fw_198 fw_1210) rfl rfl rfl (by decide +kernel : fb_hd yX2_push 1) ⟨Nat.le_of_ble_eq_true rfl, Nat.le_of_ble_eq_true rfl⟩ [0, 1, 2, 3, 4, 5, 6, 7] (by decide) rfl rfl rfl rfl rfl rfl (Nat.le_of_ble_eq_true rfl) ⟨Nat.zero_le _, Nat.zero_le _⟩ dX2_stack_75) [0, 1, 2, 3, 4, 5, 6, 7] [] [0, 1, 2, 3, 4, 5, 6, 7] rfl rfl (by decide) (by decide) (by decide) (fun _ => rfl) ?_
    intro w14 H locs _ I
    refine lv_goto (tgt := 160) hx hb dX2_stack_78 (by decide) ?_
    subst E13
    exact fb_retV (u := ((w14))) X I trivial dX2_stack_160
  have E15 := (E11.trans (if_neg c12))
  by_cases c16 : l1 = (3 : Int32)
  · have E17 := (E15.trans (if_pos c16))
    refine lv_tableIn (tgt := 81) hx hb dX2_stack_1 (by rw [c16]; decide) (by rw [c16]; decide) (by rw [c16]; rfl) (by decide) ?_
    refine lv_aload_n hx hb dX2_stack_81 rfl (lv_at hl 0 rfl) ?_
    refine lv_aload_n hx hb dX2_stack_82 rfl (lv_at hl 0 rfl) ?_
    refine lv_aload_n hx hb dX2_stack_83 rfl (lv_at hl 0 rfl) ?_
    refine fb_goI (wn := fun (w18 : fb_AR) => (fb_mw cI zq ((f_X2_pull zs).2) (w18))) X I (fb_runV (As := []) (rest := [.ref (zq 0), .ref (zq 0)]) (q0 := 0) X I hl (c_X2_pull l D cI cJ zq zs zw _) (fb_goodV fw_1238 fw_1240 fw_49 fw_198 fw_1241) rfl rfl rfl (by decide +kernel : fb_hd yX2_pull 0) ⟨Nat.le_of_ble_eq_true rfl, Nat.le_of_ble_eq_true rfl⟩ [0, 1, 2, 3, 4, 5, 6, 7] (by decide) rfl rfl rfl rfl rfl rfl (Nat.le_of_ble_eq_true rfl) ⟨Nat.zero_le _, Nat.zero_le _⟩ dX2_stack_84) [0, 1, 2, 3, 4, 5, 6, 7] [] [0, 1, 2, 3, 4, 5, 6, 7] rfl rfl (by decide) (by decide) (by decide) (fun _ => rfl) ?_
    intro r19 w18 H locs e0 I
    subst e0
    refine fb_goI (wn := fun (w20 : fb_AR) => (fb_mw cI zq ((f_X2_zn ((f_X2_pull zs).2) ((f_X2_pull zs).1)).2) (w20))) X I (fb_runV (As := [.int ((f_X2_pull zs).1)]) (rest := [.ref (zq 0)]) (q0 := 0) X I hl (c_X2_zn l D cI cJ zq ((f_X2_pull zs).2) (w18) ((f_X2_pull zs).1) _) (fb_goodV fw_1254 fw_1256 fw_53 fw_198 fw_1257) rfl rfl rfl (by decide +kernel : fb_hd yX2_zn 1) ⟨Nat.le_of_ble_eq_true rfl, Nat.le_of_ble_eq_true rfl⟩ [0, 1, 2, 3, 4, 5, 6, 7] (by decide) rfl rfl rfl rfl rfl rfl (Nat.le_of_ble_eq_true rfl) ⟨Nat.zero_le _, Nat.zero_le _⟩ dX2_stack_87) [0, 1, 2, 3, 4, 5, 6, 7] [] [0, 1, 2, 3, 4, 5, 6, 7] rfl rfl (by decide) (by decide) (by decide) (fun _ => rfl) ?_
    intro r21 w20 H locs e0 I
    subst e0
    refine fb_put X I (k := 6) (wn := (fb_mw cI zq (fb_sR ((f_X2_zn ((f_X2_pull zs).2) ((f_X2_pull zs).1)).2) 6 ((f_X2_zn ((f_X2_pull zs).2) ((f_X2_pull zs).1)).1)) (w20))) fu_X2 tyX2 tyX2_ok nmX2 0 rfl rfl (Nat.le_of_ble_eq_true rfl) fw_526 rfl rfl rfl rfl rfl (Nat.le_of_ble_eq_true rfl) fb_ms6 dX2_stack_90 (fun H locs I => ?_)
    refine lv_goto (tgt := 160) hx hb dX2_stack_93 (by decide) ?_
    subst E17
    exact fb_retV (u := ((w20))) X I trivial dX2_stack_160
  have E22 := (E15.trans (if_neg c16))
  by_cases c23 : l1 = (4 : Int32)
  · have E24 := (E22.trans (if_pos c23))
    refine lv_tableIn (tgt := 96) hx hb dX2_stack_1 (by rw [c23]; decide) (by rw [c23]; decide) (by rw [c23]; rfl) (by decide) ?_
    refine lv_aload_n hx hb dX2_stack_96 rfl (lv_at hl 0 rfl) ?_
    refine lv_aload_n hx hb dX2_stack_97 rfl (lv_at hl 0 rfl) ?_
    refine fb_get X I (k := 8) fu_X2 0 rfl rfl (Nat.le_of_ble_eq_true rfl) fw_530 rfl rfl dX2_stack_98 ?_
    refine fb_goV (wn := fun (w25 : fb_AR) => (fb_mw cI zq ((f_X2_push zs ((zs).1 8))) (w25))) X I (fb_runV (As := [.int ((zs).1 8)]) (rest := []) (q0 := 0) X I hl (c_X2_push l D cI cJ zq zs zw ((zs).1 8) _) (fb_goodV fw_1207 fw_1209 fw_44 fw_198 fw_1210) rfl rfl rfl (by decide +kernel : fb_hd yX2_push 1) ⟨Nat.le_of_ble_eq_true rfl, Nat.le_of_ble_eq_true rfl⟩ [0, 1, 2, 3, 4, 5, 6, 7] (by decide) rfl rfl rfl rfl rfl rfl (Nat.le_of_ble_eq_true rfl) ⟨Nat.zero_le _, Nat.zero_le _⟩ dX2_stack_101) [0, 1, 2, 3, 4, 5, 6, 7] [] [0, 1, 2, 3, 4, 5, 6, 7] rfl rfl (by decide) (by decide) (by decide) (fun _ => rfl) ?_
    intro w25 H locs _ I
    refine lv_goto (tgt := 160) hx hb dX2_stack_104 (by decide) ?_
    subst E24
    exact fb_retV (u := ((w25))) X I trivial dX2_stack_160
  have E26 := (E22.trans (if_neg c23))
  by_cases c27 : l1 = (5 : Int32)
  · have E28 := (E26.trans (if_pos c27))
    refine lv_tableIn (tgt := 107) hx hb dX2_stack_1 (by rw [c27]; decide) (by rw [c27]; decide) (by rw [c27]; rfl) (by decide) ?_
    refine lv_aload_n hx hb dX2_stack_107 rfl (lv_at hl 0 rfl) ?_
    refine lv_aload_n hx hb dX2_stack_108 rfl (lv_at hl 0 rfl) ?_
    refine fb_goI (wn := fun (w29 : fb_AR) => (fb_mw cI zq ((f_X2_pull zs).2) (w29))) X I (fb_runV (As := []) (rest := [.ref (zq 0)]) (q0 := 0) X I hl (c_X2_pull l D cI cJ zq zs zw _) (fb_goodV fw_1238 fw_1240 fw_49 fw_198 fw_1241) rfl rfl rfl (by decide +kernel : fb_hd yX2_pull 0) ⟨Nat.le_of_ble_eq_true rfl, Nat.le_of_ble_eq_true rfl⟩ [0, 1, 2, 3, 4, 5, 6, 7] (by decide) rfl rfl rfl rfl rfl rfl (Nat.le_of_ble_eq_true rfl) ⟨Nat.zero_le _, Nat.zero_le _⟩ dX2_stack_109) [0, 1, 2, 3, 4, 5, 6, 7] [] [0, 1, 2, 3, 4, 5, 6, 7] rfl rfl (by decide) (by decide) (by decide) (fun _ => rfl) ?_
    intro r30 w29 H locs e0 I
    subst e0
    refine lv_bipush (v := (31 : Int32)) hx hb dX2_stack_112 (by decide) ?_
    refine lv_iand hx hb dX2_stack_114 ?_
    refine fb_put X I (k := 8) (wn := (fb_mw cI zq (fb_sR ((f_X2_pull zs).2) 8 (((f_X2_pull zs).1) &&& (31 : Int32))) (w29))) fu_X2 tyX2 tyX2_ok nmX2 0 rfl rfl (Nat.le_of_ble_eq_true rfl) fw_530 rfl rfl rfl rfl rfl (Nat.le_of_ble_eq_true rfl) fb_ms8 dX2_stack_115 (fun H locs I => ?_)
    refine lv_goto (tgt := 160) hx hb dX2_stack_118 (by decide) ?_
    subst E28
    exact fb_retV (u := ((w29))) X I trivial dX2_stack_160
  have E31 := (E26.trans (if_neg c27))
  by_cases c32 : l1 = (6 : Int32)
  · have E33 := (E31.trans (if_pos c32))
    refine lv_tableIn (tgt := 121) hx hb dX2_stack_1 (by rw [c32]; decide) (by rw [c32]; decide) (by rw [c32]; rfl) (by decide) ?_
    refine lv_aload_n hx hb dX2_stack_121 rfl (lv_at hl 0 rfl) ?_
    refine lv_aload_n hx hb dX2_stack_122 rfl (lv_at hl 0 rfl) ?_
    refine lv_aload_n hx hb dX2_stack_123 rfl (lv_at hl 0 rfl) ?_
    refine fb_get X I (k := 6) fu_X2 0 rfl rfl (Nat.le_of_ble_eq_true rfl) fw_526 rfl rfl dX2_stack_124 ?_
    refine lv_iconst (v := (1 : Int32)) hx hb dX2_stack_127 (by decide) ?_
    refine lv_iadd hx hb dX2_stack_128 ?_
    refine lv_sipush (v := (255 : Int32)) hx hb dX2_stack_129 (by decide) ?_
    refine lv_iand hx hb dX2_stack_132 ?_
    refine fb_goI (wn := fun (w34 : fb_AR) => (fb_mw cI zq ((f_X2_zn zs ((((zs).1 6) + (1 : Int32)) &&& (255 : Int32))).2) (w34))) X I (fb_runV (As := [.int ((((zs).1 6) + (1 : Int32)) &&& (255 : Int32))]) (rest := [.ref (zq 0)]) (q0 := 0) X I hl (c_X2_zn l D cI cJ zq zs zw ((((zs).1 6) + (1 : Int32)) &&& (255 : Int32)) _) (fb_goodV fw_1254 fw_1256 fw_53 fw_198 fw_1257) rfl rfl rfl (by decide +kernel : fb_hd yX2_zn 1) ⟨Nat.le_of_ble_eq_true rfl, Nat.le_of_ble_eq_true rfl⟩ [0, 1, 2, 3, 4, 5, 6, 7] (by decide) rfl rfl rfl rfl rfl rfl (Nat.le_of_ble_eq_true rfl) ⟨Nat.zero_le _, Nat.zero_le _⟩ dX2_stack_133) [0, 1, 2, 3, 4, 5, 6, 7] [] [0, 1, 2, 3, 4, 5, 6, 7] rfl rfl (by decide) (by decide) (by decide) (fun _ => rfl) ?_
    intro r35 w34 H locs e0 I
    subst e0
    refine fb_put X I (k := 6) (wn := (fb_mw cI zq (fb_sR ((f_X2_zn zs ((((zs).1 6) + (1 : Int32)) &&& (255 : Int32))).2) 6 ((f_X2_zn zs ((((zs).1 6) + (1 : Int32)) &&& (255 : Int32))).1)) (w34))) fu_X2 tyX2 tyX2_ok nmX2 0 rfl rfl (Nat.le_of_ble_eq_true rfl) fw_526 rfl rfl rfl rfl rfl (Nat.le_of_ble_eq_true rfl) fb_ms6 dX2_stack_136 (fun H locs I => ?_)
    refine lv_goto (tgt := 160) hx hb dX2_stack_139 (by decide) ?_
    subst E33
    exact fb_retV (u := ((w34))) X I trivial dX2_stack_160
  have E36 := (E31.trans (if_neg c32))
  refine lv_tableOut (tgt := 142) hx hb dX2_stack_1 (fb_tab_0_7 c1 c5 c12 c16 c23 c27 c32) (by decide) ?_
  refine lv_aload_n hx hb dX2_stack_142 rfl (lv_at hl 0 rfl) ?_
  refine lv_aload_n hx hb dX2_stack_143 rfl (lv_at hl 0 rfl) ?_
  refine lv_aload_n hx hb dX2_stack_144 rfl (lv_at hl 0 rfl) ?_
  refine fb_get X I (k := 6) fu_X2 0 rfl rfl (Nat.le_of_ble_eq_true rfl) fw_526 rfl rfl dX2_stack_145 ?_
  refine lv_iconst (v := (1 : Int32)) hx hb dX2_stack_148 (by decide) ?_
  refine lv_isub hx hb dX2_stack_149 ?_
  refine lv_sipush (v := (255 : Int32)) hx hb dX2_stack_150 (by decide) ?_
  refine lv_iand hx hb dX2_stack_153 ?_
  refine fb_goI (wn := fun (w37 : fb_AR) => (fb_mw cI zq ((f_X2_zn zs ((((zs).1 6) - (1 : Int32)) &&& (255 : Int32))).2) (w37))) X I (fb_runV (As := [.int ((((zs).1 6) - (1 : Int32)) &&& (255 : Int32))]) (rest := [.ref (zq 0)]) (q0 := 0) X I hl (c_X2_zn l D cI cJ zq zs zw ((((zs).1 6) - (1 : Int32)) &&& (255 : Int32)) _) (fb_goodV fw_1254 fw_1256 fw_53 fw_198 fw_1257) rfl rfl rfl (by decide +kernel : fb_hd yX2_zn 1) ⟨Nat.le_of_ble_eq_true rfl, Nat.le_of_ble_eq_true rfl⟩ [0, 1, 2, 3, 4, 5, 6, 7] (by decide) rfl rfl rfl rfl rfl rfl (Nat.le_of_ble_eq_true rfl) ⟨Nat.zero_le _, Nat.zero_le _⟩ dX2_stack_154) [0, 1, 2, 3, 4, 5, 6, 7] [] [0, 1, 2, 3, 4, 5, 6, 7] rfl rfl (by decide) (by decide) (by decide) (fun _ => rfl) ?_
  intro r38 w37 H locs e0 I
  subst e0
  refine fb_put X I (k := 6) (wn := (fb_mw cI zq (fb_sR ((f_X2_zn zs ((((zs).1 6) - (1 : Int32)) &&& (255 : Int32))).2) 6 ((f_X2_zn zs ((((zs).1 6) - (1 : Int32)) &&& (255 : Int32))).1)) (w37))) fu_X2 tyX2 tyX2_ok nmX2 0 rfl rfl (Nat.le_of_ble_eq_true rfl) fw_526 rfl rfl rfl rfl rfl (Nat.le_of_ble_eq_true rfl) fb_ms6 dX2_stack_157 (fun H locs I => ?_)
  subst E36
  exact fb_retV (u := ((w37))) X I trivial dX2_stack_160
set_option maxHeartbeats 4000000 in
set_option maxRecDepth 100000 in
theorem c_X2_stack (l : Launch) (D : va_G) (cI cJ : ClassId) (zq : Nat → Nat) (zs : fb_MS) (zw : fb_AR) (l1 : Int32) (sz : Nat)  : Met l yX2_stack (Cond.code yX2_stack cX2_stack 2 none :: fb_all) ({ frames := 2, cells := 0, slots := 0, locals := 43 } : Room) (fb_PP D (fb_ty D cI cJ) [.ref (zq 0), .int l1] ((fb_mw cI zq zs zw)) sz) (fb_QV D (va_A ((fb_mw cI zq zs zw)) sz) (fun (_ : fb_AR) => True) (fun (t : fb_AR) => (fb_mw cI zq (((f_X2_stack zs l1))) (t)))) 0 0 (va_A ((fb_mw cI zq zs zw)) sz) := by
  refine fb_ent (Qf := fun A => (fb_QV D A (fun (_ : fb_AR) => True) (fun (t : fb_AR) => (fb_mw cI zq (((f_X2_stack zs l1))) (t))))) (by decide +kernel) (Nat.le_of_ble_eq_true rfl) ?_
  intro p e s m args below meth c A ls X I hl hin
  exact b_X2_stack_0 X  I hl rfl
/-! X2_onA -/
def f_X2_onA (zs : fb_MS) (l1 : Int32) : fb_MS := (if l1 = (4 : Int32) then (fb_sR ((f_X2_zn zs ((((zs).1 5) / (16 : Int32)) + ((((zs).1 5) - ((zs).1 5) / (16 : Int32) * (16 : Int32)) * (16 : Int32)))).2) 5 ((f_X2_zn zs ((((zs).1 5) / (16 : Int32)) + ((((zs).1 5) - ((zs).1 5) / (16 : Int32) * (16 : Int32)) * (16 : Int32)))).1)) else (if l1 = (5 : Int32) then (fb_sR ((f_X2_zn zs (((256 : Int32) - ((zs).1 5)) &&& (255 : Int32))).2) 5 ((f_X2_zn zs (((256 : Int32) - ((zs).1 5)) &&& (255 : Int32))).1)) else (if l1 = (6 : Int32) then (fb_sR ((f_X2_zn zs ((255 : Int32) - ((zs).1 5))).2) 5 ((f_X2_zn zs ((255 : Int32) - ((zs).1 5))).1)) else (if l1 = (7 : Int32) then ((f_X2_divide zs)) else (fb_sR ((f_X2_shifted zs l1 ((zs).1 5)).2) 5 ((f_X2_shifted zs l1 ((zs).1 5)).1))))))
set_option maxHeartbeats 4000000 in
set_option maxRecDepth 100000 in
theorem b_X2_onA_0 {p : Program} {l : Launch} {e : Env} {s : State} {m : MethodId} {args : Array Value} {below : List Frame} {meth : Method} {c : Code} {D : va_G} {cI cJ : ClassId} {A : Nat → Prop} {zq : Nat → Nat} {z : fb_MS} (X : fb_Bx p s m args meth c cX2_onA RX2 2 none D (fb_ty D cI cJ) A) {zs : fb_MS} {zw : fb_AR} {l1 : Int32} {H : Heap} {locs : List Loc} {ls : Array Slot}  (I : fb_In D A s.heap ((fb_mw cI zq zs zw)) H locs) (hl : lv_has ls 2 [(0, .ref (zq 0)), (1, .int l1)]) (E : z = f_X2_onA zs l1) : W p l e ({ frames := 2, cells := 0, slots := 0, locals := 46 } : Room) s m args below meth c H locs 0 0 (MQ below (fb_QV D A (fun (_ : fb_AR) => True) (fun (t : fb_AR) => (fb_mw cI zq (z) (t)))) args s 0 0 A) (F0 m 0 ls []) := by
  obtain ⟨hx, hb, hr, hml, hown, hts, hlk, hA, hK, hF⟩ := id X
  refine lv_iload_n hx hb dX2_onA_0 rfl (lv_at hl 1 rfl) ?_
  by_cases c1 : l1 = (4 : Int32)
  · have E2 := (E.trans (if_pos c1))
    refine lv_tableIn (tgt := 32) hx hb dX2_onA_1 (by rw [c1]; decide) (by rw [c1]; decide) (by rw [c1]; rfl) (by decide) ?_
    refine lv_aload_n hx hb dX2_onA_32 rfl (lv_at hl 0 rfl) ?_
    refine lv_aload_n hx hb dX2_onA_33 rfl (lv_at hl 0 rfl) ?_
    refine lv_aload_n hx hb dX2_onA_34 rfl (lv_at hl 0 rfl) ?_
    refine fb_get X I (k := 5) fu_X2 0 rfl rfl (Nat.le_of_ble_eq_true rfl) fw_524 rfl rfl dX2_onA_35 ?_
    refine lv_bipush (v := (16 : Int32)) hx hb dX2_onA_38 (by decide) ?_
    refine lv_idiv hx hb dX2_onA_40 (by decide) ?_
    refine lv_aload_n hx hb dX2_onA_41 rfl (lv_at hl 0 rfl) ?_
    refine fb_get X I (k := 5) fu_X2 0 rfl rfl (Nat.le_of_ble_eq_true rfl) fw_524 rfl rfl dX2_onA_42 ?_
    refine lv_bipush (v := (16 : Int32)) hx hb dX2_onA_45 (by decide) ?_
    refine lv_irem hx hb dX2_onA_47 (by decide) ?_
    refine lv_bipush (v := (16 : Int32)) hx hb dX2_onA_48 (by decide) ?_
    refine lv_imul hx hb dX2_onA_50 ?_
    refine lv_iadd hx hb dX2_onA_51 ?_
    refine fb_goI (wn := fun (w3 : fb_AR) => (fb_mw cI zq ((f_X2_zn zs ((((zs).1 5) / (16 : Int32)) + ((((zs).1 5) - ((zs).1 5) / (16 : Int32) * (16 : Int32)) * (16 : Int32)))).2) (w3))) X I (fb_runV (As := [.int ((((zs).1 5) / (16 : Int32)) + ((((zs).1 5) - ((zs).1 5) / (16 : Int32) * (16 : Int32)) * (16 : Int32)))]) (rest := [.ref (zq 0)]) (q0 := 0) X I hl (c_X2_zn l D cI cJ zq zs zw ((((zs).1 5) / (16 : Int32)) + ((((zs).1 5) - ((zs).1 5) / (16 : Int32) * (16 : Int32)) * (16 : Int32))) _) (fb_goodV fw_1254 fw_1256 fw_53 fw_198 fw_1257) rfl rfl rfl (by decide +kernel : fb_hd yX2_zn 1) ⟨Nat.le_of_ble_eq_true rfl, Nat.le_of_ble_eq_true rfl⟩ [0, 1, 2, 3, 4, 5, 6, 7] (by decide) rfl rfl rfl rfl rfl rfl (Nat.le_of_ble_eq_true rfl) ⟨Nat.zero_le _, Nat.zero_le _⟩ dX2_onA_52) [0, 1, 2, 3, 4, 5, 6, 7] [] [0, 1, 2, 3, 4, 5, 6, 7] rfl rfl (by decide) (by decide) (by decide) (fun _ => rfl) ?_
    intro r4 w3 H locs e0 I
    subst e0
    refine fb_put X I (k := 5) (wn := (fb_mw cI zq (fb_sR ((f_X2_zn zs ((((zs).1 5) / (16 : Int32)) + ((((zs).1 5) - ((zs).1 5) / (16 : Int32) * (16 : Int32)) * (16 : Int32)))).2) 5 ((f_X2_zn zs ((((zs).1 5) / (16 : Int32)) + ((((zs).1 5) - ((zs).1 5) / (16 : Int32) * (16 : Int32)) * (16 : Int32)))).1)) (w3))) fu_X2 tyX2 tyX2_ok nmX2 0 rfl rfl (Nat.le_of_ble_eq_true rfl) fw_524 rfl rfl rfl rfl rfl (Nat.le_of_ble_eq_true rfl) fb_ms5 dX2_onA_55 (fun H locs I => ?_)
    refine lv_goto (tgt := 123) hx hb dX2_onA_58 (by decide) ?_
    subst E2
    exact fb_retV (u := ((w3))) X I trivial dX2_onA_123
  have E5 := (E.trans (if_neg c1))
  by_cases c6 : l1 = (5 : Int32)
  · have E7 := (E5.trans (if_pos c6))
    refine lv_tableIn (tgt := 61) hx hb dX2_onA_1 (by rw [c6]; decide) (by rw [c6]; decide) (by rw [c6]; rfl) (by decide) ?_
    refine lv_aload_n hx hb dX2_onA_61 rfl (lv_at hl 0 rfl) ?_
    refine lv_aload_n hx hb dX2_onA_62 rfl (lv_at hl 0 rfl) ?_
    refine lv_sipush (v := (256 : Int32)) hx hb dX2_onA_63 (by decide) ?_
    refine lv_aload_n hx hb dX2_onA_66 rfl (lv_at hl 0 rfl) ?_
    refine fb_get X I (k := 5) fu_X2 0 rfl rfl (Nat.le_of_ble_eq_true rfl) fw_524 rfl rfl dX2_onA_67 ?_
    refine lv_isub hx hb dX2_onA_70 ?_
    refine lv_sipush (v := (255 : Int32)) hx hb dX2_onA_71 (by decide) ?_
    refine lv_iand hx hb dX2_onA_74 ?_
    refine fb_goI (wn := fun (w8 : fb_AR) => (fb_mw cI zq ((f_X2_zn zs (((256 : Int32) - ((zs).1 5)) &&& (255 : Int32))).2) (w8))) X I (fb_runV (As := [.int (((256 : Int32) - ((zs).1 5)) &&& (255 : Int32))]) (rest := [.ref (zq 0)]) (q0 := 0) X I hl (c_X2_zn l D cI cJ zq zs zw (((256 : Int32) - ((zs).1 5)) &&& (255 : Int32)) _) (fb_goodV fw_1254 fw_1256 fw_53 fw_198 fw_1257) rfl rfl rfl (by decide +kernel : fb_hd yX2_zn 1) ⟨Nat.le_of_ble_eq_true rfl, Nat.le_of_ble_eq_true rfl⟩ [0, 1, 2, 3, 4, 5, 6, 7] (by decide) rfl rfl rfl rfl rfl rfl (Nat.le_of_ble_eq_true rfl) ⟨Nat.zero_le _, Nat.zero_le _⟩ dX2_onA_75) [0, 1, 2, 3, 4, 5, 6, 7] [] [0, 1, 2, 3, 4, 5, 6, 7] rfl rfl (by decide) (by decide) (by decide) (fun _ => rfl) ?_
    intro r9 w8 H locs e0 I
    subst e0
    refine fb_put X I (k := 5) (wn := (fb_mw cI zq (fb_sR ((f_X2_zn zs (((256 : Int32) - ((zs).1 5)) &&& (255 : Int32))).2) 5 ((f_X2_zn zs (((256 : Int32) - ((zs).1 5)) &&& (255 : Int32))).1)) (w8))) fu_X2 tyX2 tyX2_ok nmX2 0 rfl rfl (Nat.le_of_ble_eq_true rfl) fw_524 rfl rfl rfl rfl rfl (Nat.le_of_ble_eq_true rfl) fb_ms5 dX2_onA_78 (fun H locs I => ?_)
    refine lv_goto (tgt := 123) hx hb dX2_onA_81 (by decide) ?_
    subst E7
    exact fb_retV (u := ((w8))) X I trivial dX2_onA_123
  have E10 := (E5.trans (if_neg c6))
  by_cases c11 : l1 = (6 : Int32)
  · have E12 := (E10.trans (if_pos c11))
    refine lv_tableIn (tgt := 84) hx hb dX2_onA_1 (by rw [c11]; decide) (by rw [c11]; decide) (by rw [c11]; rfl) (by decide) ?_
    refine lv_aload_n hx hb dX2_onA_84 rfl (lv_at hl 0 rfl) ?_
    refine lv_aload_n hx hb dX2_onA_85 rfl (lv_at hl 0 rfl) ?_
    refine lv_sipush (v := (255 : Int32)) hx hb dX2_onA_86 (by decide) ?_
    refine lv_aload_n hx hb dX2_onA_89 rfl (lv_at hl 0 rfl) ?_
    refine fb_get X I (k := 5) fu_X2 0 rfl rfl (Nat.le_of_ble_eq_true rfl) fw_524 rfl rfl dX2_onA_90 ?_
    refine lv_isub hx hb dX2_onA_93 ?_
    refine fb_goI (wn := fun (w13 : fb_AR) => (fb_mw cI zq ((f_X2_zn zs ((255 : Int32) - ((zs).1 5))).2) (w13))) X I (fb_runV (As := [.int ((255 : Int32) - ((zs).1 5))]) (rest := [.ref (zq 0)]) (q0 := 0) X I hl (c_X2_zn l D cI cJ zq zs zw ((255 : Int32) - ((zs).1 5)) _) (fb_goodV fw_1254 fw_1256 fw_53 fw_198 fw_1257) rfl rfl rfl (by decide +kernel : fb_hd yX2_zn 1) ⟨Nat.le_of_ble_eq_true rfl, Nat.le_of_ble_eq_true rfl⟩ [0, 1, 2, 3, 4, 5, 6, 7] (by decide) rfl rfl rfl rfl rfl rfl (Nat.le_of_ble_eq_true rfl) ⟨Nat.zero_le _, Nat.zero_le _⟩ dX2_onA_94) [0, 1, 2, 3, 4, 5, 6, 7] [] [0, 1, 2, 3, 4, 5, 6, 7] rfl rfl (by decide) (by decide) (by decide) (fun _ => rfl) ?_
    intro r14 w13 H locs e0 I
    subst e0
    refine fb_put X I (k := 5) (wn := (fb_mw cI zq (fb_sR ((f_X2_zn zs ((255 : Int32) - ((zs).1 5))).2) 5 ((f_X2_zn zs ((255 : Int32) - ((zs).1 5))).1)) (w13))) fu_X2 tyX2 tyX2_ok nmX2 0 rfl rfl (Nat.le_of_ble_eq_true rfl) fw_524 rfl rfl rfl rfl rfl (Nat.le_of_ble_eq_true rfl) fb_ms5 dX2_onA_97 (fun H locs I => ?_)
    refine lv_goto (tgt := 123) hx hb dX2_onA_100 (by decide) ?_
    subst E12
    exact fb_retV (u := ((w13))) X I trivial dX2_onA_123
  have E15 := (E10.trans (if_neg c11))
  by_cases c16 : l1 = (7 : Int32)
  · have E17 := (E15.trans (if_pos c16))
    refine lv_tableIn (tgt := 103) hx hb dX2_onA_1 (by rw [c16]; decide) (by rw [c16]; decide) (by rw [c16]; rfl) (by decide) ?_
    refine lv_aload_n hx hb dX2_onA_103 rfl (lv_at hl 0 rfl) ?_
    refine fb_goV (wn := fun (w18 : fb_AR) => (fb_mw cI zq ((f_X2_divide zs)) (w18))) X I (fb_runV (As := []) (rest := []) (q0 := 0) X I hl (c_X2_divide l D cI cJ zq zs zw _) (fb_goodV fw_1270 fw_1272 fw_57 fw_198 fw_1273) rfl rfl rfl (by decide +kernel : fb_hd yX2_divide 0) ⟨Nat.le_of_ble_eq_true rfl, Nat.le_of_ble_eq_true rfl⟩ [0, 1, 2, 3, 4, 5, 6, 7] (by decide) rfl rfl rfl rfl rfl rfl (Nat.le_of_ble_eq_true rfl) ⟨Nat.zero_le _, Nat.zero_le _⟩ dX2_onA_104) [0, 1, 2, 3, 4, 5, 6, 7] [] [0, 1, 2, 3, 4, 5, 6, 7] rfl rfl (by decide) (by decide) (by decide) (fun _ => rfl) ?_
    intro w18 H locs _ I
    refine lv_goto (tgt := 123) hx hb dX2_onA_107 (by decide) ?_
    subst E17
    exact fb_retV (u := ((w18))) X I trivial dX2_onA_123
  have E19 := (E15.trans (if_neg c16))
  refine lv_tableOut (tgt := 110) hx hb dX2_onA_1 (fb_tab_4_4 c1 c6 c11 c16) (by decide) ?_
  refine lv_aload_n hx hb dX2_onA_110 rfl (lv_at hl 0 rfl) ?_
  refine lv_aload_n hx hb dX2_onA_111 rfl (lv_at hl 0 rfl) ?_
  refine lv_iload_n hx hb dX2_onA_112 rfl (lv_at hl 1 rfl) ?_
  refine lv_aload_n hx hb dX2_onA_113 rfl (lv_at hl 0 rfl) ?_
  refine fb_get X I (k := 5) fu_X2 0 rfl rfl (Nat.le_of_ble_eq_true rfl) fw_524 rfl rfl dX2_onA_114 ?_
  refine fb_goI (wn := fun (w20 : fb_AR) => (fb_mw cI zq ((f_X2_shifted zs l1 ((zs).1 5)).2) (w20))) X I (fb_runV (As := [.int l1, .int ((zs).1 5)]) (rest := [.ref (zq 0)]) (q0 := 0) X I hl (c_X2_shifted l D cI cJ zq zs zw l1 ((zs).1 5) _) (fb_goodV fw_1274 fw_1276 fw_58 fw_198 fw_1277) rfl rfl rfl (by decide +kernel : fb_hd yX2_shifted 2) ⟨Nat.le_of_ble_eq_true rfl, Nat.le_of_ble_eq_true rfl⟩ [0, 1, 2, 3, 4, 5, 6, 7] (by decide) rfl rfl rfl rfl rfl rfl (Nat.le_of_ble_eq_true rfl) ⟨Nat.zero_le _, Nat.zero_le _⟩ dX2_onA_117) [0, 1, 2, 3, 4, 5, 6, 7] [] [0, 1, 2, 3, 4, 5, 6, 7] rfl rfl (by decide) (by decide) (by decide) (fun _ => rfl) ?_
  intro r21 w20 H locs e0 I
  subst e0
  refine fb_put X I (k := 5) (wn := (fb_mw cI zq (fb_sR ((f_X2_shifted zs l1 ((zs).1 5)).2) 5 ((f_X2_shifted zs l1 ((zs).1 5)).1)) (w20))) fu_X2 tyX2 tyX2_ok nmX2 0 rfl rfl (Nat.le_of_ble_eq_true rfl) fw_524 rfl rfl rfl rfl rfl (Nat.le_of_ble_eq_true rfl) fb_ms5 dX2_onA_120 (fun H locs I => ?_)
  subst E19
  exact fb_retV (u := ((w20))) X I trivial dX2_onA_123
set_option maxHeartbeats 4000000 in
set_option maxRecDepth 100000 in
theorem c_X2_onA (l : Launch) (D : va_G) (cI cJ : ClassId) (zq : Nat → Nat) (zs : fb_MS) (zw : fb_AR) (l1 : Int32) (sz : Nat)  : Met l yX2_onA (Cond.code yX2_onA cX2_onA 2 none :: fb_all) ({ frames := 2, cells := 0, slots := 0, locals := 46 } : Room) (fb_PP D (fb_ty D cI cJ) [.ref (zq 0), .int l1] ((fb_mw cI zq zs zw)) sz) (fb_QV D (va_A ((fb_mw cI zq zs zw)) sz) (fun (_ : fb_AR) => True) (fun (t : fb_AR) => (fb_mw cI zq (((f_X2_onA zs l1))) (t)))) 0 0 (va_A ((fb_mw cI zq zs zw)) sz) := by
  refine fb_ent (Qf := fun A => (fb_QV D A (fun (_ : fb_AR) => True) (fun (t : fb_AR) => (fb_mw cI zq (((f_X2_onA zs l1))) (t))))) (by decide +kernel) (Nat.le_of_ble_eq_true rfl) ?_
  intro p e s m args below meth c A ls X I hl hin
  exact b_X2_onA_0 X  I hl rfl
