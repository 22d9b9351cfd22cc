/-! X2_copyFrom -/
def f_X2_copyFrom (zs : fb_MS) (zt : fb_MS) : fb_MS := (fb_sR (fb_sR (fb_sP zt (fb_pR (zt).2.2.2.2.2 13 0)) 14 0) 15 ((zs).1 15))
set_option maxHeartbeats 4000000 in
set_option maxRecDepth 100000 in
theorem b_X2_copyFrom_0 {p : Program} {l : Launch} {e : Env} {s : State} {m : MethodId} {args : Array Value} {below : List Frame} {meth : Method} {c : Code} {D : va_G} {cI cJ : ClassId} {A : Nat → Prop} {zq : Nat → Nat} {zq2 : Nat → Nat} {z : fb_MS} (X : fb_Bx p s m args meth c cX2_copyFrom RX2 2 none D (fb_ty D cI cJ) A) {zs : fb_MS} {zw : fb_AR} {zt : fb_MS} {zv : fb_AR} {H : Heap} {locs : List Loc} {ls : Array Slot}  (I : fb_In D A s.heap ((fb_mw cI zq zs zw) ++ (fb_mw cI zq2 zt zv)) H locs) (hl : lv_has ls 2 [(0, .ref (zq 0)), (1, .ref (zq2 0))]) (E : z = f_X2_copyFrom zs zt) : W p l e ({ frames := 2, cells := 0, slots := 0, locals := 61 } : Room) s m args below meth c H locs 0 0 (MQ below (fb_QV D A (fun (_ : fb_AR) => True) (fun (t : fb_AR) => (fb_mw cI zq (z) (t)) ++ (fb_mw cI zq2 zt zv))) args s 0 0 A) (F0 m 0 ls []) := by
  obtain ⟨hx, hb, hr, hml, hown, hts, hlk, hA, hK, hF⟩ := id X
  refine lv_aload_n hx hb dX2_copyFrom_0 rfl (lv_at hl 1 rfl) ?_
  refine fb_get X I (k := 0) fu_X2 8 rfl rfl (Nat.le_of_ble_eq_true rfl) fw_514 rfl rfl dX2_copyFrom_1 ?_
  refine lv_iconst (v := (0 : Int32)) hx hb dX2_copyFrom_4 (by decide) ?_
  refine lv_aload_n hx hb dX2_copyFrom_5 rfl (lv_at hl 0 rfl) ?_
  refine fb_get X I (k := 0) fu_X2 0 rfl rfl (Nat.le_of_ble_eq_true rfl) fw_514 rfl rfl dX2_copyFrom_6 ?_
  refine lv_iconst (v := (0 : Int32)) hx hb dX2_copyFrom_9 (by decide) ?_
  refine lv_sipush (v := (11008 : Int32)) hx hb dX2_copyFrom_10 (by decide) ?_
  refine fb_copyA (wn := (fb_mw cI zq (fb_sM zs ((zt).2.1)) zw) ++ (fb_mw cI zq2 zt zv)) X I hl fw_1179 fw_1131 fw_1130 fw_216 9 1 0 0 rfl rfl rfl rfl (by decide) rfl (Nat.le_of_ble_eq_true rfl) (Nat.le_of_ble_eq_true rfl) dX2_copyFrom_13 (fun H locs I => ?_)
  refine lv_aload_n hx hb dX2_copyFrom_16 rfl (lv_at hl 1 rfl) ?_
  refine fb_get X I (k := 1) fu_X2 8 rfl rfl (Nat.le_of_ble_eq_true rfl) fw_516 rfl rfl dX2_copyFrom_17 ?_
  refine lv_iconst (v := (0 : Int32)) hx hb dX2_copyFrom_20 (by decide) ?_
  refine lv_aload_n hx hb dX2_copyFrom_21 rfl (lv_at hl 0 rfl) ?_
  refine fb_get X I (k := 1) fu_X2 0 rfl rfl (Nat.le_of_ble_eq_true rfl) fw_516 rfl rfl dX2_copyFrom_22 ?_
  refine lv_iconst (v := (0 : Int32)) hx hb dX2_copyFrom_25 (by decide) ?_
  refine lv_sipush (v := (4096 : Int32)) hx hb dX2_copyFrom_26 (by decide) ?_
  refine fb_copyA (wn := (fb_mw cI zq (fb_sT (fb_sM zs ((zt).2.1)) ((zt).2.2.1)) zw) ++ (fb_mw cI zq2 zt zv)) X I hl fw_1179 fw_1131 fw_1130 fw_216 10 2 0 0 rfl rfl rfl rfl (by decide) rfl (Nat.le_of_ble_eq_true rfl) (Nat.le_of_ble_eq_true rfl) dX2_copyFrom_29 (fun H locs I => ?_)
  refine lv_aload_n hx hb dX2_copyFrom_32 rfl (lv_at hl 1 rfl) ?_
  refine fb_get X I (k := 2) fu_X2 8 rfl rfl (Nat.le_of_ble_eq_true rfl) fw_518 rfl rfl dX2_copyFrom_33 ?_
  refine lv_iconst (v := (0 : Int32)) hx hb dX2_copyFrom_36 (by decide) ?_
  refine lv_aload_n hx hb dX2_copyFrom_37 rfl (lv_at hl 0 rfl) ?_
  refine fb_get X I (k := 2) fu_X2 0 rfl rfl (Nat.le_of_ble_eq_true rfl) fw_518 rfl rfl dX2_copyFrom_38 ?_
  refine lv_iconst (v := (0 : Int32)) hx hb dX2_copyFrom_41 (by decide) ?_
  refine lv_bipush (v := (40 : Int32)) hx hb dX2_copyFrom_42 (by decide) ?_
  refine fb_copyA (wn := (fb_mw cI zq (fb_sK (fb_sT (fb_sM zs ((zt).2.1)) ((zt).2.2.1)) ((zt).2.2.2.1)) zw) ++ (fb_mw cI zq2 zt zv)) X I hl fw_1179 fw_1131 fw_1130 fw_216 11 3 0 0 rfl rfl rfl rfl (by decide) rfl (Nat.le_of_ble_eq_true rfl) (Nat.le_of_ble_eq_true rfl) dX2_copyFrom_44 (fun H locs I => ?_)
  refine lv_aload_n hx hb dX2_copyFrom_47 rfl (lv_at hl 0 rfl) ?_
  refine fb_get X I (k := 4) fu_X2 0 rfl rfl (Nat.le_of_ble_eq_true rfl) fw_522 rfl rfl dX2_copyFrom_48 ?_
  refine lv_aload_n hx hb dX2_copyFrom_51 rfl (lv_at hl 1 rfl) ?_
  refine fb_get X I (k := 4) fu_X2 8 rfl rfl (Nat.le_of_ble_eq_true rfl) fw_522 rfl rfl dX2_copyFrom_52 ?_
  refine fb_goV (wn := fun (w1 : Unit) => (fb_mw cI zq (fb_sP (fb_sK (fb_sT (fb_sM zs ((zt).2.1)) ((zt).2.2.1)) ((zt).2.2.2.1)) ((f_X5_copyFrom ((fb_sK (fb_sT (fb_sM zs ((zt).2.1)) ((zt).2.2.1)) ((zt).2.2.2.1))).2.2.2.2.2 (zt).2.2.2.2.2))) zw) ++ (fb_mw cI zq2 zt zv)) X I (fb_runV (As := [.ref (zq2 5)]) (rest := []) (q0 := 5) X I hl (c_X5_copyFrom l D cI cJ zq ((fb_sK (fb_sT (fb_sM zs ((zt).2.1)) ((zt).2.2.1)) ((zt).2.2.2.1))).2.2.2.2.2 zq2 (zt).2.2.2.2.2 _) (fb_goodV fw_1180 fw_1181 fw_1182 fw_199 fw_1183) rfl rfl rfl (by decide +kernel : fb_hd yX5_copyFrom 1) ⟨Nat.le_of_ble_eq_true rfl, Nat.le_of_ble_eq_true rfl⟩ [5, 6, 7, 13, 14, 15] (by decide) rfl rfl rfl rfl rfl rfl (Nat.le_of_ble_eq_true rfl) ⟨Nat.zero_le _, Nat.zero_le _⟩ dX2_copyFrom_55) [5, 6, 7, 13, 14, 15] [0, 1, 2, 3, 4, 8, 9, 10, 11, 12] [0, 1, 2, 3, 4, 10, 11, 12, 5, 6, 7, 8, 9, 13, 14, 15] rfl rfl (by decide) (by decide) (by decide) (fun _ => rfl) ?_
  intro w1 H locs _ I
  refine lv_aload_n hx hb dX2_copyFrom_58 rfl (lv_at hl 0 rfl) ?_
  refine lv_aload_n hx hb dX2_copyFrom_59 rfl (lv_at hl 1 rfl) ?_
  refine fb_get X I (k := 5) fu_X2 8 rfl rfl (Nat.le_of_ble_eq_true rfl) fw_524 rfl rfl dX2_copyFrom_60 ?_
  refine fb_put X I (k := 5) (wn := (fb_mw cI zq (fb_sR (fb_sP (fb_sK (fb_sT (fb_sM zs ((zt).2.1)) ((zt).2.2.1)) ((zt).2.2.2.1)) ((f_X5_copyFrom ((fb_sK (fb_sT (fb_sM zs ((zt).2.1)) ((zt).2.2.1)) ((zt).2.2.2.1))).2.2.2.2.2 (zt).2.2.2.2.2))) 5 ((zt).1 5)) zw) ++ (fb_mw cI zq2 zt zv)) fu_X2 tyX2 tyX2_ok nmX2 0 rfl rfl (Nat.le_of_ble_eq_true rfl) fw_524 rfl rfl rfl rfl rfl (Nat.le_of_ble_eq_true rfl) fb_msa5 dX2_copyFrom_63 (fun H locs I => ?_)
  refine lv_aload_n hx hb dX2_copyFrom_66 rfl (lv_at hl 0 rfl) ?_
  refine lv_aload_n hx hb dX2_copyFrom_67 rfl (lv_at hl 1 rfl) ?_
  refine fb_get X I (k := 6) fu_X2 8 rfl rfl (Nat.le_of_ble_eq_true rfl) fw_526 rfl rfl dX2_copyFrom_68 ?_
  refine fb_put X I (k := 6) (wn := (fb_mw cI zq (fb_sR (fb_sR (fb_sP (fb_sK (fb_sT (fb_sM zs ((zt).2.1)) ((zt).2.2.1)) ((zt).2.2.2.1)) ((f_X5_copyFrom ((fb_sK (fb_sT (fb_sM zs ((zt).2.1)) ((zt).2.2.1)) ((zt).2.2.2.1))).2.2.2.2.2 (zt).2.2.2.2.2))) 5 ((zt).1 5)) 6 ((zt).1 6)) zw) ++ (fb_mw cI zq2 zt zv)) fu_X2 tyX2 tyX2_ok nmX2 0 rfl rfl (Nat.le_of_ble_eq_true rfl) fw_526 rfl rfl rfl rfl rfl (Nat.le_of_ble_eq_true rfl) fb_msa6 dX2_copyFrom_71 (fun H locs I => ?_)
  refine lv_aload_n hx hb dX2_copyFrom_74 rfl (lv_at hl 0 rfl) ?_
  refine lv_aload_n hx hb dX2_copyFrom_75 rfl (lv_at hl 1 rfl) ?_
  refine fb_get X I (k := 7) fu_X2 8 rfl rfl (Nat.le_of_ble_eq_true rfl) fw_528 rfl rfl dX2_copyFrom_76 ?_
  refine fb_put X I (k := 7) (wn := (fb_mw cI zq (fb_sR (fb_sR (fb_sR (fb_sP (fb_sK (fb_sT (fb_sM zs ((zt).2.1)) ((zt).2.2.1)) ((zt).2.2.2.1)) ((f_X5_copyFrom ((fb_sK (fb_sT (fb_sM zs ((zt).2.1)) ((zt).2.2.1)) ((zt).2.2.2.1))).2.2.2.2.2 (zt).2.2.2.2.2))) 5 ((zt).1 5)) 6 ((zt).1 6)) 7 ((zt).1 7)) zw) ++ (fb_mw cI zq2 zt zv)) fu_X2 tyX2 tyX2_ok nmX2 0 rfl rfl (Nat.le_of_ble_eq_true rfl) fw_528 rfl rfl rfl rfl rfl (Nat.le_of_ble_eq_true rfl) fb_msa7 dX2_copyFrom_79 (fun H locs I => ?_)
  refine lv_aload_n hx hb dX2_copyFrom_82 rfl (lv_at hl 0 rfl) ?_
  refine lv_aload_n hx hb dX2_copyFrom_83 rfl (lv_at hl 1 rfl) ?_
  refine fb_get X I (k := 8) fu_X2 8 rfl rfl (Nat.le_of_ble_eq_true rfl) fw_530 rfl rfl dX2_copyFrom_84 ?_
  refine fb_put X I (k := 8) (wn := (fb_mw cI zq (fb_sR (fb_sR (fb_sR (fb_sR (fb_sP (fb_sK (fb_sT (fb_sM zs ((zt).2.1)) ((zt).2.2.1)) ((zt).2.2.2.1)) ((f_X5_copyFrom ((fb_sK (fb_sT (fb_sM zs ((zt).2.1)) ((zt).2.2.1)) ((zt).2.2.2.1))).2.2.2.2.2 (zt).2.2.2.2.2))) 5 ((zt).1 5)) 6 ((zt).1 6)) 7 ((zt).1 7)) 8 ((zt).1 8)) zw) ++ (fb_mw cI zq2 zt zv)) fu_X2 tyX2 tyX2_ok nmX2 0 rfl rfl (Nat.le_of_ble_eq_true rfl) fw_530 rfl rfl rfl rfl rfl (Nat.le_of_ble_eq_true rfl) fb_msa8 dX2_copyFrom_87 (fun H locs I => ?_)
  refine lv_aload_n hx hb dX2_copyFrom_90 rfl (lv_at hl 0 rfl) ?_
  refine lv_aload_n hx hb dX2_copyFrom_91 rfl (lv_at hl 1 rfl) ?_
  refine fb_get X I (k := 9) fu_X2 8 rfl rfl (Nat.le_of_ble_eq_true rfl) fw_533 rfl rfl dX2_copyFrom_92 ?_
  refine fb_put X I (k := 9) (wn := (fb_mw cI zq (fb_sR (fb_sR (fb_sR (fb_sR (fb_sR (fb_sP (fb_sK (fb_sT (fb_sM zs ((zt).2.1)) ((zt).2.2.1)) ((zt).2.2.2.1)) ((f_X5_copyFrom ((fb_sK (fb_sT (fb_sM zs ((zt).2.1)) ((zt).2.2.1)) ((zt).2.2.2.1))).2.2.2.2.2 (zt).2.2.2.2.2))) 5 ((zt).1 5)) 6 ((zt).1 6)) 7 ((zt).1 7)) 8 ((zt).1 8)) 9 ((zt).1 9)) zw) ++ (fb_mw cI zq2 zt zv)) fu_X2 tyX2 tyX2_ok nmX2 0 rfl rfl (Nat.le_of_ble_eq_true rfl) fw_533 rfl rfl rfl rfl rfl (Nat.le_of_ble_eq_true rfl) fb_msa9 dX2_copyFrom_95 (fun H locs I => ?_)
  refine lv_aload_n hx hb dX2_copyFrom_98 rfl (lv_at hl 0 rfl) ?_
  refine lv_aload_n hx hb dX2_copyFrom_99 rfl (lv_at hl 1 rfl) ?_
  refine fb_get X I (k := 10) fu_X2 8 rfl rfl (Nat.le_of_ble_eq_true rfl) fw_535 rfl rfl dX2_copyFrom_100 ?_
  refine fb_put X I (k := 10) (wn := (fb_mw cI zq (fb_sR (fb_sR (fb_sR (fb_sR (fb_sR (fb_sR (fb_sP (fb_sK (fb_sT (fb_sM zs ((zt).2.1)) ((zt).2.2.1)) ((zt).2.2.2.1)) ((f_X5_copyFrom ((fb_sK (fb_sT (fb_sM zs ((zt).2.1)) ((zt).2.2.1)) ((zt).2.2.2.1))).2.2.2.2.2 (zt).2.2.2.2.2))) 5 ((zt).1 5)) 6 ((zt).1 6)) 7 ((zt).1 7)) 8 ((zt).1 8)) 9 ((zt).1 9)) 10 ((zt).1 10)) zw) ++ (fb_mw cI zq2 zt zv)) fu_X2 tyX2 tyX2_ok nmX2 0 rfl rfl (Nat.le_of_ble_eq_true rfl) fw_535 rfl rfl rfl rfl rfl (Nat.le_of_ble_eq_true rfl) fb_msa10 dX2_copyFrom_103 (fun H locs I => ?_)
  refine lv_aload_n hx hb dX2_copyFrom_106 rfl (lv_at hl 0 rfl) ?_
  refine lv_aload_n hx hb dX2_copyFrom_107 rfl (lv_at hl 1 rfl) ?_
  refine fb_get X I (k := 11) fu_X2 8 rfl rfl (Nat.le_of_ble_eq_true rfl) fw_537 rfl rfl dX2_copyFrom_108 ?_
  refine fb_put X I (k := 11) (wn := (fb_mw cI zq (fb_sR (fb_sR (fb_sR (fb_sR (fb_sR (fb_sR (fb_sR (fb_sP (fb_sK (fb_sT (fb_sM zs ((zt).2.1)) ((zt).2.2.1)) ((zt).2.2.2.1)) ((f_X5_copyFrom ((fb_sK (fb_sT (fb_sM zs ((zt).2.1)) ((zt).2.2.1)) ((zt).2.2.2.1))).2.2.2.2.2 (zt).2.2.2.2.2))) 5 ((zt).1 5)) 6 ((zt).1 6)) 7 ((zt).1 7)) 8 ((zt).1 8)) 9 ((zt).1 9)) 10 ((zt).1 10)) 11 ((zt).1 11)) zw) ++ (fb_mw cI zq2 zt zv)) fu_X2 tyX2 tyX2_ok nmX2 0 rfl rfl (Nat.le_of_ble_eq_true rfl) fw_537 rfl rfl rfl rfl rfl (Nat.le_of_ble_eq_true rfl) fb_msa11 dX2_copyFrom_111 (fun H locs I => ?_)
  refine lv_aload_n hx hb dX2_copyFrom_114 rfl (lv_at hl 0 rfl) ?_
  refine lv_aload_n hx hb dX2_copyFrom_115 rfl (lv_at hl 1 rfl) ?_
  refine fb_get X I (k := 12) fu_X2 8 rfl rfl (Nat.le_of_ble_eq_true rfl) fw_539 rfl rfl dX2_copyFrom_116 ?_
  refine fb_put X I (k := 12) (wn := (fb_mw cI zq (fb_sR (fb_sR (fb_sR (fb_sR (fb_sR (fb_sR (fb_sR (fb_sR (fb_sP (fb_sK (fb_sT (fb_sM zs ((zt).2.1)) ((zt).2.2.1)) ((zt).2.2.2.1)) ((f_X5_copyFrom ((fb_sK (fb_sT (fb_sM zs ((zt).2.1)) ((zt).2.2.1)) ((zt).2.2.2.1))).2.2.2.2.2 (zt).2.2.2.2.2))) 5 ((zt).1 5)) 6 ((zt).1 6)) 7 ((zt).1 7)) 8 ((zt).1 8)) 9 ((zt).1 9)) 10 ((zt).1 10)) 11 ((zt).1 11)) 12 ((zt).1 12)) zw) ++ (fb_mw cI zq2 zt zv)) fu_X2 tyX2 tyX2_ok nmX2 0 rfl rfl (Nat.le_of_ble_eq_true rfl) fw_539 rfl rfl rfl rfl rfl (Nat.le_of_ble_eq_true rfl) fb_msa12 dX2_copyFrom_119 (fun H locs I => ?_)
  refine lv_aload_n hx hb dX2_copyFrom_122 rfl (lv_at hl 0 rfl) ?_
  refine lv_aload_n hx hb dX2_copyFrom_123 rfl (lv_at hl 1 rfl) ?_
  refine fb_get X I (k := 13) fu_X2 8 rfl rfl (Nat.le_of_ble_eq_true rfl) fw_541 rfl rfl dX2_copyFrom_124 ?_
  refine fb_put X I (k := 13) (wn := (fb_mw cI zq (fb_sR (fb_sR (fb_sR (fb_sR (fb_sR (fb_sR (fb_sR (fb_sR (fb_sR (fb_sP (fb_sK (fb_sT (fb_sM zs ((zt).2.1)) ((zt).2.2.1)) ((zt).2.2.2.1)) ((f_X5_copyFrom ((fb_sK (fb_sT (fb_sM zs ((zt).2.1)) ((zt).2.2.1)) ((zt).2.2.2.1))).2.2.2.2.2 (zt).2.2.2.2.2))) 5 ((zt).1 5)) 6 ((zt).1 6)) 7 ((zt).1 7)) 8 ((zt).1 8)) 9 ((zt).1 9)) 10 ((zt).1 10)) 11 ((zt).1 11)) 12 ((zt).1 12)) 13 ((zt).1 13)) zw) ++ (fb_mw cI zq2 zt zv)) fu_X2 tyX2 tyX2_ok nmX2 0 rfl rfl (Nat.le_of_ble_eq_true rfl) fw_541 rfl rfl rfl rfl rfl (Nat.le_of_ble_eq_true rfl) fb_msa13 dX2_copyFrom_127 (fun H locs I => ?_)
  refine lv_aload_n hx hb dX2_copyFrom_130 rfl (lv_at hl 0 rfl) ?_
  refine lv_iconst (v := (0 : Int32)) hx hb dX2_copyFrom_131 (by decide) ?_
  refine fb_put X I (k := 14) (wn := (fb_mw cI zq (fb_sR (fb_sR (fb_sR (fb_sR (fb_sR (fb_sR (fb_sR (fb_sR (fb_sR (fb_sR (fb_sP (fb_sK (fb_sT (fb_sM zs ((zt).2.1)) ((zt).2.2.1)) ((zt).2.2.2.1)) ((f_X5_copyFrom ((fb_sK (fb_sT (fb_sM zs ((zt).2.1)) ((zt).2.2.1)) ((zt).2.2.2.1))).2.2.2.2.2 (zt).2.2.2.2.2))) 5 ((zt).1 5)) 6 ((zt).1 6)) 7 ((zt).1 7)) 8 ((zt).1 8)) 9 ((zt).1 9)) 10 ((zt).1 10)) 11 ((zt).1 11)) 12 ((zt).1 12)) 13 ((zt).1 13)) 14 (0 : Int32)) zw) ++ (fb_mw cI zq2 zt zv)) fu_X2 tyX2 tyX2_ok nmX2 0 rfl rfl (Nat.le_of_ble_eq_true rfl) fw_543 rfl rfl rfl rfl rfl (Nat.le_of_ble_eq_true rfl) fb_msa14 dX2_copyFrom_132 (fun H locs I => ?_)
  refine lv_aload_n hx hb dX2_copyFrom_135 rfl (lv_at hl 0 rfl) ?_
  refine lv_aload_n hx hb dX2_copyFrom_136 rfl (lv_at hl 1 rfl) ?_
  refine fb_get X I (k := 16) fu_X2 8 rfl rfl (Nat.le_of_ble_eq_true rfl) fw_546 rfl rfl dX2_copyFrom_137 ?_
  refine fb_put X I (k := 16) (wn := (fb_mw cI zq (fb_sB (fb_sR (fb_sR (fb_sR (fb_sR (fb_sR (fb_sR (fb_sR (fb_sR (fb_sR (fb_sR (fb_sP (fb_sK (fb_sT (fb_sM zs ((zt).2.1)) ((zt).2.2.1)) ((zt).2.2.2.1)) ((f_X5_copyFrom ((fb_sK (fb_sT (fb_sM zs ((zt).2.1)) ((zt).2.2.1)) ((zt).2.2.2.1))).2.2.2.2.2 (zt).2.2.2.2.2))) 5 ((zt).1 5)) 6 ((zt).1 6)) 7 ((zt).1 7)) 8 ((zt).1 8)) 9 ((zt).1 9)) 10 ((zt).1 10)) 11 ((zt).1 11)) 12 ((zt).1 12)) 13 ((zt).1 13)) 14 (0 : Int32)) (zt).2.2.2.2.1) zw) ++ (fb_mw cI zq2 zt zv)) fu_X2 tyX2 tyX2_ok nmX2 0 rfl rfl (Nat.le_of_ble_eq_true rfl) fw_546 rfl rfl rfl (fb_nz _) (fb_fz _) (Nat.le_of_ble_eq_true rfl) fb_msa16 dX2_copyFrom_140 (fun H locs I => ?_)
  have I : fb_In D A s.heap ((fb_mw cI zq (fb_sR (fb_sR (fb_sP zt (fb_pR (zt).2.2.2.2.2 13 0)) 14 0) 15 ((zs).1 15)) zw) ++ (fb_mw cI zq2 zt zv)) H locs := I
  subst E
  exact fb_retV (u := (zw)) X I trivial dX2_copyFrom_143
set_option maxHeartbeats 4000000 in
set_option maxRecDepth 100000 in
theorem c_X2_copyFrom (l : Launch) (D : va_G) (cI cJ : ClassId) (zq : Nat → Nat) (zs : fb_MS) (zw : fb_AR) (zq2 : Nat → Nat) (zt : fb_MS) (zv : fb_AR)  (sz : Nat)  : Met l yX2_copyFrom (Cond.code yX2_copyFrom cX2_copyFrom 2 none :: fb_all) ({ frames := 2, cells := 0, slots := 0, locals := 61 } : Room) (fb_PP D (fb_ty D cI cJ) [.ref (zq 0), .ref (zq2 0)] ((fb_mw cI zq zs zw) ++ (fb_mw cI zq2 zt zv)) sz) (fb_QV D (va_A ((fb_mw cI zq zs zw) ++ (fb_mw cI zq2 zt zv)) sz) (fun (_ : fb_AR) => True) (fun (t : fb_AR) => (fb_mw cI zq (((f_X2_copyFrom zs zt))) (t)) ++ (fb_mw cI zq2 zt zv))) 0 0 (va_A ((fb_mw cI zq zs zw) ++ (fb_mw cI zq2 zt zv)) sz) := by
  refine fb_ent (Qf := fun A => (fb_QV D A (fun (_ : fb_AR) => True) (fun (t : fb_AR) => (fb_mw cI zq (((f_X2_copyFrom zs zt))) (t)) ++ (fb_mw cI zq2 zt zv)))) (by decide +kernel) (Nat.le_of_ble_eq_true rfl) ?_
  intro p e s m args below meth c A ls X I hl hin
  exact b_X2_copyFrom_0 X  I hl rfl
