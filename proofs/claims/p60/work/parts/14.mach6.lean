/-! X2_copyFrom -/
def f_X2_copyFrom (zs : fb_MS) (zt : fb_MS) : fb_MS := (fb_sB (fb_sR (fb_sR (fb_sR (fb_sR (fb_sR (fb_sR (fb_sR (fb_sR (fb_sR (fb_sR (fb_sP (fb_sK (fb_sT (fb_sM zs ((zt).2.1)) ((zt).2.2.1)) ((zt).2.2.2.1)) ((f_X5_copyFrom ((fb_sK (fb_sT (fb_sM zs ((zt).2.1)) ((zt).2.2.1)) ((zt).2.2.2.1))).2.2.2.2.2 (zt).2.2.2.2.2))) 5 ((zt).1 5)) 6 ((zt).1 6)) 7 ((zt).1 7)) 8 ((zt).1 8)) 9 ((zt).1 9)) 10 ((zt).1 10)) 11 ((zt).1 11)) 12 ((zt).1 12)) 13 ((zt).1 13)) 14 (0 : Int32)) (zt).2.2.2.2.1)
set_option maxHeartbeats 4000000 in
set_option maxRecDepth 100000 in
theorem b_X2_copyFrom_0 {p : Program} {l : Launch} {e : Env} {s : State} {m : MethodId} {args : Array Value} {below : List Frame} {meth : Method} {c : Code} {D : va_G} {cI cJ : ClassId} {A : Nat → Prop} {zq : Nat → Nat} {zq2 : Nat → Nat} {z : fb_MS} (X : fb_Bx p s m args meth c cX2_copyFrom RX2 2 none D (fb_ty cI cJ) A)  {zs : fb_MS} {zw : fb_AR} {zt : fb_MS} {zv : fb_AR} {H : Heap} {locs : List Loc} {ls : Array Slot} (I : fb_In D A s.heap ((fb_mw cI zq zs zw) ++ (fb_mw cI zq2 zt zv)) H locs) (hl : lv_has ls 2 [(0, .ref (zq 0)), (1, .ref (zq2 0))]) (E : z = f_X2_copyFrom zs zt) : W p l e ({ frames := 2, cells := 0, slots := 0, locals := 61 } : Room) s m args below meth c H locs 0 0 (MQ below (fb_QV D A (fun (_ : fb_AR) => True) (fun (t : fb_AR) => (fb_mw cI zq (z) (t)) ++ (fb_mw cI zq2 zt zv))) args s 0 0 A) (F0 m 0 ls []) := by
  obtain ⟨hx, hb, hr, hml, hown, hts, hlk, hA, hK, hF⟩ := id X
  refine lv_aload_n hx hb dX2_copyFrom_0 rfl (lv_at hl 1 rfl) ?_
  refine fb_get X I (k := 0) fu_X2 8 rfl rfl (Nat.le_of_ble_eq_true rfl) fw_303 rfl rfl dX2_copyFrom_1 ?_
  refine lv_iconst (v := (0 : Int32)) hx hb dX2_copyFrom_4 (by decide) ?_
  refine lv_aload_n hx hb dX2_copyFrom_5 rfl (lv_at hl 0 rfl) ?_
  refine fb_get X I (k := 0) fu_X2 0 rfl rfl (Nat.le_of_ble_eq_true rfl) fw_303 rfl rfl dX2_copyFrom_6 ?_
  refine lv_iconst (v := (0 : Int32)) hx hb dX2_copyFrom_9 (by decide) ?_
  refine lv_sipush (v := (11008 : Int32)) hx hb dX2_copyFrom_10 (by decide) ?_
  refine fb_copyA (wn := (fb_mw cI zq (fb_sM zs ((zt).2.1)) zw) ++ (fb_mw cI zq2 zt zv)) X I hl fw_670 fw_672 fw_671 fw_63 9 1 0 0 rfl rfl rfl rfl (by decide) rfl (Nat.le_of_ble_eq_true rfl) (Nat.le_of_ble_eq_true rfl) dX2_copyFrom_13 (fun H locs I => ?_)
  refine lv_aload_n hx hb dX2_copyFrom_16 rfl (lv_at hl 1 rfl) ?_
  refine fb_get X I (k := 1) fu_X2 8 rfl rfl (Nat.le_of_ble_eq_true rfl) fw_305 rfl rfl dX2_copyFrom_17 ?_
  refine lv_iconst (v := (0 : Int32)) hx hb dX2_copyFrom_20 (by decide) ?_
  refine lv_aload_n hx hb dX2_copyFrom_21 rfl (lv_at hl 0 rfl) ?_
  refine fb_get X I (k := 1) fu_X2 0 rfl rfl (Nat.le_of_ble_eq_true rfl) fw_305 rfl rfl dX2_copyFrom_22 ?_
  refine lv_iconst (v := (0 : Int32)) hx hb dX2_copyFrom_25 (by decide) ?_
  refine lv_sipush (v := (4096 : Int32)) hx hb dX2_copyFrom_26 (by decide) ?_
  refine fb_copyA (wn := (fb_mw cI zq (fb_sT (fb_sM zs ((zt).2.1)) ((zt).2.2.1)) zw) ++ (fb_mw cI zq2 zt zv)) X I hl fw_670 fw_672 fw_671 fw_63 10 2 0 0 rfl rfl rfl rfl (by decide) rfl (Nat.le_of_ble_eq_true rfl) (Nat.le_of_ble_eq_true rfl) dX2_copyFrom_29 (fun H locs I => ?_)
  refine lv_aload_n hx hb dX2_copyFrom_32 rfl (lv_at hl 1 rfl) ?_
  refine fb_get X I (k := 2) fu_X2 8 rfl rfl (Nat.le_of_ble_eq_true rfl) fw_307 rfl rfl dX2_copyFrom_33 ?_
  refine lv_iconst (v := (0 : Int32)) hx hb dX2_copyFrom_36 (by decide) ?_
  refine lv_aload_n hx hb dX2_copyFrom_37 rfl (lv_at hl 0 rfl) ?_
  refine fb_get X I (k := 2) fu_X2 0 rfl rfl (Nat.le_of_ble_eq_true rfl) fw_307 rfl rfl dX2_copyFrom_38 ?_
  refine lv_iconst (v := (0 : Int32)) hx hb dX2_copyFrom_41 (by decide) ?_
  refine lv_bipush (v := (40 : Int32)) hx hb dX2_copyFrom_42 (by decide) ?_
  refine fb_copyA (wn := (fb_mw cI zq (fb_sK (fb_sT (fb_sM zs ((zt).2.1)) ((zt).2.2.1)) ((zt).2.2.2.1)) zw) ++ (fb_mw cI zq2 zt zv)) X I hl fw_670 fw_672 fw_671 fw_63 11 3 0 0 rfl rfl rfl rfl (by decide) rfl (Nat.le_of_ble_eq_true rfl) (Nat.le_of_ble_eq_true rfl) dX2_copyFrom_44 (fun H locs I => ?_)
  refine lv_aload_n hx hb dX2_copyFrom_47 rfl (lv_at hl 0 rfl) ?_
  refine fb_get X I (k := 4) fu_X2 0 rfl rfl (Nat.le_of_ble_eq_true rfl) fw_310 rfl rfl dX2_copyFrom_48 ?_
  refine lv_aload_n hx hb dX2_copyFrom_51 rfl (lv_at hl 1 rfl) ?_
  refine fb_get X I (k := 4) fu_X2 8 rfl rfl (Nat.le_of_ble_eq_true rfl) fw_310 rfl rfl dX2_copyFrom_52 ?_
  refine fb_goV (wn := fun (w1 : Unit) => (fb_mw cI zq (fb_sP (fb_sK (fb_sT (fb_sM zs ((zt).2.1)) ((zt).2.2.1)) ((zt).2.2.2.1)) ((f_X5_copyFrom ((fb_sK (fb_sT (fb_sM zs ((zt).2.1)) ((zt).2.2.1)) ((zt).2.2.2.1))).2.2.2.2.2 (zt).2.2.2.2.2))) zw) ++ (fb_mw cI zq2 zt zv)) X I (fb_runV (As := [.ref (zq2 5)]) (rest := []) (q0 := 5) X I hl (c_X5_copyFrom l D cI cJ zq ((fb_sK (fb_sT (fb_sM zs ((zt).2.1)) ((zt).2.2.1)) ((zt).2.2.2.1))).2.2.2.2.2 zq2 (zt).2.2.2.2.2 _) (fb_goodV fw_673 fw_674 fw_675 fw_52 fw_676) rfl rfl rfl (by decide +kernel : fb_hd yX5_copyFrom 1) ⟨Nat.le_of_ble_eq_true rfl, Nat.le_of_ble_eq_true rfl⟩ [5, 6, 7, 13, 14, 15] (by decide) rfl rfl rfl rfl rfl rfl (Nat.le_of_ble_eq_true rfl) ⟨Nat.zero_le _, Nat.zero_le _⟩ dX2_copyFrom_55) [5, 6, 7, 13, 14, 15] [0, 1, 2, 3, 4, 8, 9, 10, 11, 12] [0, 1, 2, 3, 4, 10, 11, 12, 5, 6, 7, 8, 9, 13, 14, 15] rfl rfl (by decide) (by decide) (by decide) (fun _ => rfl) ?_
  intro w1 H locs _ I
  refine lv_aload_n hx hb dX2_copyFrom_58 rfl (lv_at hl 0 rfl) ?_
  refine lv_aload_n hx hb dX2_copyFrom_59 rfl (lv_at hl 1 rfl) ?_
  refine fb_get X I (k := 5) fu_X2 8 rfl rfl (Nat.le_of_ble_eq_true rfl) fw_312 rfl rfl dX2_copyFrom_60 ?_
  refine fb_put X I (k := 5) (wn := (fb_mw cI zq (fb_sR (fb_sP (fb_sK (fb_sT (fb_sM zs ((zt).2.1)) ((zt).2.2.1)) ((zt).2.2.2.1)) ((f_X5_copyFrom ((fb_sK (fb_sT (fb_sM zs ((zt).2.1)) ((zt).2.2.1)) ((zt).2.2.2.1))).2.2.2.2.2 (zt).2.2.2.2.2))) 5 ((zt).1 5)) zw) ++ (fb_mw cI zq2 zt zv)) fu_X2 tyX2 tyX2_ok nmX2 0 rfl rfl (Nat.le_of_ble_eq_true rfl) fw_312 rfl rfl rfl rfl rfl (Nat.le_of_ble_eq_true rfl) fb_msa5 dX2_copyFrom_63 (fun H locs I => ?_)
  refine lv_aload_n hx hb dX2_copyFrom_66 rfl (lv_at hl 0 rfl) ?_
  refine lv_aload_n hx hb dX2_copyFrom_67 rfl (lv_at hl 1 rfl) ?_
  refine fb_get X I (k := 6) fu_X2 8 rfl rfl (Nat.le_of_ble_eq_true rfl) fw_314 rfl rfl dX2_copyFrom_68 ?_
  refine fb_put X I (k := 6) (wn := (fb_mw cI zq (fb_sR (fb_sR (fb_sP (fb_sK (fb_sT (fb_sM zs ((zt).2.1)) ((zt).2.2.1)) ((zt).2.2.2.1)) ((f_X5_copyFrom ((fb_sK (fb_sT (fb_sM zs ((zt).2.1)) ((zt).2.2.1)) ((zt).2.2.2.1))).2.2.2.2.2 (zt).2.2.2.2.2))) 5 ((zt).1 5)) 6 ((zt).1 6)) zw) ++ (fb_mw cI zq2 zt zv)) fu_X2 tyX2 tyX2_ok nmX2 0 rfl rfl (Nat.le_of_ble_eq_true rfl) fw_314 rfl rfl rfl rfl rfl (Nat.le_of_ble_eq_true rfl) fb_msa6 dX2_copyFrom_71 (fun H locs I => ?_)
  refine lv_aload_n hx hb dX2_copyFrom_74 rfl (lv_at hl 0 rfl) ?_
  refine lv_aload_n hx hb dX2_copyFrom_75 rfl (lv_at hl 1 rfl) ?_
  refine fb_get X I (k := 7) fu_X2 8 rfl rfl (Nat.le_of_ble_eq_true rfl) fw_316 rfl rfl dX2_copyFrom_76 ?_
  refine fb_put X I (k := 7) (wn := (fb_mw cI zq (fb_sR (fb_sR (fb_sR (fb_sP (fb_sK (fb_sT (fb_sM zs ((zt).2.1)) ((zt).2.2.1)) ((zt).2.2.2.1)) ((f_X5_copyFrom ((fb_sK (fb_sT (fb_sM zs ((zt).2.1)) ((zt).2.2.1)) ((zt).2.2.2.1))).2.2.2.2.2 (zt).2.2.2.2.2))) 5 ((zt).1 5)) 6 ((zt).1 6)) 7 ((zt).1 7)) zw) ++ (fb_mw cI zq2 zt zv)) fu_X2 tyX2 tyX2_ok nmX2 0 rfl rfl (Nat.le_of_ble_eq_true rfl) fw_316 rfl rfl rfl rfl rfl (Nat.le_of_ble_eq_true rfl) fb_msa7 dX2_copyFrom_79 (fun H locs I => ?_)
  refine lv_aload_n hx hb dX2_copyFrom_82 rfl (lv_at hl 0 rfl) ?_
  refine lv_aload_n hx hb dX2_copyFrom_83 rfl (lv_at hl 1 rfl) ?_
  refine fb_get X I (k := 8) fu_X2 8 rfl rfl (Nat.le_of_ble_eq_true rfl) fw_318 rfl rfl dX2_copyFrom_84 ?_
  refine fb_put X I (k := 8) (wn := (fb_mw cI zq (fb_sR (fb_sR (fb_sR (fb_sR (fb_sP (fb_sK (fb_sT (fb_sM zs ((zt).2.1)) ((zt).2.2.1)) ((zt).2.2.2.1)) ((f_X5_copyFrom ((fb_sK (fb_sT (fb_sM zs ((zt).2.1)) ((zt).2.2.1)) ((zt).2.2.2.1))).2.2.2.2.2 (zt).2.2.2.2.2))) 5 ((zt).1 5)) 6 ((zt).1 6)) 7 ((zt).1 7)) 8 ((zt).1 8)) zw) ++ (fb_mw cI zq2 zt zv)) fu_X2 tyX2 tyX2_ok nmX2 0 rfl rfl (Nat.le_of_ble_eq_true rfl) fw_318 rfl rfl rfl rfl rfl (Nat.le_of_ble_eq_true rfl) fb_msa8 dX2_copyFrom_87 (fun H locs I => ?_)
  refine lv_aload_n hx hb dX2_copyFrom_90 rfl (lv_at hl 0 rfl) ?_
  refine lv_aload_n hx hb dX2_copyFrom_91 rfl (lv_at hl 1 rfl) ?_
  refine fb_get X I (k := 9) fu_X2 8 rfl rfl (Nat.le_of_ble_eq_true rfl) fw_321 rfl rfl dX2_copyFrom_92 ?_
  refine fb_put X I (k := 9) (wn := (fb_mw cI zq (fb_sR (fb_sR (fb_sR (fb_sR (fb_sR (fb_sP (fb_sK (fb_sT (fb_sM zs ((zt).2.1)) ((zt).2.2.1)) ((zt).2.2.2.1)) ((f_X5_copyFrom ((fb_sK (fb_sT (fb_sM zs ((zt).2.1)) ((zt).2.2.1)) ((zt).2.2.2.1))).2.2.2.2.2 (zt).2.2.2.2.2))) 5 ((zt).1 5)) 6 ((zt).1 6)) 7 ((zt).1 7)) 8 ((zt).1 8)) 9 ((zt).1 9)) zw) ++ (fb_mw cI zq2 zt zv)) fu_X2 tyX2 tyX2_ok nmX2 0 rfl rfl (Nat.le_of_ble_eq_true rfl) fw_321 rfl rfl rfl rfl rfl (Nat.le_of_ble_eq_true rfl) fb_msa9 dX2_copyFrom_95 (fun H locs I => ?_)
  refine lv_aload_n hx hb dX2_copyFrom_98 rfl (lv_at hl 0 rfl) ?_
  refine lv_aload_n hx hb dX2_copyFrom_99 rfl (lv_at hl 1 rfl) ?_
  refine fb_get X I (k := 10) fu_X2 8 rfl rfl (Nat.le_of_ble_eq_true rfl) fw_323 rfl rfl dX2_copyFrom_100 ?_
  refine fb_put X I (k := 10) (wn := (fb_mw cI zq (fb_sR (fb_sR (fb_sR (fb_sR (fb_sR (fb_sR (fb_sP (fb_sK (fb_sT (fb_sM zs ((zt).2.1)) ((zt).2.2.1)) ((zt).2.2.2.1)) ((f_X5_copyFrom ((fb_sK (fb_sT (fb_sM zs ((zt).2.1)) ((zt).2.2.1)) ((zt).2.2.2.1))).2.2.2.2.2 (zt).2.2.2.2.2))) 5 ((zt).1 5)) 6 ((zt).1 6)) 7 ((zt).1 7)) 8 ((zt).1 8)) 9 ((zt).1 9)) 10 ((zt).1 10)) zw) ++ (fb_mw cI zq2 zt zv)) fu_X2 tyX2 tyX2_ok nmX2 0 rfl rfl (Nat.le_of_ble_eq_true rfl) fw_323 rfl rfl rfl rfl rfl (Nat.le_of_ble_eq_true rfl) fb_msa10 dX2_copyFrom_103 (fun H locs I => ?_)
  refine lv_aload_n hx hb dX2_copyFrom_106 rfl (lv_at hl 0 rfl) ?_
  refine lv_aload_n hx hb dX2_copyFrom_107 rfl (lv_at hl 1 rfl) ?_
  refine fb_get X I (k := 11) fu_X2 8 rfl rfl (Nat.le_of_ble_eq_true rfl) fw_325 rfl rfl dX2_copyFrom_108 ?_
  refine fb_put X I (k := 11) (wn := (fb_mw cI zq (fb_sR (fb_sR (fb_sR (fb_sR (fb_sR (fb_sR (fb_sR (fb_sP (fb_sK (fb_sT (fb_sM zs ((zt).2.1)) ((zt).2.2.1)) ((zt).2.2.2.1)) ((f_X5_copyFrom ((fb_sK (fb_sT (fb_sM zs ((zt).2.1)) ((zt).2.2.1)) ((zt).2.2.2.1))).2.2.2.2.2 (zt).2.2.2.2.2))) 5 ((zt).1 5)) 6 ((zt).1 6)) 7 ((zt).1 7)) 8 ((zt).1 8)) 9 ((zt).1 9)) 10 ((zt).1 10)) 11 ((zt).1 11)) zw) ++ (fb_mw cI zq2 zt zv)) fu_X2 tyX2 tyX2_ok nmX2 0 rfl rfl (Nat.le_of_ble_eq_true rfl) fw_325 rfl rfl rfl rfl rfl (Nat.le_of_ble_eq_true rfl) fb_msa11 dX2_copyFrom_111 (fun H locs I => ?_)
  refine lv_aload_n hx hb dX2_copyFrom_114 rfl (lv_at hl 0 rfl) ?_
  refine lv_aload_n hx hb dX2_copyFrom_115 rfl (lv_at hl 1 rfl) ?_
  refine fb_get X I (k := 12) fu_X2 8 rfl rfl (Nat.le_of_ble_eq_true rfl) fw_327 rfl rfl dX2_copyFrom_116 ?_
  refine fb_put X I (k := 12) (wn := (fb_mw cI zq (fb_sR (fb_sR (fb_sR (fb_sR (fb_sR (fb_sR (fb_sR (fb_sR (fb_sP (fb_sK (fb_sT (fb_sM zs ((zt).2.1)) ((zt).2.2.1)) ((zt).2.2.2.1)) ((f_X5_copyFrom ((fb_sK (fb_sT (fb_sM zs ((zt).2.1)) ((zt).2.2.1)) ((zt).2.2.2.1))).2.2.2.2.2 (zt).2.2.2.2.2))) 5 ((zt).1 5)) 6 ((zt).1 6)) 7 ((zt).1 7)) 8 ((zt).1 8)) 9 ((zt).1 9)) 10 ((zt).1 10)) 11 ((zt).1 11)) 12 ((zt).1 12)) zw) ++ (fb_mw cI zq2 zt zv)) fu_X2 tyX2 tyX2_ok nmX2 0 rfl rfl (Nat.le_of_ble_eq_true rfl) fw_327 rfl rfl rfl rfl rfl (Nat.le_of_ble_eq_true rfl) fb_msa12 dX2_copyFrom_119 (fun H locs I => ?_)
  refine lv_aload_n hx hb dX2_copyFrom_122 rfl (lv_at hl 0 rfl) ?_
  refine lv_aload_n hx hb dX2_copyFrom_123 rfl (lv_at hl 1 rfl) ?_
  refine fb_get X I (k := 13) fu_X2 8 rfl rfl (Nat.le_of_ble_eq_true rfl) fw_329 rfl rfl dX2_copyFrom_124 ?_
  refine fb_put X I (k := 13) (wn := (fb_mw cI zq (fb_sR (fb_sR (fb_sR (fb_sR (fb_sR (fb_sR (fb_sR (fb_sR (fb_sR (fb_sP (fb_sK (fb_sT (fb_sM zs ((zt).2.1)) ((zt).2.2.1)) ((zt).2.2.2.1)) ((f_X5_copyFrom ((fb_sK (fb_sT (fb_sM zs ((zt).2.1)) ((zt).2.2.1)) ((zt).2.2.2.1))).2.2.2.2.2 (zt).2.2.2.2.2))) 5 ((zt).1 5)) 6 ((zt).1 6)) 7 ((zt).1 7)) 8 ((zt).1 8)) 9 ((zt).1 9)) 10 ((zt).1 10)) 11 ((zt).1 11)) 12 ((zt).1 12)) 13 ((zt).1 13)) zw) ++ (fb_mw cI zq2 zt zv)) fu_X2 tyX2 tyX2_ok nmX2 0 rfl rfl (Nat.le_of_ble_eq_true rfl) fw_329 rfl rfl rfl rfl rfl (Nat.le_of_ble_eq_true rfl) fb_msa13 dX2_copyFrom_127 (fun H locs I => ?_)
  refine lv_aload_n hx hb dX2_copyFrom_130 rfl (lv_at hl 0 rfl) ?_
  refine lv_iconst (v := (0 : Int32)) hx hb dX2_copyFrom_131 (by decide) ?_
  refine fb_put X I (k := 14) (wn := (fb_mw cI zq (fb_sR (fb_sR (fb_sR (fb_sR (fb_sR (fb_sR (fb_sR (fb_sR (fb_sR (fb_sR (fb_sP (fb_sK (fb_sT (fb_sM zs ((zt).2.1)) ((zt).2.2.1)) ((zt).2.2.2.1)) ((f_X5_copyFrom ((fb_sK (fb_sT (fb_sM zs ((zt).2.1)) ((zt).2.2.1)) ((zt).2.2.2.1))).2.2.2.2.2 (zt).2.2.2.2.2))) 5 ((zt).1 5)) 6 ((zt).1 6)) 7 ((zt).1 7)) 8 ((zt).1 8)) 9 ((zt).1 9)) 10 ((zt).1 10)) 11 ((zt).1 11)) 12 ((zt).1 12)) 13 ((zt).1 13)) 14 (0 : Int32)) zw) ++ (fb_mw cI zq2 zt zv)) fu_X2 tyX2 tyX2_ok nmX2 0 rfl rfl (Nat.le_of_ble_eq_true rfl) fw_331 rfl rfl rfl rfl rfl (Nat.le_of_ble_eq_true rfl) fb_msa14 dX2_copyFrom_132 (fun H locs I => ?_)
  refine lv_aload_n hx hb dX2_copyFrom_135 rfl (lv_at hl 0 rfl) ?_
  refine lv_aload_n hx hb dX2_copyFrom_136 rfl (lv_at hl 1 rfl) ?_
  refine fb_get X I (k := 16) fu_X2 8 rfl rfl (Nat.le_of_ble_eq_true rfl) fw_334 rfl rfl dX2_copyFrom_137 ?_
  refine fb_put X I (k := 16) (wn := (fb_mw cI zq (fb_sB (fb_sR (fb_sR (fb_sR (fb_sR (fb_sR (fb_sR (fb_sR (fb_sR (fb_sR (fb_sR (fb_sP (fb_sK (fb_sT (fb_sM zs ((zt).2.1)) ((zt).2.2.1)) ((zt).2.2.2.1)) ((f_X5_copyFrom ((fb_sK (fb_sT (fb_sM zs ((zt).2.1)) ((zt).2.2.1)) ((zt).2.2.2.1))).2.2.2.2.2 (zt).2.2.2.2.2))) 5 ((zt).1 5)) 6 ((zt).1 6)) 7 ((zt).1 7)) 8 ((zt).1 8)) 9 ((zt).1 9)) 10 ((zt).1 10)) 11 ((zt).1 11)) 12 ((zt).1 12)) 13 ((zt).1 13)) 14 (0 : Int32)) (zt).2.2.2.2.1) zw) ++ (fb_mw cI zq2 zt zv)) fu_X2 tyX2 tyX2_ok nmX2 0 rfl rfl (Nat.le_of_ble_eq_true rfl) fw_334 rfl rfl rfl (fb_nz _) (fb_fz _) (Nat.le_of_ble_eq_true rfl) fb_msa16 dX2_copyFrom_140 (fun H locs I => ?_)
  subst E
  exact fb_retV (u := (zw)) X I trivial dX2_copyFrom_143
set_option maxHeartbeats 4000000 in
set_option maxRecDepth 100000 in
theorem c_X2_copyFrom (l : Launch) (D : va_G) (cI cJ : ClassId) (zq : Nat → Nat) (zs : fb_MS) (zw : fb_AR) (zq2 : Nat → Nat) (zt : fb_MS) (zv : fb_AR)  (sz : Nat)  : Met l yX2_copyFrom (Cond.code yX2_copyFrom cX2_copyFrom 2 none :: fb_all) ({ frames := 2, cells := 0, slots := 0, locals := 61 } : Room) (fb_PP D (fb_ty cI cJ) [.ref (zq 0), .ref (zq2 0)] ((fb_mw cI zq zs zw) ++ (fb_mw cI zq2 zt zv)) sz) (fb_QV D (va_A ((fb_mw cI zq zs zw) ++ (fb_mw cI zq2 zt zv)) sz) (fun (_ : fb_AR) => True) (fun (t : fb_AR) => (fb_mw cI zq (((f_X2_copyFrom zs zt))) (t)) ++ (fb_mw cI zq2 zt zv))) 0 0 (va_A ((fb_mw cI zq zs zw) ++ (fb_mw cI zq2 zt zv)) sz) := by
  refine fb_ent (Qf := fun A => (fb_QV D A (fun (_ : fb_AR) => True) (fun (t : fb_AR) => (fb_mw cI zq (((f_X2_copyFrom zs zt))) (t)) ++ (fb_mw cI zq2 zt zv)))) (by decide +kernel) (Nat.le_of_ble_eq_true rfl) ?_
  intro p e s m args below meth c A ls X I hl hin
  exact b_X2_copyFrom_0 X  I hl rfl
/-! X2_restart -/
def f_X2_restart (zs : fb_MS) : fb_MS := (fb_sB (fb_sR (fb_sR (fb_sR (fb_sR (fb_sR (fb_sR (fb_sR (fb_sR (fb_sR (fb_sR (fb_sP (fb_sT zs ((f_J7_fill_53178 4096 ((zs).2.2.1) (0 : Int32)))) ((f_X5_clear ((fb_sT zs ((f_J7_fill_53178 4096 ((zs).2.2.1) (0 : Int32))))).2.2.2.2.2))) 5 (0 : Int32)) 6 (0 : Int32)) 7 (255 : Int32)) 8 (4 : Int32)) 9 (f_X2_vector (fb_sR (fb_sR (fb_sR (fb_sR (fb_sP (fb_sT zs ((f_J7_fill_53178 4096 ((zs).2.2.1) (0 : Int32)))) ((f_X5_clear ((fb_sT zs ((f_J7_fill_53178 4096 ((zs).2.2.1) (0 : Int32))))).2.2.2.2.2))) 5 (0 : Int32)) 6 (0 : Int32)) 7 (255 : Int32)) 8 (4 : Int32)) (0 : Int32))) 10 (0 : Int32)) 11 (0 : Int32)) 12 (0 : Int32)) 13 (0 : Int32)) 14 (0 : Int32)) false)
set_option maxHeartbeats 4000000 in
set_option maxRecDepth 100000 in
theorem b_X2_restart_0 {p : Program} {l : Launch} {e : Env} {s : State} {m : MethodId} {args : Array Value} {below : List Frame} {meth : Method} {c : Code} {D : va_G} {cI cJ : ClassId} {A : Nat → Prop} {zq : Nat → Nat} {z : fb_MS} (X : fb_Bx p s m args meth c cX2_restart RX2 1 none D (fb_ty cI cJ) A)  {zs : fb_MS} {zw : fb_AR} {H : Heap} {locs : List Loc} {ls : Array Slot} (I : fb_In D A s.heap ((fb_mw cI zq zs zw)) H locs) (hl : lv_has ls 1 [(0, .ref (zq 0))]) (E : z = f_X2_restart zs) : W p l e ({ frames := 2, cells := 0, slots := 0, locals := 43 } : Room) s m args below meth c H locs 0 0 (MQ below (fb_QV D A (fun (_ : fb_AR) => True) (fun (t : fb_AR) => (fb_mw cI zq (z) (t)))) args s 0 0 A) (F0 m 0 ls []) := by
  obtain ⟨hx, hb, hr, hml, hown, hts, hlk, hA, hK, hF⟩ := id X
  refine lv_aload_n hx hb dX2_restart_0 rfl (lv_at hl 0 rfl) ?_
  refine fb_get X I (k := 1) fu_X2 0 rfl rfl (Nat.le_of_ble_eq_true rfl) fw_305 rfl rfl dX2_restart_1 ?_
  refine lv_iconst (v := (0 : Int32)) hx hb dX2_restart_4 (by decide) ?_
  refine fb_goV (wn := fun (w1 : Unit) => (fb_mw cI zq (fb_sT zs ((f_J7_fill_53178 4096 ((zs).2.2.1) (0 : Int32)))) zw)) X I (fb_runS (As := [.ref (zq 2), .int (0 : Int32)]) (rest := []) X I hl (c_J7_fill_53178 l D cI cJ (zq 2) 4096 ((zs).2.2.1) (0 : Int32) _ (by decide)) (fb_goodS fw_458 fw_459 fw_56 fw_460) rfl rfl (by decide +kernel : fb_hd yJ7_fill_53178 2) ⟨Nat.le_of_ble_eq_true rfl, Nat.le_of_ble_eq_true rfl⟩ [2] (by decide) rfl rfl rfl (Nat.le_of_ble_eq_true rfl) ⟨Nat.zero_le _, Nat.zero_le _⟩ dX2_restart_5) [2] [0, 1, 3, 4, 5, 6, 7] [0, 1, 7, 2, 3, 4, 5, 6] rfl rfl (by decide) (by decide) (by decide) (fun _ => rfl) ?_
  intro w1 H locs _ I
  refine lv_aload_n hx hb dX2_restart_8 rfl (lv_at hl 0 rfl) ?_
  refine fb_get X I (k := 4) fu_X2 0 rfl rfl (Nat.le_of_ble_eq_true rfl) fw_310 rfl rfl dX2_restart_9 ?_
  refine fb_goV (wn := fun (w2 : Unit) => (fb_mw cI zq (fb_sP (fb_sT zs ((f_J7_fill_53178 4096 ((zs).2.2.1) (0 : Int32)))) ((f_X5_clear ((fb_sT zs ((f_J7_fill_53178 4096 ((zs).2.2.1) (0 : Int32))))).2.2.2.2.2))) zw)) X I (fb_runV (As := []) (rest := []) (q0 := 5) X I hl (c_X5_clear l D cI cJ zq ((fb_sT zs ((f_J7_fill_53178 4096 ((zs).2.2.1) (0 : Int32))))).2.2.2.2.2 _) (fb_goodV fw_461 fw_462 fw_463 fw_52 fw_464) rfl rfl rfl (by decide +kernel : fb_hd yX5_clear 0) ⟨Nat.le_of_ble_eq_true rfl, Nat.le_of_ble_eq_true rfl⟩ [5, 6, 7] (by decide) rfl rfl rfl rfl rfl rfl (Nat.le_of_ble_eq_true rfl) ⟨Nat.zero_le _, Nat.zero_le _⟩ dX2_restart_12) [5, 6, 7] [0, 1, 2, 3, 4] [0, 1, 2, 3, 4, 5, 6, 7] rfl rfl (by decide) (by decide) (by decide) (fun _ => rfl) ?_
  intro w2 H locs _ I
  refine lv_aload_n hx hb dX2_restart_15 rfl (lv_at hl 0 rfl) ?_
  refine lv_iconst (v := (0 : Int32)) hx hb dX2_restart_16 (by decide) ?_
  refine fb_put X I (k := 5) (wn := (fb_mw cI zq (fb_sR (fb_sP (fb_sT zs ((f_J7_fill_53178 4096 ((zs).2.2.1) (0 : Int32)))) ((f_X5_clear ((fb_sT zs ((f_J7_fill_53178 4096 ((zs).2.2.1) (0 : Int32))))).2.2.2.2.2))) 5 (0 : Int32)) zw)) fu_X2 tyX2 tyX2_ok nmX2 0 rfl rfl (Nat.le_of_ble_eq_true rfl) fw_312 rfl rfl rfl rfl rfl (Nat.le_of_ble_eq_true rfl) fb_ms5 dX2_restart_17 (fun H locs I => ?_)
  refine lv_aload_n hx hb dX2_restart_20 rfl (lv_at hl 0 rfl) ?_
  refine lv_iconst (v := (0 : Int32)) hx hb dX2_restart_21 (by decide) ?_
  refine fb_put X I (k := 6) (wn := (fb_mw cI zq (fb_sR (fb_sR (fb_sP (fb_sT zs ((f_J7_fill_53178 4096 ((zs).2.2.1) (0 : Int32)))) ((f_X5_clear ((fb_sT zs ((f_J7_fill_53178 4096 ((zs).2.2.1) (0 : Int32))))).2.2.2.2.2))) 5 (0 : Int32)) 6 (0 : Int32)) zw)) fu_X2 tyX2 tyX2_ok nmX2 0 rfl rfl (Nat.le_of_ble_eq_true rfl) fw_314 rfl rfl rfl rfl rfl (Nat.le_of_ble_eq_true rfl) fb_ms6 dX2_restart_22 (fun H locs I => ?_)
  refine lv_aload_n hx hb dX2_restart_25 rfl (lv_at hl 0 rfl) ?_
  refine lv_sipush (v := (255 : Int32)) hx hb dX2_restart_26 (by decide) ?_
  refine fb_put X I (k := 7) (wn := (fb_mw cI zq (fb_sR (fb_sR (fb_sR (fb_sP (fb_sT zs ((f_J7_fill_53178 4096 ((zs).2.2.1) (0 : Int32)))) ((f_X5_clear ((fb_sT zs ((f_J7_fill_53178 4096 ((zs).2.2.1) (0 : Int32))))).2.2.2.2.2))) 5 (0 : Int32)) 6 (0 : Int32)) 7 (255 : Int32)) zw)) fu_X2 tyX2 tyX2_ok nmX2 0 rfl rfl (Nat.le_of_ble_eq_true rfl) fw_316 rfl rfl rfl rfl rfl (Nat.le_of_ble_eq_true rfl) fb_ms7 dX2_restart_29 (fun H locs I => ?_)
  refine lv_aload_n hx hb dX2_restart_32 rfl (lv_at hl 0 rfl) ?_
  refine lv_iconst (v := (4 : Int32)) hx hb dX2_restart_33 (by decide) ?_
  refine fb_put X I (k := 8) (wn := (fb_mw cI zq (fb_sR (fb_sR (fb_sR (fb_sR (fb_sP (fb_sT zs ((f_J7_fill_53178 4096 ((zs).2.2.1) (0 : Int32)))) ((f_X5_clear ((fb_sT zs ((f_J7_fill_53178 4096 ((zs).2.2.1) (0 : Int32))))).2.2.2.2.2))) 5 (0 : Int32)) 6 (0 : Int32)) 7 (255 : Int32)) 8 (4 : Int32)) zw)) fu_X2 tyX2 tyX2_ok nmX2 0 rfl rfl (Nat.le_of_ble_eq_true rfl) fw_318 rfl rfl rfl rfl rfl (Nat.le_of_ble_eq_true rfl) fb_ms8 dX2_restart_34 (fun H locs I => ?_)
  refine lv_aload_n hx hb dX2_restart_37 rfl (lv_at hl 0 rfl) ?_
  refine lv_aload_n hx hb dX2_restart_38 rfl (lv_at hl 0 rfl) ?_
  refine lv_iconst (v := (0 : Int32)) hx hb dX2_restart_39 (by decide) ?_
  refine fb_roI X I (fb_runV (As := [.int (0 : Int32)]) (rest := [.ref (zq 0)]) (q0 := 0) X I hl (c_X2_vector l D cI cJ zq (fb_sR (fb_sR (fb_sR (fb_sR (fb_sP (fb_sT zs ((f_J7_fill_53178 4096 ((zs).2.2.1) (0 : Int32)))) ((f_X5_clear ((fb_sT zs ((f_J7_fill_53178 4096 ((zs).2.2.1) (0 : Int32))))).2.2.2.2.2))) 5 (0 : Int32)) 6 (0 : Int32)) 7 (255 : Int32)) 8 (4 : Int32)) zw (0 : Int32) _) (fb_goodV fw_465 fw_466 fw_467 fw_51 fw_468) rfl rfl rfl (by decide +kernel : fb_hd yX2_vector 1) ⟨Nat.le_of_ble_eq_true rfl, Nat.le_of_ble_eq_true rfl⟩ [0, 1, 2, 3, 4, 5, 6, 7] (by decide) rfl rfl rfl rfl rfl rfl (Nat.le_of_ble_eq_true rfl) ⟨Nat.zero_le _, Nat.zero_le _⟩ dX2_restart_40) ?_
  refine fb_put X I (k := 9) (wn := (fb_mw cI zq (fb_sR (fb_sR (fb_sR (fb_sR (fb_sR (fb_sP (fb_sT zs ((f_J7_fill_53178 4096 ((zs).2.2.1) (0 : Int32)))) ((f_X5_clear ((fb_sT zs ((f_J7_fill_53178 4096 ((zs).2.2.1) (0 : Int32))))).2.2.2.2.2))) 5 (0 : Int32)) 6 (0 : Int32)) 7 (255 : Int32)) 8 (4 : Int32)) 9 (f_X2_vector (fb_sR (fb_sR (fb_sR (fb_sR (fb_sP (fb_sT zs ((f_J7_fill_53178 4096 ((zs).2.2.1) (0 : Int32)))) ((f_X5_clear ((fb_sT zs ((f_J7_fill_53178 4096 ((zs).2.2.1) (0 : Int32))))).2.2.2.2.2))) 5 (0 : Int32)) 6 (0 : Int32)) 7 (255 : Int32)) 8 (4 : Int32)) (0 : Int32))) zw)) fu_X2 tyX2 tyX2_ok nmX2 0 rfl rfl (Nat.le_of_ble_eq_true rfl) fw_321 rfl rfl rfl rfl rfl (Nat.le_of_ble_eq_true rfl) fb_ms9 dX2_restart_43 (fun H locs I => ?_)
  refine lv_aload_n hx hb dX2_restart_46 rfl (lv_at hl 0 rfl) ?_
  refine lv_iconst (v := (0 : Int32)) hx hb dX2_restart_47 (by decide) ?_
  refine fb_put X I (k := 10) (wn := (fb_mw cI zq (fb_sR (fb_sR (fb_sR (fb_sR (fb_sR (fb_sR (fb_sP (fb_sT zs ((f_J7_fill_53178 4096 ((zs).2.2.1) (0 : Int32)))) ((f_X5_clear ((fb_sT zs ((f_J7_fill_53178 4096 ((zs).2.2.1) (0 : Int32))))).2.2.2.2.2))) 5 (0 : Int32)) 6 (0 : Int32)) 7 (255 : Int32)) 8 (4 : Int32)) 9 (f_X2_vector (fb_sR (fb_sR (fb_sR (fb_sR (fb_sP (fb_sT zs ((f_J7_fill_53178 4096 ((zs).2.2.1) (0 : Int32)))) ((f_X5_clear ((fb_sT zs ((f_J7_fill_53178 4096 ((zs).2.2.1) (0 : Int32))))).2.2.2.2.2))) 5 (0 : Int32)) 6 (0 : Int32)) 7 (255 : Int32)) 8 (4 : Int32)) (0 : Int32))) 10 (0 : Int32)) zw)) fu_X2 tyX2 tyX2_ok nmX2 0 rfl rfl (Nat.le_of_ble_eq_true rfl) fw_323 rfl rfl rfl rfl rfl (Nat.le_of_ble_eq_true rfl) fb_ms10 dX2_restart_48 (fun H locs I => ?_)
  refine lv_aload_n hx hb dX2_restart_51 rfl (lv_at hl 0 rfl) ?_
  refine lv_iconst (v := (0 : Int32)) hx hb dX2_restart_52 (by decide) ?_
  refine fb_put X I (k := 11) (wn := (fb_mw cI zq (fb_sR (fb_sR (fb_sR (fb_sR (fb_sR (fb_sR (fb_sR (fb_sP (fb_sT zs ((f_J7_fill_53178 4096 ((zs).2.2.1) (0 : Int32)))) ((f_X5_clear ((fb_sT zs ((f_J7_fill_53178 4096 ((zs).2.2.1) (0 : Int32))))).2.2.2.2.2))) 5 (0 : Int32)) 6 (0 : Int32)) 7 (255 : Int32)) 8 (4 : Int32)) 9 (f_X2_vector (fb_sR (fb_sR (fb_sR (fb_sR (fb_sP (fb_sT zs ((f_J7_fill_53178 4096 ((zs).2.2.1) (0 : Int32)))) ((f_X5_clear ((fb_sT zs ((f_J7_fill_53178 4096 ((zs).2.2.1) (0 : Int32))))).2.2.2.2.2))) 5 (0 : Int32)) 6 (0 : Int32)) 7 (255 : Int32)) 8 (4 : Int32)) (0 : Int32))) 10 (0 : Int32)) 11 (0 : Int32)) zw)) fu_X2 tyX2 tyX2_ok nmX2 0 rfl rfl (Nat.le_of_ble_eq_true rfl) fw_325 rfl rfl rfl rfl rfl (Nat.le_of_ble_eq_true rfl) fb_ms11 dX2_restart_53 (fun H locs I => ?_)
  refine lv_aload_n hx hb dX2_restart_56 rfl (lv_at hl 0 rfl) ?_
  refine lv_iconst (v := (0 : Int32)) hx hb dX2_restart_57 (by decide) ?_
  refine fb_put X I (k := 12) (wn := (fb_mw cI zq (fb_sR (fb_sR (fb_sR (fb_sR (fb_sR (fb_sR (fb_sR (fb_sR (fb_sP (fb_sT zs ((f_J7_fill_53178 4096 ((zs).2.2.1) (0 : Int32)))) ((f_X5_clear ((fb_sT zs ((f_J7_fill_53178 4096 ((zs).2.2.1) (0 : Int32))))).2.2.2.2.2))) 5 (0 : Int32)) 6 (0 : Int32)) 7 (255 : Int32)) 8 (4 : Int32)) 9 (f_X2_vector (fb_sR (fb_sR (fb_sR (fb_sR (fb_sP (fb_sT zs ((f_J7_fill_53178 4096 ((zs).2.2.1) (0 : Int32)))) ((f_X5_clear ((fb_sT zs ((f_J7_fill_53178 4096 ((zs).2.2.1) (0 : Int32))))).2.2.2.2.2))) 5 (0 : Int32)) 6 (0 : Int32)) 7 (255 : Int32)) 8 (4 : Int32)) (0 : Int32))) 10 (0 : Int32)) 11 (0 : Int32)) 12 (0 : Int32)) zw)) fu_X2 tyX2 tyX2_ok nmX2 0 rfl rfl (Nat.le_of_ble_eq_true rfl) fw_327 rfl rfl rfl rfl rfl (Nat.le_of_ble_eq_true rfl) fb_ms12 dX2_restart_58 (fun H locs I => ?_)
  refine lv_aload_n hx hb dX2_restart_61 rfl (lv_at hl 0 rfl) ?_
  refine lv_iconst (v := (0 : Int32)) hx hb dX2_restart_62 (by decide) ?_
  refine fb_put X I (k := 13) (wn := (fb_mw cI zq (fb_sR (fb_sR (fb_sR (fb_sR (fb_sR (fb_sR (fb_sR (fb_sR (fb_sR (fb_sP (fb_sT zs ((f_J7_fill_53178 4096 ((zs).2.2.1) (0 : Int32)))) ((f_X5_clear ((fb_sT zs ((f_J7_fill_53178 4096 ((zs).2.2.1) (0 : Int32))))).2.2.2.2.2))) 5 (0 : Int32)) 6 (0 : Int32)) 7 (255 : Int32)) 8 (4 : Int32)) 9 (f_X2_vector (fb_sR (fb_sR (fb_sR (fb_sR (fb_sP (fb_sT zs ((f_J7_fill_53178 4096 ((zs).2.2.1) (0 : Int32)))) ((f_X5_clear ((fb_sT zs ((f_J7_fill_53178 4096 ((zs).2.2.1) (0 : Int32))))).2.2.2.2.2))) 5 (0 : Int32)) 6 (0 : Int32)) 7 (255 : Int32)) 8 (4 : Int32)) (0 : Int32))) 10 (0 : Int32)) 11 (0 : Int32)) 12 (0 : Int32)) 13 (0 : Int32)) zw)) fu_X2 tyX2 tyX2_ok nmX2 0 rfl rfl (Nat.le_of_ble_eq_true rfl) fw_329 rfl rfl rfl rfl rfl (Nat.le_of_ble_eq_true rfl) fb_ms13 dX2_restart_63 (fun H locs I => ?_)
  refine lv_aload_n hx hb dX2_restart_66 rfl (lv_at hl 0 rfl) ?_
  refine lv_iconst (v := (0 : Int32)) hx hb dX2_restart_67 (by decide) ?_
  refine fb_put X I (k := 14) (wn := (fb_mw cI zq (fb_sR (fb_sR (fb_sR (fb_sR (fb_sR (fb_sR (fb_sR (fb_sR (fb_sR (fb_sR (fb_sP (fb_sT zs ((f_J7_fill_53178 4096 ((zs).2.2.1) (0 : Int32)))) ((f_X5_clear ((fb_sT zs ((f_J7_fill_53178 4096 ((zs).2.2.1) (0 : Int32))))).2.2.2.2.2))) 5 (0 : Int32)) 6 (0 : Int32)) 7 (255 : Int32)) 8 (4 : Int32)) 9 (f_X2_vector (fb_sR (fb_sR (fb_sR (fb_sR (fb_sP (fb_sT zs ((f_J7_fill_53178 4096 ((zs).2.2.1) (0 : Int32)))) ((f_X5_clear ((fb_sT zs ((f_J7_fill_53178 4096 ((zs).2.2.1) (0 : Int32))))).2.2.2.2.2))) 5 (0 : Int32)) 6 (0 : Int32)) 7 (255 : Int32)) 8 (4 : Int32)) (0 : Int32))) 10 (0 : Int32)) 11 (0 : Int32)) 12 (0 : Int32)) 13 (0 : Int32)) 14 (0 : Int32)) zw)) fu_X2 tyX2 tyX2_ok nmX2 0 rfl rfl (Nat.le_of_ble_eq_true rfl) fw_331 rfl rfl rfl rfl rfl (Nat.le_of_ble_eq_true rfl) fb_ms14 dX2_restart_68 (fun H locs I => ?_)
  refine lv_aload_n hx hb dX2_restart_71 rfl (lv_at hl 0 rfl) ?_
  refine lv_iconst (v := (0 : Int32)) hx hb dX2_restart_72 (by decide) ?_
  refine fb_put X I (k := 16) (wn := (fb_mw cI zq (fb_sB (fb_sR (fb_sR (fb_sR (fb_sR (fb_sR (fb_sR (fb_sR (fb_sR (fb_sR (fb_sR (fb_sP (fb_sT zs ((f_J7_fill_53178 4096 ((zs).2.2.1) (0 : Int32)))) ((f_X5_clear ((fb_sT zs ((f_J7_fill_53178 4096 ((zs).2.2.1) (0 : Int32))))).2.2.2.2.2))) 5 (0 : Int32)) 6 (0 : Int32)) 7 (255 : Int32)) 8 (4 : Int32)) 9 (f_X2_vector (fb_sR (fb_sR (fb_sR (fb_sR (fb_sP (fb_sT zs ((f_J7_fill_53178 4096 ((zs).2.2.1) (0 : Int32)))) ((f_X5_clear ((fb_sT zs ((f_J7_fill_53178 4096 ((zs).2.2.1) (0 : Int32))))).2.2.2.2.2))) 5 (0 : Int32)) 6 (0 : Int32)) 7 (255 : Int32)) 8 (4 : Int32)) (0 : Int32))) 10 (0 : Int32)) 11 (0 : Int32)) 12 (0 : Int32)) 13 (0 : Int32)) 14 (0 : Int32)) false) zw)) fu_X2 tyX2 tyX2_ok nmX2 0 rfl rfl (Nat.le_of_ble_eq_true rfl) fw_334 rfl rfl rfl rfl rfl (Nat.le_of_ble_eq_true rfl) rfl dX2_restart_73 (fun H locs I => ?_)
  subst E
  exact fb_retV (u := (zw)) X I trivial dX2_restart_76
set_option maxHeartbeats 4000000 in
set_option maxRecDepth 100000 in
theorem c_X2_restart (l : Launch) (D : va_G) (cI cJ : ClassId) (zq : Nat → Nat) (zs : fb_MS) (zw : fb_AR)  (sz : Nat)  : Met l yX2_restart (Cond.code yX2_restart cX2_restart 1 none :: fb_all) ({ frames := 2, cells := 0, slots := 0, locals := 43 } : Room) (fb_PP D (fb_ty cI cJ) [.ref (zq 0)] ((fb_mw cI zq zs zw)) sz) (fb_QV D (va_A ((fb_mw cI zq zs zw)) sz) (fun (_ : fb_AR) => True) (fun (t : fb_AR) => (fb_mw cI zq (((f_X2_restart zs))) (t)))) 0 0 (va_A ((fb_mw cI zq zs zw)) sz) := by
  refine fb_ent (Qf := fun A => (fb_QV D A (fun (_ : fb_AR) => True) (fun (t : fb_AR) => (fb_mw cI zq (((f_X2_restart zs))) (t))))) (by decide +kernel) (Nat.le_of_ble_eq_true rfl) ?_
  intro p e s m args below meth c A ls X I hl hin
  exact b_X2_restart_0 X  I hl rfl
/-! X2_exchange -/
def f_X2_exchange_81 (zs : fb_MS) (l1 : Int32) (l2 : Int32) (l3 : Int32) : Int32 × fb_MS := (if l1 = (3 : Int32) then (if l1 = (4 : Int32) then (l3, (fb_sR (fb_sR zs 8 l2) 9 l2)) else (l3, (fb_sR zs 8 l2))) else (if l1 = (4 : Int32) then (l3, (fb_sR zs 9 l2)) else (l3, zs)))
def f_X2_exchange_71 (zs : fb_MS) (l1 : Int32) (l2 : Int32) (l3 : Int32) : Int32 × fb_MS := (if l1 = (2 : Int32) then f_X2_exchange_81 (fb_sR zs 7 l2) l1 l2 l3 else f_X2_exchange_81 zs l1 l2 l3)
def f_X2_exchange_61 (zs : fb_MS) (l1 : Int32) (l2 : Int32) (l3 : Int32) : Int32 × fb_MS := (if l1 = (1 : Int32) then f_X2_exchange_71 (fb_sR zs 6 l2) l1 l2 l3 else f_X2_exchange_71 zs l1 l2 l3)
def f_X2_exchange_51 (zs : fb_MS) (l1 : Int32) (l2 : Int32) (k0 : Int32) : Int32 × fb_MS := (if l1 = 0 then f_X2_exchange_61 (fb_sR zs 5 l2) l1 l2 k0 else f_X2_exchange_61 zs l1 l2 k0)
def f_X2_exchange (zs : fb_MS) (l1 : Int32) (l2 : Int32) : Int32 × fb_MS := (if l1 = 0 then f_X2_exchange_51 zs l1 l2 ((zs).1 5) else (if l1 = (1 : Int32) then f_X2_exchange_51 zs l1 l2 ((zs).1 6) else (if l1 = (2 : Int32) then f_X2_exchange_51 zs l1 l2 ((zs).1 7) else (if l1 = (3 : Int32) then f_X2_exchange_51 zs l1 l2 ((zs).1 8) else f_X2_exchange_51 zs l1 l2 ((zs).1 9)))))
set_option maxHeartbeats 4000000 in
set_option maxRecDepth 100000 in
theorem b_X2_exchange_81 {p : Program} {l : Launch} {e : Env} {s : State} {m : MethodId} {args : Array Value} {below : List Frame} {meth : Method} {c : Code} {D : va_G} {cI cJ : ClassId} {A : Nat → Prop} {zq : Nat → Nat} {z : Int32 × fb_MS} (X : fb_Bx p s m args meth c cX2_exchange RX2 4 (some .int) D (fb_ty cI cJ) A)  {zs : fb_MS} {zw : fb_AR} {l1 : Int32} {l2 : Int32} {l3 : Int32} {H : Heap} {locs : List Loc} {ls : Array Slot} (I : fb_In D A s.heap ((fb_mw cI zq zs zw)) H locs) (hl : lv_has ls 4 [(0, .ref (zq 0)), (1, .int l1), (2, .int l2), (3, .int l3)]) (E : z = f_X2_exchange_81 zs l1 l2 l3) : W p l e ({ frames := 0, cells := 0, slots := 0, locals := 0 } : Room) s m args below meth c H locs 0 0 (MQ below (fb_QI D A (fun (r : Int32) (_ : fb_AR) => r = z.1) (fun (t : fb_AR) => (fb_mw cI zq (z.2) (t)))) args s 0 0 A) (F0 m 81 ls []) := by
  obtain ⟨hx, hb, hr, hml, hown, hts, hlk, hA, hK, hF⟩ := id X
  refine lv_iload_n hx hb dX2_exchange_81 rfl (lv_at hl 1 rfl) ?_
  refine lv_iconst (v := (3 : Int32)) hx hb dX2_exchange_82 (by decide) ?_
  refine lv_icmp_ne (tgt := 91) hx hb dX2_exchange_83 (by decide) (fun c22 => ?_) (fun c22 => ?_)
  · have E23 := (E.trans (if_neg c22))
    refine lv_iload_n hx hb dX2_exchange_91 rfl (lv_at hl 1 rfl) ?_
    refine lv_iconst (v := (4 : Int32)) hx hb dX2_exchange_92 (by decide) ?_
    refine lv_icmp_ne (tgt := 101) hx hb dX2_exchange_93 (by decide) (fun c25 => ?_) (fun c25 => ?_)
    · have E26 := (E23.trans (if_neg c25))
      refine lv_iload_n hx hb dX2_exchange_101 rfl (lv_at hl 3 rfl) ?_
      subst E26
      exact fb_retI (u := (zw)) X I rfl rfl dX2_exchange_102
    · have E27 := (E23.trans (if_pos c25))
      refine lv_aload_n hx hb dX2_exchange_96 rfl (lv_at hl 0 rfl) ?_
      refine lv_iload_n hx hb dX2_exchange_97 rfl (lv_at hl 2 rfl) ?_
      refine fb_put X I (k := 9) (wn := (fb_mw cI zq (fb_sR zs 9 l2) zw)) fu_X2 tyX2 tyX2_ok nmX2 0 rfl rfl (Nat.le_of_ble_eq_true rfl) fw_321 rfl rfl rfl rfl rfl (Nat.le_of_ble_eq_true rfl) fb_ms9 dX2_exchange_98 (fun H locs I => ?_)
      refine lv_iload_n hx hb dX2_exchange_101 rfl (lv_at hl 3 rfl) ?_
      subst E27
      exact fb_retI (u := (zw)) X I rfl rfl dX2_exchange_102
  · have E24 := (E.trans (if_pos c22))
    refine lv_aload_n hx hb dX2_exchange_86 rfl (lv_at hl 0 rfl) ?_
    refine lv_iload_n hx hb dX2_exchange_87 rfl (lv_at hl 2 rfl) ?_
    refine fb_put X I (k := 8) (wn := (fb_mw cI zq (fb_sR zs 8 l2) zw)) fu_X2 tyX2 tyX2_ok nmX2 0 rfl rfl (Nat.le_of_ble_eq_true rfl) fw_318 rfl rfl rfl rfl rfl (Nat.le_of_ble_eq_true rfl) fb_ms8 dX2_exchange_88 (fun H locs I => ?_)
    refine lv_iload_n hx hb dX2_exchange_91 rfl (lv_at hl 1 rfl) ?_
    refine lv_iconst (v := (4 : Int32)) hx hb dX2_exchange_92 (by decide) ?_
    refine lv_icmp_ne (tgt := 101) hx hb dX2_exchange_93 (by decide) (fun c28 => ?_) (fun c28 => ?_)
    · have E29 := (E24.trans (if_neg c28))
      refine lv_iload_n hx hb dX2_exchange_101 rfl (lv_at hl 3 rfl) ?_
      subst E29
      exact fb_retI (u := (zw)) X I rfl rfl dX2_exchange_102
    · have E30 := (E24.trans (if_pos c28))
      refine lv_aload_n hx hb dX2_exchange_96 rfl (lv_at hl 0 rfl) ?_
      refine lv_iload_n hx hb dX2_exchange_97 rfl (lv_at hl 2 rfl) ?_
      refine fb_put X I (k := 9) (wn := (fb_mw cI zq (fb_sR (fb_sR zs 8 l2) 9 l2) zw)) fu_X2 tyX2 tyX2_ok nmX2 0 rfl rfl (Nat.le_of_ble_eq_true rfl) fw_321 rfl rfl rfl rfl rfl (Nat.le_of_ble_eq_true rfl) fb_ms9 dX2_exchange_98 (fun H locs I => ?_)
      refine lv_iload_n hx hb dX2_exchange_101 rfl (lv_at hl 3 rfl) ?_
      subst E30
      exact fb_retI (u := (zw)) X I rfl rfl dX2_exchange_102
set_option maxHeartbeats 4000000 in
set_option maxRecDepth 100000 in
theorem b_X2_exchange_71 {p : Program} {l : Launch} {e : Env} {s : State} {m : MethodId} {args : Array Value} {below : List Frame} {meth : Method} {c : Code} {D : va_G} {cI cJ : ClassId} {A : Nat → Prop} {zq : Nat → Nat} {z : Int32 × fb_MS} (X : fb_Bx p s m args meth c cX2_exchange RX2 4 (some .int) D (fb_ty cI cJ) A)  {zs : fb_MS} {zw : fb_AR} {l1 : Int32} {l2 : Int32} {l3 : Int32} {H : Heap} {locs : List Loc} {ls : Array Slot} (I : fb_In D A s.heap ((fb_mw cI zq zs zw)) H locs) (hl : lv_has ls 4 [(0, .ref (zq 0)), (1, .int l1), (2, .int l2), (3, .int l3)]) (E : z = f_X2_exchange_71 zs l1 l2 l3) : W p l e ({ frames := 0, cells := 0, slots := 0, locals := 0 } : Room) s m args below meth c H locs 0 0 (MQ below (fb_QI D A (fun (r : Int32) (_ : fb_AR) => r = z.1) (fun (t : fb_AR) => (fb_mw cI zq (z.2) (t)))) args s 0 0 A) (F0 m 71 ls []) := by
  obtain ⟨hx, hb, hr, hml, hown, hts, hlk, hA, hK, hF⟩ := id X
  refine lv_iload_n hx hb dX2_exchange_71 rfl (lv_at hl 1 rfl) ?_
  refine lv_iconst (v := (2 : Int32)) hx hb dX2_exchange_72 (by decide) ?_
  refine lv_icmp_ne (tgt := 81) hx hb dX2_exchange_73 (by decide) (fun c19 => ?_) (fun c19 => ?_)
  · have E20 := (E.trans (if_neg c19))
    exact b_X2_exchange_81 X  (l1 := l1) (l2 := l2) (l3 := l3) I (lv_sub hl [0, 1, 2, 3] rfl) E20
  · have E21 := (E.trans (if_pos c19))
    refine lv_aload_n hx hb dX2_exchange_76 rfl (lv_at hl 0 rfl) ?_
    refine lv_iload_n hx hb dX2_exchange_77 rfl (lv_at hl 2 rfl) ?_
    refine fb_put X I (k := 7) (wn := (fb_mw cI zq (fb_sR zs 7 l2) zw)) fu_X2 tyX2 tyX2_ok nmX2 0 rfl rfl (Nat.le_of_ble_eq_true rfl) fw_316 rfl rfl rfl rfl rfl (Nat.le_of_ble_eq_true rfl) fb_ms7 dX2_exchange_78 (fun H locs I => ?_)
    exact b_X2_exchange_81 X  (l1 := l1) (l2 := l2) (l3 := l3) I (lv_sub hl [0, 1, 2, 3] rfl) E21
set_option maxHeartbeats 4000000 in
set_option maxRecDepth 100000 in
theorem b_X2_exchange_61 {p : Program} {l : Launch} {e : Env} {s : State} {m : MethodId} {args : Array Value} {below : List Frame} {meth : Method} {c : Code} {D : va_G} {cI cJ : ClassId} {A : Nat → Prop} {zq : Nat → Nat} {z : Int32 × fb_MS} (X : fb_Bx p s m args meth c cX2_exchange RX2 4 (some .int) D (fb_ty cI cJ) A)  {zs : fb_MS} {zw : fb_AR} {l1 : Int32} {l2 : Int32} {l3 : Int32} {H : Heap} {locs : List Loc} {ls : Array Slot} (I : fb_In D A s.heap ((fb_mw cI zq zs zw)) H locs) (hl : lv_has ls 4 [(0, .ref (zq 0)), (1, .int l1), (2, .int l2), (3, .int l3)]) (E : z = f_X2_exchange_61 zs l1 l2 l3) : W p l e ({ frames := 0, cells := 0, slots := 0, locals := 0 } : Room) s m args below meth c H locs 0 0 (MQ below (fb_QI D A (fun (r : Int32) (_ : fb_AR) => r = z.1) (fun (t : fb_AR) => (fb_mw cI zq (z.2) (t)))) args s 0 0 A) (F0 m 61 ls []) := by
  obtain ⟨hx, hb, hr, hml, hown, hts, hlk, hA, hK, hF⟩ := id X
  refine lv_iload_n hx hb dX2_exchange_61 rfl (lv_at hl 1 rfl) ?_
  refine lv_iconst (v := (1 : Int32)) hx hb dX2_exchange_62 (by decide) ?_
  refine lv_icmp_ne (tgt := 71) hx hb dX2_exchange_63 (by decide) (fun c16 => ?_) (fun c16 => ?_)
  · have E17 := (E.trans (if_neg c16))
    exact b_X2_exchange_71 X  (l1 := l1) (l2 := l2) (l3 := l3) I (lv_sub hl [0, 1, 2, 3] rfl) E17
  · have E18 := (E.trans (if_pos c16))
    refine lv_aload_n hx hb dX2_exchange_66 rfl (lv_at hl 0 rfl) ?_
    refine lv_iload_n hx hb dX2_exchange_67 rfl (lv_at hl 2 rfl) ?_
    refine fb_put X I (k := 6) (wn := (fb_mw cI zq (fb_sR zs 6 l2) zw)) fu_X2 tyX2 tyX2_ok nmX2 0 rfl rfl (Nat.le_of_ble_eq_true rfl) fw_314 rfl rfl rfl rfl rfl (Nat.le_of_ble_eq_true rfl) fb_ms6 dX2_exchange_68 (fun H locs I => ?_)
    exact b_X2_exchange_71 X  (l1 := l1) (l2 := l2) (l3 := l3) I (lv_sub hl [0, 1, 2, 3] rfl) E18
set_option maxHeartbeats 4000000 in
set_option maxRecDepth 100000 in
theorem b_X2_exchange_51 {p : Program} {l : Launch} {e : Env} {s : State} {m : MethodId} {args : Array Value} {below : List Frame} {meth : Method} {c : Code} {D : va_G} {cI cJ : ClassId} {A : Nat → Prop} {zq : Nat → Nat} {z : Int32 × fb_MS} (X : fb_Bx p s m args meth c cX2_exchange RX2 4 (some .int) D (fb_ty cI cJ) A)  {zs : fb_MS} {zw : fb_AR} {l1 : Int32} {l2 : Int32} {k0 : Int32} {H : Heap} {locs : List Loc} {ls : Array Slot} (I : fb_In D A s.heap ((fb_mw cI zq zs zw)) H locs) (hl : lv_has ls 4 [(0, .ref (zq 0)), (1, .int l1), (2, .int l2)]) (E : z = f_X2_exchange_51 zs l1 l2 k0) : W p l e ({ frames := 0, cells := 0, slots := 0, locals := 0 } : Room) s m args below meth c H locs 0 0 (MQ below (fb_QI D A (fun (r : Int32) (_ : fb_AR) => r = z.1) (fun (t : fb_AR) => (fb_mw cI zq (z.2) (t)))) args s 0 0 A) (F0 m 51 ls [.int k0]) := by
  obtain ⟨hx, hb, hr, hml, hown, hts, hlk, hA, hK, hF⟩ := id X
  refine lv_istore_n (lv' := [(3, .int k0), (0, .ref (zq 0)), (1, .int l1), (2, .int l2)]) hx hb dX2_exchange_51 rfl hl (by decide) rfl (fun ls hl => ?_)
  refine lv_iload_n hx hb dX2_exchange_52 rfl (lv_at hl 2 rfl) ?_
  refine lv_if_ne (tgt := 61) hx hb dX2_exchange_53 (by decide) (fun c13 => ?_) (fun c13 => ?_)
  · have E14 := (E.trans (if_neg c13))
    exact b_X2_exchange_61 X  (l1 := l1) (l2 := l2) (l3 := k0) I (lv_sub hl [1, 2, 3, 0] rfl) E14
  · have E15 := (E.trans (if_pos c13))
    refine lv_aload_n hx hb dX2_exchange_56 rfl (lv_at hl 1 rfl) ?_
    refine lv_iload_n hx hb dX2_exchange_57 rfl (lv_at hl 3 rfl) ?_
    refine fb_put X I (k := 5) (wn := (fb_mw cI zq (fb_sR zs 5 l2) zw)) fu_X2 tyX2 tyX2_ok nmX2 0 rfl rfl (Nat.le_of_ble_eq_true rfl) fw_312 rfl rfl rfl rfl rfl (Nat.le_of_ble_eq_true rfl) fb_ms5 dX2_exchange_58 (fun H locs I => ?_)
    exact b_X2_exchange_61 X  (l1 := l1) (l2 := l2) (l3 := k0) I (lv_sub hl [1, 2, 3, 0] rfl) E15
set_option maxHeartbeats 4000000 in
set_option maxRecDepth 100000 in
theorem b_X2_exchange_0 {p : Program} {l : Launch} {e : Env} {s : State} {m : MethodId} {args : Array Value} {below : List Frame} {meth : Method} {c : Code} {D : va_G} {cI cJ : ClassId} {A : Nat → Prop} {zq : Nat → Nat} {z : Int32 × fb_MS} (X : fb_Bx p s m args meth c cX2_exchange RX2 4 (some .int) D (fb_ty cI cJ) A)  {zs : fb_MS} {zw : fb_AR} {l1 : Int32} {l2 : Int32} {H : Heap} {locs : List Loc} {ls : Array Slot} (I : fb_In D A s.heap ((fb_mw cI zq zs zw)) H locs) (hl : lv_has ls 4 [(0, .ref (zq 0)), (1, .int l1), (2, .int l2)]) (E : z = f_X2_exchange zs l1 l2) : W p l e ({ frames := 0, cells := 0, slots := 0, locals := 0 } : Room) s m args below meth c H locs 0 0 (MQ below (fb_QI D A (fun (r : Int32) (_ : fb_AR) => r = z.1) (fun (t : fb_AR) => (fb_mw cI zq (z.2) (t)))) args s 0 0 A) (F0 m 0 ls []) := by
  obtain ⟨hx, hb, hr, hml, hown, hts, hlk, hA, hK, hF⟩ := id X
  refine lv_iload_n hx hb dX2_exchange_0 rfl (lv_at hl 1 rfl) ?_
  refine lv_if_ne (tgt := 11) hx hb dX2_exchange_1 (by decide) (fun c1 => ?_) (fun c1 => ?_)
  · have E2 := (E.trans (if_neg c1))
    refine lv_iload_n hx hb dX2_exchange_11 rfl (lv_at hl 1 rfl) ?_
    refine lv_iconst (v := (1 : Int32)) hx hb dX2_exchange_12 (by decide) ?_
    refine lv_icmp_ne (tgt := 23) hx hb dX2_exchange_13 (by decide) (fun c4 => ?_) (fun c4 => ?_)
    · have E5 := (E2.trans (if_neg c4))
      refine lv_iload_n hx hb dX2_exchange_23 rfl (lv_at hl 1 rfl) ?_
      refine lv_iconst (v := (2 : Int32)) hx hb dX2_exchange_24 (by decide) ?_
      refine lv_icmp_ne (tgt := 35) hx hb dX2_exchange_25 (by decide) (fun c7 => ?_) (fun c7 => ?_)
      · have E8 := (E5.trans (if_neg c7))
        refine lv_iload_n hx hb dX2_exchange_35 rfl (lv_at hl 1 rfl) ?_
        refine lv_iconst (v := (3 : Int32)) hx hb dX2_exchange_36 (by decide) ?_
        refine lv_icmp_ne (tgt := 47) hx hb dX2_exchange_37 (by decide) (fun c10 => ?_) (fun c10 => ?_)
        · have E11 := (E8.trans (if_neg c10))
          refine lv_aload_n hx hb dX2_exchange_47 rfl (lv_at hl 0 rfl) ?_
          refine fb_get X I (k := 9) fu_X2 0 rfl rfl (Nat.le_of_ble_eq_true rfl) fw_321 rfl rfl dX2_exchange_48 ?_
          exact b_X2_exchange_51 X  (l1 := l1) (l2 := l2) (k0 := ((zs).1 9)) I (lv_sub hl [0, 1, 2] rfl) E11
        · have E12 := (E8.trans (if_pos c10))
          refine lv_aload_n hx hb dX2_exchange_40 rfl (lv_at hl 0 rfl) ?_
          refine fb_get X I (k := 8) fu_X2 0 rfl rfl (Nat.le_of_ble_eq_true rfl) fw_318 rfl rfl dX2_exchange_41 ?_
          refine lv_goto (tgt := 51) hx hb dX2_exchange_44 (by decide) ?_
          exact b_X2_exchange_51 X  (l1 := l1) (l2 := l2) (k0 := ((zs).1 8)) I (lv_sub hl [0, 1, 2] rfl) E12
      · have E9 := (E5.trans (if_pos c7))
        refine lv_aload_n hx hb dX2_exchange_28 rfl (lv_at hl 0 rfl) ?_
        refine fb_get X I (k := 7) fu_X2 0 rfl rfl (Nat.le_of_ble_eq_true rfl) fw_316 rfl rfl dX2_exchange_29 ?_
        refine lv_goto (tgt := 51) hx hb dX2_exchange_32 (by decide) ?_
        exact b_X2_exchange_51 X  (l1 := l1) (l2 := l2) (k0 := ((zs).1 7)) I (lv_sub hl [0, 1, 2] rfl) E9
    · have E6 := (E2.trans (if_pos c4))
      refine lv_aload_n hx hb dX2_exchange_16 rfl (lv_at hl 0 rfl) ?_
      refine fb_get X I (k := 6) fu_X2 0 rfl rfl (Nat.le_of_ble_eq_true rfl) fw_314 rfl rfl dX2_exchange_17 ?_
      refine lv_goto (tgt := 51) hx hb dX2_exchange_20 (by decide) ?_
      exact b_X2_exchange_51 X  (l1 := l1) (l2 := l2) (k0 := ((zs).1 6)) I (lv_sub hl [0, 1, 2] rfl) E6
  · have E3 := (E.trans (if_pos c1))
    refine lv_aload_n hx hb dX2_exchange_4 rfl (lv_at hl 0 rfl) ?_
    refine fb_get X I (k := 5) fu_X2 0 rfl rfl (Nat.le_of_ble_eq_true rfl) fw_312 rfl rfl dX2_exchange_5 ?_
    refine lv_goto (tgt := 51) hx hb dX2_exchange_8 (by decide) ?_
    exact b_X2_exchange_51 X  (l1 := l1) (l2 := l2) (k0 := ((zs).1 5)) I (lv_sub hl [0, 1, 2] rfl) E3
set_option maxHeartbeats 4000000 in
set_option maxRecDepth 100000 in
theorem c_X2_exchange (l : Launch) (D : va_G) (cI cJ : ClassId) (zq : Nat → Nat) (zs : fb_MS) (zw : fb_AR) (l1 : Int32) (l2 : Int32) (sz : Nat)  : Met l yX2_exchange (Cond.code yX2_exchange cX2_exchange 4 (some .int) :: fb_all) ({ frames := 0, cells := 0, slots := 0, locals := 0 } : Room) (fb_PP D (fb_ty cI cJ) [.ref (zq 0), .int l1, .int l2] ((fb_mw cI zq zs zw)) sz) (fb_QI D (va_A ((fb_mw cI zq zs zw)) sz) (fun (r : Int32) (_ : fb_AR) => r = ((f_X2_exchange zs l1 l2)).1) (fun (t : fb_AR) => (fb_mw cI zq (((f_X2_exchange zs l1 l2)).2) (t)))) 0 0 (va_A ((fb_mw cI zq zs zw)) sz) := by
  refine fb_ent (Qf := fun A => (fb_QI D A (fun (r : Int32) (_ : fb_AR) => r = ((f_X2_exchange zs l1 l2)).1) (fun (t : fb_AR) => (fb_mw cI zq (((f_X2_exchange zs l1 l2)).2) (t))))) (by decide +kernel) (Nat.le_of_ble_eq_true rfl) ?_
  intro p e s m args below meth c A ls X I hl hin
  exact b_X2_exchange_0 X  I hl rfl
