/-! X11_digest -/
def f_X11_digest_114  : Nat → fb_MS → fb_AR → fb_AR → fb_AR → fb_AR → fb_AR → fb_AR → fb_AR → fb_AR → Int64 → Int32 → Int64
  | 0, zs, ze6, zc, zbg, zop, ze7, ze0, ze3, zk, _, _ => 0
  | n + 1, zs, ze6, zc, zbg, zop, ze7, ze0, ze3, zk, l1, l3 => (if (11008 : Int32) ≤ l3 then (f_X5_mixOutputs (zs).2.2.2.2.2 l1) else f_X11_digest_114 n zs ze6 zc zbg zop ze7 ze0 ze3 zk ((l1 * (31 : Int64)) + (((f_X11_at 11008 ((zs).2.1) l3)).toInt64)) (l3 + (1 : Int32)))
def f_X11_digest (zs : fb_MS) (ze6 : fb_AR) (zc : fb_AR) (zbg : fb_AR) (zop : fb_AR) (ze7 : fb_AR) (ze0 : fb_AR) (ze3 : fb_AR) (zk : fb_AR) : Int64 := f_X11_digest_114 ((fb_mu (0 : Int32) (11008 : Int32)) + 1) zs ((f_X6_explore ze6 zc zbg zop zs).1) ((f_X6_explore ze6 zc zbg zop zs).2.1) ((f_X6_explore ze6 zc zbg zop zs).2.2.1) ((f_X6_explore ze6 zc zbg zop zs).2.2.2) ze7 ze0 ze3 zk (((((f_X3_mix ze3 zk (f_X2_mixCalls zs (((((f_X5_mixCounts (zs).2.2.2.2.2 (f_X2_mixRegisters zs (58008 : Int64))) * (31 : Int64)) + (((ze7 7)).toInt64)) * (31 : Int64)) + (((ze0 5)).toInt64)))) * (31 : Int64)) + (((f_X2_busiest zs)).toInt64)) * (31 : Int64)) + (((((f_X6_explore ze6 zc zbg zop zs).1) 4)).toInt64)) (0 : Int32)
set_option maxHeartbeats 4000000 in
set_option maxRecDepth 100000 in
theorem b_X11_digest_114 {p : Program} {l : Launch} {e : Env} {s : State} {m : MethodId} {args : Array Value} {below : List Frame} {meth : Method} {c : Code} {D : va_G} {cI cJ : ClassId} {A : Nat → Prop} {zb : Nat} {zr0 : Nat} {zna : Nat} {zr2 : Nat} {zr3 : Nat} {zr4 : Nat} {zr6 : Nat} {zh : Nat} {zst : Nat} {zre : Nat} {zq : Nat → Nat} {zs : fb_MS} {zw : fb_AR} {zac : Nat} {zab : Nat} {zao : Nat} {zs0 : Nat} {zs1 : Nat} {zs3 : Nat} {zs4 : Nat} {zs5 : Nat} {ze7 : fb_AR} {zo : Nat} {zn : Nat} {ze0 : fb_AR} {zn0 : Nat} {zn1 : Nat} {zn3 : Nat} {ze3 : fb_AR} {zk : fb_AR} {z : Int64} (X : fb_Bx p s m args meth c cX11_digest RX11 4 (some .long) D (fb_ty D cI cJ) A)  : ∀ (n : Nat) {ze6 : fb_AR} {zc : fb_AR} {zbg : fb_AR} {zop : fb_AR} {l1 : Int64} {l3 : Int32} {H : Heap} {locs : List Loc} {ls : Array Slot} (hm : (fb_mu l3 (11008 : Int32)) < n) (I : fb_In D A s.heap ((fb_o11 zb zr0 zna zr2 zr3 zr4 (zq 0) zr6 zh zst zre) ++ ((fb_mw cI zq zs zw) ++ ((fb_o6 zre zac zab zao ze6) ++ ((fb_aw cI zac 4096 zc) ++ ((fb_aw cI zab 4096 zbg) ++ ((fb_aw cI zao 4096 zop) ++ ((fb_o7 zst zs0 zs1 zs3 zs4 zs5 ze7) ++ ((fb_o0 zh zo zn ze0) ++ ((fb_o3 zna zn0 zn1 zn3 ze3) ++ (fb_aw cI zn3 120 zk)))))))))) H locs) (hl : lv_has ls 4 [(0, .ref zb), (1, .long l1), (3, .int l3)]) (E : z = f_X11_digest_114 n zs ze6 zc zbg zop ze7 ze0 ze3 zk l1 l3), W p l e ({ frames := 6, cells := 0, slots := 0, locals := 135 } : Room) s m args below meth c H locs 0 0 (MQ below (fb_QL D A (fun (r : Int64) (_ : fb_AR × fb_AR × fb_AR × fb_AR) => r = z) (fun (t : fb_AR × fb_AR × fb_AR × fb_AR) => (fb_o11 zb zr0 zna zr2 zr3 zr4 (zq 0) zr6 zh zst zre) ++ ((fb_mw cI zq zs zw) ++ ((fb_o6 zre zac zab zao (t.1)) ++ ((fb_aw cI zac 4096 (t.2.1)) ++ ((fb_aw cI zab 4096 (t.2.2.1)) ++ ((fb_aw cI zao 4096 (t.2.2.2)) ++ ((fb_o7 zst zs0 zs1 zs3 zs4 zs5 ze7) ++ ((fb_o0 zh zo zn ze0) ++ ((fb_o3 zna zn0 zn1 zn3 ze3) ++ (fb_aw cI zn3 120 zk))))))))))) args s 0 0 A) (F0 m 114 ls []) := by
  intro n
  obtain ⟨hx, hb, hr, hml, hown, hts, hlk, hA, hK, hF⟩ := id X
  induction n with
  | zero =>
    intro ze6 zc zbg zop l1 l3 H locs ls hm
    exact absurd hm (Nat.not_lt_zero _)
  | succ n ih =>
    intro ze6 zc zbg zop l1 l3 H locs ls hm I hl E
    refine lv_iload_n hx hb dX11_digest_114 rfl (lv_at hl 2 rfl) ?_
    refine lv_sipush (v := (11008 : Int32)) hx hb dX11_digest_115 (by decide) ?_
    refine lv_icmp_ge (tgt := 146) hx hb dX11_digest_118 (by decide) (fun c2 => ?_) (fun c2 => ?_)
    · have E3 := (E.trans (if_pos c2))
      refine lv_aload_n hx hb dX11_digest_146 rfl (lv_at hl 0 rfl) ?_
      refine fb_get X I (k := 5) fu_X11 0 rfl rfl (Nat.le_of_ble_eq_true rfl) fw_692 rfl rfl dX11_digest_147 ?_
      refine fb_get X I (k := 4) fu_X2 1 rfl rfl (Nat.le_of_ble_eq_true rfl) fw_523 rfl rfl dX11_digest_150 ?_
      refine lv_lload_n hx hb dX11_digest_153 rfl (lv_at hl 1 rfl) ?_
      refine fb_roL X I (fb_runV (As := [.long l1]) (rest := []) (q0 := 6) X I hl (c_X5_mixOutputs l D cI cJ zq (zs).2.2.2.2.2 l1 _) (fb_goodV fw_1570 fw_1571 fw_1572 fw_199 fw_1573) rfl rfl rfl (by decide +kernel : fb_hd yX5_mixOutputs 1) ⟨Nat.le_of_ble_eq_true rfl, Nat.le_of_ble_eq_true rfl⟩ [6, 7, 8] (by decide) rfl rfl rfl rfl rfl rfl (Nat.le_of_ble_eq_true rfl) ⟨Nat.zero_le _, Nat.zero_le _⟩ dX11_digest_154) ?_
      subst E3
      exact fb_retL (u := (ze6, zc, zbg, zop)) X I rfl dX11_digest_157
    · have E4 := (E.trans (if_neg c2))
      refine lv_lload_n hx hb dX11_digest_121 rfl (lv_at hl 1 rfl) ?_
      refine lv_ldc2 hx hb hown (hts _ fw_1558) dX11_digest_122 ?_
      refine lv_lmul hx hb dX11_digest_125 ?_
      refine lv_aload_n hx hb dX11_digest_126 rfl (lv_at hl 0 rfl) ?_
      refine fb_get X I (k := 5) fu_X11 0 rfl rfl (Nat.le_of_ble_eq_true rfl) fw_692 rfl rfl dX11_digest_127 ?_
      refine fb_get X I (k := 0) fu_X2 1 rfl rfl (Nat.le_of_ble_eq_true rfl) fw_515 rfl rfl dX11_digest_130 ?_
      refine lv_iload_n hx hb dX11_digest_133 rfl (lv_at hl 2 rfl) ?_
      refine fb_roI X I (fb_runS (As := [.ref (zq 1), .int l3]) (rest := [.long (l1 * (31 : Int64))]) X I hl (c_X11_at l D cI cJ (zq 1) 11008 ((zs).2.1) l3 _ (by decide)) (fb_goodS fw_1569 fw_685 fw_191 fw_686) rfl rfl (by decide +kernel : fb_hd yX11_at 2) ⟨Nat.le_of_ble_eq_true rfl, Nat.le_of_ble_eq_true rfl⟩ [2] (by decide) rfl rfl rfl (Nat.le_of_ble_eq_true rfl) ⟨Nat.zero_le _, Nat.zero_le _⟩ dX11_digest_134) ?_
      refine lv_i2l (v := ((f_X11_at 11008 ((zs).2.1) l3)).toInt64) hx hb dX11_digest_137 rfl ?_
      refine lv_ladd hx hb dX11_digest_138 ?_
      refine lv_lstore_n (lv' := [(1, .long ((l1 * (31 : Int64)) + (((f_X11_at 11008 ((zs).2.1) l3)).toInt64))), (0, .ref zb), (3, .int l3)]) hx hb dX11_digest_139 rfl hl (by decide) rfl (fun ls hl => ?_)
      refine lv_iinc (v := (l3 + (1 : Int32))) (lv' := [(3, .int (l3 + (1 : Int32))), (1, .long ((l1 * (31 : Int64)) + (((f_X11_at 11008 ((zs).2.1) l3)).toInt64))), (0, .ref zb)]) hx hb dX11_digest_140 hl (k := 2) rfl rfl (by decide) rfl (fun ls hl => ?_)
      refine lv_goto (tgt := 114) hx hb dX11_digest_143 (by decide) ?_
      exact ih (l1 := ((l1 * (31 : Int64)) + (((f_X11_at 11008 ((zs).2.1) l3)).toInt64))) (l3 := (l3 + (1 : Int32))) (fb_mu_ge c2 hm)  I (lv_sub hl [2, 1, 0] rfl) E4
set_option maxHeartbeats 4000000 in
set_option maxRecDepth 100000 in
theorem b_X11_digest_0 {p : Program} {l : Launch} {e : Env} {s : State} {m : MethodId} {args : Array Value} {below : List Frame} {meth : Method} {c : Code} {D : va_G} {cI cJ : ClassId} {A : Nat → Prop} {zb : Nat} {zr0 : Nat} {zna : Nat} {zr2 : Nat} {zr3 : Nat} {zr4 : Nat} {zr6 : Nat} {zh : Nat} {zst : Nat} {zre : Nat} {zq : Nat → Nat} {zs : fb_MS} {zw : fb_AR} {zac : Nat} {zab : Nat} {zao : Nat} {zs0 : Nat} {zs1 : Nat} {zs3 : Nat} {zs4 : Nat} {zs5 : Nat} {ze7 : fb_AR} {zo : Nat} {zn : Nat} {ze0 : fb_AR} {zn0 : Nat} {zn1 : Nat} {zn3 : Nat} {ze3 : fb_AR} {zk : fb_AR} {z : Int64} (X : fb_Bx p s m args meth c cX11_digest RX11 4 (some .long) D (fb_ty D cI cJ) A) {ze6 : fb_AR} {zc : fb_AR} {zbg : fb_AR} {zop : fb_AR} {H : Heap} {locs : List Loc} {ls : Array Slot}  (I : fb_In D A s.heap ((fb_o11 zb zr0 zna zr2 zr3 zr4 (zq 0) zr6 zh zst zre) ++ ((fb_mw cI zq zs zw) ++ ((fb_o6 zre zac zab zao ze6) ++ ((fb_aw cI zac 4096 zc) ++ ((fb_aw cI zab 4096 zbg) ++ ((fb_aw cI zao 4096 zop) ++ ((fb_o7 zst zs0 zs1 zs3 zs4 zs5 ze7) ++ ((fb_o0 zh zo zn ze0) ++ ((fb_o3 zna zn0 zn1 zn3 ze3) ++ (fb_aw cI zn3 120 zk)))))))))) H locs) (hl : lv_has ls 4 [(0, .ref zb)]) (E : z = f_X11_digest zs ze6 zc zbg zop ze7 ze0 ze3 zk) : W p l e ({ frames := 6, cells := 0, slots := 0, locals := 135 } : Room) s m args below meth c H locs 0 0 (MQ below (fb_QL D A (fun (r : Int64) (_ : fb_AR × fb_AR × fb_AR × fb_AR) => r = z) (fun (t : fb_AR × fb_AR × fb_AR × fb_AR) => (fb_o11 zb zr0 zna zr2 zr3 zr4 (zq 0) zr6 zh zst zre) ++ ((fb_mw cI zq zs zw) ++ ((fb_o6 zre zac zab zao (t.1)) ++ ((fb_aw cI zac 4096 (t.2.1)) ++ ((fb_aw cI zab 4096 (t.2.2.1)) ++ ((fb_aw cI zao 4096 (t.2.2.2)) ++ ((fb_o7 zst zs0 zs1 zs3 zs4 zs5 ze7) ++ ((fb_o0 zh zo zn ze0) ++ ((fb_o3 zna zn0 zn1 zn3 ze3) ++ (fb_aw cI zn3 120 zk))))))))))) args s 0 0 A) (F0 m 0 ls []) := by
  obtain ⟨hx, hb, hr, hml, hown, hts, hlk, hA, hK, hF⟩ := id X
  refine lv_aload_n hx hb dX11_digest_0 rfl (lv_at hl 0 rfl) ?_
  refine fb_get X I (k := 9) fu_X11 0 rfl rfl (Nat.le_of_ble_eq_true rfl) fw_696 rfl rfl dX11_digest_1 ?_
  refine lv_aload_n hx hb dX11_digest_4 rfl (lv_at hl 0 rfl) ?_
  refine fb_get X I (k := 5) fu_X11 0 rfl rfl (Nat.le_of_ble_eq_true rfl) fw_692 rfl rfl dX11_digest_5 ?_
  refine fb_goV (wn := fun (w1 : Unit) => (fb_o11 zb zr0 zna zr2 zr3 zr4 (zq 0) zr6 zh zst zre) ++ ((fb_mw cI zq zs zw) ++ ((fb_o6 zre zac zab zao ((f_X6_explore ze6 zc zbg zop zs).1)) ++ ((fb_aw cI zac 4096 ((f_X6_explore ze6 zc zbg zop zs).2.1)) ++ ((fb_aw cI zab 4096 ((f_X6_explore ze6 zc zbg zop zs).2.2.1)) ++ ((fb_aw cI zao 4096 ((f_X6_explore ze6 zc zbg zop zs).2.2.2)) ++ ((fb_o7 zst zs0 zs1 zs3 zs4 zs5 ze7) ++ ((fb_o0 zh zo zn ze0) ++ ((fb_o3 zna zn0 zn1 zn3 ze3) ++ (fb_aw cI zn3 120 zk)))))))))) X I (fb_runV (As := [.ref (zq 0)]) (rest := []) (q0 := 9) X I hl (c_X6_explore l D cI cJ zre zac zab zao ze6 zc zbg zop zq zs zw _) (fb_goodV fw_1513 fw_1514 fw_1515 fw_202 fw_1516) rfl rfl rfl (by decide +kernel : fb_hd yX6_explore 1) ⟨Nat.le_of_ble_eq_true rfl, Nat.le_of_ble_eq_true rfl⟩ [9, 10, 11, 12, 1, 2, 3, 4, 5, 6, 7, 8] (by decide) rfl rfl rfl rfl rfl rfl (Nat.le_of_ble_eq_true rfl) ⟨Nat.zero_le _, Nat.zero_le _⟩ dX11_digest_8) [9, 10, 11, 12, 1, 2, 3, 4, 5, 6, 7, 8] [0, 13, 14, 15, 16] [0, 9, 10, 11, 12, 13, 14, 15, 16, 5, 6, 7, 8, 1, 2, 3, 4] rfl rfl (by decide) (by decide) (by decide) (fun _ => rfl) ?_
  intro w1 H locs _ I
  refine lv_aload_n hx hb dX11_digest_11 rfl (lv_at hl 0 rfl) ?_
  refine fb_get X I (k := 5) fu_X11 0 rfl rfl (Nat.le_of_ble_eq_true rfl) fw_692 rfl rfl dX11_digest_12 ?_
  refine lv_ldc2 hx hb hown (hts _ fw_1547) dX11_digest_15 ?_
  refine fb_roL X I (fb_runV (As := [.long (58008 : Int64)]) (rest := []) (q0 := 1) X I hl (c_X2_mixRegisters l D cI cJ zq zs zw (58008 : Int64) _) (fb_goodV fw_1548 fw_1549 fw_1550 fw_198 fw_1551) rfl rfl rfl (by decide +kernel : fb_hd yX2_mixRegisters 1) ⟨Nat.le_of_ble_eq_true rfl, Nat.le_of_ble_eq_true rfl⟩ [1, 2, 3, 4, 5, 6, 7, 8] (by decide) rfl rfl rfl rfl rfl rfl (Nat.le_of_ble_eq_true rfl) ⟨Nat.zero_le _, Nat.zero_le _⟩ dX11_digest_18) ?_
  refine lv_lstore_n (lv' := [(1, .long (f_X2_mixRegisters zs (58008 : Int64))), (0, .ref zb)]) hx hb dX11_digest_21 rfl hl (by decide) rfl (fun ls hl => ?_)
  refine lv_aload_n hx hb dX11_digest_22 rfl (lv_at hl 1 rfl) ?_
  refine fb_get X I (k := 5) fu_X11 0 rfl rfl (Nat.le_of_ble_eq_true rfl) fw_692 rfl rfl dX11_digest_23 ?_
  refine fb_get X I (k := 4) fu_X2 1 rfl rfl (Nat.le_of_ble_eq_true rfl) fw_523 rfl rfl dX11_digest_26 ?_
  refine lv_lload_n hx hb dX11_digest_29 rfl (lv_at hl 0 rfl) ?_
  refine fb_roL X I (fb_runV (As := [.long (f_X2_mixRegisters zs (58008 : Int64))]) (rest := []) (q0 := 6) X I hl (c_X5_mixCounts l D cI cJ zq (zs).2.2.2.2.2 (f_X2_mixRegisters zs (58008 : Int64)) _) (fb_goodV fw_1553 fw_1554 fw_1555 fw_199 fw_1556) rfl rfl rfl (by decide +kernel : fb_hd yX5_mixCounts 1) ⟨Nat.le_of_ble_eq_true rfl, Nat.le_of_ble_eq_true rfl⟩ [6, 7, 8] (by decide) rfl rfl rfl rfl rfl rfl (Nat.le_of_ble_eq_true rfl) ⟨Nat.zero_le _, Nat.zero_le _⟩ dX11_digest_30) ?_
  refine lv_lstore_n (lv' := [(1, .long (f_X5_mixCounts (zs).2.2.2.2.2 (f_X2_mixRegisters zs (58008 : Int64)))), (0, .ref zb)]) hx hb dX11_digest_33 rfl hl (by decide) rfl (fun ls hl => ?_)
  refine lv_lload_n hx hb dX11_digest_34 rfl (lv_at hl 0 rfl) ?_
  refine lv_ldc2 hx hb hown (hts _ fw_1558) dX11_digest_35 ?_
  refine lv_lmul hx hb dX11_digest_38 ?_
  refine lv_aload_n hx hb dX11_digest_39 rfl (lv_at hl 1 rfl) ?_
  refine fb_get X I (k := 8) fu_X11 0 rfl rfl (Nat.le_of_ble_eq_true rfl) fw_695 rfl rfl dX11_digest_40 ?_
  refine fb_get X I (k := 7) fu_X7 13 rfl rfl (Nat.le_of_ble_eq_true rfl) fw_627 rfl rfl dX11_digest_43 ?_
  refine lv_i2l (v := ((ze7 7)).toInt64) hx hb dX11_digest_46 rfl ?_
  refine lv_ladd hx hb dX11_digest_47 ?_
  refine lv_lstore_n (lv' := [(1, .long (((f_X5_mixCounts (zs).2.2.2.2.2 (f_X2_mixRegisters zs (58008 : Int64))) * (31 : Int64)) + (((ze7 7)).toInt64))), (0, .ref zb)]) hx hb dX11_digest_48 rfl hl (by decide) rfl (fun ls hl => ?_)
  refine lv_lload_n hx hb dX11_digest_49 rfl (lv_at hl 0 rfl) ?_
  refine lv_ldc2 hx hb hown (hts _ fw_1558) dX11_digest_50 ?_
  refine lv_lmul hx hb dX11_digest_53 ?_
  refine lv_aload_n hx hb dX11_digest_54 rfl (lv_at hl 1 rfl) ?_
  refine fb_get X I (k := 7) fu_X11 0 rfl rfl (Nat.le_of_ble_eq_true rfl) fw_694 rfl rfl dX11_digest_55 ?_
  refine fb_get X I (k := 5) fu_X0 14 rfl rfl (Nat.le_of_ble_eq_true rfl) fw_597 rfl rfl dX11_digest_58 ?_
  refine lv_i2l (v := ((ze0 5)).toInt64) hx hb dX11_digest_61 rfl ?_
  refine lv_ladd hx hb dX11_digest_62 ?_
  refine lv_lstore_n (lv' := [(1, .long (((((f_X5_mixCounts (zs).2.2.2.2.2 (f_X2_mixRegisters zs (58008 : Int64))) * (31 : Int64)) + (((ze7 7)).toInt64)) * (31 : Int64)) + (((ze0 5)).toInt64))), (0, .ref zb)]) hx hb dX11_digest_63 rfl hl (by decide) rfl (fun ls hl => ?_)
  refine lv_aload_n hx hb dX11_digest_64 rfl (lv_at hl 1 rfl) ?_
  refine fb_get X I (k := 5) fu_X11 0 rfl rfl (Nat.le_of_ble_eq_true rfl) fw_692 rfl rfl dX11_digest_65 ?_
  refine lv_lload_n hx hb dX11_digest_68 rfl (lv_at hl 0 rfl) ?_
  refine fb_roL X I (fb_runV (As := [.long (((((f_X5_mixCounts (zs).2.2.2.2.2 (f_X2_mixRegisters zs (58008 : Int64))) * (31 : Int64)) + (((ze7 7)).toInt64)) * (31 : Int64)) + (((ze0 5)).toInt64))]) (rest := []) (q0 := 1) X I hl (c_X2_mixCalls l D cI cJ zq zs zw (((((f_X5_mixCounts (zs).2.2.2.2.2 (f_X2_mixRegisters zs (58008 : Int64))) * (31 : Int64)) + (((ze7 7)).toInt64)) * (31 : Int64)) + (((ze0 5)).toInt64)) _) (fb_goodV fw_1559 fw_1560 fw_1561 fw_198 fw_1562) rfl rfl rfl (by decide +kernel : fb_hd yX2_mixCalls 1) ⟨Nat.le_of_ble_eq_true rfl, Nat.le_of_ble_eq_true rfl⟩ [1, 2, 3, 4, 5, 6, 7, 8] (by decide) rfl rfl rfl rfl rfl rfl (Nat.le_of_ble_eq_true rfl) ⟨Nat.zero_le _, Nat.zero_le _⟩ dX11_digest_69) ?_
  refine lv_lstore_n (lv' := [(1, .long (f_X2_mixCalls zs (((((f_X5_mixCounts (zs).2.2.2.2.2 (f_X2_mixRegisters zs (58008 : Int64))) * (31 : Int64)) + (((ze7 7)).toInt64)) * (31 : Int64)) + (((ze0 5)).toInt64)))), (0, .ref zb)]) hx hb dX11_digest_72 rfl hl (by decide) rfl (fun ls hl => ?_)
  refine lv_aload_n hx hb dX11_digest_73 rfl (lv_at hl 1 rfl) ?_
  refine fb_get X I (k := 1) fu_X11 0 rfl rfl (Nat.le_of_ble_eq_true rfl) fw_688 rfl rfl dX11_digest_74 ?_
  refine lv_lload_n hx hb dX11_digest_77 rfl (lv_at hl 0 rfl) ?_
  refine fb_roL X I (fb_runV (As := [.long (f_X2_mixCalls zs (((((f_X5_mixCounts (zs).2.2.2.2.2 (f_X2_mixRegisters zs (58008 : Int64))) * (31 : Int64)) + (((ze7 7)).toInt64)) * (31 : Int64)) + (((ze0 5)).toInt64)))]) (rest := []) (q0 := 15) X I hl (c_X3_mix l D cI cJ zna zn0 zn1 zn3 ze3 zk (f_X2_mixCalls zs (((((f_X5_mixCounts (zs).2.2.2.2.2 (f_X2_mixRegisters zs (58008 : Int64))) * (31 : Int64)) + (((ze7 7)).toInt64)) * (31 : Int64)) + (((ze0 5)).toInt64))) _) (fb_goodV fw_1563 fw_1564 fw_1565 fw_193 fw_1566) rfl rfl rfl (by decide +kernel : fb_hd yX3_mix 1) ⟨Nat.le_of_ble_eq_true rfl, Nat.le_of_ble_eq_true rfl⟩ [15, 16] (by decide) rfl rfl rfl rfl rfl rfl (Nat.le_of_ble_eq_true rfl) ⟨Nat.zero_le _, Nat.zero_le _⟩ dX11_digest_78) ?_
  refine lv_lstore_n (lv' := [(1, .long (f_X3_mix ze3 zk (f_X2_mixCalls zs (((((f_X5_mixCounts (zs).2.2.2.2.2 (f_X2_mixRegisters zs (58008 : Int64))) * (31 : Int64)) + (((ze7 7)).toInt64)) * (31 : Int64)) + (((ze0 5)).toInt64))))), (0, .ref zb)]) hx hb dX11_digest_81 rfl hl (by decide) rfl (fun ls hl => ?_)
  refine lv_lload_n hx hb dX11_digest_82 rfl (lv_at hl 0 rfl) ?_
  refine lv_ldc2 hx hb hown (hts _ fw_1558) dX11_digest_83 ?_
  refine lv_lmul hx hb dX11_digest_86 ?_
  refine lv_aload_n hx hb dX11_digest_87 rfl (lv_at hl 1 rfl) ?_
  refine fb_get X I (k := 5) fu_X11 0 rfl rfl (Nat.le_of_ble_eq_true rfl) fw_692 rfl rfl dX11_digest_88 ?_
  refine fb_roI X I (fb_runV (As := []) (rest := [.long ((f_X3_mix ze3 zk (f_X2_mixCalls zs (((((f_X5_mixCounts (zs).2.2.2.2.2 (f_X2_mixRegisters zs (58008 : Int64))) * (31 : Int64)) + (((ze7 7)).toInt64)) * (31 : Int64)) + (((ze0 5)).toInt64)))) * (31 : Int64))]) (q0 := 1) X I hl (c_X2_busiest l D cI cJ zq zs zw _) (fb_goodV fw_1505 fw_1506 fw_1507 fw_198 fw_1508) rfl rfl rfl (by decide +kernel : fb_hd yX2_busiest 0) ⟨Nat.le_of_ble_eq_true rfl, Nat.le_of_ble_eq_true rfl⟩ [1, 2, 3, 4, 5, 6, 7, 8] (by decide) rfl rfl rfl rfl rfl rfl (Nat.le_of_ble_eq_true rfl) ⟨Nat.zero_le _, Nat.zero_le _⟩ dX11_digest_91) ?_
  refine lv_i2l (v := ((f_X2_busiest zs)).toInt64) hx hb dX11_digest_94 rfl ?_
  refine lv_ladd hx hb dX11_digest_95 ?_
  refine lv_lstore_n (lv' := [(1, .long (((f_X3_mix ze3 zk (f_X2_mixCalls zs (((((f_X5_mixCounts (zs).2.2.2.2.2 (f_X2_mixRegisters zs (58008 : Int64))) * (31 : Int64)) + (((ze7 7)).toInt64)) * (31 : Int64)) + (((ze0 5)).toInt64)))) * (31 : Int64)) + (((f_X2_busiest zs)).toInt64))), (0, .ref zb)]) hx hb dX11_digest_96 rfl hl (by decide) rfl (fun ls hl => ?_)
  refine lv_lload_n hx hb dX11_digest_97 rfl (lv_at hl 0 rfl) ?_
  refine lv_ldc2 hx hb hown (hts _ fw_1558) dX11_digest_98 ?_
  refine lv_lmul hx hb dX11_digest_101 ?_
  refine lv_aload_n hx hb dX11_digest_102 rfl (lv_at hl 1 rfl) ?_
  refine fb_get X I (k := 9) fu_X11 0 rfl rfl (Nat.le_of_ble_eq_true rfl) fw_696 rfl rfl dX11_digest_103 ?_
  refine fb_get X I (k := 4) fu_X6 9 rfl rfl (Nat.le_of_ble_eq_true rfl) fw_657 rfl rfl dX11_digest_106 ?_
  refine lv_i2l (v := ((((f_X6_explore ze6 zc zbg zop zs).1) 4)).toInt64) hx hb dX11_digest_109 rfl ?_
  refine lv_ladd hx hb dX11_digest_110 ?_
  refine lv_lstore_n (lv' := [(1, .long (((((f_X3_mix ze3 zk (f_X2_mixCalls zs (((((f_X5_mixCounts (zs).2.2.2.2.2 (f_X2_mixRegisters zs (58008 : Int64))) * (31 : Int64)) + (((ze7 7)).toInt64)) * (31 : Int64)) + (((ze0 5)).toInt64)))) * (31 : Int64)) + (((f_X2_busiest zs)).toInt64)) * (31 : Int64)) + (((((f_X6_explore ze6 zc zbg zop zs).1) 4)).toInt64))), (0, .ref zb)]) hx hb dX11_digest_111 rfl hl (by decide) rfl (fun ls hl => ?_)
  refine lv_iconst (v := (0 : Int32)) hx hb dX11_digest_112 (by decide) ?_
  refine lv_istore_n (lv' := [(3, .int (0 : Int32)), (1, .long (((((f_X3_mix ze3 zk (f_X2_mixCalls zs (((((f_X5_mixCounts (zs).2.2.2.2.2 (f_X2_mixRegisters zs (58008 : Int64))) * (31 : Int64)) + (((ze7 7)).toInt64)) * (31 : Int64)) + (((ze0 5)).toInt64)))) * (31 : Int64)) + (((f_X2_busiest zs)).toInt64)) * (31 : Int64)) + (((((f_X6_explore ze6 zc zbg zop zs).1) 4)).toInt64))), (0, .ref zb)]) hx hb dX11_digest_113 rfl hl (by decide) rfl (fun ls hl => ?_)
  exact b_X11_digest_114 X  ((fb_mu (0 : Int32) (11008 : Int32)) + 1) (l1 := (((((f_X3_mix ze3 zk (f_X2_mixCalls zs (((((f_X5_mixCounts (zs).2.2.2.2.2 (f_X2_mixRegisters zs (58008 : Int64))) * (31 : Int64)) + (((ze7 7)).toInt64)) * (31 : Int64)) + (((ze0 5)).toInt64)))) * (31 : Int64)) + (((f_X2_busiest zs)).toInt64)) * (31 : Int64)) + (((((f_X6_explore ze6 zc zbg zop zs).1) 4)).toInt64))) (l3 := (0 : Int32)) (Nat.lt_succ_self _)  I (lv_sub hl [2, 1, 0] rfl) E
set_option maxHeartbeats 4000000 in
set_option maxRecDepth 100000 in
theorem c_X11_digest (l : Launch) (D : va_G) (cI cJ : ClassId) (zb : Nat) (zr0 : Nat) (zna : Nat) (zr2 : Nat) (zr3 : Nat) (zr4 : Nat) (zr6 : Nat) (zh : Nat) (zst : Nat) (zre : Nat) (zq : Nat → Nat) (zs : fb_MS) (zw : fb_AR) (zac : Nat) (zab : Nat) (zao : Nat) (ze6 : fb_AR) (zc : fb_AR) (zbg : fb_AR) (zop : fb_AR) (zs0 : Nat) (zs1 : Nat) (zs3 : Nat) (zs4 : Nat) (zs5 : Nat) (ze7 : fb_AR) (zo : Nat) (zn : Nat) (ze0 : fb_AR) (zn0 : Nat) (zn1 : Nat) (zn3 : Nat) (ze3 : fb_AR) (zk : fb_AR)  (sz : Nat)  : Met l yX11_digest (Cond.code yX11_digest cX11_digest 4 (some .long) :: fb_all) ({ frames := 6, cells := 0, slots := 0, locals := 135 } : Room) (fb_PP D (fb_ty D cI cJ) [.ref zb] ((fb_o11 zb zr0 zna zr2 zr3 zr4 (zq 0) zr6 zh zst zre) ++ ((fb_mw cI zq zs zw) ++ ((fb_o6 zre zac zab zao ze6) ++ ((fb_aw cI zac 4096 zc) ++ ((fb_aw cI zab 4096 zbg) ++ ((fb_aw cI zao 4096 zop) ++ ((fb_o7 zst zs0 zs1 zs3 zs4 zs5 ze7) ++ ((fb_o0 zh zo zn ze0) ++ ((fb_o3 zna zn0 zn1 zn3 ze3) ++ (fb_aw cI zn3 120 zk)))))))))) sz) (fb_QL D (va_A ((fb_o11 zb zr0 zna zr2 zr3 zr4 (zq 0) zr6 zh zst zre) ++ ((fb_mw cI zq zs zw) ++ ((fb_o6 zre zac zab zao ze6) ++ ((fb_aw cI zac 4096 zc) ++ ((fb_aw cI zab 4096 zbg) ++ ((fb_aw cI zao 4096 zop) ++ ((fb_o7 zst zs0 zs1 zs3 zs4 zs5 ze7) ++ ((fb_o0 zh zo zn ze0) ++ ((fb_o3 zna zn0 zn1 zn3 ze3) ++ (fb_aw cI zn3 120 zk)))))))))) sz) (fun (r : Int64) (_ : fb_AR × fb_AR × fb_AR × fb_AR) => r = ((f_X11_digest zs ze6 zc zbg zop ze7 ze0 ze3 zk))) (fun (t : fb_AR × fb_AR × fb_AR × fb_AR) => (fb_o11 zb zr0 zna zr2 zr3 zr4 (zq 0) zr6 zh zst zre) ++ ((fb_mw cI zq zs zw) ++ ((fb_o6 zre zac zab zao (t.1)) ++ ((fb_aw cI zac 4096 (t.2.1)) ++ ((fb_aw cI zab 4096 (t.2.2.1)) ++ ((fb_aw cI zao 4096 (t.2.2.2)) ++ ((fb_o7 zst zs0 zs1 zs3 zs4 zs5 ze7) ++ ((fb_o0 zh zo zn ze0) ++ ((fb_o3 zna zn0 zn1 zn3 ze3) ++ (fb_aw cI zn3 120 zk))))))))))) 0 0 (va_A ((fb_o11 zb zr0 zna zr2 zr3 zr4 (zq 0) zr6 zh zst zre) ++ ((fb_mw cI zq zs zw) ++ ((fb_o6 zre zac zab zao ze6) ++ ((fb_aw cI zac 4096 zc) ++ ((fb_aw cI zab 4096 zbg) ++ ((fb_aw cI zao 4096 zop) ++ ((fb_o7 zst zs0 zs1 zs3 zs4 zs5 ze7) ++ ((fb_o0 zh zo zn ze0) ++ ((fb_o3 zna zn0 zn1 zn3 ze3) ++ (fb_aw cI zn3 120 zk)))))))))) sz) := by
  refine fb_ent (Qf := fun A => (fb_QL D A (fun (r : Int64) (_ : fb_AR × fb_AR × fb_AR × fb_AR) => r = ((f_X11_digest zs ze6 zc zbg zop ze7 ze0 ze3 zk))) (fun (t : fb_AR × fb_AR × fb_AR × fb_AR) => (fb_o11 zb zr0 zna zr2 zr3 zr4 (zq 0) zr6 zh zst zre) ++ ((fb_mw cI zq zs zw) ++ ((fb_o6 zre zac zab zao (t.1)) ++ ((fb_aw cI zac 4096 (t.2.1)) ++ ((fb_aw cI zab 4096 (t.2.2.1)) ++ ((fb_aw cI zao 4096 (t.2.2.2)) ++ ((fb_o7 zst zs0 zs1 zs3 zs4 zs5 ze7) ++ ((fb_o0 zh zo zn ze0) ++ ((fb_o3 zna zn0 zn1 zn3 ze3) ++ (fb_aw cI zn3 120 zk)))))))))))) (by decide +kernel) (Nat.le_of_ble_eq_true rfl) ?_
  intro p e s m args below meth c A ls X I hl hin
  exact b_X11_digest_0 X  I hl rfl
