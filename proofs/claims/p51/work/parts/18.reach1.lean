/-! X6_comeTo -/
def f_X6_comeTo (ze6 : fb_AR) (zc : fb_AR) (zop : fb_AR) (l1 : Int32) : fb_AR × fb_AR × fb_AR := (if (f_X11_at 4096 zc l1) = 0 then ((upd ze6 3 ((ze6 3) + (1 : Int32))), ((f_X11_put 4096 zc l1 (1 : Int32))), ((f_X11_put 4096 zop (ze6 3) l1))) else (ze6, zc, zop))
set_option maxHeartbeats 4000000 in
set_option maxRecDepth 100000 in
theorem b_X6_comeTo_0 {p : Program} {l : Launch} {e : Env} {s : State} {m : MethodId} {args : Array Value} {below : List Frame} {meth : Method} {c : Code} {D : va_G} {cI cJ : ClassId} {A : Nat → Prop} {zre : Nat} {zac : Nat} {zab : Nat} {zao : Nat} {z : fb_AR × fb_AR × fb_AR} (X : fb_Bx p s m args meth c cX6_comeTo RX6 2 none D (fb_ty D cI cJ) A) {ze6 : fb_AR} {zc : fb_AR} {zop : fb_AR} {l1 : Int32} {H : Heap} {locs : List Loc} {ls : Array Slot}  (I : fb_In D A s.heap ((fb_o6 zre zac zab zao ze6) ++ ((fb_aw cI zac 4096 zc) ++ (fb_aw cI zao 4096 zop))) H locs) (hl : lv_has ls 2 [(0, .ref zre), (1, .int l1)]) (E : z = f_X6_comeTo ze6 zc zop l1) : W p l e ({ frames := 1, cells := 0, slots := 0, locals := 22 } : Room) s m args below meth c H locs 0 0 (MQ below (fb_QV D A (fun (_ : Unit) => True) (fun (t : Unit) => (fb_o6 zre zac zab zao (z.1)) ++ ((fb_aw cI zac 4096 (z.2.1)) ++ (fb_aw cI zao 4096 (z.2.2))))) args s 0 0 A) (F0 m 0 ls []) := by
  obtain ⟨hx, hb, hr, hml, hown, hts, hlk, hA, hK, hF⟩ := id X
  refine lv_aload_n hx hb dX6_comeTo_0 rfl (lv_at hl 0 rfl) ?_
  refine fb_get X I (k := 0) fu_X6 0 rfl rfl (Nat.le_of_ble_eq_true rfl) fw_651 rfl rfl dX6_comeTo_1 ?_
  refine lv_iload_n hx hb dX6_comeTo_4 rfl (lv_at hl 1 rfl) ?_
  refine fb_roI X I (fb_runSN (As := [.ref zac, .int l1]) (rest := []) X I hl (c_X11_at l D cI cJ zac 4096 zc l1 _ (by decide)) fw_686 rfl rfl (List.mem_of_getElem? (i := 35) rfl) fw_191 fw_685 (by decide +kernel : fb_hd yX11_at 2) ⟨Nat.le_of_ble_eq_true rfl, Nat.le_of_ble_eq_true rfl⟩ [1] (by decide) rfl rfl rfl (Nat.le_of_ble_eq_true rfl) ⟨Nat.zero_le _, Nat.zero_le _⟩ dX6_comeTo_5) ?_
  refine lv_if_eq (tgt := 12) hx hb dX6_comeTo_8 (by decide) (fun c1 => ?_) (fun c1 => ?_)
  · have E2 := (E.trans (if_pos c1))
    refine lv_aload_n hx hb dX6_comeTo_12 rfl (lv_at hl 0 rfl) ?_
    refine fb_get X I (k := 0) fu_X6 0 rfl rfl (Nat.le_of_ble_eq_true rfl) fw_651 rfl rfl dX6_comeTo_13 ?_
    refine lv_iload_n hx hb dX6_comeTo_16 rfl (lv_at hl 1 rfl) ?_
    refine lv_iconst (v := (1 : Int32)) hx hb dX6_comeTo_17 (by decide) ?_
    refine fb_goV (wn := fun (w4 : Unit) => (fb_o6 zre zac zab zao ze6) ++ ((fb_aw cI zac 4096 ((f_X11_put 4096 zc l1 (1 : Int32)))) ++ (fb_aw cI zao 4096 zop))) X I (fb_runSN (As := [.ref zac, .int l1, .int (1 : Int32)]) (rest := []) X I hl (c_X11_put l D cI cJ zac 4096 zc l1 (1 : Int32) _ (by decide)) fw_756 rfl rfl (List.mem_of_getElem? (i := 36) rfl) fw_191 fw_755 (by decide +kernel : fb_hd yX11_put 3) ⟨Nat.le_of_ble_eq_true rfl, Nat.le_of_ble_eq_true rfl⟩ [1] (by decide) rfl rfl rfl (Nat.le_of_ble_eq_true rfl) ⟨Nat.zero_le _, Nat.zero_le _⟩ dX6_comeTo_18) [1] [0, 2] [0, 2, 1] rfl rfl (by decide) (by decide) (by decide) (fun _ => rfl) ?_
    intro w4 H locs _ I
    refine lv_aload_n hx hb dX6_comeTo_21 rfl (lv_at hl 0 rfl) ?_
    refine fb_get X I (k := 2) fu_X6 0 rfl rfl (Nat.le_of_ble_eq_true rfl) fw_654 rfl rfl dX6_comeTo_22 ?_
    refine lv_aload_n hx hb dX6_comeTo_25 rfl (lv_at hl 0 rfl) ?_
    refine fb_get X I (k := 3) fu_X6 0 rfl rfl (Nat.le_of_ble_eq_true rfl) fw_655 rfl rfl dX6_comeTo_26 ?_
    refine lv_iload_n hx hb dX6_comeTo_29 rfl (lv_at hl 1 rfl) ?_
    refine fb_goV (wn := fun (w5 : Unit) => (fb_o6 zre zac zab zao ze6) ++ ((fb_aw cI zac 4096 ((f_X11_put 4096 zc l1 (1 : Int32)))) ++ (fb_aw cI zao 4096 ((f_X11_put 4096 zop (ze6 3) l1))))) X I (fb_runSN (As := [.ref zao, .int (ze6 3), .int l1]) (rest := []) X I hl (c_X11_put l D cI cJ zao 4096 zop (ze6 3) l1 _ (by decide)) fw_756 rfl rfl (List.mem_of_getElem? (i := 36) rfl) fw_191 fw_755 (by decide +kernel : fb_hd yX11_put 3) ⟨Nat.le_of_ble_eq_true rfl, Nat.le_of_ble_eq_true rfl⟩ [2] (by decide) rfl rfl rfl (Nat.le_of_ble_eq_true rfl) ⟨Nat.zero_le _, Nat.zero_le _⟩ dX6_comeTo_30) [2] [0, 1] [0, 1, 2] rfl rfl (by decide) (by decide) (by decide) (fun _ => rfl) ?_
    intro w5 H locs _ I
    refine lv_aload_n hx hb dX6_comeTo_33 rfl (lv_at hl 0 rfl) ?_
    refine lv_dup hx hb dX6_comeTo_34 rfl ?_
    refine fb_get X I (k := 3) fu_X6 0 rfl rfl (Nat.le_of_ble_eq_true rfl) fw_655 rfl rfl dX6_comeTo_35 ?_
    refine lv_iconst (v := (1 : Int32)) hx hb dX6_comeTo_38 (by decide) ?_
    refine lv_iadd hx hb dX6_comeTo_39 ?_
    refine fb_put X I (k := 3) (wn := (fb_o6 zre zac zab zao (upd ze6 3 ((ze6 3) + (1 : Int32)))) ++ ((fb_aw cI zac 4096 ((f_X11_put 4096 zc l1 (1 : Int32)))) ++ (fb_aw cI zao 4096 ((f_X11_put 4096 zop (ze6 3) l1))))) fu_X6 tyX6 tyX6_ok nmX6 0 rfl rfl (Nat.le_of_ble_eq_true rfl) fw_655 rfl rfl rfl rfl rfl (Nat.le_of_ble_eq_true rfl) rfl dX6_comeTo_40 (fun H locs I => ?_)
    subst E2
    exact fb_retV (u := ()) X I trivial dX6_comeTo_43
  · have E3 := (E.trans (if_neg c1))
    subst E3
    exact fb_retV (u := ()) X I trivial dX6_comeTo_11
set_option maxHeartbeats 4000000 in
set_option maxRecDepth 100000 in
theorem c_X6_comeTo (l : Launch) (D : va_G) (cI cJ : ClassId) (zre : Nat) (zac : Nat) (zab : Nat) (zao : Nat) (ze6 : fb_AR) (zc : fb_AR) (zop : fb_AR) (l1 : Int32) (sz : Nat)  : Met l yX6_comeTo (Cond.code yX6_comeTo cX6_comeTo 2 none :: fb_all) ({ frames := 1, cells := 0, slots := 0, locals := 22 } : Room) (fb_PP D (fb_ty D cI cJ) [.ref zre, .int l1] ((fb_o6 zre zac zab zao ze6) ++ ((fb_aw cI zac 4096 zc) ++ (fb_aw cI zao 4096 zop))) sz) (fb_QV D (va_A ((fb_o6 zre zac zab zao ze6) ++ ((fb_aw cI zac 4096 zc) ++ (fb_aw cI zao 4096 zop))) sz) (fun (_ : Unit) => True) (fun (t : Unit) => (fb_o6 zre zac zab zao (((f_X6_comeTo ze6 zc zop l1)).1)) ++ ((fb_aw cI zac 4096 (((f_X6_comeTo ze6 zc zop l1)).2.1)) ++ (fb_aw cI zao 4096 (((f_X6_comeTo ze6 zc zop l1)).2.2))))) 0 0 (va_A ((fb_o6 zre zac zab zao ze6) ++ ((fb_aw cI zac 4096 zc) ++ (fb_aw cI zao 4096 zop))) sz) := by
  refine fb_ent (Qf := fun A => (fb_QV D A (fun (_ : Unit) => True) (fun (t : Unit) => (fb_o6 zre zac zab zao (((f_X6_comeTo ze6 zc zop l1)).1)) ++ ((fb_aw cI zac 4096 (((f_X6_comeTo ze6 zc zop l1)).2.1)) ++ (fb_aw cI zao 4096 (((f_X6_comeTo ze6 zc zop l1)).2.2)))))) (by decide +kernel) (Nat.le_of_ble_eq_true rfl) ?_
  intro p e s m args below meth c A ls X I hl hin
  exact b_X6_comeTo_0 X  I hl rfl
/-! X6_goFrom -/
def f_X6_goFrom_149 (ze6 : fb_AR) (zc : fb_AR) (zbg : fb_AR) (zop : fb_AR) (zs : fb_MS) (l3 : Int32) : fb_AR × fb_AR × fb_AR × fb_AR := (if l3 = (5 : Int32) then (((f_X6_comeTo ze6 zc zop (f_X2_vector zs (6 : Int32))).1), ((f_X6_comeTo ze6 zc zop (f_X2_vector zs (6 : Int32))).2.1), zbg, ((f_X6_comeTo ze6 zc zop (f_X2_vector zs (6 : Int32))).2.2)) else (ze6, zc, zbg, zop))
def f_X6_goFrom_136 (ze6 : fb_AR) (zc : fb_AR) (zbg : fb_AR) (zop : fb_AR) (zs : fb_MS) (l2 : Int32) (l3 : Int32) : fb_AR × fb_AR × fb_AR × fb_AR := f_X6_goFrom_149 ((f_X6_comeTo ze6 zc zop ((f_X2_operand zs l2) &&& (4095 : Int32))).1) ((f_X6_comeTo ze6 zc zop ((f_X2_operand zs l2) &&& (4095 : Int32))).2.1) zbg ((f_X6_comeTo ze6 zc zop ((f_X2_operand zs l2) &&& (4095 : Int32))).2.2) zs l3
def f_X6_goFrom_122 (ze6 : fb_AR) (zc : fb_AR) (zbg : fb_AR) (zop : fb_AR) (zs : fb_MS) (l2 : Int32) (l3 : Int32) (k0 : Int32) : fb_AR × fb_AR × fb_AR × fb_AR := (if k0 = 0 then (if l3 < (208 : Int32) then f_X6_goFrom_149 ze6 zc zbg zop zs l3 else f_X6_goFrom_136 ze6 zc zbg zop zs l2 l3) else f_X6_goFrom_136 ze6 zc zbg zop zs l2 l3)
def f_X6_goFrom_121 (ze6 : fb_AR) (zc : fb_AR) (zbg : fb_AR) (zop : fb_AR) (zs : fb_MS) (l2 : Int32) (l3 : Int32) : fb_AR × fb_AR × fb_AR × fb_AR := f_X6_goFrom_122 ze6 zc zbg zop zs l2 l3 (0 : Int32)
def f_X6_goFrom_109 (ze6 : fb_AR) (zc : fb_AR) (zbg : fb_AR) (zop : fb_AR) (zs : fb_MS) (l2 : Int32) (l3 : Int32) : fb_AR × fb_AR × fb_AR × fb_AR := (if (l3 &&& (7 : Int32)) = (3 : Int32) then f_X6_goFrom_122 ze6 zc zbg zop zs l2 l3 (1 : Int32) else f_X6_goFrom_121 ze6 zc zbg zop zs l2 l3)
def f_X6_goFrom_95 (ze6 : fb_AR) (zc : fb_AR) (zbg : fb_AR) (zop : fb_AR) (zs : fb_MS) (l2 : Int32) (l3 : Int32) (l5 : Int32) : fb_AR × fb_AR × fb_AR × fb_AR := (if l5 = (24 : Int32) then f_X6_goFrom_109 ze6 zc zbg zop zs l2 l3 else (if l5 = (25 : Int32) then f_X6_goFrom_109 ze6 zc zbg zop zs l2 l3 else f_X6_goFrom_121 ze6 zc zbg zop zs l2 l3))
def f_X6_goFrom_76 (ze6 : fb_AR) (zc : fb_AR) (zbg : fb_AR) (zop : fb_AR) (zs : fb_MS) (l2 : Int32) (l3 : Int32) (l4 : Int32) (l5 : Int32) (k0 : Int32) : fb_AR × fb_AR × fb_AR × fb_AR := (if k0 = 0 then f_X6_goFrom_95 ((f_X6_comeTo ze6 zc zop ((l2 + l4) &&& (4095 : Int32))).1) ((f_X6_comeTo ze6 zc zop ((l2 + l4) &&& (4095 : Int32))).2.1) zbg ((f_X6_comeTo ze6 zc zop ((l2 + l4) &&& (4095 : Int32))).2.2) zs l2 l3 l5 else f_X6_goFrom_95 ze6 zc zbg zop zs l2 l3 l5)
def f_X6_goFrom_71 (ze6 : fb_AR) (zc : fb_AR) (zbg : fb_AR) (zop : fb_AR) (zs : fb_MS) (l2 : Int32) (l3 : Int32) (l4 : Int32) (l5 : Int32) : fb_AR × fb_AR × fb_AR × fb_AR := f_X6_goFrom_76 ze6 zc zbg zop zs l2 l3 l4 l5 (1 : Int32)
def f_X6_goFrom (ze6 : fb_AR) (zc : fb_AR) (zbg : fb_AR) (zop : fb_AR) (zs : fb_MS) (l2 : Int32) : fb_AR × fb_AR × fb_AR × fb_AR := (if (f_X11_lengthOf (f_X2_shown zs l2)) = 0 then (ze6, zc, zbg, zop) else (if (f_X2_shown zs l2) = (1 : Int32) then f_X6_goFrom_71 (upd ze6 4 ((ze6 4) + (1 : Int32))) zc ((f_X11_put 4096 zbg l2 (1 : Int32))) zop zs l2 (f_X2_shown zs l2) (f_X11_lengthOf (f_X2_shown zs l2)) ((f_X2_shown zs l2) >>> ((3 : Int32) &&& 31)) else (if (f_X2_shown zs l2) = (3 : Int32) then f_X6_goFrom_71 (upd ze6 4 ((ze6 4) + (1 : Int32))) zc ((f_X11_put 4096 zbg l2 (1 : Int32))) zop zs l2 (f_X2_shown zs l2) (f_X11_lengthOf (f_X2_shown zs l2)) ((f_X2_shown zs l2) >>> ((3 : Int32) &&& 31)) else (if (f_X2_shown zs l2) = (4 : Int32) then f_X6_goFrom_71 (upd ze6 4 ((ze6 4) + (1 : Int32))) zc ((f_X11_put 4096 zbg l2 (1 : Int32))) zop zs l2 (f_X2_shown zs l2) (f_X11_lengthOf (f_X2_shown zs l2)) ((f_X2_shown zs l2) >>> ((3 : Int32) &&& 31)) else (if (f_X2_shown zs l2) = (216 : Int32) then f_X6_goFrom_71 (upd ze6 4 ((ze6 4) + (1 : Int32))) zc ((f_X11_put 4096 zbg l2 (1 : Int32))) zop zs l2 (f_X2_shown zs l2) (f_X11_lengthOf (f_X2_shown zs l2)) ((f_X2_shown zs l2) >>> ((3 : Int32) &&& 31)) else (if ((f_X2_shown zs l2) >>> ((3 : Int32) &&& 31)) = (24 : Int32) then f_X6_goFrom_71 (upd ze6 4 ((ze6 4) + (1 : Int32))) zc ((f_X11_put 4096 zbg l2 (1 : Int32))) zop zs l2 (f_X2_shown zs l2) (f_X11_lengthOf (f_X2_shown zs l2)) ((f_X2_shown zs l2) >>> ((3 : Int32) &&& 31)) else f_X6_goFrom_76 (upd ze6 4 ((ze6 4) + (1 : Int32))) zc ((f_X11_put 4096 zbg l2 (1 : Int32))) zop zs l2 (f_X2_shown zs l2) (f_X11_lengthOf (f_X2_shown zs l2)) ((f_X2_shown zs l2) >>> ((3 : Int32) &&& 31)) (0 : Int32)))))))
set_option maxHeartbeats 4000000 in
set_option maxRecDepth 100000 in
theorem b_X6_goFrom_149 {p : Program} {l : Launch} {e : Env} {s : State} {m : MethodId} {args : Array Value} {below : List Frame} {meth : Method} {c : Code} {D : va_G} {cI cJ : ClassId} {A : Nat → Prop} {zre : Nat} {zac : Nat} {zab : Nat} {zao : Nat} {zq : Nat → Nat} {z : fb_AR × fb_AR × fb_AR × fb_AR} (X : fb_Bx p s m args meth c cX6_goFrom RX6 8 none D (fb_ty D cI cJ) A) {ze6 : fb_AR} {zc : fb_AR} {zbg : fb_AR} {zop : fb_AR} {zs : fb_MS} {zw : fb_AR} {l3 : Int32} {H : Heap} {locs : List Loc} {ls : Array Slot}  (I : fb_In D A s.heap ((fb_o6 zre zac zab zao ze6) ++ ((fb_aw cI zac 4096 zc) ++ ((fb_aw cI zab 4096 zbg) ++ ((fb_aw cI zao 4096 zop) ++ (fb_mw cI zq zs zw))))) H locs) (hl : lv_has ls 8 [(0, .ref zre), (1, .ref (zq 0)), (3, .int l3)]) (E : z = f_X6_goFrom_149 ze6 zc zbg zop zs l3) : W p l e ({ frames := 4, cells := 0, slots := 0, locals := 86 } : Room) s m args below meth c H locs 0 0 (MQ below (fb_QV D A (fun (_ : Unit) => True) (fun (t : Unit) => (fb_o6 zre zac zab zao (z.1)) ++ ((fb_aw cI zac 4096 (z.2.1)) ++ ((fb_aw cI zab 4096 (z.2.2.1)) ++ ((fb_aw cI zao 4096 (z.2.2.2)) ++ (fb_mw cI zq zs zw)))))) args s 0 0 A) (F0 m 149 ls []) := by
  obtain ⟨hx, hb, hr, hml, hown, hts, hlk, hA, hK, hF⟩ := id X
  refine lv_iload_n hx hb dX6_goFrom_149 rfl (lv_at hl 2 rfl) ?_
  refine lv_iconst (v := (5 : Int32)) hx hb dX6_goFrom_150 (by decide) ?_
  refine lv_icmp_ne (tgt := 164) hx hb dX6_goFrom_151 (by decide) (fun c36 => ?_) (fun c36 => ?_)
  · have E37 := (E.trans (if_neg c36))
    subst E37
    exact fb_retV (u := ()) X I trivial dX6_goFrom_164
  · have E38 := (E.trans (if_pos c36))
    refine lv_aload_n hx hb dX6_goFrom_154 rfl (lv_at hl 0 rfl) ?_
    refine lv_aload_n hx hb dX6_goFrom_155 rfl (lv_at hl 1 rfl) ?_
    refine lv_bipush (v := (6 : Int32)) hx hb dX6_goFrom_156 (by decide) ?_
    refine fb_roI X I (fb_runV (As := [.int (6 : Int32)]) (rest := [.ref zre]) (q0 := 4) X I hl (c_X2_vector l D cI cJ zq zs zw (6 : Int32) _) (fb_goodV fw_1524 fw_681 fw_682 fw_198 fw_683) rfl rfl rfl (by decide +kernel : fb_hd yX2_vector 1) ⟨Nat.le_of_ble_eq_true rfl, Nat.le_of_ble_eq_true rfl⟩ [4, 5, 6, 7, 8, 9, 10, 11] (by decide) rfl rfl rfl rfl rfl rfl (Nat.le_of_ble_eq_true rfl) ⟨Nat.zero_le _, Nat.zero_le _⟩ dX6_goFrom_158) ?_
    refine fb_goV (wn := fun (w39 : Unit) => (fb_o6 zre zac zab zao ((f_X6_comeTo ze6 zc zop (f_X2_vector zs (6 : Int32))).1)) ++ ((fb_aw cI zac 4096 ((f_X6_comeTo ze6 zc zop (f_X2_vector zs (6 : Int32))).2.1)) ++ ((fb_aw cI zab 4096 zbg) ++ ((fb_aw cI zao 4096 ((f_X6_comeTo ze6 zc zop (f_X2_vector zs (6 : Int32))).2.2)) ++ (fb_mw cI zq zs zw))))) X I (fb_runV (As := [.int (f_X2_vector zs (6 : Int32))]) (rest := []) (q0 := 0) X I hl (c_X6_comeTo l D cI cJ zre zac zab zao ze6 zc zop (f_X2_vector zs (6 : Int32)) _) (fb_goodV fw_1518 fw_1520 fw_81 fw_202 fw_1521) rfl rfl rfl (by decide +kernel : fb_hd yX6_comeTo 1) ⟨Nat.le_of_ble_eq_true rfl, Nat.le_of_ble_eq_true rfl⟩ [0, 1, 3] (by decide) rfl rfl rfl rfl rfl rfl (Nat.le_of_ble_eq_true rfl) ⟨Nat.zero_le _, Nat.zero_le _⟩ dX6_goFrom_161) [0, 1, 3] [2, 4, 5, 6, 7, 8, 9, 10, 11] [9, 10, 0, 11, 1, 2, 3, 4, 5, 6, 7, 8] rfl rfl (by decide) (by decide) (by decide) (fun _ => rfl) ?_
    intro w39 H locs _ I
    subst E38
    exact fb_retV (u := ()) X I trivial dX6_goFrom_164
set_option maxHeartbeats 4000000 in
set_option maxRecDepth 100000 in
theorem b_X6_goFrom_136 {p : Program} {l : Launch} {e : Env} {s : State} {m : MethodId} {args : Array Value} {below : List Frame} {meth : Method} {c : Code} {D : va_G} {cI cJ : ClassId} {A : Nat → Prop} {zre : Nat} {zac : Nat} {zab : Nat} {zao : Nat} {zq : Nat → Nat} {z : fb_AR × fb_AR × fb_AR × fb_AR} (X : fb_Bx p s m args meth c cX6_goFrom RX6 8 none D (fb_ty D cI cJ) A) {ze6 : fb_AR} {zc : fb_AR} {zbg : fb_AR} {zop : fb_AR} {zs : fb_MS} {zw : fb_AR} {l2 : Int32} {l3 : Int32} {H : Heap} {locs : List Loc} {ls : Array Slot}  (I : fb_In D A s.heap ((fb_o6 zre zac zab zao ze6) ++ ((fb_aw cI zac 4096 zc) ++ ((fb_aw cI zab 4096 zbg) ++ ((fb_aw cI zao 4096 zop) ++ (fb_mw cI zq zs zw))))) H locs) (hl : lv_has ls 8 [(0, .ref zre), (1, .ref (zq 0)), (2, .int l2), (3, .int l3)]) (E : z = f_X6_goFrom_136 ze6 zc zbg zop zs l2 l3) : W p l e ({ frames := 4, cells := 0, slots := 0, locals := 86 } : Room) s m args below meth c H locs 0 0 (MQ below (fb_QV D A (fun (_ : Unit) => True) (fun (t : Unit) => (fb_o6 zre zac zab zao (z.1)) ++ ((fb_aw cI zac 4096 (z.2.1)) ++ ((fb_aw cI zab 4096 (z.2.2.1)) ++ ((fb_aw cI zao 4096 (z.2.2.2)) ++ (fb_mw cI zq zs zw)))))) args s 0 0 A) (F0 m 136 ls []) := by
  obtain ⟨hx, hb, hr, hml, hown, hts, hlk, hA, hK, hF⟩ := id X
  refine lv_aload_n hx hb dX6_goFrom_136 rfl (lv_at hl 0 rfl) ?_
  refine lv_aload_n hx hb dX6_goFrom_137 rfl (lv_at hl 1 rfl) ?_
  refine lv_iload_n hx hb dX6_goFrom_138 rfl (lv_at hl 2 rfl) ?_
  refine fb_roI X I (fb_runV (As := [.int l2]) (rest := [.ref zre]) (q0 := 4) X I hl (c_X2_operand l D cI cJ zq zs zw l2 _) (fb_goodV fw_1531 fw_1532 fw_1533 fw_198 fw_1534) rfl rfl rfl (by decide +kernel : fb_hd yX2_operand 1) ⟨Nat.le_of_ble_eq_true rfl, Nat.le_of_ble_eq_true rfl⟩ [4, 5, 6, 7, 8, 9, 10, 11] (by decide) rfl rfl rfl rfl rfl rfl (Nat.le_of_ble_eq_true rfl) ⟨Nat.zero_le _, Nat.zero_le _⟩ dX6_goFrom_139) ?_
  refine lv_sipush (v := (4095 : Int32)) hx hb dX6_goFrom_142 (by decide) ?_
  refine lv_iand hx hb dX6_goFrom_145 ?_
  refine fb_goV (wn := fun (w40 : Unit) => (fb_o6 zre zac zab zao ((f_X6_comeTo ze6 zc zop ((f_X2_operand zs l2) &&& (4095 : Int32))).1)) ++ ((fb_aw cI zac 4096 ((f_X6_comeTo ze6 zc zop ((f_X2_operand zs l2) &&& (4095 : Int32))).2.1)) ++ ((fb_aw cI zab 4096 zbg) ++ ((fb_aw cI zao 4096 ((f_X6_comeTo ze6 zc zop ((f_X2_operand zs l2) &&& (4095 : Int32))).2.2)) ++ (fb_mw cI zq zs zw))))) X I (fb_runV (As := [.int ((f_X2_operand zs l2) &&& (4095 : Int32))]) (rest := []) (q0 := 0) X I hl (c_X6_comeTo l D cI cJ zre zac zab zao ze6 zc zop ((f_X2_operand zs l2) &&& (4095 : Int32)) _) (fb_goodV fw_1518 fw_1520 fw_81 fw_202 fw_1521) rfl rfl rfl (by decide +kernel : fb_hd yX6_comeTo 1) ⟨Nat.le_of_ble_eq_true rfl, Nat.le_of_ble_eq_true rfl⟩ [0, 1, 3] (by decide) rfl rfl rfl rfl rfl rfl (Nat.le_of_ble_eq_true rfl) ⟨Nat.zero_le _, Nat.zero_le _⟩ dX6_goFrom_146) [0, 1, 3] [2, 4, 5, 6, 7, 8, 9, 10, 11] [9, 10, 0, 11, 1, 2, 3, 4, 5, 6, 7, 8] rfl rfl (by decide) (by decide) (by decide) (fun _ => rfl) ?_
  intro w40 H locs _ I
  exact b_X6_goFrom_149 X  (l3 := l3) I (lv_sub hl [0, 1, 3] rfl) E
set_option maxHeartbeats 4000000 in
set_option maxRecDepth 100000 in
theorem b_X6_goFrom_122 {p : Program} {l : Launch} {e : Env} {s : State} {m : MethodId} {args : Array Value} {below : List Frame} {meth : Method} {c : Code} {D : va_G} {cI cJ : ClassId} {A : Nat → Prop} {zre : Nat} {zac : Nat} {zab : Nat} {zao : Nat} {zq : Nat → Nat} {z : fb_AR × fb_AR × fb_AR × fb_AR} (X : fb_Bx p s m args meth c cX6_goFrom RX6 8 none D (fb_ty D cI cJ) A) {ze6 : fb_AR} {zc : fb_AR} {zbg : fb_AR} {zop : fb_AR} {zs : fb_MS} {zw : fb_AR} {l2 : Int32} {l3 : Int32} {k0 : Int32} {H : Heap} {locs : List Loc} {ls : Array Slot}  (I : fb_In D A s.heap ((fb_o6 zre zac zab zao ze6) ++ ((fb_aw cI zac 4096 zc) ++ ((fb_aw cI zab 4096 zbg) ++ ((fb_aw cI zao 4096 zop) ++ (fb_mw cI zq zs zw))))) H locs) (hl : lv_has ls 8 [(0, .ref zre), (1, .ref (zq 0)), (2, .int l2), (3, .int l3)]) (E : z = f_X6_goFrom_122 ze6 zc zbg zop zs l2 l3 k0) : W p l e ({ frames := 4, cells := 0, slots := 0, locals := 86 } : Room) s m args below meth c H locs 0 0 (MQ below (fb_QV D A (fun (_ : Unit) => True) (fun (t : Unit) => (fb_o6 zre zac zab zao (z.1)) ++ ((fb_aw cI zac 4096 (z.2.1)) ++ ((fb_aw cI zab 4096 (z.2.2.1)) ++ ((fb_aw cI zao 4096 (z.2.2.2)) ++ (fb_mw cI zq zs zw)))))) args s 0 0 A) (F0 m 122 ls [.int k0]) := by
  obtain ⟨hx, hb, hr, hml, hown, hts, hlk, hA, hK, hF⟩ := id X
  refine lv_istore (lv' := [(7, .int k0), (0, .ref zre), (1, .ref (zq 0)), (2, .int l2), (3, .int l3)]) hx hb dX6_goFrom_122 hl (by decide) rfl (fun ls hl => ?_)
  refine lv_iload hx hb dX6_goFrom_124 (lv_at hl 0 rfl) ?_
  refine lv_if_ne (tgt := 136) hx hb dX6_goFrom_126 (by decide) (fun c30 => ?_) (fun c30 => ?_)
  · have E31 := (E.trans (if_neg c30))
    exact b_X6_goFrom_136 X  (l2 := l2) (l3 := l3) I (lv_sub hl [1, 2, 3, 4] rfl) E31
  · have E32 := (E.trans (if_pos c30))
    refine lv_iload_n hx hb dX6_goFrom_129 rfl (lv_at hl 4 rfl) ?_
    refine lv_sipush (v := (208 : Int32)) hx hb dX6_goFrom_130 (by decide) ?_
    refine lv_icmp_lt (tgt := 149) hx hb dX6_goFrom_133 (by decide) (fun c33 => ?_) (fun c33 => ?_)
    · have E34 := (E32.trans (if_pos c33))
      exact b_X6_goFrom_149 X  (l3 := l3) I (lv_sub hl [1, 2, 4] rfl) E34
    · have E35 := (E32.trans (if_neg c33))
      exact b_X6_goFrom_136 X  (l2 := l2) (l3 := l3) I (lv_sub hl [1, 2, 3, 4] rfl) E35
set_option maxHeartbeats 4000000 in
set_option maxRecDepth 100000 in
theorem b_X6_goFrom_121 {p : Program} {l : Launch} {e : Env} {s : State} {m : MethodId} {args : Array Value} {below : List Frame} {meth : Method} {c : Code} {D : va_G} {cI cJ : ClassId} {A : Nat → Prop} {zre : Nat} {zac : Nat} {zab : Nat} {zao : Nat} {zq : Nat → Nat} {z : fb_AR × fb_AR × fb_AR × fb_AR} (X : fb_Bx p s m args meth c cX6_goFrom RX6 8 none D (fb_ty D cI cJ) A) {ze6 : fb_AR} {zc : fb_AR} {zbg : fb_AR} {zop : fb_AR} {zs : fb_MS} {zw : fb_AR} {l2 : Int32} {l3 : Int32} {H : Heap} {locs : List Loc} {ls : Array Slot}  (I : fb_In D A s.heap ((fb_o6 zre zac zab zao ze6) ++ ((fb_aw cI zac 4096 zc) ++ ((fb_aw cI zab 4096 zbg) ++ ((fb_aw cI zao 4096 zop) ++ (fb_mw cI zq zs zw))))) H locs) (hl : lv_has ls 8 [(0, .ref zre), (1, .ref (zq 0)), (2, .int l2), (3, .int l3)]) (E : z = f_X6_goFrom_121 ze6 zc zbg zop zs l2 l3) : W p l e ({ frames := 4, cells := 0, slots := 0, locals := 86 } : Room) s m args below meth c H locs 0 0 (MQ below (fb_QV D A (fun (_ : Unit) => True) (fun (t : Unit) => (fb_o6 zre zac zab zao (z.1)) ++ ((fb_aw cI zac 4096 (z.2.1)) ++ ((fb_aw cI zab 4096 (z.2.2.1)) ++ ((fb_aw cI zao 4096 (z.2.2.2)) ++ (fb_mw cI zq zs zw)))))) args s 0 0 A) (F0 m 121 ls []) := by
  obtain ⟨hx, hb, hr, hml, hown, hts, hlk, hA, hK, hF⟩ := id X
  refine lv_iconst (v := (0 : Int32)) hx hb dX6_goFrom_121 (by decide) ?_
  exact b_X6_goFrom_122 X  (l2 := l2) (l3 := l3) (k0 := (0 : Int32)) I (lv_sub hl [0, 1, 2, 3] rfl) E
set_option maxHeartbeats 4000000 in
set_option maxRecDepth 100000 in
theorem b_X6_goFrom_109 {p : Program} {l : Launch} {e : Env} {s : State} {m : MethodId} {args : Array Value} {below : List Frame} {meth : Method} {c : Code} {D : va_G} {cI cJ : ClassId} {A : Nat → Prop} {zre : Nat} {zac : Nat} {zab : Nat} {zao : Nat} {zq : Nat → Nat} {z : fb_AR × fb_AR × fb_AR × fb_AR} (X : fb_Bx p s m args meth c cX6_goFrom RX6 8 none D (fb_ty D cI cJ) A) {ze6 : fb_AR} {zc : fb_AR} {zbg : fb_AR} {zop : fb_AR} {zs : fb_MS} {zw : fb_AR} {l2 : Int32} {l3 : Int32} {H : Heap} {locs : List Loc} {ls : Array Slot}  (I : fb_In D A s.heap ((fb_o6 zre zac zab zao ze6) ++ ((fb_aw cI zac 4096 zc) ++ ((fb_aw cI zab 4096 zbg) ++ ((fb_aw cI zao 4096 zop) ++ (fb_mw cI zq zs zw))))) H locs) (hl : lv_has ls 8 [(0, .ref zre), (1, .ref (zq 0)), (2, .int l2), (3, .int l3)]) (E : z = f_X6_goFrom_109 ze6 zc zbg zop zs l2 l3) : W p l e ({ frames := 4, cells := 0, slots := 0, locals := 86 } : Room) s m args below meth c H locs 0 0 (MQ below (fb_QV D A (fun (_ : Unit) => True) (fun (t : Unit) => (fb_o6 zre zac zab zao (z.1)) ++ ((fb_aw cI zac 4096 (z.2.1)) ++ ((fb_aw cI zab 4096 (z.2.2.1)) ++ ((fb_aw cI zao 4096 (z.2.2.2)) ++ (fb_mw cI zq zs zw)))))) args s 0 0 A) (F0 m 109 ls []) := by
  obtain ⟨hx, hb, hr, hml, hown, hts, hlk, hA, hK, hF⟩ := id X
  refine lv_iload_n hx hb dX6_goFrom_109 rfl (lv_at hl 3 rfl) ?_
  refine lv_bipush (v := (7 : Int32)) hx hb dX6_goFrom_110 (by decide) ?_
  refine lv_iand hx hb dX6_goFrom_112 ?_
  refine lv_iconst (v := (3 : Int32)) hx hb dX6_goFrom_113 (by decide) ?_
  refine lv_icmp_ne (tgt := 121) hx hb dX6_goFrom_114 (by decide) (fun c41 => ?_) (fun c41 => ?_)
  · have E42 := (E.trans (if_neg c41))
    exact b_X6_goFrom_121 X  (l2 := l2) (l3 := l3) I (lv_sub hl [0, 1, 2, 3] rfl) E42
  · have E43 := (E.trans (if_pos c41))
    refine lv_iconst (v := (1 : Int32)) hx hb dX6_goFrom_117 (by decide) ?_
    refine lv_goto (tgt := 122) hx hb dX6_goFrom_118 (by decide) ?_
    exact b_X6_goFrom_122 X  (l2 := l2) (l3 := l3) (k0 := (1 : Int32)) I (lv_sub hl [0, 1, 2, 3] rfl) E43
set_option maxHeartbeats 4000000 in
set_option maxRecDepth 100000 in
theorem b_X6_goFrom_95 {p : Program} {l : Launch} {e : Env} {s : State} {m : MethodId} {args : Array Value} {below : List Frame} {meth : Method} {c : Code} {D : va_G} {cI cJ : ClassId} {A : Nat → Prop} {zre : Nat} {zac : Nat} {zab : Nat} {zao : Nat} {zq : Nat → Nat} {z : fb_AR × fb_AR × fb_AR × fb_AR} (X : fb_Bx p s m args meth c cX6_goFrom RX6 8 none D (fb_ty D cI cJ) A) {ze6 : fb_AR} {zc : fb_AR} {zbg : fb_AR} {zop : fb_AR} {zs : fb_MS} {zw : fb_AR} {l2 : Int32} {l3 : Int32} {l5 : Int32} {H : Heap} {locs : List Loc} {ls : Array Slot}  (I : fb_In D A s.heap ((fb_o6 zre zac zab zao ze6) ++ ((fb_aw cI zac 4096 zc) ++ ((fb_aw cI zab 4096 zbg) ++ ((fb_aw cI zao 4096 zop) ++ (fb_mw cI zq zs zw))))) H locs) (hl : lv_has ls 8 [(0, .ref zre), (1, .ref (zq 0)), (2, .int l2), (3, .int l3), (5, .int l5)]) (E : z = f_X6_goFrom_95 ze6 zc zbg zop zs l2 l3 l5) : W p l e ({ frames := 4, cells := 0, slots := 0, locals := 86 } : Room) s m args below meth c H locs 0 0 (MQ below (fb_QV D A (fun (_ : Unit) => True) (fun (t : Unit) => (fb_o6 zre zac zab zao (z.1)) ++ ((fb_aw cI zac 4096 (z.2.1)) ++ ((fb_aw cI zab 4096 (z.2.2.1)) ++ ((fb_aw cI zao 4096 (z.2.2.2)) ++ (fb_mw cI zq zs zw)))))) args s 0 0 A) (F0 m 95 ls []) := by
  obtain ⟨hx, hb, hr, hml, hown, hts, hlk, hA, hK, hF⟩ := id X
  refine lv_iload hx hb dX6_goFrom_95 (lv_at hl 4 rfl) ?_
  refine lv_bipush (v := (24 : Int32)) hx hb dX6_goFrom_97 (by decide) ?_
  refine lv_icmp_eq (tgt := 109) hx hb dX6_goFrom_99 (by decide) (fun c24 => ?_) (fun c24 => ?_)
  · have E25 := (E.trans (if_pos c24))
    exact b_X6_goFrom_109 X  (l2 := l2) (l3 := l3) I (lv_sub hl [0, 1, 2, 3] rfl) E25
  · have E26 := (E.trans (if_neg c24))
    refine lv_iload hx hb dX6_goFrom_102 (lv_at hl 4 rfl) ?_
    refine lv_bipush (v := (25 : Int32)) hx hb dX6_goFrom_104 (by decide) ?_
    refine lv_icmp_ne (tgt := 121) hx hb dX6_goFrom_106 (by decide) (fun c27 => ?_) (fun c27 => ?_)
    · have E28 := (E26.trans (if_neg c27))
      exact b_X6_goFrom_121 X  (l2 := l2) (l3 := l3) I (lv_sub hl [0, 1, 2, 3] rfl) E28
    · have E29 := (E26.trans (if_pos c27))
      exact b_X6_goFrom_109 X  (l2 := l2) (l3 := l3) I (lv_sub hl [0, 1, 2, 3] rfl) E29
set_option maxHeartbeats 4000000 in
set_option maxRecDepth 100000 in
theorem b_X6_goFrom_76 {p : Program} {l : Launch} {e : Env} {s : State} {m : MethodId} {args : Array Value} {below : List Frame} {meth : Method} {c : Code} {D : va_G} {cI cJ : ClassId} {A : Nat → Prop} {zre : Nat} {zac : Nat} {zab : Nat} {zao : Nat} {zq : Nat → Nat} {z : fb_AR × fb_AR × fb_AR × fb_AR} (X : fb_Bx p s m args meth c cX6_goFrom RX6 8 none D (fb_ty D cI cJ) A) {ze6 : fb_AR} {zc : fb_AR} {zbg : fb_AR} {zop : fb_AR} {zs : fb_MS} {zw : fb_AR} {l2 : Int32} {l3 : Int32} {l4 : Int32} {l5 : Int32} {k0 : Int32} {H : Heap} {locs : List Loc} {ls : Array Slot}  (I : fb_In D A s.heap ((fb_o6 zre zac zab zao ze6) ++ ((fb_aw cI zac 4096 zc) ++ ((fb_aw cI zab 4096 zbg) ++ ((fb_aw cI zao 4096 zop) ++ (fb_mw cI zq zs zw))))) H locs) (hl : lv_has ls 8 [(0, .ref zre), (1, .ref (zq 0)), (2, .int l2), (3, .int l3), (4, .int l4), (5, .int l5)]) (E : z = f_X6_goFrom_76 ze6 zc zbg zop zs l2 l3 l4 l5 k0) : W p l e ({ frames := 4, cells := 0, slots := 0, locals := 86 } : Room) s m args below meth c H locs 0 0 (MQ below (fb_QV D A (fun (_ : Unit) => True) (fun (t : Unit) => (fb_o6 zre zac zab zao (z.1)) ++ ((fb_aw cI zac 4096 (z.2.1)) ++ ((fb_aw cI zab 4096 (z.2.2.1)) ++ ((fb_aw cI zao 4096 (z.2.2.2)) ++ (fb_mw cI zq zs zw)))))) args s 0 0 A) (F0 m 76 ls [.int k0]) := by
  obtain ⟨hx, hb, hr, hml, hown, hts, hlk, hA, hK, hF⟩ := id X
  refine lv_istore (lv' := [(6, .int k0), (0, .ref zre), (1, .ref (zq 0)), (2, .int l2), (3, .int l3), (4, .int l4), (5, .int l5)]) hx hb dX6_goFrom_76 hl (by decide) rfl (fun ls hl => ?_)
  refine lv_iload hx hb dX6_goFrom_78 (lv_at hl 0 rfl) ?_
  refine lv_if_ne (tgt := 95) hx hb dX6_goFrom_80 (by decide) (fun c20 => ?_) (fun c20 => ?_)
  · have E21 := (E.trans (if_neg c20))
    exact b_X6_goFrom_95 X  (l2 := l2) (l3 := l3) (l5 := l5) I (lv_sub hl [1, 2, 3, 4, 6] rfl) E21
  · have E22 := (E.trans (if_pos c20))
    refine lv_aload_n hx hb dX6_goFrom_83 rfl (lv_at hl 1 rfl) ?_
    refine lv_iload_n hx hb dX6_goFrom_84 rfl (lv_at hl 3 rfl) ?_
    refine lv_iload hx hb dX6_goFrom_85 (lv_at hl 5 rfl) ?_
    refine lv_iadd hx hb dX6_goFrom_87 ?_
    refine lv_sipush (v := (4095 : Int32)) hx hb dX6_goFrom_88 (by decide) ?_
    refine lv_iand hx hb dX6_goFrom_91 ?_
    refine fb_goV (wn := fun (w23 : Unit) => (fb_o6 zre zac zab zao ((f_X6_comeTo ze6 zc zop ((l2 + l4) &&& (4095 : Int32))).1)) ++ ((fb_aw cI zac 4096 ((f_X6_comeTo ze6 zc zop ((l2 + l4) &&& (4095 : Int32))).2.1)) ++ ((fb_aw cI zab 4096 zbg) ++ ((fb_aw cI zao 4096 ((f_X6_comeTo ze6 zc zop ((l2 + l4) &&& (4095 : Int32))).2.2)) ++ (fb_mw cI zq zs zw))))) X I (fb_runV (As := [.int ((l2 + l4) &&& (4095 : Int32))]) (rest := []) (q0 := 0) X I hl (c_X6_comeTo l D cI cJ zre zac zab zao ze6 zc zop ((l2 + l4) &&& (4095 : Int32)) _) (fb_goodV fw_1518 fw_1520 fw_81 fw_202 fw_1521) rfl rfl rfl (by decide +kernel : fb_hd yX6_comeTo 1) ⟨Nat.le_of_ble_eq_true rfl, Nat.le_of_ble_eq_true rfl⟩ [0, 1, 3] (by decide) rfl rfl rfl rfl rfl rfl (Nat.le_of_ble_eq_true rfl) ⟨Nat.zero_le _, Nat.zero_le _⟩ dX6_goFrom_92) [0, 1, 3] [2, 4, 5, 6, 7, 8, 9, 10, 11] [9, 10, 0, 11, 1, 2, 3, 4, 5, 6, 7, 8] rfl rfl (by decide) (by decide) (by decide) (fun _ => rfl) ?_
    intro w23 H locs _ I
    exact b_X6_goFrom_95 X  (l2 := l2) (l3 := l3) (l5 := l5) I (lv_sub hl [1, 2, 3, 4, 6] rfl) E22
set_option maxHeartbeats 4000000 in
set_option maxRecDepth 100000 in
theorem b_X6_goFrom_71 {p : Program} {l : Launch} {e : Env} {s : State} {m : MethodId} {args : Array Value} {below : List Frame} {meth : Method} {c : Code} {D : va_G} {cI cJ : ClassId} {A : Nat → Prop} {zre : Nat} {zac : Nat} {zab : Nat} {zao : Nat} {zq : Nat → Nat} {z : fb_AR × fb_AR × fb_AR × fb_AR} (X : fb_Bx p s m args meth c cX6_goFrom RX6 8 none D (fb_ty D cI cJ) A) {ze6 : fb_AR} {zc : fb_AR} {zbg : fb_AR} {zop : fb_AR} {zs : fb_MS} {zw : fb_AR} {l2 : Int32} {l3 : Int32} {l4 : Int32} {l5 : Int32} {H : Heap} {locs : List Loc} {ls : Array Slot}  (I : fb_In D A s.heap ((fb_o6 zre zac zab zao ze6) ++ ((fb_aw cI zac 4096 zc) ++ ((fb_aw cI zab 4096 zbg) ++ ((fb_aw cI zao 4096 zop) ++ (fb_mw cI zq zs zw))))) H locs) (hl : lv_has ls 8 [(0, .ref zre), (1, .ref (zq 0)), (2, .int l2), (3, .int l3), (4, .int l4), (5, .int l5)]) (E : z = f_X6_goFrom_71 ze6 zc zbg zop zs l2 l3 l4 l5) : W p l e ({ frames := 4, cells := 0, slots := 0, locals := 86 } : Room) s m args below meth c H locs 0 0 (MQ below (fb_QV D A (fun (_ : Unit) => True) (fun (t : Unit) => (fb_o6 zre zac zab zao (z.1)) ++ ((fb_aw cI zac 4096 (z.2.1)) ++ ((fb_aw cI zab 4096 (z.2.2.1)) ++ ((fb_aw cI zao 4096 (z.2.2.2)) ++ (fb_mw cI zq zs zw)))))) args s 0 0 A) (F0 m 71 ls []) := by
  obtain ⟨hx, hb, hr, hml, hown, hts, hlk, hA, hK, hF⟩ := id X
  refine lv_iconst (v := (1 : Int32)) hx hb dX6_goFrom_71 (by decide) ?_
  refine lv_goto (tgt := 76) hx hb dX6_goFrom_72 (by decide) ?_
  exact b_X6_goFrom_76 X  (l2 := l2) (l3 := l3) (l4 := l4) (l5 := l5) (k0 := (1 : Int32)) I (lv_sub hl [0, 1, 2, 3, 4, 5] rfl) E
set_option maxHeartbeats 4000000 in
set_option maxRecDepth 100000 in
theorem b_X6_goFrom_0 {p : Program} {l : Launch} {e : Env} {s : State} {m : MethodId} {args : Array Value} {below : List Frame} {meth : Method} {c : Code} {D : va_G} {cI cJ : ClassId} {A : Nat → Prop} {zre : Nat} {zac : Nat} {zab : Nat} {zao : Nat} {zq : Nat → Nat} {z : fb_AR × fb_AR × fb_AR × fb_AR} (X : fb_Bx p s m args meth c cX6_goFrom RX6 8 none D (fb_ty D cI cJ) A) {ze6 : fb_AR} {zc : fb_AR} {zbg : fb_AR} {zop : fb_AR} {zs : fb_MS} {zw : fb_AR} {l2 : Int32} {H : Heap} {locs : List Loc} {ls : Array Slot}  (I : fb_In D A s.heap ((fb_o6 zre zac zab zao ze6) ++ ((fb_aw cI zac 4096 zc) ++ ((fb_aw cI zab 4096 zbg) ++ ((fb_aw cI zao 4096 zop) ++ (fb_mw cI zq zs zw))))) H locs) (hl : lv_has ls 8 [(0, .ref zre), (1, .ref (zq 0)), (2, .int l2)]) (E : z = f_X6_goFrom ze6 zc zbg zop zs l2) : W p l e ({ frames := 4, cells := 0, slots := 0, locals := 86 } : Room) s m args below meth c H locs 0 0 (MQ below (fb_QV D A (fun (_ : Unit) => True) (fun (t : Unit) => (fb_o6 zre zac zab zao (z.1)) ++ ((fb_aw cI zac 4096 (z.2.1)) ++ ((fb_aw cI zab 4096 (z.2.2.1)) ++ ((fb_aw cI zao 4096 (z.2.2.2)) ++ (fb_mw cI zq zs zw)))))) args s 0 0 A) (F0 m 0 ls []) := by
  obtain ⟨hx, hb, hr, hml, hown, hts, hlk, hA, hK, hF⟩ := id X
  refine lv_aload_n hx hb dX6_goFrom_0 rfl (lv_at hl 1 rfl) ?_
  refine lv_iload_n hx hb dX6_goFrom_1 rfl (lv_at hl 2 rfl) ?_
  refine fb_roI X I (fb_runV (As := [.int l2]) (rest := []) (q0 := 4) X I hl (c_X2_shown l D cI cJ zq zs zw l2 _) (fb_goodV fw_1529 fw_1225 fw_1226 fw_198 fw_1227) rfl rfl rfl (by decide +kernel : fb_hd yX2_shown 1) ⟨Nat.le_of_ble_eq_true rfl, Nat.le_of_ble_eq_true rfl⟩ [4, 5, 6, 7, 8, 9, 10, 11] (by decide) rfl rfl rfl rfl rfl rfl (Nat.le_of_ble_eq_true rfl) ⟨Nat.zero_le _, Nat.zero_le _⟩ dX6_goFrom_2) ?_
  refine lv_istore_n (lv' := [(3, .int (f_X2_shown zs l2)), (0, .ref zre), (1, .ref (zq 0)), (2, .int l2)]) hx hb dX6_goFrom_5 rfl hl (by decide) rfl (fun ls hl => ?_)
  refine lv_iload_n hx hb dX6_goFrom_6 rfl (lv_at hl 0 rfl) ?_
  refine fb_roI X I (fb_runSN (As := [.int (f_X2_shown zs l2)]) (rest := []) X I hl (c_X11_lengthOf l D cI cJ (f_X2_shown zs l2) _) fw_1059 rfl rfl (List.mem_of_getElem? (i := 37) rfl) fw_191 fw_1058 (by decide +kernel : fb_hd yX11_lengthOf 1) ⟨Nat.le_of_ble_eq_true rfl, Nat.le_of_ble_eq_true rfl⟩ [] (by decide) rfl rfl rfl (Nat.le_of_ble_eq_true rfl) ⟨Nat.zero_le _, Nat.zero_le _⟩ dX6_goFrom_7) ?_
  refine lv_istore (lv' := [(4, .int (f_X11_lengthOf (f_X2_shown zs l2))), (3, .int (f_X2_shown zs l2)), (0, .ref zre), (1, .ref (zq 0)), (2, .int l2)]) hx hb dX6_goFrom_10 hl (by decide) rfl (fun ls hl => ?_)
  refine lv_iload hx hb dX6_goFrom_12 (lv_at hl 0 rfl) ?_
  refine lv_if_ne (tgt := 18) hx hb dX6_goFrom_14 (by decide) (fun c1 => ?_) (fun c1 => ?_)
  · have E2 := (E.trans (if_neg c1))
    refine lv_aload_n hx hb dX6_goFrom_18 rfl (lv_at hl 2 rfl) ?_
    refine fb_get X I (k := 1) fu_X6 0 rfl rfl (Nat.le_of_ble_eq_true rfl) fw_652 rfl rfl dX6_goFrom_19 ?_
    refine lv_iload_n hx hb dX6_goFrom_22 rfl (lv_at hl 4 rfl) ?_
    refine lv_iconst (v := (1 : Int32)) hx hb dX6_goFrom_23 (by decide) ?_
    refine fb_goV (wn := fun (w4 : Unit) => (fb_o6 zre zac zab zao ze6) ++ ((fb_aw cI zac 4096 zc) ++ ((fb_aw cI zab 4096 ((f_X11_put 4096 zbg l2 (1 : Int32)))) ++ ((fb_aw cI zao 4096 zop) ++ (fb_mw cI zq zs zw))))) X I (fb_runSN (As := [.ref zab, .int l2, .int (1 : Int32)]) (rest := []) X I hl (c_X11_put l D cI cJ zab 4096 zbg l2 (1 : Int32) _ (by decide)) fw_756 rfl rfl (List.mem_of_getElem? (i := 36) rfl) fw_191 fw_755 (by decide +kernel : fb_hd yX11_put 3) ⟨Nat.le_of_ble_eq_true rfl, Nat.le_of_ble_eq_true rfl⟩ [2] (by decide) rfl rfl rfl (Nat.le_of_ble_eq_true rfl) ⟨Nat.zero_le _, Nat.zero_le _⟩ dX6_goFrom_24) [2] [0, 1, 3, 4, 5, 6, 7, 8, 9, 10, 11] [0, 1, 11, 2, 3, 4, 5, 6, 7, 8, 9, 10] rfl rfl (by decide) (by decide) (by decide) (fun _ => rfl) ?_
    intro w4 H locs _ I
    refine lv_aload_n hx hb dX6_goFrom_27 rfl (lv_at hl 2 rfl) ?_
    refine lv_dup hx hb dX6_goFrom_28 rfl ?_
    refine fb_get X I (k := 4) fu_X6 0 rfl rfl (Nat.le_of_ble_eq_true rfl) fw_656 rfl rfl dX6_goFrom_29 ?_
    refine lv_iconst (v := (1 : Int32)) hx hb dX6_goFrom_32 (by decide) ?_
    refine lv_iadd hx hb dX6_goFrom_33 ?_
    refine fb_put X I (k := 4) (wn := (fb_o6 zre zac zab zao (upd ze6 4 ((ze6 4) + (1 : Int32)))) ++ ((fb_aw cI zac 4096 zc) ++ ((fb_aw cI zab 4096 ((f_X11_put 4096 zbg l2 (1 : Int32)))) ++ ((fb_aw cI zao 4096 zop) ++ (fb_mw cI zq zs zw))))) fu_X6 tyX6 tyX6_ok nmX6 0 rfl rfl (Nat.le_of_ble_eq_true rfl) fw_656 rfl rfl rfl rfl rfl (Nat.le_of_ble_eq_true rfl) rfl dX6_goFrom_34 (fun H locs I => ?_)
    refine lv_iload_n hx hb dX6_goFrom_37 rfl (lv_at hl 1 rfl) ?_
    refine lv_iconst (v := (3 : Int32)) hx hb dX6_goFrom_38 (by decide) ?_
    refine lv_ishr hx hb dX6_goFrom_39 ?_
    refine lv_istore (lv' := [(5, .int ((f_X2_shown zs l2) >>> ((3 : Int32) &&& 31))), (4, .int (f_X11_lengthOf (f_X2_shown zs l2))), (3, .int (f_X2_shown zs l2)), (0, .ref zre), (1, .ref (zq 0)), (2, .int l2)]) hx hb dX6_goFrom_40 hl (by decide) rfl (fun ls hl => ?_)
    refine lv_iload_n hx hb dX6_goFrom_42 rfl (lv_at hl 2 rfl) ?_
    refine lv_iconst (v := (1 : Int32)) hx hb dX6_goFrom_43 (by decide) ?_
    refine lv_icmp_eq (tgt := 71) hx hb dX6_goFrom_44 (by decide) (fun c5 => ?_) (fun c5 => ?_)
    · have E6 := (E2.trans (if_pos c5))
      exact b_X6_goFrom_71 X  (l2 := l2) (l3 := (f_X2_shown zs l2)) (l4 := (f_X11_lengthOf (f_X2_shown zs l2))) (l5 := ((f_X2_shown zs l2) >>> ((3 : Int32) &&& 31))) I (lv_sub hl [3, 4, 5, 2, 1, 0] rfl) E6
    · have E7 := (E2.trans (if_neg c5))
      refine lv_iload_n hx hb dX6_goFrom_47 rfl (lv_at hl 2 rfl) ?_
      refine lv_iconst (v := (3 : Int32)) hx hb dX6_goFrom_48 (by decide) ?_
      refine lv_icmp_eq (tgt := 71) hx hb dX6_goFrom_49 (by decide) (fun c8 => ?_) (fun c8 => ?_)
      · have E9 := (E7.trans (if_pos c8))
        exact b_X6_goFrom_71 X  (l2 := l2) (l3 := (f_X2_shown zs l2)) (l4 := (f_X11_lengthOf (f_X2_shown zs l2))) (l5 := ((f_X2_shown zs l2) >>> ((3 : Int32) &&& 31))) I (lv_sub hl [3, 4, 5, 2, 1, 0] rfl) E9
      · have E10 := (E7.trans (if_neg c8))
        refine lv_iload_n hx hb dX6_goFrom_52 rfl (lv_at hl 2 rfl) ?_
        refine lv_iconst (v := (4 : Int32)) hx hb dX6_goFrom_53 (by decide) ?_
        refine lv_icmp_eq (tgt := 71) hx hb dX6_goFrom_54 (by decide) (fun c11 => ?_) (fun c11 => ?_)
        · have E12 := (E10.trans (if_pos c11))
          exact b_X6_goFrom_71 X  (l2 := l2) (l3 := (f_X2_shown zs l2)) (l4 := (f_X11_lengthOf (f_X2_shown zs l2))) (l5 := ((f_X2_shown zs l2) >>> ((3 : Int32) &&& 31))) I (lv_sub hl [3, 4, 5, 2, 1, 0] rfl) E12
        · have E13 := (E10.trans (if_neg c11))
          refine lv_iload_n hx hb dX6_goFrom_57 rfl (lv_at hl 2 rfl) ?_
          refine lv_sipush (v := (216 : Int32)) hx hb dX6_goFrom_58 (by decide) ?_
          refine lv_icmp_eq (tgt := 71) hx hb dX6_goFrom_61 (by decide) (fun c14 => ?_) (fun c14 => ?_)
          · have E15 := (E13.trans (if_pos c14))
            exact b_X6_goFrom_71 X  (l2 := l2) (l3 := (f_X2_shown zs l2)) (l4 := (f_X11_lengthOf (f_X2_shown zs l2))) (l5 := ((f_X2_shown zs l2) >>> ((3 : Int32) &&& 31))) I (lv_sub hl [3, 4, 5, 2, 1, 0] rfl) E15
          · have E16 := (E13.trans (if_neg c14))
            refine lv_iload hx hb dX6_goFrom_64 (lv_at hl 0 rfl) ?_
            refine lv_bipush (v := (24 : Int32)) hx hb dX6_goFrom_66 (by decide) ?_
            refine lv_icmp_ne (tgt := 75) hx hb dX6_goFrom_68 (by decide) (fun c17 => ?_) (fun c17 => ?_)
            · have E18 := (E16.trans (if_neg c17))
              refine lv_iconst (v := (0 : Int32)) hx hb dX6_goFrom_75 (by decide) ?_
              exact b_X6_goFrom_76 X  (l2 := l2) (l3 := (f_X2_shown zs l2)) (l4 := (f_X11_lengthOf (f_X2_shown zs l2))) (l5 := ((f_X2_shown zs l2) >>> ((3 : Int32) &&& 31))) (k0 := (0 : Int32)) I (lv_sub hl [3, 4, 5, 2, 1, 0] rfl) E18
            · have E19 := (E16.trans (if_pos c17))
              exact b_X6_goFrom_71 X  (l2 := l2) (l3 := (f_X2_shown zs l2)) (l4 := (f_X11_lengthOf (f_X2_shown zs l2))) (l5 := ((f_X2_shown zs l2) >>> ((3 : Int32) &&& 31))) I (lv_sub hl [3, 4, 5, 2, 1, 0] rfl) E19
  · have E3 := (E.trans (if_pos c1))
    subst E3
    exact fb_retV (u := ()) X I trivial dX6_goFrom_17
set_option maxHeartbeats 4000000 in
set_option maxRecDepth 100000 in
theorem c_X6_goFrom (l : Launch) (D : va_G) (cI cJ : ClassId) (zre : Nat) (zac : Nat) (zab : Nat) (zao : Nat) (ze6 : fb_AR) (zc : fb_AR) (zbg : fb_AR) (zop : fb_AR) (zq : Nat → Nat) (zs : fb_MS) (zw : fb_AR) (l2 : Int32) (sz : Nat)  : Met l yX6_goFrom (Cond.code yX6_goFrom cX6_goFrom 8 none :: fb_all) ({ frames := 4, cells := 0, slots := 0, locals := 86 } : Room) (fb_PP D (fb_ty D cI cJ) [.ref zre, .ref (zq 0), .int l2] ((fb_o6 zre zac zab zao ze6) ++ ((fb_aw cI zac 4096 zc) ++ ((fb_aw cI zab 4096 zbg) ++ ((fb_aw cI zao 4096 zop) ++ (fb_mw cI zq zs zw))))) sz) (fb_QV D (va_A ((fb_o6 zre zac zab zao ze6) ++ ((fb_aw cI zac 4096 zc) ++ ((fb_aw cI zab 4096 zbg) ++ ((fb_aw cI zao 4096 zop) ++ (fb_mw cI zq zs zw))))) sz) (fun (_ : Unit) => True) (fun (t : Unit) => (fb_o6 zre zac zab zao (((f_X6_goFrom ze6 zc zbg zop zs l2)).1)) ++ ((fb_aw cI zac 4096 (((f_X6_goFrom ze6 zc zbg zop zs l2)).2.1)) ++ ((fb_aw cI zab 4096 (((f_X6_goFrom ze6 zc zbg zop zs l2)).2.2.1)) ++ ((fb_aw cI zao 4096 (((f_X6_goFrom ze6 zc zbg zop zs l2)).2.2.2)) ++ (fb_mw cI zq zs zw)))))) 0 0 (va_A ((fb_o6 zre zac zab zao ze6) ++ ((fb_aw cI zac 4096 zc) ++ ((fb_aw cI zab 4096 zbg) ++ ((fb_aw cI zao 4096 zop) ++ (fb_mw cI zq zs zw))))) sz) := by
  refine fb_ent (Qf := fun A => (fb_QV D A (fun (_ : Unit) => True) (fun (t : Unit) => (fb_o6 zre zac zab zao (((f_X6_goFrom ze6 zc zbg zop zs l2)).1)) ++ ((fb_aw cI zac 4096 (((f_X6_goFrom ze6 zc zbg zop zs l2)).2.1)) ++ ((fb_aw cI zab 4096 (((f_X6_goFrom ze6 zc zbg zop zs l2)).2.2.1)) ++ ((fb_aw cI zao 4096 (((f_X6_goFrom ze6 zc zbg zop zs l2)).2.2.2)) ++ (fb_mw cI zq zs zw))))))) (by decide +kernel) (Nat.le_of_ble_eq_true rfl) ?_
  intro p e s m args below meth c A ls X I hl hin
  exact b_X6_goFrom_0 X  I hl rfl

