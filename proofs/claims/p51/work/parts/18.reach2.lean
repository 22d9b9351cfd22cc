/-! X6_explore -/
def f_X6_explore_59  : Nat → fb_AR → fb_AR → fb_AR → fb_AR → fb_MS → Int32 → fb_AR × fb_AR × fb_AR × fb_AR
  | 0, ze6, zc, zbg, zop, zs, _ => (ze6, zc, zbg, zop)
  | n + 1, ze6, zc, zbg, zop, zs, l2 => (if (4096 : Int32) ≤ l2 then (ze6, zc, zbg, zop) else (if (ze6 3) ≤ 0 then (ze6, zc, zbg, zop) else f_X6_explore_59 n ((f_X6_goFrom (upd ze6 3 ((ze6 3) - (1 : Int32))) zc zbg zop zs (f_X11_at 4096 zop ((upd ze6 3 ((ze6 3) - (1 : Int32))) 3))).1) ((f_X6_goFrom (upd ze6 3 ((ze6 3) - (1 : Int32))) zc zbg zop zs (f_X11_at 4096 zop ((upd ze6 3 ((ze6 3) - (1 : Int32))) 3))).2.1) ((f_X6_goFrom (upd ze6 3 ((ze6 3) - (1 : Int32))) zc zbg zop zs (f_X11_at 4096 zop ((upd ze6 3 ((ze6 3) - (1 : Int32))) 3))).2.2.1) ((f_X6_goFrom (upd ze6 3 ((ze6 3) - (1 : Int32))) zc zbg zop zs (f_X11_at 4096 zop ((upd ze6 3 ((ze6 3) - (1 : Int32))) 3))).2.2.2) zs (l2 + (1 : Int32))))
def f_X6_explore_36  : Nat → fb_AR → fb_AR → fb_AR → fb_AR → fb_MS → Int32 → fb_AR × fb_AR × fb_AR × fb_AR
  | 0, ze6, zc, zbg, zop, zs, _ => (ze6, zc, zbg, zop)
  | n + 1, ze6, zc, zbg, zop, zs, l2 => (if (8 : Int32) ≤ l2 then f_X6_explore_59 ((fb_mu (0 : Int32) (4096 : Int32)) + 1) ze6 zc zbg zop zs (0 : Int32) else f_X6_explore_36 n ((f_X6_comeTo ze6 zc zop (f_X2_vector zs l2)).1) ((f_X6_comeTo ze6 zc zop (f_X2_vector zs l2)).2.1) zbg ((f_X6_comeTo ze6 zc zop (f_X2_vector zs l2)).2.2) zs (l2 + (1 : Int32)))
def f_X6_explore (ze6 : fb_AR) (zc : fb_AR) (zbg : fb_AR) (zop : fb_AR) (zs : fb_MS) : fb_AR × fb_AR × fb_AR × fb_AR := f_X6_explore_36 ((fb_mu (0 : Int32) (8 : Int32)) + 1) ((f_X6_comeTo (fun _ => (0 : Int32)) ((f_J7_fill_53178 4096 zc (0 : Int32))) zop ((zs).1 9)).1) ((f_X6_comeTo (fun _ => (0 : Int32)) ((f_J7_fill_53178 4096 zc (0 : Int32))) zop ((zs).1 9)).2.1) ((f_J7_fill_53178 4096 zbg (0 : Int32))) ((f_X6_comeTo (fun _ => (0 : Int32)) ((f_J7_fill_53178 4096 zc (0 : Int32))) zop ((zs).1 9)).2.2) zs (0 : Int32)
set_option maxHeartbeats 4000000 in
set_option maxRecDepth 100000 in
theorem b_X6_explore_59 {p : Program} {l : Launch} {e : Env} {s : State} {m : MethodId} {args : Array Value} {below : List Frame} {meth : Method} {c : Code} {D : va_G} {cI cJ : ClassId} {A : Nat → Prop} {zre : Nat} {zac : Nat} {zab : Nat} {zao : Nat} {zq : Nat → Nat} {zs : fb_MS} {zw : fb_AR} {z : fb_AR × fb_AR × fb_AR × fb_AR} (X : fb_Bx p s m args meth c cX6_explore RX6 3 none D (fb_ty D cI cJ) A)  : ∀ (n : Nat) {ze6 : fb_AR} {zc : fb_AR} {zbg : fb_AR} {zop : fb_AR} {l2 : Int32} {H : Heap} {locs : List Loc} {ls : Array Slot} (hm : (fb_mu l2 (4096 : Int32)) < n) (I : fb_In D A s.heap ((fb_o6 zre zac zab zao ze6) ++ ((fb_aw cI zac 4096 zc) ++ ((fb_aw cI zab 4096 zbg) ++ ((fb_aw cI zao 4096 zop) ++ (fb_mw cI zq zs zw))))) H locs) (hl : lv_has ls 3 [(0, .ref zre), (1, .ref (zq 0)), (2, .int l2)]) (E : z = f_X6_explore_59 n ze6 zc zbg zop zs l2), W p l e ({ frames := 5, cells := 0, slots := 0, locals := 113 } : Room) s m args below meth c H locs 0 0 (MQ below (fb_QV D A (fun (_ : Unit) => True) (fun (t : Unit) => (fb_o6 zre zac zab zao (z.1)) ++ ((fb_aw cI zac 4096 (z.2.1)) ++ ((fb_aw cI zab 4096 (z.2.2.1)) ++ ((fb_aw cI zao 4096 (z.2.2.2)) ++ (fb_mw cI zq zs zw)))))) args s 0 0 A) (F0 m 59 ls []) := by
  intro n
  obtain ⟨hx, hb, hr, hml, hown, hts, hlk, hA, hK, hF⟩ := id X
  induction n with
  | zero =>
    intro ze6 zc zbg zop l2 H locs ls hm
    exact absurd hm (Nat.not_lt_zero _)
  | succ n ih =>
    intro ze6 zc zbg zop l2 H locs ls hm I hl E
    refine lv_iload_n hx hb dX6_explore_59 rfl (lv_at hl 2 rfl) ?_
    refine lv_sipush (v := (4096 : Int32)) hx hb dX6_explore_60 (by decide) ?_
    refine lv_icmp_ge (tgt := 105) hx hb dX6_explore_63 (by decide) (fun c8 => ?_) (fun c8 => ?_)
    · have E9 := (E.trans (if_pos c8))
      subst E9
      exact fb_retV (u := ()) X I trivial dX6_explore_105
    · have E10 := (E.trans (if_neg c8))
      refine lv_aload_n hx hb dX6_explore_66 rfl (lv_at hl 0 rfl) ?_
      refine fb_get X I (k := 3) fu_X6 0 rfl rfl (Nat.le_of_ble_eq_true rfl) fw_655 rfl rfl dX6_explore_67 ?_
      refine lv_if_le (tgt := 105) hx hb dX6_explore_70 (by decide) (fun c11 => ?_) (fun c11 => ?_)
      · have E12 := (E10.trans (if_pos c11))
        subst E12
        exact fb_retV (u := ()) X I trivial dX6_explore_105
      · have E13 := (E10.trans (if_neg c11))
        refine lv_aload_n hx hb dX6_explore_73 rfl (lv_at hl 0 rfl) ?_
        refine lv_dup hx hb dX6_explore_74 rfl ?_
        refine fb_get X I (k := 3) fu_X6 0 rfl rfl (Nat.le_of_ble_eq_true rfl) fw_655 rfl rfl dX6_explore_75 ?_
        refine lv_iconst (v := (1 : Int32)) hx hb dX6_explore_78 (by decide) ?_
        refine lv_isub hx hb dX6_explore_79 ?_
        refine fb_put X I (k := 3) (wn := (fb_o6 zre zac zab zao (upd ze6 3 ((ze6 3) - (1 : Int32)))) ++ ((fb_aw cI zac 4096 zc) ++ ((fb_aw cI zab 4096 zbg) ++ ((fb_aw cI zao 4096 zop) ++ (fb_mw cI zq zs zw))))) fu_X6 tyX6 tyX6_ok nmX6 0 rfl rfl (Nat.le_of_ble_eq_true rfl) fw_655 rfl rfl rfl rfl rfl (Nat.le_of_ble_eq_true rfl) rfl dX6_explore_80 (fun H locs I => ?_)
        refine lv_aload_n hx hb dX6_explore_83 rfl (lv_at hl 0 rfl) ?_
        refine lv_aload_n hx hb dX6_explore_84 rfl (lv_at hl 1 rfl) ?_
        refine lv_aload_n hx hb dX6_explore_85 rfl (lv_at hl 0 rfl) ?_
        refine fb_get X I (k := 2) fu_X6 0 rfl rfl (Nat.le_of_ble_eq_true rfl) fw_654 rfl rfl dX6_explore_86 ?_
        refine lv_aload_n hx hb dX6_explore_89 rfl (lv_at hl 0 rfl) ?_
        refine fb_get X I (k := 3) fu_X6 0 rfl rfl (Nat.le_of_ble_eq_true rfl) fw_655 rfl rfl dX6_explore_90 ?_
        refine fb_roI X I (fb_runSN (As := [.ref zao, .int ((upd ze6 3 ((ze6 3) - (1 : Int32))) 3)]) (rest := [.ref (zq 0), .ref zre]) X I hl (c_X11_at l D cI cJ zao 4096 zop ((upd ze6 3 ((ze6 3) - (1 : Int32))) 3) _ (by decide)) fw_686 rfl rfl (List.mem_of_getElem? (i := 35) rfl) fw_191 fw_685 (by decide +kernel : fb_hd yX11_at 2) ⟨Nat.le_of_ble_eq_true rfl, Nat.le_of_ble_eq_true rfl⟩ [3] (by decide) rfl rfl rfl (Nat.le_of_ble_eq_true rfl) ⟨Nat.zero_le _, Nat.zero_le _⟩ dX6_explore_93) ?_
        refine fb_goV (wn := fun (w14 : Unit) => (fb_o6 zre zac zab zao ((f_X6_goFrom (upd ze6 3 ((ze6 3) - (1 : Int32))) zc zbg zop zs (f_X11_at 4096 zop ((upd ze6 3 ((ze6 3) - (1 : Int32))) 3))).1)) ++ ((fb_aw cI zac 4096 ((f_X6_goFrom (upd ze6 3 ((ze6 3) - (1 : Int32))) zc zbg zop zs (f_X11_at 4096 zop ((upd ze6 3 ((ze6 3) - (1 : Int32))) 3))).2.1)) ++ ((fb_aw cI zab 4096 ((f_X6_goFrom (upd ze6 3 ((ze6 3) - (1 : Int32))) zc zbg zop zs (f_X11_at 4096 zop ((upd ze6 3 ((ze6 3) - (1 : Int32))) 3))).2.2.1)) ++ ((fb_aw cI zao 4096 ((f_X6_goFrom (upd ze6 3 ((ze6 3) - (1 : Int32))) zc zbg zop zs (f_X11_at 4096 zop ((upd ze6 3 ((ze6 3) - (1 : Int32))) 3))).2.2.2)) ++ (fb_mw cI zq zs zw))))) X I (fb_runV (As := [.ref (zq 0), .int (f_X11_at 4096 zop ((upd ze6 3 ((ze6 3) - (1 : Int32))) 3))]) (rest := []) (q0 := 0) X I hl (c_X6_goFrom l D cI cJ zre zac zab zao (upd ze6 3 ((ze6 3) - (1 : Int32))) zc zbg zop zq zs zw (f_X11_at 4096 zop ((upd ze6 3 ((ze6 3) - (1 : Int32))) 3)) _) (fb_goodV fw_1525 fw_1527 fw_82 fw_202 fw_1528) rfl rfl rfl (by decide +kernel : fb_hd yX6_goFrom 2) ⟨Nat.le_of_ble_eq_true rfl, Nat.le_of_ble_eq_true rfl⟩ [0, 1, 2, 3, 4, 5, 6, 7, 8, 9, 10, 11] (by decide) rfl rfl rfl rfl rfl rfl (Nat.le_of_ble_eq_true rfl) ⟨Nat.zero_le _, Nat.zero_le _⟩ dX6_explore_96) [0, 1, 2, 3, 4, 5, 6, 7, 8, 9, 10, 11] [] [0, 1, 2, 3, 4, 5, 6, 7, 8, 9, 10, 11] rfl rfl (by decide) (by decide) (by decide) (fun _ => rfl) ?_
        intro w14 H locs _ I
        refine lv_iinc (v := (l2 + (1 : Int32))) (lv' := [(2, .int (l2 + (1 : Int32))), (0, .ref zre), (1, .ref (zq 0))]) hx hb dX6_explore_99 hl (k := 2) rfl rfl (by decide) rfl (fun ls hl => ?_)
        refine lv_goto (tgt := 59) hx hb dX6_explore_102 (by decide) ?_
        exact ih (l2 := (l2 + (1 : Int32))) (fb_mu_ge c8 hm)  I (lv_sub hl [1, 2, 0] rfl) E13
set_option maxHeartbeats 4000000 in
set_option maxRecDepth 100000 in
theorem b_X6_explore_36 {p : Program} {l : Launch} {e : Env} {s : State} {m : MethodId} {args : Array Value} {below : List Frame} {meth : Method} {c : Code} {D : va_G} {cI cJ : ClassId} {A : Nat → Prop} {zre : Nat} {zac : Nat} {zab : Nat} {zao : Nat} {zq : Nat → Nat} {zs : fb_MS} {zw : fb_AR} {z : fb_AR × fb_AR × fb_AR × fb_AR} (X : fb_Bx p s m args meth c cX6_explore RX6 3 none D (fb_ty D cI cJ) A)  : ∀ (n : Nat) {ze6 : fb_AR} {zc : fb_AR} {zbg : fb_AR} {zop : fb_AR} {l2 : Int32} {H : Heap} {locs : List Loc} {ls : Array Slot} (hm : (fb_mu l2 (8 : Int32)) < n) (I : fb_In D A s.heap ((fb_o6 zre zac zab zao ze6) ++ ((fb_aw cI zac 4096 zc) ++ ((fb_aw cI zab 4096 zbg) ++ ((fb_aw cI zao 4096 zop) ++ (fb_mw cI zq zs zw))))) H locs) (hl : lv_has ls 3 [(0, .ref zre), (1, .ref (zq 0)), (2, .int l2)]) (E : z = f_X6_explore_36 n ze6 zc zbg zop zs l2), W p l e ({ frames := 5, cells := 0, slots := 0, locals := 113 } : Room) s m args below meth c H locs 0 0 (MQ below (fb_QV D A (fun (_ : Unit) => True) (fun (t : Unit) => (fb_o6 zre zac zab zao (z.1)) ++ ((fb_aw cI zac 4096 (z.2.1)) ++ ((fb_aw cI zab 4096 (z.2.2.1)) ++ ((fb_aw cI zao 4096 (z.2.2.2)) ++ (fb_mw cI zq zs zw)))))) args s 0 0 A) (F0 m 36 ls []) := by
  intro n
  obtain ⟨hx, hb, hr, hml, hown, hts, hlk, hA, hK, hF⟩ := id X
  induction n with
  | zero =>
    intro ze6 zc zbg zop l2 H locs ls hm
    exact absurd hm (Nat.not_lt_zero _)
  | succ n ih =>
    intro ze6 zc zbg zop l2 H locs ls hm I hl E
    refine lv_iload_n hx hb dX6_explore_36 rfl (lv_at hl 2 rfl) ?_
    refine lv_bipush (v := (8 : Int32)) hx hb dX6_explore_37 (by decide) ?_
    refine lv_icmp_ge (tgt := 57) hx hb dX6_explore_39 (by decide) (fun c4 => ?_) (fun c4 => ?_)
    · have E5 := (E.trans (if_pos c4))
      refine lv_iconst (v := (0 : Int32)) hx hb dX6_explore_57 (by decide) ?_
      refine lv_istore_n (lv' := [(2, .int (0 : Int32)), (0, .ref zre), (1, .ref (zq 0))]) hx hb dX6_explore_58 rfl hl (by decide) rfl (fun ls hl => ?_)
      exact b_X6_explore_59 X  ((fb_mu (0 : Int32) (4096 : Int32)) + 1) (l2 := (0 : Int32)) (Nat.lt_succ_self _)  I (lv_sub hl [1, 2, 0] rfl) E5
    · have E6 := (E.trans (if_neg c4))
      refine lv_aload_n hx hb dX6_explore_42 rfl (lv_at hl 0 rfl) ?_
      refine lv_aload_n hx hb dX6_explore_43 rfl (lv_at hl 1 rfl) ?_
      refine lv_iload_n hx hb dX6_explore_44 rfl (lv_at hl 2 rfl) ?_
      refine fb_roI X I (fb_runV (As := [.int l2]) (rest := [.ref zre]) (q0 := 4) X I hl (c_X2_vector l D cI cJ zq zs zw l2 _) (fb_goodV fw_1524 fw_681 fw_682 fw_198 fw_683) rfl rfl rfl (by decide +kernel : fb_hd yX2_vector 1) ⟨Nat.le_of_ble_eq_true rfl, Nat.le_of_ble_eq_true rfl⟩ [4, 5, 6, 7, 8, 9, 10, 11] (by decide) rfl rfl rfl rfl rfl rfl (Nat.le_of_ble_eq_true rfl) ⟨Nat.zero_le _, Nat.zero_le _⟩ dX6_explore_45) ?_
      refine fb_goV (wn := fun (w7 : Unit) => (fb_o6 zre zac zab zao ((f_X6_comeTo ze6 zc zop (f_X2_vector zs l2)).1)) ++ ((fb_aw cI zac 4096 ((f_X6_comeTo ze6 zc zop (f_X2_vector zs l2)).2.1)) ++ ((fb_aw cI zab 4096 zbg) ++ ((fb_aw cI zao 4096 ((f_X6_comeTo ze6 zc zop (f_X2_vector zs l2)).2.2)) ++ (fb_mw cI zq zs zw))))) X I (fb_runV (As := [.int (f_X2_vector zs l2)]) (rest := []) (q0 := 0) X I hl (c_X6_comeTo l D cI cJ zre zac zab zao ze6 zc zop (f_X2_vector zs l2) _) (fb_goodV fw_1518 fw_1520 fw_81 fw_202 fw_1521) rfl rfl rfl (by decide +kernel : fb_hd yX6_comeTo 1) ⟨Nat.le_of_ble_eq_true rfl, Nat.le_of_ble_eq_true rfl⟩ [0, 1, 3] (by decide) rfl rfl rfl rfl rfl rfl (Nat.le_of_ble_eq_true rfl) ⟨Nat.zero_le _, Nat.zero_le _⟩ dX6_explore_48) [0, 1, 3] [2, 4, 5, 6, 7, 8, 9, 10, 11] [9, 10, 0, 11, 1, 2, 3, 4, 5, 6, 7, 8] rfl rfl (by decide) (by decide) (by decide) (fun _ => rfl) ?_
      intro w7 H locs _ I
      refine lv_iinc (v := (l2 + (1 : Int32))) (lv' := [(2, .int (l2 + (1 : Int32))), (0, .ref zre), (1, .ref (zq 0))]) hx hb dX6_explore_51 hl (k := 2) rfl rfl (by decide) rfl (fun ls hl => ?_)
      refine lv_goto (tgt := 36) hx hb dX6_explore_54 (by decide) ?_
      exact ih (l2 := (l2 + (1 : Int32))) (fb_mu_ge c4 hm)  I (lv_sub hl [1, 2, 0] rfl) E6
set_option maxHeartbeats 4000000 in
set_option maxRecDepth 100000 in
theorem b_X6_explore_0 {p : Program} {l : Launch} {e : Env} {s : State} {m : MethodId} {args : Array Value} {below : List Frame} {meth : Method} {c : Code} {D : va_G} {cI cJ : ClassId} {A : Nat → Prop} {zre : Nat} {zac : Nat} {zab : Nat} {zao : Nat} {zq : Nat → Nat} {zs : fb_MS} {zw : fb_AR} {z : fb_AR × fb_AR × fb_AR × fb_AR} (X : fb_Bx p s m args meth c cX6_explore RX6 3 none D (fb_ty D cI cJ) A) {ze6 : fb_AR} {zc : fb_AR} {zbg : fb_AR} {zop : fb_AR} {H : Heap} {locs : List Loc} {ls : Array Slot}  (I : fb_In D A s.heap ((fb_o6 zre zac zab zao ze6) ++ ((fb_aw cI zac 4096 zc) ++ ((fb_aw cI zab 4096 zbg) ++ ((fb_aw cI zao 4096 zop) ++ (fb_mw cI zq zs zw))))) H locs) (hl : lv_has ls 3 [(0, .ref zre), (1, .ref (zq 0))]) (E : z = f_X6_explore ze6 zc zbg zop zs) : W p l e ({ frames := 5, cells := 0, slots := 0, locals := 113 } : Room) s m args below meth c H locs 0 0 (MQ below (fb_QV D A (fun (_ : Unit) => True) (fun (t : Unit) => (fb_o6 zre zac zab zao (z.1)) ++ ((fb_aw cI zac 4096 (z.2.1)) ++ ((fb_aw cI zab 4096 (z.2.2.1)) ++ ((fb_aw cI zao 4096 (z.2.2.2)) ++ (fb_mw cI zq zs zw)))))) args s 0 0 A) (F0 m 0 ls []) := by
  obtain ⟨hx, hb, hr, hml, hown, hts, hlk, hA, hK, hF⟩ := id X
  refine lv_aload_n hx hb dX6_explore_0 rfl (lv_at hl 0 rfl) ?_
  refine fb_get X I (k := 0) fu_X6 0 rfl rfl (Nat.le_of_ble_eq_true rfl) fw_651 rfl rfl dX6_explore_1 ?_
  refine lv_iconst (v := (0 : Int32)) hx hb dX6_explore_4 (by decide) ?_
  refine fb_goV (wn := fun (w1 : Unit) => (fb_o6 zre zac zab zao ze6) ++ ((fb_aw cI zac 4096 ((f_J7_fill_53178 4096 zc (0 : Int32)))) ++ ((fb_aw cI zab 4096 zbg) ++ ((fb_aw cI zao 4096 zop) ++ (fb_mw cI zq zs zw))))) X I (fb_runS (As := [.ref zac, .int (0 : Int32)]) (rest := []) X I hl (c_J7_fill_53178 l D cI cJ zac 4096 zc (0 : Int32) _ (by decide)) (fb_goodS fw_1517 fw_674 fw_203 fw_675) rfl rfl (by decide +kernel : fb_hd yJ7_fill_53178 2) ⟨Nat.le_of_ble_eq_true rfl, Nat.le_of_ble_eq_true rfl⟩ [1] (by decide) rfl rfl rfl (Nat.le_of_ble_eq_true rfl) ⟨Nat.zero_le _, Nat.zero_le _⟩ dX6_explore_5) [1] [0, 2, 3, 4, 5, 6, 7, 8, 9, 10, 11] [0, 11, 1, 2, 3, 4, 5, 6, 7, 8, 9, 10] rfl rfl (by decide) (by decide) (by decide) (fun _ => rfl) ?_
  intro w1 H locs _ I
  refine lv_aload_n hx hb dX6_explore_8 rfl (lv_at hl 0 rfl) ?_
  refine fb_get X I (k := 1) fu_X6 0 rfl rfl (Nat.le_of_ble_eq_true rfl) fw_652 rfl rfl dX6_explore_9 ?_
  refine lv_iconst (v := (0 : Int32)) hx hb dX6_explore_12 (by decide) ?_
  refine fb_goV (wn := fun (w2 : Unit) => (fb_o6 zre zac zab zao ze6) ++ ((fb_aw cI zac 4096 ((f_J7_fill_53178 4096 zc (0 : Int32)))) ++ ((fb_aw cI zab 4096 ((f_J7_fill_53178 4096 zbg (0 : Int32)))) ++ ((fb_aw cI zao 4096 zop) ++ (fb_mw cI zq zs zw))))) X I (fb_runS (As := [.ref zab, .int (0 : Int32)]) (rest := []) X I hl (c_J7_fill_53178 l D cI cJ zab 4096 zbg (0 : Int32) _ (by decide)) (fb_goodS fw_1517 fw_674 fw_203 fw_675) rfl rfl (by decide +kernel : fb_hd yJ7_fill_53178 2) ⟨Nat.le_of_ble_eq_true rfl, Nat.le_of_ble_eq_true rfl⟩ [2] (by decide) rfl rfl rfl (Nat.le_of_ble_eq_true rfl) ⟨Nat.zero_le _, Nat.zero_le _⟩ dX6_explore_13) [2] [0, 1, 3, 4, 5, 6, 7, 8, 9, 10, 11] [0, 1, 11, 2, 3, 4, 5, 6, 7, 8, 9, 10] rfl rfl (by decide) (by decide) (by decide) (fun _ => rfl) ?_
  intro w2 H locs _ I
  refine lv_aload_n hx hb dX6_explore_16 rfl (lv_at hl 0 rfl) ?_
  refine lv_iconst (v := (0 : Int32)) hx hb dX6_explore_17 (by decide) ?_
  refine fb_put X I (k := 3) (wn := (fb_o6 zre zac zab zao (upd ze6 3 (0 : Int32))) ++ ((fb_aw cI zac 4096 ((f_J7_fill_53178 4096 zc (0 : Int32)))) ++ ((fb_aw cI zab 4096 ((f_J7_fill_53178 4096 zbg (0 : Int32)))) ++ ((fb_aw cI zao 4096 zop) ++ (fb_mw cI zq zs zw))))) fu_X6 tyX6 tyX6_ok nmX6 0 rfl rfl (Nat.le_of_ble_eq_true rfl) fw_655 rfl rfl rfl rfl rfl (Nat.le_of_ble_eq_true rfl) rfl dX6_explore_18 (fun H locs I => ?_)
  refine lv_aload_n hx hb dX6_explore_21 rfl (lv_at hl 0 rfl) ?_
  refine lv_iconst (v := (0 : Int32)) hx hb dX6_explore_22 (by decide) ?_
  refine fb_put X I (k := 4) (wn := (fb_o6 zre zac zab zao (upd (upd ze6 3 (0 : Int32)) 4 (0 : Int32))) ++ ((fb_aw cI zac 4096 ((f_J7_fill_53178 4096 zc (0 : Int32)))) ++ ((fb_aw cI zab 4096 ((f_J7_fill_53178 4096 zbg (0 : Int32)))) ++ ((fb_aw cI zao 4096 zop) ++ (fb_mw cI zq zs zw))))) fu_X6 tyX6 tyX6_ok nmX6 0 rfl rfl (Nat.le_of_ble_eq_true rfl) fw_656 rfl rfl rfl rfl rfl (Nat.le_of_ble_eq_true rfl) rfl dX6_explore_23 (fun H locs I => ?_)
  have I : fb_In D A s.heap ((fb_o6 zre zac zab zao (fun _ => (0 : Int32))) ++ ((fb_aw cI zac 4096 ((f_J7_fill_53178 4096 zc (0 : Int32)))) ++ ((fb_aw cI zab 4096 ((f_J7_fill_53178 4096 zbg (0 : Int32)))) ++ ((fb_aw cI zao 4096 zop) ++ (fb_mw cI zq zs zw))))) H locs := I
  refine lv_aload_n hx hb dX6_explore_26 rfl (lv_at hl 0 rfl) ?_
  refine lv_aload_n hx hb dX6_explore_27 rfl (lv_at hl 1 rfl) ?_
  refine fb_get X I (k := 9) fu_X2 4 rfl rfl (Nat.le_of_ble_eq_true rfl) fw_532 rfl rfl dX6_explore_28 ?_
  refine fb_goV (wn := fun (w3 : Unit) => (fb_o6 zre zac zab zao ((f_X6_comeTo (fun _ => (0 : Int32)) ((f_J7_fill_53178 4096 zc (0 : Int32))) zop ((zs).1 9)).1)) ++ ((fb_aw cI zac 4096 ((f_X6_comeTo (fun _ => (0 : Int32)) ((f_J7_fill_53178 4096 zc (0 : Int32))) zop ((zs).1 9)).2.1)) ++ ((fb_aw cI zab 4096 ((f_J7_fill_53178 4096 zbg (0 : Int32)))) ++ ((fb_aw cI zao 4096 ((f_X6_comeTo (fun _ => (0 : Int32)) ((f_J7_fill_53178 4096 zc (0 : Int32))) zop ((zs).1 9)).2.2)) ++ (fb_mw cI zq zs zw))))) X I (fb_runV (As := [.int ((zs).1 9)]) (rest := []) (q0 := 0) X I hl (c_X6_comeTo l D cI cJ zre zac zab zao (fun _ => (0 : Int32)) ((f_J7_fill_53178 4096 zc (0 : Int32))) zop ((zs).1 9) _) (fb_goodV fw_1518 fw_1520 fw_81 fw_202 fw_1521) rfl rfl rfl (by decide +kernel : fb_hd yX6_comeTo 1) ⟨Nat.le_of_ble_eq_true rfl, Nat.le_of_ble_eq_true rfl⟩ [0, 1, 3] (by decide) rfl rfl rfl rfl rfl rfl (Nat.le_of_ble_eq_true rfl) ⟨Nat.zero_le _, Nat.zero_le _⟩ dX6_explore_31) [0, 1, 3] [2, 4, 5, 6, 7, 8, 9, 10, 11] [9, 10, 0, 11, 1, 2, 3, 4, 5, 6, 7, 8] rfl rfl (by decide) (by decide) (by decide) (fun _ => rfl) ?_
  intro w3 H locs _ I
  refine lv_iconst (v := (0 : Int32)) hx hb dX6_explore_34 (by decide) ?_
  refine lv_istore_n (lv' := [(2, .int (0 : Int32)), (0, .ref zre), (1, .ref (zq 0))]) hx hb dX6_explore_35 rfl hl (by decide) rfl (fun ls hl => ?_)
  exact b_X6_explore_36 X  ((fb_mu (0 : Int32) (8 : Int32)) + 1) (l2 := (0 : Int32)) (Nat.lt_succ_self _)  I (lv_sub hl [1, 2, 0] rfl) E
set_option maxHeartbeats 4000000 in
set_option maxRecDepth 100000 in
theorem c_X6_explore (l : Launch) (D : va_G) (cI cJ : ClassId) (zre : Nat) (zac : Nat) (zab : Nat) (zao : Nat) (ze6 : fb_AR) (zc : fb_AR) (zbg : fb_AR) (zop : fb_AR) (zq : Nat → Nat) (zs : fb_MS) (zw : fb_AR)  (sz : Nat)  : Met l yX6_explore (Cond.code yX6_explore cX6_explore 3 none :: fb_all) ({ frames := 5, cells := 0, slots := 0, locals := 113 } : Room) (fb_PP D (fb_ty D cI cJ) [.ref zre, .ref (zq 0)] ((fb_o6 zre zac zab zao ze6) ++ ((fb_aw cI zac 4096 zc) ++ ((fb_aw cI zab 4096 zbg) ++ ((fb_aw cI zao 4096 zop) ++ (fb_mw cI zq zs zw))))) sz) (fb_QV D (va_A ((fb_o6 zre zac zab zao ze6) ++ ((fb_aw cI zac 4096 zc) ++ ((fb_aw cI zab 4096 zbg) ++ ((fb_aw cI zao 4096 zop) ++ (fb_mw cI zq zs zw))))) sz) (fun (_ : Unit) => True) (fun (t : Unit) => (fb_o6 zre zac zab zao (((f_X6_explore ze6 zc zbg zop zs)).1)) ++ ((fb_aw cI zac 4096 (((f_X6_explore ze6 zc zbg zop zs)).2.1)) ++ ((fb_aw cI zab 4096 (((f_X6_explore ze6 zc zbg zop zs)).2.2.1)) ++ ((fb_aw cI zao 4096 (((f_X6_explore ze6 zc zbg zop zs)).2.2.2)) ++ (fb_mw cI zq zs zw)))))) 0 0 (va_A ((fb_o6 zre zac zab zao ze6) ++ ((fb_aw cI zac 4096 zc) ++ ((fb_aw cI zab 4096 zbg) ++ ((fb_aw cI zao 4096 zop) ++ (fb_mw cI zq zs zw))))) sz) := by
  refine fb_ent (Qf := fun A => (fb_QV D A (fun (_ : Unit) => True) (fun (t : Unit) => (fb_o6 zre zac zab zao (((f_X6_explore ze6 zc zbg zop zs)).1)) ++ ((fb_aw cI zac 4096 (((f_X6_explore ze6 zc zbg zop zs)).2.1)) ++ ((fb_aw cI zab 4096 (((f_X6_explore ze6 zc zbg zop zs)).2.2.1)) ++ ((fb_aw cI zao 4096 (((f_X6_explore ze6 zc zbg zop zs)).2.2.2)) ++ (fb_mw cI zq zs zw))))))) (by decide +kernel) (Nat.le_of_ble_eq_true rfl) ?_
  intro p e s m args below meth c A ls X I hl hin
  exact b_X6_explore_0 X  I hl rfl
/-! X11_codes -/
def f_X11_codes (zs : fb_MS) (ze6 : fb_AR) (zc : fb_AR) (zbg : fb_AR) (zop : fb_AR) : Int32 := (((f_X6_explore ze6 zc zbg zop zs).1) 4)
set_option maxHeartbeats 4000000 in
set_option maxRecDepth 100000 in
theorem b_X11_codes_0 {p : Program} {l : Launch} {e : Env} {s : State} {m : MethodId} {args : Array Value} {below : List Frame} {meth : Method} {c : Code} {D : va_G} {cI cJ : ClassId} {A : Nat → Prop} {zb : Nat} {zr0 : Nat} {zr1 : Nat} {zr2 : Nat} {zr3 : Nat} {zr4 : Nat} {zr6 : Nat} {zr7 : Nat} {zr8 : Nat} {zre : Nat} {zq : Nat → Nat} {zac : Nat} {zab : Nat} {zao : Nat} {z : Int32} (X : fb_Bx p s m args meth c cX11_codes RX11 1 (some .int) D (fb_ty D cI cJ) A) {zs : fb_MS} {zw : fb_AR} {ze6 : fb_AR} {zc : fb_AR} {zbg : fb_AR} {zop : fb_AR} {H : Heap} {locs : List Loc} {ls : Array Slot}  (I : fb_In D A s.heap ((fb_o11 zb zr0 zr1 zr2 zr3 zr4 (zq 0) zr6 zr7 zr8 zre) ++ ((fb_mw cI zq zs zw) ++ ((fb_o6 zre zac zab zao ze6) ++ ((fb_aw cI zac 4096 zc) ++ ((fb_aw cI zab 4096 zbg) ++ (fb_aw cI zao 4096 zop)))))) H locs) (hl : lv_has ls 1 [(0, .ref zb)]) (E : z = f_X11_codes zs ze6 zc zbg zop) : W p l e ({ frames := 6, cells := 0, slots := 0, locals := 135 } : Room) s m args below meth c H locs 0 0 (MQ below (fb_QI D A (fun (r : Int32) (_ : fb_AR × fb_AR × fb_AR × fb_AR) => r = z) (fun (t : fb_AR × fb_AR × fb_AR × fb_AR) => (fb_o11 zb zr0 zr1 zr2 zr3 zr4 (zq 0) zr6 zr7 zr8 zre) ++ ((fb_mw cI zq zs zw) ++ ((fb_o6 zre zac zab zao (t.1)) ++ ((fb_aw cI zac 4096 (t.2.1)) ++ ((fb_aw cI zab 4096 (t.2.2.1)) ++ (fb_aw cI zao 4096 (t.2.2.2)))))))) args s 0 0 A) (F0 m 0 ls []) := by
  obtain ⟨hx, hb, hr, hml, hown, hts, hlk, hA, hK, hF⟩ := id X
  refine lv_aload_n hx hb dX11_codes_0 rfl (lv_at hl 0 rfl) ?_
  refine fb_get X I (k := 9) fu_X11 0 rfl rfl (Nat.le_of_ble_eq_true rfl) fw_696 rfl rfl dX11_codes_1 ?_
  refine lv_aload_n hx hb dX11_codes_4 rfl (lv_at hl 0 rfl) ?_
  refine fb_get X I (k := 5) fu_X11 0 rfl rfl (Nat.le_of_ble_eq_true rfl) fw_692 rfl rfl dX11_codes_5 ?_
  refine fb_goV (wn := fun (w1 : Unit) => (fb_o11 zb zr0 zr1 zr2 zr3 zr4 (zq 0) zr6 zr7 zr8 zre) ++ ((fb_mw cI zq zs zw) ++ ((fb_o6 zre zac zab zao ((f_X6_explore ze6 zc zbg zop zs).1)) ++ ((fb_aw cI zac 4096 ((f_X6_explore ze6 zc zbg zop zs).2.1)) ++ ((fb_aw cI zab 4096 ((f_X6_explore ze6 zc zbg zop zs).2.2.1)) ++ (fb_aw cI zao 4096 ((f_X6_explore ze6 zc zbg zop zs).2.2.2))))))) X I (fb_runV (As := [.ref (zq 0)]) (rest := []) (q0 := 9) X I hl (c_X6_explore l D cI cJ zre zac zab zao ze6 zc zbg zop zq zs zw _) (fb_goodV fw_1513 fw_1514 fw_1515 fw_202 fw_1516) rfl rfl rfl (by decide +kernel : fb_hd yX6_explore 1) ⟨Nat.le_of_ble_eq_true rfl, Nat.le_of_ble_eq_true rfl⟩ [9, 10, 11, 12, 1, 2, 3, 4, 5, 6, 7, 8] (by decide) rfl rfl rfl rfl rfl rfl (Nat.le_of_ble_eq_true rfl) ⟨Nat.zero_le _, Nat.zero_le _⟩ dX11_codes_8) [9, 10, 11, 12, 1, 2, 3, 4, 5, 6, 7, 8] [0] [0, 5, 6, 7, 8, 9, 10, 11, 12, 1, 2, 3, 4] rfl rfl (by decide) (by decide) (by decide) (fun _ => rfl) ?_
  intro w1 H locs _ I
  refine lv_aload_n hx hb dX11_codes_11 rfl (lv_at hl 0 rfl) ?_
  refine fb_get X I (k := 9) fu_X11 0 rfl rfl (Nat.le_of_ble_eq_true rfl) fw_696 rfl rfl dX11_codes_12 ?_
  refine fb_get X I (k := 4) fu_X6 9 rfl rfl (Nat.le_of_ble_eq_true rfl) fw_657 rfl rfl dX11_codes_15 ?_
  subst E
  exact fb_retI (u := (((f_X6_explore ze6 zc zbg zop zs).1), ((f_X6_explore ze6 zc zbg zop zs).2.1), ((f_X6_explore ze6 zc zbg zop zs).2.2.1), ((f_X6_explore ze6 zc zbg zop zs).2.2.2))) X I rfl rfl dX11_codes_18
set_option maxHeartbeats 4000000 in
set_option maxRecDepth 100000 in
theorem c_X11_codes (l : Launch) (D : va_G) (cI cJ : ClassId) (zb : Nat) (zr0 : Nat) (zr1 : Nat) (zr2 : Nat) (zr3 : Nat) (zr4 : Nat) (zr6 : Nat) (zr7 : Nat) (zr8 : Nat) (zre : Nat) (zq : Nat → Nat) (zs : fb_MS) (zw : fb_AR) (zac : Nat) (zab : Nat) (zao : Nat) (ze6 : fb_AR) (zc : fb_AR) (zbg : fb_AR) (zop : fb_AR)  (sz : Nat)  : Met l yX11_codes (Cond.code yX11_codes cX11_codes 1 (some .int) :: fb_all) ({ frames := 6, cells := 0, slots := 0, locals := 135 } : Room) (fb_PP D (fb_ty D cI cJ) [.ref zb] ((fb_o11 zb zr0 zr1 zr2 zr3 zr4 (zq 0) zr6 zr7 zr8 zre) ++ ((fb_mw cI zq zs zw) ++ ((fb_o6 zre zac zab zao ze6) ++ ((fb_aw cI zac 4096 zc) ++ ((fb_aw cI zab 4096 zbg) ++ (fb_aw cI zao 4096 zop)))))) sz) (fb_QI D (va_A ((fb_o11 zb zr0 zr1 zr2 zr3 zr4 (zq 0) zr6 zr7 zr8 zre) ++ ((fb_mw cI zq zs zw) ++ ((fb_o6 zre zac zab zao ze6) ++ ((fb_aw cI zac 4096 zc) ++ ((fb_aw cI zab 4096 zbg) ++ (fb_aw cI zao 4096 zop)))))) sz) (fun (r : Int32) (_ : fb_AR × fb_AR × fb_AR × fb_AR) => r = ((f_X11_codes zs ze6 zc zbg zop))) (fun (t : fb_AR × fb_AR × fb_AR × fb_AR) => (fb_o11 zb zr0 zr1 zr2 zr3 zr4 (zq 0) zr6 zr7 zr8 zre) ++ ((fb_mw cI zq zs zw) ++ ((fb_o6 zre zac zab zao (t.1)) ++ ((fb_aw cI zac 4096 (t.2.1)) ++ ((fb_aw cI zab 4096 (t.2.2.1)) ++ (fb_aw cI zao 4096 (t.2.2.2)))))))) 0 0 (va_A ((fb_o11 zb zr0 zr1 zr2 zr3 zr4 (zq 0) zr6 zr7 zr8 zre) ++ ((fb_mw cI zq zs zw) ++ ((fb_o6 zre zac zab zao ze6) ++ ((fb_aw cI zac 4096 zc) ++ ((fb_aw cI zab 4096 zbg) ++ (fb_aw cI zao 4096 zop)))))) sz) := by
  refine fb_ent (Qf := fun A => (fb_QI D A (fun (r : Int32) (_ : fb_AR × fb_AR × fb_AR × fb_AR) => r = ((f_X11_codes zs ze6 zc zbg zop))) (fun (t : fb_AR × fb_AR × fb_AR × fb_AR) => (fb_o11 zb zr0 zr1 zr2 zr3 zr4 (zq 0) zr6 zr7 zr8 zre) ++ ((fb_mw cI zq zs zw) ++ ((fb_o6 zre zac zab zao (t.1)) ++ ((fb_aw cI zac 4096 (t.2.1)) ++ ((fb_aw cI zab 4096 (t.2.2.1)) ++ (fb_aw cI zao 4096 (t.2.2.2))))))))) (by decide +kernel) (Nat.le_of_ble_eq_true rfl) ?_
  intro p e s m args below meth c A ls X I hl hin
  exact b_X11_codes_0 X  I hl rfl

