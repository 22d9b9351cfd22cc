/-! the law's rows of calls, laid by wrap.py -/
set_option maxHeartbeats 4000000 in
set_option maxRecDepth 100000 in
theorem c_w_feed (l : Launch) (D : va_G) (cI cJ : ClassId) (zb : Nat) (zt : Nat) (zn : Nat) (zv : Nat) (zs : Nat) (zp : Nat) (zq : Nat → Nat) (zu : Nat → Nat) (zh : Nat) (zst : Nat) (zre : Nat) (zt0 : Nat) (zt2 : Nat) (zt3 : Nat) (zt4 : Nat) (zo : Nat → Nat) (zi : Nat → Nat) (zx : Nat) (zg : Nat → Int64) (l1 : Int32) (l2 : Int32) (l3 : Int32) (l4 : Int32) (l5 : Int32) (sz : Nat) (hst : l.stackTraces = false)  : Met l yL_feed (Cond.codeWith yL_feed cL_feed 8 (some .int) [((0 : Nat), (16 : Nat), (19 : Nat), (13 : Nat))] :: fb_all) ({ frames := 4, cells := 0, slots := 0, locals := 99 } : Room) (fb_PP D (fb_ty D cI cJ) [.ref zb, .int l1, .int l2, .int l3, .int l4, .int l5, .ref zx] (([fb_o11 zb zt zn zv zs zp (zq 0) (zu 0) zh zst zre, fb_o9 zt zt0 zt2 zt3 zt4 (fun _ => 0), fb_aw cI zt0 2000 (fun _ => 0), fb_o0 zh (zo 0) (zi 0) fb_h0, fb_jw cJ zx 1 zg] : List va_W).flatten) sz) (fb_QI D (va_A (([fb_o11 zb zt zn zv zs zp (zq 0) (zu 0) zh zst zre, fb_o9 zt zt0 zt2 zt3 zt4 (fun _ => 0), fb_aw cI zt0 2000 (fun _ => 0), fb_o0 zh (zo 0) (zi 0) fb_h0, fb_jw cJ zx 1 zg] : List va_W).flatten) sz) (fun (r : Int32) (_ : Unit) => r = (0 : Int32)) (fun (t : Unit) => ([fb_jw cJ zx 1 (vp_updL zg 0 (((20 : Int32)).toInt64))] : List va_W).flatten)) 0 0 (va_A (([fb_o11 zb zt zn zv zs zp (zq 0) (zu 0) zh zst zre, fb_o9 zt zt0 zt2 zt3 zt4 (fun _ => 0), fb_aw cI zt0 2000 (fun _ => 0), fb_o0 zh (zo 0) (zi 0) fb_h0, fb_jw cJ zx 1 zg] : List va_W).flatten) sz) := by
  refine fb_entW (Qf := fun A => (fb_QI D A (fun (r : Int32) (_ : Unit) => r = (0 : Int32)) (fun (t : Unit) => ([fb_jw cJ zx 1 (vp_updL zg 0 (((20 : Int32)).toInt64))] : List va_W).flatten))) (by decide +kernel) (Nat.le_of_ble_eq_true rfl) ?_
  intro p e s m args below meth c A ls X I hl hex
  obtain ⟨hx, hb, hr, hml, hown, hts, hlk, hA, hK, hF⟩ := id X
  have hl : lv_has ls 8 [(0, .ref zb), (1, .int l1), (2, .int l2), (3, .int l3), (4, .int l4), (5, .int l5), (6, .ref zx)] := hl
  refine lv_aload hx hb dL_feed_0 (lv_at hl 6 rfl) ?_
  refine lv_iconst (v := (0 : Int32)) hx hb dL_feed_2 (by decide) ?_
  refine lv_aload_n hx hb dL_feed_3 rfl (lv_at hl 0 rfl) ?_
  refine lv_iload_n hx hb dL_feed_4 rfl (lv_at hl 1 rfl) ?_
  refine lv_iload_n hx hb dL_feed_5 rfl (lv_at hl 2 rfl) ?_
  refine lv_iload_n hx hb dL_feed_6 rfl (lv_at hl 3 rfl) ?_
  refine lv_iload hx hb dL_feed_7 (lv_at hl 4 rfl) ?_
  refine lv_iload hx hb dL_feed_9 (lv_at hl 5 rfl) ?_
  refine fb_gIx (cs := [fb_o11 zb zt zn zv zs zp (zq 0) (zu 0) zh zst zre, fb_o9 zt zt0 zt2 zt3 zt4 (fun _ => 0), fb_aw cI zt0 2000 (fun _ => 0), fb_o0 zh (zo 0) (zi 0) fb_h0]) (rs := [fb_jw cJ zx 1 zg]) X I [0, 1, 2, 3, 4] 5 rfl (by decide +kernel) rfl rfl (fun I => fb_rV (As := [.int l1, .int l2, .int l3, .int l4, .int l5]) (rest := [.int (0 : Int32), .ref zx]) X hl (fb_goodV fw_1587 fw_1588 fw_1589 fw_191 fw_1590) (c_feed0 l D cI cJ zb zn zv zs zp (zq 0) (zu 0) zst zre zt zt0 zt2 zt3 zt4 (fun _ => 0) (fun _ => 0) zh (zo 0) (zi 0) fb_h0 l1 l2 l3 l4 l5 _ rfl) rfl rfl rfl (by decide +kernel : fb_hd yX11_feed 5) ⟨(Nat.le_of_ble_eq_true rfl), (Nat.le_of_ble_eq_true rfl)⟩ (rfl : vwCl[11]? = some _) rfl rfl rfl rfl (Nat.le_of_ble_eq_true rfl) ⟨(Nat.le_of_ble_eq_true rfl), (Nat.le_of_ble_eq_true rfl)⟩ dL_feed_11 I) ?_
  intro r u H locs e0 I
  have e0 : r = (20 : Int32) := e0
  subst e0
  refine lv_i2l (v := (((20 : Int32)).toInt64)) hx hb dL_feed_14 rfl ?_
  refine fb_jsC (n := 0) (wn := ([fb_jw cJ zx 1 (vp_updL zg 0 (((20 : Int32)).toInt64))] : List va_W).flatten) X I 0 1 rfl rfl (by decide) (by decide) (Nat.le_of_ble_eq_true rfl) rfl dL_feed_15 (fun H locs I => ?_)
  refine lv_goto (tgt := 23) hx hb dL_feed_16 (by decide) ?_
  refine lv_iconst (v := (0 : Int32)) hx hb dL_feed_23 (by decide) ?_
  exact fb_retI (u := ()) X I rfl rfl dL_feed_24

set_option maxHeartbeats 4000000 in
set_option maxRecDepth 100000 in
theorem c_w_trim_in (l : Launch) (D : va_G) (cI cJ : ClassId) (zb : Nat) (zt : Nat) (zn : Nat) (zv : Nat) (zs : Nat) (zp : Nat) (zq : Nat → Nat) (zu : Nat → Nat) (zh : Nat) (zst : Nat) (zre : Nat) (zt0 : Nat) (zt2 : Nat) (zt3 : Nat) (zt4 : Nat) (zo : Nat → Nat) (zi : Nat → Nat) (zx : Nat) (zg : Nat → Int64) (sz : Nat) (hst : l.stackTraces = false)  : Met l yL_trim (Cond.codeWith yL_trim cL_trim 4 (some .int) [((0 : Nat), (9 : Nat), (12 : Nat), (19 : Nat))] :: fb_all) ({ frames := 2, cells := 0, slots := 0, locals := 61 } : Room) (fb_PP D (fb_ty D cI cJ) [.ref zb, .int (0 : Int32), .ref zx] (([fb_o11 zb zt zn zv zs zp (zq 0) (zu 0) zh zst zre, fb_o9 zt zt0 zt2 zt3 zt4 (fun _ => 0), fb_o0 zh (zo 0) (zi 0) fb_h0, fb_jw cJ zx 1 zg] : List va_W).flatten) sz) (fb_QI D (va_A (([fb_o11 zb zt zn zv zs zp (zq 0) (zu 0) zh zst zre, fb_o9 zt zt0 zt2 zt3 zt4 (fun _ => 0), fb_o0 zh (zo 0) (zi 0) fb_h0, fb_jw cJ zx 1 zg] : List va_W).flatten) sz) (fun (r : Int32) (_ : Unit) => r = (0 : Int32)) (fun (t : Unit) => ([fb_jw cJ zx 1 (vp_updL zg 0 (((0 : Int32)).toInt64))] : List va_W).flatten)) 0 0 (va_A (([fb_o11 zb zt zn zv zs zp (zq 0) (zu 0) zh zst zre, fb_o9 zt zt0 zt2 zt3 zt4 (fun _ => 0), fb_o0 zh (zo 0) (zi 0) fb_h0, fb_jw cJ zx 1 zg] : List va_W).flatten) sz) := by
  refine fb_entW (Qf := fun A => (fb_QI D A (fun (r : Int32) (_ : Unit) => r = (0 : Int32)) (fun (t : Unit) => ([fb_jw cJ zx 1 (vp_updL zg 0 (((0 : Int32)).toInt64))] : List va_W).flatten))) (by decide +kernel) (Nat.le_of_ble_eq_true rfl) ?_
  intro p e s m args below meth c A ls X I hl hex
  obtain ⟨hx, hb, hr, hml, hown, hts, hlk, hA, hK, hF⟩ := id X
  have hl : lv_has ls 4 [(0, .ref zb), (1, .int (0 : Int32)), (2, .ref zx)] := hl
  refine lv_aload_n hx hb dL_trim_0 rfl (lv_at hl 2 rfl) ?_
  refine lv_iconst (v := (0 : Int32)) hx hb dL_trim_1 (by decide) ?_
  refine lv_aload_n hx hb dL_trim_2 rfl (lv_at hl 0 rfl) ?_
  refine lv_iload_n hx hb dL_trim_3 rfl (lv_at hl 1 rfl) ?_
  refine fb_gIx (cs := [fb_o11 zb zt zn zv zs zp (zq 0) (zu 0) zh zst zre, fb_o9 zt zt0 zt2 zt3 zt4 (fun _ => 0), fb_o0 zh (zo 0) (zi 0) fb_h0]) (rs := [fb_jw cJ zx 1 zg]) X I [0, 1, 2, 3] 4 rfl (by decide +kernel) rfl rfl (fun I => fb_rV (As := [.int (0 : Int32)]) (rest := [.int (0 : Int32), .ref zx]) X hl (fb_goodV fw_1666 fw_1667 fw_1668 fw_191 fw_1669) (c_X11_trim l D cI cJ zb zt zn zv zs zp (zq 0) (zu 0) zh zst zre zt0 zt2 zt3 zt4 (fun _ => 0) (zo 0) (zi 0) fb_h0 (0 : Int32) _ (by decide) (by decide)) rfl rfl rfl (by decide +kernel : fb_hd yX11_trim 1) ⟨(Nat.le_of_ble_eq_true rfl), (Nat.le_of_ble_eq_true rfl)⟩ (rfl : vwCl[11]? = some _) rfl rfl rfl rfl (Nat.le_of_ble_eq_true rfl) ⟨(Nat.le_of_ble_eq_true rfl), (Nat.le_of_ble_eq_true rfl)⟩ dL_trim_4 I) ?_
  intro r u H locs e0 I
  have e0 : r = (0 : Int32) := e0
  subst e0
  refine lv_i2l (v := (((0 : Int32)).toInt64)) hx hb dL_trim_7 rfl ?_
  refine fb_jsC (n := 0) (wn := ([fb_jw cJ zx 1 (vp_updL zg 0 (((0 : Int32)).toInt64))] : List va_W).flatten) X I 0 1 rfl rfl (by decide) (by decide) (Nat.le_of_ble_eq_true rfl) rfl dL_trim_8 (fun H locs I => ?_)
  refine lv_goto (tgt := 15) hx hb dL_trim_9 (by decide) ?_
  refine lv_iconst (v := (0 : Int32)) hx hb dL_trim_15 (by decide) ?_
  exact fb_retI (u := ()) X I rfl rfl dL_trim_16

set_option maxHeartbeats 4000000 in
set_option maxRecDepth 100000 in
theorem c_w_nameNear_in (l : Launch) (D : va_G) (cI cJ : ClassId) (zb : Nat) (zt : Nat) (zn : Nat) (zv : Nat) (zs : Nat) (zp : Nat) (zq : Nat → Nat) (zu : Nat → Nat) (zh : Nat) (zst : Nat) (zre : Nat) (zn0 : Nat) (zn1 : Nat) (zn3 : Nat) (zx : Nat) (zg : Nat → Int64) (zj : Nat) (sz : Nat) (hst : l.stackTraces = false) (hj : 0 ≤ zj ∧ zj ≤ 4095) : Met l yL_nameNear (Cond.codeWith yL_nameNear cL_nameNear 4 (some .int) [((0 : Nat), (9 : Nat), (12 : Nat), (19 : Nat))] :: fb_all) ({ frames := 3, cells := 0, slots := 0, locals := 67 } : Room) (fb_PP D (fb_ty D cI cJ) [.ref zb, .int (nI zj), .ref zx] (([fb_o11 zb zt zn zv zs zp (zq 0) (zu 0) zh zst zre, fb_o3 zn zn0 zn1 zn3 (fun _ => 0), fb_aw cI zn3 120 (fun _ => 0), fb_jw cJ zx 1 zg] : List va_W).flatten) sz) (fb_QI D (va_A (([fb_o11 zb zt zn zv zs zp (zq 0) (zu 0) zh zst zre, fb_o3 zn zn0 zn1 zn3 (fun _ => 0), fb_aw cI zn3 120 (fun _ => 0), fb_jw cJ zx 1 zg] : List va_W).flatten) sz) (fun (r : Int32) (_ : Unit) => r = (0 : Int32)) (fun (t : Unit) => ([fb_jw cJ zx 1 (vp_updL zg 0 (((-1 : Int32)).toInt64))] : List va_W).flatten)) 0 0 (va_A (([fb_o11 zb zt zn zv zs zp (zq 0) (zu 0) zh zst zre, fb_o3 zn zn0 zn1 zn3 (fun _ => 0), fb_aw cI zn3 120 (fun _ => 0), fb_jw cJ zx 1 zg] : List va_W).flatten) sz) := by
  refine fb_entW (Qf := fun A => (fb_QI D A (fun (r : Int32) (_ : Unit) => r = (0 : Int32)) (fun (t : Unit) => ([fb_jw cJ zx 1 (vp_updL zg 0 (((-1 : Int32)).toInt64))] : List va_W).flatten))) (by decide +kernel) (Nat.le_of_ble_eq_true rfl) ?_
  intro p e s m args below meth c A ls X I hl hex
  obtain ⟨hx, hb, hr, hml, hown, hts, hlk, hA, hK, hF⟩ := id X
  have hl : lv_has ls 4 [(0, .ref zb), (1, .int (nI zj)), (2, .ref zx)] := hl
  refine lv_aload_n hx hb dL_nameNear_0 rfl (lv_at hl 2 rfl) ?_
  refine lv_iconst (v := (0 : Int32)) hx hb dL_nameNear_1 (by decide) ?_
  refine lv_aload_n hx hb dL_nameNear_2 rfl (lv_at hl 0 rfl) ?_
  refine lv_iload_n hx hb dL_nameNear_3 rfl (lv_at hl 1 rfl) ?_
  refine fb_gO (cs := [fb_o11 zb zt zn zv zs zp (zq 0) (zu 0) zh zst zre, fb_o3 zn zn0 zn1 zn3 (fun _ => 0), fb_aw cI zn3 120 (fun _ => 0)]) (rs := [fb_jw cJ zx 1 zg]) X I [0, 1, 2, 3] 4 rfl (by decide +kernel) rfl rfl (fun I => fb_rV (As := [.int (nI zj)]) (rest := [.int (0 : Int32), .ref zx]) X hl (fb_goodV fw_1713 fw_1714 fw_1715 fw_191 fw_1716) (c_X11_nameNear l D cI cJ zb zt zn zv zs zp (zq 0) (zu 0) zh zst zre zn0 zn1 zn3 (fun _ => 0) (fun _ => 0) (nI zj) _ (na_in (by omega))) rfl rfl rfl (by decide +kernel : fb_hd yX11_nameNear 1) ⟨(Nat.le_of_ble_eq_true rfl), (Nat.le_of_ble_eq_true rfl)⟩ (rfl : vwCl[11]? = some _) rfl rfl rfl rfl (Nat.le_of_ble_eq_true rfl) ⟨(Nat.le_of_ble_eq_true rfl), (Nat.le_of_ble_eq_true rfl)⟩ dL_nameNear_4 I) ?_
  refine fb_tI (v := (-1 : Int32)) (a_near _) ?_
  refine lv_i2l (v := (((-1 : Int32)).toInt64)) hx hb dL_nameNear_7 rfl ?_
  refine fb_jsC (n := 0) (wn := ([fb_o11 zb zt zn zv zs zp (zq 0) (zu 0) zh zst zre, fb_o3 zn zn0 zn1 zn3 (fun _ => 0), fb_aw cI zn3 120 (fun _ => 0), fb_jw cJ zx 1 (vp_updL zg 0 (((-1 : Int32)).toInt64))] : List va_W).flatten) X I 3 1 rfl rfl (by decide) (by decide) (Nat.le_of_ble_eq_true rfl) rfl dL_nameNear_8 (fun H locs I => ?_)
  refine lv_goto (tgt := 15) hx hb dL_nameNear_9 (by decide) ?_
  refine lv_iconst (v := (0 : Int32)) hx hb dL_nameNear_15 (by decide) ?_
  have I : fb_In D A s.heap (([fb_jw cJ zx 1 (vp_updL zg 0 (((-1 : Int32)).toInt64))] : List va_W).flatten) H _ := fb_dropB (bs := [fb_o11 zb zt zn zv zs zp (zq 0) (zu 0) zh zst zre, fb_o3 zn zn0 zn1 zn3 (fun _ => 0), fb_aw cI zn3 120 (fun _ => 0), fb_jw cJ zx 1 (vp_updL zg 0 (((-1 : Int32)).toInt64))]) (bs' := [fb_jw cJ zx 1 (vp_updL zg 0 (((-1 : Int32)).toInt64))]) (gs := [fb_o11 zb zt zn zv zs zp (zq 0) (zu 0) zh zst zre, fb_o3 zn zn0 zn1 zn3 (fun _ => 0), fb_aw cI zn3 120 (fun _ => 0)]) I 4 rfl [3, 0, 1, 2] (by decide +kernel) rfl
  exact fb_retI (u := ()) X I rfl rfl dL_nameNear_16

set_option maxHeartbeats 4000000 in
set_option maxRecDepth 100000 in
theorem c_w_lineOf_in (l : Launch) (D : va_G) (cI cJ : ClassId) (zb : Nat) (zt : Nat) (zn : Nat) (zv : Nat) (zs : Nat) (zp : Nat) (zq : Nat → Nat) (zu : Nat → Nat) (zh : Nat) (zst : Nat) (zre : Nat) (zw : fb_AR) (zp4 : Nat) (zp5 : Nat) (zp6 : Nat) (zp7 : Nat) (zp9 : Nat) (zx : Nat) (zg : Nat → Int64) (zj : Nat) (sz : Nat) (hst : l.stackTraces = false) (hj : zj < 4096) : Met l yL_lineOf (Cond.codeWith yL_lineOf cL_lineOf 4 (some .int) [((0 : Nat), (9 : Nat), (12 : Nat), (19 : Nat))] :: fb_all) ({ frames := 2, cells := 0, slots := 0, locals := 62 } : Room) (fb_PP D (fb_ty D cI cJ) [.ref zb, .int (nI zj), .ref zx] (([fb_o11 zb zt zn zv zs zp (zq 0) (zu 0) zh zst zre, fb_mw cI zq fb_s0 zw, fb_o4 zp zt zv zn zs zp4 zp5 zp6 zp7 zp9 fb_p0, fb_aw cI zp6 11008 (fun _ => 0), fb_jw cJ zx 1 zg] : List va_W).flatten) sz) (fb_QI D (va_A (([fb_o11 zb zt zn zv zs zp (zq 0) (zu 0) zh zst zre, fb_mw cI zq fb_s0 zw, fb_o4 zp zt zv zn zs zp4 zp5 zp6 zp7 zp9 fb_p0, fb_aw cI zp6 11008 (fun _ => 0), fb_jw cJ zx 1 zg] : List va_W).flatten) sz) (fun (r : Int32) (_ : Unit) => r = (0 : Int32)) (fun (t : Unit) => ([fb_jw cJ zx 1 (vp_updL zg 0 (((-1 : Int32)).toInt64))] : List va_W).flatten)) 0 0 (va_A (([fb_o11 zb zt zn zv zs zp (zq 0) (zu 0) zh zst zre, fb_mw cI zq fb_s0 zw, fb_o4 zp zt zv zn zs zp4 zp5 zp6 zp7 zp9 fb_p0, fb_aw cI zp6 11008 (fun _ => 0), fb_jw cJ zx 1 zg] : List va_W).flatten) sz) := by
  refine fb_entW (Qf := fun A => (fb_QI D A (fun (r : Int32) (_ : Unit) => r = (0 : Int32)) (fun (t : Unit) => ([fb_jw cJ zx 1 (vp_updL zg 0 (((-1 : Int32)).toInt64))] : List va_W).flatten))) (by decide +kernel) (Nat.le_of_ble_eq_true rfl) ?_
  intro p e s m args below meth c A ls X I hl hex
  obtain ⟨hx, hb, hr, hml, hown, hts, hlk, hA, hK, hF⟩ := id X
  have hl : lv_has ls 4 [(0, .ref zb), (1, .int (nI zj)), (2, .ref zx)] := hl
  refine lv_aload_n hx hb dL_lineOf_0 rfl (lv_at hl 2 rfl) ?_
  refine lv_iconst (v := (0 : Int32)) hx hb dL_lineOf_1 (by decide) ?_
  refine lv_aload_n hx hb dL_lineOf_2 rfl (lv_at hl 0 rfl) ?_
  refine lv_iload_n hx hb dL_lineOf_3 rfl (lv_at hl 1 rfl) ?_
  refine fb_gO (cs := [fb_o11 zb zt zn zv zs zp (zq 0) (zu 0) zh zst zre, fb_mw cI zq fb_s0 zw, fb_o4 zp zt zv zn zs zp4 zp5 zp6 zp7 zp9 fb_p0, fb_aw cI zp6 11008 (fun _ => 0)]) (rs := [fb_jw cJ zx 1 zg]) X I [0, 1, 2, 3, 4] 5 rfl (by decide +kernel) rfl rfl (fun I => fb_rV (As := [.int (nI zj)]) (rest := [.int (0 : Int32), .ref zx]) X hl (fb_goodV fw_1728 fw_1729 fw_1730 fw_191 fw_1731) (c_X11_lineOf l D cI cJ zb zt zn zv zs zp (zu 0) zh zst zre zq fb_s0 zw zt zv zn zs zp4 zp5 zp6 zp7 zp9 fb_p0 (fun _ => 0) (nI zj) _ (na_in (by omega))) rfl rfl rfl (by decide +kernel : fb_hd yX11_lineOf 1) ⟨(Nat.le_of_ble_eq_true rfl), (Nat.le_of_ble_eq_true rfl)⟩ (rfl : vwCl[11]? = some _) rfl rfl rfl rfl (Nat.le_of_ble_eq_true rfl) ⟨(Nat.le_of_ble_eq_true rfl), (Nat.le_of_ble_eq_true rfl)⟩ dL_lineOf_4 I) ?_
  refine fb_tI (v := (-1 : Int32)) (a_line _) ?_
  refine lv_i2l (v := (((-1 : Int32)).toInt64)) hx hb dL_lineOf_7 rfl ?_
  refine fb_jsC (n := 0) (wn := ([fb_o11 zb zt zn zv zs zp (zq 0) (zu 0) zh zst zre, fb_mw cI zq fb_s0 zw, fb_o4 zp zt zv zn zs zp4 zp5 zp6 zp7 zp9 fb_p0, fb_aw cI zp6 11008 (fun _ => 0), fb_jw cJ zx 1 (vp_updL zg 0 (((-1 : Int32)).toInt64))] : List va_W).flatten) X I 11 1 rfl rfl (by decide) (by decide) (Nat.le_of_ble_eq_true rfl) rfl dL_lineOf_8 (fun H locs I => ?_)
  refine lv_goto (tgt := 15) hx hb dL_lineOf_9 (by decide) ?_
  refine lv_iconst (v := (0 : Int32)) hx hb dL_lineOf_15 (by decide) ?_
  have I : fb_In D A s.heap (([fb_jw cJ zx 1 (vp_updL zg 0 (((-1 : Int32)).toInt64))] : List va_W).flatten) H _ := fb_dropB (bs := [fb_o11 zb zt zn zv zs zp (zq 0) (zu 0) zh zst zre, fb_mw cI zq fb_s0 zw, fb_o4 zp zt zv zn zs zp4 zp5 zp6 zp7 zp9 fb_p0, fb_aw cI zp6 11008 (fun _ => 0), fb_jw cJ zx 1 (vp_updL zg 0 (((-1 : Int32)).toInt64))]) (bs' := [fb_jw cJ zx 1 (vp_updL zg 0 (((-1 : Int32)).toInt64))]) (gs := [fb_o11 zb zt zn zv zs zp (zq 0) (zu 0) zh zst zre, fb_mw cI zq fb_s0 zw, fb_o4 zp zt zv zn zs zp4 zp5 zp6 zp7 zp9 fb_p0, fb_aw cI zp6 11008 (fun _ => 0)]) I 5 rfl [4, 0, 1, 2, 3] (by decide +kernel) rfl
  exact fb_retI (u := ()) X I rfl rfl dL_lineOf_16

set_option maxHeartbeats 4000000 in
set_option maxRecDepth 100000 in
theorem c_w_key_in (l : Launch) (D : va_G) (cI cJ : ClassId) (zb : Nat) (zt : Nat) (zn : Nat) (zv : Nat) (zs : Nat) (zp : Nat) (zq : Nat → Nat) (zu : Nat → Nat) (zh : Nat) (zst : Nat) (zre : Nat) (zw : fb_AR) (zo : Nat → Nat) (zi : Nat → Nat) (zx : Nat) (zg : Nat → Int64) (zj : Nat) (sz : Nat) (hst : l.stackTraces = false) (hj : zj ≤ 255) : Met l yL_key (Cond.codeWith yL_key cL_key 4 (some .int) [((0 : Nat), (9 : Nat), (12 : Nat), (19 : Nat)), ((0 : Nat), (9 : Nat), (15 : Nat), (13 : Nat))] :: fb_all) ({ frames := 3, cells := 0, slots := 0, locals := 64 } : Room) (fb_PP D (fb_ty D cI cJ) [.ref zb, .int (nI zj), .ref zx] (([fb_o11 zb zt zn zv zs zp (zq 0) (zu 0) zh zst zre, fb_mw cI zq fb_s0 zw, fb_o0 zh (zo 0) (zi 0) fb_h0, fb_jw cJ zx 1 zg] : List va_W).flatten) sz) (fb_QI D (va_A (([fb_o11 zb zt zn zv zs zp (zq 0) (zu 0) zh zst zre, fb_mw cI zq fb_s0 zw, fb_o0 zh (zo 0) (zi 0) fb_h0, fb_jw cJ zx 1 zg] : List va_W).flatten) sz) (fun (r : Int32) (_ : Unit) => r = (0 : Int32)) (fun (t : Unit) => ([fb_jw cJ zx 1 (vp_updL zg 0 (((1 : Int32)).toInt64))] : List va_W).flatten)) 0 0 (va_A (([fb_o11 zb zt zn zv zs zp (zq 0) (zu 0) zh zst zre, fb_mw cI zq fb_s0 zw, fb_o0 zh (zo 0) (zi 0) fb_h0, fb_jw cJ zx 1 zg] : List va_W).flatten) sz) := by
  refine fb_entW (Qf := fun A => (fb_QI D A (fun (r : Int32) (_ : Unit) => r = (0 : Int32)) (fun (t : Unit) => ([fb_jw cJ zx 1 (vp_updL zg 0 (((1 : Int32)).toInt64))] : List va_W).flatten))) (by decide +kernel) (Nat.le_of_ble_eq_true rfl) ?_
  intro p e s m args below meth c A ls X I hl hex
  obtain ⟨hx, hb, hr, hml, hown, hts, hlk, hA, hK, hF⟩ := id X
  have hl : lv_has ls 4 [(0, .ref zb), (1, .int (nI zj)), (2, .ref zx)] := hl
  refine lv_aload_n hx hb dL_key_0 rfl (lv_at hl 2 rfl) ?_
  refine lv_iconst (v := (0 : Int32)) hx hb dL_key_1 (by decide) ?_
  refine lv_aload_n hx hb dL_key_2 rfl (lv_at hl 0 rfl) ?_
  refine lv_iload_n hx hb dL_key_3 rfl (lv_at hl 1 rfl) ?_
  refine fb_gIx (cs := [fb_o11 zb zt zn zv zs zp (zq 0) (zu 0) zh zst zre, fb_mw cI zq fb_s0 zw, fb_o0 zh (zo 0) (zi 0) fb_h0]) (rs := [fb_jw cJ zx 1 zg]) X I [0, 1, 2, 3] 4 rfl (by decide +kernel) rfl rfl (fun I => fb_rV (As := [.int (nI zj)]) (rest := [.int (0 : Int32), .ref zx]) X hl (fb_goodV fw_1736 fw_1737 fw_1738 fw_191 fw_1739) (c_X11_key l D cI cJ zb zt zn zv zs zp (zu 0) zh zst zre zq fb_s0 zw (zo 0) (zi 0) fb_h0 (nI zj) _ (nb_in (by omega)) (by decide)) rfl rfl rfl (by decide +kernel : fb_hd yX11_key 1) ⟨(Nat.le_of_ble_eq_true rfl), (Nat.le_of_ble_eq_true rfl)⟩ (rfl : vwCl[11]? = some _) rfl rfl rfl rfl (Nat.le_of_ble_eq_true rfl) ⟨(Nat.le_of_ble_eq_true rfl), (Nat.le_of_ble_eq_true rfl)⟩ dL_key_4 I) ?_
  intro r u H locs e0 I
  have e0 : r = (1 : Int32) := e0.trans (a_key _)
  subst e0
  refine lv_i2l (v := (((1 : Int32)).toInt64)) hx hb dL_key_7 rfl ?_
  refine fb_jsC (n := 0) (wn := ([fb_jw cJ zx 1 (vp_updL zg 0 (((1 : Int32)).toInt64))] : List va_W).flatten) X I 0 1 rfl rfl (by decide) (by decide) (Nat.le_of_ble_eq_true rfl) rfl dL_key_8 (fun H locs I => ?_)
  refine lv_goto (tgt := 18) hx hb dL_key_9 (by decide) ?_
  refine lv_iconst (v := (0 : Int32)) hx hb dL_key_18 (by decide) ?_
  exact fb_retI (u := ()) X I rfl rfl dL_key_19

set_option maxHeartbeats 4000000 in
set_option maxRecDepth 100000 in
theorem c_w_poke_in (l : Launch) (D : va_G) (cI cJ : ClassId) (zb : Nat) (zt : Nat) (zn : Nat) (zv : Nat) (zs : Nat) (zp : Nat) (zq : Nat → Nat) (zu : Nat → Nat) (zh : Nat) (zst : Nat) (zre : Nat) (zw : fb_AR) (zo : Nat → Nat) (zi : Nat → Nat) (zx : Nat) (zg : Nat → Int64) (zj : Nat) (zv9 : Nat) (sz : Nat) (hst : l.stackTraces = false) (hj : zj < 1792 ∨ (2048 ≤ zj ∧ zj < 4096)) (hv : zv9 ≤ 255) : Met l yL_poke (Cond.codeWith yL_poke cL_poke 5 (some .int) [((0 : Nat), (10 : Nat), (13 : Nat), (19 : Nat))] :: fb_all) ({ frames := 2, cells := 0, slots := 0, locals := 64 } : Room) (fb_PP D (fb_ty D cI cJ) [.ref zb, .int (nI zj), .int (nI zv9), .ref zx] (([fb_o11 zb zt zn zv zs zp (zq 0) (zu 0) zh zst zre, fb_mw cI zq fb_s0 zw, fb_o0 zh (zo 0) (zi 0) fb_h0, fb_jw cJ zx 1 zg] : List va_W).flatten) sz) (fb_QI D (va_A (([fb_o11 zb zt zn zv zs zp (zq 0) (zu 0) zh zst zre, fb_mw cI zq fb_s0 zw, fb_o0 zh (zo 0) (zi 0) fb_h0, fb_jw cJ zx 1 zg] : List va_W).flatten) sz) (fun (r : Int32) (_ : Unit) => r = (0 : Int32)) (fun (t : Unit) => ([fb_jw cJ zx 1 (vp_updL zg 0 (((0 : Int32)).toInt64))] : List va_W).flatten)) 0 0 (va_A (([fb_o11 zb zt zn zv zs zp (zq 0) (zu 0) zh zst zre, fb_mw cI zq fb_s0 zw, fb_o0 zh (zo 0) (zi 0) fb_h0, fb_jw cJ zx 1 zg] : List va_W).flatten) sz) := by
  refine fb_entW (Qf := fun A => (fb_QI D A (fun (r : Int32) (_ : Unit) => r = (0 : Int32)) (fun (t : Unit) => ([fb_jw cJ zx 1 (vp_updL zg 0 (((0 : Int32)).toInt64))] : List va_W).flatten))) (by decide +kernel) (Nat.le_of_ble_eq_true rfl) ?_
  intro p e s m args below meth c A ls X I hl hex
  obtain ⟨hx, hb, hr, hml, hown, hts, hlk, hA, hK, hF⟩ := id X
  have hl : lv_has ls 5 [(0, .ref zb), (1, .int (nI zj)), (2, .int (nI zv9)), (3, .ref zx)] := hl
  refine lv_aload_n hx hb dL_poke_0 rfl (lv_at hl 3 rfl) ?_
  refine lv_iconst (v := (0 : Int32)) hx hb dL_poke_1 (by decide) ?_
  refine lv_aload_n hx hb dL_poke_2 rfl (lv_at hl 0 rfl) ?_
  refine lv_iload_n hx hb dL_poke_3 rfl (lv_at hl 1 rfl) ?_
  refine lv_iload_n hx hb dL_poke_4 rfl (lv_at hl 2 rfl) ?_
  refine fb_gIx (cs := [fb_o11 zb zt zn zv zs zp (zq 0) (zu 0) zh zst zre, fb_mw cI zq fb_s0 zw, fb_o0 zh (zo 0) (zi 0) fb_h0]) (rs := [fb_jw cJ zx 1 zg]) X I [0, 1, 2, 3] 4 rfl (by decide +kernel) rfl rfl (fun I => fb_rV (As := [.int (nI zj), .int (nI zv9)]) (rest := [.int (0 : Int32), .ref zx]) X hl (fb_goodV fw_1752 fw_1753 fw_1754 fw_191 fw_1755) (c_X11_poke l D cI cJ zb zt zn zv zs zp (zu 0) zh zst zre zq fb_s0 zw (zo 0) (zi 0) fb_h0 (nI zj) (nI zv9) _ (na_in (by omega)) (np_in hj) (nb_in hv)) rfl rfl rfl (by decide +kernel : fb_hd yX11_poke 2) ⟨(Nat.le_of_ble_eq_true rfl), (Nat.le_of_ble_eq_true rfl)⟩ (rfl : vwCl[11]? = some _) rfl rfl rfl rfl (Nat.le_of_ble_eq_true rfl) ⟨(Nat.le_of_ble_eq_true rfl), (Nat.le_of_ble_eq_true rfl)⟩ dL_poke_5 I) ?_
  intro r u H locs e0 I
  have e0 : r = (0 : Int32) := e0.trans (a_poke _ _)
  subst e0
  refine lv_i2l (v := (((0 : Int32)).toInt64)) hx hb dL_poke_8 rfl ?_
  refine fb_jsC (n := 0) (wn := ([fb_jw cJ zx 1 (vp_updL zg 0 (((0 : Int32)).toInt64))] : List va_W).flatten) X I 0 1 rfl rfl (by decide) (by decide) (Nat.le_of_ble_eq_true rfl) rfl dL_poke_9 (fun H locs I => ?_)
  refine lv_goto (tgt := 17) hx hb dL_poke_10 (by decide) ?_
  refine lv_iconst (v := (0 : Int32)) hx hb dL_poke_17 (by decide) ?_
  exact fb_retI (u := ()) X I rfl rfl dL_poke_18

set_option maxHeartbeats 4000000 in
set_option maxRecDepth 100000 in
theorem c_w_setRegister_0 (l : Launch) (D : va_G) (cI cJ : ClassId) (zb : Nat) (zt : Nat) (zn : Nat) (zv : Nat) (zs : Nat) (zp : Nat) (zq : Nat → Nat) (zu : Nat → Nat) (zh : Nat) (zst : Nat) (zre : Nat) (zw : fb_AR) (zo : Nat → Nat) (zi : Nat → Nat) (zx : Nat) (zg : Nat → Int64) (zv9 : Nat) (sz : Nat) (hst : l.stackTraces = false) (hv : zv9 ≤ 255) : Met l yL_setRegister (Cond.codeWith yL_setRegister cL_setRegister 5 (some .int) [((0 : Nat), (10 : Nat), (13 : Nat), (24 : Nat)), ((0 : Nat), (10 : Nat), (17 : Nat), (19 : Nat))] :: fb_all) ({ frames := 2, cells := 0, slots := 0, locals := 63 } : Room) (fb_PP D (fb_ty D cI cJ) [.ref zb, .int (0 : Int32), .int (nI zv9), .ref zx] (([fb_o11 zb zt zn zv zs zp (zq 0) (zu 0) zh zst zre, fb_mw cI zq fb_s0 zw, fb_o0 zh (zo 0) (zi 0) fb_h0, fb_jw cJ zx 1 zg] : List va_W).flatten) sz) (fb_QI D (va_A (([fb_o11 zb zt zn zv zs zp (zq 0) (zu 0) zh zst zre, fb_mw cI zq fb_s0 zw, fb_o0 zh (zo 0) (zi 0) fb_h0, fb_jw cJ zx 1 zg] : List va_W).flatten) sz) (fun (r : Int32) (_ : Unit) => r = (0 : Int32)) (fun (t : Unit) => ([fb_jw cJ zx 1 (vp_updL zg 0 (((0 : Int32)).toInt64))] : List va_W).flatten)) 0 0 (va_A (([fb_o11 zb zt zn zv zs zp (zq 0) (zu 0) zh zst zre, fb_mw cI zq fb_s0 zw, fb_o0 zh (zo 0) (zi 0) fb_h0, fb_jw cJ zx 1 zg] : List va_W).flatten) sz) := by
  refine fb_entW (Qf := fun A => (fb_QI D A (fun (r : Int32) (_ : Unit) => r = (0 : Int32)) (fun (t : Unit) => ([fb_jw cJ zx 1 (vp_updL zg 0 (((0 : Int32)).toInt64))] : List va_W).flatten))) (by decide +kernel) (Nat.le_of_ble_eq_true rfl) ?_
  intro p e s m args below meth c A ls X I hl hex
  obtain ⟨hx, hb, hr, hml, hown, hts, hlk, hA, hK, hF⟩ := id X
  have hl : lv_has ls 5 [(0, .ref zb), (1, .int (0 : Int32)), (2, .int (nI zv9)), (3, .ref zx)] := hl
  refine lv_aload_n hx hb dL_setRegister_0 rfl (lv_at hl 3 rfl) ?_
  refine lv_iconst (v := (0 : Int32)) hx hb dL_setRegister_1 (by decide) ?_
  refine lv_aload_n hx hb dL_setRegister_2 rfl (lv_at hl 0 rfl) ?_
  refine lv_iload_n hx hb dL_setRegister_3 rfl (lv_at hl 1 rfl) ?_
  refine lv_iload_n hx hb dL_setRegister_4 rfl (lv_at hl 2 rfl) ?_
  refine fb_gIx (cs := [fb_o11 zb zt zn zv zs zp (zq 0) (zu 0) zh zst zre, fb_mw cI zq fb_s0 zw, fb_o0 zh (zo 0) (zi 0) fb_h0]) (rs := [fb_jw cJ zx 1 zg]) X I [0, 1, 2, 3] 4 rfl (by decide +kernel) rfl rfl (fun I => fb_rV (As := [.int (0 : Int32), .int (nI zv9)]) (rest := [.int (0 : Int32), .ref zx]) X hl (fb_goodV fw_1762 fw_1763 fw_1764 fw_191 fw_1765) (c_X11_setRegister l D cI cJ zb zt zn zv zs zp (zu 0) zh zst zre zq fb_s0 zw (zo 0) (zi 0) fb_h0 (0 : Int32) (nI zv9) _ (by decide) (by decide) (nI_pos (by omega)) (fun q => absurd q (by decide)) (fun q => absurd q (by decide)) (fun _ _ => nI_le (a := zv9) (b := 255) (by omega) (by omega))) rfl rfl rfl (by decide +kernel : fb_hd yX11_setRegister 2) ⟨(Nat.le_of_ble_eq_true rfl), (Nat.le_of_ble_eq_true rfl)⟩ (rfl : vwCl[11]? = some _) rfl rfl rfl rfl (Nat.le_of_ble_eq_true rfl) ⟨(Nat.le_of_ble_eq_true rfl), (Nat.le_of_ble_eq_true rfl)⟩ dL_setRegister_5 I) ?_
  intro r u H locs e0 I
  have e0 : r = (0 : Int32) := e0.trans (a_reg0 _)
  subst e0
  refine lv_i2l (v := (((0 : Int32)).toInt64)) hx hb dL_setRegister_8 rfl ?_
  refine fb_jsC (n := 0) (wn := ([fb_jw cJ zx 1 (vp_updL zg 0 (((0 : Int32)).toInt64))] : List va_W).flatten) X I 0 1 rfl rfl (by decide) (by decide) (Nat.le_of_ble_eq_true rfl) rfl dL_setRegister_9 (fun H locs I => ?_)
  refine lv_goto (tgt := 21) hx hb dL_setRegister_10 (by decide) ?_
  refine lv_iconst (v := (0 : Int32)) hx hb dL_setRegister_21 (by decide) ?_
  exact fb_retI (u := ()) X I rfl rfl dL_setRegister_22

set_option maxHeartbeats 4000000 in
set_option maxRecDepth 100000 in
theorem c_w_setRegister_1 (l : Launch) (D : va_G) (cI cJ : ClassId) (zb : Nat) (zt : Nat) (zn : Nat) (zv : Nat) (zs : Nat) (zp : Nat) (zq : Nat → Nat) (zu : Nat → Nat) (zh : Nat) (zst : Nat) (zre : Nat) (zw : fb_AR) (zo : Nat → Nat) (zi : Nat → Nat) (zx : Nat) (zg : Nat → Int64) (zv9 : Nat) (sz : Nat) (hst : l.stackTraces = false) (hv : zv9 ≤ 255) : Met l yL_setRegister (Cond.codeWith yL_setRegister cL_setRegister 5 (some .int) [((0 : Nat), (10 : Nat), (13 : Nat), (24 : Nat)), ((0 : Nat), (10 : Nat), (17 : Nat), (19 : Nat))] :: fb_all) ({ frames := 2, cells := 0, slots := 0, locals := 63 } : Room) (fb_PP D (fb_ty D cI cJ) [.ref zb, .int (1 : Int32), .int (nI zv9), .ref zx] (([fb_o11 zb zt zn zv zs zp (zq 0) (zu 0) zh zst zre, fb_mw cI zq fb_s0 zw, fb_o0 zh (zo 0) (zi 0) fb_h0, fb_jw cJ zx 1 zg] : List va_W).flatten) sz) (fb_QI D (va_A (([fb_o11 zb zt zn zv zs zp (zq 0) (zu 0) zh zst zre, fb_mw cI zq fb_s0 zw, fb_o0 zh (zo 0) (zi 0) fb_h0, fb_jw cJ zx 1 zg] : List va_W).flatten) sz) (fun (r : Int32) (_ : Unit) => r = (0 : Int32)) (fun (t : Unit) => ([fb_jw cJ zx 1 (vp_updL zg 0 (((0 : Int32)).toInt64))] : List va_W).flatten)) 0 0 (va_A (([fb_o11 zb zt zn zv zs zp (zq 0) (zu 0) zh zst zre, fb_mw cI zq fb_s0 zw, fb_o0 zh (zo 0) (zi 0) fb_h0, fb_jw cJ zx 1 zg] : List va_W).flatten) sz) := by
  refine fb_entW (Qf := fun A => (fb_QI D A (fun (r : Int32) (_ : Unit) => r = (0 : Int32)) (fun (t : Unit) => ([fb_jw cJ zx 1 (vp_updL zg 0 (((0 : Int32)).toInt64))] : List va_W).flatten))) (by decide +kernel) (Nat.le_of_ble_eq_true rfl) ?_
  intro p e s m args below meth c A ls X I hl hex
  obtain ⟨hx, hb, hr, hml, hown, hts, hlk, hA, hK, hF⟩ := id X
  have hl : lv_has ls 5 [(0, .ref zb), (1, .int (1 : Int32)), (2, .int (nI zv9)), (3, .ref zx)] := hl
  refine lv_aload_n hx hb dL_setRegister_0 rfl (lv_at hl 3 rfl) ?_
  refine lv_iconst (v := (0 : Int32)) hx hb dL_setRegister_1 (by decide) ?_
  refine lv_aload_n hx hb dL_setRegister_2 rfl (lv_at hl 0 rfl) ?_
  refine lv_iload_n hx hb dL_setRegister_3 rfl (lv_at hl 1 rfl) ?_
  refine lv_iload_n hx hb dL_setRegister_4 rfl (lv_at hl 2 rfl) ?_
  refine fb_gIx (cs := [fb_o11 zb zt zn zv zs zp (zq 0) (zu 0) zh zst zre, fb_mw cI zq fb_s0 zw, fb_o0 zh (zo 0) (zi 0) fb_h0]) (rs := [fb_jw cJ zx 1 zg]) X I [0, 1, 2, 3] 4 rfl (by decide +kernel) rfl rfl (fun I => fb_rV (As := [.int (1 : Int32), .int (nI zv9)]) (rest := [.int (0 : Int32), .ref zx]) X hl (fb_goodV fw_1762 fw_1763 fw_1764 fw_191 fw_1765) (c_X11_setRegister l D cI cJ zb zt zn zv zs zp (zu 0) zh zst zre zq fb_s0 zw (zo 0) (zi 0) fb_h0 (1 : Int32) (nI zv9) _ (by decide) (by decide) (nI_pos (by omega)) (fun q => absurd q (by decide)) (fun q => absurd q (by decide)) (fun _ _ => nI_le (a := zv9) (b := 255) (by omega) (by omega))) rfl rfl rfl (by decide +kernel : fb_hd yX11_setRegister 2) ⟨(Nat.le_of_ble_eq_true rfl), (Nat.le_of_ble_eq_true rfl)⟩ (rfl : vwCl[11]? = some _) rfl rfl rfl rfl (Nat.le_of_ble_eq_true rfl) ⟨(Nat.le_of_ble_eq_true rfl), (Nat.le_of_ble_eq_true rfl)⟩ dL_setRegister_5 I) ?_
  intro r u H locs e0 I
  have e0 : r = (0 : Int32) := e0.trans (a_reg1 _)
  subst e0
  refine lv_i2l (v := (((0 : Int32)).toInt64)) hx hb dL_setRegister_8 rfl ?_
  refine fb_jsC (n := 0) (wn := ([fb_jw cJ zx 1 (vp_updL zg 0 (((0 : Int32)).toInt64))] : List va_W).flatten) X I 0 1 rfl rfl (by decide) (by decide) (Nat.le_of_ble_eq_true rfl) rfl dL_setRegister_9 (fun H locs I => ?_)
  refine lv_goto (tgt := 21) hx hb dL_setRegister_10 (by decide) ?_
  refine lv_iconst (v := (0 : Int32)) hx hb dL_setRegister_21 (by decide) ?_
  exact fb_retI (u := ()) X I rfl rfl dL_setRegister_22

set_option maxHeartbeats 4000000 in
set_option maxRecDepth 100000 in
theorem c_w_setRegister_2 (l : Launch) (D : va_G) (cI cJ : ClassId) (zb : Nat) (zt : Nat) (zn : Nat) (zv : Nat) (zs : Nat) (zp : Nat) (zq : Nat → Nat) (zu : Nat → Nat) (zh : Nat) (zst : Nat) (zre : Nat) (zw : fb_AR) (zo : Nat → Nat) (zi : Nat → Nat) (zx : Nat) (zg : Nat → Int64) (zv9 : Nat) (sz : Nat) (hst : l.stackTraces = false) (hv : zv9 ≤ 255) : Met l yL_setRegister (Cond.codeWith yL_setRegister cL_setRegister 5 (some .int) [((0 : Nat), (10 : Nat), (13 : Nat), (24 : Nat)), ((0 : Nat), (10 : Nat), (17 : Nat), (19 : Nat))] :: fb_all) ({ frames := 2, cells := 0, slots := 0, locals := 63 } : Room) (fb_PP D (fb_ty D cI cJ) [.ref zb, .int (2 : Int32), .int (nI zv9), .ref zx] (([fb_o11 zb zt zn zv zs zp (zq 0) (zu 0) zh zst zre, fb_mw cI zq fb_s0 zw, fb_o0 zh (zo 0) (zi 0) fb_h0, fb_jw cJ zx 1 zg] : List va_W).flatten) sz) (fb_QI D (va_A (([fb_o11 zb zt zn zv zs zp (zq 0) (zu 0) zh zst zre, fb_mw cI zq fb_s0 zw, fb_o0 zh (zo 0) (zi 0) fb_h0, fb_jw cJ zx 1 zg] : List va_W).flatten) sz) (fun (r : Int32) (_ : Unit) => r = (0 : Int32)) (fun (t : Unit) => ([fb_jw cJ zx 1 (vp_updL zg 0 (((255 : Int32)).toInt64))] : List va_W).flatten)) 0 0 (va_A (([fb_o11 zb zt zn zv zs zp (zq 0) (zu 0) zh zst zre, fb_mw cI zq fb_s0 zw, fb_o0 zh (zo 0) (zi 0) fb_h0, fb_jw cJ zx 1 zg] : List va_W).flatten) sz) := by
  refine fb_entW (Qf := fun A => (fb_QI D A (fun (r : Int32) (_ : Unit) => r = (0 : Int32)) (fun (t : Unit) => ([fb_jw cJ zx 1 (vp_updL zg 0 (((255 : Int32)).toInt64))] : List va_W).flatten))) (by decide +kernel) (Nat.le_of_ble_eq_true rfl) ?_
  intro p e s m args below meth c A ls X I hl hex
  obtain ⟨hx, hb, hr, hml, hown, hts, hlk, hA, hK, hF⟩ := id X
  have hl : lv_has ls 5 [(0, .ref zb), (1, .int (2 : Int32)), (2, .int (nI zv9)), (3, .ref zx)] := hl
  refine lv_aload_n hx hb dL_setRegister_0 rfl (lv_at hl 3 rfl) ?_
  refine lv_iconst (v := (0 : Int32)) hx hb dL_setRegister_1 (by decide) ?_
  refine lv_aload_n hx hb dL_setRegister_2 rfl (lv_at hl 0 rfl) ?_
  refine lv_iload_n hx hb dL_setRegister_3 rfl (lv_at hl 1 rfl) ?_
  refine lv_iload_n hx hb dL_setRegister_4 rfl (lv_at hl 2 rfl) ?_
  refine fb_gIx (cs := [fb_o11 zb zt zn zv zs zp (zq 0) (zu 0) zh zst zre, fb_mw cI zq fb_s0 zw, fb_o0 zh (zo 0) (zi 0) fb_h0]) (rs := [fb_jw cJ zx 1 zg]) X I [0, 1, 2, 3] 4 rfl (by decide +kernel) rfl rfl (fun I => fb_rV (As := [.int (2 : Int32), .int (nI zv9)]) (rest := [.int (0 : Int32), .ref zx]) X hl (fb_goodV fw_1762 fw_1763 fw_1764 fw_191 fw_1765) (c_X11_setRegister l D cI cJ zb zt zn zv zs zp (zu 0) zh zst zre zq fb_s0 zw (zo 0) (zi 0) fb_h0 (2 : Int32) (nI zv9) _ (by decide) (by decide) (nI_pos (by omega)) (fun q => absurd q (by decide)) (fun q => absurd q (by decide)) (fun _ _ => nI_le (a := zv9) (b := 255) (by omega) (by omega))) rfl rfl rfl (by decide +kernel : fb_hd yX11_setRegister 2) ⟨(Nat.le_of_ble_eq_true rfl), (Nat.le_of_ble_eq_true rfl)⟩ (rfl : vwCl[11]? = some _) rfl rfl rfl rfl (Nat.le_of_ble_eq_true rfl) ⟨(Nat.le_of_ble_eq_true rfl), (Nat.le_of_ble_eq_true rfl)⟩ dL_setRegister_5 I) ?_
  intro r u H locs e0 I
  have e0 : r = (255 : Int32) := e0.trans (a_reg2 _)
  subst e0
  refine lv_i2l (v := (((255 : Int32)).toInt64)) hx hb dL_setRegister_8 rfl ?_
  refine fb_jsC (n := 0) (wn := ([fb_jw cJ zx 1 (vp_updL zg 0 (((255 : Int32)).toInt64))] : List va_W).flatten) X I 0 1 rfl rfl (by decide) (by decide) (Nat.le_of_ble_eq_true rfl) rfl dL_setRegister_9 (fun H locs I => ?_)
  refine lv_goto (tgt := 21) hx hb dL_setRegister_10 (by decide) ?_
  refine lv_iconst (v := (0 : Int32)) hx hb dL_setRegister_21 (by decide) ?_
  exact fb_retI (u := ()) X I rfl rfl dL_setRegister_22

set_option maxHeartbeats 4000000 in
set_option maxRecDepth 100000 in
theorem c_w_setRegister_3 (l : Launch) (D : va_G) (cI cJ : ClassId) (zb : Nat) (zt : Nat) (zn : Nat) (zv : Nat) (zs : Nat) (zp : Nat) (zq : Nat → Nat) (zu : Nat → Nat) (zh : Nat) (zst : Nat) (zre : Nat) (zw : fb_AR) (zo : Nat → Nat) (zi : Nat → Nat) (zx : Nat) (zg : Nat → Int64) (zv9 : Nat) (sz : Nat) (hst : l.stackTraces = false) (hv : zv9 ≤ 31) : Met l yL_setRegister (Cond.codeWith yL_setRegister cL_setRegister 5 (some .int) [((0 : Nat), (10 : Nat), (13 : Nat), (24 : Nat)), ((0 : Nat), (10 : Nat), (17 : Nat), (19 : Nat))] :: fb_all) ({ frames := 2, cells := 0, slots := 0, locals := 63 } : Room) (fb_PP D (fb_ty D cI cJ) [.ref zb, .int (3 : Int32), .int (nI zv9), .ref zx] (([fb_o11 zb zt zn zv zs zp (zq 0) (zu 0) zh zst zre, fb_mw cI zq fb_s0 zw, fb_o0 zh (zo 0) (zi 0) fb_h0, fb_jw cJ zx 1 zg] : List va_W).flatten) sz) (fb_QI D (va_A (([fb_o11 zb zt zn zv zs zp (zq 0) (zu 0) zh zst zre, fb_mw cI zq fb_s0 zw, fb_o0 zh (zo 0) (zi 0) fb_h0, fb_jw cJ zx 1 zg] : List va_W).flatten) sz) (fun (r : Int32) (_ : Unit) => r = (0 : Int32)) (fun (t : Unit) => ([fb_jw cJ zx 1 (vp_updL zg 0 (((4 : Int32)).toInt64))] : List va_W).flatten)) 0 0 (va_A (([fb_o11 zb zt zn zv zs zp (zq 0) (zu 0) zh zst zre, fb_mw cI zq fb_s0 zw, fb_o0 zh (zo 0) (zi 0) fb_h0, fb_jw cJ zx 1 zg] : List va_W).flatten) sz) := by
  refine fb_entW (Qf := fun A => (fb_QI D A (fun (r : Int32) (_ : Unit) => r = (0 : Int32)) (fun (t : Unit) => ([fb_jw cJ zx 1 (vp_updL zg 0 (((4 : Int32)).toInt64))] : List va_W).flatten))) (by decide +kernel) (Nat.le_of_ble_eq_true rfl) ?_
  intro p e s m args below meth c A ls X I hl hex
  obtain ⟨hx, hb, hr, hml, hown, hts, hlk, hA, hK, hF⟩ := id X
  have hl : lv_has ls 5 [(0, .ref zb), (1, .int (3 : Int32)), (2, .int (nI zv9)), (3, .ref zx)] := hl
  refine lv_aload_n hx hb dL_setRegister_0 rfl (lv_at hl 3 rfl) ?_
  refine lv_iconst (v := (0 : Int32)) hx hb dL_setRegister_1 (by decide) ?_
  refine lv_aload_n hx hb dL_setRegister_2 rfl (lv_at hl 0 rfl) ?_
  refine lv_iload_n hx hb dL_setRegister_3 rfl (lv_at hl 1 rfl) ?_
  refine lv_iload_n hx hb dL_setRegister_4 rfl (lv_at hl 2 rfl) ?_
  refine fb_gIx (cs := [fb_o11 zb zt zn zv zs zp (zq 0) (zu 0) zh zst zre, fb_mw cI zq fb_s0 zw, fb_o0 zh (zo 0) (zi 0) fb_h0]) (rs := [fb_jw cJ zx 1 zg]) X I [0, 1, 2, 3] 4 rfl (by decide +kernel) rfl rfl (fun I => fb_rV (As := [.int (3 : Int32), .int (nI zv9)]) (rest := [.int (0 : Int32), .ref zx]) X hl (fb_goodV fw_1762 fw_1763 fw_1764 fw_191 fw_1765) (c_X11_setRegister l D cI cJ zb zt zn zv zs zp (zu 0) zh zst zre zq fb_s0 zw (zo 0) (zi 0) fb_h0 (3 : Int32) (nI zv9) _ (by decide) (by decide) (nI_pos (by omega)) (fun q => absurd q (by decide)) (fun _ => nI_le (a := zv9) (b := 31) (by omega) (by omega)) (fun _ q => absurd rfl q)) rfl rfl rfl (by decide +kernel : fb_hd yX11_setRegister 2) ⟨(Nat.le_of_ble_eq_true rfl), (Nat.le_of_ble_eq_true rfl)⟩ (rfl : vwCl[11]? = some _) rfl rfl rfl rfl (Nat.le_of_ble_eq_true rfl) ⟨(Nat.le_of_ble_eq_true rfl), (Nat.le_of_ble_eq_true rfl)⟩ dL_setRegister_5 I) ?_
  intro r u H locs e0 I
  have e0 : r = (4 : Int32) := e0.trans (a_reg3 _)
  subst e0
  refine lv_i2l (v := (((4 : Int32)).toInt64)) hx hb dL_setRegister_8 rfl ?_
  refine fb_jsC (n := 0) (wn := ([fb_jw cJ zx 1 (vp_updL zg 0 (((4 : Int32)).toInt64))] : List va_W).flatten) X I 0 1 rfl rfl (by decide) (by decide) (Nat.le_of_ble_eq_true rfl) rfl dL_setRegister_9 (fun H locs I => ?_)
  refine lv_goto (tgt := 21) hx hb dL_setRegister_10 (by decide) ?_
  refine lv_iconst (v := (0 : Int32)) hx hb dL_setRegister_21 (by decide) ?_
  exact fb_retI (u := ()) X I rfl rfl dL_setRegister_22

set_option maxHeartbeats 4000000 in
set_option maxRecDepth 100000 in
theorem c_w_setRegister_4 (l : Launch) (D : va_G) (cI cJ : ClassId) (zb : Nat) (zt : Nat) (zn : Nat) (zv : Nat) (zs : Nat) (zp : Nat) (zq : Nat → Nat) (zu : Nat → Nat) (zh : Nat) (zst : Nat) (zre : Nat) (zw : fb_AR) (zo : Nat → Nat) (zi : Nat → Nat) (zx : Nat) (zg : Nat → Int64) (zv9 : Nat) (sz : Nat) (hst : l.stackTraces = false) (hv : zv9 ≤ 4095) : Met l yL_setRegister (Cond.codeWith yL_setRegister cL_setRegister 5 (some .int) [((0 : Nat), (10 : Nat), (13 : Nat), (24 : Nat)), ((0 : Nat), (10 : Nat), (17 : Nat), (19 : Nat))] :: fb_all) ({ frames := 2, cells := 0, slots := 0, locals := 63 } : Room) (fb_PP D (fb_ty D cI cJ) [.ref zb, .int (4 : Int32), .int (nI zv9), .ref zx] (([fb_o11 zb zt zn zv zs zp (zq 0) (zu 0) zh zst zre, fb_mw cI zq fb_s0 zw, fb_o0 zh (zo 0) (zi 0) fb_h0, fb_jw cJ zx 1 zg] : List va_W).flatten) sz) (fb_QI D (va_A (([fb_o11 zb zt zn zv zs zp (zq 0) (zu 0) zh zst zre, fb_mw cI zq fb_s0 zw, fb_o0 zh (zo 0) (zi 0) fb_h0, fb_jw cJ zx 1 zg] : List va_W).flatten) sz) (fun (r : Int32) (_ : Unit) => r = (0 : Int32)) (fun (t : Unit) => ([fb_jw cJ zx 1 (vp_updL zg 0 (((0 : Int32)).toInt64))] : List va_W).flatten)) 0 0 (va_A (([fb_o11 zb zt zn zv zs zp (zq 0) (zu 0) zh zst zre, fb_mw cI zq fb_s0 zw, fb_o0 zh (zo 0) (zi 0) fb_h0, fb_jw cJ zx 1 zg] : List va_W).flatten) sz) := by
  refine fb_entW (Qf := fun A => (fb_QI D A (fun (r : Int32) (_ : Unit) => r = (0 : Int32)) (fun (t : Unit) => ([fb_jw cJ zx 1 (vp_updL zg 0 (((0 : Int32)).toInt64))] : List va_W).flatten))) (by decide +kernel) (Nat.le_of_ble_eq_true rfl) ?_
  intro p e s m args below meth c A ls X I hl hex
  obtain ⟨hx, hb, hr, hml, hown, hts, hlk, hA, hK, hF⟩ := id X
  have hl : lv_has ls 5 [(0, .ref zb), (1, .int (4 : Int32)), (2, .int (nI zv9)), (3, .ref zx)] := hl
  refine lv_aload_n hx hb dL_setRegister_0 rfl (lv_at hl 3 rfl) ?_
  refine lv_iconst (v := (0 : Int32)) hx hb dL_setRegister_1 (by decide) ?_
  refine lv_aload_n hx hb dL_setRegister_2 rfl (lv_at hl 0 rfl) ?_
  refine lv_iload_n hx hb dL_setRegister_3 rfl (lv_at hl 1 rfl) ?_
  refine lv_iload_n hx hb dL_setRegister_4 rfl (lv_at hl 2 rfl) ?_
  refine fb_gIx (cs := [fb_o11 zb zt zn zv zs zp (zq 0) (zu 0) zh zst zre, fb_mw cI zq fb_s0 zw, fb_o0 zh (zo 0) (zi 0) fb_h0]) (rs := [fb_jw cJ zx 1 zg]) X I [0, 1, 2, 3] 4 rfl (by decide +kernel) rfl rfl (fun I => fb_rV (As := [.int (4 : Int32), .int (nI zv9)]) (rest := [.int (0 : Int32), .ref zx]) X hl (fb_goodV fw_1762 fw_1763 fw_1764 fw_191 fw_1765) (c_X11_setRegister l D cI cJ zb zt zn zv zs zp (zu 0) zh zst zre zq fb_s0 zw (zo 0) (zi 0) fb_h0 (4 : Int32) (nI zv9) _ (by decide) (by decide) (nI_pos (by omega)) (fun _ => nI_le (a := zv9) (b := 4095) (by omega) (by omega)) (fun q => absurd q (by decide)) (fun q => absurd rfl q)) rfl rfl rfl (by decide +kernel : fb_hd yX11_setRegister 2) ⟨(Nat.le_of_ble_eq_true rfl), (Nat.le_of_ble_eq_true rfl)⟩ (rfl : vwCl[11]? = some _) rfl rfl rfl rfl (Nat.le_of_ble_eq_true rfl) ⟨(Nat.le_of_ble_eq_true rfl), (Nat.le_of_ble_eq_true rfl)⟩ dL_setRegister_5 I) ?_
  intro r u H locs e0 I
  have e0 : r = (0 : Int32) := e0.trans (a_reg4 _)
  subst e0
  refine lv_i2l (v := (((0 : Int32)).toInt64)) hx hb dL_setRegister_8 rfl ?_
  refine fb_jsC (n := 0) (wn := ([fb_jw cJ zx 1 (vp_updL zg 0 (((0 : Int32)).toInt64))] : List va_W).flatten) X I 0 1 rfl rfl (by decide) (by decide) (Nat.le_of_ble_eq_true rfl) rfl dL_setRegister_9 (fun H locs I => ?_)
  refine lv_goto (tgt := 21) hx hb dL_setRegister_10 (by decide) ?_
  refine lv_iconst (v := (0 : Int32)) hx hb dL_setRegister_21 (by decide) ?_
  exact fb_retI (u := ()) X I rfl rfl dL_setRegister_22

set_option maxHeartbeats 4000000 in
set_option maxRecDepth 100000 in
theorem c_w_run_in (l : Launch) (D : va_G) (cI cJ : ClassId) (zb : Nat) (zt : Nat) (zn : Nat) (zv : Nat) (zs : Nat) (zp : Nat) (zq : Nat → Nat) (zu : Nat → Nat) (zh : Nat) (zst : Nat) (zre : Nat) (zo : Nat → Nat) (zi : Nat → Nat) (zw : fb_AR) (zb0 : Nat) (zb1 : Nat) (zb3 : Nat) (zb4 : Nat) (zb5 : Nat) (zx : Nat) (zg : Nat → Int64) (zN : Nat) (sz : Nat) (hst : l.stackTraces = false) (hN : zN < 5000) : Met l yL_run (Cond.codeWith yL_run cL_run 4 (some .int) [((0 : Nat), (9 : Nat), (12 : Nat), (19 : Nat))] :: fb_all) ({ frames := 8, cells := 0, slots := 0, locals := 199 } : Room) (fb_PP D (fb_ty D cI cJ) [.ref zb, .int (nI (zN + 1)), .ref zx] (([fb_o11 zb zt zn zv zs zp (zq 0) (zu 0) zh zst zre, fb_o0 zh (zo 0) (zi 0) fb_h0, fb_mw cI zo fb_m0 (fun _ => 0), fb_mw cI zi fb_m0 (fun _ => 0), fb_mw cI zq fb_s0 zw, fb_o7 zst zb0 zb1 zb3 zb4 zb5 (fun _ => 0), fb_jw cJ zx 1 zg] : List va_W).flatten) sz) (fb_QI D (va_A (([fb_o11 zb zt zn zv zs zp (zq 0) (zu 0) zh zst zre, fb_o0 zh (zo 0) (zi 0) fb_h0, fb_mw cI zo fb_m0 (fun _ => 0), fb_mw cI zi fb_m0 (fun _ => 0), fb_mw cI zq fb_s0 zw, fb_o7 zst zb0 zb1 zb3 zb4 zb5 (fun _ => 0), fb_jw cJ zx 1 zg] : List va_W).flatten) sz) (fun (r : Int32) (_ : Unit) => r = (0 : Int32)) (fun (t : Unit) => ([fb_jw cJ zx 1 (vp_updL zg 0 (((nI (zN + 1))).toInt64))] : List va_W).flatten)) 0 0 (va_A (([fb_o11 zb zt zn zv zs zp (zq 0) (zu 0) zh zst zre, fb_o0 zh (zo 0) (zi 0) fb_h0, fb_mw cI zo fb_m0 (fun _ => 0), fb_mw cI zi fb_m0 (fun _ => 0), fb_mw cI zq fb_s0 zw, fb_o7 zst zb0 zb1 zb3 zb4 zb5 (fun _ => 0), fb_jw cJ zx 1 zg] : List va_W).flatten) sz) := by
  refine fb_entW (Qf := fun A => (fb_QI D A (fun (r : Int32) (_ : Unit) => r = (0 : Int32)) (fun (t : Unit) => ([fb_jw cJ zx 1 (vp_updL zg 0 (((nI (zN + 1))).toInt64))] : List va_W).flatten))) (by decide +kernel) (Nat.le_of_ble_eq_true rfl) ?_
  intro p e s m args below meth c A ls X I hl hex
  obtain ⟨hx, hb, hr, hml, hown, hts, hlk, hA, hK, hF⟩ := id X
  have hl : lv_has ls 4 [(0, .ref zb), (1, .int (nI (zN + 1))), (2, .ref zx)] := hl
  refine lv_aload_n hx hb dL_run_0 rfl (lv_at hl 2 rfl) ?_
  refine lv_iconst (v := (0 : Int32)) hx hb dL_run_1 (by decide) ?_
  refine lv_aload_n hx hb dL_run_2 rfl (lv_at hl 0 rfl) ?_
  refine lv_iload_n hx hb dL_run_3 rfl (lv_at hl 1 rfl) ?_
  refine fb_gIx (cs := [fb_o11 zb zt zn zv zs zp (zq 0) (zu 0) zh zst zre, fb_o0 zh (zo 0) (zi 0) fb_h0, fb_mw cI zo fb_m0 (fun _ => 0), fb_mw cI zi fb_m0 (fun _ => 0), fb_mw cI zq fb_s0 zw, fb_o7 zst zb0 zb1 zb3 zb4 zb5 (fun _ => 0)]) (rs := [fb_jw cJ zx 1 zg]) X I [0, 1, 2, 3, 4, 5, 6] 7 rfl (by decide +kernel) rfl rfl (fun I => fb_rV (As := [.int (nI (zN + 1))]) (rest := [.int (0 : Int32), .ref zx]) X hl (fb_goodV fw_1775 fw_1776 fw_1777 fw_191 fw_1778) (c_X11_run l D cI cJ zb zt zn zv zs zp (zu 0) zh zst zre fb_h0 zo fb_m0 (fun _ => 0) zi fb_m0 (fun _ => 0) zq fb_s0 zw zb0 zb1 zb3 zb4 zb5 (fun _ => 0) (nI (zN + 1)) _ (ns_in (by omega)) rfl rfl) rfl rfl rfl (by decide +kernel : fb_hd yX11_run 1) ⟨(Nat.le_of_ble_eq_true rfl), (Nat.le_of_ble_eq_true rfl)⟩ (rfl : vwCl[11]? = some _) rfl rfl rfl rfl (Nat.le_of_ble_eq_true rfl) ⟨(Nat.le_of_ble_eq_true rfl), (Nat.le_of_ble_eq_true rfl)⟩ dL_run_4 I) ?_
  intro r u H locs e0 I
  have e0 : r = (nI (zN + 1)) := e0.trans (a_run _ _ _ _ _ _ hN)
  subst e0
  refine lv_i2l (v := (((nI (zN + 1))).toInt64)) hx hb dL_run_7 rfl ?_
  refine fb_jsC (n := 0) (wn := ([fb_jw cJ zx 1 (vp_updL zg 0 (((nI (zN + 1))).toInt64))] : List va_W).flatten) X I 0 1 rfl rfl (by decide) (by decide) (Nat.le_of_ble_eq_true rfl) rfl dL_run_8 (fun H locs I => ?_)
  refine lv_goto (tgt := 15) hx hb dL_run_9 (by decide) ?_
  refine lv_iconst (v := (0 : Int32)) hx hb dL_run_15 (by decide) ?_
  exact fb_retI (u := ()) X I rfl rfl dL_run_16

set_option maxHeartbeats 4000000 in
set_option maxRecDepth 100000 in
theorem c_w_back_in (l : Launch) (D : va_G) (cI cJ : ClassId) (zb : Nat) (zt : Nat) (zn : Nat) (zv : Nat) (zs : Nat) (zp : Nat) (zq : Nat → Nat) (zu : Nat → Nat) (zh : Nat) (zst : Nat) (zre : Nat) (zo : Nat → Nat) (zi : Nat → Nat) (zw : fb_AR) (zb0 : Nat) (zb1 : Nat) (zb3 : Nat) (zb4 : Nat) (zb5 : Nat) (zx : Nat) (zg : Nat → Int64) (zj : Nat) (sz : Nat) (hst : l.stackTraces = false) (hj : 1 ≤ zj ∧ zj ≤ 200) : Met l yL_back (Cond.codeWith yL_back cL_back 4 (some .int) [((0 : Nat), (9 : Nat), (12 : Nat), (19 : Nat))] :: fb_all) ({ frames := 8, cells := 0, slots := 0, locals := 199 } : Room) (fb_PP D (fb_ty D cI cJ) [.ref zb, .int (nI zj), .ref zx] (([fb_o11 zb zt zn zv zs zp (zq 0) (zu 0) zh zst zre, fb_o0 zh (zo 0) (zi 0) fb_h0, fb_mw cI zo fb_m0 (fun _ => 0), fb_mw cI zi fb_m0 (fun _ => 0), fb_mw cI zq fb_s0 zw, fb_o7 zst zb0 zb1 zb3 zb4 zb5 (fun _ => 0), fb_jw cJ zx 1 zg] : List va_W).flatten) sz) (fb_QI D (va_A (([fb_o11 zb zt zn zv zs zp (zq 0) (zu 0) zh zst zre, fb_o0 zh (zo 0) (zi 0) fb_h0, fb_mw cI zo fb_m0 (fun _ => 0), fb_mw cI zi fb_m0 (fun _ => 0), fb_mw cI zq fb_s0 zw, fb_o7 zst zb0 zb1 zb3 zb4 zb5 (fun _ => 0), fb_jw cJ zx 1 zg] : List va_W).flatten) sz) (fun (r : Int32) (_ : Unit) => r = (0 : Int32)) (fun (t : Unit) => ([fb_jw cJ zx 1 (vp_updL zg 0 (((0 : Int32)).toInt64))] : List va_W).flatten)) 0 0 (va_A (([fb_o11 zb zt zn zv zs zp (zq 0) (zu 0) zh zst zre, fb_o0 zh (zo 0) (zi 0) fb_h0, fb_mw cI zo fb_m0 (fun _ => 0), fb_mw cI zi fb_m0 (fun _ => 0), fb_mw cI zq fb_s0 zw, fb_o7 zst zb0 zb1 zb3 zb4 zb5 (fun _ => 0), fb_jw cJ zx 1 zg] : List va_W).flatten) sz) := by
  refine fb_entW (Qf := fun A => (fb_QI D A (fun (r : Int32) (_ : Unit) => r = (0 : Int32)) (fun (t : Unit) => ([fb_jw cJ zx 1 (vp_updL zg 0 (((0 : Int32)).toInt64))] : List va_W).flatten))) (by decide +kernel) (Nat.le_of_ble_eq_true rfl) ?_
  intro p e s m args below meth c A ls X I hl hex
  obtain ⟨hx, hb, hr, hml, hown, hts, hlk, hA, hK, hF⟩ := id X
  have hl : lv_has ls 4 [(0, .ref zb), (1, .int (nI zj)), (2, .ref zx)] := hl
  refine lv_aload_n hx hb dL_back_0 rfl (lv_at hl 2 rfl) ?_
  refine lv_iconst (v := (0 : Int32)) hx hb dL_back_1 (by decide) ?_
  refine lv_aload_n hx hb dL_back_2 rfl (lv_at hl 0 rfl) ?_
  refine lv_iload_n hx hb dL_back_3 rfl (lv_at hl 1 rfl) ?_
  refine fb_gIx (cs := [fb_o11 zb zt zn zv zs zp (zq 0) (zu 0) zh zst zre, fb_o0 zh (zo 0) (zi 0) fb_h0, fb_mw cI zo fb_m0 (fun _ => 0), fb_mw cI zi fb_m0 (fun _ => 0), fb_mw cI zq fb_s0 zw, fb_o7 zst zb0 zb1 zb3 zb4 zb5 (fun _ => 0)]) (rs := [fb_jw cJ zx 1 zg]) X I [0, 1, 2, 3, 4, 5, 6] 7 rfl (by decide +kernel) rfl rfl (fun I => fb_rV (As := [.int (nI zj)]) (rest := [.int (0 : Int32), .ref zx]) X hl (fb_goodV fw_1786 fw_1787 fw_1788 fw_191 fw_1789) (c_X11_back l D cI cJ zb zt zn zv zs zp (zu 0) zh zst zre fb_h0 zo fb_m0 (fun _ => 0) zi fb_m0 (fun _ => 0) zq fb_s0 zw zb0 zb1 zb3 zb4 zb5 (fun _ => 0) (nI zj) _ (nI_nlt (a := zj) (b := 1) (by omega) (by omega)) (nI_le (a := zj) (b := 200) (by omega) (by omega))) rfl rfl rfl (by decide +kernel : fb_hd yX11_back 1) ⟨(Nat.le_of_ble_eq_true rfl), (Nat.le_of_ble_eq_true rfl)⟩ (rfl : vwCl[11]? = some _) rfl rfl rfl rfl (Nat.le_of_ble_eq_true rfl) ⟨(Nat.le_of_ble_eq_true rfl), (Nat.le_of_ble_eq_true rfl)⟩ dL_back_4 I) ?_
  intro r u H locs e0 I
  have e0 : r = (0 : Int32) := e0.trans (a_back (by omega))
  subst e0
  refine lv_i2l (v := (((0 : Int32)).toInt64)) hx hb dL_back_7 rfl ?_
  refine fb_jsC (n := 0) (wn := ([fb_jw cJ zx 1 (vp_updL zg 0 (((0 : Int32)).toInt64))] : List va_W).flatten) X I 0 1 rfl rfl (by decide) (by decide) (Nat.le_of_ble_eq_true rfl) rfl dL_back_8 (fun H locs I => ?_)
  refine lv_goto (tgt := 15) hx hb dL_back_9 (by decide) ?_
  refine lv_iconst (v := (0 : Int32)) hx hb dL_back_15 (by decide) ?_
  exact fb_retI (u := ()) X I rfl rfl dL_back_16

set_option maxHeartbeats 4000000 in
set_option maxRecDepth 100000 in
theorem c_w_setBreak_in (l : Launch) (D : va_G) (cI cJ : ClassId) (zb : Nat) (zt : Nat) (zn : Nat) (zv : Nat) (zs : Nat) (zp : Nat) (zq : Nat → Nat) (zu : Nat → Nat) (zh : Nat) (zst : Nat) (zre : Nat) (zb0 : Nat) (zb1 : Nat) (zb3 : Nat) (zb4 : Nat) (zb5 : Nat) (zx : Nat) (zg : Nat → Int64) (zj : Nat) (zv9 : Nat) (sz : Nat) (hst : l.stackTraces = false) (hj : zj < 4096) (hv : zv9 ≤ 1000) : Met l yL_setBreak (Cond.codeWith yL_setBreak cL_setBreak 5 (some .int) [((0 : Nat), (10 : Nat), (13 : Nat), (19 : Nat)), ((0 : Nat), (10 : Nat), (17 : Nat), (13 : Nat))] :: fb_all) ({ frames := 4, cells := 0, slots := 0, locals := 88 } : Room) (fb_PP D (fb_ty D cI cJ) [.ref zb, .int (nI zj), .int (nI zv9), .ref zx] (([fb_o11 zb zt zn zv zs zp (zq 0) (zu 0) zh zst zre, fb_o7 zst zb0 zb1 zb3 zb4 zb5 (fun _ => 0), fb_aw cI zb0 6 (fun _ => 0), fb_aw cI zb1 6 (fun _ => 0), fb_jw cJ zx 1 zg] : List va_W).flatten) sz) (fb_QI D (va_A (([fb_o11 zb zt zn zv zs zp (zq 0) (zu 0) zh zst zre, fb_o7 zst zb0 zb1 zb3 zb4 zb5 (fun _ => 0), fb_aw cI zb0 6 (fun _ => 0), fb_aw cI zb1 6 (fun _ => 0), fb_jw cJ zx 1 zg] : List va_W).flatten) sz) (fun (r : Int32) (_ : Unit) => r = (0 : Int32)) (fun (t : Unit) => ([fb_jw cJ zx 1 (vp_updL zg 0 (((1 : Int32)).toInt64))] : List va_W).flatten)) 0 0 (va_A (([fb_o11 zb zt zn zv zs zp (zq 0) (zu 0) zh zst zre, fb_o7 zst zb0 zb1 zb3 zb4 zb5 (fun _ => 0), fb_aw cI zb0 6 (fun _ => 0), fb_aw cI zb1 6 (fun _ => 0), fb_jw cJ zx 1 zg] : List va_W).flatten) sz) := by
  refine fb_entW (Qf := fun A => (fb_QI D A (fun (r : Int32) (_ : Unit) => r = (0 : Int32)) (fun (t : Unit) => ([fb_jw cJ zx 1 (vp_updL zg 0 (((1 : Int32)).toInt64))] : List va_W).flatten))) (by decide +kernel) (Nat.le_of_ble_eq_true rfl) ?_
  intro p e s m args below meth c A ls X I hl hex
  obtain ⟨hx, hb, hr, hml, hown, hts, hlk, hA, hK, hF⟩ := id X
  have hl : lv_has ls 5 [(0, .ref zb), (1, .int (nI zj)), (2, .int (nI zv9)), (3, .ref zx)] := hl
  refine lv_aload_n hx hb dL_setBreak_0 rfl (lv_at hl 3 rfl) ?_
  refine lv_iconst (v := (0 : Int32)) hx hb dL_setBreak_1 (by decide) ?_
  refine lv_aload_n hx hb dL_setBreak_2 rfl (lv_at hl 0 rfl) ?_
  refine lv_iload_n hx hb dL_setBreak_3 rfl (lv_at hl 1 rfl) ?_
  refine lv_iload_n hx hb dL_setBreak_4 rfl (lv_at hl 2 rfl) ?_
  refine fb_gIx (cs := [fb_o11 zb zt zn zv zs zp (zq 0) (zu 0) zh zst zre, fb_o7 zst zb0 zb1 zb3 zb4 zb5 (fun _ => 0), fb_aw cI zb0 6 (fun _ => 0), fb_aw cI zb1 6 (fun _ => 0)]) (rs := [fb_jw cJ zx 1 zg]) X I [0, 1, 2, 3, 4] 5 rfl (by decide +kernel) rfl rfl (fun I => fb_rV (As := [.int (nI zj), .int (nI zv9)]) (rest := [.int (0 : Int32), .ref zx]) X hl (fb_goodV fw_1799 fw_1800 fw_1801 fw_191 fw_1802) (c_X11_setBreak l D cI cJ zb zt zn zv zs zp (zq 0) (zu 0) zh zst zre zb0 zb1 zb3 zb4 zb5 (fun _ => 0) (fun _ => 0) (fun _ => 0) (nI zj) (nI zv9) _ (na_in (by omega)) (nI_pos (by omega)) (nI_le (a := zv9) (b := 1000) (by omega) (by omega)) rfl) rfl rfl rfl (by decide +kernel : fb_hd yX11_setBreak 2) ⟨(Nat.le_of_ble_eq_true rfl), (Nat.le_of_ble_eq_true rfl)⟩ (rfl : vwCl[11]? = some _) rfl rfl rfl rfl (Nat.le_of_ble_eq_true rfl) ⟨(Nat.le_of_ble_eq_true rfl), (Nat.le_of_ble_eq_true rfl)⟩ dL_setBreak_5 I) ?_
  intro r u H locs e0 I
  have e0 : r = (1 : Int32) := e0
  subst e0
  refine lv_i2l (v := (((1 : Int32)).toInt64)) hx hb dL_setBreak_8 rfl ?_
  refine fb_jsC (n := 0) (wn := ([fb_jw cJ zx 1 (vp_updL zg 0 (((1 : Int32)).toInt64))] : List va_W).flatten) X I 0 1 rfl rfl (by decide) (by decide) (Nat.le_of_ble_eq_true rfl) rfl dL_setBreak_9 (fun H locs I => ?_)
  refine lv_goto (tgt := 21) hx hb dL_setBreak_10 (by decide) ?_
  refine lv_iconst (v := (0 : Int32)) hx hb dL_setBreak_21 (by decide) ?_
  exact fb_retI (u := ()) X I rfl rfl dL_setBreak_22

set_option maxHeartbeats 4000000 in
set_option maxRecDepth 100000 in
theorem c_w_setWatch_in (l : Launch) (D : va_G) (cI cJ : ClassId) (zb : Nat) (zt : Nat) (zn : Nat) (zv : Nat) (zs : Nat) (zp : Nat) (zq : Nat → Nat) (zu : Nat → Nat) (zh : Nat) (zst : Nat) (zre : Nat) (zb0 : Nat) (zb1 : Nat) (zb3 : Nat) (zb4 : Nat) (zb5 : Nat) (zx : Nat) (zg : Nat → Int64) (zj : Nat) (zv9 : Nat) (b3 : Bool) (b4 : Bool) (sz : Nat) (hst : l.stackTraces = false) (hj : zj < 4096) (hv : zj ≤ zv9 ∧ zv9 < 4096) : Met l yL_setWatch (Cond.codeWith yL_setWatch cL_setWatch 7 (some .int) [((0 : Nat), (14 : Nat), (17 : Nat), (19 : Nat)), ((0 : Nat), (14 : Nat), (21 : Nat), (13 : Nat))] :: fb_all) ({ frames := 3, cells := 0, slots := 0, locals := 70 } : Room) (fb_PP D (fb_ty D cI cJ) [.ref zb, .int (nI zj), .int (nI zv9), .int (fb_bI b3), .int (fb_bI b4), .ref zx] (([fb_o11 zb zt zn zv zs zp (zq 0) (zu 0) zh zst zre, fb_o7 zst zb0 zb1 zb3 zb4 zb5 (fun _ => 0), fb_aw cI zb3 4 (fun _ => 0), fb_aw cI zb4 4 (fun _ => 0), fb_aw cI zb5 4 (fun _ => 0), fb_jw cJ zx 1 zg] : List va_W).flatten) sz) (fb_QI D (va_A (([fb_o11 zb zt zn zv zs zp (zq 0) (zu 0) zh zst zre, fb_o7 zst zb0 zb1 zb3 zb4 zb5 (fun _ => 0), fb_aw cI zb3 4 (fun _ => 0), fb_aw cI zb4 4 (fun _ => 0), fb_aw cI zb5 4 (fun _ => 0), fb_jw cJ zx 1 zg] : List va_W).flatten) sz) (fun (r : Int32) (_ : Unit) => r = (0 : Int32)) (fun (t : Unit) => ([fb_jw cJ zx 1 (vp_updL zg 0 (((1 : Int32)).toInt64))] : List va_W).flatten)) 0 0 (va_A (([fb_o11 zb zt zn zv zs zp (zq 0) (zu 0) zh zst zre, fb_o7 zst zb0 zb1 zb3 zb4 zb5 (fun _ => 0), fb_aw cI zb3 4 (fun _ => 0), fb_aw cI zb4 4 (fun _ => 0), fb_aw cI zb5 4 (fun _ => 0), fb_jw cJ zx 1 zg] : List va_W).flatten) sz) := by
  refine fb_entW (Qf := fun A => (fb_QI D A (fun (r : Int32) (_ : Unit) => r = (0 : Int32)) (fun (t : Unit) => ([fb_jw cJ zx 1 (vp_updL zg 0 (((1 : Int32)).toInt64))] : List va_W).flatten))) (by decide +kernel) (Nat.le_of_ble_eq_true rfl) ?_
  intro p e s m args below meth c A ls X I hl hex
  obtain ⟨hx, hb, hr, hml, hown, hts, hlk, hA, hK, hF⟩ := id X
  have hl : lv_has ls 7 [(0, .ref zb), (1, .int (nI zj)), (2, .int (nI zv9)), (3, .int (fb_bI b3)), (4, .int (fb_bI b4)), (5, .ref zx)] := hl
  refine lv_aload hx hb dL_setWatch_0 (lv_at hl 5 rfl) ?_
  refine lv_iconst (v := (0 : Int32)) hx hb dL_setWatch_2 (by decide) ?_
  refine lv_aload_n hx hb dL_setWatch_3 rfl (lv_at hl 0 rfl) ?_
  refine lv_iload_n hx hb dL_setWatch_4 rfl (lv_at hl 1 rfl) ?_
  refine lv_iload_n hx hb dL_setWatch_5 rfl (lv_at hl 2 rfl) ?_
  refine lv_iload_n hx hb dL_setWatch_6 rfl (lv_at hl 3 rfl) ?_
  refine lv_iload hx hb dL_setWatch_7 (lv_at hl 4 rfl) ?_
  refine fb_gIx (cs := [fb_o11 zb zt zn zv zs zp (zq 0) (zu 0) zh zst zre, fb_o7 zst zb0 zb1 zb3 zb4 zb5 (fun _ => 0), fb_aw cI zb3 4 (fun _ => 0), fb_aw cI zb4 4 (fun _ => 0), fb_aw cI zb5 4 (fun _ => 0)]) (rs := [fb_jw cJ zx 1 zg]) X I [0, 1, 2, 3, 4, 5] 6 rfl (by decide +kernel) rfl rfl (fun I => fb_rV (As := [.int (nI zj), .int (nI zv9), .int (fb_bI b3), .int (fb_bI b4)]) (rest := [.int (0 : Int32), .ref zx]) X hl (fb_goodV fw_1813 fw_1814 fw_1815 fw_191 fw_1816) (c_X11_setWatch l D cI cJ zb zt zn zv zs zp (zq 0) (zu 0) zh zst zre zb0 zb1 zb3 zb4 zb5 (fun _ => 0) (fun _ => 0) (fun _ => 0) (fun _ => 0) (nI zj) (nI zv9) (fb_bI b3) (fb_bI b4) _ (na_in (by omega)) (na_in (by omega)) (nI_le (a := zj) (b := zv9) (by omega) (by omega)) rfl) rfl rfl rfl (by decide +kernel : fb_hd yX11_setWatch 4) ⟨(Nat.le_of_ble_eq_true rfl), (Nat.le_of_ble_eq_true rfl)⟩ (rfl : vwCl[11]? = some _) rfl rfl rfl rfl (Nat.le_of_ble_eq_true rfl) ⟨(Nat.le_of_ble_eq_true rfl), (Nat.le_of_ble_eq_true rfl)⟩ dL_setWatch_9 I) ?_
  intro r u H locs e0 I
  have e0 : r = (1 : Int32) := e0.trans (a_setWatch _ _ _ _)
  subst e0
  refine lv_i2l (v := (((1 : Int32)).toInt64)) hx hb dL_setWatch_12 rfl ?_
  refine fb_jsC (n := 0) (wn := ([fb_jw cJ zx 1 (vp_updL zg 0 (((1 : Int32)).toInt64))] : List va_W).flatten) X I 0 1 rfl rfl (by decide) (by decide) (Nat.le_of_ble_eq_true rfl) rfl dL_setWatch_13 (fun H locs I => ?_)
  refine lv_goto (tgt := 25) hx hb dL_setWatch_14 (by decide) ?_
  refine lv_iconst (v := (0 : Int32)) hx hb dL_setWatch_25 (by decide) ?_
  exact fb_retI (u := ()) X I rfl rfl dL_setWatch_26

set_option maxHeartbeats 4000000 in
set_option maxRecDepth 100000 in
theorem c_w_byteAt_in (l : Launch) (D : va_G) (cI cJ : ClassId) (zb : Nat) (zt : Nat) (zn : Nat) (zv : Nat) (zs : Nat) (zp : Nat) (zq : Nat → Nat) (zu : Nat → Nat) (zh : Nat) (zst : Nat) (zre : Nat) (zw : fb_AR) (zx : Nat) (zg : Nat → Int64) (zj : Nat) (sz : Nat) (hst : l.stackTraces = false) (hj : 0 ≤ zj ∧ zj ≤ 4095) : Met l yL_byteAt (Cond.codeWith yL_byteAt cL_byteAt 4 (some .int) [((0 : Nat), (9 : Nat), (12 : Nat), (19 : Nat))] :: fb_all) ({ frames := 3, cells := 0, slots := 0, locals := 63 } : Room) (fb_PP D (fb_ty D cI cJ) [.ref zb, .int (nI zj), .ref zx] (([fb_o11 zb zt zn zv zs zp (zq 0) (zu 0) zh zst zre, fb_mw cI zq fb_s0 zw, fb_jw cJ zx 1 zg] : List va_W).flatten) sz) (fb_QI D (va_A (([fb_o11 zb zt zn zv zs zp (zq 0) (zu 0) zh zst zre, fb_mw cI zq fb_s0 zw, fb_jw cJ zx 1 zg] : List va_W).flatten) sz) (fun (r : Int32) (_ : Unit) => r = (0 : Int32)) (fun (t : Unit) => ([fb_jw cJ zx 1 (vp_updL zg 0 (((0 : Int32)).toInt64))] : List va_W).flatten)) 0 0 (va_A (([fb_o11 zb zt zn zv zs zp (zq 0) (zu 0) zh zst zre, fb_mw cI zq fb_s0 zw, fb_jw cJ zx 1 zg] : List va_W).flatten) sz) := by
  refine fb_entW (Qf := fun A => (fb_QI D A (fun (r : Int32) (_ : Unit) => r = (0 : Int32)) (fun (t : Unit) => ([fb_jw cJ zx 1 (vp_updL zg 0 (((0 : Int32)).toInt64))] : List va_W).flatten))) (by decide +kernel) (Nat.le_of_ble_eq_true rfl) ?_
  intro p e s m args below meth c A ls X I hl hex
  obtain ⟨hx, hb, hr, hml, hown, hts, hlk, hA, hK, hF⟩ := id X
  have hl : lv_has ls 4 [(0, .ref zb), (1, .int (nI zj)), (2, .ref zx)] := hl
  refine lv_aload_n hx hb dL_byteAt_0 rfl (lv_at hl 2 rfl) ?_
  refine lv_iconst (v := (0 : Int32)) hx hb dL_byteAt_1 (by decide) ?_
  refine lv_aload_n hx hb dL_byteAt_2 rfl (lv_at hl 0 rfl) ?_
  refine lv_iload_n hx hb dL_byteAt_3 rfl (lv_at hl 1 rfl) ?_
  refine fb_gO (cs := [fb_o11 zb zt zn zv zs zp (zq 0) (zu 0) zh zst zre, fb_mw cI zq fb_s0 zw]) (rs := [fb_jw cJ zx 1 zg]) X I [0, 1, 2] 3 rfl (by decide +kernel) rfl rfl (fun I => fb_rV (As := [.int (nI zj)]) (rest := [.int (0 : Int32), .ref zx]) X hl (fb_goodV fw_1826 fw_1827 fw_1828 fw_191 fw_1829) (c_X11_byteAt l D cI cJ zb zt zn zv zs zp (zu 0) zh zst zre zq fb_s0 zw (nI zj) _ (na_in (by omega))) rfl rfl rfl (by decide +kernel : fb_hd yX11_byteAt 1) ⟨(Nat.le_of_ble_eq_true rfl), (Nat.le_of_ble_eq_true rfl)⟩ (rfl : vwCl[11]? = some _) rfl rfl rfl rfl (Nat.le_of_ble_eq_true rfl) ⟨(Nat.le_of_ble_eq_true rfl), (Nat.le_of_ble_eq_true rfl)⟩ dL_byteAt_4 I) ?_
  refine fb_tI (v := (0 : Int32)) (a_byt _) ?_
  refine lv_i2l (v := (((0 : Int32)).toInt64)) hx hb dL_byteAt_7 rfl ?_
  refine fb_jsC (n := 0) (wn := ([fb_o11 zb zt zn zv zs zp (zq 0) (zu 0) zh zst zre, fb_mw cI zq fb_s0 zw, fb_jw cJ zx 1 (vp_updL zg 0 (((0 : Int32)).toInt64))] : List va_W).flatten) X I 9 1 rfl rfl (by decide) (by decide) (Nat.le_of_ble_eq_true rfl) rfl dL_byteAt_8 (fun H locs I => ?_)
  refine lv_goto (tgt := 15) hx hb dL_byteAt_9 (by decide) ?_
  refine lv_iconst (v := (0 : Int32)) hx hb dL_byteAt_15 (by decide) ?_
  have I : fb_In D A s.heap (([fb_jw cJ zx 1 (vp_updL zg 0 (((0 : Int32)).toInt64))] : List va_W).flatten) H _ := fb_dropB (bs := [fb_o11 zb zt zn zv zs zp (zq 0) (zu 0) zh zst zre, fb_mw cI zq fb_s0 zw, fb_jw cJ zx 1 (vp_updL zg 0 (((0 : Int32)).toInt64))]) (bs' := [fb_jw cJ zx 1 (vp_updL zg 0 (((0 : Int32)).toInt64))]) (gs := [fb_o11 zb zt zn zv zs zp (zq 0) (zu 0) zh zst zre, fb_mw cI zq fb_s0 zw]) I 3 rfl [2, 0, 1] (by decide +kernel) rfl
  exact fb_retI (u := ()) X I rfl rfl dL_byteAt_16

set_option maxHeartbeats 4000000 in
set_option maxRecDepth 100000 in
theorem c_w_timesAt_in (l : Launch) (D : va_G) (cI cJ : ClassId) (zb : Nat) (zt : Nat) (zn : Nat) (zv : Nat) (zs : Nat) (zp : Nat) (zq : Nat → Nat) (zu : Nat → Nat) (zh : Nat) (zst : Nat) (zre : Nat) (zw : fb_AR) (zx : Nat) (zg : Nat → Int64) (zj : Nat) (sz : Nat) (hst : l.stackTraces = false) (hj : 0 ≤ zj ∧ zj ≤ 4095) : Met l yL_timesAt (Cond.codeWith yL_timesAt cL_timesAt 4 (some .int) [((0 : Nat), (9 : Nat), (12 : Nat), (19 : Nat))] :: fb_all) ({ frames := 2, cells := 0, slots := 0, locals := 61 } : Room) (fb_PP D (fb_ty D cI cJ) [.ref zb, .int (nI zj), .ref zx] (([fb_o11 zb zt zn zv zs zp (zq 0) (zu 0) zh zst zre, fb_mw cI zq fb_s0 zw, fb_jw cJ zx 1 zg] : List va_W).flatten) sz) (fb_QI D (va_A (([fb_o11 zb zt zn zv zs zp (zq 0) (zu 0) zh zst zre, fb_mw cI zq fb_s0 zw, fb_jw cJ zx 1 zg] : List va_W).flatten) sz) (fun (r : Int32) (_ : Unit) => r = (0 : Int32)) (fun (t : Unit) => ([fb_jw cJ zx 1 (vp_updL zg 0 (((0 : Int32)).toInt64))] : List va_W).flatten)) 0 0 (va_A (([fb_o11 zb zt zn zv zs zp (zq 0) (zu 0) zh zst zre, fb_mw cI zq fb_s0 zw, fb_jw cJ zx 1 zg] : List va_W).flatten) sz) := by
  refine fb_entW (Qf := fun A => (fb_QI D A (fun (r : Int32) (_ : Unit) => r = (0 : Int32)) (fun (t : Unit) => ([fb_jw cJ zx 1 (vp_updL zg 0 (((0 : Int32)).toInt64))] : List va_W).flatten))) (by decide +kernel) (Nat.le_of_ble_eq_true rfl) ?_
  intro p e s m args below meth c A ls X I hl hex
  obtain ⟨hx, hb, hr, hml, hown, hts, hlk, hA, hK, hF⟩ := id X
  have hl : lv_has ls 4 [(0, .ref zb), (1, .int (nI zj)), (2, .ref zx)] := hl
  refine lv_aload_n hx hb dL_timesAt_0 rfl (lv_at hl 2 rfl) ?_
  refine lv_iconst (v := (0 : Int32)) hx hb dL_timesAt_1 (by decide) ?_
  refine lv_aload_n hx hb dL_timesAt_2 rfl (lv_at hl 0 rfl) ?_
  refine lv_iload_n hx hb dL_timesAt_3 rfl (lv_at hl 1 rfl) ?_
  refine fb_gO (cs := [fb_o11 zb zt zn zv zs zp (zq 0) (zu 0) zh zst zre, fb_mw cI zq fb_s0 zw]) (rs := [fb_jw cJ zx 1 zg]) X I [0, 1, 2] 3 rfl (by decide +kernel) rfl rfl (fun I => fb_rV (As := [.int (nI zj)]) (rest := [.int (0 : Int32), .ref zx]) X hl (fb_goodV fw_1861 fw_1862 fw_1863 fw_191 fw_1864) (c_X11_timesAt l D cI cJ zb zt zn zv zs zp (zu 0) zh zst zre zq fb_s0 zw (nI zj) _ (na_in (by omega))) rfl rfl rfl (by decide +kernel : fb_hd yX11_timesAt 1) ⟨(Nat.le_of_ble_eq_true rfl), (Nat.le_of_ble_eq_true rfl)⟩ (rfl : vwCl[11]? = some _) rfl rfl rfl rfl (Nat.le_of_ble_eq_true rfl) ⟨(Nat.le_of_ble_eq_true rfl), (Nat.le_of_ble_eq_true rfl)⟩ dL_timesAt_4 I) ?_
  refine fb_tI (v := (0 : Int32)) (a_tim _) ?_
  refine lv_i2l (v := (((0 : Int32)).toInt64)) hx hb dL_timesAt_7 rfl ?_
  refine fb_jsC (n := 0) (wn := ([fb_o11 zb zt zn zv zs zp (zq 0) (zu 0) zh zst zre, fb_mw cI zq fb_s0 zw, fb_jw cJ zx 1 (vp_updL zg 0 (((0 : Int32)).toInt64))] : List va_W).flatten) X I 9 1 rfl rfl (by decide) (by decide) (Nat.le_of_ble_eq_true rfl) rfl dL_timesAt_8 (fun H locs I => ?_)
  refine lv_goto (tgt := 15) hx hb dL_timesAt_9 (by decide) ?_
  refine lv_iconst (v := (0 : Int32)) hx hb dL_timesAt_15 (by decide) ?_
  have I : fb_In D A s.heap (([fb_jw cJ zx 1 (vp_updL zg 0 (((0 : Int32)).toInt64))] : List va_W).flatten) H _ := fb_dropB (bs := [fb_o11 zb zt zn zv zs zp (zq 0) (zu 0) zh zst zre, fb_mw cI zq fb_s0 zw, fb_jw cJ zx 1 (vp_updL zg 0 (((0 : Int32)).toInt64))]) (bs' := [fb_jw cJ zx 1 (vp_updL zg 0 (((0 : Int32)).toInt64))]) (gs := [fb_o11 zb zt zn zv zs zp (zq 0) (zu 0) zh zst zre, fb_mw cI zq fb_s0 zw]) I 3 rfl [2, 0, 1] (by decide +kernel) rfl
  exact fb_retI (u := ()) X I rfl rfl dL_timesAt_16

set_option maxHeartbeats 4000000 in
set_option maxRecDepth 100000 in
theorem c_w_codeAt_in (l : Launch) (D : va_G) (cI cJ : ClassId) (zb : Nat) (zt : Nat) (zn : Nat) (zv : Nat) (zs : Nat) (zp : Nat) (zq : Nat → Nat) (zu : Nat → Nat) (zh : Nat) (zst : Nat) (zre : Nat) (zw : fb_AR) (zx : Nat) (zg : Nat → Int64) (zj : Nat) (sz : Nat) (hst : l.stackTraces = false) (hj : 0 ≤ zj ∧ zj ≤ 4095) : Met l yL_codeAt (Cond.codeWith yL_codeAt cL_codeAt 4 (some .int) [((0 : Nat), (9 : Nat), (12 : Nat), (19 : Nat))] :: fb_all) ({ frames := 3, cells := 0, slots := 0, locals := 66 } : Room) (fb_PP D (fb_ty D cI cJ) [.ref zb, .int (nI zj), .ref zx] (([fb_o11 zb zt zn zv zs zp (zq 0) (zu 0) zh zst zre, fb_mw cI zq fb_s0 zw, fb_jw cJ zx 1 zg] : List va_W).flatten) sz) (fb_QI D (va_A (([fb_o11 zb zt zn zv zs zp (zq 0) (zu 0) zh zst zre, fb_mw cI zq fb_s0 zw, fb_jw cJ zx 1 zg] : List va_W).flatten) sz) (fun (r : Int32) (_ : Unit) => r = (0 : Int32)) (fun (t : Unit) => ([fb_jw cJ zx 1 (vp_updL zg 0 (((0 : Int32)).toInt64))] : List va_W).flatten)) 0 0 (va_A (([fb_o11 zb zt zn zv zs zp (zq 0) (zu 0) zh zst zre, fb_mw cI zq fb_s0 zw, fb_jw cJ zx 1 zg] : List va_W).flatten) sz) := by
  refine fb_entW (Qf := fun A => (fb_QI D A (fun (r : Int32) (_ : Unit) => r = (0 : Int32)) (fun (t : Unit) => ([fb_jw cJ zx 1 (vp_updL zg 0 (((0 : Int32)).toInt64))] : List va_W).flatten))) (by decide +kernel) (Nat.le_of_ble_eq_true rfl) ?_
  intro p e s m args below meth c A ls X I hl hex
  obtain ⟨hx, hb, hr, hml, hown, hts, hlk, hA, hK, hF⟩ := id X
  have hl : lv_has ls 4 [(0, .ref zb), (1, .int (nI zj)), (2, .ref zx)] := hl
  refine lv_aload_n hx hb dL_codeAt_0 rfl (lv_at hl 2 rfl) ?_
  refine lv_iconst (v := (0 : Int32)) hx hb dL_codeAt_1 (by decide) ?_
  refine lv_aload_n hx hb dL_codeAt_2 rfl (lv_at hl 0 rfl) ?_
  refine lv_iload_n hx hb dL_codeAt_3 rfl (lv_at hl 1 rfl) ?_
  refine fb_gO (cs := [fb_o11 zb zt zn zv zs zp (zq 0) (zu 0) zh zst zre, fb_mw cI zq fb_s0 zw]) (rs := [fb_jw cJ zx 1 zg]) X I [0, 1, 2] 3 rfl (by decide +kernel) rfl rfl (fun I => fb_rV (As := [.int (nI zj)]) (rest := [.int (0 : Int32), .ref zx]) X hl (fb_goodV fw_1868 fw_1869 fw_1870 fw_191 fw_1871) (c_X11_codeAt l D cI cJ zb zt zn zv zs zp (zu 0) zh zst zre zq fb_s0 zw (nI zj) _ (na_in (by omega))) rfl rfl rfl (by decide +kernel : fb_hd yX11_codeAt 1) ⟨(Nat.le_of_ble_eq_true rfl), (Nat.le_of_ble_eq_true rfl)⟩ (rfl : vwCl[11]? = some _) rfl rfl rfl rfl (Nat.le_of_ble_eq_true rfl) ⟨(Nat.le_of_ble_eq_true rfl), (Nat.le_of_ble_eq_true rfl)⟩ dL_codeAt_4 I) ?_
  refine fb_tI (v := (0 : Int32)) (a_code _) ?_
  refine lv_i2l (v := (((0 : Int32)).toInt64)) hx hb dL_codeAt_7 rfl ?_
  refine fb_jsC (n := 0) (wn := ([fb_o11 zb zt zn zv zs zp (zq 0) (zu 0) zh zst zre, fb_mw cI zq fb_s0 zw, fb_jw cJ zx 1 (vp_updL zg 0 (((0 : Int32)).toInt64))] : List va_W).flatten) X I 9 1 rfl rfl (by decide) (by decide) (Nat.le_of_ble_eq_true rfl) rfl dL_codeAt_8 (fun H locs I => ?_)
  refine lv_goto (tgt := 15) hx hb dL_codeAt_9 (by decide) ?_
  refine lv_iconst (v := (0 : Int32)) hx hb dL_codeAt_15 (by decide) ?_
  have I : fb_In D A s.heap (([fb_jw cJ zx 1 (vp_updL zg 0 (((0 : Int32)).toInt64))] : List va_W).flatten) H _ := fb_dropB (bs := [fb_o11 zb zt zn zv zs zp (zq 0) (zu 0) zh zst zre, fb_mw cI zq fb_s0 zw, fb_jw cJ zx 1 (vp_updL zg 0 (((0 : Int32)).toInt64))]) (bs' := [fb_jw cJ zx 1 (vp_updL zg 0 (((0 : Int32)).toInt64))]) (gs := [fb_o11 zb zt zn zv zs zp (zq 0) (zu 0) zh zst zre, fb_mw cI zq fb_s0 zw]) I 3 rfl [2, 0, 1] (by decide +kernel) rfl
  exact fb_retI (u := ()) X I rfl rfl dL_codeAt_16

set_option maxHeartbeats 4000000 in
set_option maxRecDepth 100000 in
theorem c_w_lengthAt_in (l : Launch) (D : va_G) (cI cJ : ClassId) (zb : Nat) (zt : Nat) (zn : Nat) (zv : Nat) (zs : Nat) (zp : Nat) (zq : Nat → Nat) (zu : Nat → Nat) (zh : Nat) (zst : Nat) (zre : Nat) (zw : fb_AR) (zx : Nat) (zg : Nat → Int64) (zj : Nat) (sz : Nat) (hst : l.stackTraces = false) (hj : 0 ≤ zj ∧ zj ≤ 4095) : Met l yL_lengthAt (Cond.codeWith yL_lengthAt cL_lengthAt 4 (some .int) [((0 : Nat), (9 : Nat), (12 : Nat), (19 : Nat))] :: fb_all) ({ frames := 3, cells := 0, slots := 0, locals := 65 } : Room) (fb_PP D (fb_ty D cI cJ) [.ref zb, .int (nI zj), .ref zx] (([fb_o11 zb zt zn zv zs zp (zq 0) (zu 0) zh zst zre, fb_mw cI zq fb_s0 zw, fb_jw cJ zx 1 zg] : List va_W).flatten) sz) (fb_QI D (va_A (([fb_o11 zb zt zn zv zs zp (zq 0) (zu 0) zh zst zre, fb_mw cI zq fb_s0 zw, fb_jw cJ zx 1 zg] : List va_W).flatten) sz) (fun (r : Int32) (_ : Unit) => r = (0 : Int32)) (fun (t : Unit) => ([fb_jw cJ zx 1 (vp_updL zg 0 (((1 : Int32)).toInt64))] : List va_W).flatten)) 0 0 (va_A (([fb_o11 zb zt zn zv zs zp (zq 0) (zu 0) zh zst zre, fb_mw cI zq fb_s0 zw, fb_jw cJ zx 1 zg] : List va_W).flatten) sz) := by
  refine fb_entW (Qf := fun A => (fb_QI D A (fun (r : Int32) (_ : Unit) => r = (0 : Int32)) (fun (t : Unit) => ([fb_jw cJ zx 1 (vp_updL zg 0 (((1 : Int32)).toInt64))] : List va_W).flatten))) (by decide +kernel) (Nat.le_of_ble_eq_true rfl) ?_
  intro p e s m args below meth c A ls X I hl hex
  obtain ⟨hx, hb, hr, hml, hown, hts, hlk, hA, hK, hF⟩ := id X
  have hl : lv_has ls 4 [(0, .ref zb), (1, .int (nI zj)), (2, .ref zx)] := hl
  refine lv_aload_n hx hb dL_lengthAt_0 rfl (lv_at hl 2 rfl) ?_
  refine lv_iconst (v := (0 : Int32)) hx hb dL_lengthAt_1 (by decide) ?_
  refine lv_aload_n hx hb dL_lengthAt_2 rfl (lv_at hl 0 rfl) ?_
  refine lv_iload_n hx hb dL_lengthAt_3 rfl (lv_at hl 1 rfl) ?_
  refine fb_gO (cs := [fb_o11 zb zt zn zv zs zp (zq 0) (zu 0) zh zst zre, fb_mw cI zq fb_s0 zw]) (rs := [fb_jw cJ zx 1 zg]) X I [0, 1, 2] 3 rfl (by decide +kernel) rfl rfl (fun I => fb_rV (As := [.int (nI zj)]) (rest := [.int (0 : Int32), .ref zx]) X hl (fb_goodV fw_1876 fw_1877 fw_1878 fw_191 fw_1879) (c_X11_lengthAt l D cI cJ zb zt zn zv zs zp (zu 0) zh zst zre zq fb_s0 zw (nI zj) _ (na_in (by omega))) rfl rfl rfl (by decide +kernel : fb_hd yX11_lengthAt 1) ⟨(Nat.le_of_ble_eq_true rfl), (Nat.le_of_ble_eq_true rfl)⟩ (rfl : vwCl[11]? = some _) rfl rfl rfl rfl (Nat.le_of_ble_eq_true rfl) ⟨(Nat.le_of_ble_eq_true rfl), (Nat.le_of_ble_eq_true rfl)⟩ dL_lengthAt_4 I) ?_
  refine fb_tI (v := (1 : Int32)) (a_len _) ?_
  refine lv_i2l (v := (((1 : Int32)).toInt64)) hx hb dL_lengthAt_7 rfl ?_
  refine fb_jsC (n := 0) (wn := ([fb_o11 zb zt zn zv zs zp (zq 0) (zu 0) zh zst zre, fb_mw cI zq fb_s0 zw, fb_jw cJ zx 1 (vp_updL zg 0 (((1 : Int32)).toInt64))] : List va_W).flatten) X I 9 1 rfl rfl (by decide) (by decide) (Nat.le_of_ble_eq_true rfl) rfl dL_lengthAt_8 (fun H locs I => ?_)
  refine lv_goto (tgt := 15) hx hb dL_lengthAt_9 (by decide) ?_
  refine lv_iconst (v := (0 : Int32)) hx hb dL_lengthAt_15 (by decide) ?_
  have I : fb_In D A s.heap (([fb_jw cJ zx 1 (vp_updL zg 0 (((1 : Int32)).toInt64))] : List va_W).flatten) H _ := fb_dropB (bs := [fb_o11 zb zt zn zv zs zp (zq 0) (zu 0) zh zst zre, fb_mw cI zq fb_s0 zw, fb_jw cJ zx 1 (vp_updL zg 0 (((1 : Int32)).toInt64))]) (bs' := [fb_jw cJ zx 1 (vp_updL zg 0 (((1 : Int32)).toInt64))]) (gs := [fb_o11 zb zt zn zv zs zp (zq 0) (zu 0) zh zst zre, fb_mw cI zq fb_s0 zw]) I 3 rfl [2, 0, 1] (by decide +kernel) rfl
  exact fb_retI (u := ()) X I rfl rfl dL_lengthAt_16

set_option maxHeartbeats 4000000 in
set_option maxRecDepth 100000 in
theorem c_w_operandAt_in (l : Launch) (D : va_G) (cI cJ : ClassId) (zb : Nat) (zt : Nat) (zn : Nat) (zv : Nat) (zs : Nat) (zp : Nat) (zq : Nat → Nat) (zu : Nat → Nat) (zh : Nat) (zst : Nat) (zre : Nat) (zw : fb_AR) (zx : Nat) (zg : Nat → Int64) (zj : Nat) (sz : Nat) (hst : l.stackTraces = false) (hj : 0 ≤ zj ∧ zj ≤ 4095) : Met l yL_operandAt (Cond.codeWith yL_operandAt cL_operandAt 4 (some .int) [((0 : Nat), (9 : Nat), (12 : Nat), (19 : Nat))] :: fb_all) ({ frames := 5, cells := 0, slots := 0, locals := 107 } : Room) (fb_PP D (fb_ty D cI cJ) [.ref zb, .int (nI zj), .ref zx] (([fb_o11 zb zt zn zv zs zp (zq 0) (zu 0) zh zst zre, fb_mw cI zq fb_s0 zw, fb_jw cJ zx 1 zg] : List va_W).flatten) sz) (fb_QI D (va_A (([fb_o11 zb zt zn zv zs zp (zq 0) (zu 0) zh zst zre, fb_mw cI zq fb_s0 zw, fb_jw cJ zx 1 zg] : List va_W).flatten) sz) (fun (r : Int32) (_ : Unit) => r = (0 : Int32)) (fun (t : Unit) => ([fb_jw cJ zx 1 (vp_updL zg 0 (((-1 : Int32)).toInt64))] : List va_W).flatten)) 0 0 (va_A (([fb_o11 zb zt zn zv zs zp (zq 0) (zu 0) zh zst zre, fb_mw cI zq fb_s0 zw, fb_jw cJ zx 1 zg] : List va_W).flatten) sz) := by
  refine fb_entW (Qf := fun A => (fb_QI D A (fun (r : Int32) (_ : Unit) => r = (0 : Int32)) (fun (t : Unit) => ([fb_jw cJ zx 1 (vp_updL zg 0 (((-1 : Int32)).toInt64))] : List va_W).flatten))) (by decide +kernel) (Nat.le_of_ble_eq_true rfl) ?_
  intro p e s m args below meth c A ls X I hl hex
  obtain ⟨hx, hb, hr, hml, hown, hts, hlk, hA, hK, hF⟩ := id X
  have hl : lv_has ls 4 [(0, .ref zb), (1, .int (nI zj)), (2, .ref zx)] := hl
  refine lv_aload_n hx hb dL_operandAt_0 rfl (lv_at hl 2 rfl) ?_
  refine lv_iconst (v := (0 : Int32)) hx hb dL_operandAt_1 (by decide) ?_
  refine lv_aload_n hx hb dL_operandAt_2 rfl (lv_at hl 0 rfl) ?_
  refine lv_iload_n hx hb dL_operandAt_3 rfl (lv_at hl 1 rfl) ?_
  refine fb_gO (cs := [fb_o11 zb zt zn zv zs zp (zq 0) (zu 0) zh zst zre, fb_mw cI zq fb_s0 zw]) (rs := [fb_jw cJ zx 1 zg]) X I [0, 1, 2] 3 rfl (by decide +kernel) rfl rfl (fun I => fb_rV (As := [.int (nI zj)]) (rest := [.int (0 : Int32), .ref zx]) X hl (fb_goodV fw_1883 fw_1884 fw_1885 fw_191 fw_1886) (c_X11_operandAt l D cI cJ zb zt zn zv zs zp (zu 0) zh zst zre zq fb_s0 zw (nI zj) _ (na_in (by omega))) rfl rfl rfl (by decide +kernel : fb_hd yX11_operandAt 1) ⟨(Nat.le_of_ble_eq_true rfl), (Nat.le_of_ble_eq_true rfl)⟩ (rfl : vwCl[11]? = some _) rfl rfl rfl rfl (Nat.le_of_ble_eq_true rfl) ⟨(Nat.le_of_ble_eq_true rfl), (Nat.le_of_ble_eq_true rfl)⟩ dL_operandAt_4 I) ?_
  refine fb_tI (v := (-1 : Int32)) (a_opr _) ?_
  refine lv_i2l (v := (((-1 : Int32)).toInt64)) hx hb dL_operandAt_7 rfl ?_
  refine fb_jsC (n := 0) (wn := ([fb_o11 zb zt zn zv zs zp (zq 0) (zu 0) zh zst zre, fb_mw cI zq fb_s0 zw, fb_jw cJ zx 1 (vp_updL zg 0 (((-1 : Int32)).toInt64))] : List va_W).flatten) X I 9 1 rfl rfl (by decide) (by decide) (Nat.le_of_ble_eq_true rfl) rfl dL_operandAt_8 (fun H locs I => ?_)
  refine lv_goto (tgt := 15) hx hb dL_operandAt_9 (by decide) ?_
  refine lv_iconst (v := (0 : Int32)) hx hb dL_operandAt_15 (by decide) ?_
  have I : fb_In D A s.heap (([fb_jw cJ zx 1 (vp_updL zg 0 (((-1 : Int32)).toInt64))] : List va_W).flatten) H _ := fb_dropB (bs := [fb_o11 zb zt zn zv zs zp (zq 0) (zu 0) zh zst zre, fb_mw cI zq fb_s0 zw, fb_jw cJ zx 1 (vp_updL zg 0 (((-1 : Int32)).toInt64))]) (bs' := [fb_jw cJ zx 1 (vp_updL zg 0 (((-1 : Int32)).toInt64))]) (gs := [fb_o11 zb zt zn zv zs zp (zq 0) (zu 0) zh zst zre, fb_mw cI zq fb_s0 zw]) I 3 rfl [2, 0, 1] (by decide +kernel) rfl
  exact fb_retI (u := ()) X I rfl rfl dL_operandAt_16

set_option maxHeartbeats 4000000 in
set_option maxRecDepth 100000 in
theorem c_w_byteIn_in (l : Launch) (D : va_G) (cI cJ : ClassId) (zb : Nat) (zt : Nat) (zn : Nat) (zv : Nat) (zs : Nat) (zp : Nat) (zq : Nat → Nat) (zu : Nat → Nat) (zh : Nat) (zst : Nat) (zre : Nat) (zw : fb_AR) (zx : Nat) (zg : Nat → Int64) (zv9 : Nat) (zj : Nat) (sz : Nat) (hst : l.stackTraces = false) (hv : zv9 ≤ 7) (hj : zj ≤ 1023) : Met l yL_byteIn (Cond.codeWith yL_byteIn cL_byteIn 5 (some .int) [((0 : Nat), (10 : Nat), (13 : Nat), (24 : Nat)), ((0 : Nat), (10 : Nat), (17 : Nat), (19 : Nat))] :: fb_all) ({ frames := 2, cells := 0, slots := 0, locals := 62 } : Room) (fb_PP D (fb_ty D cI cJ) [.ref zb, .int (nI zv9), .int (nI zj), .ref zx] (([fb_o11 zb zt zn zv zs zp (zq 0) (zu 0) zh zst zre, fb_mw cI zq fb_s0 zw, fb_jw cJ zx 1 zg] : List va_W).flatten) sz) (fb_QI D (va_A (([fb_o11 zb zt zn zv zs zp (zq 0) (zu 0) zh zst zre, fb_mw cI zq fb_s0 zw, fb_jw cJ zx 1 zg] : List va_W).flatten) sz) (fun (r : Int32) (_ : Unit) => r = (0 : Int32)) (fun (t : Unit) => ([fb_jw cJ zx 1 (vp_updL zg 0 (((0 : Int32)).toInt64))] : List va_W).flatten)) 0 0 (va_A (([fb_o11 zb zt zn zv zs zp (zq 0) (zu 0) zh zst zre, fb_mw cI zq fb_s0 zw, fb_jw cJ zx 1 zg] : List va_W).flatten) sz) := by
  refine fb_entW (Qf := fun A => (fb_QI D A (fun (r : Int32) (_ : Unit) => r = (0 : Int32)) (fun (t : Unit) => ([fb_jw cJ zx 1 (vp_updL zg 0 (((0 : Int32)).toInt64))] : List va_W).flatten))) (by decide +kernel) (Nat.le_of_ble_eq_true rfl) ?_
  intro p e s m args below meth c A ls X I hl hex
  obtain ⟨hx, hb, hr, hml, hown, hts, hlk, hA, hK, hF⟩ := id X
  have hl : lv_has ls 5 [(0, .ref zb), (1, .int (nI zv9)), (2, .int (nI zj)), (3, .ref zx)] := hl
  refine lv_aload_n hx hb dL_byteIn_0 rfl (lv_at hl 3 rfl) ?_
  refine lv_iconst (v := (0 : Int32)) hx hb dL_byteIn_1 (by decide) ?_
  refine lv_aload_n hx hb dL_byteIn_2 rfl (lv_at hl 0 rfl) ?_
  refine lv_iload_n hx hb dL_byteIn_3 rfl (lv_at hl 1 rfl) ?_
  refine lv_iload_n hx hb dL_byteIn_4 rfl (lv_at hl 2 rfl) ?_
  refine fb_gO (cs := [fb_o11 zb zt zn zv zs zp (zq 0) (zu 0) zh zst zre, fb_mw cI zq fb_s0 zw]) (rs := [fb_jw cJ zx 1 zg]) X I [0, 1, 2] 3 rfl (by decide +kernel) rfl rfl (fun I => fb_rV (As := [.int (nI zv9), .int (nI zj)]) (rest := [.int (0 : Int32), .ref zx]) X hl (fb_goodV fw_1834 fw_1835 fw_1836 fw_191 fw_1837) (c_X11_byteIn l D cI cJ zb zt zn zv zs zp (zu 0) zh zst zre zq fb_s0 zw (nI zv9) (nI zj) _ (nI_pos (by omega)) (nI_lt (a := zv9) (b := 8) (by omega) (by omega)) (nI_pos (by omega)) (nI_lt (a := zj) (b := 1024) (by omega) (by omega))) rfl rfl rfl (by decide +kernel : fb_hd yX11_byteIn 2) ⟨(Nat.le_of_ble_eq_true rfl), (Nat.le_of_ble_eq_true rfl)⟩ (rfl : vwCl[11]? = some _) rfl rfl rfl rfl (Nat.le_of_ble_eq_true rfl) ⟨(Nat.le_of_ble_eq_true rfl), (Nat.le_of_ble_eq_true rfl)⟩ dL_byteIn_5 I) ?_
  refine fb_tI (v := (0 : Int32)) (a_byn _ _) ?_
  refine lv_i2l (v := (((0 : Int32)).toInt64)) hx hb dL_byteIn_8 rfl ?_
  refine fb_jsC (n := 0) (wn := ([fb_o11 zb zt zn zv zs zp (zq 0) (zu 0) zh zst zre, fb_mw cI zq fb_s0 zw, fb_jw cJ zx 1 (vp_updL zg 0 (((0 : Int32)).toInt64))] : List va_W).flatten) X I 9 1 rfl rfl (by decide) (by decide) (Nat.le_of_ble_eq_true rfl) rfl dL_byteIn_9 (fun H locs I => ?_)
  refine lv_goto (tgt := 21) hx hb dL_byteIn_10 (by decide) ?_
  refine lv_iconst (v := (0 : Int32)) hx hb dL_byteIn_21 (by decide) ?_
  have I : fb_In D A s.heap (([fb_jw cJ zx 1 (vp_updL zg 0 (((0 : Int32)).toInt64))] : List va_W).flatten) H _ := fb_dropB (bs := [fb_o11 zb zt zn zv zs zp (zq 0) (zu 0) zh zst zre, fb_mw cI zq fb_s0 zw, fb_jw cJ zx 1 (vp_updL zg 0 (((0 : Int32)).toInt64))]) (bs' := [fb_jw cJ zx 1 (vp_updL zg 0 (((0 : Int32)).toInt64))]) (gs := [fb_o11 zb zt zn zv zs zp (zq 0) (zu 0) zh zst zre, fb_mw cI zq fb_s0 zw]) I 3 rfl [2, 0, 1] (by decide +kernel) rfl
  exact fb_retI (u := ()) X I rfl rfl dL_byteIn_22

set_option maxHeartbeats 4000000 in
set_option maxRecDepth 100000 in
theorem c_w_cyclesToHalt_in (l : Launch) (D : va_G) (cI cJ : ClassId) (zb : Nat) (zt : Nat) (zn : Nat) (zv : Nat) (zs : Nat) (zp : Nat) (zq : Nat → Nat) (zu : Nat → Nat) (zh : Nat) (zst : Nat) (zre : Nat) (zw : fb_AR) (zx : Nat) (zg : Nat → Int64) (zN : Nat) (sz : Nat) (hst : l.stackTraces = false) (hN : 1 ≤ zN ∧ zN ≤ 5000) : Met l yL_cyclesToHalt (Cond.codeWith yL_cyclesToHalt cL_cyclesToHalt 4 (some .int) [((0 : Nat), (9 : Nat), (12 : Nat), (19 : Nat))] :: fb_all) ({ frames := 7, cells := 0, slots := 0, locals := 176 } : Room) (fb_PP D (fb_ty D cI cJ) [.ref zb, .int (nI zN), .ref zx] (([fb_o11 zb zt zn zv zs zp (zq 0) (zu 0) zh zst zre, fb_mw cI zq fb_s0 zw, fb_mw cI zu fb_m0 (fun _ => 0), fb_jw cJ zx 1 zg] : List va_W).flatten) sz) (fb_QI D (va_A (([fb_o11 zb zt zn zv zs zp (zq 0) (zu 0) zh zst zre, fb_mw cI zq fb_s0 zw, fb_mw cI zu fb_m0 (fun _ => 0), fb_jw cJ zx 1 zg] : List va_W).flatten) sz) (fun (r : Int32) (_ : Unit) => r = (0 : Int32)) (fun (t : Unit) => ([fb_jw cJ zx 1 (vp_updL zg 0 (((-1 : Int32)).toInt64))] : List va_W).flatten)) 0 0 (va_A (([fb_o11 zb zt zn zv zs zp (zq 0) (zu 0) zh zst zre, fb_mw cI zq fb_s0 zw, fb_mw cI zu fb_m0 (fun _ => 0), fb_jw cJ zx 1 zg] : List va_W).flatten) sz) := by
  refine fb_entW (Qf := fun A => (fb_QI D A (fun (r : Int32) (_ : Unit) => r = (0 : Int32)) (fun (t : Unit) => ([fb_jw cJ zx 1 (vp_updL zg 0 (((-1 : Int32)).toInt64))] : List va_W).flatten))) (by decide +kernel) (Nat.le_of_ble_eq_true rfl) ?_
  intro p e s m args below meth c A ls X I hl hex
  obtain ⟨hx, hb, hr, hml, hown, hts, hlk, hA, hK, hF⟩ := id X
  have hl : lv_has ls 4 [(0, .ref zb), (1, .int (nI zN)), (2, .ref zx)] := hl
  refine lv_aload_n hx hb dL_cyclesToHalt_0 rfl (lv_at hl 2 rfl) ?_
  refine lv_iconst (v := (0 : Int32)) hx hb dL_cyclesToHalt_1 (by decide) ?_
  refine lv_aload_n hx hb dL_cyclesToHalt_2 rfl (lv_at hl 0 rfl) ?_
  refine lv_iload_n hx hb dL_cyclesToHalt_3 rfl (lv_at hl 1 rfl) ?_
  refine fb_gIx (cs := [fb_o11 zb zt zn zv zs zp (zq 0) (zu 0) zh zst zre, fb_mw cI zq fb_s0 zw, fb_mw cI zu fb_m0 (fun _ => 0)]) (rs := [fb_jw cJ zx 1 zg]) X I [0, 1, 2, 3] 4 rfl (by decide +kernel) rfl rfl (fun I => fb_rV (As := [.int (nI zN)]) (rest := [.int (0 : Int32), .ref zx]) X hl (fb_goodV fw_1891 fw_1892 fw_1893 fw_191 fw_1894) (c_X11_cyclesToHalt l D cI cJ zb zt zn zv zs zp zh zst zre zq fb_s0 zw zu fb_m0 (fun _ => 0) (nI zN) _ (ns_in hN)) rfl rfl rfl (by decide +kernel : fb_hd yX11_cyclesToHalt 1) ⟨(Nat.le_of_ble_eq_true rfl), (Nat.le_of_ble_eq_true rfl)⟩ (rfl : vwCl[11]? = some _) rfl rfl rfl rfl (Nat.le_of_ble_eq_true rfl) ⟨(Nat.le_of_ble_eq_true rfl), (Nat.le_of_ble_eq_true rfl)⟩ dL_cyclesToHalt_4 I) ?_
  intro r u H locs e0 I
  have e0 : r = (-1 : Int32) := e0.trans (a_cth _ hN.2)
  subst e0
  refine lv_i2l (v := (((-1 : Int32)).toInt64)) hx hb dL_cyclesToHalt_7 rfl ?_
  refine fb_jsC (n := 0) (wn := ([fb_jw cJ zx 1 (vp_updL zg 0 (((-1 : Int32)).toInt64))] : List va_W).flatten) X I 0 1 rfl rfl (by decide) (by decide) (Nat.le_of_ble_eq_true rfl) rfl dL_cyclesToHalt_8 (fun H locs I => ?_)
  refine lv_goto (tgt := 15) hx hb dL_cyclesToHalt_9 (by decide) ?_
  refine lv_iconst (v := (0 : Int32)) hx hb dL_cyclesToHalt_15 (by decide) ?_
  exact fb_retI (u := ()) X I rfl rfl dL_cyclesToHalt_16

set_option maxHeartbeats 4000000 in
set_option maxRecDepth 100000 in
theorem c_w_outputsIn_in (l : Launch) (D : va_G) (cI cJ : ClassId) (zb : Nat) (zt : Nat) (zn : Nat) (zv : Nat) (zs : Nat) (zp : Nat) (zq : Nat → Nat) (zu : Nat → Nat) (zh : Nat) (zst : Nat) (zre : Nat) (zw : fb_AR) (zx : Nat) (zg : Nat → Int64) (zN : Nat) (sz : Nat) (hst : l.stackTraces = false) (hN : 1 ≤ zN ∧ zN ≤ 5000) : Met l yL_outputsIn (Cond.codeWith yL_outputsIn cL_outputsIn 4 (some .int) [((0 : Nat), (9 : Nat), (12 : Nat), (19 : Nat))] :: fb_all) ({ frames := 7, cells := 0, slots := 0, locals := 176 } : Room) (fb_PP D (fb_ty D cI cJ) [.ref zb, .int (nI zN), .ref zx] (([fb_o11 zb zt zn zv zs zp (zq 0) (zu 0) zh zst zre, fb_mw cI zq fb_s0 zw, fb_mw cI zu fb_m0 (fun _ => 0), fb_jw cJ zx 1 zg] : List va_W).flatten) sz) (fb_QI D (va_A (([fb_o11 zb zt zn zv zs zp (zq 0) (zu 0) zh zst zre, fb_mw cI zq fb_s0 zw, fb_mw cI zu fb_m0 (fun _ => 0), fb_jw cJ zx 1 zg] : List va_W).flatten) sz) (fun (r : Int32) (_ : Unit) => r = (0 : Int32)) (fun (t : Unit) => ([fb_jw cJ zx 1 (vp_updL zg 0 (((0 : Int32)).toInt64))] : List va_W).flatten)) 0 0 (va_A (([fb_o11 zb zt zn zv zs zp (zq 0) (zu 0) zh zst zre, fb_mw cI zq fb_s0 zw, fb_mw cI zu fb_m0 (fun _ => 0), fb_jw cJ zx 1 zg] : List va_W).flatten) sz) := by
  refine fb_entW (Qf := fun A => (fb_QI D A (fun (r : Int32) (_ : Unit) => r = (0 : Int32)) (fun (t : Unit) => ([fb_jw cJ zx 1 (vp_updL zg 0 (((0 : Int32)).toInt64))] : List va_W).flatten))) (by decide +kernel) (Nat.le_of_ble_eq_true rfl) ?_
  intro p e s m args below meth c A ls X I hl hex
  obtain ⟨hx, hb, hr, hml, hown, hts, hlk, hA, hK, hF⟩ := id X
  have hl : lv_has ls 4 [(0, .ref zb), (1, .int (nI zN)), (2, .ref zx)] := hl
  refine lv_aload_n hx hb dL_outputsIn_0 rfl (lv_at hl 2 rfl) ?_
  refine lv_iconst (v := (0 : Int32)) hx hb dL_outputsIn_1 (by decide) ?_
  refine lv_aload_n hx hb dL_outputsIn_2 rfl (lv_at hl 0 rfl) ?_
  refine lv_iload_n hx hb dL_outputsIn_3 rfl (lv_at hl 1 rfl) ?_
  refine fb_gIx (cs := [fb_o11 zb zt zn zv zs zp (zq 0) (zu 0) zh zst zre, fb_mw cI zq fb_s0 zw, fb_mw cI zu fb_m0 (fun _ => 0)]) (rs := [fb_jw cJ zx 1 zg]) X I [0, 1, 2, 3] 4 rfl (by decide +kernel) rfl rfl (fun I => fb_rV (As := [.int (nI zN)]) (rest := [.int (0 : Int32), .ref zx]) X hl (fb_goodV fw_1911 fw_1912 fw_1913 fw_191 fw_1914) (c_X11_outputsIn l D cI cJ zb zt zn zv zs zp zh zst zre zq fb_s0 zw zu fb_m0 (fun _ => 0) (nI zN) _ (ns_in hN)) rfl rfl rfl (by decide +kernel : fb_hd yX11_outputsIn 1) ⟨(Nat.le_of_ble_eq_true rfl), (Nat.le_of_ble_eq_true rfl)⟩ (rfl : vwCl[11]? = some _) rfl rfl rfl rfl (Nat.le_of_ble_eq_true rfl) ⟨(Nat.le_of_ble_eq_true rfl), (Nat.le_of_ble_eq_true rfl)⟩ dL_outputsIn_4 I) ?_
  intro r u H locs e0 I
  have e0 : r = (0 : Int32) := e0.trans (a_out _ hN.2)
  subst e0
  refine lv_i2l (v := (((0 : Int32)).toInt64)) hx hb dL_outputsIn_7 rfl ?_
  refine fb_jsC (n := 0) (wn := ([fb_jw cJ zx 1 (vp_updL zg 0 (((0 : Int32)).toInt64))] : List va_W).flatten) X I 0 1 rfl rfl (by decide) (by decide) (Nat.le_of_ble_eq_true rfl) rfl dL_outputsIn_8 (fun H locs I => ?_)
  refine lv_goto (tgt := 15) hx hb dL_outputsIn_9 (by decide) ?_
  refine lv_iconst (v := (0 : Int32)) hx hb dL_outputsIn_15 (by decide) ?_
  exact fb_retI (u := ()) X I rfl rfl dL_outputsIn_16

set_option maxHeartbeats 4000000 in
set_option maxRecDepth 100000 in
theorem c_w_cyclesToReach_y (l : Launch) (D : va_G) (cI cJ : ClassId) (zb : Nat) (zt : Nat) (zn : Nat) (zv : Nat) (zs : Nat) (zp : Nat) (zq : Nat → Nat) (zu : Nat → Nat) (zh : Nat) (zst : Nat) (zre : Nat) (zw : fb_AR) (zx : Nat) (zg : Nat → Int64) (zj : Nat) (zN : Nat) (sz : Nat) (hst : l.stackTraces = false) (hj : zj < 4096) (hN : 1 ≤ zN ∧ zN ≤ 5000) (hz : zj ≤ zN) : Met l yL_cyclesToReach (Cond.codeWith yL_cyclesToReach cL_cyclesToReach 5 (some .int) [((0 : Nat), (10 : Nat), (13 : Nat), (19 : Nat))] :: fb_all) ({ frames := 7, cells := 0, slots := 0, locals := 178 } : Room) (fb_PP D (fb_ty D cI cJ) [.ref zb, .int (nI zj), .int (nI zN), .ref zx] (([fb_o11 zb zt zn zv zs zp (zq 0) (zu 0) zh zst zre, fb_mw cI zq fb_s0 zw, fb_mw cI zu fb_m0 (fun _ => 0), fb_jw cJ zx 1 zg] : List va_W).flatten) sz) (fb_QI D (va_A (([fb_o11 zb zt zn zv zs zp (zq 0) (zu 0) zh zst zre, fb_mw cI zq fb_s0 zw, fb_mw cI zu fb_m0 (fun _ => 0), fb_jw cJ zx 1 zg] : List va_W).flatten) sz) (fun (r : Int32) (_ : Unit) => r = (0 : Int32)) (fun (t : Unit) => ([fb_jw cJ zx 1 (vp_updL zg 0 (((nI zj)).toInt64))] : List va_W).flatten)) 0 0 (va_A (([fb_o11 zb zt zn zv zs zp (zq 0) (zu 0) zh zst zre, fb_mw cI zq fb_s0 zw, fb_mw cI zu fb_m0 (fun _ => 0), fb_jw cJ zx 1 zg] : List va_W).flatten) sz) := by
  refine fb_entW (Qf := fun A => (fb_QI D A (fun (r : Int32) (_ : Unit) => r = (0 : Int32)) (fun (t : Unit) => ([fb_jw cJ zx 1 (vp_updL zg 0 (((nI zj)).toInt64))] : List va_W).flatten))) (by decide +kernel) (Nat.le_of_ble_eq_true rfl) ?_
  intro p e s m args below meth c A ls X I hl hex
  obtain ⟨hx, hb, hr, hml, hown, hts, hlk, hA, hK, hF⟩ := id X
  have hl : lv_has ls 5 [(0, .ref zb), (1, .int (nI zj)), (2, .int (nI zN)), (3, .ref zx)] := hl
  refine lv_aload_n hx hb dL_cyclesToReach_0 rfl (lv_at hl 3 rfl) ?_
  refine lv_iconst (v := (0 : Int32)) hx hb dL_cyclesToReach_1 (by decide) ?_
  refine lv_aload_n hx hb dL_cyclesToReach_2 rfl (lv_at hl 0 rfl) ?_
  refine lv_iload_n hx hb dL_cyclesToReach_3 rfl (lv_at hl 1 rfl) ?_
  refine lv_iload_n hx hb dL_cyclesToReach_4 rfl (lv_at hl 2 rfl) ?_
  refine fb_gIx (cs := [fb_o11 zb zt zn zv zs zp (zq 0) (zu 0) zh zst zre, fb_mw cI zq fb_s0 zw, fb_mw cI zu fb_m0 (fun _ => 0)]) (rs := [fb_jw cJ zx 1 zg]) X I [0, 1, 2, 3] 4 rfl (by decide +kernel) rfl rfl (fun I => fb_rV (As := [.int (nI zj), .int (nI zN)]) (rest := [.int (0 : Int32), .ref zx]) X hl (fb_goodV fw_1899 fw_1900 fw_1901 fw_191 fw_1902) (c_X11_cyclesToReach l D cI cJ zb zt zn zv zs zp zh zst zre zq fb_s0 zw zu fb_m0 (fun _ => 0) (nI zj) (nI zN) _ (na_in (by omega)) (ns_in hN)) rfl rfl rfl (by decide +kernel : fb_hd yX11_cyclesToReach 2) ⟨(Nat.le_of_ble_eq_true rfl), (Nat.le_of_ble_eq_true rfl)⟩ (rfl : vwCl[11]? = some _) rfl rfl rfl rfl (Nat.le_of_ble_eq_true rfl) ⟨(Nat.le_of_ble_eq_true rfl), (Nat.le_of_ble_eq_true rfl)⟩ dL_cyclesToReach_5 I) ?_
  intro r u H locs e0 I
  have e0 : r = (nI zj) := e0.trans ((a_rch _ hN.2 hj).trans (if_pos hz))
  subst e0
  refine lv_i2l (v := (((nI zj)).toInt64)) hx hb dL_cyclesToReach_8 rfl ?_
  refine fb_jsC (n := 0) (wn := ([fb_jw cJ zx 1 (vp_updL zg 0 (((nI zj)).toInt64))] : List va_W).flatten) X I 0 1 rfl rfl (by decide) (by decide) (Nat.le_of_ble_eq_true rfl) rfl dL_cyclesToReach_9 (fun H locs I => ?_)
  refine lv_goto (tgt := 17) hx hb dL_cyclesToReach_10 (by decide) ?_
  refine lv_iconst (v := (0 : Int32)) hx hb dL_cyclesToReach_17 (by decide) ?_
  exact fb_retI (u := ()) X I rfl rfl dL_cyclesToReach_18

set_option maxHeartbeats 4000000 in
set_option maxRecDepth 100000 in
theorem c_w_cyclesToReach_n (l : Launch) (D : va_G) (cI cJ : ClassId) (zb : Nat) (zt : Nat) (zn : Nat) (zv : Nat) (zs : Nat) (zp : Nat) (zq : Nat → Nat) (zu : Nat → Nat) (zh : Nat) (zst : Nat) (zre : Nat) (zw : fb_AR) (zx : Nat) (zg : Nat → Int64) (zj : Nat) (zN : Nat) (sz : Nat) (hst : l.stackTraces = false) (hj : zj < 4096) (hN : 1 ≤ zN ∧ zN ≤ 5000) (hz : zN < zj) : Met l yL_cyclesToReach (Cond.codeWith yL_cyclesToReach cL_cyclesToReach 5 (some .int) [((0 : Nat), (10 : Nat), (13 : Nat), (19 : Nat))] :: fb_all) ({ frames := 7, cells := 0, slots := 0, locals := 178 } : Room) (fb_PP D (fb_ty D cI cJ) [.ref zb, .int (nI zj), .int (nI zN), .ref zx] (([fb_o11 zb zt zn zv zs zp (zq 0) (zu 0) zh zst zre, fb_mw cI zq fb_s0 zw, fb_mw cI zu fb_m0 (fun _ => 0), fb_jw cJ zx 1 zg] : List va_W).flatten) sz) (fb_QI D (va_A (([fb_o11 zb zt zn zv zs zp (zq 0) (zu 0) zh zst zre, fb_mw cI zq fb_s0 zw, fb_mw cI zu fb_m0 (fun _ => 0), fb_jw cJ zx 1 zg] : List va_W).flatten) sz) (fun (r : Int32) (_ : Unit) => r = (0 : Int32)) (fun (t : Unit) => ([fb_jw cJ zx 1 (vp_updL zg 0 (((-1 : Int32)).toInt64))] : List va_W).flatten)) 0 0 (va_A (([fb_o11 zb zt zn zv zs zp (zq 0) (zu 0) zh zst zre, fb_mw cI zq fb_s0 zw, fb_mw cI zu fb_m0 (fun _ => 0), fb_jw cJ zx 1 zg] : List va_W).flatten) sz) := by
  refine fb_entW (Qf := fun A => (fb_QI D A (fun (r : Int32) (_ : Unit) => r = (0 : Int32)) (fun (t : Unit) => ([fb_jw cJ zx 1 (vp_updL zg 0 (((-1 : Int32)).toInt64))] : List va_W).flatten))) (by decide +kernel) (Nat.le_of_ble_eq_true rfl) ?_
  intro p e s m args below meth c A ls X I hl hex
  obtain ⟨hx, hb, hr, hml, hown, hts, hlk, hA, hK, hF⟩ := id X
  have hl : lv_has ls 5 [(0, .ref zb), (1, .int (nI zj)), (2, .int (nI zN)), (3, .ref zx)] := hl
  refine lv_aload_n hx hb dL_cyclesToReach_0 rfl (lv_at hl 3 rfl) ?_
  refine lv_iconst (v := (0 : Int32)) hx hb dL_cyclesToReach_1 (by decide) ?_
  refine lv_aload_n hx hb dL_cyclesToReach_2 rfl (lv_at hl 0 rfl) ?_
  refine lv_iload_n hx hb dL_cyclesToReach_3 rfl (lv_at hl 1 rfl) ?_
  refine lv_iload_n hx hb dL_cyclesToReach_4 rfl (lv_at hl 2 rfl) ?_
  refine fb_gIx (cs := [fb_o11 zb zt zn zv zs zp (zq 0) (zu 0) zh zst zre, fb_mw cI zq fb_s0 zw, fb_mw cI zu fb_m0 (fun _ => 0)]) (rs := [fb_jw cJ zx 1 zg]) X I [0, 1, 2, 3] 4 rfl (by decide +kernel) rfl rfl (fun I => fb_rV (As := [.int (nI zj), .int (nI zN)]) (rest := [.int (0 : Int32), .ref zx]) X hl (fb_goodV fw_1899 fw_1900 fw_1901 fw_191 fw_1902) (c_X11_cyclesToReach l D cI cJ zb zt zn zv zs zp zh zst zre zq fb_s0 zw zu fb_m0 (fun _ => 0) (nI zj) (nI zN) _ (na_in (by omega)) (ns_in hN)) rfl rfl rfl (by decide +kernel : fb_hd yX11_cyclesToReach 2) ⟨(Nat.le_of_ble_eq_true rfl), (Nat.le_of_ble_eq_true rfl)⟩ (rfl : vwCl[11]? = some _) rfl rfl rfl rfl (Nat.le_of_ble_eq_true rfl) ⟨(Nat.le_of_ble_eq_true rfl), (Nat.le_of_ble_eq_true rfl)⟩ dL_cyclesToReach_5 I) ?_
  intro r u H locs e0 I
  have e0 : r = (-1 : Int32) := e0.trans ((a_rch _ hN.2 hj).trans (if_neg (by omega)))
  subst e0
  refine lv_i2l (v := (((-1 : Int32)).toInt64)) hx hb dL_cyclesToReach_8 rfl ?_
  refine fb_jsC (n := 0) (wn := ([fb_jw cJ zx 1 (vp_updL zg 0 (((-1 : Int32)).toInt64))] : List va_W).flatten) X I 0 1 rfl rfl (by decide) (by decide) (Nat.le_of_ble_eq_true rfl) rfl dL_cyclesToReach_9 (fun H locs I => ?_)
  refine lv_goto (tgt := 17) hx hb dL_cyclesToReach_10 (by decide) ?_
  refine lv_iconst (v := (0 : Int32)) hx hb dL_cyclesToReach_17 (by decide) ?_
  exact fb_retI (u := ()) X I rfl rfl dL_cyclesToReach_18

set_option maxHeartbeats 4000000 in
set_option maxRecDepth 100000 in
theorem c_w_writesIn_in (l : Launch) (D : va_G) (cI cJ : ClassId) (zb : Nat) (zt : Nat) (zn : Nat) (zv : Nat) (zs : Nat) (zp : Nat) (zq : Nat → Nat) (zu : Nat → Nat) (zh : Nat) (zst : Nat) (zre : Nat) (zw : fb_AR) (zx : Nat) (zg : Nat → Int64) (zj : Nat) (zN : Nat) (sz : Nat) (hst : l.stackTraces = false) (hj : zj < 4096) (hN : 1 ≤ zN ∧ zN ≤ 5000) : Met l yL_writesIn (Cond.codeWith yL_writesIn cL_writesIn 5 (some .int) [((0 : Nat), (10 : Nat), (13 : Nat), (19 : Nat))] :: fb_all) ({ frames := 7, cells := 0, slots := 0, locals := 178 } : Room) (fb_PP D (fb_ty D cI cJ) [.ref zb, .int (nI zj), .int (nI zN), .ref zx] (([fb_o11 zb zt zn zv zs zp (zq 0) (zu 0) zh zst zre, fb_mw cI zq fb_s0 zw, fb_mw cI zu fb_m0 (fun _ => 0), fb_jw cJ zx 1 zg] : List va_W).flatten) sz) (fb_QI D (va_A (([fb_o11 zb zt zn zv zs zp (zq 0) (zu 0) zh zst zre, fb_mw cI zq fb_s0 zw, fb_mw cI zu fb_m0 (fun _ => 0), fb_jw cJ zx 1 zg] : List va_W).flatten) sz) (fun (r : Int32) (_ : Unit) => r = (0 : Int32)) (fun (t : Unit) => ([fb_jw cJ zx 1 (vp_updL zg 0 (((0 : Int32)).toInt64))] : List va_W).flatten)) 0 0 (va_A (([fb_o11 zb zt zn zv zs zp (zq 0) (zu 0) zh zst zre, fb_mw cI zq fb_s0 zw, fb_mw cI zu fb_m0 (fun _ => 0), fb_jw cJ zx 1 zg] : List va_W).flatten) sz) := by
  refine fb_entW (Qf := fun A => (fb_QI D A (fun (r : Int32) (_ : Unit) => r = (0 : Int32)) (fun (t : Unit) => ([fb_jw cJ zx 1 (vp_updL zg 0 (((0 : Int32)).toInt64))] : List va_W).flatten))) (by decide +kernel) (Nat.le_of_ble_eq_true rfl) ?_
  intro p e s m args below meth c A ls X I hl hex
  obtain ⟨hx, hb, hr, hml, hown, hts, hlk, hA, hK, hF⟩ := id X
  have hl : lv_has ls 5 [(0, .ref zb), (1, .int (nI zj)), (2, .int (nI zN)), (3, .ref zx)] := hl
  refine lv_aload_n hx hb dL_writesIn_0 rfl (lv_at hl 3 rfl) ?_
  refine lv_iconst (v := (0 : Int32)) hx hb dL_writesIn_1 (by decide) ?_
  refine lv_aload_n hx hb dL_writesIn_2 rfl (lv_at hl 0 rfl) ?_
  refine lv_iload_n hx hb dL_writesIn_3 rfl (lv_at hl 1 rfl) ?_
  refine lv_iload_n hx hb dL_writesIn_4 rfl (lv_at hl 2 rfl) ?_
  refine fb_gIx (cs := [fb_o11 zb zt zn zv zs zp (zq 0) (zu 0) zh zst zre, fb_mw cI zq fb_s0 zw, fb_mw cI zu fb_m0 (fun _ => 0)]) (rs := [fb_jw cJ zx 1 zg]) X I [0, 1, 2, 3] 4 rfl (by decide +kernel) rfl rfl (fun I => fb_rV (As := [.int (nI zj), .int (nI zN)]) (rest := [.int (0 : Int32), .ref zx]) X hl (fb_goodV fw_1918 fw_1919 fw_1920 fw_191 fw_1921) (c_X11_writesIn l D cI cJ zb zt zn zv zs zp zh zst zre zq fb_s0 zw zu fb_m0 (fun _ => 0) (nI zj) (nI zN) _ (na_in (by omega)) (ns_in hN) fb_nq nq_step (nq_0 _)) rfl rfl rfl (by decide +kernel : fb_hd yX11_writesIn 2) ⟨(Nat.le_of_ble_eq_true rfl), (Nat.le_of_ble_eq_true rfl)⟩ (rfl : vwCl[11]? = some _) rfl rfl rfl rfl (Nat.le_of_ble_eq_true rfl) ⟨(Nat.le_of_ble_eq_true rfl), (Nat.le_of_ble_eq_true rfl)⟩ dL_writesIn_5 I) ?_
  intro r u H locs e0 I
  have e0 : r = (0 : Int32) := e0.trans (a_wri _ _ hN.2)
  subst e0
  refine lv_i2l (v := (((0 : Int32)).toInt64)) hx hb dL_writesIn_8 rfl ?_
  refine fb_jsC (n := 0) (wn := ([fb_jw cJ zx 1 (vp_updL zg 0 (((0 : Int32)).toInt64))] : List va_W).flatten) X I 0 1 rfl rfl (by decide) (by decide) (Nat.le_of_ble_eq_true rfl) rfl dL_writesIn_9 (fun H locs I => ?_)
  refine lv_goto (tgt := 17) hx hb dL_writesIn_10 (by decide) ?_
  refine lv_iconst (v := (0 : Int32)) hx hb dL_writesIn_17 (by decide) ?_
  exact fb_retI (u := ()) X I rfl rfl dL_writesIn_18

set_option maxHeartbeats 4000000 in
set_option maxRecDepth 100000 in
theorem c_w_isCode_in (l : Launch) (D : va_G) (cI cJ : ClassId) (zb : Nat) (zt : Nat) (zn : Nat) (zv : Nat) (zs : Nat) (zp : Nat) (zq : Nat → Nat) (zu : Nat → Nat) (zh : Nat) (zst : Nat) (zre : Nat) (zw : fb_AR) (zac : Nat) (zab : Nat) (zao : Nat) (zx : Nat) (zg : Nat → Int64) (zj : Nat) (sz : Nat) (hst : l.stackTraces = false) (hj : zj < 4096) : Met l yL_isCode (Cond.codeWith yL_isCode cL_isCode 4 (some .int) [((0 : Nat), (16 : Nat), (19 : Nat), (19 : Nat))] :: fb_all) ({ frames := 7, cells := 0, slots := 0, locals := 156 } : Room) (fb_PP D (fb_ty D cI cJ) [.ref zb, .int (nI zj), .ref zx] (([fb_o11 zb zt zn zv zs zp (zq 0) (zu 0) zh zst zre, fb_mw cI zq fb_s0 zw, fb_o6 zre zac zab zao (fun _ => 0), fb_aw cI zac 4096 (fun _ => 0), fb_aw cI zab 4096 (fun _ => 0), fb_aw cI zao 4096 (fun _ => 0), fb_jw cJ zx 1 zg] : List va_W).flatten) sz) (fb_QI D (va_A (([fb_o11 zb zt zn zv zs zp (zq 0) (zu 0) zh zst zre, fb_mw cI zq fb_s0 zw, fb_o6 zre zac zab zao (fun _ => 0), fb_aw cI zac 4096 (fun _ => 0), fb_aw cI zab 4096 (fun _ => 0), fb_aw cI zao 4096 (fun _ => 0), fb_jw cJ zx 1 zg] : List va_W).flatten) sz) (fun (r : Int32) (_ : Unit) => r = (0 : Int32)) (fun (t : Unit) => ([fb_jw cJ zx 1 (vp_updL zg 0 (1 : Int64))] : List va_W).flatten)) 0 0 (va_A (([fb_o11 zb zt zn zv zs zp (zq 0) (zu 0) zh zst zre, fb_mw cI zq fb_s0 zw, fb_o6 zre zac zab zao (fun _ => 0), fb_aw cI zac 4096 (fun _ => 0), fb_aw cI zab 4096 (fun _ => 0), fb_aw cI zao 4096 (fun _ => 0), fb_jw cJ zx 1 zg] : List va_W).flatten) sz) := by
  refine fb_entW (Qf := fun A => (fb_QI D A (fun (r : Int32) (_ : Unit) => r = (0 : Int32)) (fun (t : Unit) => ([fb_jw cJ zx 1 (vp_updL zg 0 (1 : Int64))] : List va_W).flatten))) (by decide +kernel) (Nat.le_of_ble_eq_true rfl) ?_
  intro p e s m args below meth c A ls X I hl hex
  obtain ⟨hx, hb, hr, hml, hown, hts, hlk, hA, hK, hF⟩ := id X
  have hl : lv_has ls 4 [(0, .ref zb), (1, .int (nI zj)), (2, .ref zx)] := hl
  refine lv_aload_n hx hb dL_isCode_0 rfl (lv_at hl 2 rfl) ?_
  refine lv_iconst (v := (0 : Int32)) hx hb dL_isCode_1 (by decide) ?_
  refine lv_aload_n hx hb dL_isCode_2 rfl (lv_at hl 0 rfl) ?_
  refine lv_iload_n hx hb dL_isCode_3 rfl (lv_at hl 1 rfl) ?_
  refine fb_gIx (cs := [fb_o11 zb zt zn zv zs zp (zq 0) (zu 0) zh zst zre, fb_mw cI zq fb_s0 zw, fb_o6 zre zac zab zao (fun _ => 0), fb_aw cI zac 4096 (fun _ => 0), fb_aw cI zab 4096 (fun _ => 0), fb_aw cI zao 4096 (fun _ => 0)]) (rs := [fb_jw cJ zx 1 zg]) X I [0, 1, 2, 3, 4, 5, 6] 7 rfl (by decide +kernel) rfl rfl (fun I => fb_rV (As := [.int (nI zj)]) (rest := [.int (0 : Int32), .ref zx]) X hl (fb_goodV fw_1929 fw_1930 fw_1931 fw_191 fw_1932) (c_X11_isCode l D cI cJ zb zt zn zv zs zp (zu 0) zh zst zre zq fb_s0 zw zac zab zao (fun _ => 0) (fun _ => 0) (fun _ => 0) (fun _ => 0) (nI zj) _ (na_in (by omega))) rfl rfl rfl (by decide +kernel : fb_hd yX11_isCode 1) ⟨(Nat.le_of_ble_eq_true rfl), (Nat.le_of_ble_eq_true rfl)⟩ (rfl : vwCl[11]? = some _) rfl rfl rfl rfl (Nat.le_of_ble_eq_true rfl) ⟨(Nat.le_of_ble_eq_true rfl), (Nat.le_of_ble_eq_true rfl)⟩ dL_isCode_4 I) ?_
  intro r u H locs e0 I
  have e0 : r = (1 : Int32) := e0.trans (a_isCode _ _ _ _ hj)
  subst e0
  refine lv_if_eq (tgt := 14) hx hb dL_isCode_7 (by decide) (fun c1 => absurd c1 (by decide)) (fun _ => ?_)
  refine lv_lconst (v := (1 : Int64)) hx hb dL_isCode_10 (by decide) ?_
  refine lv_goto (tgt := 15) hx hb dL_isCode_11 (by decide) ?_
  refine fb_jsC (n := 0) (wn := ([fb_jw cJ zx 1 (vp_updL zg 0 (1 : Int64))] : List va_W).flatten) X I 0 1 rfl rfl (by decide) (by decide) (Nat.le_of_ble_eq_true rfl) rfl dL_isCode_15 (fun H locs I => ?_)
  refine lv_goto (tgt := 22) hx hb dL_isCode_16 (by decide) ?_
  refine lv_iconst (v := (0 : Int32)) hx hb dL_isCode_22 (by decide) ?_
  exact fb_retI (u := ()) X I rfl rfl dL_isCode_23

set_option maxHeartbeats 4000000 in
set_option maxRecDepth 100000 in
theorem c_w_trim_a (l : Launch) (D : va_G) (cI cJ : ClassId) (zb : Nat) (zt : Nat) (zn : Nat) (zv : Nat) (zs : Nat) (zp : Nat) (zq : Nat → Nat) (zu : Nat → Nat) (zh : Nat) (zst : Nat) (zre : Nat) (zx : Nat) (zg : Nat → Int64) (l1 : Int32) (sz : Nat) (hst : l.stackTraces = false) (h0 : l1 < 0) : Met l yL_trim (Cond.codeWith yL_trim cL_trim 4 (some .int) [((0 : Nat), (9 : Nat), (12 : Nat), (19 : Nat))] :: fb_all) ({ frames := 7, cells := 1, slots := 6, locals := 103 } : Room) (fb_PP D (fb_ty D cI cJ) [.ref zb, .int l1, .ref zx] (([fb_o11 zb zt zn zv zs zp (zq 0) (zu 0) zh zst zre, fb_jw cJ zx 1 zg] : List va_W).flatten) sz) (fb_QI D (va_A (([fb_o11 zb zt zn zv zs zp (zq 0) (zu 0) zh zst zre, fb_jw cJ zx 1 zg] : List va_W).flatten) sz) (fun (r : Int32) (_ : Unit) => r = (1 : Int32)) (fun (t : Unit) => ([fb_jw cJ zx 1 zg] : List va_W).flatten)) 1 6 (va_A (([fb_o11 zb zt zn zv zs zp (zq 0) (zu 0) zh zst zre, fb_jw cJ zx 1 zg] : List va_W).flatten) sz) := by
  refine fb_entW (Qf := fun A => (fb_QI D A (fun (r : Int32) (_ : Unit) => r = (1 : Int32)) (fun (t : Unit) => ([fb_jw cJ zx 1 zg] : List va_W).flatten))) (by decide +kernel) (Nat.le_of_ble_eq_true rfl) ?_
  intro p e s m args below meth c A ls X I hl hex
  obtain ⟨hx, hb, hr, hml, hown, hts, hlk, hA, hK, hF⟩ := id X
  have hl : lv_has ls 4 [(0, .ref zb), (1, .int l1), (2, .ref zx)] := hl
  refine lv_aload_n hx hb dL_trim_0 rfl (lv_at hl 2 rfl) ?_
  refine lv_iconst (v := (0 : Int32)) hx hb dL_trim_1 (by decide) ?_
  refine lv_aload_n hx hb dL_trim_2 rfl (lv_at hl 0 rfl) ?_
  refine lv_iload_n hx hb dL_trim_3 rfl (lv_at hl 1 rfl) ?_
  refine fb_gX (As := [.int l1]) (rest := [.int (0 : Int32), .ref zx]) (E := "java/lang/IllegalArgumentException") (cs := [fb_o11 zb zt zn zv zs zp (zq 0) (zu 0) zh zst zre]) (rs := [fb_jw cJ zx 1 zg]) X hl I [0, 1] 2 rfl (by decide +kernel) rfl rfl (fb_goodV fw_1666 fw_1667 fw_1668 fw_191 fw_1669) (x_trim_a l D cI cJ zb zt zn zv zs zp (zq 0) (zu 0) zh zst zre l1 _ hst h0) rfl rfl rfl (by decide +kernel : fb_hd yX11_trim 1) ⟨(Nat.le_of_ble_eq_true rfl), (Nat.le_of_ble_eq_true rfl)⟩ (rfl : vwCl[11]? = some _) rfl rfl rfl rfl (Nat.le_of_ble_eq_true rfl) ⟨(Nat.le_of_ble_eq_true rfl), (Nat.le_of_ble_eq_true rfl)⟩ dL_trim_4 ?_
  intro ce q9 H locs I h1 h2 h3
  refine vx_catch hown [] (⟨0, 9, 12, 19⟩ : ExceptionTableEntry) [] (hex.trans rfl) (fun z hz => by cases hz) rfl (by decide) (hts _ fw_1665) (fb_nxC X (List.mem_of_getElem? (i := 1) rfl)) h1 h2 h3 ?_
  refine lv_astore_n (lv' := [(3, .ref q9), (0, .ref zb), (1, .int l1), (2, .ref zx)]) hx hb dL_trim_12 rfl hl (by decide) rfl (fun ls hl => ?_)
  refine lv_iconst (v := (1 : Int32)) hx hb dL_trim_13 (by decide) ?_
  refine W.widen (k := 1) (n := 6) (by omega) (by omega) ?_
  exact fb_retI (u := ()) X I rfl rfl dL_trim_14

set_option maxHeartbeats 4000000 in
set_option maxRecDepth 100000 in
theorem c_w_trim_b (l : Launch) (D : va_G) (cI cJ : ClassId) (zb : Nat) (zt : Nat) (zn : Nat) (zv : Nat) (zs : Nat) (zp : Nat) (zq : Nat → Nat) (zu : Nat → Nat) (zh : Nat) (zst : Nat) (zre : Nat) (zt0 : Nat) (zt2 : Nat) (zt3 : Nat) (zt4 : Nat) (zx : Nat) (zg : Nat → Int64) (l1 : Int32) (sz : Nat) (hst : l.stackTraces = false) (h0 : ¬ l1 < 0) (h1 : ¬ l1 ≤ (0 : Int32)) : Met l yL_trim (Cond.codeWith yL_trim cL_trim 4 (some .int) [((0 : Nat), (9 : Nat), (12 : Nat), (19 : Nat))] :: fb_all) ({ frames := 7, cells := 1, slots := 6, locals := 103 } : Room) (fb_PP D (fb_ty D cI cJ) [.ref zb, .int l1, .ref zx] (([fb_o11 zb zt zn zv zs zp (zq 0) (zu 0) zh zst zre, fb_o9 zt zt0 zt2 zt3 zt4 (fun _ => 0), fb_jw cJ zx 1 zg] : List va_W).flatten) sz) (fb_QI D (va_A (([fb_o11 zb zt zn zv zs zp (zq 0) (zu 0) zh zst zre, fb_o9 zt zt0 zt2 zt3 zt4 (fun _ => 0), fb_jw cJ zx 1 zg] : List va_W).flatten) sz) (fun (r : Int32) (_ : Unit) => r = (1 : Int32)) (fun (t : Unit) => ([fb_jw cJ zx 1 zg] : List va_W).flatten)) 1 6 (va_A (([fb_o11 zb zt zn zv zs zp (zq 0) (zu 0) zh zst zre, fb_o9 zt zt0 zt2 zt3 zt4 (fun _ => 0), fb_jw cJ zx 1 zg] : List va_W).flatten) sz) := by
  refine fb_entW (Qf := fun A => (fb_QI D A (fun (r : Int32) (_ : Unit) => r = (1 : Int32)) (fun (t : Unit) => ([fb_jw cJ zx 1 zg] : List va_W).flatten))) (by decide +kernel) (Nat.le_of_ble_eq_true rfl) ?_
  intro p e s m args below meth c A ls X I hl hex
  obtain ⟨hx, hb, hr, hml, hown, hts, hlk, hA, hK, hF⟩ := id X
  have hl : lv_has ls 4 [(0, .ref zb), (1, .int l1), (2, .ref zx)] := hl
  refine lv_aload_n hx hb dL_trim_0 rfl (lv_at hl 2 rfl) ?_
  refine lv_iconst (v := (0 : Int32)) hx hb dL_trim_1 (by decide) ?_
  refine lv_aload_n hx hb dL_trim_2 rfl (lv_at hl 0 rfl) ?_
  refine lv_iload_n hx hb dL_trim_3 rfl (lv_at hl 1 rfl) ?_
  refine fb_gX (As := [.int l1]) (rest := [.int (0 : Int32), .ref zx]) (E := "java/lang/IllegalArgumentException") (cs := [fb_o11 zb zt zn zv zs zp (zq 0) (zu 0) zh zst zre, fb_o9 zt zt0 zt2 zt3 zt4 (fun _ => 0)]) (rs := [fb_jw cJ zx 1 zg]) X hl I [0, 1, 2] 3 rfl (by decide +kernel) rfl rfl (fb_goodV fw_1666 fw_1667 fw_1668 fw_191 fw_1669) (x_trim_b l D cI cJ zb zn zv zs zp (zq 0) (zu 0) zh zst zre l1 zt zt0 zt2 zt3 zt4 _ hst h0 h1) rfl rfl rfl (by decide +kernel : fb_hd yX11_trim 1) ⟨(Nat.le_of_ble_eq_true rfl), (Nat.le_of_ble_eq_true rfl)⟩ (rfl : vwCl[11]? = some _) rfl rfl rfl rfl (Nat.le_of_ble_eq_true rfl) ⟨(Nat.le_of_ble_eq_true rfl), (Nat.le_of_ble_eq_true rfl)⟩ dL_trim_4 ?_
  intro ce q9 H locs I h1 h2 h3
  refine vx_catch hown [] (⟨0, 9, 12, 19⟩ : ExceptionTableEntry) [] (hex.trans rfl) (fun z hz => by cases hz) rfl (by decide) (hts _ fw_1665) (fb_nxC X (List.mem_of_getElem? (i := 1) rfl)) h1 h2 h3 ?_
  refine lv_astore_n (lv' := [(3, .ref q9), (0, .ref zb), (1, .int l1), (2, .ref zx)]) hx hb dL_trim_12 rfl hl (by decide) rfl (fun ls hl => ?_)
  refine lv_iconst (v := (1 : Int32)) hx hb dL_trim_13 (by decide) ?_
  refine W.widen (k := 1) (n := 6) (by omega) (by omega) ?_
  exact fb_retI (u := ()) X I rfl rfl dL_trim_14

set_option maxHeartbeats 4000000 in
set_option maxRecDepth 100000 in
theorem c_w_valueOf_a (l : Launch) (D : va_G) (cI cJ : ClassId) (zb : Nat) (zt : Nat) (zn : Nat) (zv : Nat) (zs : Nat) (zp : Nat) (zq : Nat → Nat) (zu : Nat → Nat) (zh : Nat) (zst : Nat) (zre : Nat) (zx : Nat) (zg : Nat → Int64) (l1 : Int32) (sz : Nat) (hst : l.stackTraces = false) (h0 : l1 < 0) : Met l yL_valueOf (Cond.codeWith yL_valueOf cL_valueOf 4 (some .int) [((0 : Nat), (9 : Nat), (12 : Nat), (24 : Nat))] :: fb_all) ({ frames := 7, cells := 1, slots := 6, locals := 103 } : Room) (fb_PP D (fb_ty D cI cJ) [.ref zb, .int l1, .ref zx] (([fb_o11 zb zt zn zv zs zp (zq 0) (zu 0) zh zst zre, fb_jw cJ zx 1 zg] : List va_W).flatten) sz) (fb_QI D (va_A (([fb_o11 zb zt zn zv zs zp (zq 0) (zu 0) zh zst zre, fb_jw cJ zx 1 zg] : List va_W).flatten) sz) (fun (r : Int32) (_ : Unit) => r = (1 : Int32)) (fun (t : Unit) => ([fb_jw cJ zx 1 zg] : List va_W).flatten)) 1 6 (va_A (([fb_o11 zb zt zn zv zs zp (zq 0) (zu 0) zh zst zre, fb_jw cJ zx 1 zg] : List va_W).flatten) sz) := by
  refine fb_entW (Qf := fun A => (fb_QI D A (fun (r : Int32) (_ : Unit) => r = (1 : Int32)) (fun (t : Unit) => ([fb_jw cJ zx 1 zg] : List va_W).flatten))) (by decide +kernel) (Nat.le_of_ble_eq_true rfl) ?_
  intro p e s m args below meth c A ls X I hl hex
  obtain ⟨hx, hb, hr, hml, hown, hts, hlk, hA, hK, hF⟩ := id X
  have hl : lv_has ls 4 [(0, .ref zb), (1, .int l1), (2, .ref zx)] := hl
  refine lv_aload_n hx hb dL_valueOf_0 rfl (lv_at hl 2 rfl) ?_
  refine lv_iconst (v := (0 : Int32)) hx hb dL_valueOf_1 (by decide) ?_
  refine lv_aload_n hx hb dL_valueOf_2 rfl (lv_at hl 0 rfl) ?_
  refine lv_iload_n hx hb dL_valueOf_3 rfl (lv_at hl 1 rfl) ?_
  refine fb_gX (As := [.int l1]) (rest := [.int (0 : Int32), .ref zx]) (E := "java/lang/IndexOutOfBoundsException") (cs := [fb_o11 zb zt zn zv zs zp (zq 0) (zu 0) zh zst zre]) (rs := [fb_jw cJ zx 1 zg]) X hl I [0, 1] 2 rfl (by decide +kernel) rfl rfl (fb_goodV fw_1690 fw_1691 fw_1692 fw_191 fw_1693) (x_valueOf_a l D cI cJ zb zt zn zv zs zp (zq 0) (zu 0) zh zst zre l1 _ hst h0) rfl rfl rfl (by decide +kernel : fb_hd yX11_valueOf 1) ⟨(Nat.le_of_ble_eq_true rfl), (Nat.le_of_ble_eq_true rfl)⟩ (rfl : vwCl[11]? = some _) rfl rfl rfl rfl (Nat.le_of_ble_eq_true rfl) ⟨(Nat.le_of_ble_eq_true rfl), (Nat.le_of_ble_eq_true rfl)⟩ dL_valueOf_4 ?_
  intro ce q9 H locs I h1 h2 h3
  refine vx_catch hown [] (⟨0, 9, 12, 24⟩ : ExceptionTableEntry) [] (hex.trans rfl) (fun z hz => by cases hz) rfl (by decide) (hts _ fw_1689) (fb_nxC X (List.mem_of_getElem? (i := 2) rfl)) h1 h2 h3 ?_
  refine lv_astore_n (lv' := [(3, .ref q9), (0, .ref zb), (1, .int l1), (2, .ref zx)]) hx hb dL_valueOf_12 rfl hl (by decide) rfl (fun ls hl => ?_)
  refine lv_iconst (v := (1 : Int32)) hx hb dL_valueOf_13 (by decide) ?_
  refine W.widen (k := 1) (n := 6) (by omega) (by omega) ?_
  exact fb_retI (u := ()) X I rfl rfl dL_valueOf_14

set_option maxHeartbeats 4000000 in
set_option maxRecDepth 100000 in
theorem c_w_valueOf_b (l : Launch) (D : va_G) (cI cJ : ClassId) (zb : Nat) (zt : Nat) (zn : Nat) (zv : Nat) (zs : Nat) (zp : Nat) (zq : Nat → Nat) (zu : Nat → Nat) (zh : Nat) (zst : Nat) (zre : Nat) (zn0 : Nat) (zn1 : Nat) (zn3 : Nat) (zx : Nat) (zg : Nat → Int64) (l1 : Int32) (sz : Nat) (hst : l.stackTraces = false) (h0 : ¬ l1 < 0) (h1 : (0 : Int32) ≤ l1) : Met l yL_valueOf (Cond.codeWith yL_valueOf cL_valueOf 4 (some .int) [((0 : Nat), (9 : Nat), (12 : Nat), (24 : Nat))] :: fb_all) ({ frames := 7, cells := 1, slots := 6, locals := 103 } : Room) (fb_PP D (fb_ty D cI cJ) [.ref zb, .int l1, .ref zx] (([fb_o11 zb zt zn zv zs zp (zq 0) (zu 0) zh zst zre, fb_o3 zn zn0 zn1 zn3 (fun _ => 0), fb_jw cJ zx 1 zg] : List va_W).flatten) sz) (fb_QI D (va_A (([fb_o11 zb zt zn zv zs zp (zq 0) (zu 0) zh zst zre, fb_o3 zn zn0 zn1 zn3 (fun _ => 0), fb_jw cJ zx 1 zg] : List va_W).flatten) sz) (fun (r : Int32) (_ : Unit) => r = (1 : Int32)) (fun (t : Unit) => ([fb_jw cJ zx 1 zg] : List va_W).flatten)) 1 6 (va_A (([fb_o11 zb zt zn zv zs zp (zq 0) (zu 0) zh zst zre, fb_o3 zn zn0 zn1 zn3 (fun _ => 0), fb_jw cJ zx 1 zg] : List va_W).flatten) sz) := by
  refine fb_entW (Qf := fun A => (fb_QI D A (fun (r : Int32) (_ : Unit) => r = (1 : Int32)) (fun (t : Unit) => ([fb_jw cJ zx 1 zg] : List va_W).flatten))) (by decide +kernel) (Nat.le_of_ble_eq_true rfl) ?_
  intro p e s m args below meth c A ls X I hl hex
  obtain ⟨hx, hb, hr, hml, hown, hts, hlk, hA, hK, hF⟩ := id X
  have hl : lv_has ls 4 [(0, .ref zb), (1, .int l1), (2, .ref zx)] := hl
  refine lv_aload_n hx hb dL_valueOf_0 rfl (lv_at hl 2 rfl) ?_
  refine lv_iconst (v := (0 : Int32)) hx hb dL_valueOf_1 (by decide) ?_
  refine lv_aload_n hx hb dL_valueOf_2 rfl (lv_at hl 0 rfl) ?_
  refine lv_iload_n hx hb dL_valueOf_3 rfl (lv_at hl 1 rfl) ?_
  refine fb_gX (As := [.int l1]) (rest := [.int (0 : Int32), .ref zx]) (E := "java/lang/IndexOutOfBoundsException") (cs := [fb_o11 zb zt zn zv zs zp (zq 0) (zu 0) zh zst zre, fb_o3 zn zn0 zn1 zn3 (fun _ => 0)]) (rs := [fb_jw cJ zx 1 zg]) X hl I [0, 1, 2] 3 rfl (by decide +kernel) rfl rfl (fb_goodV fw_1690 fw_1691 fw_1692 fw_191 fw_1693) (x_valueOf_b l D cI cJ zb zt zv zs zp (zq 0) (zu 0) zh zst zre l1 zn zn0 zn1 zn3 _ hst h0 h1) rfl rfl rfl (by decide +kernel : fb_hd yX11_valueOf 1) ⟨(Nat.le_of_ble_eq_true rfl), (Nat.le_of_ble_eq_true rfl)⟩ (rfl : vwCl[11]? = some _) rfl rfl rfl rfl (Nat.le_of_ble_eq_true rfl) ⟨(Nat.le_of_ble_eq_true rfl), (Nat.le_of_ble_eq_true rfl)⟩ dL_valueOf_4 ?_
  intro ce q9 H locs I h1 h2 h3
  refine vx_catch hown [] (⟨0, 9, 12, 24⟩ : ExceptionTableEntry) [] (hex.trans rfl) (fun z hz => by cases hz) rfl (by decide) (hts _ fw_1689) (fb_nxC X (List.mem_of_getElem? (i := 2) rfl)) h1 h2 h3 ?_
  refine lv_astore_n (lv' := [(3, .ref q9), (0, .ref zb), (1, .int l1), (2, .ref zx)]) hx hb dL_valueOf_12 rfl hl (by decide) rfl (fun ls hl => ?_)
  refine lv_iconst (v := (1 : Int32)) hx hb dL_valueOf_13 (by decide) ?_
  refine W.widen (k := 1) (n := 6) (by omega) (by omega) ?_
  exact fb_retI (u := ()) X I rfl rfl dL_valueOf_14

set_option maxHeartbeats 4000000 in
set_option maxRecDepth 100000 in
theorem c_w_nameNear_o (l : Launch) (D : va_G) (cI cJ : ClassId) (zb : Nat) (zt : Nat) (zn : Nat) (zv : Nat) (zs : Nat) (zp : Nat) (zq : Nat → Nat) (zu : Nat → Nat) (zh : Nat) (zst : Nat) (zre : Nat) (zx : Nat) (zg : Nat → Int64) (l1 : Int32) (sz : Nat) (hst : l.stackTraces = false) (gA : f_X11_isNoAddress l1 = (1 : Int32)) : Met l yL_nameNear (Cond.codeWith yL_nameNear cL_nameNear 4 (some .int) [((0 : Nat), (9 : Nat), (12 : Nat), (19 : Nat))] :: fb_all) ({ frames := 7, cells := 1, slots := 6, locals := 103 } : Room) (fb_PP D (fb_ty D cI cJ) [.ref zb, .int l1, .ref zx] (([fb_o11 zb zt zn zv zs zp (zq 0) (zu 0) zh zst zre, fb_jw cJ zx 1 zg] : List va_W).flatten) sz) (fb_QI D (va_A (([fb_o11 zb zt zn zv zs zp (zq 0) (zu 0) zh zst zre, fb_jw cJ zx 1 zg] : List va_W).flatten) sz) (fun (r : Int32) (_ : Unit) => r = (1 : Int32)) (fun (t : Unit) => ([fb_jw cJ zx 1 zg] : List va_W).flatten)) 1 6 (va_A (([fb_o11 zb zt zn zv zs zp (zq 0) (zu 0) zh zst zre, fb_jw cJ zx 1 zg] : List va_W).flatten) sz) := by
  refine fb_entW (Qf := fun A => (fb_QI D A (fun (r : Int32) (_ : Unit) => r = (1 : Int32)) (fun (t : Unit) => ([fb_jw cJ zx 1 zg] : List va_W).flatten))) (by decide +kernel) (Nat.le_of_ble_eq_true rfl) ?_
  intro p e s m args below meth c A ls X I hl hex
  obtain ⟨hx, hb, hr, hml, hown, hts, hlk, hA, hK, hF⟩ := id X
  have hl : lv_has ls 4 [(0, .ref zb), (1, .int l1), (2, .ref zx)] := hl
  refine lv_aload_n hx hb dL_nameNear_0 rfl (lv_at hl 2 rfl) ?_
  refine lv_iconst (v := (0 : Int32)) hx hb dL_nameNear_1 (by decide) ?_
  refine lv_aload_n hx hb dL_nameNear_2 rfl (lv_at hl 0 rfl) ?_
  refine lv_iload_n hx hb dL_nameNear_3 rfl (lv_at hl 1 rfl) ?_
  refine fb_gX (As := [.int l1]) (rest := [.int (0 : Int32), .ref zx]) (E := "java/lang/IllegalArgumentException") (cs := [fb_o11 zb zt zn zv zs zp (zq 0) (zu 0) zh zst zre]) (rs := [fb_jw cJ zx 1 zg]) X hl I [0, 1] 2 rfl (by decide +kernel) rfl rfl (fb_goodV fw_1713 fw_1714 fw_1715 fw_191 fw_1716) (x_nameNear_o l D cI cJ zb zt zn zv zs zp (zq 0) (zu 0) zh zst zre l1 _ hst gA) rfl rfl rfl (by decide +kernel : fb_hd yX11_nameNear 1) ⟨(Nat.le_of_ble_eq_true rfl), (Nat.le_of_ble_eq_true rfl)⟩ (rfl : vwCl[11]? = some _) rfl rfl rfl rfl (Nat.le_of_ble_eq_true rfl) ⟨(Nat.le_of_ble_eq_true rfl), (Nat.le_of_ble_eq_true rfl)⟩ dL_nameNear_4 ?_
  intro ce q9 H locs I h1 h2 h3
  refine vx_catch hown [] (⟨0, 9, 12, 19⟩ : ExceptionTableEntry) [] (hex.trans rfl) (fun z hz => by cases hz) rfl (by decide) (hts _ fw_1665) (fb_nxC X (List.mem_of_getElem? (i := 1) rfl)) h1 h2 h3 ?_
  refine lv_astore_n (lv' := [(3, .ref q9), (0, .ref zb), (1, .int l1), (2, .ref zx)]) hx hb dL_nameNear_12 rfl hl (by decide) rfl (fun ls hl => ?_)
  refine lv_iconst (v := (1 : Int32)) hx hb dL_nameNear_13 (by decide) ?_
  refine W.widen (k := 1) (n := 6) (by omega) (by omega) ?_
  exact fb_retI (u := ()) X I rfl rfl dL_nameNear_14

set_option maxHeartbeats 4000000 in
set_option maxRecDepth 100000 in
theorem c_w_lineOf_o (l : Launch) (D : va_G) (cI cJ : ClassId) (zb : Nat) (zt : Nat) (zn : Nat) (zv : Nat) (zs : Nat) (zp : Nat) (zq : Nat → Nat) (zu : Nat → Nat) (zh : Nat) (zst : Nat) (zre : Nat) (zx : Nat) (zg : Nat → Int64) (l1 : Int32) (sz : Nat) (hst : l.stackTraces = false) (gA : f_X11_isNoAddress l1 = (1 : Int32)) : Met l yL_lineOf (Cond.codeWith yL_lineOf cL_lineOf 4 (some .int) [((0 : Nat), (9 : Nat), (12 : Nat), (19 : Nat))] :: fb_all) ({ frames := 7, cells := 1, slots := 6, locals := 104 } : Room) (fb_PP D (fb_ty D cI cJ) [.ref zb, .int l1, .ref zx] (([fb_o11 zb zt zn zv zs zp (zq 0) (zu 0) zh zst zre, fb_jw cJ zx 1 zg] : List va_W).flatten) sz) (fb_QI D (va_A (([fb_o11 zb zt zn zv zs zp (zq 0) (zu 0) zh zst zre, fb_jw cJ zx 1 zg] : List va_W).flatten) sz) (fun (r : Int32) (_ : Unit) => r = (1 : Int32)) (fun (t : Unit) => ([fb_jw cJ zx 1 zg] : List va_W).flatten)) 1 6 (va_A (([fb_o11 zb zt zn zv zs zp (zq 0) (zu 0) zh zst zre, fb_jw cJ zx 1 zg] : List va_W).flatten) sz) := by
  refine fb_entW (Qf := fun A => (fb_QI D A (fun (r : Int32) (_ : Unit) => r = (1 : Int32)) (fun (t : Unit) => ([fb_jw cJ zx 1 zg] : List va_W).flatten))) (by decide +kernel) (Nat.le_of_ble_eq_true rfl) ?_
  intro p e s m args below meth c A ls X I hl hex
  obtain ⟨hx, hb, hr, hml, hown, hts, hlk, hA, hK, hF⟩ := id X
  have hl : lv_has ls 4 [(0, .ref zb), (1, .int l1), (2, .ref zx)] := hl
  refine lv_aload_n hx hb dL_lineOf_0 rfl (lv_at hl 2 rfl) ?_
  refine lv_iconst (v := (0 : Int32)) hx hb dL_lineOf_1 (by decide) ?_
  refine lv_aload_n hx hb dL_lineOf_2 rfl (lv_at hl 0 rfl) ?_
  refine lv_iload_n hx hb dL_lineOf_3 rfl (lv_at hl 1 rfl) ?_
  refine fb_gX (As := [.int l1]) (rest := [.int (0 : Int32), .ref zx]) (E := "java/lang/IllegalArgumentException") (cs := [fb_o11 zb zt zn zv zs zp (zq 0) (zu 0) zh zst zre]) (rs := [fb_jw cJ zx 1 zg]) X hl I [0, 1] 2 rfl (by decide +kernel) rfl rfl (fb_goodV fw_1728 fw_1729 fw_1730 fw_191 fw_1731) (x_lineOf_o l D cI cJ zb zt zn zv zs zp (zq 0) (zu 0) zh zst zre l1 _ hst gA) rfl rfl rfl (by decide +kernel : fb_hd yX11_lineOf 1) ⟨(Nat.le_of_ble_eq_true rfl), (Nat.le_of_ble_eq_true rfl)⟩ (rfl : vwCl[11]? = some _) rfl rfl rfl rfl (Nat.le_of_ble_eq_true rfl) ⟨(Nat.le_of_ble_eq_true rfl), (Nat.le_of_ble_eq_true rfl)⟩ dL_lineOf_4 ?_
  intro ce q9 H locs I h1 h2 h3
  refine vx_catch hown [] (⟨0, 9, 12, 19⟩ : ExceptionTableEntry) [] (hex.trans rfl) (fun z hz => by cases hz) rfl (by decide) (hts _ fw_1665) (fb_nxC X (List.mem_of_getElem? (i := 1) rfl)) h1 h2 h3 ?_
  refine lv_astore_n (lv' := [(3, .ref q9), (0, .ref zb), (1, .int l1), (2, .ref zx)]) hx hb dL_lineOf_12 rfl hl (by decide) rfl (fun ls hl => ?_)
  refine lv_iconst (v := (1 : Int32)) hx hb dL_lineOf_13 (by decide) ?_
  refine W.widen (k := 1) (n := 6) (by omega) (by omega) ?_
  exact fb_retI (u := ()) X I rfl rfl dL_lineOf_14

set_option maxHeartbeats 4000000 in
set_option maxRecDepth 100000 in
theorem c_w_byteAt_o (l : Launch) (D : va_G) (cI cJ : ClassId) (zb : Nat) (zt : Nat) (zn : Nat) (zv : Nat) (zs : Nat) (zp : Nat) (zq : Nat → Nat) (zu : Nat → Nat) (zh : Nat) (zst : Nat) (zre : Nat) (zx : Nat) (zg : Nat → Int64) (l1 : Int32) (sz : Nat) (hst : l.stackTraces = false) (gA : f_X11_isNoAddress l1 = (1 : Int32)) : Met l yL_byteAt (Cond.codeWith yL_byteAt cL_byteAt 4 (some .int) [((0 : Nat), (9 : Nat), (12 : Nat), (19 : Nat))] :: fb_all) ({ frames := 7, cells := 1, slots := 6, locals := 103 } : Room) (fb_PP D (fb_ty D cI cJ) [.ref zb, .int l1, .ref zx] (([fb_o11 zb zt zn zv zs zp (zq 0) (zu 0) zh zst zre, fb_jw cJ zx 1 zg] : List va_W).flatten) sz) (fb_QI D (va_A (([fb_o11 zb zt zn zv zs zp (zq 0) (zu 0) zh zst zre, fb_jw cJ zx 1 zg] : List va_W).flatten) sz) (fun (r : Int32) (_ : Unit) => r = (1 : Int32)) (fun (t : Unit) => ([fb_jw cJ zx 1 zg] : List va_W).flatten)) 1 6 (va_A (([fb_o11 zb zt zn zv zs zp (zq 0) (zu 0) zh zst zre, fb_jw cJ zx 1 zg] : List va_W).flatten) sz) := by
  refine fb_entW (Qf := fun A => (fb_QI D A (fun (r : Int32) (_ : Unit) => r = (1 : Int32)) (fun (t : Unit) => ([fb_jw cJ zx 1 zg] : List va_W).flatten))) (by decide +kernel) (Nat.le_of_ble_eq_true rfl) ?_
  intro p e s m args below meth c A ls X I hl hex
  obtain ⟨hx, hb, hr, hml, hown, hts, hlk, hA, hK, hF⟩ := id X
  have hl : lv_has ls 4 [(0, .ref zb), (1, .int l1), (2, .ref zx)] := hl
  refine lv_aload_n hx hb dL_byteAt_0 rfl (lv_at hl 2 rfl) ?_
  refine lv_iconst (v := (0 : Int32)) hx hb dL_byteAt_1 (by decide) ?_
  refine lv_aload_n hx hb dL_byteAt_2 rfl (lv_at hl 0 rfl) ?_
  refine lv_iload_n hx hb dL_byteAt_3 rfl (lv_at hl 1 rfl) ?_
  refine fb_gX (As := [.int l1]) (rest := [.int (0 : Int32), .ref zx]) (E := "java/lang/IllegalArgumentException") (cs := [fb_o11 zb zt zn zv zs zp (zq 0) (zu 0) zh zst zre]) (rs := [fb_jw cJ zx 1 zg]) X hl I [0, 1] 2 rfl (by decide +kernel) rfl rfl (fb_goodV fw_1826 fw_1827 fw_1828 fw_191 fw_1829) (x_byteAt_o l D cI cJ zb zt zn zv zs zp (zq 0) (zu 0) zh zst zre l1 _ hst gA) rfl rfl rfl (by decide +kernel : fb_hd yX11_byteAt 1) ⟨(Nat.le_of_ble_eq_true rfl), (Nat.le_of_ble_eq_true rfl)⟩ (rfl : vwCl[11]? = some _) rfl rfl rfl rfl (Nat.le_of_ble_eq_true rfl) ⟨(Nat.le_of_ble_eq_true rfl), (Nat.le_of_ble_eq_true rfl)⟩ dL_byteAt_4 ?_
  intro ce q9 H locs I h1 h2 h3
  refine vx_catch hown [] (⟨0, 9, 12, 19⟩ : ExceptionTableEntry) [] (hex.trans rfl) (fun z hz => by cases hz) rfl (by decide) (hts _ fw_1665) (fb_nxC X (List.mem_of_getElem? (i := 1) rfl)) h1 h2 h3 ?_
  refine lv_astore_n (lv' := [(3, .ref q9), (0, .ref zb), (1, .int l1), (2, .ref zx)]) hx hb dL_byteAt_12 rfl hl (by decide) rfl (fun ls hl => ?_)
  refine lv_iconst (v := (1 : Int32)) hx hb dL_byteAt_13 (by decide) ?_
  refine W.widen (k := 1) (n := 6) (by omega) (by omega) ?_
  exact fb_retI (u := ()) X I rfl rfl dL_byteAt_14

set_option maxHeartbeats 4000000 in
set_option maxRecDepth 100000 in
theorem c_w_timesAt_o (l : Launch) (D : va_G) (cI cJ : ClassId) (zb : Nat) (zt : Nat) (zn : Nat) (zv : Nat) (zs : Nat) (zp : Nat) (zq : Nat → Nat) (zu : Nat → Nat) (zh : Nat) (zst : Nat) (zre : Nat) (zx : Nat) (zg : Nat → Int64) (l1 : Int32) (sz : Nat) (hst : l.stackTraces = false) (gA : f_X11_isNoAddress l1 = (1 : Int32)) : Met l yL_timesAt (Cond.codeWith yL_timesAt cL_timesAt 4 (some .int) [((0 : Nat), (9 : Nat), (12 : Nat), (19 : Nat))] :: fb_all) ({ frames := 7, cells := 1, slots := 6, locals := 103 } : Room) (fb_PP D (fb_ty D cI cJ) [.ref zb, .int l1, .ref zx] (([fb_o11 zb zt zn zv zs zp (zq 0) (zu 0) zh zst zre, fb_jw cJ zx 1 zg] : List va_W).flatten) sz) (fb_QI D (va_A (([fb_o11 zb zt zn zv zs zp (zq 0) (zu 0) zh zst zre, fb_jw cJ zx 1 zg] : List va_W).flatten) sz) (fun (r : Int32) (_ : Unit) => r = (1 : Int32)) (fun (t : Unit) => ([fb_jw cJ zx 1 zg] : List va_W).flatten)) 1 6 (va_A (([fb_o11 zb zt zn zv zs zp (zq 0) (zu 0) zh zst zre, fb_jw cJ zx 1 zg] : List va_W).flatten) sz) := by
  refine fb_entW (Qf := fun A => (fb_QI D A (fun (r : Int32) (_ : Unit) => r = (1 : Int32)) (fun (t : Unit) => ([fb_jw cJ zx 1 zg] : List va_W).flatten))) (by decide +kernel) (Nat.le_of_ble_eq_true rfl) ?_
  intro p e s m args below meth c A ls X I hl hex
  obtain ⟨hx, hb, hr, hml, hown, hts, hlk, hA, hK, hF⟩ := id X
  have hl : lv_has ls 4 [(0, .ref zb), (1, .int l1), (2, .ref zx)] := hl
  refine lv_aload_n hx hb dL_timesAt_0 rfl (lv_at hl 2 rfl) ?_
  refine lv_iconst (v := (0 : Int32)) hx hb dL_timesAt_1 (by decide) ?_
  refine lv_aload_n hx hb dL_timesAt_2 rfl (lv_at hl 0 rfl) ?_
  refine lv_iload_n hx hb dL_timesAt_3 rfl (lv_at hl 1 rfl) ?_
  refine fb_gX (As := [.int l1]) (rest := [.int (0 : Int32), .ref zx]) (E := "java/lang/IllegalArgumentException") (cs := [fb_o11 zb zt zn zv zs zp (zq 0) (zu 0) zh zst zre]) (rs := [fb_jw cJ zx 1 zg]) X hl I [0, 1] 2 rfl (by decide +kernel) rfl rfl (fb_goodV fw_1861 fw_1862 fw_1863 fw_191 fw_1864) (x_timesAt_o l D cI cJ zb zt zn zv zs zp (zq 0) (zu 0) zh zst zre l1 _ hst gA) rfl rfl rfl (by decide +kernel : fb_hd yX11_timesAt 1) ⟨(Nat.le_of_ble_eq_true rfl), (Nat.le_of_ble_eq_true rfl)⟩ (rfl : vwCl[11]? = some _) rfl rfl rfl rfl (Nat.le_of_ble_eq_true rfl) ⟨(Nat.le_of_ble_eq_true rfl), (Nat.le_of_ble_eq_true rfl)⟩ dL_timesAt_4 ?_
  intro ce q9 H locs I h1 h2 h3
  refine vx_catch hown [] (⟨0, 9, 12, 19⟩ : ExceptionTableEntry) [] (hex.trans rfl) (fun z hz => by cases hz) rfl (by decide) (hts _ fw_1665) (fb_nxC X (List.mem_of_getElem? (i := 1) rfl)) h1 h2 h3 ?_
  refine lv_astore_n (lv' := [(3, .ref q9), (0, .ref zb), (1, .int l1), (2, .ref zx)]) hx hb dL_timesAt_12 rfl hl (by decide) rfl (fun ls hl => ?_)
  refine lv_iconst (v := (1 : Int32)) hx hb dL_timesAt_13 (by decide) ?_
  refine W.widen (k := 1) (n := 6) (by omega) (by omega) ?_
  exact fb_retI (u := ()) X I rfl rfl dL_timesAt_14

set_option maxHeartbeats 4000000 in
set_option maxRecDepth 100000 in
theorem c_w_codeAt_o (l : Launch) (D : va_G) (cI cJ : ClassId) (zb : Nat) (zt : Nat) (zn : Nat) (zv : Nat) (zs : Nat) (zp : Nat) (zq : Nat → Nat) (zu : Nat → Nat) (zh : Nat) (zst : Nat) (zre : Nat) (zx : Nat) (zg : Nat → Int64) (l1 : Int32) (sz : Nat) (hst : l.stackTraces = false) (gA : f_X11_isNoAddress l1 = (1 : Int32)) : Met l yL_codeAt (Cond.codeWith yL_codeAt cL_codeAt 4 (some .int) [((0 : Nat), (9 : Nat), (12 : Nat), (19 : Nat))] :: fb_all) ({ frames := 7, cells := 1, slots := 6, locals := 104 } : Room) (fb_PP D (fb_ty D cI cJ) [.ref zb, .int l1, .ref zx] (([fb_o11 zb zt zn zv zs zp (zq 0) (zu 0) zh zst zre, fb_jw cJ zx 1 zg] : List va_W).flatten) sz) (fb_QI D (va_A (([fb_o11 zb zt zn zv zs zp (zq 0) (zu 0) zh zst zre, fb_jw cJ zx 1 zg] : List va_W).flatten) sz) (fun (r : Int32) (_ : Unit) => r = (1 : Int32)) (fun (t : Unit) => ([fb_jw cJ zx 1 zg] : List va_W).flatten)) 1 6 (va_A (([fb_o11 zb zt zn zv zs zp (zq 0) (zu 0) zh zst zre, fb_jw cJ zx 1 zg] : List va_W).flatten) sz) := by
  refine fb_entW (Qf := fun A => (fb_QI D A (fun (r : Int32) (_ : Unit) => r = (1 : Int32)) (fun (t : Unit) => ([fb_jw cJ zx 1 zg] : List va_W).flatten))) (by decide +kernel) (Nat.le_of_ble_eq_true rfl) ?_
  intro p e s m args below meth c A ls X I hl hex
  obtain ⟨hx, hb, hr, hml, hown, hts, hlk, hA, hK, hF⟩ := id X
  have hl : lv_has ls 4 [(0, .ref zb), (1, .int l1), (2, .ref zx)] := hl
  refine lv_aload_n hx hb dL_codeAt_0 rfl (lv_at hl 2 rfl) ?_
  refine lv_iconst (v := (0 : Int32)) hx hb dL_codeAt_1 (by decide) ?_
  refine lv_aload_n hx hb dL_codeAt_2 rfl (lv_at hl 0 rfl) ?_
  refine lv_iload_n hx hb dL_codeAt_3 rfl (lv_at hl 1 rfl) ?_
  refine fb_gX (As := [.int l1]) (rest := [.int (0 : Int32), .ref zx]) (E := "java/lang/IllegalArgumentException") (cs := [fb_o11 zb zt zn zv zs zp (zq 0) (zu 0) zh zst zre]) (rs := [fb_jw cJ zx 1 zg]) X hl I [0, 1] 2 rfl (by decide +kernel) rfl rfl (fb_goodV fw_1868 fw_1869 fw_1870 fw_191 fw_1871) (x_codeAt_o l D cI cJ zb zt zn zv zs zp (zq 0) (zu 0) zh zst zre l1 _ hst gA) rfl rfl rfl (by decide +kernel : fb_hd yX11_codeAt 1) ⟨(Nat.le_of_ble_eq_true rfl), (Nat.le_of_ble_eq_true rfl)⟩ (rfl : vwCl[11]? = some _) rfl rfl rfl rfl (Nat.le_of_ble_eq_true rfl) ⟨(Nat.le_of_ble_eq_true rfl), (Nat.le_of_ble_eq_true rfl)⟩ dL_codeAt_4 ?_
  intro ce q9 H locs I h1 h2 h3
  refine vx_catch hown [] (⟨0, 9, 12, 19⟩ : ExceptionTableEntry) [] (hex.trans rfl) (fun z hz => by cases hz) rfl (by decide) (hts _ fw_1665) (fb_nxC X (List.mem_of_getElem? (i := 1) rfl)) h1 h2 h3 ?_
  refine lv_astore_n (lv' := [(3, .ref q9), (0, .ref zb), (1, .int l1), (2, .ref zx)]) hx hb dL_codeAt_12 rfl hl (by decide) rfl (fun ls hl => ?_)
  refine lv_iconst (v := (1 : Int32)) hx hb dL_codeAt_13 (by decide) ?_
  refine W.widen (k := 1) (n := 6) (by omega) (by omega) ?_
  exact fb_retI (u := ()) X I rfl rfl dL_codeAt_14

set_option maxHeartbeats 4000000 in
set_option maxRecDepth 100000 in
theorem c_w_lengthAt_o (l : Launch) (D : va_G) (cI cJ : ClassId) (zb : Nat) (zt : Nat) (zn : Nat) (zv : Nat) (zs : Nat) (zp : Nat) (zq : Nat → Nat) (zu : Nat → Nat) (zh : Nat) (zst : Nat) (zre : Nat) (zx : Nat) (zg : Nat → Int64) (l1 : Int32) (sz : Nat) (hst : l.stackTraces = false) (gA : f_X11_isNoAddress l1 = (1 : Int32)) : Met l yL_lengthAt (Cond.codeWith yL_lengthAt cL_lengthAt 4 (some .int) [((0 : Nat), (9 : Nat), (12 : Nat), (19 : Nat))] :: fb_all) ({ frames := 7, cells := 1, slots := 6, locals := 103 } : Room) (fb_PP D (fb_ty D cI cJ) [.ref zb, .int l1, .ref zx] (([fb_o11 zb zt zn zv zs zp (zq 0) (zu 0) zh zst zre, fb_jw cJ zx 1 zg] : List va_W).flatten) sz) (fb_QI D (va_A (([fb_o11 zb zt zn zv zs zp (zq 0) (zu 0) zh zst zre, fb_jw cJ zx 1 zg] : List va_W).flatten) sz) (fun (r : Int32) (_ : Unit) => r = (1 : Int32)) (fun (t : Unit) => ([fb_jw cJ zx 1 zg] : List va_W).flatten)) 1 6 (va_A (([fb_o11 zb zt zn zv zs zp (zq 0) (zu 0) zh zst zre, fb_jw cJ zx 1 zg] : List va_W).flatten) sz) := by
  refine fb_entW (Qf := fun A => (fb_QI D A (fun (r : Int32) (_ : Unit) => r = (1 : Int32)) (fun (t : Unit) => ([fb_jw cJ zx 1 zg] : List va_W).flatten))) (by decide +kernel) (Nat.le_of_ble_eq_true rfl) ?_
  intro p e s m args below meth c A ls X I hl hex
  obtain ⟨hx, hb, hr, hml, hown, hts, hlk, hA, hK, hF⟩ := id X
  have hl : lv_has ls 4 [(0, .ref zb), (1, .int l1), (2, .ref zx)] := hl
  refine lv_aload_n hx hb dL_lengthAt_0 rfl (lv_at hl 2 rfl) ?_
  refine lv_iconst (v := (0 : Int32)) hx hb dL_lengthAt_1 (by decide) ?_
  refine lv_aload_n hx hb dL_lengthAt_2 rfl (lv_at hl 0 rfl) ?_
  refine lv_iload_n hx hb dL_lengthAt_3 rfl (lv_at hl 1 rfl) ?_
  refine fb_gX (As := [.int l1]) (rest := [.int (0 : Int32), .ref zx]) (E := "java/lang/IllegalArgumentException") (cs := [fb_o11 zb zt zn zv zs zp (zq 0) (zu 0) zh zst zre]) (rs := [fb_jw cJ zx 1 zg]) X hl I [0, 1] 2 rfl (by decide +kernel) rfl rfl (fb_goodV fw_1876 fw_1877 fw_1878 fw_191 fw_1879) (x_lengthAt_o l D cI cJ zb zt zn zv zs zp (zq 0) (zu 0) zh zst zre l1 _ hst gA) rfl rfl rfl (by decide +kernel : fb_hd yX11_lengthAt 1) ⟨(Nat.le_of_ble_eq_true rfl), (Nat.le_of_ble_eq_true rfl)⟩ (rfl : vwCl[11]? = some _) rfl rfl rfl rfl (Nat.le_of_ble_eq_true rfl) ⟨(Nat.le_of_ble_eq_true rfl), (Nat.le_of_ble_eq_true rfl)⟩ dL_lengthAt_4 ?_
  intro ce q9 H locs I h1 h2 h3
  refine vx_catch hown [] (⟨0, 9, 12, 19⟩ : ExceptionTableEntry) [] (hex.trans rfl) (fun z hz => by cases hz) rfl (by decide) (hts _ fw_1665) (fb_nxC X (List.mem_of_getElem? (i := 1) rfl)) h1 h2 h3 ?_
  refine lv_astore_n (lv' := [(3, .ref q9), (0, .ref zb), (1, .int l1), (2, .ref zx)]) hx hb dL_lengthAt_12 rfl hl (by decide) rfl (fun ls hl => ?_)
  refine lv_iconst (v := (1 : Int32)) hx hb dL_lengthAt_13 (by decide) ?_
  refine W.widen (k := 1) (n := 6) (by omega) (by omega) ?_
  exact fb_retI (u := ()) X I rfl rfl dL_lengthAt_14

set_option maxHeartbeats 4000000 in
set_option maxRecDepth 100000 in
theorem c_w_operandAt_o (l : Launch) (D : va_G) (cI cJ : ClassId) (zb : Nat) (zt : Nat) (zn : Nat) (zv : Nat) (zs : Nat) (zp : Nat) (zq : Nat → Nat) (zu : Nat → Nat) (zh : Nat) (zst : Nat) (zre : Nat) (zx : Nat) (zg : Nat → Int64) (l1 : Int32) (sz : Nat) (hst : l.stackTraces = false) (gA : f_X11_isNoAddress l1 = (1 : Int32)) : Met l yL_operandAt (Cond.codeWith yL_operandAt cL_operandAt 4 (some .int) [((0 : Nat), (9 : Nat), (12 : Nat), (19 : Nat))] :: fb_all) ({ frames := 7, cells := 1, slots := 6, locals := 103 } : Room) (fb_PP D (fb_ty D cI cJ) [.ref zb, .int l1, .ref zx] (([fb_o11 zb zt zn zv zs zp (zq 0) (zu 0) zh zst zre, fb_jw cJ zx 1 zg] : List va_W).flatten) sz) (fb_QI D (va_A (([fb_o11 zb zt zn zv zs zp (zq 0) (zu 0) zh zst zre, fb_jw cJ zx 1 zg] : List va_W).flatten) sz) (fun (r : Int32) (_ : Unit) => r = (1 : Int32)) (fun (t : Unit) => ([fb_jw cJ zx 1 zg] : List va_W).flatten)) 1 6 (va_A (([fb_o11 zb zt zn zv zs zp (zq 0) (zu 0) zh zst zre, fb_jw cJ zx 1 zg] : List va_W).flatten) sz) := by
  refine fb_entW (Qf := fun A => (fb_QI D A (fun (r : Int32) (_ : Unit) => r = (1 : Int32)) (fun (t : Unit) => ([fb_jw cJ zx 1 zg] : List va_W).flatten))) (by decide +kernel) (Nat.le_of_ble_eq_true rfl) ?_
  intro p e s m args below meth c A ls X I hl hex
  obtain ⟨hx, hb, hr, hml, hown, hts, hlk, hA, hK, hF⟩ := id X
  have hl : lv_has ls 4 [(0, .ref zb), (1, .int l1), (2, .ref zx)] := hl
  refine lv_aload_n hx hb dL_operandAt_0 rfl (lv_at hl 2 rfl) ?_
  refine lv_iconst (v := (0 : Int32)) hx hb dL_operandAt_1 (by decide) ?_
  refine lv_aload_n hx hb dL_operandAt_2 rfl (lv_at hl 0 rfl) ?_
  refine lv_iload_n hx hb dL_operandAt_3 rfl (lv_at hl 1 rfl) ?_
  refine fb_gX (As := [.int l1]) (rest := [.int (0 : Int32), .ref zx]) (E := "java/lang/IllegalArgumentException") (cs := [fb_o11 zb zt zn zv zs zp (zq 0) (zu 0) zh zst zre]) (rs := [fb_jw cJ zx 1 zg]) X hl I [0, 1] 2 rfl (by decide +kernel) rfl rfl (fb_goodV fw_1883 fw_1884 fw_1885 fw_191 fw_1886) (x_operandAt_o l D cI cJ zb zt zn zv zs zp (zq 0) (zu 0) zh zst zre l1 _ hst gA) rfl rfl rfl (by decide +kernel : fb_hd yX11_operandAt 1) ⟨(Nat.le_of_ble_eq_true rfl), (Nat.le_of_ble_eq_true rfl)⟩ (rfl : vwCl[11]? = some _) rfl rfl rfl rfl (Nat.le_of_ble_eq_true rfl) ⟨(Nat.le_of_ble_eq_true rfl), (Nat.le_of_ble_eq_true rfl)⟩ dL_operandAt_4 ?_
  intro ce q9 H locs I h1 h2 h3
  refine vx_catch hown [] (⟨0, 9, 12, 19⟩ : ExceptionTableEntry) [] (hex.trans rfl) (fun z hz => by cases hz) rfl (by decide) (hts _ fw_1665) (fb_nxC X (List.mem_of_getElem? (i := 1) rfl)) h1 h2 h3 ?_
  refine lv_astore_n (lv' := [(3, .ref q9), (0, .ref zb), (1, .int l1), (2, .ref zx)]) hx hb dL_operandAt_12 rfl hl (by decide) rfl (fun ls hl => ?_)
  refine lv_iconst (v := (1 : Int32)) hx hb dL_operandAt_13 (by decide) ?_
  refine W.widen (k := 1) (n := 6) (by omega) (by omega) ?_
  exact fb_retI (u := ()) X I rfl rfl dL_operandAt_14

set_option maxHeartbeats 4000000 in
set_option maxRecDepth 100000 in
theorem c_w_isCode_o (l : Launch) (D : va_G) (cI cJ : ClassId) (zb : Nat) (zt : Nat) (zn : Nat) (zv : Nat) (zs : Nat) (zp : Nat) (zq : Nat → Nat) (zu : Nat → Nat) (zh : Nat) (zst : Nat) (zre : Nat) (zx : Nat) (zg : Nat → Int64) (l1 : Int32) (sz : Nat) (hst : l.stackTraces = false) (gA : f_X11_isNoAddress l1 = (1 : Int32)) : Met l yL_isCode (Cond.codeWith yL_isCode cL_isCode 4 (some .int) [((0 : Nat), (16 : Nat), (19 : Nat), (19 : Nat))] :: fb_all) ({ frames := 7, cells := 1, slots := 6, locals := 103 } : Room) (fb_PP D (fb_ty D cI cJ) [.ref zb, .int l1, .ref zx] (([fb_o11 zb zt zn zv zs zp (zq 0) (zu 0) zh zst zre, fb_jw cJ zx 1 zg] : List va_W).flatten) sz) (fb_QI D (va_A (([fb_o11 zb zt zn zv zs zp (zq 0) (zu 0) zh zst zre, fb_jw cJ zx 1 zg] : List va_W).flatten) sz) (fun (r : Int32) (_ : Unit) => r = (1 : Int32)) (fun (t : Unit) => ([fb_jw cJ zx 1 zg] : List va_W).flatten)) 1 6 (va_A (([fb_o11 zb zt zn zv zs zp (zq 0) (zu 0) zh zst zre, fb_jw cJ zx 1 zg] : List va_W).flatten) sz) := by
  refine fb_entW (Qf := fun A => (fb_QI D A (fun (r : Int32) (_ : Unit) => r = (1 : Int32)) (fun (t : Unit) => ([fb_jw cJ zx 1 zg] : List va_W).flatten))) (by decide +kernel) (Nat.le_of_ble_eq_true rfl) ?_
  intro p e s m args below meth c A ls X I hl hex
  obtain ⟨hx, hb, hr, hml, hown, hts, hlk, hA, hK, hF⟩ := id X
  have hl : lv_has ls 4 [(0, .ref zb), (1, .int l1), (2, .ref zx)] := hl
  refine lv_aload_n hx hb dL_isCode_0 rfl (lv_at hl 2 rfl) ?_
  refine lv_iconst (v := (0 : Int32)) hx hb dL_isCode_1 (by decide) ?_
  refine lv_aload_n hx hb dL_isCode_2 rfl (lv_at hl 0 rfl) ?_
  refine lv_iload_n hx hb dL_isCode_3 rfl (lv_at hl 1 rfl) ?_
  refine fb_gX (As := [.int l1]) (rest := [.int (0 : Int32), .ref zx]) (E := "java/lang/IllegalArgumentException") (cs := [fb_o11 zb zt zn zv zs zp (zq 0) (zu 0) zh zst zre]) (rs := [fb_jw cJ zx 1 zg]) X hl I [0, 1] 2 rfl (by decide +kernel) rfl rfl (fb_goodV fw_1929 fw_1930 fw_1931 fw_191 fw_1932) (x_isCode_o l D cI cJ zb zt zn zv zs zp (zq 0) (zu 0) zh zst zre l1 _ hst gA) rfl rfl rfl (by decide +kernel : fb_hd yX11_isCode 1) ⟨(Nat.le_of_ble_eq_true rfl), (Nat.le_of_ble_eq_true rfl)⟩ (rfl : vwCl[11]? = some _) rfl rfl rfl rfl (Nat.le_of_ble_eq_true rfl) ⟨(Nat.le_of_ble_eq_true rfl), (Nat.le_of_ble_eq_true rfl)⟩ dL_isCode_4 ?_
  intro ce q9 H locs I h1 h2 h3
  refine vx_catch hown [] (⟨0, 16, 19, 19⟩ : ExceptionTableEntry) [] (hex.trans rfl) (fun z hz => by cases hz) rfl (by decide) (hts _ fw_1665) (fb_nxC X (List.mem_of_getElem? (i := 1) rfl)) h1 h2 h3 ?_
  refine lv_astore_n (lv' := [(3, .ref q9), (0, .ref zb), (1, .int l1), (2, .ref zx)]) hx hb dL_isCode_19 rfl hl (by decide) rfl (fun ls hl => ?_)
  refine lv_iconst (v := (1 : Int32)) hx hb dL_isCode_20 (by decide) ?_
  refine W.widen (k := 1) (n := 6) (by omega) (by omega) ?_
  exact fb_retI (u := ()) X I rfl rfl dL_isCode_21

set_option maxHeartbeats 4000000 in
set_option maxRecDepth 100000 in
theorem c_w_cyclesToReach_o (l : Launch) (D : va_G) (cI cJ : ClassId) (zb : Nat) (zt : Nat) (zn : Nat) (zv : Nat) (zs : Nat) (zp : Nat) (zq : Nat → Nat) (zu : Nat → Nat) (zh : Nat) (zst : Nat) (zre : Nat) (zx : Nat) (zg : Nat → Int64) (l1 : Int32) (l2 : Int32) (sz : Nat) (hst : l.stackTraces = false) (gA : f_X11_isNoAddress l1 = (1 : Int32)) : Met l yL_cyclesToReach (Cond.codeWith yL_cyclesToReach cL_cyclesToReach 5 (some .int) [((0 : Nat), (10 : Nat), (13 : Nat), (19 : Nat))] :: fb_all) ({ frames := 7, cells := 1, slots := 6, locals := 107 } : Room) (fb_PP D (fb_ty D cI cJ) [.ref zb, .int l1, .int l2, .ref zx] (([fb_o11 zb zt zn zv zs zp (zq 0) (zu 0) zh zst zre, fb_jw cJ zx 1 zg] : List va_W).flatten) sz) (fb_QI D (va_A (([fb_o11 zb zt zn zv zs zp (zq 0) (zu 0) zh zst zre, fb_jw cJ zx 1 zg] : List va_W).flatten) sz) (fun (r : Int32) (_ : Unit) => r = (1 : Int32)) (fun (t : Unit) => ([fb_jw cJ zx 1 zg] : List va_W).flatten)) 1 6 (va_A (([fb_o11 zb zt zn zv zs zp (zq 0) (zu 0) zh zst zre, fb_jw cJ zx 1 zg] : List va_W).flatten) sz) := by
  refine fb_entW (Qf := fun A => (fb_QI D A (fun (r : Int32) (_ : Unit) => r = (1 : Int32)) (fun (t : Unit) => ([fb_jw cJ zx 1 zg] : List va_W).flatten))) (by decide +kernel) (Nat.le_of_ble_eq_true rfl) ?_
  intro p e s m args below meth c A ls X I hl hex
  obtain ⟨hx, hb, hr, hml, hown, hts, hlk, hA, hK, hF⟩ := id X
  have hl : lv_has ls 5 [(0, .ref zb), (1, .int l1), (2, .int l2), (3, .ref zx)] := hl
  refine lv_aload_n hx hb dL_cyclesToReach_0 rfl (lv_at hl 3 rfl) ?_
  refine lv_iconst (v := (0 : Int32)) hx hb dL_cyclesToReach_1 (by decide) ?_
  refine lv_aload_n hx hb dL_cyclesToReach_2 rfl (lv_at hl 0 rfl) ?_
  refine lv_iload_n hx hb dL_cyclesToReach_3 rfl (lv_at hl 1 rfl) ?_
  refine lv_iload_n hx hb dL_cyclesToReach_4 rfl (lv_at hl 2 rfl) ?_
  refine fb_gX (As := [.int l1, .int l2]) (rest := [.int (0 : Int32), .ref zx]) (E := "java/lang/IllegalArgumentException") (cs := [fb_o11 zb zt zn zv zs zp (zq 0) (zu 0) zh zst zre]) (rs := [fb_jw cJ zx 1 zg]) X hl I [0, 1] 2 rfl (by decide +kernel) rfl rfl (fb_goodV fw_1899 fw_1900 fw_1901 fw_191 fw_1902) (x_cyclesToReach_o l D cI cJ zb zt zn zv zs zp (zq 0) (zu 0) zh zst zre l1 l2 _ hst gA) rfl rfl rfl (by decide +kernel : fb_hd yX11_cyclesToReach 2) ⟨(Nat.le_of_ble_eq_true rfl), (Nat.le_of_ble_eq_true rfl)⟩ (rfl : vwCl[11]? = some _) rfl rfl rfl rfl (Nat.le_of_ble_eq_true rfl) ⟨(Nat.le_of_ble_eq_true rfl), (Nat.le_of_ble_eq_true rfl)⟩ dL_cyclesToReach_5 ?_
  intro ce q9 H locs I h1 h2 h3
  refine vx_catch hown [] (⟨0, 10, 13, 19⟩ : ExceptionTableEntry) [] (hex.trans rfl) (fun z hz => by cases hz) rfl (by decide) (hts _ fw_1665) (fb_nxC X (List.mem_of_getElem? (i := 1) rfl)) h1 h2 h3 ?_
  refine lv_astore (lv' := [(4, .ref q9), (0, .ref zb), (1, .int l1), (2, .int l2), (3, .ref zx)]) hx hb dL_cyclesToReach_13 hl (by decide) rfl (fun ls hl => ?_)
  refine lv_iconst (v := (1 : Int32)) hx hb dL_cyclesToReach_15 (by decide) ?_
  refine W.widen (k := 1) (n := 6) (by omega) (by omega) ?_
  exact fb_retI (u := ()) X I rfl rfl dL_cyclesToReach_16

set_option maxHeartbeats 4000000 in
set_option maxRecDepth 100000 in
theorem c_w_writesIn_o (l : Launch) (D : va_G) (cI cJ : ClassId) (zb : Nat) (zt : Nat) (zn : Nat) (zv : Nat) (zs : Nat) (zp : Nat) (zq : Nat → Nat) (zu : Nat → Nat) (zh : Nat) (zst : Nat) (zre : Nat) (zx : Nat) (zg : Nat → Int64) (l1 : Int32) (l2 : Int32) (sz : Nat) (hst : l.stackTraces = false) (gA : f_X11_isNoAddress l1 = (1 : Int32)) : Met l yL_writesIn (Cond.codeWith yL_writesIn cL_writesIn 5 (some .int) [((0 : Nat), (10 : Nat), (13 : Nat), (19 : Nat))] :: fb_all) ({ frames := 7, cells := 1, slots := 6, locals := 107 } : Room) (fb_PP D (fb_ty D cI cJ) [.ref zb, .int l1, .int l2, .ref zx] (([fb_o11 zb zt zn zv zs zp (zq 0) (zu 0) zh zst zre, fb_jw cJ zx 1 zg] : List va_W).flatten) sz) (fb_QI D (va_A (([fb_o11 zb zt zn zv zs zp (zq 0) (zu 0) zh zst zre, fb_jw cJ zx 1 zg] : List va_W).flatten) sz) (fun (r : Int32) (_ : Unit) => r = (1 : Int32)) (fun (t : Unit) => ([fb_jw cJ zx 1 zg] : List va_W).flatten)) 1 6 (va_A (([fb_o11 zb zt zn zv zs zp (zq 0) (zu 0) zh zst zre, fb_jw cJ zx 1 zg] : List va_W).flatten) sz) := by
  refine fb_entW (Qf := fun A => (fb_QI D A (fun (r : Int32) (_ : Unit) => r = (1 : Int32)) (fun (t : Unit) => ([fb_jw cJ zx 1 zg] : List va_W).flatten))) (by decide +kernel) (Nat.le_of_ble_eq_true rfl) ?_
  intro p e s m args below meth c A ls X I hl hex
  obtain ⟨hx, hb, hr, hml, hown, hts, hlk, hA, hK, hF⟩ := id X
  have hl : lv_has ls 5 [(0, .ref zb), (1, .int l1), (2, .int l2), (3, .ref zx)] := hl
  refine lv_aload_n hx hb dL_writesIn_0 rfl (lv_at hl 3 rfl) ?_
  refine lv_iconst (v := (0 : Int32)) hx hb dL_writesIn_1 (by decide) ?_
  refine lv_aload_n hx hb dL_writesIn_2 rfl (lv_at hl 0 rfl) ?_
  refine lv_iload_n hx hb dL_writesIn_3 rfl (lv_at hl 1 rfl) ?_
  refine lv_iload_n hx hb dL_writesIn_4 rfl (lv_at hl 2 rfl) ?_
  refine fb_gX (As := [.int l1, .int l2]) (rest := [.int (0 : Int32), .ref zx]) (E := "java/lang/IllegalArgumentException") (cs := [fb_o11 zb zt zn zv zs zp (zq 0) (zu 0) zh zst zre]) (rs := [fb_jw cJ zx 1 zg]) X hl I [0, 1] 2 rfl (by decide +kernel) rfl rfl (fb_goodV fw_1918 fw_1919 fw_1920 fw_191 fw_1921) (x_writesIn_o l D cI cJ zb zt zn zv zs zp (zq 0) (zu 0) zh zst zre l1 l2 _ hst gA) rfl rfl rfl (by decide +kernel : fb_hd yX11_writesIn 2) ⟨(Nat.le_of_ble_eq_true rfl), (Nat.le_of_ble_eq_true rfl)⟩ (rfl : vwCl[11]? = some _) rfl rfl rfl rfl (Nat.le_of_ble_eq_true rfl) ⟨(Nat.le_of_ble_eq_true rfl), (Nat.le_of_ble_eq_true rfl)⟩ dL_writesIn_5 ?_
  intro ce q9 H locs I h1 h2 h3
  refine vx_catch hown [] (⟨0, 10, 13, 19⟩ : ExceptionTableEntry) [] (hex.trans rfl) (fun z hz => by cases hz) rfl (by decide) (hts _ fw_1665) (fb_nxC X (List.mem_of_getElem? (i := 1) rfl)) h1 h2 h3 ?_
  refine lv_astore (lv' := [(4, .ref q9), (0, .ref zb), (1, .int l1), (2, .int l2), (3, .ref zx)]) hx hb dL_writesIn_13 hl (by decide) rfl (fun ls hl => ?_)
  refine lv_iconst (v := (1 : Int32)) hx hb dL_writesIn_15 (by decide) ?_
  refine W.widen (k := 1) (n := 6) (by omega) (by omega) ?_
  exact fb_retI (u := ()) X I rfl rfl dL_writesIn_16

set_option maxHeartbeats 4000000 in
set_option maxRecDepth 100000 in
theorem c_w_setBreak_o (l : Launch) (D : va_G) (cI cJ : ClassId) (zb : Nat) (zt : Nat) (zn : Nat) (zv : Nat) (zs : Nat) (zp : Nat) (zq : Nat → Nat) (zu : Nat → Nat) (zh : Nat) (zst : Nat) (zre : Nat) (zx : Nat) (zg : Nat → Int64) (l1 : Int32) (l2 : Int32) (sz : Nat) (hst : l.stackTraces = false) (gA : f_X11_isNoAddress l1 = (1 : Int32)) : Met l yL_setBreak (Cond.codeWith yL_setBreak cL_setBreak 5 (some .int) [((0 : Nat), (10 : Nat), (13 : Nat), (19 : Nat)), ((0 : Nat), (10 : Nat), (17 : Nat), (13 : Nat))] :: fb_all) ({ frames := 7, cells := 1, slots := 6, locals := 104 } : Room) (fb_PP D (fb_ty D cI cJ) [.ref zb, .int l1, .int l2, .ref zx] (([fb_o11 zb zt zn zv zs zp (zq 0) (zu 0) zh zst zre, fb_jw cJ zx 1 zg] : List va_W).flatten) sz) (fb_QI D (va_A (([fb_o11 zb zt zn zv zs zp (zq 0) (zu 0) zh zst zre, fb_jw cJ zx 1 zg] : List va_W).flatten) sz) (fun (r : Int32) (_ : Unit) => r = (1 : Int32)) (fun (t : Unit) => ([fb_jw cJ zx 1 zg] : List va_W).flatten)) 1 6 (va_A (([fb_o11 zb zt zn zv zs zp (zq 0) (zu 0) zh zst zre, fb_jw cJ zx 1 zg] : List va_W).flatten) sz) := by
  refine fb_entW (Qf := fun A => (fb_QI D A (fun (r : Int32) (_ : Unit) => r = (1 : Int32)) (fun (t : Unit) => ([fb_jw cJ zx 1 zg] : List va_W).flatten))) (by decide +kernel) (Nat.le_of_ble_eq_true rfl) ?_
  intro p e s m args below meth c A ls X I hl hex
  obtain ⟨hx, hb, hr, hml, hown, hts, hlk, hA, hK, hF⟩ := id X
  have hl : lv_has ls 5 [(0, .ref zb), (1, .int l1), (2, .int l2), (3, .ref zx)] := hl
  refine lv_aload_n hx hb dL_setBreak_0 rfl (lv_at hl 3 rfl) ?_
  refine lv_iconst (v := (0 : Int32)) hx hb dL_setBreak_1 (by decide) ?_
  refine lv_aload_n hx hb dL_setBreak_2 rfl (lv_at hl 0 rfl) ?_
  refine lv_iload_n hx hb dL_setBreak_3 rfl (lv_at hl 1 rfl) ?_
  refine lv_iload_n hx hb dL_setBreak_4 rfl (lv_at hl 2 rfl) ?_
  refine fb_gX (As := [.int l1, .int l2]) (rest := [.int (0 : Int32), .ref zx]) (E := "java/lang/IllegalArgumentException") (cs := [fb_o11 zb zt zn zv zs zp (zq 0) (zu 0) zh zst zre]) (rs := [fb_jw cJ zx 1 zg]) X hl I [0, 1] 2 rfl (by decide +kernel) rfl rfl (fb_goodV fw_1799 fw_1800 fw_1801 fw_191 fw_1802) (x_setBreak_o l D cI cJ zb zt zn zv zs zp (zq 0) (zu 0) zh zst zre l1 l2 _ hst gA) rfl rfl rfl (by decide +kernel : fb_hd yX11_setBreak 2) ⟨(Nat.le_of_ble_eq_true rfl), (Nat.le_of_ble_eq_true rfl)⟩ (rfl : vwCl[11]? = some _) rfl rfl rfl rfl (Nat.le_of_ble_eq_true rfl) ⟨(Nat.le_of_ble_eq_true rfl), (Nat.le_of_ble_eq_true rfl)⟩ dL_setBreak_5 ?_
  intro ce q9 H locs I h1 h2 h3
  refine vx_catch hown [] (⟨0, 10, 13, 19⟩ : ExceptionTableEntry) [(⟨0, 10, 17, 13⟩ : ExceptionTableEntry)] (hex.trans rfl) (fun z hz => by cases hz) rfl (by decide) (hts _ fw_1665) (fb_nxC X (List.mem_of_getElem? (i := 1) rfl)) h1 h2 h3 ?_
  refine lv_astore (lv' := [(4, .ref q9), (0, .ref zb), (1, .int l1), (2, .int l2), (3, .ref zx)]) hx hb dL_setBreak_13 hl (by decide) rfl (fun ls hl => ?_)
  refine lv_iconst (v := (1 : Int32)) hx hb dL_setBreak_15 (by decide) ?_
  refine W.widen (k := 1) (n := 6) (by omega) (by omega) ?_
  exact fb_retI (u := ()) X I rfl rfl dL_setBreak_16

set_option maxHeartbeats 4000000 in
set_option maxRecDepth 100000 in
theorem c_w_poke_o (l : Launch) (D : va_G) (cI cJ : ClassId) (zb : Nat) (zt : Nat) (zn : Nat) (zv : Nat) (zs : Nat) (zp : Nat) (zq : Nat → Nat) (zu : Nat → Nat) (zh : Nat) (zst : Nat) (zre : Nat) (zx : Nat) (zg : Nat → Int64) (l1 : Int32) (l2 : Int32) (sz : Nat) (hst : l.stackTraces = false) (gA : f_X11_isNoAddress l1 = (1 : Int32)) : Met l yL_poke (Cond.codeWith yL_poke cL_poke 5 (some .int) [((0 : Nat), (10 : Nat), (13 : Nat), (19 : Nat))] :: fb_all) ({ frames := 7, cells := 1, slots := 6, locals := 106 } : Room) (fb_PP D (fb_ty D cI cJ) [.ref zb, .int l1, .int l2, .ref zx] (([fb_o11 zb zt zn zv zs zp (zq 0) (zu 0) zh zst zre, fb_jw cJ zx 1 zg] : List va_W).flatten) sz) (fb_QI D (va_A (([fb_o11 zb zt zn zv zs zp (zq 0) (zu 0) zh zst zre, fb_jw cJ zx 1 zg] : List va_W).flatten) sz) (fun (r : Int32) (_ : Unit) => r = (1 : Int32)) (fun (t : Unit) => ([fb_jw cJ zx 1 zg] : List va_W).flatten)) 1 6 (va_A (([fb_o11 zb zt zn zv zs zp (zq 0) (zu 0) zh zst zre, fb_jw cJ zx 1 zg] : List va_W).flatten) sz) := by
  refine fb_entW (Qf := fun A => (fb_QI D A (fun (r : Int32) (_ : Unit) => r = (1 : Int32)) (fun (t : Unit) => ([fb_jw cJ zx 1 zg] : List va_W).flatten))) (by decide +kernel) (Nat.le_of_ble_eq_true rfl) ?_
  intro p e s m args below meth c A ls X I hl hex
  obtain ⟨hx, hb, hr, hml, hown, hts, hlk, hA, hK, hF⟩ := id X
  have hl : lv_has ls 5 [(0, .ref zb), (1, .int l1), (2, .int l2), (3, .ref zx)] := hl
  refine lv_aload_n hx hb dL_poke_0 rfl (lv_at hl 3 rfl) ?_
  refine lv_iconst (v := (0 : Int32)) hx hb dL_poke_1 (by decide) ?_
  refine lv_aload_n hx hb dL_poke_2 rfl (lv_at hl 0 rfl) ?_
  refine lv_iload_n hx hb dL_poke_3 rfl (lv_at hl 1 rfl) ?_
  refine lv_iload_n hx hb dL_poke_4 rfl (lv_at hl 2 rfl) ?_
  refine fb_gX (As := [.int l1, .int l2]) (rest := [.int (0 : Int32), .ref zx]) (E := "java/lang/IllegalArgumentException") (cs := [fb_o11 zb zt zn zv zs zp (zq 0) (zu 0) zh zst zre]) (rs := [fb_jw cJ zx 1 zg]) X hl I [0, 1] 2 rfl (by decide +kernel) rfl rfl (fb_goodV fw_1752 fw_1753 fw_1754 fw_191 fw_1755) (x_poke_o l D cI cJ zb zt zn zv zs zp (zq 0) (zu 0) zh zst zre l1 l2 _ hst gA) rfl rfl rfl (by decide +kernel : fb_hd yX11_poke 2) ⟨(Nat.le_of_ble_eq_true rfl), (Nat.le_of_ble_eq_true rfl)⟩ (rfl : vwCl[11]? = some _) rfl rfl rfl rfl (Nat.le_of_ble_eq_true rfl) ⟨(Nat.le_of_ble_eq_true rfl), (Nat.le_of_ble_eq_true rfl)⟩ dL_poke_5 ?_
  intro ce q9 H locs I h1 h2 h3
  refine vx_catch hown [] (⟨0, 10, 13, 19⟩ : ExceptionTableEntry) [] (hex.trans rfl) (fun z hz => by cases hz) rfl (by decide) (hts _ fw_1665) (fb_nxC X (List.mem_of_getElem? (i := 1) rfl)) h1 h2 h3 ?_
  refine lv_astore (lv' := [(4, .ref q9), (0, .ref zb), (1, .int l1), (2, .int l2), (3, .ref zx)]) hx hb dL_poke_13 hl (by decide) rfl (fun ls hl => ?_)
  refine lv_iconst (v := (1 : Int32)) hx hb dL_poke_15 (by decide) ?_
  refine W.widen (k := 1) (n := 6) (by omega) (by omega) ?_
  exact fb_retI (u := ()) X I rfl rfl dL_poke_16

set_option maxHeartbeats 4000000 in
set_option maxRecDepth 100000 in
theorem c_w_setWatch_o (l : Launch) (D : va_G) (cI cJ : ClassId) (zb : Nat) (zt : Nat) (zn : Nat) (zv : Nat) (zs : Nat) (zp : Nat) (zq : Nat → Nat) (zu : Nat → Nat) (zh : Nat) (zst : Nat) (zre : Nat) (zx : Nat) (zg : Nat → Int64) (l1 : Int32) (l2 : Int32) (b3 : Bool) (b4 : Bool) (sz : Nat) (hst : l.stackTraces = false) (gA : f_X11_isNoAddress l1 = (1 : Int32)) : Met l yL_setWatch (Cond.codeWith yL_setWatch cL_setWatch 7 (some .int) [((0 : Nat), (14 : Nat), (17 : Nat), (19 : Nat)), ((0 : Nat), (14 : Nat), (21 : Nat), (13 : Nat))] :: fb_all) ({ frames := 7, cells := 1, slots := 6, locals := 106 } : Room) (fb_PP D (fb_ty D cI cJ) [.ref zb, .int l1, .int l2, .int (fb_bI b3), .int (fb_bI b4), .ref zx] (([fb_o11 zb zt zn zv zs zp (zq 0) (zu 0) zh zst zre, fb_jw cJ zx 1 zg] : List va_W).flatten) sz) (fb_QI D (va_A (([fb_o11 zb zt zn zv zs zp (zq 0) (zu 0) zh zst zre, fb_jw cJ zx 1 zg] : List va_W).flatten) sz) (fun (r : Int32) (_ : Unit) => r = (1 : Int32)) (fun (t : Unit) => ([fb_jw cJ zx 1 zg] : List va_W).flatten)) 1 6 (va_A (([fb_o11 zb zt zn zv zs zp (zq 0) (zu 0) zh zst zre, fb_jw cJ zx 1 zg] : List va_W).flatten) sz) := by
  refine fb_entW (Qf := fun A => (fb_QI D A (fun (r : Int32) (_ : Unit) => r = (1 : Int32)) (fun (t : Unit) => ([fb_jw cJ zx 1 zg] : List va_W).flatten))) (by decide +kernel) (Nat.le_of_ble_eq_true rfl) ?_
  intro p e s m args below meth c A ls X I hl hex
  obtain ⟨hx, hb, hr, hml, hown, hts, hlk, hA, hK, hF⟩ := id X
  have hl : lv_has ls 7 [(0, .ref zb), (1, .int l1), (2, .int l2), (3, .int (fb_bI b3)), (4, .int (fb_bI b4)), (5, .ref zx)] := hl
  refine lv_aload hx hb dL_setWatch_0 (lv_at hl 5 rfl) ?_
  refine lv_iconst (v := (0 : Int32)) hx hb dL_setWatch_2 (by decide) ?_
  refine lv_aload_n hx hb dL_setWatch_3 rfl (lv_at hl 0 rfl) ?_
  refine lv_iload_n hx hb dL_setWatch_4 rfl (lv_at hl 1 rfl) ?_
  refine lv_iload_n hx hb dL_setWatch_5 rfl (lv_at hl 2 rfl) ?_
  refine lv_iload_n hx hb dL_setWatch_6 rfl (lv_at hl 3 rfl) ?_
  refine lv_iload hx hb dL_setWatch_7 (lv_at hl 4 rfl) ?_
  refine fb_gX (As := [.int l1, .int l2, .int (fb_bI b3), .int (fb_bI b4)]) (rest := [.int (0 : Int32), .ref zx]) (E := "java/lang/IllegalArgumentException") (cs := [fb_o11 zb zt zn zv zs zp (zq 0) (zu 0) zh zst zre]) (rs := [fb_jw cJ zx 1 zg]) X hl I [0, 1] 2 rfl (by decide +kernel) rfl rfl (fb_goodV fw_1813 fw_1814 fw_1815 fw_191 fw_1816) (x_setWatch_o l D cI cJ zb zt zn zv zs zp (zq 0) (zu 0) zh zst zre l1 l2 (fb_bI b3) (fb_bI b4) _ hst gA) rfl rfl rfl (by decide +kernel : fb_hd yX11_setWatch 4) ⟨(Nat.le_of_ble_eq_true rfl), (Nat.le_of_ble_eq_true rfl)⟩ (rfl : vwCl[11]? = some _) rfl rfl rfl rfl (Nat.le_of_ble_eq_true rfl) ⟨(Nat.le_of_ble_eq_true rfl), (Nat.le_of_ble_eq_true rfl)⟩ dL_setWatch_9 ?_
  intro ce q9 H locs I h1 h2 h3
  refine vx_catch hown [] (⟨0, 14, 17, 19⟩ : ExceptionTableEntry) [(⟨0, 14, 21, 13⟩ : ExceptionTableEntry)] (hex.trans rfl) (fun z hz => by cases hz) rfl (by decide) (hts _ fw_1665) (fb_nxC X (List.mem_of_getElem? (i := 1) rfl)) h1 h2 h3 ?_
  refine lv_astore (lv' := [(6, .ref q9), (0, .ref zb), (1, .int l1), (2, .int l2), (3, .int (fb_bI b3)), (4, .int (fb_bI b4)), (5, .ref zx)]) hx hb dL_setWatch_17 hl (by decide) rfl (fun ls hl => ?_)
  refine lv_iconst (v := (1 : Int32)) hx hb dL_setWatch_19 (by decide) ?_
  refine W.widen (k := 1) (n := 6) (by omega) (by omega) ?_
  exact fb_retI (u := ()) X I rfl rfl dL_setWatch_20

set_option maxHeartbeats 4000000 in
set_option maxRecDepth 100000 in
theorem c_w_key_o (l : Launch) (D : va_G) (cI cJ : ClassId) (zb : Nat) (zt : Nat) (zn : Nat) (zv : Nat) (zs : Nat) (zp : Nat) (zq : Nat → Nat) (zu : Nat → Nat) (zh : Nat) (zst : Nat) (zre : Nat) (zx : Nat) (zg : Nat → Int64) (l1 : Int32) (sz : Nat) (hst : l.stackTraces = false) (gA : f_X11_isNoByte l1 = (1 : Int32)) : Met l yL_key (Cond.codeWith yL_key cL_key 4 (some .int) [((0 : Nat), (9 : Nat), (12 : Nat), (19 : Nat)), ((0 : Nat), (9 : Nat), (15 : Nat), (13 : Nat))] :: fb_all) ({ frames := 7, cells := 1, slots := 6, locals := 103 } : Room) (fb_PP D (fb_ty D cI cJ) [.ref zb, .int l1, .ref zx] (([fb_o11 zb zt zn zv zs zp (zq 0) (zu 0) zh zst zre, fb_jw cJ zx 1 zg] : List va_W).flatten) sz) (fb_QI D (va_A (([fb_o11 zb zt zn zv zs zp (zq 0) (zu 0) zh zst zre, fb_jw cJ zx 1 zg] : List va_W).flatten) sz) (fun (r : Int32) (_ : Unit) => r = (1 : Int32)) (fun (t : Unit) => ([fb_jw cJ zx 1 zg] : List va_W).flatten)) 1 6 (va_A (([fb_o11 zb zt zn zv zs zp (zq 0) (zu 0) zh zst zre, fb_jw cJ zx 1 zg] : List va_W).flatten) sz) := by
  refine fb_entW (Qf := fun A => (fb_QI D A (fun (r : Int32) (_ : Unit) => r = (1 : Int32)) (fun (t : Unit) => ([fb_jw cJ zx 1 zg] : List va_W).flatten))) (by decide +kernel) (Nat.le_of_ble_eq_true rfl) ?_
  intro p e s m args below meth c A ls X I hl hex
  obtain ⟨hx, hb, hr, hml, hown, hts, hlk, hA, hK, hF⟩ := id X
  have hl : lv_has ls 4 [(0, .ref zb), (1, .int l1), (2, .ref zx)] := hl
  refine lv_aload_n hx hb dL_key_0 rfl (lv_at hl 2 rfl) ?_
  refine lv_iconst (v := (0 : Int32)) hx hb dL_key_1 (by decide) ?_
  refine lv_aload_n hx hb dL_key_2 rfl (lv_at hl 0 rfl) ?_
  refine lv_iload_n hx hb dL_key_3 rfl (lv_at hl 1 rfl) ?_
  refine fb_gX (As := [.int l1]) (rest := [.int (0 : Int32), .ref zx]) (E := "java/lang/IllegalArgumentException") (cs := [fb_o11 zb zt zn zv zs zp (zq 0) (zu 0) zh zst zre]) (rs := [fb_jw cJ zx 1 zg]) X hl I [0, 1] 2 rfl (by decide +kernel) rfl rfl (fb_goodV fw_1736 fw_1737 fw_1738 fw_191 fw_1739) (x_key_o l D cI cJ zb zt zn zv zs zp (zq 0) (zu 0) zh zst zre l1 _ hst gA) rfl rfl rfl (by decide +kernel : fb_hd yX11_key 1) ⟨(Nat.le_of_ble_eq_true rfl), (Nat.le_of_ble_eq_true rfl)⟩ (rfl : vwCl[11]? = some _) rfl rfl rfl rfl (Nat.le_of_ble_eq_true rfl) ⟨(Nat.le_of_ble_eq_true rfl), (Nat.le_of_ble_eq_true rfl)⟩ dL_key_4 ?_
  intro ce q9 H locs I h1 h2 h3
  refine vx_catch hown [] (⟨0, 9, 12, 19⟩ : ExceptionTableEntry) [(⟨0, 9, 15, 13⟩ : ExceptionTableEntry)] (hex.trans rfl) (fun z hz => by cases hz) rfl (by decide) (hts _ fw_1665) (fb_nxC X (List.mem_of_getElem? (i := 1) rfl)) h1 h2 h3 ?_
  refine lv_astore_n (lv' := [(3, .ref q9), (0, .ref zb), (1, .int l1), (2, .ref zx)]) hx hb dL_key_12 rfl hl (by decide) rfl (fun ls hl => ?_)
  refine lv_iconst (v := (1 : Int32)) hx hb dL_key_13 (by decide) ?_
  refine W.widen (k := 1) (n := 6) (by omega) (by omega) ?_
  exact fb_retI (u := ()) X I rfl rfl dL_key_14

set_option maxHeartbeats 4000000 in
set_option maxRecDepth 100000 in
theorem c_w_run_o (l : Launch) (D : va_G) (cI cJ : ClassId) (zb : Nat) (zt : Nat) (zn : Nat) (zv : Nat) (zs : Nat) (zp : Nat) (zq : Nat → Nat) (zu : Nat → Nat) (zh : Nat) (zst : Nat) (zre : Nat) (zx : Nat) (zg : Nat → Int64) (l1 : Int32) (sz : Nat) (hst : l.stackTraces = false) (gA : f_X11_isNoSpan l1 = (1 : Int32)) : Met l yL_run (Cond.codeWith yL_run cL_run 4 (some .int) [((0 : Nat), (9 : Nat), (12 : Nat), (19 : Nat))] :: fb_all) ({ frames := 7, cells := 1, slots := 6, locals := 103 } : Room) (fb_PP D (fb_ty D cI cJ) [.ref zb, .int l1, .ref zx] (([fb_o11 zb zt zn zv zs zp (zq 0) (zu 0) zh zst zre, fb_jw cJ zx 1 zg] : List va_W).flatten) sz) (fb_QI D (va_A (([fb_o11 zb zt zn zv zs zp (zq 0) (zu 0) zh zst zre, fb_jw cJ zx 1 zg] : List va_W).flatten) sz) (fun (r : Int32) (_ : Unit) => r = (1 : Int32)) (fun (t : Unit) => ([fb_jw cJ zx 1 zg] : List va_W).flatten)) 1 6 (va_A (([fb_o11 zb zt zn zv zs zp (zq 0) (zu 0) zh zst zre, fb_jw cJ zx 1 zg] : List va_W).flatten) sz) := by
  refine fb_entW (Qf := fun A => (fb_QI D A (fun (r : Int32) (_ : Unit) => r = (1 : Int32)) (fun (t : Unit) => ([fb_jw cJ zx 1 zg] : List va_W).flatten))) (by decide +kernel) (Nat.le_of_ble_eq_true rfl) ?_
  intro p e s m args below meth c A ls X I hl hex
  obtain ⟨hx, hb, hr, hml, hown, hts, hlk, hA, hK, hF⟩ := id X
  have hl : lv_has ls 4 [(0, .ref zb), (1, .int l1), (2, .ref zx)] := hl
  refine lv_aload_n hx hb dL_run_0 rfl (lv_at hl 2 rfl) ?_
  refine lv_iconst (v := (0 : Int32)) hx hb dL_run_1 (by decide) ?_
  refine lv_aload_n hx hb dL_run_2 rfl (lv_at hl 0 rfl) ?_
  refine lv_iload_n hx hb dL_run_3 rfl (lv_at hl 1 rfl) ?_
  refine fb_gX (As := [.int l1]) (rest := [.int (0 : Int32), .ref zx]) (E := "java/lang/IllegalArgumentException") (cs := [fb_o11 zb zt zn zv zs zp (zq 0) (zu 0) zh zst zre]) (rs := [fb_jw cJ zx 1 zg]) X hl I [0, 1] 2 rfl (by decide +kernel) rfl rfl (fb_goodV fw_1775 fw_1776 fw_1777 fw_191 fw_1778) (x_run_o l D cI cJ zb zt zn zv zs zp (zq 0) (zu 0) zh zst zre l1 _ hst gA) rfl rfl rfl (by decide +kernel : fb_hd yX11_run 1) ⟨(Nat.le_of_ble_eq_true rfl), (Nat.le_of_ble_eq_true rfl)⟩ (rfl : vwCl[11]? = some _) rfl rfl rfl rfl (Nat.le_of_ble_eq_true rfl) ⟨(Nat.le_of_ble_eq_true rfl), (Nat.le_of_ble_eq_true rfl)⟩ dL_run_4 ?_
  intro ce q9 H locs I h1 h2 h3
  refine vx_catch hown [] (⟨0, 9, 12, 19⟩ : ExceptionTableEntry) [] (hex.trans rfl) (fun z hz => by cases hz) rfl (by decide) (hts _ fw_1665) (fb_nxC X (List.mem_of_getElem? (i := 1) rfl)) h1 h2 h3 ?_
  refine lv_astore_n (lv' := [(3, .ref q9), (0, .ref zb), (1, .int l1), (2, .ref zx)]) hx hb dL_run_12 rfl hl (by decide) rfl (fun ls hl => ?_)
  refine lv_iconst (v := (1 : Int32)) hx hb dL_run_13 (by decide) ?_
  refine W.widen (k := 1) (n := 6) (by omega) (by omega) ?_
  exact fb_retI (u := ()) X I rfl rfl dL_run_14

set_option maxHeartbeats 4000000 in
set_option maxRecDepth 100000 in
theorem c_w_cyclesToHalt_o (l : Launch) (D : va_G) (cI cJ : ClassId) (zb : Nat) (zt : Nat) (zn : Nat) (zv : Nat) (zs : Nat) (zp : Nat) (zq : Nat → Nat) (zu : Nat → Nat) (zh : Nat) (zst : Nat) (zre : Nat) (zx : Nat) (zg : Nat → Int64) (l1 : Int32) (sz : Nat) (hst : l.stackTraces = false) (gA : f_X11_isNoSpan l1 = (1 : Int32)) : Met l yL_cyclesToHalt (Cond.codeWith yL_cyclesToHalt cL_cyclesToHalt 4 (some .int) [((0 : Nat), (9 : Nat), (12 : Nat), (19 : Nat))] :: fb_all) ({ frames := 7, cells := 1, slots := 6, locals := 105 } : Room) (fb_PP D (fb_ty D cI cJ) [.ref zb, .int l1, .ref zx] (([fb_o11 zb zt zn zv zs zp (zq 0) (zu 0) zh zst zre, fb_jw cJ zx 1 zg] : List va_W).flatten) sz) (fb_QI D (va_A (([fb_o11 zb zt zn zv zs zp (zq 0) (zu 0) zh zst zre, fb_jw cJ zx 1 zg] : List va_W).flatten) sz) (fun (r : Int32) (_ : Unit) => r = (1 : Int32)) (fun (t : Unit) => ([fb_jw cJ zx 1 zg] : List va_W).flatten)) 1 6 (va_A (([fb_o11 zb zt zn zv zs zp (zq 0) (zu 0) zh zst zre, fb_jw cJ zx 1 zg] : List va_W).flatten) sz) := by
  refine fb_entW (Qf := fun A => (fb_QI D A (fun (r : Int32) (_ : Unit) => r = (1 : Int32)) (fun (t : Unit) => ([fb_jw cJ zx 1 zg] : List va_W).flatten))) (by decide +kernel) (Nat.le_of_ble_eq_true rfl) ?_
  intro p e s m args below meth c A ls X I hl hex
  obtain ⟨hx, hb, hr, hml, hown, hts, hlk, hA, hK, hF⟩ := id X
  have hl : lv_has ls 4 [(0, .ref zb), (1, .int l1), (2, .ref zx)] := hl
  refine lv_aload_n hx hb dL_cyclesToHalt_0 rfl (lv_at hl 2 rfl) ?_
  refine lv_iconst (v := (0 : Int32)) hx hb dL_cyclesToHalt_1 (by decide) ?_
  refine lv_aload_n hx hb dL_cyclesToHalt_2 rfl (lv_at hl 0 rfl) ?_
  refine lv_iload_n hx hb dL_cyclesToHalt_3 rfl (lv_at hl 1 rfl) ?_
  refine fb_gX (As := [.int l1]) (rest := [.int (0 : Int32), .ref zx]) (E := "java/lang/IllegalArgumentException") (cs := [fb_o11 zb zt zn zv zs zp (zq 0) (zu 0) zh zst zre]) (rs := [fb_jw cJ zx 1 zg]) X hl I [0, 1] 2 rfl (by decide +kernel) rfl rfl (fb_goodV fw_1891 fw_1892 fw_1893 fw_191 fw_1894) (x_cyclesToHalt_o l D cI cJ zb zt zn zv zs zp (zq 0) (zu 0) zh zst zre l1 _ hst gA) rfl rfl rfl (by decide +kernel : fb_hd yX11_cyclesToHalt 1) ⟨(Nat.le_of_ble_eq_true rfl), (Nat.le_of_ble_eq_true rfl)⟩ (rfl : vwCl[11]? = some _) rfl rfl rfl rfl (Nat.le_of_ble_eq_true rfl) ⟨(Nat.le_of_ble_eq_true rfl), (Nat.le_of_ble_eq_true rfl)⟩ dL_cyclesToHalt_4 ?_
  intro ce q9 H locs I h1 h2 h3
  refine vx_catch hown [] (⟨0, 9, 12, 19⟩ : ExceptionTableEntry) [] (hex.trans rfl) (fun z hz => by cases hz) rfl (by decide) (hts _ fw_1665) (fb_nxC X (List.mem_of_getElem? (i := 1) rfl)) h1 h2 h3 ?_
  refine lv_astore_n (lv' := [(3, .ref q9), (0, .ref zb), (1, .int l1), (2, .ref zx)]) hx hb dL_cyclesToHalt_12 rfl hl (by decide) rfl (fun ls hl => ?_)
  refine lv_iconst (v := (1 : Int32)) hx hb dL_cyclesToHalt_13 (by decide) ?_
  refine W.widen (k := 1) (n := 6) (by omega) (by omega) ?_
  exact fb_retI (u := ()) X I rfl rfl dL_cyclesToHalt_14

set_option maxHeartbeats 4000000 in
set_option maxRecDepth 100000 in
theorem c_w_outputsIn_o (l : Launch) (D : va_G) (cI cJ : ClassId) (zb : Nat) (zt : Nat) (zn : Nat) (zv : Nat) (zs : Nat) (zp : Nat) (zq : Nat → Nat) (zu : Nat → Nat) (zh : Nat) (zst : Nat) (zre : Nat) (zx : Nat) (zg : Nat → Int64) (l1 : Int32) (sz : Nat) (hst : l.stackTraces = false) (gA : f_X11_isNoSpan l1 = (1 : Int32)) : Met l yL_outputsIn (Cond.codeWith yL_outputsIn cL_outputsIn 4 (some .int) [((0 : Nat), (9 : Nat), (12 : Nat), (19 : Nat))] :: fb_all) ({ frames := 7, cells := 1, slots := 6, locals := 105 } : Room) (fb_PP D (fb_ty D cI cJ) [.ref zb, .int l1, .ref zx] (([fb_o11 zb zt zn zv zs zp (zq 0) (zu 0) zh zst zre, fb_jw cJ zx 1 zg] : List va_W).flatten) sz) (fb_QI D (va_A (([fb_o11 zb zt zn zv zs zp (zq 0) (zu 0) zh zst zre, fb_jw cJ zx 1 zg] : List va_W).flatten) sz) (fun (r : Int32) (_ : Unit) => r = (1 : Int32)) (fun (t : Unit) => ([fb_jw cJ zx 1 zg] : List va_W).flatten)) 1 6 (va_A (([fb_o11 zb zt zn zv zs zp (zq 0) (zu 0) zh zst zre, fb_jw cJ zx 1 zg] : List va_W).flatten) sz) := by
  refine fb_entW (Qf := fun A => (fb_QI D A (fun (r : Int32) (_ : Unit) => r = (1 : Int32)) (fun (t : Unit) => ([fb_jw cJ zx 1 zg] : List va_W).flatten))) (by decide +kernel) (Nat.le_of_ble_eq_true rfl) ?_
  intro p e s m args below meth c A ls X I hl hex
  obtain ⟨hx, hb, hr, hml, hown, hts, hlk, hA, hK, hF⟩ := id X
  have hl : lv_has ls 4 [(0, .ref zb), (1, .int l1), (2, .ref zx)] := hl
  refine lv_aload_n hx hb dL_outputsIn_0 rfl (lv_at hl 2 rfl) ?_
  refine lv_iconst (v := (0 : Int32)) hx hb dL_outputsIn_1 (by decide) ?_
  refine lv_aload_n hx hb dL_outputsIn_2 rfl (lv_at hl 0 rfl) ?_
  refine lv_iload_n hx hb dL_outputsIn_3 rfl (lv_at hl 1 rfl) ?_
  refine fb_gX (As := [.int l1]) (rest := [.int (0 : Int32), .ref zx]) (E := "java/lang/IllegalArgumentException") (cs := [fb_o11 zb zt zn zv zs zp (zq 0) (zu 0) zh zst zre]) (rs := [fb_jw cJ zx 1 zg]) X hl I [0, 1] 2 rfl (by decide +kernel) rfl rfl (fb_goodV fw_1911 fw_1912 fw_1913 fw_191 fw_1914) (x_outputsIn_o l D cI cJ zb zt zn zv zs zp (zq 0) (zu 0) zh zst zre l1 _ hst gA) rfl rfl rfl (by decide +kernel : fb_hd yX11_outputsIn 1) ⟨(Nat.le_of_ble_eq_true rfl), (Nat.le_of_ble_eq_true rfl)⟩ (rfl : vwCl[11]? = some _) rfl rfl rfl rfl (Nat.le_of_ble_eq_true rfl) ⟨(Nat.le_of_ble_eq_true rfl), (Nat.le_of_ble_eq_true rfl)⟩ dL_outputsIn_4 ?_
  intro ce q9 H locs I h1 h2 h3
  refine vx_catch hown [] (⟨0, 9, 12, 19⟩ : ExceptionTableEntry) [] (hex.trans rfl) (fun z hz => by cases hz) rfl (by decide) (hts _ fw_1665) (fb_nxC X (List.mem_of_getElem? (i := 1) rfl)) h1 h2 h3 ?_
  refine lv_astore_n (lv' := [(3, .ref q9), (0, .ref zb), (1, .int l1), (2, .ref zx)]) hx hb dL_outputsIn_12 rfl hl (by decide) rfl (fun ls hl => ?_)
  refine lv_iconst (v := (1 : Int32)) hx hb dL_outputsIn_13 (by decide) ?_
  refine W.widen (k := 1) (n := 6) (by omega) (by omega) ?_
  exact fb_retI (u := ()) X I rfl rfl dL_outputsIn_14

set_option maxHeartbeats 4000000 in
set_option maxRecDepth 100000 in
theorem c_w_cyclesToReach_b (l : Launch) (D : va_G) (cI cJ : ClassId) (zb : Nat) (zt : Nat) (zn : Nat) (zv : Nat) (zs : Nat) (zp : Nat) (zq : Nat → Nat) (zu : Nat → Nat) (zh : Nat) (zst : Nat) (zre : Nat) (zx : Nat) (zg : Nat → Int64) (l1 : Int32) (l2 : Int32) (sz : Nat) (hst : l.stackTraces = false) (gA0 : f_X11_isNoAddress l1 = (0 : Int32)) (gA : f_X11_isNoSpan l2 = (1 : Int32)) : Met l yL_cyclesToReach (Cond.codeWith yL_cyclesToReach cL_cyclesToReach 5 (some .int) [((0 : Nat), (10 : Nat), (13 : Nat), (19 : Nat))] :: fb_all) ({ frames := 7, cells := 1, slots := 6, locals := 107 } : Room) (fb_PP D (fb_ty D cI cJ) [.ref zb, .int l1, .int l2, .ref zx] (([fb_o11 zb zt zn zv zs zp (zq 0) (zu 0) zh zst zre, fb_jw cJ zx 1 zg] : List va_W).flatten) sz) (fb_QI D (va_A (([fb_o11 zb zt zn zv zs zp (zq 0) (zu 0) zh zst zre, fb_jw cJ zx 1 zg] : List va_W).flatten) sz) (fun (r : Int32) (_ : Unit) => r = (1 : Int32)) (fun (t : Unit) => ([fb_jw cJ zx 1 zg] : List va_W).flatten)) 1 6 (va_A (([fb_o11 zb zt zn zv zs zp (zq 0) (zu 0) zh zst zre, fb_jw cJ zx 1 zg] : List va_W).flatten) sz) := by
  refine fb_entW (Qf := fun A => (fb_QI D A (fun (r : Int32) (_ : Unit) => r = (1 : Int32)) (fun (t : Unit) => ([fb_jw cJ zx 1 zg] : List va_W).flatten))) (by decide +kernel) (Nat.le_of_ble_eq_true rfl) ?_
  intro p e s m args below meth c A ls X I hl hex
  obtain ⟨hx, hb, hr, hml, hown, hts, hlk, hA, hK, hF⟩ := id X
  have hl : lv_has ls 5 [(0, .ref zb), (1, .int l1), (2, .int l2), (3, .ref zx)] := hl
  refine lv_aload_n hx hb dL_cyclesToReach_0 rfl (lv_at hl 3 rfl) ?_
  refine lv_iconst (v := (0 : Int32)) hx hb dL_cyclesToReach_1 (by decide) ?_
  refine lv_aload_n hx hb dL_cyclesToReach_2 rfl (lv_at hl 0 rfl) ?_
  refine lv_iload_n hx hb dL_cyclesToReach_3 rfl (lv_at hl 1 rfl) ?_
  refine lv_iload_n hx hb dL_cyclesToReach_4 rfl (lv_at hl 2 rfl) ?_
  refine fb_gX (As := [.int l1, .int l2]) (rest := [.int (0 : Int32), .ref zx]) (E := "java/lang/IllegalArgumentException") (cs := [fb_o11 zb zt zn zv zs zp (zq 0) (zu 0) zh zst zre]) (rs := [fb_jw cJ zx 1 zg]) X hl I [0, 1] 2 rfl (by decide +kernel) rfl rfl (fb_goodV fw_1899 fw_1900 fw_1901 fw_191 fw_1902) (x_cyclesToReach_b l D cI cJ zb zt zn zv zs zp (zq 0) (zu 0) zh zst zre l1 l2 _ hst gA0 gA) rfl rfl rfl (by decide +kernel : fb_hd yX11_cyclesToReach 2) ⟨(Nat.le_of_ble_eq_true rfl), (Nat.le_of_ble_eq_true rfl)⟩ (rfl : vwCl[11]? = some _) rfl rfl rfl rfl (Nat.le_of_ble_eq_true rfl) ⟨(Nat.le_of_ble_eq_true rfl), (Nat.le_of_ble_eq_true rfl)⟩ dL_cyclesToReach_5 ?_
  intro ce q9 H locs I h1 h2 h3
  refine vx_catch hown [] (⟨0, 10, 13, 19⟩ : ExceptionTableEntry) [] (hex.trans rfl) (fun z hz => by cases hz) rfl (by decide) (hts _ fw_1665) (fb_nxC X (List.mem_of_getElem? (i := 1) rfl)) h1 h2 h3 ?_
  refine lv_astore (lv' := [(4, .ref q9), (0, .ref zb), (1, .int l1), (2, .int l2), (3, .ref zx)]) hx hb dL_cyclesToReach_13 hl (by decide) rfl (fun ls hl => ?_)
  refine lv_iconst (v := (1 : Int32)) hx hb dL_cyclesToReach_15 (by decide) ?_
  refine W.widen (k := 1) (n := 6) (by omega) (by omega) ?_
  exact fb_retI (u := ()) X I rfl rfl dL_cyclesToReach_16

set_option maxHeartbeats 4000000 in
set_option maxRecDepth 100000 in
theorem c_w_writesIn_b (l : Launch) (D : va_G) (cI cJ : ClassId) (zb : Nat) (zt : Nat) (zn : Nat) (zv : Nat) (zs : Nat) (zp : Nat) (zq : Nat → Nat) (zu : Nat → Nat) (zh : Nat) (zst : Nat) (zre : Nat) (zx : Nat) (zg : Nat → Int64) (l1 : Int32) (l2 : Int32) (sz : Nat) (hst : l.stackTraces = false) (gA0 : f_X11_isNoAddress l1 = (0 : Int32)) (gA : f_X11_isNoSpan l2 = (1 : Int32)) : Met l yL_writesIn (Cond.codeWith yL_writesIn cL_writesIn 5 (some .int) [((0 : Nat), (10 : Nat), (13 : Nat), (19 : Nat))] :: fb_all) ({ frames := 7, cells := 1, slots := 6, locals := 107 } : Room) (fb_PP D (fb_ty D cI cJ) [.ref zb, .int l1, .int l2, .ref zx] (([fb_o11 zb zt zn zv zs zp (zq 0) (zu 0) zh zst zre, fb_jw cJ zx 1 zg] : List va_W).flatten) sz) (fb_QI D (va_A (([fb_o11 zb zt zn zv zs zp (zq 0) (zu 0) zh zst zre, fb_jw cJ zx 1 zg] : List va_W).flatten) sz) (fun (r : Int32) (_ : Unit) => r = (1 : Int32)) (fun (t : Unit) => ([fb_jw cJ zx 1 zg] : List va_W).flatten)) 1 6 (va_A (([fb_o11 zb zt zn zv zs zp (zq 0) (zu 0) zh zst zre, fb_jw cJ zx 1 zg] : List va_W).flatten) sz) := by
  refine fb_entW (Qf := fun A => (fb_QI D A (fun (r : Int32) (_ : Unit) => r = (1 : Int32)) (fun (t : Unit) => ([fb_jw cJ zx 1 zg] : List va_W).flatten))) (by decide +kernel) (Nat.le_of_ble_eq_true rfl) ?_
  intro p e s m args below meth c A ls X I hl hex
  obtain ⟨hx, hb, hr, hml, hown, hts, hlk, hA, hK, hF⟩ := id X
  have hl : lv_has ls 5 [(0, .ref zb), (1, .int l1), (2, .int l2), (3, .ref zx)] := hl
  refine lv_aload_n hx hb dL_writesIn_0 rfl (lv_at hl 3 rfl) ?_
  refine lv_iconst (v := (0 : Int32)) hx hb dL_writesIn_1 (by decide) ?_
  refine lv_aload_n hx hb dL_writesIn_2 rfl (lv_at hl 0 rfl) ?_
  refine lv_iload_n hx hb dL_writesIn_3 rfl (lv_at hl 1 rfl) ?_
  refine lv_iload_n hx hb dL_writesIn_4 rfl (lv_at hl 2 rfl) ?_
  refine fb_gX (As := [.int l1, .int l2]) (rest := [.int (0 : Int32), .ref zx]) (E := "java/lang/IllegalArgumentException") (cs := [fb_o11 zb zt zn zv zs zp (zq 0) (zu 0) zh zst zre]) (rs := [fb_jw cJ zx 1 zg]) X hl I [0, 1] 2 rfl (by decide +kernel) rfl rfl (fb_goodV fw_1918 fw_1919 fw_1920 fw_191 fw_1921) (x_writesIn_b l D cI cJ zb zt zn zv zs zp (zq 0) (zu 0) zh zst zre l1 l2 _ hst gA0 gA) rfl rfl rfl (by decide +kernel : fb_hd yX11_writesIn 2) ⟨(Nat.le_of_ble_eq_true rfl), (Nat.le_of_ble_eq_true rfl)⟩ (rfl : vwCl[11]? = some _) rfl rfl rfl rfl (Nat.le_of_ble_eq_true rfl) ⟨(Nat.le_of_ble_eq_true rfl), (Nat.le_of_ble_eq_true rfl)⟩ dL_writesIn_5 ?_
  intro ce q9 H locs I h1 h2 h3
  refine vx_catch hown [] (⟨0, 10, 13, 19⟩ : ExceptionTableEntry) [] (hex.trans rfl) (fun z hz => by cases hz) rfl (by decide) (hts _ fw_1665) (fb_nxC X (List.mem_of_getElem? (i := 1) rfl)) h1 h2 h3 ?_
  refine lv_astore (lv' := [(4, .ref q9), (0, .ref zb), (1, .int l1), (2, .int l2), (3, .ref zx)]) hx hb dL_writesIn_13 hl (by decide) rfl (fun ls hl => ?_)
  refine lv_iconst (v := (1 : Int32)) hx hb dL_writesIn_15 (by decide) ?_
  refine W.widen (k := 1) (n := 6) (by omega) (by omega) ?_
  exact fb_retI (u := ()) X I rfl rfl dL_writesIn_16

set_option maxHeartbeats 4000000 in
set_option maxRecDepth 100000 in
theorem c_w_poke_p (l : Launch) (D : va_G) (cI cJ : ClassId) (zb : Nat) (zt : Nat) (zn : Nat) (zv : Nat) (zs : Nat) (zp : Nat) (zq : Nat → Nat) (zu : Nat → Nat) (zh : Nat) (zst : Nat) (zre : Nat) (zx : Nat) (zg : Nat → Int64) (l1 : Int32) (l2 : Int32) (sz : Nat) (hst : l.stackTraces = false) (gA0 : f_X11_isNoAddress l1 = (0 : Int32)) (gP : f_X11_isPort l1 = (1 : Int32)) : Met l yL_poke (Cond.codeWith yL_poke cL_poke 5 (some .int) [((0 : Nat), (10 : Nat), (13 : Nat), (19 : Nat))] :: fb_all) ({ frames := 7, cells := 1, slots := 6, locals := 106 } : Room) (fb_PP D (fb_ty D cI cJ) [.ref zb, .int l1, .int l2, .ref zx] (([fb_o11 zb zt zn zv zs zp (zq 0) (zu 0) zh zst zre, fb_jw cJ zx 1 zg] : List va_W).flatten) sz) (fb_QI D (va_A (([fb_o11 zb zt zn zv zs zp (zq 0) (zu 0) zh zst zre, fb_jw cJ zx 1 zg] : List va_W).flatten) sz) (fun (r : Int32) (_ : Unit) => r = (1 : Int32)) (fun (t : Unit) => ([fb_jw cJ zx 1 zg] : List va_W).flatten)) 1 6 (va_A (([fb_o11 zb zt zn zv zs zp (zq 0) (zu 0) zh zst zre, fb_jw cJ zx 1 zg] : List va_W).flatten) sz) := by
  refine fb_entW (Qf := fun A => (fb_QI D A (fun (r : Int32) (_ : Unit) => r = (1 : Int32)) (fun (t : Unit) => ([fb_jw cJ zx 1 zg] : List va_W).flatten))) (by decide +kernel) (Nat.le_of_ble_eq_true rfl) ?_
  intro p e s m args below meth c A ls X I hl hex
  obtain ⟨hx, hb, hr, hml, hown, hts, hlk, hA, hK, hF⟩ := id X
  have hl : lv_has ls 5 [(0, .ref zb), (1, .int l1), (2, .int l2), (3, .ref zx)] := hl
  refine lv_aload_n hx hb dL_poke_0 rfl (lv_at hl 3 rfl) ?_
  refine lv_iconst (v := (0 : Int32)) hx hb dL_poke_1 (by decide) ?_
  refine lv_aload_n hx hb dL_poke_2 rfl (lv_at hl 0 rfl) ?_
  refine lv_iload_n hx hb dL_poke_3 rfl (lv_at hl 1 rfl) ?_
  refine lv_iload_n hx hb dL_poke_4 rfl (lv_at hl 2 rfl) ?_
  refine fb_gX (As := [.int l1, .int l2]) (rest := [.int (0 : Int32), .ref zx]) (E := "java/lang/IllegalArgumentException") (cs := [fb_o11 zb zt zn zv zs zp (zq 0) (zu 0) zh zst zre]) (rs := [fb_jw cJ zx 1 zg]) X hl I [0, 1] 2 rfl (by decide +kernel) rfl rfl (fb_goodV fw_1752 fw_1753 fw_1754 fw_191 fw_1755) (x_poke_p l D cI cJ zb zt zn zv zs zp (zq 0) (zu 0) zh zst zre l1 l2 _ hst gA0 gP) rfl rfl rfl (by decide +kernel : fb_hd yX11_poke 2) ⟨(Nat.le_of_ble_eq_true rfl), (Nat.le_of_ble_eq_true rfl)⟩ (rfl : vwCl[11]? = some _) rfl rfl rfl rfl (Nat.le_of_ble_eq_true rfl) ⟨(Nat.le_of_ble_eq_true rfl), (Nat.le_of_ble_eq_true rfl)⟩ dL_poke_5 ?_
  intro ce q9 H locs I h1 h2 h3
  refine vx_catch hown [] (⟨0, 10, 13, 19⟩ : ExceptionTableEntry) [] (hex.trans rfl) (fun z hz => by cases hz) rfl (by decide) (hts _ fw_1665) (fb_nxC X (List.mem_of_getElem? (i := 1) rfl)) h1 h2 h3 ?_
  refine lv_astore (lv' := [(4, .ref q9), (0, .ref zb), (1, .int l1), (2, .int l2), (3, .ref zx)]) hx hb dL_poke_13 hl (by decide) rfl (fun ls hl => ?_)
  refine lv_iconst (v := (1 : Int32)) hx hb dL_poke_15 (by decide) ?_
  refine W.widen (k := 1) (n := 6) (by omega) (by omega) ?_
  exact fb_retI (u := ()) X I rfl rfl dL_poke_16

set_option maxHeartbeats 4000000 in
set_option maxRecDepth 100000 in
theorem c_w_poke_b (l : Launch) (D : va_G) (cI cJ : ClassId) (zb : Nat) (zt : Nat) (zn : Nat) (zv : Nat) (zs : Nat) (zp : Nat) (zq : Nat → Nat) (zu : Nat → Nat) (zh : Nat) (zst : Nat) (zre : Nat) (zx : Nat) (zg : Nat → Int64) (l1 : Int32) (l2 : Int32) (sz : Nat) (hst : l.stackTraces = false) (gA0 : f_X11_isNoAddress l1 = (0 : Int32)) (gP : f_X11_isPort l1 = (0 : Int32)) (gA : f_X11_isNoByte l2 = (1 : Int32)) : Met l yL_poke (Cond.codeWith yL_poke cL_poke 5 (some .int) [((0 : Nat), (10 : Nat), (13 : Nat), (19 : Nat))] :: fb_all) ({ frames := 7, cells := 1, slots := 6, locals := 106 } : Room) (fb_PP D (fb_ty D cI cJ) [.ref zb, .int l1, .int l2, .ref zx] (([fb_o11 zb zt zn zv zs zp (zq 0) (zu 0) zh zst zre, fb_jw cJ zx 1 zg] : List va_W).flatten) sz) (fb_QI D (va_A (([fb_o11 zb zt zn zv zs zp (zq 0) (zu 0) zh zst zre, fb_jw cJ zx 1 zg] : List va_W).flatten) sz) (fun (r : Int32) (_ : Unit) => r = (1 : Int32)) (fun (t : Unit) => ([fb_jw cJ zx 1 zg] : List va_W).flatten)) 1 6 (va_A (([fb_o11 zb zt zn zv zs zp (zq 0) (zu 0) zh zst zre, fb_jw cJ zx 1 zg] : List va_W).flatten) sz) := by
  refine fb_entW (Qf := fun A => (fb_QI D A (fun (r : Int32) (_ : Unit) => r = (1 : Int32)) (fun (t : Unit) => ([fb_jw cJ zx 1 zg] : List va_W).flatten))) (by decide +kernel) (Nat.le_of_ble_eq_true rfl) ?_
  intro p e s m args below meth c A ls X I hl hex
  obtain ⟨hx, hb, hr, hml, hown, hts, hlk, hA, hK, hF⟩ := id X
  have hl : lv_has ls 5 [(0, .ref zb), (1, .int l1), (2, .int l2), (3, .ref zx)] := hl
  refine lv_aload_n hx hb dL_poke_0 rfl (lv_at hl 3 rfl) ?_
  refine lv_iconst (v := (0 : Int32)) hx hb dL_poke_1 (by decide) ?_
  refine lv_aload_n hx hb dL_poke_2 rfl (lv_at hl 0 rfl) ?_
  refine lv_iload_n hx hb dL_poke_3 rfl (lv_at hl 1 rfl) ?_
  refine lv_iload_n hx hb dL_poke_4 rfl (lv_at hl 2 rfl) ?_
  refine fb_gX (As := [.int l1, .int l2]) (rest := [.int (0 : Int32), .ref zx]) (E := "java/lang/IllegalArgumentException") (cs := [fb_o11 zb zt zn zv zs zp (zq 0) (zu 0) zh zst zre]) (rs := [fb_jw cJ zx 1 zg]) X hl I [0, 1] 2 rfl (by decide +kernel) rfl rfl (fb_goodV fw_1752 fw_1753 fw_1754 fw_191 fw_1755) (x_poke_b l D cI cJ zb zt zn zv zs zp (zq 0) (zu 0) zh zst zre l1 l2 _ hst gA0 gP gA) rfl rfl rfl (by decide +kernel : fb_hd yX11_poke 2) ⟨(Nat.le_of_ble_eq_true rfl), (Nat.le_of_ble_eq_true rfl)⟩ (rfl : vwCl[11]? = some _) rfl rfl rfl rfl (Nat.le_of_ble_eq_true rfl) ⟨(Nat.le_of_ble_eq_true rfl), (Nat.le_of_ble_eq_true rfl)⟩ dL_poke_5 ?_
  intro ce q9 H locs I h1 h2 h3
  refine vx_catch hown [] (⟨0, 10, 13, 19⟩ : ExceptionTableEntry) [] (hex.trans rfl) (fun z hz => by cases hz) rfl (by decide) (hts _ fw_1665) (fb_nxC X (List.mem_of_getElem? (i := 1) rfl)) h1 h2 h3 ?_
  refine lv_astore (lv' := [(4, .ref q9), (0, .ref zb), (1, .int l1), (2, .int l2), (3, .ref zx)]) hx hb dL_poke_13 hl (by decide) rfl (fun ls hl => ?_)
  refine lv_iconst (v := (1 : Int32)) hx hb dL_poke_15 (by decide) ?_
  refine W.widen (k := 1) (n := 6) (by omega) (by omega) ?_
  exact fb_retI (u := ()) X I rfl rfl dL_poke_16

set_option maxHeartbeats 4000000 in
set_option maxRecDepth 100000 in
theorem c_w_setBreak_a (l : Launch) (D : va_G) (cI cJ : ClassId) (zb : Nat) (zt : Nat) (zn : Nat) (zv : Nat) (zs : Nat) (zp : Nat) (zq : Nat → Nat) (zu : Nat → Nat) (zh : Nat) (zst : Nat) (zre : Nat) (zx : Nat) (zg : Nat → Int64) (l1 : Int32) (l2 : Int32) (sz : Nat) (hst : l.stackTraces = false) (gA0 : f_X11_isNoAddress l1 = (0 : Int32)) (h0 : l2 < 0) : Met l yL_setBreak (Cond.codeWith yL_setBreak cL_setBreak 5 (some .int) [((0 : Nat), (10 : Nat), (13 : Nat), (19 : Nat)), ((0 : Nat), (10 : Nat), (17 : Nat), (13 : Nat))] :: fb_all) ({ frames := 7, cells := 1, slots := 6, locals := 104 } : Room) (fb_PP D (fb_ty D cI cJ) [.ref zb, .int l1, .int l2, .ref zx] (([fb_o11 zb zt zn zv zs zp (zq 0) (zu 0) zh zst zre, fb_jw cJ zx 1 zg] : List va_W).flatten) sz) (fb_QI D (va_A (([fb_o11 zb zt zn zv zs zp (zq 0) (zu 0) zh zst zre, fb_jw cJ zx 1 zg] : List va_W).flatten) sz) (fun (r : Int32) (_ : Unit) => r = (1 : Int32)) (fun (t : Unit) => ([fb_jw cJ zx 1 zg] : List va_W).flatten)) 1 6 (va_A (([fb_o11 zb zt zn zv zs zp (zq 0) (zu 0) zh zst zre, fb_jw cJ zx 1 zg] : List va_W).flatten) sz) := by
  refine fb_entW (Qf := fun A => (fb_QI D A (fun (r : Int32) (_ : Unit) => r = (1 : Int32)) (fun (t : Unit) => ([fb_jw cJ zx 1 zg] : List va_W).flatten))) (by decide +kernel) (Nat.le_of_ble_eq_true rfl) ?_
  intro p e s m args below meth c A ls X I hl hex
  obtain ⟨hx, hb, hr, hml, hown, hts, hlk, hA, hK, hF⟩ := id X
  have hl : lv_has ls 5 [(0, .ref zb), (1, .int l1), (2, .int l2), (3, .ref zx)] := hl
  refine lv_aload_n hx hb dL_setBreak_0 rfl (lv_at hl 3 rfl) ?_
  refine lv_iconst (v := (0 : Int32)) hx hb dL_setBreak_1 (by decide) ?_
  refine lv_aload_n hx hb dL_setBreak_2 rfl (lv_at hl 0 rfl) ?_
  refine lv_iload_n hx hb dL_setBreak_3 rfl (lv_at hl 1 rfl) ?_
  refine lv_iload_n hx hb dL_setBreak_4 rfl (lv_at hl 2 rfl) ?_
  refine fb_gX (As := [.int l1, .int l2]) (rest := [.int (0 : Int32), .ref zx]) (E := "java/lang/IllegalArgumentException") (cs := [fb_o11 zb zt zn zv zs zp (zq 0) (zu 0) zh zst zre]) (rs := [fb_jw cJ zx 1 zg]) X hl I [0, 1] 2 rfl (by decide +kernel) rfl rfl (fb_goodV fw_1799 fw_1800 fw_1801 fw_191 fw_1802) (x_setBreak_a l D cI cJ zb zt zn zv zs zp (zq 0) (zu 0) zh zst zre l1 l2 _ hst gA0 h0) rfl rfl rfl (by decide +kernel : fb_hd yX11_setBreak 2) ⟨(Nat.le_of_ble_eq_true rfl), (Nat.le_of_ble_eq_true rfl)⟩ (rfl : vwCl[11]? = some _) rfl rfl rfl rfl (Nat.le_of_ble_eq_true rfl) ⟨(Nat.le_of_ble_eq_true rfl), (Nat.le_of_ble_eq_true rfl)⟩ dL_setBreak_5 ?_
  intro ce q9 H locs I h1 h2 h3
  refine vx_catch hown [] (⟨0, 10, 13, 19⟩ : ExceptionTableEntry) [(⟨0, 10, 17, 13⟩ : ExceptionTableEntry)] (hex.trans rfl) (fun z hz => by cases hz) rfl (by decide) (hts _ fw_1665) (fb_nxC X (List.mem_of_getElem? (i := 1) rfl)) h1 h2 h3 ?_
  refine lv_astore (lv' := [(4, .ref q9), (0, .ref zb), (1, .int l1), (2, .int l2), (3, .ref zx)]) hx hb dL_setBreak_13 hl (by decide) rfl (fun ls hl => ?_)
  refine lv_iconst (v := (1 : Int32)) hx hb dL_setBreak_15 (by decide) ?_
  refine W.widen (k := 1) (n := 6) (by omega) (by omega) ?_
  exact fb_retI (u := ()) X I rfl rfl dL_setBreak_16

set_option maxHeartbeats 4000000 in
set_option maxRecDepth 100000 in
theorem c_w_setBreak_b (l : Launch) (D : va_G) (cI cJ : ClassId) (zb : Nat) (zt : Nat) (zn : Nat) (zv : Nat) (zs : Nat) (zp : Nat) (zq : Nat → Nat) (zu : Nat → Nat) (zh : Nat) (zst : Nat) (zre : Nat) (zx : Nat) (zg : Nat → Int64) (l1 : Int32) (l2 : Int32) (sz : Nat) (hst : l.stackTraces = false) (gA0 : f_X11_isNoAddress l1 = (0 : Int32)) (h0 : ¬ l2 < 0) (h1 : ¬ l2 ≤ (1000 : Int32)) : Met l yL_setBreak (Cond.codeWith yL_setBreak cL_setBreak 5 (some .int) [((0 : Nat), (10 : Nat), (13 : Nat), (19 : Nat)), ((0 : Nat), (10 : Nat), (17 : Nat), (13 : Nat))] :: fb_all) ({ frames := 7, cells := 1, slots := 6, locals := 104 } : Room) (fb_PP D (fb_ty D cI cJ) [.ref zb, .int l1, .int l2, .ref zx] (([fb_o11 zb zt zn zv zs zp (zq 0) (zu 0) zh zst zre, fb_jw cJ zx 1 zg] : List va_W).flatten) sz) (fb_QI D (va_A (([fb_o11 zb zt zn zv zs zp (zq 0) (zu 0) zh zst zre, fb_jw cJ zx 1 zg] : List va_W).flatten) sz) (fun (r : Int32) (_ : Unit) => r = (1 : Int32)) (fun (t : Unit) => ([fb_jw cJ zx 1 zg] : List va_W).flatten)) 1 6 (va_A (([fb_o11 zb zt zn zv zs zp (zq 0) (zu 0) zh zst zre, fb_jw cJ zx 1 zg] : List va_W).flatten) sz) := by
  refine fb_entW (Qf := fun A => (fb_QI D A (fun (r : Int32) (_ : Unit) => r = (1 : Int32)) (fun (t : Unit) => ([fb_jw cJ zx 1 zg] : List va_W).flatten))) (by decide +kernel) (Nat.le_of_ble_eq_true rfl) ?_
  intro p e s m args below meth c A ls X I hl hex
  obtain ⟨hx, hb, hr, hml, hown, hts, hlk, hA, hK, hF⟩ := id X
  have hl : lv_has ls 5 [(0, .ref zb), (1, .int l1), (2, .int l2), (3, .ref zx)] := hl
  refine lv_aload_n hx hb dL_setBreak_0 rfl (lv_at hl 3 rfl) ?_
  refine lv_iconst (v := (0 : Int32)) hx hb dL_setBreak_1 (by decide) ?_
  refine lv_aload_n hx hb dL_setBreak_2 rfl (lv_at hl 0 rfl) ?_
  refine lv_iload_n hx hb dL_setBreak_3 rfl (lv_at hl 1 rfl) ?_
  refine lv_iload_n hx hb dL_setBreak_4 rfl (lv_at hl 2 rfl) ?_
  refine fb_gX (As := [.int l1, .int l2]) (rest := [.int (0 : Int32), .ref zx]) (E := "java/lang/IllegalArgumentException") (cs := [fb_o11 zb zt zn zv zs zp (zq 0) (zu 0) zh zst zre]) (rs := [fb_jw cJ zx 1 zg]) X hl I [0, 1] 2 rfl (by decide +kernel) rfl rfl (fb_goodV fw_1799 fw_1800 fw_1801 fw_191 fw_1802) (x_setBreak_b l D cI cJ zb zt zn zv zs zp (zq 0) (zu 0) zh zst zre l1 l2 _ hst gA0 h0 h1) rfl rfl rfl (by decide +kernel : fb_hd yX11_setBreak 2) ⟨(Nat.le_of_ble_eq_true rfl), (Nat.le_of_ble_eq_true rfl)⟩ (rfl : vwCl[11]? = some _) rfl rfl rfl rfl (Nat.le_of_ble_eq_true rfl) ⟨(Nat.le_of_ble_eq_true rfl), (Nat.le_of_ble_eq_true rfl)⟩ dL_setBreak_5 ?_
  intro ce q9 H locs I h1 h2 h3
  refine vx_catch hown [] (⟨0, 10, 13, 19⟩ : ExceptionTableEntry) [(⟨0, 10, 17, 13⟩ : ExceptionTableEntry)] (hex.trans rfl) (fun z hz => by cases hz) rfl (by decide) (hts _ fw_1665) (fb_nxC X (List.mem_of_getElem? (i := 1) rfl)) h1 h2 h3 ?_
  refine lv_astore (lv' := [(4, .ref q9), (0, .ref zb), (1, .int l1), (2, .int l2), (3, .ref zx)]) hx hb dL_setBreak_13 hl (by decide) rfl (fun ls hl => ?_)
  refine lv_iconst (v := (1 : Int32)) hx hb dL_setBreak_15 (by decide) ?_
  refine W.widen (k := 1) (n := 6) (by omega) (by omega) ?_
  exact fb_retI (u := ()) X I rfl rfl dL_setBreak_16

set_option maxHeartbeats 4000000 in
set_option maxRecDepth 100000 in
theorem c_w_setWatch_p (l : Launch) (D : va_G) (cI cJ : ClassId) (zb : Nat) (zt : Nat) (zn : Nat) (zv : Nat) (zs : Nat) (zp : Nat) (zq : Nat → Nat) (zu : Nat → Nat) (zh : Nat) (zst : Nat) (zre : Nat) (zx : Nat) (zg : Nat → Int64) (l1 : Int32) (l2 : Int32) (b3 : Bool) (b4 : Bool) (sz : Nat) (hst : l.stackTraces = false) (gA0 : f_X11_isNoAddress l1 = (0 : Int32)) (gA : f_X11_isNoAddress l2 = (1 : Int32)) : Met l yL_setWatch (Cond.codeWith yL_setWatch cL_setWatch 7 (some .int) [((0 : Nat), (14 : Nat), (17 : Nat), (19 : Nat)), ((0 : Nat), (14 : Nat), (21 : Nat), (13 : Nat))] :: fb_all) ({ frames := 7, cells := 1, slots := 6, locals := 106 } : Room) (fb_PP D (fb_ty D cI cJ) [.ref zb, .int l1, .int l2, .int (fb_bI b3), .int (fb_bI b4), .ref zx] (([fb_o11 zb zt zn zv zs zp (zq 0) (zu 0) zh zst zre, fb_jw cJ zx 1 zg] : List va_W).flatten) sz) (fb_QI D (va_A (([fb_o11 zb zt zn zv zs zp (zq 0) (zu 0) zh zst zre, fb_jw cJ zx 1 zg] : List va_W).flatten) sz) (fun (r : Int32) (_ : Unit) => r = (1 : Int32)) (fun (t : Unit) => ([fb_jw cJ zx 1 zg] : List va_W).flatten)) 1 6 (va_A (([fb_o11 zb zt zn zv zs zp (zq 0) (zu 0) zh zst zre, fb_jw cJ zx 1 zg] : List va_W).flatten) sz) := by
  refine fb_entW (Qf := fun A => (fb_QI D A (fun (r : Int32) (_ : Unit) => r = (1 : Int32)) (fun (t : Unit) => ([fb_jw cJ zx 1 zg] : List va_W).flatten))) (by decide +kernel) (Nat.le_of_ble_eq_true rfl) ?_
  intro p e s m args below meth c A ls X I hl hex
  obtain ⟨hx, hb, hr, hml, hown, hts, hlk, hA, hK, hF⟩ := id X
  have hl : lv_has ls 7 [(0, .ref zb), (1, .int l1), (2, .int l2), (3, .int (fb_bI b3)), (4, .int (fb_bI b4)), (5, .ref zx)] := hl
  refine lv_aload hx hb dL_setWatch_0 (lv_at hl 5 rfl) ?_
  refine lv_iconst (v := (0 : Int32)) hx hb dL_setWatch_2 (by decide) ?_
  refine lv_aload_n hx hb dL_setWatch_3 rfl (lv_at hl 0 rfl) ?_
  refine lv_iload_n hx hb dL_setWatch_4 rfl (lv_at hl 1 rfl) ?_
  refine lv_iload_n hx hb dL_setWatch_5 rfl (lv_at hl 2 rfl) ?_
  refine lv_iload_n hx hb dL_setWatch_6 rfl (lv_at hl 3 rfl) ?_
  refine lv_iload hx hb dL_setWatch_7 (lv_at hl 4 rfl) ?_
  refine fb_gX (As := [.int l1, .int l2, .int (fb_bI b3), .int (fb_bI b4)]) (rest := [.int (0 : Int32), .ref zx]) (E := "java/lang/IllegalArgumentException") (cs := [fb_o11 zb zt zn zv zs zp (zq 0) (zu 0) zh zst zre]) (rs := [fb_jw cJ zx 1 zg]) X hl I [0, 1] 2 rfl (by decide +kernel) rfl rfl (fb_goodV fw_1813 fw_1814 fw_1815 fw_191 fw_1816) (x_setWatch_p l D cI cJ zb zt zn zv zs zp (zq 0) (zu 0) zh zst zre l1 l2 (fb_bI b3) (fb_bI b4) _ hst gA0 gA) rfl rfl rfl (by decide +kernel : fb_hd yX11_setWatch 4) ⟨(Nat.le_of_ble_eq_true rfl), (Nat.le_of_ble_eq_true rfl)⟩ (rfl : vwCl[11]? = some _) rfl rfl rfl rfl (Nat.le_of_ble_eq_true rfl) ⟨(Nat.le_of_ble_eq_true rfl), (Nat.le_of_ble_eq_true rfl)⟩ dL_setWatch_9 ?_
  intro ce q9 H locs I h1 h2 h3
  refine vx_catch hown [] (⟨0, 14, 17, 19⟩ : ExceptionTableEntry) [(⟨0, 14, 21, 13⟩ : ExceptionTableEntry)] (hex.trans rfl) (fun z hz => by cases hz) rfl (by decide) (hts _ fw_1665) (fb_nxC X (List.mem_of_getElem? (i := 1) rfl)) h1 h2 h3 ?_
  refine lv_astore (lv' := [(6, .ref q9), (0, .ref zb), (1, .int l1), (2, .int l2), (3, .int (fb_bI b3)), (4, .int (fb_bI b4)), (5, .ref zx)]) hx hb dL_setWatch_17 hl (by decide) rfl (fun ls hl => ?_)
  refine lv_iconst (v := (1 : Int32)) hx hb dL_setWatch_19 (by decide) ?_
  refine W.widen (k := 1) (n := 6) (by omega) (by omega) ?_
  exact fb_retI (u := ()) X I rfl rfl dL_setWatch_20

set_option maxHeartbeats 4000000 in
set_option maxRecDepth 100000 in
theorem c_w_setWatch_b (l : Launch) (D : va_G) (cI cJ : ClassId) (zb : Nat) (zt : Nat) (zn : Nat) (zv : Nat) (zs : Nat) (zp : Nat) (zq : Nat → Nat) (zu : Nat → Nat) (zh : Nat) (zst : Nat) (zre : Nat) (zx : Nat) (zg : Nat → Int64) (l1 : Int32) (l2 : Int32) (b3 : Bool) (b4 : Bool) (sz : Nat) (hst : l.stackTraces = false) (gA0 : f_X11_isNoAddress l1 = (0 : Int32)) (gA2 : f_X11_isNoAddress l2 = (0 : Int32)) (h1 : l2 < l1) (h2 : ¬ l1 ≤ l2) : Met l yL_setWatch (Cond.codeWith yL_setWatch cL_setWatch 7 (some .int) [((0 : Nat), (14 : Nat), (17 : Nat), (19 : Nat)), ((0 : Nat), (14 : Nat), (21 : Nat), (13 : Nat))] :: fb_all) ({ frames := 7, cells := 1, slots := 6, locals := 106 } : Room) (fb_PP D (fb_ty D cI cJ) [.ref zb, .int l1, .int l2, .int (fb_bI b3), .int (fb_bI b4), .ref zx] (([fb_o11 zb zt zn zv zs zp (zq 0) (zu 0) zh zst zre, fb_jw cJ zx 1 zg] : List va_W).flatten) sz) (fb_QI D (va_A (([fb_o11 zb zt zn zv zs zp (zq 0) (zu 0) zh zst zre, fb_jw cJ zx 1 zg] : List va_W).flatten) sz) (fun (r : Int32) (_ : Unit) => r = (1 : Int32)) (fun (t : Unit) => ([fb_jw cJ zx 1 zg] : List va_W).flatten)) 1 6 (va_A (([fb_o11 zb zt zn zv zs zp (zq 0) (zu 0) zh zst zre, fb_jw cJ zx 1 zg] : List va_W).flatten) sz) := by
  refine fb_entW (Qf := fun A => (fb_QI D A (fun (r : Int32) (_ : Unit) => r = (1 : Int32)) (fun (t : Unit) => ([fb_jw cJ zx 1 zg] : List va_W).flatten))) (by decide +kernel) (Nat.le_of_ble_eq_true rfl) ?_
  intro p e s m args below meth c A ls X I hl hex
  obtain ⟨hx, hb, hr, hml, hown, hts, hlk, hA, hK, hF⟩ := id X
  have hl : lv_has ls 7 [(0, .ref zb), (1, .int l1), (2, .int l2), (3, .int (fb_bI b3)), (4, .int (fb_bI b4)), (5, .ref zx)] := hl
  refine lv_aload hx hb dL_setWatch_0 (lv_at hl 5 rfl) ?_
  refine lv_iconst (v := (0 : Int32)) hx hb dL_setWatch_2 (by decide) ?_
  refine lv_aload_n hx hb dL_setWatch_3 rfl (lv_at hl 0 rfl) ?_
  refine lv_iload_n hx hb dL_setWatch_4 rfl (lv_at hl 1 rfl) ?_
  refine lv_iload_n hx hb dL_setWatch_5 rfl (lv_at hl 2 rfl) ?_
  refine lv_iload_n hx hb dL_setWatch_6 rfl (lv_at hl 3 rfl) ?_
  refine lv_iload hx hb dL_setWatch_7 (lv_at hl 4 rfl) ?_
  refine fb_gX (As := [.int l1, .int l2, .int (fb_bI b3), .int (fb_bI b4)]) (rest := [.int (0 : Int32), .ref zx]) (E := "java/lang/IllegalArgumentException") (cs := [fb_o11 zb zt zn zv zs zp (zq 0) (zu 0) zh zst zre]) (rs := [fb_jw cJ zx 1 zg]) X hl I [0, 1] 2 rfl (by decide +kernel) rfl rfl (fb_goodV fw_1813 fw_1814 fw_1815 fw_191 fw_1816) (x_setWatch_b l D cI cJ zb zt zn zv zs zp (zq 0) (zu 0) zh zst zre l1 l2 (fb_bI b3) (fb_bI b4) _ hst gA0 gA2 h1 h2) rfl rfl rfl (by decide +kernel : fb_hd yX11_setWatch 4) ⟨(Nat.le_of_ble_eq_true rfl), (Nat.le_of_ble_eq_true rfl)⟩ (rfl : vwCl[11]? = some _) rfl rfl rfl rfl (Nat.le_of_ble_eq_true rfl) ⟨(Nat.le_of_ble_eq_true rfl), (Nat.le_of_ble_eq_true rfl)⟩ dL_setWatch_9 ?_
  intro ce q9 H locs I h1 h2 h3
  refine vx_catch hown [] (⟨0, 14, 17, 19⟩ : ExceptionTableEntry) [(⟨0, 14, 21, 13⟩ : ExceptionTableEntry)] (hex.trans rfl) (fun z hz => by cases hz) rfl (by decide) (hts _ fw_1665) (fb_nxC X (List.mem_of_getElem? (i := 1) rfl)) h1 h2 h3 ?_
  refine lv_astore (lv' := [(6, .ref q9), (0, .ref zb), (1, .int l1), (2, .int l2), (3, .int (fb_bI b3)), (4, .int (fb_bI b4)), (5, .ref zx)]) hx hb dL_setWatch_17 hl (by decide) rfl (fun ls hl => ?_)
  refine lv_iconst (v := (1 : Int32)) hx hb dL_setWatch_19 (by decide) ?_
  refine W.widen (k := 1) (n := 6) (by omega) (by omega) ?_
  exact fb_retI (u := ()) X I rfl rfl dL_setWatch_20

set_option maxHeartbeats 4000000 in
set_option maxRecDepth 100000 in
theorem c_w_setRegister_a (l : Launch) (D : va_G) (cI cJ : ClassId) (zb : Nat) (zt : Nat) (zn : Nat) (zv : Nat) (zs : Nat) (zp : Nat) (zq : Nat → Nat) (zu : Nat → Nat) (zh : Nat) (zst : Nat) (zre : Nat) (zx : Nat) (zg : Nat → Int64) (l1 : Int32) (l2 : Int32) (sz : Nat) (hst : l.stackTraces = false) (h0 : l1 < 0) : Met l yL_setRegister (Cond.codeWith yL_setRegister cL_setRegister 5 (some .int) [((0 : Nat), (10 : Nat), (13 : Nat), (24 : Nat)), ((0 : Nat), (10 : Nat), (17 : Nat), (19 : Nat))] :: fb_all) ({ frames := 7, cells := 1, slots := 6, locals := 105 } : Room) (fb_PP D (fb_ty D cI cJ) [.ref zb, .int l1, .int l2, .ref zx] (([fb_o11 zb zt zn zv zs zp (zq 0) (zu 0) zh zst zre, fb_jw cJ zx 1 zg] : List va_W).flatten) sz) (fb_QI D (va_A (([fb_o11 zb zt zn zv zs zp (zq 0) (zu 0) zh zst zre, fb_jw cJ zx 1 zg] : List va_W).flatten) sz) (fun (r : Int32) (_ : Unit) => r = (1 : Int32)) (fun (t : Unit) => ([fb_jw cJ zx 1 zg] : List va_W).flatten)) 1 6 (va_A (([fb_o11 zb zt zn zv zs zp (zq 0) (zu 0) zh zst zre, fb_jw cJ zx 1 zg] : List va_W).flatten) sz) := by
  refine fb_entW (Qf := fun A => (fb_QI D A (fun (r : Int32) (_ : Unit) => r = (1 : Int32)) (fun (t : Unit) => ([fb_jw cJ zx 1 zg] : List va_W).flatten))) (by decide +kernel) (Nat.le_of_ble_eq_true rfl) ?_
  intro p e s m args below meth c A ls X I hl hex
  obtain ⟨hx, hb, hr, hml, hown, hts, hlk, hA, hK, hF⟩ := id X
  have hl : lv_has ls 5 [(0, .ref zb), (1, .int l1), (2, .int l2), (3, .ref zx)] := hl
  refine lv_aload_n hx hb dL_setRegister_0 rfl (lv_at hl 3 rfl) ?_
  refine lv_iconst (v := (0 : Int32)) hx hb dL_setRegister_1 (by decide) ?_
  refine lv_aload_n hx hb dL_setRegister_2 rfl (lv_at hl 0 rfl) ?_
  refine lv_iload_n hx hb dL_setRegister_3 rfl (lv_at hl 1 rfl) ?_
  refine lv_iload_n hx hb dL_setRegister_4 rfl (lv_at hl 2 rfl) ?_
  refine fb_gX (As := [.int l1, .int l2]) (rest := [.int (0 : Int32), .ref zx]) (E := "java/lang/IndexOutOfBoundsException") (cs := [fb_o11 zb zt zn zv zs zp (zq 0) (zu 0) zh zst zre]) (rs := [fb_jw cJ zx 1 zg]) X hl I [0, 1] 2 rfl (by decide +kernel) rfl rfl (fb_goodV fw_1762 fw_1763 fw_1764 fw_191 fw_1765) (x_setRegister_a l D cI cJ zb zt zn zv zs zp (zq 0) (zu 0) zh zst zre l1 l2 _ hst h0) rfl rfl rfl (by decide +kernel : fb_hd yX11_setRegister 2) ⟨(Nat.le_of_ble_eq_true rfl), (Nat.le_of_ble_eq_true rfl)⟩ (rfl : vwCl[11]? = some _) rfl rfl rfl rfl (Nat.le_of_ble_eq_true rfl) ⟨(Nat.le_of_ble_eq_true rfl), (Nat.le_of_ble_eq_true rfl)⟩ dL_setRegister_5 ?_
  intro ce q9 H locs I h1 h2 h3
  refine vx_catch hown [] (⟨0, 10, 13, 24⟩ : ExceptionTableEntry) [(⟨0, 10, 17, 19⟩ : ExceptionTableEntry)] (hex.trans rfl) (fun z hz => by cases hz) rfl (by decide) (hts _ fw_1689) (fb_nxC X (List.mem_of_getElem? (i := 2) rfl)) h1 h2 h3 ?_
  refine lv_astore (lv' := [(4, .ref q9), (0, .ref zb), (1, .int l1), (2, .int l2), (3, .ref zx)]) hx hb dL_setRegister_13 hl (by decide) rfl (fun ls hl => ?_)
  refine lv_iconst (v := (1 : Int32)) hx hb dL_setRegister_15 (by decide) ?_
  refine W.widen (k := 1) (n := 6) (by omega) (by omega) ?_
  exact fb_retI (u := ()) X I rfl rfl dL_setRegister_16

set_option maxHeartbeats 4000000 in
set_option maxRecDepth 100000 in
theorem c_w_setRegister_b (l : Launch) (D : va_G) (cI cJ : ClassId) (zb : Nat) (zt : Nat) (zn : Nat) (zv : Nat) (zs : Nat) (zp : Nat) (zq : Nat → Nat) (zu : Nat → Nat) (zh : Nat) (zst : Nat) (zre : Nat) (zx : Nat) (zg : Nat → Int64) (l1 : Int32) (l2 : Int32) (sz : Nat) (hst : l.stackTraces = false) (h0 : ¬ l1 < 0) (h1 : ¬ l1 ≤ (4 : Int32)) : Met l yL_setRegister (Cond.codeWith yL_setRegister cL_setRegister 5 (some .int) [((0 : Nat), (10 : Nat), (13 : Nat), (24 : Nat)), ((0 : Nat), (10 : Nat), (17 : Nat), (19 : Nat))] :: fb_all) ({ frames := 7, cells := 1, slots := 6, locals := 105 } : Room) (fb_PP D (fb_ty D cI cJ) [.ref zb, .int l1, .int l2, .ref zx] (([fb_o11 zb zt zn zv zs zp (zq 0) (zu 0) zh zst zre, fb_jw cJ zx 1 zg] : List va_W).flatten) sz) (fb_QI D (va_A (([fb_o11 zb zt zn zv zs zp (zq 0) (zu 0) zh zst zre, fb_jw cJ zx 1 zg] : List va_W).flatten) sz) (fun (r : Int32) (_ : Unit) => r = (1 : Int32)) (fun (t : Unit) => ([fb_jw cJ zx 1 zg] : List va_W).flatten)) 1 6 (va_A (([fb_o11 zb zt zn zv zs zp (zq 0) (zu 0) zh zst zre, fb_jw cJ zx 1 zg] : List va_W).flatten) sz) := by
  refine fb_entW (Qf := fun A => (fb_QI D A (fun (r : Int32) (_ : Unit) => r = (1 : Int32)) (fun (t : Unit) => ([fb_jw cJ zx 1 zg] : List va_W).flatten))) (by decide +kernel) (Nat.le_of_ble_eq_true rfl) ?_
  intro p e s m args below meth c A ls X I hl hex
  obtain ⟨hx, hb, hr, hml, hown, hts, hlk, hA, hK, hF⟩ := id X
  have hl : lv_has ls 5 [(0, .ref zb), (1, .int l1), (2, .int l2), (3, .ref zx)] := hl
  refine lv_aload_n hx hb dL_setRegister_0 rfl (lv_at hl 3 rfl) ?_
  refine lv_iconst (v := (0 : Int32)) hx hb dL_setRegister_1 (by decide) ?_
  refine lv_aload_n hx hb dL_setRegister_2 rfl (lv_at hl 0 rfl) ?_
  refine lv_iload_n hx hb dL_setRegister_3 rfl (lv_at hl 1 rfl) ?_
  refine lv_iload_n hx hb dL_setRegister_4 rfl (lv_at hl 2 rfl) ?_
  refine fb_gX (As := [.int l1, .int l2]) (rest := [.int (0 : Int32), .ref zx]) (E := "java/lang/IndexOutOfBoundsException") (cs := [fb_o11 zb zt zn zv zs zp (zq 0) (zu 0) zh zst zre]) (rs := [fb_jw cJ zx 1 zg]) X hl I [0, 1] 2 rfl (by decide +kernel) rfl rfl (fb_goodV fw_1762 fw_1763 fw_1764 fw_191 fw_1765) (x_setRegister_b l D cI cJ zb zt zn zv zs zp (zq 0) (zu 0) zh zst zre l1 l2 _ hst h0 h1) rfl rfl rfl (by decide +kernel : fb_hd yX11_setRegister 2) ⟨(Nat.le_of_ble_eq_true rfl), (Nat.le_of_ble_eq_true rfl)⟩ (rfl : vwCl[11]? = some _) rfl rfl rfl rfl (Nat.le_of_ble_eq_true rfl) ⟨(Nat.le_of_ble_eq_true rfl), (Nat.le_of_ble_eq_true rfl)⟩ dL_setRegister_5 ?_
  intro ce q9 H locs I h1 h2 h3
  refine vx_catch hown [] (⟨0, 10, 13, 24⟩ : ExceptionTableEntry) [(⟨0, 10, 17, 19⟩ : ExceptionTableEntry)] (hex.trans rfl) (fun z hz => by cases hz) rfl (by decide) (hts _ fw_1689) (fb_nxC X (List.mem_of_getElem? (i := 2) rfl)) h1 h2 h3 ?_
  refine lv_astore (lv' := [(4, .ref q9), (0, .ref zb), (1, .int l1), (2, .int l2), (3, .ref zx)]) hx hb dL_setRegister_13 hl (by decide) rfl (fun ls hl => ?_)
  refine lv_iconst (v := (1 : Int32)) hx hb dL_setRegister_15 (by decide) ?_
  refine W.widen (k := 1) (n := 6) (by omega) (by omega) ?_
  exact fb_retI (u := ()) X I rfl rfl dL_setRegister_16

set_option maxHeartbeats 4000000 in
set_option maxRecDepth 100000 in
theorem c_w_setRegister_4n (l : Launch) (D : va_G) (cI cJ : ClassId) (zb : Nat) (zt : Nat) (zn : Nat) (zv : Nat) (zs : Nat) (zp : Nat) (zq : Nat → Nat) (zu : Nat → Nat) (zh : Nat) (zst : Nat) (zre : Nat) (zx : Nat) (zg : Nat → Int64) (l1 : Int32) (l2 : Int32) (sz : Nat) (hst : l.stackTraces = false) (r0 : ¬ l1 < 0) (r4 : l1 ≤ (4 : Int32)) (e4 : l1 = (4 : Int32)) (v0 : l2 < 0) : Met l yL_setRegister (Cond.codeWith yL_setRegister cL_setRegister 5 (some .int) [((0 : Nat), (10 : Nat), (13 : Nat), (24 : Nat)), ((0 : Nat), (10 : Nat), (17 : Nat), (19 : Nat))] :: fb_all) ({ frames := 7, cells := 1, slots := 6, locals := 105 } : Room) (fb_PP D (fb_ty D cI cJ) [.ref zb, .int l1, .int l2, .ref zx] (([fb_o11 zb zt zn zv zs zp (zq 0) (zu 0) zh zst zre, fb_jw cJ zx 1 zg] : List va_W).flatten) sz) (fb_QI D (va_A (([fb_o11 zb zt zn zv zs zp (zq 0) (zu 0) zh zst zre, fb_jw cJ zx 1 zg] : List va_W).flatten) sz) (fun (r : Int32) (_ : Unit) => r = (2 : Int32)) (fun (t : Unit) => ([fb_jw cJ zx 1 zg] : List va_W).flatten)) 1 6 (va_A (([fb_o11 zb zt zn zv zs zp (zq 0) (zu 0) zh zst zre, fb_jw cJ zx 1 zg] : List va_W).flatten) sz) := by
  refine fb_entW (Qf := fun A => (fb_QI D A (fun (r : Int32) (_ : Unit) => r = (2 : Int32)) (fun (t : Unit) => ([fb_jw cJ zx 1 zg] : List va_W).flatten))) (by decide +kernel) (Nat.le_of_ble_eq_true rfl) ?_
  intro p e s m args below meth c A ls X I hl hex
  obtain ⟨hx, hb, hr, hml, hown, hts, hlk, hA, hK, hF⟩ := id X
  have hl : lv_has ls 5 [(0, .ref zb), (1, .int l1), (2, .int l2), (3, .ref zx)] := hl
  refine lv_aload_n hx hb dL_setRegister_0 rfl (lv_at hl 3 rfl) ?_
  refine lv_iconst (v := (0 : Int32)) hx hb dL_setRegister_1 (by decide) ?_
  refine lv_aload_n hx hb dL_setRegister_2 rfl (lv_at hl 0 rfl) ?_
  refine lv_iload_n hx hb dL_setRegister_3 rfl (lv_at hl 1 rfl) ?_
  refine lv_iload_n hx hb dL_setRegister_4 rfl (lv_at hl 2 rfl) ?_
  refine fb_gX (As := [.int l1, .int l2]) (rest := [.int (0 : Int32), .ref zx]) (E := "java/lang/IllegalArgumentException") (cs := [fb_o11 zb zt zn zv zs zp (zq 0) (zu 0) zh zst zre]) (rs := [fb_jw cJ zx 1 zg]) X hl I [0, 1] 2 rfl (by decide +kernel) rfl rfl (fb_goodV fw_1762 fw_1763 fw_1764 fw_191 fw_1765) (x_setRegister_4n l D cI cJ zb zt zn zv zs zp (zq 0) (zu 0) zh zst zre l1 l2 _ hst r0 r4 e4 v0) rfl rfl rfl (by decide +kernel : fb_hd yX11_setRegister 2) ⟨(Nat.le_of_ble_eq_true rfl), (Nat.le_of_ble_eq_true rfl)⟩ (rfl : vwCl[11]? = some _) rfl rfl rfl rfl (Nat.le_of_ble_eq_true rfl) ⟨(Nat.le_of_ble_eq_true rfl), (Nat.le_of_ble_eq_true rfl)⟩ dL_setRegister_5 ?_
  intro ce q9 H locs I h1 h2 h3
  refine vx_catch hown [(⟨0, 10, 13, 24⟩ : ExceptionTableEntry)] (⟨0, 10, 17, 19⟩ : ExceptionTableEntry) [] (hex.trans rfl) (fun z hz => by cases List.mem_singleton.mp hz; exact Or.inr ⟨by decide, _, hts _ fw_1689, fb_nxN X⟩) rfl (by decide) (hts _ fw_1665) (fb_nxC X (List.mem_of_getElem? (i := 1) rfl)) h1 h2 h3 ?_
  refine lv_astore (lv' := [(4, .ref q9), (0, .ref zb), (1, .int l1), (2, .int l2), (3, .ref zx)]) hx hb dL_setRegister_17 hl (by decide) rfl (fun ls hl => ?_)
  refine lv_iconst (v := (2 : Int32)) hx hb dL_setRegister_19 (by decide) ?_
  refine W.widen (k := 1) (n := 6) (by omega) (by omega) ?_
  exact fb_retI (u := ()) X I rfl rfl dL_setRegister_20

set_option maxHeartbeats 4000000 in
set_option maxRecDepth 100000 in
theorem c_w_setRegister_4m (l : Launch) (D : va_G) (cI cJ : ClassId) (zb : Nat) (zt : Nat) (zn : Nat) (zv : Nat) (zs : Nat) (zp : Nat) (zq : Nat → Nat) (zu : Nat → Nat) (zh : Nat) (zst : Nat) (zre : Nat) (zx : Nat) (zg : Nat → Int64) (l1 : Int32) (l2 : Int32) (sz : Nat) (hst : l.stackTraces = false) (r0 : ¬ l1 < 0) (r4 : l1 ≤ (4 : Int32)) (e4 : l1 = (4 : Int32)) (v0 : ¬ l2 < 0) (v1 : ¬ l2 ≤ (4095 : Int32)) : Met l yL_setRegister (Cond.codeWith yL_setRegister cL_setRegister 5 (some .int) [((0 : Nat), (10 : Nat), (13 : Nat), (24 : Nat)), ((0 : Nat), (10 : Nat), (17 : Nat), (19 : Nat))] :: fb_all) ({ frames := 7, cells := 1, slots := 6, locals := 105 } : Room) (fb_PP D (fb_ty D cI cJ) [.ref zb, .int l1, .int l2, .ref zx] (([fb_o11 zb zt zn zv zs zp (zq 0) (zu 0) zh zst zre, fb_jw cJ zx 1 zg] : List va_W).flatten) sz) (fb_QI D (va_A (([fb_o11 zb zt zn zv zs zp (zq 0) (zu 0) zh zst zre, fb_jw cJ zx 1 zg] : List va_W).flatten) sz) (fun (r : Int32) (_ : Unit) => r = (2 : Int32)) (fun (t : Unit) => ([fb_jw cJ zx 1 zg] : List va_W).flatten)) 1 6 (va_A (([fb_o11 zb zt zn zv zs zp (zq 0) (zu 0) zh zst zre, fb_jw cJ zx 1 zg] : List va_W).flatten) sz) := by
  refine fb_entW (Qf := fun A => (fb_QI D A (fun (r : Int32) (_ : Unit) => r = (2 : Int32)) (fun (t : Unit) => ([fb_jw cJ zx 1 zg] : List va_W).flatten))) (by decide +kernel) (Nat.le_of_ble_eq_true rfl) ?_
  intro p e s m args below meth c A ls X I hl hex
  obtain ⟨hx, hb, hr, hml, hown, hts, hlk, hA, hK, hF⟩ := id X
  have hl : lv_has ls 5 [(0, .ref zb), (1, .int l1), (2, .int l2), (3, .ref zx)] := hl
  refine lv_aload_n hx hb dL_setRegister_0 rfl (lv_at hl 3 rfl) ?_
  refine lv_iconst (v := (0 : Int32)) hx hb dL_setRegister_1 (by decide) ?_
  refine lv_aload_n hx hb dL_setRegister_2 rfl (lv_at hl 0 rfl) ?_
  refine lv_iload_n hx hb dL_setRegister_3 rfl (lv_at hl 1 rfl) ?_
  refine lv_iload_n hx hb dL_setRegister_4 rfl (lv_at hl 2 rfl) ?_
  refine fb_gX (As := [.int l1, .int l2]) (rest := [.int (0 : Int32), .ref zx]) (E := "java/lang/IllegalArgumentException") (cs := [fb_o11 zb zt zn zv zs zp (zq 0) (zu 0) zh zst zre]) (rs := [fb_jw cJ zx 1 zg]) X hl I [0, 1] 2 rfl (by decide +kernel) rfl rfl (fb_goodV fw_1762 fw_1763 fw_1764 fw_191 fw_1765) (x_setRegister_4m l D cI cJ zb zt zn zv zs zp (zq 0) (zu 0) zh zst zre l1 l2 _ hst r0 r4 e4 v0 v1) rfl rfl rfl (by decide +kernel : fb_hd yX11_setRegister 2) ⟨(Nat.le_of_ble_eq_true rfl), (Nat.le_of_ble_eq_true rfl)⟩ (rfl : vwCl[11]? = some _) rfl rfl rfl rfl (Nat.le_of_ble_eq_true rfl) ⟨(Nat.le_of_ble_eq_true rfl), (Nat.le_of_ble_eq_true rfl)⟩ dL_setRegister_5 ?_
  intro ce q9 H locs I h1 h2 h3
  refine vx_catch hown [(⟨0, 10, 13, 24⟩ : ExceptionTableEntry)] (⟨0, 10, 17, 19⟩ : ExceptionTableEntry) [] (hex.trans rfl) (fun z hz => by cases List.mem_singleton.mp hz; exact Or.inr ⟨by decide, _, hts _ fw_1689, fb_nxN X⟩) rfl (by decide) (hts _ fw_1665) (fb_nxC X (List.mem_of_getElem? (i := 1) rfl)) h1 h2 h3 ?_
  refine lv_astore (lv' := [(4, .ref q9), (0, .ref zb), (1, .int l1), (2, .int l2), (3, .ref zx)]) hx hb dL_setRegister_17 hl (by decide) rfl (fun ls hl => ?_)
  refine lv_iconst (v := (2 : Int32)) hx hb dL_setRegister_19 (by decide) ?_
  refine W.widen (k := 1) (n := 6) (by omega) (by omega) ?_
  exact fb_retI (u := ()) X I rfl rfl dL_setRegister_20

set_option maxHeartbeats 4000000 in
set_option maxRecDepth 100000 in
theorem c_w_setRegister_3n (l : Launch) (D : va_G) (cI cJ : ClassId) (zb : Nat) (zt : Nat) (zn : Nat) (zv : Nat) (zs : Nat) (zp : Nat) (zq : Nat → Nat) (zu : Nat → Nat) (zh : Nat) (zst : Nat) (zre : Nat) (zx : Nat) (zg : Nat → Int64) (l1 : Int32) (l2 : Int32) (sz : Nat) (hst : l.stackTraces = false) (r0 : ¬ l1 < 0) (r4 : l1 ≤ (4 : Int32)) (e4 : ¬ l1 = (4 : Int32)) (e3 : l1 = (3 : Int32)) (v0 : l2 < 0) : Met l yL_setRegister (Cond.codeWith yL_setRegister cL_setRegister 5 (some .int) [((0 : Nat), (10 : Nat), (13 : Nat), (24 : Nat)), ((0 : Nat), (10 : Nat), (17 : Nat), (19 : Nat))] :: fb_all) ({ frames := 7, cells := 1, slots := 6, locals := 105 } : Room) (fb_PP D (fb_ty D cI cJ) [.ref zb, .int l1, .int l2, .ref zx] (([fb_o11 zb zt zn zv zs zp (zq 0) (zu 0) zh zst zre, fb_jw cJ zx 1 zg] : List va_W).flatten) sz) (fb_QI D (va_A (([fb_o11 zb zt zn zv zs zp (zq 0) (zu 0) zh zst zre, fb_jw cJ zx 1 zg] : List va_W).flatten) sz) (fun (r : Int32) (_ : Unit) => r = (2 : Int32)) (fun (t : Unit) => ([fb_jw cJ zx 1 zg] : List va_W).flatten)) 1 6 (va_A (([fb_o11 zb zt zn zv zs zp (zq 0) (zu 0) zh zst zre, fb_jw cJ zx 1 zg] : List va_W).flatten) sz) := by
  refine fb_entW (Qf := fun A => (fb_QI D A (fun (r : Int32) (_ : Unit) => r = (2 : Int32)) (fun (t : Unit) => ([fb_jw cJ zx 1 zg] : List va_W).flatten))) (by decide +kernel) (Nat.le_of_ble_eq_true rfl) ?_
  intro p e s m args below meth c A ls X I hl hex
  obtain ⟨hx, hb, hr, hml, hown, hts, hlk, hA, hK, hF⟩ := id X
  have hl : lv_has ls 5 [(0, .ref zb), (1, .int l1), (2, .int l2), (3, .ref zx)] := hl
  refine lv_aload_n hx hb dL_setRegister_0 rfl (lv_at hl 3 rfl) ?_
  refine lv_iconst (v := (0 : Int32)) hx hb dL_setRegister_1 (by decide) ?_
  refine lv_aload_n hx hb dL_setRegister_2 rfl (lv_at hl 0 rfl) ?_
  refine lv_iload_n hx hb dL_setRegister_3 rfl (lv_at hl 1 rfl) ?_
  refine lv_iload_n hx hb dL_setRegister_4 rfl (lv_at hl 2 rfl) ?_
  refine fb_gX (As := [.int l1, .int l2]) (rest := [.int (0 : Int32), .ref zx]) (E := "java/lang/IllegalArgumentException") (cs := [fb_o11 zb zt zn zv zs zp (zq 0) (zu 0) zh zst zre]) (rs := [fb_jw cJ zx 1 zg]) X hl I [0, 1] 2 rfl (by decide +kernel) rfl rfl (fb_goodV fw_1762 fw_1763 fw_1764 fw_191 fw_1765) (x_setRegister_3n l D cI cJ zb zt zn zv zs zp (zq 0) (zu 0) zh zst zre l1 l2 _ hst r0 r4 e4 e3 v0) rfl rfl rfl (by decide +kernel : fb_hd yX11_setRegister 2) ⟨(Nat.le_of_ble_eq_true rfl), (Nat.le_of_ble_eq_true rfl)⟩ (rfl : vwCl[11]? = some _) rfl rfl rfl rfl (Nat.le_of_ble_eq_true rfl) ⟨(Nat.le_of_ble_eq_true rfl), (Nat.le_of_ble_eq_true rfl)⟩ dL_setRegister_5 ?_
  intro ce q9 H locs I h1 h2 h3
  refine vx_catch hown [(⟨0, 10, 13, 24⟩ : ExceptionTableEntry)] (⟨0, 10, 17, 19⟩ : ExceptionTableEntry) [] (hex.trans rfl) (fun z hz => by cases List.mem_singleton.mp hz; exact Or.inr ⟨by decide, _, hts _ fw_1689, fb_nxN X⟩) rfl (by decide) (hts _ fw_1665) (fb_nxC X (List.mem_of_getElem? (i := 1) rfl)) h1 h2 h3 ?_
  refine lv_astore (lv' := [(4, .ref q9), (0, .ref zb), (1, .int l1), (2, .int l2), (3, .ref zx)]) hx hb dL_setRegister_17 hl (by decide) rfl (fun ls hl => ?_)
  refine lv_iconst (v := (2 : Int32)) hx hb dL_setRegister_19 (by decide) ?_
  refine W.widen (k := 1) (n := 6) (by omega) (by omega) ?_
  exact fb_retI (u := ()) X I rfl rfl dL_setRegister_20

set_option maxHeartbeats 4000000 in
set_option maxRecDepth 100000 in
theorem c_w_setRegister_3m (l : Launch) (D : va_G) (cI cJ : ClassId) (zb : Nat) (zt : Nat) (zn : Nat) (zv : Nat) (zs : Nat) (zp : Nat) (zq : Nat → Nat) (zu : Nat → Nat) (zh : Nat) (zst : Nat) (zre : Nat) (zx : Nat) (zg : Nat → Int64) (l1 : Int32) (l2 : Int32) (sz : Nat) (hst : l.stackTraces = false) (r0 : ¬ l1 < 0) (r4 : l1 ≤ (4 : Int32)) (e4 : ¬ l1 = (4 : Int32)) (e3 : l1 = (3 : Int32)) (v0 : ¬ l2 < 0) (v1 : ¬ l2 ≤ (31 : Int32)) : Met l yL_setRegister (Cond.codeWith yL_setRegister cL_setRegister 5 (some .int) [((0 : Nat), (10 : Nat), (13 : Nat), (24 : Nat)), ((0 : Nat), (10 : Nat), (17 : Nat), (19 : Nat))] :: fb_all) ({ frames := 7, cells := 1, slots := 6, locals := 105 } : Room) (fb_PP D (fb_ty D cI cJ) [.ref zb, .int l1, .int l2, .ref zx] (([fb_o11 zb zt zn zv zs zp (zq 0) (zu 0) zh zst zre, fb_jw cJ zx 1 zg] : List va_W).flatten) sz) (fb_QI D (va_A (([fb_o11 zb zt zn zv zs zp (zq 0) (zu 0) zh zst zre, fb_jw cJ zx 1 zg] : List va_W).flatten) sz) (fun (r : Int32) (_ : Unit) => r = (2 : Int32)) (fun (t : Unit) => ([fb_jw cJ zx 1 zg] : List va_W).flatten)) 1 6 (va_A (([fb_o11 zb zt zn zv zs zp (zq 0) (zu 0) zh zst zre, fb_jw cJ zx 1 zg] : List va_W).flatten) sz) := by
  refine fb_entW (Qf := fun A => (fb_QI D A (fun (r : Int32) (_ : Unit) => r = (2 : Int32)) (fun (t : Unit) => ([fb_jw cJ zx 1 zg] : List va_W).flatten))) (by decide +kernel) (Nat.le_of_ble_eq_true rfl) ?_
  intro p e s m args below meth c A ls X I hl hex
  obtain ⟨hx, hb, hr, hml, hown, hts, hlk, hA, hK, hF⟩ := id X
  have hl : lv_has ls 5 [(0, .ref zb), (1, .int l1), (2, .int l2), (3, .ref zx)] := hl
  refine lv_aload_n hx hb dL_setRegister_0 rfl (lv_at hl 3 rfl) ?_
  refine lv_iconst (v := (0 : Int32)) hx hb dL_setRegister_1 (by decide) ?_
  refine lv_aload_n hx hb dL_setRegister_2 rfl (lv_at hl 0 rfl) ?_
  refine lv_iload_n hx hb dL_setRegister_3 rfl (lv_at hl 1 rfl) ?_
  refine lv_iload_n hx hb dL_setRegister_4 rfl (lv_at hl 2 rfl) ?_
  refine fb_gX (As := [.int l1, .int l2]) (rest := [.int (0 : Int32), .ref zx]) (E := "java/lang/IllegalArgumentException") (cs := [fb_o11 zb zt zn zv zs zp (zq 0) (zu 0) zh zst zre]) (rs := [fb_jw cJ zx 1 zg]) X hl I [0, 1] 2 rfl (by decide +kernel) rfl rfl (fb_goodV fw_1762 fw_1763 fw_1764 fw_191 fw_1765) (x_setRegister_3m l D cI cJ zb zt zn zv zs zp (zq 0) (zu 0) zh zst zre l1 l2 _ hst r0 r4 e4 e3 v0 v1) rfl rfl rfl (by decide +kernel : fb_hd yX11_setRegister 2) ⟨(Nat.le_of_ble_eq_true rfl), (Nat.le_of_ble_eq_true rfl)⟩ (rfl : vwCl[11]? = some _) rfl rfl rfl rfl (Nat.le_of_ble_eq_true rfl) ⟨(Nat.le_of_ble_eq_true rfl), (Nat.le_of_ble_eq_true rfl)⟩ dL_setRegister_5 ?_
  intro ce q9 H locs I h1 h2 h3
  refine vx_catch hown [(⟨0, 10, 13, 24⟩ : ExceptionTableEntry)] (⟨0, 10, 17, 19⟩ : ExceptionTableEntry) [] (hex.trans rfl) (fun z hz => by cases List.mem_singleton.mp hz; exact Or.inr ⟨by decide, _, hts _ fw_1689, fb_nxN X⟩) rfl (by decide) (hts _ fw_1665) (fb_nxC X (List.mem_of_getElem? (i := 1) rfl)) h1 h2 h3 ?_
  refine lv_astore (lv' := [(4, .ref q9), (0, .ref zb), (1, .int l1), (2, .int l2), (3, .ref zx)]) hx hb dL_setRegister_17 hl (by decide) rfl (fun ls hl => ?_)
  refine lv_iconst (v := (2 : Int32)) hx hb dL_setRegister_19 (by decide) ?_
  refine W.widen (k := 1) (n := 6) (by omega) (by omega) ?_
  exact fb_retI (u := ()) X I rfl rfl dL_setRegister_20

set_option maxHeartbeats 4000000 in
set_option maxRecDepth 100000 in
theorem c_w_setRegister_rn (l : Launch) (D : va_G) (cI cJ : ClassId) (zb : Nat) (zt : Nat) (zn : Nat) (zv : Nat) (zs : Nat) (zp : Nat) (zq : Nat → Nat) (zu : Nat → Nat) (zh : Nat) (zst : Nat) (zre : Nat) (zx : Nat) (zg : Nat → Int64) (l1 : Int32) (l2 : Int32) (sz : Nat) (hst : l.stackTraces = false) (r0 : ¬ l1 < 0) (r4 : l1 ≤ (4 : Int32)) (e4 : ¬ l1 = (4 : Int32)) (e3 : ¬ l1 = (3 : Int32)) (v0 : l2 < 0) : Met l yL_setRegister (Cond.codeWith yL_setRegister cL_setRegister 5 (some .int) [((0 : Nat), (10 : Nat), (13 : Nat), (24 : Nat)), ((0 : Nat), (10 : Nat), (17 : Nat), (19 : Nat))] :: fb_all) ({ frames := 7, cells := 1, slots := 6, locals := 105 } : Room) (fb_PP D (fb_ty D cI cJ) [.ref zb, .int l1, .int l2, .ref zx] (([fb_o11 zb zt zn zv zs zp (zq 0) (zu 0) zh zst zre, fb_jw cJ zx 1 zg] : List va_W).flatten) sz) (fb_QI D (va_A (([fb_o11 zb zt zn zv zs zp (zq 0) (zu 0) zh zst zre, fb_jw cJ zx 1 zg] : List va_W).flatten) sz) (fun (r : Int32) (_ : Unit) => r = (2 : Int32)) (fun (t : Unit) => ([fb_jw cJ zx 1 zg] : List va_W).flatten)) 1 6 (va_A (([fb_o11 zb zt zn zv zs zp (zq 0) (zu 0) zh zst zre, fb_jw cJ zx 1 zg] : List va_W).flatten) sz) := by
  refine fb_entW (Qf := fun A => (fb_QI D A (fun (r : Int32) (_ : Unit) => r = (2 : Int32)) (fun (t : Unit) => ([fb_jw cJ zx 1 zg] : List va_W).flatten))) (by decide +kernel) (Nat.le_of_ble_eq_true rfl) ?_
  intro p e s m args below meth c A ls X I hl hex
  obtain ⟨hx, hb, hr, hml, hown, hts, hlk, hA, hK, hF⟩ := id X
  have hl : lv_has ls 5 [(0, .ref zb), (1, .int l1), (2, .int l2), (3, .ref zx)] := hl
  refine lv_aload_n hx hb dL_setRegister_0 rfl (lv_at hl 3 rfl) ?_
  refine lv_iconst (v := (0 : Int32)) hx hb dL_setRegister_1 (by decide) ?_
  refine lv_aload_n hx hb dL_setRegister_2 rfl (lv_at hl 0 rfl) ?_
  refine lv_iload_n hx hb dL_setRegister_3 rfl (lv_at hl 1 rfl) ?_
  refine lv_iload_n hx hb dL_setRegister_4 rfl (lv_at hl 2 rfl) ?_
  refine fb_gX (As := [.int l1, .int l2]) (rest := [.int (0 : Int32), .ref zx]) (E := "java/lang/IllegalArgumentException") (cs := [fb_o11 zb zt zn zv zs zp (zq 0) (zu 0) zh zst zre]) (rs := [fb_jw cJ zx 1 zg]) X hl I [0, 1] 2 rfl (by decide +kernel) rfl rfl (fb_goodV fw_1762 fw_1763 fw_1764 fw_191 fw_1765) (x_setRegister_rn l D cI cJ zb zt zn zv zs zp (zq 0) (zu 0) zh zst zre l1 l2 _ hst r0 r4 e4 e3 v0) rfl rfl rfl (by decide +kernel : fb_hd yX11_setRegister 2) ⟨(Nat.le_of_ble_eq_true rfl), (Nat.le_of_ble_eq_true rfl)⟩ (rfl : vwCl[11]? = some _) rfl rfl rfl rfl (Nat.le_of_ble_eq_true rfl) ⟨(Nat.le_of_ble_eq_true rfl), (Nat.le_of_ble_eq_true rfl)⟩ dL_setRegister_5 ?_
  intro ce q9 H locs I h1 h2 h3
  refine vx_catch hown [(⟨0, 10, 13, 24⟩ : ExceptionTableEntry)] (⟨0, 10, 17, 19⟩ : ExceptionTableEntry) [] (hex.trans rfl) (fun z hz => by cases List.mem_singleton.mp hz; exact Or.inr ⟨by decide, _, hts _ fw_1689, fb_nxN X⟩) rfl (by decide) (hts _ fw_1665) (fb_nxC X (List.mem_of_getElem? (i := 1) rfl)) h1 h2 h3 ?_
  refine lv_astore (lv' := [(4, .ref q9), (0, .ref zb), (1, .int l1), (2, .int l2), (3, .ref zx)]) hx hb dL_setRegister_17 hl (by decide) rfl (fun ls hl => ?_)
  refine lv_iconst (v := (2 : Int32)) hx hb dL_setRegister_19 (by decide) ?_
  refine W.widen (k := 1) (n := 6) (by omega) (by omega) ?_
  exact fb_retI (u := ()) X I rfl rfl dL_setRegister_20

set_option maxHeartbeats 4000000 in
set_option maxRecDepth 100000 in
theorem c_w_setRegister_rm (l : Launch) (D : va_G) (cI cJ : ClassId) (zb : Nat) (zt : Nat) (zn : Nat) (zv : Nat) (zs : Nat) (zp : Nat) (zq : Nat → Nat) (zu : Nat → Nat) (zh : Nat) (zst : Nat) (zre : Nat) (zx : Nat) (zg : Nat → Int64) (l1 : Int32) (l2 : Int32) (sz : Nat) (hst : l.stackTraces = false) (r0 : ¬ l1 < 0) (r4 : l1 ≤ (4 : Int32)) (e4 : ¬ l1 = (4 : Int32)) (e3 : ¬ l1 = (3 : Int32)) (v0 : ¬ l2 < 0) (v1 : ¬ l2 ≤ (255 : Int32)) : Met l yL_setRegister (Cond.codeWith yL_setRegister cL_setRegister 5 (some .int) [((0 : Nat), (10 : Nat), (13 : Nat), (24 : Nat)), ((0 : Nat), (10 : Nat), (17 : Nat), (19 : Nat))] :: fb_all) ({ frames := 7, cells := 1, slots := 6, locals := 105 } : Room) (fb_PP D (fb_ty D cI cJ) [.ref zb, .int l1, .int l2, .ref zx] (([fb_o11 zb zt zn zv zs zp (zq 0) (zu 0) zh zst zre, fb_jw cJ zx 1 zg] : List va_W).flatten) sz) (fb_QI D (va_A (([fb_o11 zb zt zn zv zs zp (zq 0) (zu 0) zh zst zre, fb_jw cJ zx 1 zg] : List va_W).flatten) sz) (fun (r : Int32) (_ : Unit) => r = (2 : Int32)) (fun (t : Unit) => ([fb_jw cJ zx 1 zg] : List va_W).flatten)) 1 6 (va_A (([fb_o11 zb zt zn zv zs zp (zq 0) (zu 0) zh zst zre, fb_jw cJ zx 1 zg] : List va_W).flatten) sz) := by
  refine fb_entW (Qf := fun A => (fb_QI D A (fun (r : Int32) (_ : Unit) => r = (2 : Int32)) (fun (t : Unit) => ([fb_jw cJ zx 1 zg] : List va_W).flatten))) (by decide +kernel) (Nat.le_of_ble_eq_true rfl) ?_
  intro p e s m args below meth c A ls X I hl hex
  obtain ⟨hx, hb, hr, hml, hown, hts, hlk, hA, hK, hF⟩ := id X
  have hl : lv_has ls 5 [(0, .ref zb), (1, .int l1), (2, .int l2), (3, .ref zx)] := hl
  refine lv_aload_n hx hb dL_setRegister_0 rfl (lv_at hl 3 rfl) ?_
  refine lv_iconst (v := (0 : Int32)) hx hb dL_setRegister_1 (by decide) ?_
  refine lv_aload_n hx hb dL_setRegister_2 rfl (lv_at hl 0 rfl) ?_
  refine lv_iload_n hx hb dL_setRegister_3 rfl (lv_at hl 1 rfl) ?_
  refine lv_iload_n hx hb dL_setRegister_4 rfl (lv_at hl 2 rfl) ?_
  refine fb_gX (As := [.int l1, .int l2]) (rest := [.int (0 : Int32), .ref zx]) (E := "java/lang/IllegalArgumentException") (cs := [fb_o11 zb zt zn zv zs zp (zq 0) (zu 0) zh zst zre]) (rs := [fb_jw cJ zx 1 zg]) X hl I [0, 1] 2 rfl (by decide +kernel) rfl rfl (fb_goodV fw_1762 fw_1763 fw_1764 fw_191 fw_1765) (x_setRegister_rm l D cI cJ zb zt zn zv zs zp (zq 0) (zu 0) zh zst zre l1 l2 _ hst r0 r4 e4 e3 v0 v1) rfl rfl rfl (by decide +kernel : fb_hd yX11_setRegister 2) ⟨(Nat.le_of_ble_eq_true rfl), (Nat.le_of_ble_eq_true rfl)⟩ (rfl : vwCl[11]? = some _) rfl rfl rfl rfl (Nat.le_of_ble_eq_true rfl) ⟨(Nat.le_of_ble_eq_true rfl), (Nat.le_of_ble_eq_true rfl)⟩ dL_setRegister_5 ?_
  intro ce q9 H locs I h1 h2 h3
  refine vx_catch hown [(⟨0, 10, 13, 24⟩ : ExceptionTableEntry)] (⟨0, 10, 17, 19⟩ : ExceptionTableEntry) [] (hex.trans rfl) (fun z hz => by cases List.mem_singleton.mp hz; exact Or.inr ⟨by decide, _, hts _ fw_1689, fb_nxN X⟩) rfl (by decide) (hts _ fw_1665) (fb_nxC X (List.mem_of_getElem? (i := 1) rfl)) h1 h2 h3 ?_
  refine lv_astore (lv' := [(4, .ref q9), (0, .ref zb), (1, .int l1), (2, .int l2), (3, .ref zx)]) hx hb dL_setRegister_17 hl (by decide) rfl (fun ls hl => ?_)
  refine lv_iconst (v := (2 : Int32)) hx hb dL_setRegister_19 (by decide) ?_
  refine W.widen (k := 1) (n := 6) (by omega) (by omega) ?_
  exact fb_retI (u := ()) X I rfl rfl dL_setRegister_20

set_option maxHeartbeats 4000000 in
set_option maxRecDepth 100000 in
theorem c_w_back_a (l : Launch) (D : va_G) (cI cJ : ClassId) (zb : Nat) (zt : Nat) (zn : Nat) (zv : Nat) (zs : Nat) (zp : Nat) (zq : Nat → Nat) (zu : Nat → Nat) (zh : Nat) (zst : Nat) (zre : Nat) (zx : Nat) (zg : Nat → Int64) (l1 : Int32) (sz : Nat) (hst : l.stackTraces = false) (h0 : l1 < (1 : Int32)) : Met l yL_back (Cond.codeWith yL_back cL_back 4 (some .int) [((0 : Nat), (9 : Nat), (12 : Nat), (19 : Nat))] :: fb_all) ({ frames := 7, cells := 1, slots := 6, locals := 103 } : Room) (fb_PP D (fb_ty D cI cJ) [.ref zb, .int l1, .ref zx] (([fb_o11 zb zt zn zv zs zp (zq 0) (zu 0) zh zst zre, fb_jw cJ zx 1 zg] : List va_W).flatten) sz) (fb_QI D (va_A (([fb_o11 zb zt zn zv zs zp (zq 0) (zu 0) zh zst zre, fb_jw cJ zx 1 zg] : List va_W).flatten) sz) (fun (r : Int32) (_ : Unit) => r = (1 : Int32)) (fun (t : Unit) => ([fb_jw cJ zx 1 zg] : List va_W).flatten)) 1 6 (va_A (([fb_o11 zb zt zn zv zs zp (zq 0) (zu 0) zh zst zre, fb_jw cJ zx 1 zg] : List va_W).flatten) sz) := by
  refine fb_entW (Qf := fun A => (fb_QI D A (fun (r : Int32) (_ : Unit) => r = (1 : Int32)) (fun (t : Unit) => ([fb_jw cJ zx 1 zg] : List va_W).flatten))) (by decide +kernel) (Nat.le_of_ble_eq_true rfl) ?_
  intro p e s m args below meth c A ls X I hl hex
  obtain ⟨hx, hb, hr, hml, hown, hts, hlk, hA, hK, hF⟩ := id X
  have hl : lv_has ls 4 [(0, .ref zb), (1, .int l1), (2, .ref zx)] := hl
  refine lv_aload_n hx hb dL_back_0 rfl (lv_at hl 2 rfl) ?_
  refine lv_iconst (v := (0 : Int32)) hx hb dL_back_1 (by decide) ?_
  refine lv_aload_n hx hb dL_back_2 rfl (lv_at hl 0 rfl) ?_
  refine lv_iload_n hx hb dL_back_3 rfl (lv_at hl 1 rfl) ?_
  refine fb_gX (As := [.int l1]) (rest := [.int (0 : Int32), .ref zx]) (E := "java/lang/IllegalArgumentException") (cs := [fb_o11 zb zt zn zv zs zp (zq 0) (zu 0) zh zst zre]) (rs := [fb_jw cJ zx 1 zg]) X hl I [0, 1] 2 rfl (by decide +kernel) rfl rfl (fb_goodV fw_1786 fw_1787 fw_1788 fw_191 fw_1789) (x_back_a l D cI cJ zb zt zn zv zs zp (zq 0) (zu 0) zh zst zre l1 _ hst h0) rfl rfl rfl (by decide +kernel : fb_hd yX11_back 1) ⟨(Nat.le_of_ble_eq_true rfl), (Nat.le_of_ble_eq_true rfl)⟩ (rfl : vwCl[11]? = some _) rfl rfl rfl rfl (Nat.le_of_ble_eq_true rfl) ⟨(Nat.le_of_ble_eq_true rfl), (Nat.le_of_ble_eq_true rfl)⟩ dL_back_4 ?_
  intro ce q9 H locs I h1 h2 h3
  refine vx_catch hown [] (⟨0, 9, 12, 19⟩ : ExceptionTableEntry) [] (hex.trans rfl) (fun z hz => by cases hz) rfl (by decide) (hts _ fw_1665) (fb_nxC X (List.mem_of_getElem? (i := 1) rfl)) h1 h2 h3 ?_
  refine lv_astore_n (lv' := [(3, .ref q9), (0, .ref zb), (1, .int l1), (2, .ref zx)]) hx hb dL_back_12 rfl hl (by decide) rfl (fun ls hl => ?_)
  refine lv_iconst (v := (1 : Int32)) hx hb dL_back_13 (by decide) ?_
  refine W.widen (k := 1) (n := 6) (by omega) (by omega) ?_
  exact fb_retI (u := ()) X I rfl rfl dL_back_14

set_option maxHeartbeats 4000000 in
set_option maxRecDepth 100000 in
theorem c_w_back_b (l : Launch) (D : va_G) (cI cJ : ClassId) (zb : Nat) (zt : Nat) (zn : Nat) (zv : Nat) (zs : Nat) (zp : Nat) (zq : Nat → Nat) (zu : Nat → Nat) (zh : Nat) (zst : Nat) (zre : Nat) (zx : Nat) (zg : Nat → Int64) (l1 : Int32) (sz : Nat) (hst : l.stackTraces = false) (h0 : ¬ l1 < (1 : Int32)) (h1 : ¬ l1 ≤ (200 : Int32)) : Met l yL_back (Cond.codeWith yL_back cL_back 4 (some .int) [((0 : Nat), (9 : Nat), (12 : Nat), (19 : Nat))] :: fb_all) ({ frames := 7, cells := 1, slots := 6, locals := 103 } : Room) (fb_PP D (fb_ty D cI cJ) [.ref zb, .int l1, .ref zx] (([fb_o11 zb zt zn zv zs zp (zq 0) (zu 0) zh zst zre, fb_jw cJ zx 1 zg] : List va_W).flatten) sz) (fb_QI D (va_A (([fb_o11 zb zt zn zv zs zp (zq 0) (zu 0) zh zst zre, fb_jw cJ zx 1 zg] : List va_W).flatten) sz) (fun (r : Int32) (_ : Unit) => r = (1 : Int32)) (fun (t : Unit) => ([fb_jw cJ zx 1 zg] : List va_W).flatten)) 1 6 (va_A (([fb_o11 zb zt zn zv zs zp (zq 0) (zu 0) zh zst zre, fb_jw cJ zx 1 zg] : List va_W).flatten) sz) := by
  refine fb_entW (Qf := fun A => (fb_QI D A (fun (r : Int32) (_ : Unit) => r = (1 : Int32)) (fun (t : Unit) => ([fb_jw cJ zx 1 zg] : List va_W).flatten))) (by decide +kernel) (Nat.le_of_ble_eq_true rfl) ?_
  intro p e s m args below meth c A ls X I hl hex
  obtain ⟨hx, hb, hr, hml, hown, hts, hlk, hA, hK, hF⟩ := id X
  have hl : lv_has ls 4 [(0, .ref zb), (1, .int l1), (2, .ref zx)] := hl
  refine lv_aload_n hx hb dL_back_0 rfl (lv_at hl 2 rfl) ?_
  refine lv_iconst (v := (0 : Int32)) hx hb dL_back_1 (by decide) ?_
  refine lv_aload_n hx hb dL_back_2 rfl (lv_at hl 0 rfl) ?_
  refine lv_iload_n hx hb dL_back_3 rfl (lv_at hl 1 rfl) ?_
  refine fb_gX (As := [.int l1]) (rest := [.int (0 : Int32), .ref zx]) (E := "java/lang/IllegalArgumentException") (cs := [fb_o11 zb zt zn zv zs zp (zq 0) (zu 0) zh zst zre]) (rs := [fb_jw cJ zx 1 zg]) X hl I [0, 1] 2 rfl (by decide +kernel) rfl rfl (fb_goodV fw_1786 fw_1787 fw_1788 fw_191 fw_1789) (x_back_b l D cI cJ zb zt zn zv zs zp (zq 0) (zu 0) zh zst zre l1 _ hst h0 h1) rfl rfl rfl (by decide +kernel : fb_hd yX11_back 1) ⟨(Nat.le_of_ble_eq_true rfl), (Nat.le_of_ble_eq_true rfl)⟩ (rfl : vwCl[11]? = some _) rfl rfl rfl rfl (Nat.le_of_ble_eq_true rfl) ⟨(Nat.le_of_ble_eq_true rfl), (Nat.le_of_ble_eq_true rfl)⟩ dL_back_4 ?_
  intro ce q9 H locs I h1 h2 h3
  refine vx_catch hown [] (⟨0, 9, 12, 19⟩ : ExceptionTableEntry) [] (hex.trans rfl) (fun z hz => by cases hz) rfl (by decide) (hts _ fw_1665) (fb_nxC X (List.mem_of_getElem? (i := 1) rfl)) h1 h2 h3 ?_
  refine lv_astore_n (lv' := [(3, .ref q9), (0, .ref zb), (1, .int l1), (2, .ref zx)]) hx hb dL_back_12 rfl hl (by decide) rfl (fun ls hl => ?_)
  refine lv_iconst (v := (1 : Int32)) hx hb dL_back_13 (by decide) ?_
  refine W.widen (k := 1) (n := 6) (by omega) (by omega) ?_
  exact fb_retI (u := ()) X I rfl rfl dL_back_14

set_option maxHeartbeats 4000000 in
set_option maxRecDepth 100000 in
theorem c_w_byteIn_a (l : Launch) (D : va_G) (cI cJ : ClassId) (zb : Nat) (zt : Nat) (zn : Nat) (zv : Nat) (zs : Nat) (zp : Nat) (zq : Nat → Nat) (zu : Nat → Nat) (zh : Nat) (zst : Nat) (zre : Nat) (zx : Nat) (zg : Nat → Int64) (l1 : Int32) (l2 : Int32) (sz : Nat) (hst : l.stackTraces = false) (h0 : l1 < 0) : Met l yL_byteIn (Cond.codeWith yL_byteIn cL_byteIn 5 (some .int) [((0 : Nat), (10 : Nat), (13 : Nat), (24 : Nat)), ((0 : Nat), (10 : Nat), (17 : Nat), (19 : Nat))] :: fb_all) ({ frames := 7, cells := 1, slots := 6, locals := 104 } : Room) (fb_PP D (fb_ty D cI cJ) [.ref zb, .int l1, .int l2, .ref zx] (([fb_o11 zb zt zn zv zs zp (zq 0) (zu 0) zh zst zre, fb_jw cJ zx 1 zg] : List va_W).flatten) sz) (fb_QI D (va_A (([fb_o11 zb zt zn zv zs zp (zq 0) (zu 0) zh zst zre, fb_jw cJ zx 1 zg] : List va_W).flatten) sz) (fun (r : Int32) (_ : Unit) => r = (1 : Int32)) (fun (t : Unit) => ([fb_jw cJ zx 1 zg] : List va_W).flatten)) 1 6 (va_A (([fb_o11 zb zt zn zv zs zp (zq 0) (zu 0) zh zst zre, fb_jw cJ zx 1 zg] : List va_W).flatten) sz) := by
  refine fb_entW (Qf := fun A => (fb_QI D A (fun (r : Int32) (_ : Unit) => r = (1 : Int32)) (fun (t : Unit) => ([fb_jw cJ zx 1 zg] : List va_W).flatten))) (by decide +kernel) (Nat.le_of_ble_eq_true rfl) ?_
  intro p e s m args below meth c A ls X I hl hex
  obtain ⟨hx, hb, hr, hml, hown, hts, hlk, hA, hK, hF⟩ := id X
  have hl : lv_has ls 5 [(0, .ref zb), (1, .int l1), (2, .int l2), (3, .ref zx)] := hl
  refine lv_aload_n hx hb dL_byteIn_0 rfl (lv_at hl 3 rfl) ?_
  refine lv_iconst (v := (0 : Int32)) hx hb dL_byteIn_1 (by decide) ?_
  refine lv_aload_n hx hb dL_byteIn_2 rfl (lv_at hl 0 rfl) ?_
  refine lv_iload_n hx hb dL_byteIn_3 rfl (lv_at hl 1 rfl) ?_
  refine lv_iload_n hx hb dL_byteIn_4 rfl (lv_at hl 2 rfl) ?_
  refine fb_gX (As := [.int l1, .int l2]) (rest := [.int (0 : Int32), .ref zx]) (E := "java/lang/IndexOutOfBoundsException") (cs := [fb_o11 zb zt zn zv zs zp (zq 0) (zu 0) zh zst zre]) (rs := [fb_jw cJ zx 1 zg]) X hl I [0, 1] 2 rfl (by decide +kernel) rfl rfl (fb_goodV fw_1834 fw_1835 fw_1836 fw_191 fw_1837) (x_byteIn_a l D cI cJ zb zt zn zv zs zp (zq 0) (zu 0) zh zst zre l1 l2 _ hst h0) rfl rfl rfl (by decide +kernel : fb_hd yX11_byteIn 2) ⟨(Nat.le_of_ble_eq_true rfl), (Nat.le_of_ble_eq_true rfl)⟩ (rfl : vwCl[11]? = some _) rfl rfl rfl rfl (Nat.le_of_ble_eq_true rfl) ⟨(Nat.le_of_ble_eq_true rfl), (Nat.le_of_ble_eq_true rfl)⟩ dL_byteIn_5 ?_
  intro ce q9 H locs I h1 h2 h3
  refine vx_catch hown [] (⟨0, 10, 13, 24⟩ : ExceptionTableEntry) [(⟨0, 10, 17, 19⟩ : ExceptionTableEntry)] (hex.trans rfl) (fun z hz => by cases hz) rfl (by decide) (hts _ fw_1689) (fb_nxC X (List.mem_of_getElem? (i := 2) rfl)) h1 h2 h3 ?_
  refine lv_astore (lv' := [(4, .ref q9), (0, .ref zb), (1, .int l1), (2, .int l2), (3, .ref zx)]) hx hb dL_byteIn_13 hl (by decide) rfl (fun ls hl => ?_)
  refine lv_iconst (v := (1 : Int32)) hx hb dL_byteIn_15 (by decide) ?_
  refine W.widen (k := 1) (n := 6) (by omega) (by omega) ?_
  exact fb_retI (u := ()) X I rfl rfl dL_byteIn_16

set_option maxHeartbeats 4000000 in
set_option maxRecDepth 100000 in
theorem c_w_byteIn_b (l : Launch) (D : va_G) (cI cJ : ClassId) (zb : Nat) (zt : Nat) (zn : Nat) (zv : Nat) (zs : Nat) (zp : Nat) (zq : Nat → Nat) (zu : Nat → Nat) (zh : Nat) (zst : Nat) (zre : Nat) (zx : Nat) (zg : Nat → Int64) (l1 : Int32) (l2 : Int32) (sz : Nat) (hst : l.stackTraces = false) (h0 : ¬ l1 < 0) (h1 : ¬ l1 < (8 : Int32)) : Met l yL_byteIn (Cond.codeWith yL_byteIn cL_byteIn 5 (some .int) [((0 : Nat), (10 : Nat), (13 : Nat), (24 : Nat)), ((0 : Nat), (10 : Nat), (17 : Nat), (19 : Nat))] :: fb_all) ({ frames := 7, cells := 1, slots := 6, locals := 104 } : Room) (fb_PP D (fb_ty D cI cJ) [.ref zb, .int l1, .int l2, .ref zx] (([fb_o11 zb zt zn zv zs zp (zq 0) (zu 0) zh zst zre, fb_jw cJ zx 1 zg] : List va_W).flatten) sz) (fb_QI D (va_A (([fb_o11 zb zt zn zv zs zp (zq 0) (zu 0) zh zst zre, fb_jw cJ zx 1 zg] : List va_W).flatten) sz) (fun (r : Int32) (_ : Unit) => r = (1 : Int32)) (fun (t : Unit) => ([fb_jw cJ zx 1 zg] : List va_W).flatten)) 1 6 (va_A (([fb_o11 zb zt zn zv zs zp (zq 0) (zu 0) zh zst zre, fb_jw cJ zx 1 zg] : List va_W).flatten) sz) := by
  refine fb_entW (Qf := fun A => (fb_QI D A (fun (r : Int32) (_ : Unit) => r = (1 : Int32)) (fun (t : Unit) => ([fb_jw cJ zx 1 zg] : List va_W).flatten))) (by decide +kernel) (Nat.le_of_ble_eq_true rfl) ?_
  intro p e s m args below meth c A ls X I hl hex
  obtain ⟨hx, hb, hr, hml, hown, hts, hlk, hA, hK, hF⟩ := id X
  have hl : lv_has ls 5 [(0, .ref zb), (1, .int l1), (2, .int l2), (3, .ref zx)] := hl
  refine lv_aload_n hx hb dL_byteIn_0 rfl (lv_at hl 3 rfl) ?_
  refine lv_iconst (v := (0 : Int32)) hx hb dL_byteIn_1 (by decide) ?_
  refine lv_aload_n hx hb dL_byteIn_2 rfl (lv_at hl 0 rfl) ?_
  refine lv_iload_n hx hb dL_byteIn_3 rfl (lv_at hl 1 rfl) ?_
  refine lv_iload_n hx hb dL_byteIn_4 rfl (lv_at hl 2 rfl) ?_
  refine fb_gX (As := [.int l1, .int l2]) (rest := [.int (0 : Int32), .ref zx]) (E := "java/lang/IndexOutOfBoundsException") (cs := [fb_o11 zb zt zn zv zs zp (zq 0) (zu 0) zh zst zre]) (rs := [fb_jw cJ zx 1 zg]) X hl I [0, 1] 2 rfl (by decide +kernel) rfl rfl (fb_goodV fw_1834 fw_1835 fw_1836 fw_191 fw_1837) (x_byteIn_b l D cI cJ zb zt zn zv zs zp (zq 0) (zu 0) zh zst zre l1 l2 _ hst h0 h1) rfl rfl rfl (by decide +kernel : fb_hd yX11_byteIn 2) ⟨(Nat.le_of_ble_eq_true rfl), (Nat.le_of_ble_eq_true rfl)⟩ (rfl : vwCl[11]? = some _) rfl rfl rfl rfl (Nat.le_of_ble_eq_true rfl) ⟨(Nat.le_of_ble_eq_true rfl), (Nat.le_of_ble_eq_true rfl)⟩ dL_byteIn_5 ?_
  intro ce q9 H locs I h1 h2 h3
  refine vx_catch hown [] (⟨0, 10, 13, 24⟩ : ExceptionTableEntry) [(⟨0, 10, 17, 19⟩ : ExceptionTableEntry)] (hex.trans rfl) (fun z hz => by cases hz) rfl (by decide) (hts _ fw_1689) (fb_nxC X (List.mem_of_getElem? (i := 2) rfl)) h1 h2 h3 ?_
  refine lv_astore (lv' := [(4, .ref q9), (0, .ref zb), (1, .int l1), (2, .int l2), (3, .ref zx)]) hx hb dL_byteIn_13 hl (by decide) rfl (fun ls hl => ?_)
  refine lv_iconst (v := (1 : Int32)) hx hb dL_byteIn_15 (by decide) ?_
  refine W.widen (k := 1) (n := 6) (by omega) (by omega) ?_
  exact fb_retI (u := ()) X I rfl rfl dL_byteIn_16

set_option maxHeartbeats 4000000 in
set_option maxRecDepth 100000 in
theorem c_w_byteIn_c (l : Launch) (D : va_G) (cI cJ : ClassId) (zb : Nat) (zt : Nat) (zn : Nat) (zv : Nat) (zs : Nat) (zp : Nat) (zq : Nat → Nat) (zu : Nat → Nat) (zh : Nat) (zst : Nat) (zre : Nat) (zx : Nat) (zg : Nat → Int64) (l1 : Int32) (l2 : Int32) (sz : Nat) (hst : l.stackTraces = false) (h0 : ¬ l1 < 0) (h1 : l1 < (8 : Int32)) (v0 : l2 < 0) : Met l yL_byteIn (Cond.codeWith yL_byteIn cL_byteIn 5 (some .int) [((0 : Nat), (10 : Nat), (13 : Nat), (24 : Nat)), ((0 : Nat), (10 : Nat), (17 : Nat), (19 : Nat))] :: fb_all) ({ frames := 7, cells := 1, slots := 6, locals := 104 } : Room) (fb_PP D (fb_ty D cI cJ) [.ref zb, .int l1, .int l2, .ref zx] (([fb_o11 zb zt zn zv zs zp (zq 0) (zu 0) zh zst zre, fb_jw cJ zx 1 zg] : List va_W).flatten) sz) (fb_QI D (va_A (([fb_o11 zb zt zn zv zs zp (zq 0) (zu 0) zh zst zre, fb_jw cJ zx 1 zg] : List va_W).flatten) sz) (fun (r : Int32) (_ : Unit) => r = (2 : Int32)) (fun (t : Unit) => ([fb_jw cJ zx 1 zg] : List va_W).flatten)) 1 6 (va_A (([fb_o11 zb zt zn zv zs zp (zq 0) (zu 0) zh zst zre, fb_jw cJ zx 1 zg] : List va_W).flatten) sz) := by
  refine fb_entW (Qf := fun A => (fb_QI D A (fun (r : Int32) (_ : Unit) => r = (2 : Int32)) (fun (t : Unit) => ([fb_jw cJ zx 1 zg] : List va_W).flatten))) (by decide +kernel) (Nat.le_of_ble_eq_true rfl) ?_
  intro p e s m args below meth c A ls X I hl hex
  obtain ⟨hx, hb, hr, hml, hown, hts, hlk, hA, hK, hF⟩ := id X
  have hl : lv_has ls 5 [(0, .ref zb), (1, .int l1), (2, .int l2), (3, .ref zx)] := hl
  refine lv_aload_n hx hb dL_byteIn_0 rfl (lv_at hl 3 rfl) ?_
  refine lv_iconst (v := (0 : Int32)) hx hb dL_byteIn_1 (by decide) ?_
  refine lv_aload_n hx hb dL_byteIn_2 rfl (lv_at hl 0 rfl) ?_
  refine lv_iload_n hx hb dL_byteIn_3 rfl (lv_at hl 1 rfl) ?_
  refine lv_iload_n hx hb dL_byteIn_4 rfl (lv_at hl 2 rfl) ?_
  refine fb_gX (As := [.int l1, .int l2]) (rest := [.int (0 : Int32), .ref zx]) (E := "java/lang/IllegalArgumentException") (cs := [fb_o11 zb zt zn zv zs zp (zq 0) (zu 0) zh zst zre]) (rs := [fb_jw cJ zx 1 zg]) X hl I [0, 1] 2 rfl (by decide +kernel) rfl rfl (fb_goodV fw_1834 fw_1835 fw_1836 fw_191 fw_1837) (x_byteIn_c l D cI cJ zb zt zn zv zs zp (zq 0) (zu 0) zh zst zre l1 l2 _ hst h0 h1 v0) rfl rfl rfl (by decide +kernel : fb_hd yX11_byteIn 2) ⟨(Nat.le_of_ble_eq_true rfl), (Nat.le_of_ble_eq_true rfl)⟩ (rfl : vwCl[11]? = some _) rfl rfl rfl rfl (Nat.le_of_ble_eq_true rfl) ⟨(Nat.le_of_ble_eq_true rfl), (Nat.le_of_ble_eq_true rfl)⟩ dL_byteIn_5 ?_
  intro ce q9 H locs I h1 h2 h3
  refine vx_catch hown [(⟨0, 10, 13, 24⟩ : ExceptionTableEntry)] (⟨0, 10, 17, 19⟩ : ExceptionTableEntry) [] (hex.trans rfl) (fun z hz => by cases List.mem_singleton.mp hz; exact Or.inr ⟨by decide, _, hts _ fw_1689, fb_nxN X⟩) rfl (by decide) (hts _ fw_1665) (fb_nxC X (List.mem_of_getElem? (i := 1) rfl)) h1 h2 h3 ?_
  refine lv_astore (lv' := [(4, .ref q9), (0, .ref zb), (1, .int l1), (2, .int l2), (3, .ref zx)]) hx hb dL_byteIn_17 hl (by decide) rfl (fun ls hl => ?_)
  refine lv_iconst (v := (2 : Int32)) hx hb dL_byteIn_19 (by decide) ?_
  refine W.widen (k := 1) (n := 6) (by omega) (by omega) ?_
  exact fb_retI (u := ()) X I rfl rfl dL_byteIn_20

set_option maxHeartbeats 4000000 in
set_option maxRecDepth 100000 in
theorem c_w_byteIn_d (l : Launch) (D : va_G) (cI cJ : ClassId) (zb : Nat) (zt : Nat) (zn : Nat) (zv : Nat) (zs : Nat) (zp : Nat) (zq : Nat → Nat) (zu : Nat → Nat) (zh : Nat) (zst : Nat) (zre : Nat) (zx : Nat) (zg : Nat → Int64) (l1 : Int32) (l2 : Int32) (sz : Nat) (hst : l.stackTraces = false) (h0 : ¬ l1 < 0) (h1 : l1 < (8 : Int32)) (v0 : ¬ l2 < 0) (v1 : ¬ l2 < (1024 : Int32)) : Met l yL_byteIn (Cond.codeWith yL_byteIn cL_byteIn 5 (some .int) [((0 : Nat), (10 : Nat), (13 : Nat), (24 : Nat)), ((0 : Nat), (10 : Nat), (17 : Nat), (19 : Nat))] :: fb_all) ({ frames := 7, cells := 1, slots := 6, locals := 104 } : Room) (fb_PP D (fb_ty D cI cJ) [.ref zb, .int l1, .int l2, .ref zx] (([fb_o11 zb zt zn zv zs zp (zq 0) (zu 0) zh zst zre, fb_jw cJ zx 1 zg] : List va_W).flatten) sz) (fb_QI D (va_A (([fb_o11 zb zt zn zv zs zp (zq 0) (zu 0) zh zst zre, fb_jw cJ zx 1 zg] : List va_W).flatten) sz) (fun (r : Int32) (_ : Unit) => r = (2 : Int32)) (fun (t : Unit) => ([fb_jw cJ zx 1 zg] : List va_W).flatten)) 1 6 (va_A (([fb_o11 zb zt zn zv zs zp (zq 0) (zu 0) zh zst zre, fb_jw cJ zx 1 zg] : List va_W).flatten) sz) := by
  refine fb_entW (Qf := fun A => (fb_QI D A (fun (r : Int32) (_ : Unit) => r = (2 : Int32)) (fun (t : Unit) => ([fb_jw cJ zx 1 zg] : List va_W).flatten))) (by decide +kernel) (Nat.le_of_ble_eq_true rfl) ?_
  intro p e s m args below meth c A ls X I hl hex
  obtain ⟨hx, hb, hr, hml, hown, hts, hlk, hA, hK, hF⟩ := id X
  have hl : lv_has ls 5 [(0, .ref zb), (1, .int l1), (2, .int l2), (3, .ref zx)] := hl
  refine lv_aload_n hx hb dL_byteIn_0 rfl (lv_at hl 3 rfl) ?_
  refine lv_iconst (v := (0 : Int32)) hx hb dL_byteIn_1 (by decide) ?_
  refine lv_aload_n hx hb dL_byteIn_2 rfl (lv_at hl 0 rfl) ?_
  refine lv_iload_n hx hb dL_byteIn_3 rfl (lv_at hl 1 rfl) ?_
  refine lv_iload_n hx hb dL_byteIn_4 rfl (lv_at hl 2 rfl) ?_
  refine fb_gX (As := [.int l1, .int l2]) (rest := [.int (0 : Int32), .ref zx]) (E := "java/lang/IllegalArgumentException") (cs := [fb_o11 zb zt zn zv zs zp (zq 0) (zu 0) zh zst zre]) (rs := [fb_jw cJ zx 1 zg]) X hl I [0, 1] 2 rfl (by decide +kernel) rfl rfl (fb_goodV fw_1834 fw_1835 fw_1836 fw_191 fw_1837) (x_byteIn_d l D cI cJ zb zt zn zv zs zp (zq 0) (zu 0) zh zst zre l1 l2 _ hst h0 h1 v0 v1) rfl rfl rfl (by decide +kernel : fb_hd yX11_byteIn 2) ⟨(Nat.le_of_ble_eq_true rfl), (Nat.le_of_ble_eq_true rfl)⟩ (rfl : vwCl[11]? = some _) rfl rfl rfl rfl (Nat.le_of_ble_eq_true rfl) ⟨(Nat.le_of_ble_eq_true rfl), (Nat.le_of_ble_eq_true rfl)⟩ dL_byteIn_5 ?_
  intro ce q9 H locs I h1 h2 h3
  refine vx_catch hown [(⟨0, 10, 13, 24⟩ : ExceptionTableEntry)] (⟨0, 10, 17, 19⟩ : ExceptionTableEntry) [] (hex.trans rfl) (fun z hz => by cases List.mem_singleton.mp hz; exact Or.inr ⟨by decide, _, hts _ fw_1689, fb_nxN X⟩) rfl (by decide) (hts _ fw_1665) (fb_nxC X (List.mem_of_getElem? (i := 1) rfl)) h1 h2 h3 ?_
  refine lv_astore (lv' := [(4, .ref q9), (0, .ref zb), (1, .int l1), (2, .int l2), (3, .ref zx)]) hx hb dL_byteIn_17 hl (by decide) rfl (fun ls hl => ?_)
  refine lv_iconst (v := (2 : Int32)) hx hb dL_byteIn_19 (by decide) ?_
  refine W.widen (k := 1) (n := 6) (by omega) (by omega) ?_
  exact fb_retI (u := ()) X I rfl rfl dL_byteIn_20

set_option maxHeartbeats 4000000 in
set_option maxRecDepth 100000 in
theorem c_w_outputAt_a (l : Launch) (D : va_G) (cI cJ : ClassId) (zb : Nat) (zt : Nat) (zn : Nat) (zv : Nat) (zs : Nat) (zp : Nat) (zq : Nat → Nat) (zu : Nat → Nat) (zh : Nat) (zst : Nat) (zre : Nat) (zx : Nat) (zg : Nat → Int64) (l1 : Int32) (sz : Nat) (hst : l.stackTraces = false) (h0 : l1 < 0) : Met l yL_outputAt (Cond.codeWith yL_outputAt cL_outputAt 4 (some .int) [((0 : Nat), (9 : Nat), (12 : Nat), (24 : Nat))] :: fb_all) ({ frames := 7, cells := 1, slots := 6, locals := 103 } : Room) (fb_PP D (fb_ty D cI cJ) [.ref zb, .int l1, .ref zx] (([fb_o11 zb zt zn zv zs zp (zq 0) (zu 0) zh zst zre, fb_jw cJ zx 1 zg] : List va_W).flatten) sz) (fb_QI D (va_A (([fb_o11 zb zt zn zv zs zp (zq 0) (zu 0) zh zst zre, fb_jw cJ zx 1 zg] : List va_W).flatten) sz) (fun (r : Int32) (_ : Unit) => r = (1 : Int32)) (fun (t : Unit) => ([fb_jw cJ zx 1 zg] : List va_W).flatten)) 1 6 (va_A (([fb_o11 zb zt zn zv zs zp (zq 0) (zu 0) zh zst zre, fb_jw cJ zx 1 zg] : List va_W).flatten) sz) := by
  refine fb_entW (Qf := fun A => (fb_QI D A (fun (r : Int32) (_ : Unit) => r = (1 : Int32)) (fun (t : Unit) => ([fb_jw cJ zx 1 zg] : List va_W).flatten))) (by decide +kernel) (Nat.le_of_ble_eq_true rfl) ?_
  intro p e s m args below meth c A ls X I hl hex
  obtain ⟨hx, hb, hr, hml, hown, hts, hlk, hA, hK, hF⟩ := id X
  have hl : lv_has ls 4 [(0, .ref zb), (1, .int l1), (2, .ref zx)] := hl
  refine lv_aload_n hx hb dL_outputAt_0 rfl (lv_at hl 2 rfl) ?_
  refine lv_iconst (v := (0 : Int32)) hx hb dL_outputAt_1 (by decide) ?_
  refine lv_aload_n hx hb dL_outputAt_2 rfl (lv_at hl 0 rfl) ?_
  refine lv_iload_n hx hb dL_outputAt_3 rfl (lv_at hl 1 rfl) ?_
  refine fb_gX (As := [.int l1]) (rest := [.int (0 : Int32), .ref zx]) (E := "java/lang/IndexOutOfBoundsException") (cs := [fb_o11 zb zt zn zv zs zp (zq 0) (zu 0) zh zst zre]) (rs := [fb_jw cJ zx 1 zg]) X hl I [0, 1] 2 rfl (by decide +kernel) rfl rfl (fb_goodV fw_1843 fw_1844 fw_1845 fw_191 fw_1846) (x_outputAt_a l D cI cJ zb zt zn zv zs zp (zq 0) (zu 0) zh zst zre l1 _ hst h0) rfl rfl rfl (by decide +kernel : fb_hd yX11_outputAt 1) ⟨(Nat.le_of_ble_eq_true rfl), (Nat.le_of_ble_eq_true rfl)⟩ (rfl : vwCl[11]? = some _) rfl rfl rfl rfl (Nat.le_of_ble_eq_true rfl) ⟨(Nat.le_of_ble_eq_true rfl), (Nat.le_of_ble_eq_true rfl)⟩ dL_outputAt_4 ?_
  intro ce q9 H locs I h1 h2 h3
  refine vx_catch hown [] (⟨0, 9, 12, 24⟩ : ExceptionTableEntry) [] (hex.trans rfl) (fun z hz => by cases hz) rfl (by decide) (hts _ fw_1689) (fb_nxC X (List.mem_of_getElem? (i := 2) rfl)) h1 h2 h3 ?_
  refine lv_astore_n (lv' := [(3, .ref q9), (0, .ref zb), (1, .int l1), (2, .ref zx)]) hx hb dL_outputAt_12 rfl hl (by decide) rfl (fun ls hl => ?_)
  refine lv_iconst (v := (1 : Int32)) hx hb dL_outputAt_13 (by decide) ?_
  refine W.widen (k := 1) (n := 6) (by omega) (by omega) ?_
  exact fb_retI (u := ()) X I rfl rfl dL_outputAt_14

set_option maxHeartbeats 4000000 in
set_option maxRecDepth 100000 in
theorem c_w_outputAt_b (l : Launch) (D : va_G) (cI cJ : ClassId) (zb : Nat) (zt : Nat) (zn : Nat) (zv : Nat) (zs : Nat) (zp : Nat) (zq : Nat → Nat) (zu : Nat → Nat) (zh : Nat) (zst : Nat) (zre : Nat) (zw : fb_AR) (zx : Nat) (zg : Nat → Int64) (l1 : Int32) (sz : Nat) (hst : l.stackTraces = false) (h0 : ¬ l1 < 0) : Met l yL_outputAt (Cond.codeWith yL_outputAt cL_outputAt 4 (some .int) [((0 : Nat), (9 : Nat), (12 : Nat), (24 : Nat))] :: fb_all) ({ frames := 7, cells := 1, slots := 6, locals := 103 } : Room) (fb_PP D (fb_ty D cI cJ) [.ref zb, .int l1, .ref zx] (([fb_o11 zb zt zn zv zs zp (zq 0) (zu 0) zh zst zre, fb_mw cI zq fb_s0 zw, fb_jw cJ zx 1 zg] : List va_W).flatten) sz) (fb_QI D (va_A (([fb_o11 zb zt zn zv zs zp (zq 0) (zu 0) zh zst zre, fb_mw cI zq fb_s0 zw, fb_jw cJ zx 1 zg] : List va_W).flatten) sz) (fun (r : Int32) (_ : Unit) => r = (1 : Int32)) (fun (t : Unit) => ([fb_jw cJ zx 1 zg] : List va_W).flatten)) 1 6 (va_A (([fb_o11 zb zt zn zv zs zp (zq 0) (zu 0) zh zst zre, fb_mw cI zq fb_s0 zw, fb_jw cJ zx 1 zg] : List va_W).flatten) sz) := by
  refine fb_entW (Qf := fun A => (fb_QI D A (fun (r : Int32) (_ : Unit) => r = (1 : Int32)) (fun (t : Unit) => ([fb_jw cJ zx 1 zg] : List va_W).flatten))) (by decide +kernel) (Nat.le_of_ble_eq_true rfl) ?_
  intro p e s m args below meth c A ls X I hl hex
  obtain ⟨hx, hb, hr, hml, hown, hts, hlk, hA, hK, hF⟩ := id X
  have hl : lv_has ls 4 [(0, .ref zb), (1, .int l1), (2, .ref zx)] := hl
  refine lv_aload_n hx hb dL_outputAt_0 rfl (lv_at hl 2 rfl) ?_
  refine lv_iconst (v := (0 : Int32)) hx hb dL_outputAt_1 (by decide) ?_
  refine lv_aload_n hx hb dL_outputAt_2 rfl (lv_at hl 0 rfl) ?_
  refine lv_iload_n hx hb dL_outputAt_3 rfl (lv_at hl 1 rfl) ?_
  refine fb_gX (As := [.int l1]) (rest := [.int (0 : Int32), .ref zx]) (E := "java/lang/IndexOutOfBoundsException") (cs := [fb_o11 zb zt zn zv zs zp (zq 0) (zu 0) zh zst zre, fb_mw cI zq fb_s0 zw]) (rs := [fb_jw cJ zx 1 zg]) X hl I [0, 1, 2] 3 rfl (by decide +kernel) rfl rfl (fb_goodV fw_1843 fw_1844 fw_1845 fw_191 fw_1846) (x_outputAt_b l D cI cJ zb zt zn zv zs zp (zu 0) zh zst zre l1 zq zw _ hst h0) rfl rfl rfl (by decide +kernel : fb_hd yX11_outputAt 1) ⟨(Nat.le_of_ble_eq_true rfl), (Nat.le_of_ble_eq_true rfl)⟩ (rfl : vwCl[11]? = some _) rfl rfl rfl rfl (Nat.le_of_ble_eq_true rfl) ⟨(Nat.le_of_ble_eq_true rfl), (Nat.le_of_ble_eq_true rfl)⟩ dL_outputAt_4 ?_
  intro ce q9 H locs I h1 h2 h3
  refine vx_catch hown [] (⟨0, 9, 12, 24⟩ : ExceptionTableEntry) [] (hex.trans rfl) (fun z hz => by cases hz) rfl (by decide) (hts _ fw_1689) (fb_nxC X (List.mem_of_getElem? (i := 2) rfl)) h1 h2 h3 ?_
  refine lv_astore_n (lv' := [(3, .ref q9), (0, .ref zb), (1, .int l1), (2, .ref zx)]) hx hb dL_outputAt_12 rfl hl (by decide) rfl (fun ls hl => ?_)
  refine lv_iconst (v := (1 : Int32)) hx hb dL_outputAt_13 (by decide) ?_
  refine W.widen (k := 1) (n := 6) (by omega) (by omega) ?_
  exact fb_retI (u := ()) X I rfl rfl dL_outputAt_14

set_option maxHeartbeats 4000000 in
set_option maxRecDepth 100000 in
theorem c_w_callAt_a (l : Launch) (D : va_G) (cI cJ : ClassId) (zb : Nat) (zt : Nat) (zn : Nat) (zv : Nat) (zs : Nat) (zp : Nat) (zq : Nat → Nat) (zu : Nat → Nat) (zh : Nat) (zst : Nat) (zre : Nat) (zx : Nat) (zg : Nat → Int64) (l1 : Int32) (sz : Nat) (hst : l.stackTraces = false) (h0 : l1 < 0) : Met l yL_callAt (Cond.codeWith yL_callAt cL_callAt 4 (some .int) [((0 : Nat), (9 : Nat), (12 : Nat), (24 : Nat))] :: fb_all) ({ frames := 7, cells := 1, slots := 6, locals := 103 } : Room) (fb_PP D (fb_ty D cI cJ) [.ref zb, .int l1, .ref zx] (([fb_o11 zb zt zn zv zs zp (zq 0) (zu 0) zh zst zre, fb_jw cJ zx 1 zg] : List va_W).flatten) sz) (fb_QI D (va_A (([fb_o11 zb zt zn zv zs zp (zq 0) (zu 0) zh zst zre, fb_jw cJ zx 1 zg] : List va_W).flatten) sz) (fun (r : Int32) (_ : Unit) => r = (1 : Int32)) (fun (t : Unit) => ([fb_jw cJ zx 1 zg] : List va_W).flatten)) 1 6 (va_A (([fb_o11 zb zt zn zv zs zp (zq 0) (zu 0) zh zst zre, fb_jw cJ zx 1 zg] : List va_W).flatten) sz) := by
  refine fb_entW (Qf := fun A => (fb_QI D A (fun (r : Int32) (_ : Unit) => r = (1 : Int32)) (fun (t : Unit) => ([fb_jw cJ zx 1 zg] : List va_W).flatten))) (by decide +kernel) (Nat.le_of_ble_eq_true rfl) ?_
  intro p e s m args below meth c A ls X I hl hex
  obtain ⟨hx, hb, hr, hml, hown, hts, hlk, hA, hK, hF⟩ := id X
  have hl : lv_has ls 4 [(0, .ref zb), (1, .int l1), (2, .ref zx)] := hl
  refine lv_aload_n hx hb dL_callAt_0 rfl (lv_at hl 2 rfl) ?_
  refine lv_iconst (v := (0 : Int32)) hx hb dL_callAt_1 (by decide) ?_
  refine lv_aload_n hx hb dL_callAt_2 rfl (lv_at hl 0 rfl) ?_
  refine lv_iload_n hx hb dL_callAt_3 rfl (lv_at hl 1 rfl) ?_
  refine fb_gX (As := [.int l1]) (rest := [.int (0 : Int32), .ref zx]) (E := "java/lang/IndexOutOfBoundsException") (cs := [fb_o11 zb zt zn zv zs zp (zq 0) (zu 0) zh zst zre]) (rs := [fb_jw cJ zx 1 zg]) X hl I [0, 1] 2 rfl (by decide +kernel) rfl rfl (fb_goodV fw_1853 fw_1854 fw_1855 fw_191 fw_1856) (x_callAt_a l D cI cJ zb zt zn zv zs zp (zq 0) (zu 0) zh zst zre l1 _ hst h0) rfl rfl rfl (by decide +kernel : fb_hd yX11_callAt 1) ⟨(Nat.le_of_ble_eq_true rfl), (Nat.le_of_ble_eq_true rfl)⟩ (rfl : vwCl[11]? = some _) rfl rfl rfl rfl (Nat.le_of_ble_eq_true rfl) ⟨(Nat.le_of_ble_eq_true rfl), (Nat.le_of_ble_eq_true rfl)⟩ dL_callAt_4 ?_
  intro ce q9 H locs I h1 h2 h3
  refine vx_catch hown [] (⟨0, 9, 12, 24⟩ : ExceptionTableEntry) [] (hex.trans rfl) (fun z hz => by cases hz) rfl (by decide) (hts _ fw_1689) (fb_nxC X (List.mem_of_getElem? (i := 2) rfl)) h1 h2 h3 ?_
  refine lv_astore_n (lv' := [(3, .ref q9), (0, .ref zb), (1, .int l1), (2, .ref zx)]) hx hb dL_callAt_12 rfl hl (by decide) rfl (fun ls hl => ?_)
  refine lv_iconst (v := (1 : Int32)) hx hb dL_callAt_13 (by decide) ?_
  refine W.widen (k := 1) (n := 6) (by omega) (by omega) ?_
  exact fb_retI (u := ()) X I rfl rfl dL_callAt_14

set_option maxHeartbeats 4000000 in
set_option maxRecDepth 100000 in
theorem c_w_callAt_b (l : Launch) (D : va_G) (cI cJ : ClassId) (zb : Nat) (zt : Nat) (zn : Nat) (zv : Nat) (zs : Nat) (zp : Nat) (zq : Nat → Nat) (zu : Nat → Nat) (zh : Nat) (zst : Nat) (zre : Nat) (zw : fb_AR) (zx : Nat) (zg : Nat → Int64) (l1 : Int32) (sz : Nat) (hst : l.stackTraces = false) (h0 : ¬ l1 < 0) : Met l yL_callAt (Cond.codeWith yL_callAt cL_callAt 4 (some .int) [((0 : Nat), (9 : Nat), (12 : Nat), (24 : Nat))] :: fb_all) ({ frames := 7, cells := 1, slots := 6, locals := 103 } : Room) (fb_PP D (fb_ty D cI cJ) [.ref zb, .int l1, .ref zx] (([fb_o11 zb zt zn zv zs zp (zq 0) (zu 0) zh zst zre, fb_mw cI zq fb_s0 zw, fb_jw cJ zx 1 zg] : List va_W).flatten) sz) (fb_QI D (va_A (([fb_o11 zb zt zn zv zs zp (zq 0) (zu 0) zh zst zre, fb_mw cI zq fb_s0 zw, fb_jw cJ zx 1 zg] : List va_W).flatten) sz) (fun (r : Int32) (_ : Unit) => r = (1 : Int32)) (fun (t : Unit) => ([fb_jw cJ zx 1 zg] : List va_W).flatten)) 1 6 (va_A (([fb_o11 zb zt zn zv zs zp (zq 0) (zu 0) zh zst zre, fb_mw cI zq fb_s0 zw, fb_jw cJ zx 1 zg] : List va_W).flatten) sz) := by
  refine fb_entW (Qf := fun A => (fb_QI D A (fun (r : Int32) (_ : Unit) => r = (1 : Int32)) (fun (t : Unit) => ([fb_jw cJ zx 1 zg] : List va_W).flatten))) (by decide +kernel) (Nat.le_of_ble_eq_true rfl) ?_
  intro p e s m args below meth c A ls X I hl hex
  obtain ⟨hx, hb, hr, hml, hown, hts, hlk, hA, hK, hF⟩ := id X
  have hl : lv_has ls 4 [(0, .ref zb), (1, .int l1), (2, .ref zx)] := hl
  refine lv_aload_n hx hb dL_callAt_0 rfl (lv_at hl 2 rfl) ?_
  refine lv_iconst (v := (0 : Int32)) hx hb dL_callAt_1 (by decide) ?_
  refine lv_aload_n hx hb dL_callAt_2 rfl (lv_at hl 0 rfl) ?_
  refine lv_iload_n hx hb dL_callAt_3 rfl (lv_at hl 1 rfl) ?_
  refine fb_gX (As := [.int l1]) (rest := [.int (0 : Int32), .ref zx]) (E := "java/lang/IndexOutOfBoundsException") (cs := [fb_o11 zb zt zn zv zs zp (zq 0) (zu 0) zh zst zre, fb_mw cI zq fb_s0 zw]) (rs := [fb_jw cJ zx 1 zg]) X hl I [0, 1, 2] 3 rfl (by decide +kernel) rfl rfl (fb_goodV fw_1853 fw_1854 fw_1855 fw_191 fw_1856) (x_callAt_b l D cI cJ zb zt zn zv zs zp (zu 0) zh zst zre l1 zq zw _ hst h0) rfl rfl rfl (by decide +kernel : fb_hd yX11_callAt 1) ⟨(Nat.le_of_ble_eq_true rfl), (Nat.le_of_ble_eq_true rfl)⟩ (rfl : vwCl[11]? = some _) rfl rfl rfl rfl (Nat.le_of_ble_eq_true rfl) ⟨(Nat.le_of_ble_eq_true rfl), (Nat.le_of_ble_eq_true rfl)⟩ dL_callAt_4 ?_
  intro ce q9 H locs I h1 h2 h3
  refine vx_catch hown [] (⟨0, 9, 12, 24⟩ : ExceptionTableEntry) [] (hex.trans rfl) (fun z hz => by cases hz) rfl (by decide) (hts _ fw_1689) (fb_nxC X (List.mem_of_getElem? (i := 2) rfl)) h1 h2 h3 ?_
  refine lv_astore_n (lv' := [(3, .ref q9), (0, .ref zb), (1, .int l1), (2, .ref zx)]) hx hb dL_callAt_12 rfl hl (by decide) rfl (fun ls hl => ?_)
  refine lv_iconst (v := (1 : Int32)) hx hb dL_callAt_13 (by decide) ?_
  refine W.widen (k := 1) (n := 6) (by omega) (by omega) ?_
  exact fb_retI (u := ()) X I rfl rfl dL_callAt_14

