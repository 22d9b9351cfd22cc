/-! the law's cases, laid by law.py -/
theorem fw_1585 : Cond.codeWith yL_feed cL_feed 8 (some .int) [((0 : Nat), (16 : Nat), (19 : Nat), (13 : Nat))] ∈ fb_all := fb_mc fb_s6 195 rfl rfl

theorem fw_1664 : Cond.codeWith yL_trim cL_trim 4 (some .int) [((0 : Nat), (9 : Nat), (12 : Nat), (19 : Nat))] ∈ fb_all := fb_mc fb_s7 34 rfl rfl

theorem fw_1688 : Cond.codeWith yL_valueOf cL_valueOf 4 (some .int) [((0 : Nat), (9 : Nat), (12 : Nat), (24 : Nat))] ∈ fb_all := fb_mc fb_s7 58 rfl rfl

theorem fw_1712 : Cond.codeWith yL_nameNear cL_nameNear 4 (some .int) [((0 : Nat), (9 : Nat), (12 : Nat), (19 : Nat))] ∈ fb_all := fb_mc fb_s7 82 rfl rfl

theorem fw_1727 : Cond.codeWith yL_lineOf cL_lineOf 4 (some .int) [((0 : Nat), (9 : Nat), (12 : Nat), (19 : Nat))] ∈ fb_all := fb_mc fb_s7 97 rfl rfl

theorem fw_1735 : Cond.codeWith yL_key cL_key 4 (some .int) [((0 : Nat), (9 : Nat), (12 : Nat), (19 : Nat)), ((0 : Nat), (9 : Nat), (15 : Nat), (13 : Nat))] ∈ fb_all := fb_mc fb_s7 105 rfl rfl

theorem fw_1751 : Cond.codeWith yL_poke cL_poke 5 (some .int) [((0 : Nat), (10 : Nat), (13 : Nat), (19 : Nat))] ∈ fb_all := fb_mc fb_s7 121 rfl rfl

theorem fw_1761 : Cond.codeWith yL_setRegister cL_setRegister 5 (some .int) [((0 : Nat), (10 : Nat), (13 : Nat), (24 : Nat)), ((0 : Nat), (10 : Nat), (17 : Nat), (19 : Nat))] ∈ fb_all := fb_mc fb_s7 131 rfl rfl

theorem fw_1774 : Cond.codeWith yL_run cL_run 4 (some .int) [((0 : Nat), (9 : Nat), (12 : Nat), (19 : Nat))] ∈ fb_all := fb_mc fb_s7 144 rfl rfl

theorem fw_1785 : Cond.codeWith yL_back cL_back 4 (some .int) [((0 : Nat), (9 : Nat), (12 : Nat), (19 : Nat))] ∈ fb_all := fb_mc fb_s7 155 rfl rfl

theorem fw_1798 : Cond.codeWith yL_setBreak cL_setBreak 5 (some .int) [((0 : Nat), (10 : Nat), (13 : Nat), (19 : Nat)), ((0 : Nat), (10 : Nat), (17 : Nat), (13 : Nat))] ∈ fb_all := fb_mc fb_s7 168 rfl rfl

theorem fw_1812 : Cond.codeWith yL_setWatch cL_setWatch 7 (some .int) [((0 : Nat), (14 : Nat), (17 : Nat), (19 : Nat)), ((0 : Nat), (14 : Nat), (21 : Nat), (13 : Nat))] ∈ fb_all := fb_mc fb_s7 182 rfl rfl

theorem fw_1825 : Cond.codeWith yL_byteAt cL_byteAt 4 (some .int) [((0 : Nat), (9 : Nat), (12 : Nat), (19 : Nat))] ∈ fb_all := fb_mc fb_s7 195 rfl rfl

theorem fw_1833 : Cond.codeWith yL_byteIn cL_byteIn 5 (some .int) [((0 : Nat), (10 : Nat), (13 : Nat), (24 : Nat)), ((0 : Nat), (10 : Nat), (17 : Nat), (19 : Nat))] ∈ fb_all := fb_mc fb_s7 203 rfl rfl

theorem fw_1842 : Cond.codeWith yL_outputAt cL_outputAt 4 (some .int) [((0 : Nat), (9 : Nat), (12 : Nat), (24 : Nat))] ∈ fb_all := fb_mc fb_s7 212 rfl rfl

theorem fw_1852 : Cond.codeWith yL_callAt cL_callAt 4 (some .int) [((0 : Nat), (9 : Nat), (12 : Nat), (24 : Nat))] ∈ fb_all := fb_mc fb_s7 222 rfl rfl

theorem fw_1860 : Cond.codeWith yL_timesAt cL_timesAt 4 (some .int) [((0 : Nat), (9 : Nat), (12 : Nat), (19 : Nat))] ∈ fb_all := fb_mc fb_s7 230 rfl rfl

theorem fw_1867 : Cond.codeWith yL_codeAt cL_codeAt 4 (some .int) [((0 : Nat), (9 : Nat), (12 : Nat), (19 : Nat))] ∈ fb_all := fb_mc fb_s7 237 rfl rfl

theorem fw_1875 : Cond.codeWith yL_lengthAt cL_lengthAt 4 (some .int) [((0 : Nat), (9 : Nat), (12 : Nat), (19 : Nat))] ∈ fb_all := fb_mc fb_s8 5 rfl rfl

theorem fw_1882 : Cond.codeWith yL_operandAt cL_operandAt 4 (some .int) [((0 : Nat), (9 : Nat), (12 : Nat), (19 : Nat))] ∈ fb_all := fb_mc fb_s8 12 rfl rfl

theorem fw_1890 : Cond.codeWith yL_cyclesToHalt cL_cyclesToHalt 4 (some .int) [((0 : Nat), (9 : Nat), (12 : Nat), (19 : Nat))] ∈ fb_all := fb_mc fb_s8 20 rfl rfl

theorem fw_1898 : Cond.codeWith yL_cyclesToReach cL_cyclesToReach 5 (some .int) [((0 : Nat), (10 : Nat), (13 : Nat), (19 : Nat))] ∈ fb_all := fb_mc fb_s8 28 rfl rfl

theorem fw_1910 : Cond.codeWith yL_outputsIn cL_outputsIn 4 (some .int) [((0 : Nat), (9 : Nat), (12 : Nat), (19 : Nat))] ∈ fb_all := fb_mc fb_s8 40 rfl rfl

theorem fw_1917 : Cond.codeWith yL_writesIn cL_writesIn 5 (some .int) [((0 : Nat), (10 : Nat), (13 : Nat), (19 : Nat))] ∈ fb_all := fb_mc fb_s8 47 rfl rfl

theorem fw_1928 : Cond.codeWith yL_isCode cL_isCode 4 (some .int) [((0 : Nat), (16 : Nat), (19 : Nat), (19 : Nat))] ∈ fb_all := fb_mc fb_s8 58 rfl rfl

theorem a_reset : (f_X11_reset fb_s0 fb_h0 (fun _ => 0)).1 = 0 := vec_zero (s := fb_s0) rfl 0
theorem a_signal : (f_X11_signal fb_s0 fb_h0).1 = 4 := by
  show (0 : Int32) ||| 4 = 4
  decide

set_option maxHeartbeats 4000000 in
set_option maxRecDepth 100000 in
theorem lw_end {p : Program} {l : Launch} {e : Env} {s : State} {m : MethodId} {below : List Frame} {meth : Method} {c : Code} {H : Heap} {locs : List Loc} {ls : Array Slot} {D : va_G} {cI cJ : ClassId} {b L : Nat} {xs : Nat → Int32} {ws : va_W} {cells slots : Nat} (X : fb_Bx p s m #[Value.ref b] meth c cL_law RL 9 (some .boolean) D (fb_ty D cI cJ) (fun q : Nat => s.heap.size ≤ q)) (hX : va_X b L xs s s.heap) (hbl : b < s.heap.size) (hbA : ¬ (fun q : Nat => s.heap.size ≤ q) b) (hL : L ≤ 6) (I : fb_In D (fun q : Nat => s.heap.size ≤ q) s.heap ws H locs) (hl : lv_has ls 9 [(4, .int (0 : Int32)), (0, .ref b)]) (hc : cells ≤ 600002) (hs : slots ≤ 7302232) : W p l e room_1 s m #[Value.ref b] below meth c H locs cells slots (lw_Z below #[Value.ref b] s) (F0 m 2336 ls []) := by
  obtain ⟨hx, hb, hr, hml, hown, hts, hlk, hA, hK, hF⟩ := id X
  refine lv_iinc (v := (6 : Int32)) (lv' := [(4, .int (6 : Int32)), (0, .ref b)]) hx hb dL_law_2336 hl (k := 0) rfl (by decide) (by decide) rfl (fun ls hl => ?_)
  refine lv_goto (tgt := 23) hx hb dL_law_2339 (by decide) ?_
  refine lv_iload hx hb dL_law_23 (lv_at hl 0 rfl) ?_
  refine lv_aload_n hx hb dL_law_25 rfl (lv_at hl 1 rfl) ?_
  refine va_slen hx hb hX hbl hbA I.2.2 dL_law_26 ?_
  refine lv_bipush (v := (6 : Int32)) hx hb dL_law_27 (by decide) ?_
  refine lv_isub hx hb dL_law_29 ?_
  have e6 : Int32.ofNat L - 6 < 6 := by
    have : L = 0 ∨ L = 1 ∨ L = 2 ∨ L = 3 ∨ L = 4 ∨ L = 5 ∨ L = 6 := by omega
    rcases this with h | h | h | h | h | h | h <;> subst h <;> decide
  refine lv_icmp_gt (tgt := 2342) hx hb dL_law_30 (by decide) (fun _ => ?_) (fun c1 => absurd e6 c1)
  refine lv_iconst (v := (1 : Int32)) hx hb dL_law_2342 (by decide) ?_
  refine va_forget (fun q hq => I.2.2.2.2 q hq) ?_
  refine W.widen (k := 600002) (n := 7302232) hc hs ?_
  exact lw_ret (s := s) (d0 := s.drawn) (Drawn.sameBut.refl s.drawn lw_cs) hx hb hr hlk dL_law_2343

set_option maxHeartbeats 4000000 in
set_option maxRecDepth 100000 in
theorem lc_3_p {p : Program} {l : Launch} {e : Env} {s : State} {m : MethodId} {below : List Frame} {meth : Method} {c : Code} {H : Heap} {locs : List Loc} {ls : Array Slot} {D : va_G} {cI cJ : ClassId} {b L : Nat} {xs : Nat → Int32} {zb : Nat} {zt : Nat} {zn : Nat} {zv : Nat} {zs : Nat} {zp : Nat} {zq : Nat → Nat} {zu : Nat → Nat} {zh : Nat} {zst : Nat} {zre : Nat} {zp4 : Nat} {zp5 : Nat} {zp6 : Nat} {zp7 : Nat} {zp9 : Nat} {zx : Nat} {zg : Nat → Int64} {za : Nat} {zr : Nat → Nat} (hst : l.stackTraces = false) (X : fb_Bx p s m #[Value.ref b] meth c cL_law RL 9 (some .boolean) D (fb_ty D cI cJ) (fun q : Nat => s.heap.size ≤ q)) (hX : va_X b L xs s s.heap) (hbl : b < s.heap.size) (hbA : ¬ (fun q : Nat => s.heap.size ≤ q) b) (hL6 : L = 6)  (I : fb_In D (fun q : Nat => s.heap.size ≤ q) s.heap (([fb_o11 zb zt zn zv zs zp (zq 0) (zu 0) zh zst zre, fb_o4 zp zt zv zn zs zp4 zp5 zp6 zp7 zp9 fb_p0, fb_jw cJ zx 1 zg, fb_o12 za zr fr_e0] : List va_W).flatten) H locs) (hl : lv_has ls 9 [(4, .int (0 : Int32)), (3, .ref zx), (2, .ref za), (1, .ref zb), (0, .ref b)]) : W p l e room_1 s m #[Value.ref b] below meth c H locs 209 179241 (lw_Z below #[Value.ref b] s) (F0 m 457 ls []) := by
  obtain ⟨hx, hb, hr, hml, hown, hts, hlk, hA, hK, hF⟩ := id X
  refine lv_aload_n hx hb dL_law_457 rfl (lv_at hl 3 rfl) ?_
  refine fb_gO (cs := [fb_o11 zb zt zn zv zs zp (zq 0) (zu 0) zh zst zre, fb_o4 zp zt zv zn zs zp4 zp5 zp6 zp7 zp9 fb_p0]) (rs := [fb_jw cJ zx 1 zg, fb_o12 za zr fr_e0]) X I [0, 1, 2, 3] 4 rfl (by decide +kernel) rfl rfl (fun I => fb_rV (As := []) (rest := []) X hl (fb_goodV fw_1143 fw_1144 fw_1145 fw_191 fw_1146) (c_X11_errorAt l D cI cJ zb zt zn zv zs zp (zq 0) (zu 0) zh zst zre zt zv zn zs zp4 zp5 zp6 zp7 zp9 fb_p0 _ ) rfl rfl rfl (by decide +kernel : fb_hd yX11_errorAt 0) ⟨(Nat.le_of_ble_eq_true rfl), (Nat.le_of_ble_eq_true rfl)⟩ (rfl : vwCl[11]? = some _) rfl rfl rfl rfl (Nat.le_of_ble_eq_true rfl) ⟨(Nat.le_of_ble_eq_true rfl), (Nat.le_of_ble_eq_true rfl)⟩ dL_law_458 I) ?_
  refine fb_tI (v := (-1 : Int32)) rfl ?_
  refine lv_aload_n hx hb dL_law_461 rfl (lv_at hl 2 rfl) ?_
  refine fb_gI (cs := [fb_o12 za zr fr_e0]) (rs := [fb_o11 zb zt zn zv zs zp (zq 0) (zu 0) zh zst zre, fb_o4 zp zt zv zn zs zp4 zp5 zp6 zp7 zp9 fb_p0, fb_jw cJ zx 1 zg]) (fun (t : Unit) => [fb_o11 zb zt zn zv zs zp (zq 0) (zu 0) zh zst zre, fb_o4 zp zt zv zn zs zp4 zp5 zp6 zp7 zp9 fb_p0, fb_jw cJ zx 1 zg, fb_o12 za zr (upd fr_e0 19 (0 : Int32))]) (fun (t : Unit) => [fb_o12 za zr (upd fr_e0 19 (0 : Int32))]) X I [3, 0, 1, 2] 4 rfl (by decide +kernel) rfl rfl [3, 0, 1, 2] 4 (fun _ => rfl) (by decide +kernel) (fun _ => rfl) (fun _ => rfl) (fun I => fb_rV (As := []) (rest := [.int (-1 : Int32)]) X hl (fb_goodV fw_2354 fw_2355 fw_2356 fw_204 fw_2357) (c_errorAt l D cI cJ za zr _ ) rfl rfl rfl (by decide +kernel : fb_hd yX12_errorAt 0) ⟨Nat.le_of_ble_eq_true rfl, Nat.le_of_ble_eq_true rfl⟩ rfl rfl rfl rfl rfl (Nat.le_of_ble_eq_true rfl) ⟨Nat.le_of_ble_eq_true rfl, Nat.le_of_ble_eq_true rfl⟩ dL_law_462 I) ?_
  intro r2 w1 H locs e0 I
  subst e0
  have I : fb_In D (fun q : Nat => s.heap.size ≤ q) s.heap (([fb_o11 zb zt zn zv zs zp (zq 0) (zu 0) zh zst zre, fb_o4 zp zt zv zn zs zp4 zp5 zp6 zp7 zp9 fb_p0, fb_jw cJ zx 1 zg, fb_o12 za zr (upd fr_e0 19 (0 : Int32))] : List va_W).flatten) H locs := I
  refine lv_icmp_eq (tgt := 2336) hx hb dL_law_465 (by decide) (fun _ => ?_) (fun c3 => absurd rfl c3)
  exact lw_end X hX hbl hbA (by omega) I (lv_sub hl [0, 4] rfl) (Nat.le_of_ble_eq_true rfl) (Nat.le_of_ble_eq_true rfl)

set_option maxHeartbeats 4000000 in
set_option maxRecDepth 100000 in
theorem lc_4_p {p : Program} {l : Launch} {e : Env} {s : State} {m : MethodId} {below : List Frame} {meth : Method} {c : Code} {H : Heap} {locs : List Loc} {ls : Array Slot} {D : va_G} {cI cJ : ClassId} {b L : Nat} {xs : Nat → Int32} {zb : Nat} {zt : Nat} {zn : Nat} {zv : Nat} {zs : Nat} {zp : Nat} {zq : Nat → Nat} {zu : Nat → Nat} {zh : Nat} {zst : Nat} {zre : Nat} {zn0 : Nat} {zn1 : Nat} {zn3 : Nat} {zx : Nat} {zg : Nat → Int64} {za : Nat} {zr : Nat → Nat} (hst : l.stackTraces = false) (X : fb_Bx p s m #[Value.ref b] meth c cL_law RL 9 (some .boolean) D (fb_ty D cI cJ) (fun q : Nat => s.heap.size ≤ q)) (hX : va_X b L xs s s.heap) (hbl : b < s.heap.size) (hbA : ¬ (fun q : Nat => s.heap.size ≤ q) b) (hL6 : L = 6)  (I : fb_In D (fun q : Nat => s.heap.size ≤ q) s.heap (([fb_o11 zb zt zn zv zs zp (zq 0) (zu 0) zh zst zre, fb_o3 zn zn0 zn1 zn3 (fun _ => 0), fb_jw cJ zx 1 zg, fb_o12 za zr fr_e0] : List va_W).flatten) H locs) (hl : lv_has ls 9 [(4, .int (0 : Int32)), (3, .ref zx), (2, .ref za), (1, .ref zb), (0, .ref b)]) : W p l e room_1 s m #[Value.ref b] below meth c H locs 209 179241 (lw_Z below #[Value.ref b] s) (F0 m 470 ls []) := by
  obtain ⟨hx, hb, hr, hml, hown, hts, hlk, hA, hK, hF⟩ := id X
  refine lv_aload_n hx hb dL_law_470 rfl (lv_at hl 3 rfl) ?_
  refine fb_gO (cs := [fb_o11 zb zt zn zv zs zp (zq 0) (zu 0) zh zst zre, fb_o3 zn zn0 zn1 zn3 (fun _ => 0)]) (rs := [fb_jw cJ zx 1 zg, fb_o12 za zr fr_e0]) X I [0, 1, 2, 3] 4 rfl (by decide +kernel) rfl rfl (fun I => fb_rV (As := []) (rest := []) X hl (fb_goodV fw_1147 fw_1148 fw_1149 fw_191 fw_1150) (c_X11_names l D cI cJ zb zt zn zv zs zp (zq 0) (zu 0) zh zst zre zn0 zn1 zn3 (fun _ => 0) _ ) rfl rfl rfl (by decide +kernel : fb_hd yX11_names 0) ⟨(Nat.le_of_ble_eq_true rfl), (Nat.le_of_ble_eq_true rfl)⟩ (rfl : vwCl[11]? = some _) rfl rfl rfl rfl (Nat.le_of_ble_eq_true rfl) ⟨(Nat.le_of_ble_eq_true rfl), (Nat.le_of_ble_eq_true rfl)⟩ dL_law_471 I) ?_
  refine fb_tI (v := (0 : Int32)) rfl ?_
  refine lv_aload_n hx hb dL_law_474 rfl (lv_at hl 2 rfl) ?_
  refine fb_gI (cs := [fb_o12 za zr fr_e0]) (rs := [fb_o11 zb zt zn zv zs zp (zq 0) (zu 0) zh zst zre, fb_o3 zn zn0 zn1 zn3 (fun _ => 0), fb_jw cJ zx 1 zg]) (fun (t : Unit) => [fb_o11 zb zt zn zv zs zp (zq 0) (zu 0) zh zst zre, fb_o3 zn zn0 zn1 zn3 (fun _ => 0), fb_jw cJ zx 1 zg, fb_o12 za zr (upd fr_e0 19 (0 : Int32))]) (fun (t : Unit) => [fb_o12 za zr (upd fr_e0 19 (0 : Int32))]) X I [3, 0, 1, 2] 4 rfl (by decide +kernel) rfl rfl [3, 0, 1, 2] 4 (fun _ => rfl) (by decide +kernel) (fun _ => rfl) (fun _ => rfl) (fun I => fb_rV (As := []) (rest := [.int (0 : Int32)]) X hl (fb_goodV fw_2358 fw_2359 fw_2360 fw_204 fw_2361) (c_names l D cI cJ za zr _ ) rfl rfl rfl (by decide +kernel : fb_hd yX12_names 0) ⟨Nat.le_of_ble_eq_true rfl, Nat.le_of_ble_eq_true rfl⟩ rfl rfl rfl rfl rfl (Nat.le_of_ble_eq_true rfl) ⟨Nat.le_of_ble_eq_true rfl, Nat.le_of_ble_eq_true rfl⟩ dL_law_475 I) ?_
  intro r2 w1 H locs e0 I
  subst e0
  have I : fb_In D (fun q : Nat => s.heap.size ≤ q) s.heap (([fb_o11 zb zt zn zv zs zp (zq 0) (zu 0) zh zst zre, fb_o3 zn zn0 zn1 zn3 (fun _ => 0), fb_jw cJ zx 1 zg, fb_o12 za zr (upd fr_e0 19 (0 : Int32))] : List va_W).flatten) H locs := I
  refine lv_icmp_eq (tgt := 2336) hx hb dL_law_478 (by decide) (fun _ => ?_) (fun c3 => absurd rfl c3)
  exact lw_end X hX hbl hbA (by omega) I (lv_sub hl [0, 4] rfl) (Nat.le_of_ble_eq_true rfl) (Nat.le_of_ble_eq_true rfl)

set_option maxHeartbeats 4000000 in
set_option maxRecDepth 100000 in
theorem lc_8_p {p : Program} {l : Launch} {e : Env} {s : State} {m : MethodId} {below : List Frame} {meth : Method} {c : Code} {H : Heap} {locs : List Loc} {ls : Array Slot} {D : va_G} {cI cJ : ClassId} {b L : Nat} {xs : Nat → Int32} {zb : Nat} {zt : Nat} {zn : Nat} {zv : Nat} {zs : Nat} {zp : Nat} {zq : Nat → Nat} {zu : Nat → Nat} {zh : Nat} {zst : Nat} {zre : Nat} {zw : fb_AR} {zo : Nat → Nat} {zi : Nat → Nat} {zb0 : Nat} {zb1 : Nat} {zb3 : Nat} {zb4 : Nat} {zb5 : Nat} {zx : Nat} {zg : Nat → Int64} {za : Nat} {zr : Nat → Nat} (hst : l.stackTraces = false) (X : fb_Bx p s m #[Value.ref b] meth c cL_law RL 9 (some .boolean) D (fb_ty D cI cJ) (fun q : Nat => s.heap.size ≤ q)) (hX : va_X b L xs s s.heap) (hbl : b < s.heap.size) (hbA : ¬ (fun q : Nat => s.heap.size ≤ q) b) (hL6 : L = 6)  (I : fb_In D (fun q : Nat => s.heap.size ≤ q) s.heap (([fb_o11 zb zt zn zv zs zp (zq 0) (zu 0) zh zst zre, fb_mw cI zq fb_s0 zw, fb_o0 zh (zo 0) (zi 0) fb_h0, fb_o7 zst zb0 zb1 zb3 zb4 zb5 (fun _ => 0), fb_jw cJ zx 1 zg, fb_o12 za zr fr_e0, fb_aw cI (zr 0) 16205 (fr_m (fun _ => 0) 0)] : List va_W).flatten) H locs) (hl : lv_has ls 9 [(4, .int (0 : Int32)), (3, .ref zx), (2, .ref za), (1, .ref zb), (0, .ref b)]) : W p l e room_1 s m #[Value.ref b] below meth c H locs 209 179241 (lw_Z below #[Value.ref b] s) (F0 m 651 ls []) := by
  obtain ⟨hx, hb, hr, hml, hown, hts, hlk, hA, hK, hF⟩ := id X
  refine lv_aload_n hx hb dL_law_651 rfl (lv_at hl 3 rfl) ?_
  refine fb_gIx (cs := [fb_o11 zb zt zn zv zs zp (zq 0) (zu 0) zh zst zre, fb_mw cI zq fb_s0 zw, fb_o0 zh (zo 0) (zi 0) fb_h0, fb_o7 zst zb0 zb1 zb3 zb4 zb5 (fun _ => 0)]) (rs := [fb_jw cJ zx 1 zg, fb_o12 za zr fr_e0, fb_aw cI (zr 0) 16205 (fr_m (fun _ => 0) 0)]) X I [0, 1, 2, 3, 4, 5, 6] 7 rfl (by decide +kernel) rfl rfl (fun I => fb_rV (As := []) (rest := []) X hl (fb_goodV fw_1151 fw_1152 fw_1153 fw_191 fw_1154) (c_X11_reset l D cI cJ zb zt zn zv zs zp (zu 0) zh zst zre zq fb_s0 zw (zo 0) (zi 0) fb_h0 zb0 zb1 zb3 zb4 zb5 (fun _ => 0) _ ) rfl rfl rfl (by decide +kernel : fb_hd yX11_reset 0) ⟨(Nat.le_of_ble_eq_true rfl), (Nat.le_of_ble_eq_true rfl)⟩ (rfl : vwCl[11]? = some _) rfl rfl rfl rfl (Nat.le_of_ble_eq_true rfl) ⟨(Nat.le_of_ble_eq_true rfl), (Nat.le_of_ble_eq_true rfl)⟩ dL_law_652 I) ?_
  intro r u H locs e0 I
  have e0 : r = (0 : Int32) := e0.trans a_reset
  subst e0
  refine lv_aload_n hx hb dL_law_655 rfl (lv_at hl 2 rfl) ?_
  refine fb_gI (cs := [fb_o12 za zr fr_e0, fb_aw cI (zr 0) 16205 (fr_m (fun _ => 0) 0)]) (rs := [fb_jw cJ zx 1 zg]) (fun (t : Unit) => [fb_jw cJ zx 1 zg, fb_o12 za zr (upd (upd (upd fr_e0 19 (0 : Int32)) 10 (0 : Int32)) 2 (0 : Int32)), fb_aw cI (zr 0) 16205 (fr_m (fun _ => 0) 0)]) (fun (t : Unit) => [fb_o12 za zr (upd (upd (upd fr_e0 19 (0 : Int32)) 10 (0 : Int32)) 2 (0 : Int32)), fb_aw cI (zr 0) 16205 (fr_m (fun _ => 0) 0)]) X I [1, 2, 0] 3 rfl (by decide +kernel) rfl rfl [1, 2, 0] 3 (fun _ => rfl) (by decide +kernel) (fun _ => rfl) (fun _ => rfl) (fun I => fb_rV (As := []) (rest := [.int (0 : Int32)]) X hl (fb_goodV fw_2374 fw_2375 fw_2376 fw_204 fw_2377) (c_reset l D cI cJ za zr _ ) rfl rfl rfl (by decide +kernel : fb_hd yX12_reset 0) ⟨Nat.le_of_ble_eq_true rfl, Nat.le_of_ble_eq_true rfl⟩ rfl rfl rfl rfl rfl (Nat.le_of_ble_eq_true rfl) ⟨Nat.le_of_ble_eq_true rfl, Nat.le_of_ble_eq_true rfl⟩ dL_law_656 I) ?_
  intro r2 w1 H locs e0 I
  subst e0
  have I : fb_In D (fun q : Nat => s.heap.size ≤ q) s.heap (([fb_jw cJ zx 1 zg, fb_o12 za zr (upd (upd (upd fr_e0 19 (0 : Int32)) 10 (0 : Int32)) 2 (0 : Int32)), fb_aw cI (zr 0) 16205 (fr_m (fun _ => 0) 0)] : List va_W).flatten) H locs := I
  refine lv_icmp_eq (tgt := 2336) hx hb dL_law_659 (by decide) (fun _ => ?_) (fun c3 => absurd rfl c3)
  exact lw_end X hX hbl hbA (by omega) I (lv_sub hl [0, 4] rfl) (Nat.le_of_ble_eq_true rfl) (Nat.le_of_ble_eq_true rfl)

set_option maxHeartbeats 4000000 in
set_option maxRecDepth 100000 in
theorem lc_10_p {p : Program} {l : Launch} {e : Env} {s : State} {m : MethodId} {below : List Frame} {meth : Method} {c : Code} {H : Heap} {locs : List Loc} {ls : Array Slot} {D : va_G} {cI cJ : ClassId} {b L : Nat} {xs : Nat → Int32} {zb : Nat} {zt : Nat} {zn : Nat} {zv : Nat} {zs : Nat} {zp : Nat} {zq : Nat → Nat} {zu : Nat → Nat} {zh : Nat} {zst : Nat} {zre : Nat} {zw : fb_AR} {zo : Nat → Nat} {zi : Nat → Nat} {zx : Nat} {zg : Nat → Int64} {za : Nat} {zr : Nat → Nat} (hst : l.stackTraces = false) (X : fb_Bx p s m #[Value.ref b] meth c cL_law RL 9 (some .boolean) D (fb_ty D cI cJ) (fun q : Nat => s.heap.size ≤ q)) (hX : va_X b L xs s s.heap) (hbl : b < s.heap.size) (hbA : ¬ (fun q : Nat => s.heap.size ≤ q) b) (hL6 : L = 6)  (I : fb_In D (fun q : Nat => s.heap.size ≤ q) s.heap (([fb_o11 zb zt zn zv zs zp (zq 0) (zu 0) zh zst zre, fb_mw cI zq fb_s0 zw, fb_o0 zh (zo 0) (zi 0) fb_h0, fb_jw cJ zx 1 zg, fb_o12 za zr fr_e0, fb_aw cI (zr 0) 16205 (fr_m (fun _ => 0) 0)] : List va_W).flatten) H locs) (hl : lv_has ls 9 [(4, .int (0 : Int32)), (3, .ref zx), (2, .ref za), (1, .ref zb), (0, .ref b)]) : W p l e room_1 s m #[Value.ref b] below meth c H locs 209 179241 (lw_Z below #[Value.ref b] s) (F0 m 720 ls []) := by
  obtain ⟨hx, hb, hr, hml, hown, hts, hlk, hA, hK, hF⟩ := id X
  refine lv_aload_n hx hb dL_law_720 rfl (lv_at hl 3 rfl) ?_
  refine fb_gIx (cs := [fb_o11 zb zt zn zv zs zp (zq 0) (zu 0) zh zst zre, fb_mw cI zq fb_s0 zw, fb_o0 zh (zo 0) (zi 0) fb_h0]) (rs := [fb_jw cJ zx 1 zg, fb_o12 za zr fr_e0, fb_aw cI (zr 0) 16205 (fr_m (fun _ => 0) 0)]) X I [0, 1, 2, 3, 4, 5] 6 rfl (by decide +kernel) rfl rfl (fun I => fb_rV (As := []) (rest := []) X hl (fb_goodV fw_1155 fw_1156 fw_1157 fw_191 fw_1158) (c_X11_signal l D cI cJ zb zt zn zv zs zp (zu 0) zh zst zre zq fb_s0 zw (zo 0) (zi 0) fb_h0 _ ) rfl rfl rfl (by decide +kernel : fb_hd yX11_signal 0) ⟨(Nat.le_of_ble_eq_true rfl), (Nat.le_of_ble_eq_true rfl)⟩ (rfl : vwCl[11]? = some _) rfl rfl rfl rfl (Nat.le_of_ble_eq_true rfl) ⟨(Nat.le_of_ble_eq_true rfl), (Nat.le_of_ble_eq_true rfl)⟩ dL_law_721 I) ?_
  intro r u H locs e0 I
  have e0 : r = (4 : Int32) := e0.trans a_signal
  subst e0
  refine lv_aload_n hx hb dL_law_724 rfl (lv_at hl 2 rfl) ?_
  refine fb_gI (cs := [fb_o12 za zr fr_e0, fb_aw cI (zr 0) 16205 (fr_m (fun _ => 0) 0)]) (rs := [fb_jw cJ zx 1 zg]) (fun (t : Unit) => [fb_jw cJ zx 1 zg, fb_o12 za zr (upd (upd fr_e0 19 (0 : Int32)) 2 (0 : Int32)), fb_aw cI (zr 0) 16205 (upd (fr_m (fun _ => 0) 0) 11 (4 : Int32))]) (fun (t : Unit) => [fb_o12 za zr (upd (upd fr_e0 19 (0 : Int32)) 2 (0 : Int32)), fb_aw cI (zr 0) 16205 (upd (fr_m (fun _ => 0) 0) 11 (4 : Int32))]) X I [1, 2, 0] 3 rfl (by decide +kernel) rfl rfl [1, 2, 0] 3 (fun _ => rfl) (by decide +kernel) (fun _ => rfl) (fun _ => rfl) (fun I => fb_rV (As := []) (rest := [.int (4 : Int32)]) X hl (fb_goodV fw_2382 fw_2383 fw_2384 fw_204 fw_2385) (c_signal l D cI cJ za zr _ ) rfl rfl rfl (by decide +kernel : fb_hd yX12_signal 0) ⟨Nat.le_of_ble_eq_true rfl, Nat.le_of_ble_eq_true rfl⟩ rfl rfl rfl rfl rfl (Nat.le_of_ble_eq_true rfl) ⟨Nat.le_of_ble_eq_true rfl, Nat.le_of_ble_eq_true rfl⟩ dL_law_725 I) ?_
  intro r2 w1 H locs e0 I
  subst e0
  have I : fb_In D (fun q : Nat => s.heap.size ≤ q) s.heap (([fb_jw cJ zx 1 zg, fb_o12 za zr (upd (upd fr_e0 19 (0 : Int32)) 2 (0 : Int32)), fb_aw cI (zr 0) 16205 (upd (fr_m (fun _ => 0) 0) 11 (4 : Int32))] : List va_W).flatten) H locs := I
  refine lv_icmp_eq (tgt := 2336) hx hb dL_law_728 (by decide) (fun _ => ?_) (fun c3 => absurd rfl c3)
  exact lw_end X hX hbl hbA (by omega) I (lv_sub hl [0, 4] rfl) (Nat.le_of_ble_eq_true rfl) (Nat.le_of_ble_eq_true rfl)

set_option maxHeartbeats 4000000 in
set_option maxRecDepth 100000 in
theorem lc_11_p {p : Program} {l : Launch} {e : Env} {s : State} {m : MethodId} {below : List Frame} {meth : Method} {c : Code} {H : Heap} {locs : List Loc} {ls : Array Slot} {D : va_G} {cI cJ : ClassId} {b L : Nat} {xs : Nat → Int32} {zb : Nat} {zt : Nat} {zn : Nat} {zv : Nat} {zs : Nat} {zp : Nat} {zq : Nat → Nat} {zu : Nat → Nat} {zh : Nat} {zst : Nat} {zre : Nat} {zw : fb_AR} {zo : Nat → Nat} {zi : Nat → Nat} {zx : Nat} {zg : Nat → Int64} {za : Nat} {zr : Nat → Nat} (hst : l.stackTraces = false) (X : fb_Bx p s m #[Value.ref b] meth c cL_law RL 9 (some .boolean) D (fb_ty D cI cJ) (fun q : Nat => s.heap.size ≤ q)) (hX : va_X b L xs s s.heap) (hbl : b < s.heap.size) (hbA : ¬ (fun q : Nat => s.heap.size ≤ q) b) (hL6 : L = 6)  (I : fb_In D (fun q : Nat => s.heap.size ≤ q) s.heap (([fb_o11 zb zt zn zv zs zp (zq 0) (zu 0) zh zst zre, fb_mw cI zq fb_s0 zw, fb_o0 zh (zo 0) (zi 0) fb_h0, fb_jw cJ zx 1 zg, fb_o12 za zr fr_e0, fb_aw cI (zr 0) 16205 (fr_m (fun _ => 0) 0)] : List va_W).flatten) H locs) (hl : lv_has ls 9 [(4, .int (0 : Int32)), (3, .ref zx), (2, .ref za), (1, .ref zb), (0, .ref b)]) : W p l e room_1 s m #[Value.ref b] below meth c H locs 209 179241 (lw_Z below #[Value.ref b] s) (F0 m 733 ls []) := by
  obtain ⟨hx, hb, hr, hml, hown, hts, hlk, hA, hK, hF⟩ := id X
  refine lv_aload_n hx hb dL_law_733 rfl (lv_at hl 3 rfl) ?_
  refine fb_gIx (cs := [fb_o11 zb zt zn zv zs zp (zq 0) (zu 0) zh zst zre, fb_mw cI zq fb_s0 zw, fb_o0 zh (zo 0) (zi 0) fb_h0]) (rs := [fb_jw cJ zx 1 zg, fb_o12 za zr fr_e0, fb_aw cI (zr 0) 16205 (fr_m (fun _ => 0) 0)]) X I [0, 1, 2, 3, 4, 5] 6 rfl (by decide +kernel) rfl rfl (fun I => fb_rV (As := []) (rest := []) X hl (fb_goodV fw_1159 fw_1160 fw_1161 fw_191 fw_1162) (c_X11_nmi l D cI cJ zb zt zn zv zs zp (zu 0) zh zst zre zq fb_s0 zw (zo 0) (zi 0) fb_h0 _ ) rfl rfl rfl (by decide +kernel : fb_hd yX11_nmi 0) ⟨(Nat.le_of_ble_eq_true rfl), (Nat.le_of_ble_eq_true rfl)⟩ (rfl : vwCl[11]? = some _) rfl rfl rfl rfl (Nat.le_of_ble_eq_true rfl) ⟨(Nat.le_of_ble_eq_true rfl), (Nat.le_of_ble_eq_true rfl)⟩ dL_law_734 I) ?_
  intro r u H locs e0 I
  have e0 : r = (0 : Int32) := e0
  subst e0
  refine lv_aload_n hx hb dL_law_737 rfl (lv_at hl 2 rfl) ?_
  refine fb_gI (cs := [fb_o12 za zr fr_e0, fb_aw cI (zr 0) 16205 (fr_m (fun _ => 0) 0)]) (rs := [fb_jw cJ zx 1 zg]) (fun (t : Unit) => [fb_jw cJ zx 1 zg, fb_o12 za zr (upd (upd fr_e0 19 (0 : Int32)) 2 (0 : Int32)), fb_aw cI (zr 0) 16205 (upd (fr_m (fun _ => 0) 0) 6 (1 : Int32))]) (fun (t : Unit) => [fb_o12 za zr (upd (upd fr_e0 19 (0 : Int32)) 2 (0 : Int32)), fb_aw cI (zr 0) 16205 (upd (fr_m (fun _ => 0) 0) 6 (1 : Int32))]) X I [1, 2, 0] 3 rfl (by decide +kernel) rfl rfl [1, 2, 0] 3 (fun _ => rfl) (by decide +kernel) (fun _ => rfl) (fun _ => rfl) (fun I => fb_rV (As := []) (rest := [.int (0 : Int32)]) X hl (fb_goodV fw_2386 fw_2387 fw_2388 fw_204 fw_2389) (c_nmi l D cI cJ za zr _ ) rfl rfl rfl (by decide +kernel : fb_hd yX12_nmi 0) ⟨Nat.le_of_ble_eq_true rfl, Nat.le_of_ble_eq_true rfl⟩ rfl rfl rfl rfl rfl (Nat.le_of_ble_eq_true rfl) ⟨Nat.le_of_ble_eq_true rfl, Nat.le_of_ble_eq_true rfl⟩ dL_law_738 I) ?_
  intro r2 w1 H locs e0 I
  subst e0
  have I : fb_In D (fun q : Nat => s.heap.size ≤ q) s.heap (([fb_jw cJ zx 1 zg, fb_o12 za zr (upd (upd fr_e0 19 (0 : Int32)) 2 (0 : Int32)), fb_aw cI (zr 0) 16205 (upd (fr_m (fun _ => 0) 0) 6 (1 : Int32))] : List va_W).flatten) H locs := I
  refine lv_icmp_eq (tgt := 2336) hx hb dL_law_741 (by decide) (fun _ => ?_) (fun c3 => absurd rfl c3)
  exact lw_end X hX hbl hbA (by omega) I (lv_sub hl [0, 4] rfl) (Nat.le_of_ble_eq_true rfl) (Nat.le_of_ble_eq_true rfl)

set_option maxHeartbeats 4000000 in
set_option maxRecDepth 100000 in
theorem lc_14_p {p : Program} {l : Launch} {e : Env} {s : State} {m : MethodId} {below : List Frame} {meth : Method} {c : Code} {H : Heap} {locs : List Loc} {ls : Array Slot} {D : va_G} {cI cJ : ClassId} {b L : Nat} {xs : Nat → Int32} {zb : Nat} {zt : Nat} {zn : Nat} {zv : Nat} {zs : Nat} {zp : Nat} {zq : Nat → Nat} {zu : Nat → Nat} {zh : Nat} {zst : Nat} {zre : Nat} {zo : Nat → Nat} {zi : Nat → Nat} {zw : fb_AR} {zx : Nat} {zg : Nat → Int64} {za : Nat} {zr : Nat → Nat} (hst : l.stackTraces = false) (X : fb_Bx p s m #[Value.ref b] meth c cL_law RL 9 (some .boolean) D (fb_ty D cI cJ) (fun q : Nat => s.heap.size ≤ q)) (hX : va_X b L xs s s.heap) (hbl : b < s.heap.size) (hbA : ¬ (fun q : Nat => s.heap.size ≤ q) b) (hL6 : L = 6)  (I : fb_In D (fun q : Nat => s.heap.size ≤ q) s.heap (([fb_o11 zb zt zn zv zs zp (zq 0) (zu 0) zh zst zre, fb_o0 zh (zo 0) (zi 0) fb_h0, fb_mw cI zo fb_m0 (fun _ => 0), fb_mw cI zi fb_m0 (fun _ => 0), fb_mw cI zq fb_s0 zw, fb_jw cJ zx 1 zg, fb_o12 za zr fr_e0, fb_aw cI (zr 0) 16205 (fr_m (fun _ => 0) 0), fb_aw cI (zr 3) 64 (fun _ => 0), fb_qh D (zr 1) 200 (fun _ => none), ([] : va_W)] : List va_W).flatten) H locs) (hl : lv_has ls 9 [(4, .int (0 : Int32)), (3, .ref zx), (2, .ref za), (1, .ref zb), (0, .ref b)]) : W p l e room_1 s m #[Value.ref b] below meth c H locs 209 179241 (lw_Z below #[Value.ref b] s) (F0 m 882 ls []) := by
  obtain ⟨hx, hb, hr, hml, hown, hts, hlk, hA, hK, hF⟩ := id X
  refine lv_aload_n hx hb dL_law_882 rfl (lv_at hl 3 rfl) ?_
  refine fb_gIx (cs := [fb_o11 zb zt zn zv zs zp (zq 0) (zu 0) zh zst zre, fb_o0 zh (zo 0) (zi 0) fb_h0, fb_mw cI zo fb_m0 (fun _ => 0), fb_mw cI zi fb_m0 (fun _ => 0), fb_mw cI zq fb_s0 zw]) (rs := [fb_jw cJ zx 1 zg, fb_o12 za zr fr_e0, fb_aw cI (zr 0) 16205 (fr_m (fun _ => 0) 0), fb_aw cI (zr 3) 64 (fun _ => 0), fb_qh D (zr 1) 200 (fun _ => none), ([] : va_W)]) X I [0, 1, 2, 3, 4, 5, 6, 7, 8, 9, 10] 11 rfl (by decide +kernel) rfl rfl (fun I => fb_rV (As := []) (rest := []) X hl (fb_goodV fw_1163 fw_1164 fw_1165 fw_191 fw_1166) (c_X11_step l D cI cJ zb zt zn zv zs zp (zu 0) zh zst zre fb_h0 zo fb_m0 (fun _ => 0) zi fb_m0 (fun _ => 0) zq fb_s0 zw _ ) rfl rfl rfl (by decide +kernel : fb_hd yX11_step 0) ⟨(Nat.le_of_ble_eq_true rfl), (Nat.le_of_ble_eq_true rfl)⟩ (rfl : vwCl[11]? = some _) rfl rfl rfl rfl (Nat.le_of_ble_eq_true rfl) ⟨(Nat.le_of_ble_eq_true rfl), (Nat.le_of_ble_eq_true rfl)⟩ dL_law_883 I) ?_
  intro r u H locs e0 I
  have e0 : r = (1 : Int32) := e0.trans (a_step _ _ _ _ _)
  subst e0
  refine lv_aload_n hx hb dL_law_886 rfl (lv_at hl 2 rfl) ?_
  refine fb_gI (cs := [fb_o12 za zr fr_e0, fb_aw cI (zr 0) 16205 (fr_m (fun _ => 0) 0), fb_aw cI (zr 3) 64 (fun _ => 0), fb_qh D (zr 1) 200 (fun _ => none), ([] : va_W)]) (rs := [fb_jw cJ zx 1 zg]) (fun (t : fb_AR × fb_AR × fb_AR × (Nat → Option Nat) × va_W) => [fb_jw cJ zx 1 zg, fb_o12 za zr (t.1), fb_aw cI (zr 0) 16205 (fr_m (t.2.1) (0 + 1)), fb_aw cI (zr 3) 64 (t.2.2.1), fb_qh D (zr 1) 200 (t.2.2.2.1), (t.2.2.2.2)]) (fun (t : fb_AR × fb_AR × fb_AR × (Nat → Option Nat) × va_W) => [fb_o12 za zr (t.1), fb_aw cI (zr 0) 16205 (fr_m (t.2.1) (0 + 1)), fb_aw cI (zr 3) 64 (t.2.2.1), fb_qh D (zr 1) 200 (t.2.2.2.1), (t.2.2.2.2)]) X I [1, 2, 3, 4, 5, 0] 6 rfl (by decide +kernel) rfl rfl [1, 2, 3, 4, 5, 0] 6 (fun _ => rfl) (by decide +kernel) (fun _ => rfl) (fun _ => rfl) (fun I => fb_rV (As := []) (rest := [.int (1 : Int32)]) X hl (fb_goodV fw_2398 fw_2399 fw_2400 fw_204 fw_2401) (c_step l D cI cJ za zr (fun _ => 0) (fun _ => none) ([] : va_W) _ (fr_hok0 cI)) rfl rfl rfl (by decide +kernel : fb_hd yX12_step 0) ⟨Nat.le_of_ble_eq_true rfl, Nat.le_of_ble_eq_true rfl⟩ rfl rfl rfl rfl rfl (Nat.le_of_ble_eq_true rfl) ⟨Nat.le_of_ble_eq_true rfl, Nat.le_of_ble_eq_true rfl⟩ dL_law_887 I) ?_
  intro r2 w1 H locs e0 I
  subst e0
  obtain ⟨w1_0, w1_1, w1_2, w1_3, w1_4⟩ := w1
  have I : fb_In D (fun q : Nat => s.heap.size ≤ q) s.heap (([fb_jw cJ zx 1 zg, fb_o12 za zr w1_0, fb_aw cI (zr 0) 16205 (fr_m w1_1 (0 + 1)), fb_aw cI (zr 3) 64 w1_2, fb_qh D (zr 1) 200 w1_3, w1_4] : List va_W).flatten) H locs := I
  refine lv_icmp_eq (tgt := 2336) hx hb dL_law_890 (by decide) (fun _ => ?_) (fun c3 => absurd rfl c3)
  exact lw_end X hX hbl hbA (by omega) I (lv_sub hl [0, 4] rfl) (Nat.le_of_ble_eq_true rfl) (Nat.le_of_ble_eq_true rfl)

set_option maxHeartbeats 4000000 in
set_option maxRecDepth 100000 in
theorem lc_16_p {p : Program} {l : Launch} {e : Env} {s : State} {m : MethodId} {below : List Frame} {meth : Method} {c : Code} {H : Heap} {locs : List Loc} {ls : Array Slot} {D : va_G} {cI cJ : ClassId} {b L : Nat} {xs : Nat → Int32} {zb : Nat} {zt : Nat} {zn : Nat} {zv : Nat} {zs : Nat} {zp : Nat} {zq : Nat → Nat} {zu : Nat → Nat} {zh : Nat} {zst : Nat} {zre : Nat} {zo : Nat → Nat} {zi : Nat → Nat} {zw : fb_AR} {zb0 : Nat} {zb1 : Nat} {zb3 : Nat} {zb4 : Nat} {zb5 : Nat} {zx : Nat} {zg : Nat → Int64} {za : Nat} {zr : Nat → Nat} (hst : l.stackTraces = false) (X : fb_Bx p s m #[Value.ref b] meth c cL_law RL 9 (some .boolean) D (fb_ty D cI cJ) (fun q : Nat => s.heap.size ≤ q)) (hX : va_X b L xs s s.heap) (hbl : b < s.heap.size) (hbA : ¬ (fun q : Nat => s.heap.size ≤ q) b) (hL6 : L = 6)  (I : fb_In D (fun q : Nat => s.heap.size ≤ q) s.heap (([fb_o11 zb zt zn zv zs zp (zq 0) (zu 0) zh zst zre, fb_o0 zh (zo 0) (zi 0) fb_h0, fb_mw cI zo fb_m0 (fun _ => 0), fb_mw cI zi fb_m0 (fun _ => 0), fb_mw cI zq fb_s0 zw, fb_o7 zst zb0 zb1 zb3 zb4 zb5 (fun _ => 0), fb_jw cJ zx 1 zg, fb_o12 za zr fr_e0, fb_aw cI (zr 0) 16205 (fr_m (fun _ => 0) 0), fb_aw cI (zr 3) 64 (fun _ => 0), fb_qh D (zr 1) 200 (fun _ => none), ([] : va_W)] : List va_W).flatten) H locs) (hl : lv_has ls 9 [(4, .int (0 : Int32)), (3, .ref zx), (2, .ref za), (1, .ref zb), (0, .ref b)]) : W p l e room_1 s m #[Value.ref b] below meth c H locs 209 179241 (lw_Z below #[Value.ref b] s) (F0 m 951 ls []) := by
  obtain ⟨hx, hb, hr, hml, hown, hts, hlk, hA, hK, hF⟩ := id X
  refine lv_aload_n hx hb dL_law_951 rfl (lv_at hl 3 rfl) ?_
  refine fb_gIx (cs := [fb_o11 zb zt zn zv zs zp (zq 0) (zu 0) zh zst zre, fb_o0 zh (zo 0) (zi 0) fb_h0, fb_mw cI zo fb_m0 (fun _ => 0), fb_mw cI zi fb_m0 (fun _ => 0), fb_mw cI zq fb_s0 zw, fb_o7 zst zb0 zb1 zb3 zb4 zb5 (fun _ => 0)]) (rs := [fb_jw cJ zx 1 zg, fb_o12 za zr fr_e0, fb_aw cI (zr 0) 16205 (fr_m (fun _ => 0) 0), fb_aw cI (zr 3) 64 (fun _ => 0), fb_qh D (zr 1) 200 (fun _ => none), ([] : va_W)]) X I [0, 1, 2, 3, 4, 5, 6, 7, 8, 9, 10, 11] 12 rfl (by decide +kernel) rfl rfl (fun I => fb_rV (As := []) (rest := []) X hl (fb_goodV fw_1377 fw_1378 fw_1379 fw_191 fw_1380) (c_X11_stepOver l D cI cJ zb zt zn zv zs zp (zu 0) zh zst zre fb_h0 zo fb_m0 (fun _ => 0) zi fb_m0 (fun _ => 0) zq fb_s0 zw zb0 zb1 zb3 zb4 zb5 (fun _ => 0) _ rfl rfl) rfl rfl rfl (by decide +kernel : fb_hd yX11_stepOver 0) ⟨(Nat.le_of_ble_eq_true rfl), (Nat.le_of_ble_eq_true rfl)⟩ (rfl : vwCl[11]? = some _) rfl rfl rfl rfl (Nat.le_of_ble_eq_true rfl) ⟨(Nat.le_of_ble_eq_true rfl), (Nat.le_of_ble_eq_true rfl)⟩ dL_law_952 I) ?_
  intro r u H locs e0 I
  have e0 : r = (1 : Int32) := e0.trans (a_stepOver _ _ _ _ _ _)
  subst e0
  refine lv_aload_n hx hb dL_law_955 rfl (lv_at hl 2 rfl) ?_
  refine fb_gI (cs := [fb_o12 za zr fr_e0, fb_aw cI (zr 0) 16205 (fr_m (fun _ => 0) 0), fb_aw cI (zr 3) 64 (fun _ => 0), fb_qh D (zr 1) 200 (fun _ => none), ([] : va_W)]) (rs := [fb_jw cJ zx 1 zg]) (fun (t : fb_AR × fb_AR × fb_AR × (Nat → Option Nat) × va_W) => [fb_jw cJ zx 1 zg, fb_o12 za zr (upd (t.1) 10 (6 : Int32)), fb_aw cI (zr 0) 16205 (fr_m (t.2.1) (0 + 1)), fb_aw cI (zr 3) 64 (t.2.2.1), fb_qh D (zr 1) 200 (t.2.2.2.1), (t.2.2.2.2)]) (fun (t : fb_AR × fb_AR × fb_AR × (Nat → Option Nat) × va_W) => [fb_o12 za zr (upd (t.1) 10 (6 : Int32)), fb_aw cI (zr 0) 16205 (fr_m (t.2.1) (0 + 1)), fb_aw cI (zr 3) 64 (t.2.2.1), fb_qh D (zr 1) 200 (t.2.2.2.1), (t.2.2.2.2)]) X I [1, 2, 3, 4, 5, 0] 6 rfl (by decide +kernel) rfl rfl [1, 2, 3, 4, 5, 0] 6 (fun _ => rfl) (by decide +kernel) (fun _ => rfl) (fun _ => rfl) (fun I => fb_rV (As := []) (rest := [.int (1 : Int32)]) X hl (fb_goodV fw_2586 fw_2587 fw_2588 fw_204 fw_2589) (c_stepOver l D cI cJ za zr (fun _ => 0) (fun _ => none) ([] : va_W) _ (fr_hok0 cI)) rfl rfl rfl (by decide +kernel : fb_hd yX12_stepOver 0) ⟨Nat.le_of_ble_eq_true rfl, Nat.le_of_ble_eq_true rfl⟩ rfl rfl rfl rfl rfl (Nat.le_of_ble_eq_true rfl) ⟨Nat.le_of_ble_eq_true rfl, Nat.le_of_ble_eq_true rfl⟩ dL_law_956 I) ?_
  intro r2 w1 H locs e0 I
  subst e0
  obtain ⟨w1_0, w1_1, w1_2, w1_3, w1_4⟩ := w1
  have I : fb_In D (fun q : Nat => s.heap.size ≤ q) s.heap (([fb_jw cJ zx 1 zg, fb_o12 za zr (upd w1_0 10 (6 : Int32)), fb_aw cI (zr 0) 16205 (fr_m w1_1 (0 + 1)), fb_aw cI (zr 3) 64 w1_2, fb_qh D (zr 1) 200 w1_3, w1_4] : List va_W).flatten) H locs := I
  refine lv_icmp_eq (tgt := 2336) hx hb dL_law_959 (by decide) (fun _ => ?_) (fun c3 => absurd rfl c3)
  exact lw_end X hX hbl hbA (by omega) I (lv_sub hl [0, 4] rfl) (Nat.le_of_ble_eq_true rfl) (Nat.le_of_ble_eq_true rfl)

set_option maxHeartbeats 4000000 in
set_option maxRecDepth 100000 in
theorem lc_17_p {p : Program} {l : Launch} {e : Env} {s : State} {m : MethodId} {below : List Frame} {meth : Method} {c : Code} {H : Heap} {locs : List Loc} {ls : Array Slot} {D : va_G} {cI cJ : ClassId} {b L : Nat} {xs : Nat → Int32} {zb : Nat} {zt : Nat} {zn : Nat} {zv : Nat} {zs : Nat} {zp : Nat} {zq : Nat → Nat} {zu : Nat → Nat} {zh : Nat} {zst : Nat} {zre : Nat} {zo : Nat → Nat} {zi : Nat → Nat} {zw : fb_AR} {zb0 : Nat} {zb1 : Nat} {zb3 : Nat} {zb4 : Nat} {zb5 : Nat} {zx : Nat} {zg : Nat → Int64} {za : Nat} {zr : Nat → Nat} (hst : l.stackTraces = false) (X : fb_Bx p s m #[Value.ref b] meth c cL_law RL 9 (some .boolean) D (fb_ty D cI cJ) (fun q : Nat => s.heap.size ≤ q)) (hX : va_X b L xs s s.heap) (hbl : b < s.heap.size) (hbA : ¬ (fun q : Nat => s.heap.size ≤ q) b) (hL6 : L = 6)  (I : fb_In D (fun q : Nat => s.heap.size ≤ q) s.heap (([fb_o11 zb zt zn zv zs zp (zq 0) (zu 0) zh zst zre, fb_o0 zh (zo 0) (zi 0) fb_h0, fb_mw cI zo fb_m0 (fun _ => 0), fb_mw cI zi fb_m0 (fun _ => 0), fb_mw cI zq fb_s0 zw, fb_o7 zst zb0 zb1 zb3 zb4 zb5 (fun _ => 0), fb_jw cJ zx 1 zg, fb_o12 za zr fr_e0, fb_aw cI (zr 0) 16205 (fr_m (fun _ => 0) 0), fb_aw cI (zr 3) 64 (fun _ => 0), fb_qh D (zr 1) 200 (fun _ => none), ([] : va_W)] : List va_W).flatten) H locs) (hl : lv_has ls 9 [(4, .int (0 : Int32)), (3, .ref zx), (2, .ref za), (1, .ref zb), (0, .ref b)]) : W p l e room_1 s m #[Value.ref b] below meth c H locs 209 179241 (lw_Z below #[Value.ref b] s) (F0 m 964 ls []) := by
  obtain ⟨hx, hb, hr, hml, hown, hts, hlk, hA, hK, hF⟩ := id X
  refine lv_aload_n hx hb dL_law_964 rfl (lv_at hl 3 rfl) ?_
  refine fb_gIx (cs := [fb_o11 zb zt zn zv zs zp (zq 0) (zu 0) zh zst zre, fb_o0 zh (zo 0) (zi 0) fb_h0, fb_mw cI zo fb_m0 (fun _ => 0), fb_mw cI zi fb_m0 (fun _ => 0), fb_mw cI zq fb_s0 zw, fb_o7 zst zb0 zb1 zb3 zb4 zb5 (fun _ => 0)]) (rs := [fb_jw cJ zx 1 zg, fb_o12 za zr fr_e0, fb_aw cI (zr 0) 16205 (fr_m (fun _ => 0) 0), fb_aw cI (zr 3) 64 (fun _ => 0), fb_qh D (zr 1) 200 (fun _ => none), ([] : va_W)]) X I [0, 1, 2, 3, 4, 5, 6, 7, 8, 9, 10, 11] 12 rfl (by decide +kernel) rfl rfl (fun I => fb_rV (As := []) (rest := []) X hl (fb_goodV fw_1417 fw_1418 fw_1419 fw_191 fw_1420) (c_X11_stepOut l D cI cJ zb zt zn zv zs zp (zu 0) zh zst zre fb_h0 zo fb_m0 (fun _ => 0) zi fb_m0 (fun _ => 0) zq fb_s0 zw zb0 zb1 zb3 zb4 zb5 (fun _ => 0) _ rfl rfl) rfl rfl rfl (by decide +kernel : fb_hd yX11_stepOut 0) ⟨(Nat.le_of_ble_eq_true rfl), (Nat.le_of_ble_eq_true rfl)⟩ (rfl : vwCl[11]? = some _) rfl rfl rfl rfl (Nat.le_of_ble_eq_true rfl) ⟨(Nat.le_of_ble_eq_true rfl), (Nat.le_of_ble_eq_true rfl)⟩ dL_law_965 I) ?_
  intro r u H locs e0 I
  have e0 : r = (nI (4999 + 1)) := e0.trans (a_stepOut _ _ _ _ _ _)
  subst e0
  refine lv_aload_n hx hb dL_law_968 rfl (lv_at hl 2 rfl) ?_
  refine fb_gI (cs := [fb_o12 za zr fr_e0, fb_aw cI (zr 0) 16205 (fr_m (fun _ => 0) 0), fb_aw cI (zr 3) 64 (fun _ => 0), fb_qh D (zr 1) 200 (fun _ => none), ([] : va_W)]) (rs := [fb_jw cJ zx 1 zg]) (fun (t : fb_AR × fb_AR × fb_AR × (Nat → Option Nat) × va_W) => [fb_jw cJ zx 1 zg, fb_o12 za zr (upd (t.1) 10 (1 : Int32)), fb_aw cI (zr 0) 16205 (fr_m (t.2.1) ((0 + 4999) + 1)), fb_aw cI (zr 3) 64 (t.2.2.1), fb_qh D (zr 1) 200 (t.2.2.2.1), (t.2.2.2.2)]) (fun (t : fb_AR × fb_AR × fb_AR × (Nat → Option Nat) × va_W) => [fb_o12 za zr (upd (t.1) 10 (1 : Int32)), fb_aw cI (zr 0) 16205 (fr_m (t.2.1) ((0 + 4999) + 1)), fb_aw cI (zr 3) 64 (t.2.2.1), fb_qh D (zr 1) 200 (t.2.2.2.1), (t.2.2.2.2)]) X I [1, 2, 3, 4, 5, 0] 6 rfl (by decide +kernel) rfl rfl [1, 2, 3, 4, 5, 0] 6 (fun _ => rfl) (by decide +kernel) (fun _ => rfl) (fun _ => rfl) (fun I => fb_rV (As := []) (rest := [.int (nI (4999 + 1))]) X hl (fb_goodV fw_2590 fw_2591 fw_2592 fw_204 fw_2593) (c_stepOut l D cI cJ za zr (fun _ => 0) (fun _ => none) ([] : va_W) _ (fr_hok0 cI)) rfl rfl rfl (by decide +kernel : fb_hd yX12_stepOut 0) ⟨Nat.le_of_ble_eq_true rfl, Nat.le_of_ble_eq_true rfl⟩ rfl rfl rfl rfl rfl (Nat.le_of_ble_eq_true rfl) ⟨Nat.le_of_ble_eq_true rfl, Nat.le_of_ble_eq_true rfl⟩ dL_law_969 I) ?_
  intro r2 w1 H locs e0 I
  subst e0
  obtain ⟨w1_0, w1_1, w1_2, w1_3, w1_4⟩ := w1
  have I : fb_In D (fun q : Nat => s.heap.size ≤ q) s.heap (([fb_jw cJ zx 1 zg, fb_o12 za zr (upd w1_0 10 (1 : Int32)), fb_aw cI (zr 0) 16205 (fr_m w1_1 ((0 + 4999) + 1)), fb_aw cI (zr 3) 64 w1_2, fb_qh D (zr 1) 200 w1_3, w1_4] : List va_W).flatten) H locs := I
  refine lv_icmp_eq (tgt := 2336) hx hb dL_law_972 (by decide) (fun _ => ?_) (fun c3 => absurd rfl c3)
  exact lw_end X hX hbl hbA (by omega) I (lv_sub hl [0, 4] rfl) (Nat.le_of_ble_eq_true rfl) (Nat.le_of_ble_eq_true rfl)

set_option maxHeartbeats 4000000 in
set_option maxRecDepth 100000 in
theorem lc_19_p {p : Program} {l : Launch} {e : Env} {s : State} {m : MethodId} {below : List Frame} {meth : Method} {c : Code} {H : Heap} {locs : List Loc} {ls : Array Slot} {D : va_G} {cI cJ : ClassId} {b L : Nat} {xs : Nat → Int32} {zb : Nat} {zt : Nat} {zn : Nat} {zv : Nat} {zs : Nat} {zp : Nat} {zq : Nat → Nat} {zu : Nat → Nat} {zh : Nat} {zst : Nat} {zre : Nat} {zb0 : Nat} {zb1 : Nat} {zb3 : Nat} {zb4 : Nat} {zb5 : Nat} {zx : Nat} {zg : Nat → Int64} {za : Nat} {zr : Nat → Nat} (hst : l.stackTraces = false) (X : fb_Bx p s m #[Value.ref b] meth c cL_law RL 9 (some .boolean) D (fb_ty D cI cJ) (fun q : Nat => s.heap.size ≤ q)) (hX : va_X b L xs s s.heap) (hbl : b < s.heap.size) (hbA : ¬ (fun q : Nat => s.heap.size ≤ q) b) (hL6 : L = 6)  (I : fb_In D (fun q : Nat => s.heap.size ≤ q) s.heap (([fb_o11 zb zt zn zv zs zp (zq 0) (zu 0) zh zst zre, fb_o7 zst zb0 zb1 zb3 zb4 zb5 (fun _ => 0), fb_jw cJ zx 1 zg, fb_o12 za zr fr_e0] : List va_W).flatten) H locs) (hl : lv_has ls 9 [(4, .int (0 : Int32)), (3, .ref zx), (2, .ref za), (1, .ref zb), (0, .ref b)]) : W p l e room_1 s m #[Value.ref b] below meth c H locs 209 179241 (lw_Z below #[Value.ref b] s) (F0 m 1033 ls []) := by
  obtain ⟨hx, hb, hr, hml, hown, hts, hlk, hA, hK, hF⟩ := id X
  refine lv_aload_n hx hb dL_law_1033 rfl (lv_at hl 3 rfl) ?_
  refine fb_gO (cs := [fb_o11 zb zt zn zv zs zp (zq 0) (zu 0) zh zst zre, fb_o7 zst zb0 zb1 zb3 zb4 zb5 (fun _ => 0)]) (rs := [fb_jw cJ zx 1 zg, fb_o12 za zr fr_e0]) X I [0, 1, 2, 3] 4 rfl (by decide +kernel) rfl rfl (fun I => fb_rV (As := []) (rest := []) X hl (fb_goodV fw_1421 fw_1422 fw_1423 fw_191 fw_1424) (c_X11_stopped l D cI cJ zb zt zn zv zs zp (zq 0) (zu 0) zh zst zre zb0 zb1 zb3 zb4 zb5 (fun _ => 0) _ ) rfl rfl rfl (by decide +kernel : fb_hd yX11_stopped 0) ⟨(Nat.le_of_ble_eq_true rfl), (Nat.le_of_ble_eq_true rfl)⟩ (rfl : vwCl[11]? = some _) rfl rfl rfl rfl (Nat.le_of_ble_eq_true rfl) ⟨(Nat.le_of_ble_eq_true rfl), (Nat.le_of_ble_eq_true rfl)⟩ dL_law_1034 I) ?_
  refine fb_tI (v := (0 : Int32)) rfl ?_
  refine lv_aload_n hx hb dL_law_1037 rfl (lv_at hl 2 rfl) ?_
  refine fb_gI (cs := [fb_o12 za zr fr_e0]) (rs := [fb_o11 zb zt zn zv zs zp (zq 0) (zu 0) zh zst zre, fb_o7 zst zb0 zb1 zb3 zb4 zb5 (fun _ => 0), fb_jw cJ zx 1 zg]) (fun (t : Unit) => [fb_o11 zb zt zn zv zs zp (zq 0) (zu 0) zh zst zre, fb_o7 zst zb0 zb1 zb3 zb4 zb5 (fun _ => 0), fb_jw cJ zx 1 zg, fb_o12 za zr (upd fr_e0 19 (0 : Int32))]) (fun (t : Unit) => [fb_o12 za zr (upd fr_e0 19 (0 : Int32))]) X I [3, 0, 1, 2] 4 rfl (by decide +kernel) rfl rfl [3, 0, 1, 2] 4 (fun _ => rfl) (by decide +kernel) (fun _ => rfl) (fun _ => rfl) (fun I => fb_rV (As := []) (rest := [.int (0 : Int32)]) X hl (fb_goodV fw_2599 fw_2600 fw_2601 fw_204 fw_2602) (c_stopped l D cI cJ za zr _ ) rfl rfl rfl (by decide +kernel : fb_hd yX12_stopped 0) ⟨Nat.le_of_ble_eq_true rfl, Nat.le_of_ble_eq_true rfl⟩ rfl rfl rfl rfl rfl (Nat.le_of_ble_eq_true rfl) ⟨Nat.le_of_ble_eq_true rfl, Nat.le_of_ble_eq_true rfl⟩ dL_law_1038 I) ?_
  intro r2 w1 H locs e0 I
  subst e0
  have I : fb_In D (fun q : Nat => s.heap.size ≤ q) s.heap (([fb_o11 zb zt zn zv zs zp (zq 0) (zu 0) zh zst zre, fb_o7 zst zb0 zb1 zb3 zb4 zb5 (fun _ => 0), fb_jw cJ zx 1 zg, fb_o12 za zr (upd fr_e0 19 (0 : Int32))] : List va_W).flatten) H locs := I
  refine lv_icmp_eq (tgt := 2336) hx hb dL_law_1041 (by decide) (fun _ => ?_) (fun c3 => absurd rfl c3)
  exact lw_end X hX hbl hbA (by omega) I (lv_sub hl [0, 4] rfl) (Nat.le_of_ble_eq_true rfl) (Nat.le_of_ble_eq_true rfl)

set_option maxHeartbeats 4000000 in
set_option maxRecDepth 100000 in
theorem lc_20_p {p : Program} {l : Launch} {e : Env} {s : State} {m : MethodId} {below : List Frame} {meth : Method} {c : Code} {H : Heap} {locs : List Loc} {ls : Array Slot} {D : va_G} {cI cJ : ClassId} {b L : Nat} {xs : Nat → Int32} {zb : Nat} {zt : Nat} {zn : Nat} {zv : Nat} {zs : Nat} {zp : Nat} {zq : Nat → Nat} {zu : Nat → Nat} {zh : Nat} {zst : Nat} {zre : Nat} {zo : Nat → Nat} {zi : Nat → Nat} {zx : Nat} {zg : Nat → Int64} {za : Nat} {zr : Nat → Nat} (hst : l.stackTraces = false) (X : fb_Bx p s m #[Value.ref b] meth c cL_law RL 9 (some .boolean) D (fb_ty D cI cJ) (fun q : Nat => s.heap.size ≤ q)) (hX : va_X b L xs s s.heap) (hbl : b < s.heap.size) (hbA : ¬ (fun q : Nat => s.heap.size ≤ q) b) (hL6 : L = 6)  (I : fb_In D (fun q : Nat => s.heap.size ≤ q) s.heap (([fb_o11 zb zt zn zv zs zp (zq 0) (zu 0) zh zst zre, fb_o0 zh (zo 0) (zi 0) fb_h0, fb_jw cJ zx 1 zg, fb_o12 za zr fr_e0] : List va_W).flatten) H locs) (hl : lv_has ls 9 [(4, .int (0 : Int32)), (3, .ref zx), (2, .ref za), (1, .ref zb), (0, .ref b)]) : W p l e room_1 s m #[Value.ref b] below meth c H locs 209 179241 (lw_Z below #[Value.ref b] s) (F0 m 1046 ls []) := by
  obtain ⟨hx, hb, hr, hml, hown, hts, hlk, hA, hK, hF⟩ := id X
  refine lv_aload_n hx hb dL_law_1046 rfl (lv_at hl 3 rfl) ?_
  refine fb_gO (cs := [fb_o11 zb zt zn zv zs zp (zq 0) (zu 0) zh zst zre, fb_o0 zh (zo 0) (zi 0) fb_h0]) (rs := [fb_jw cJ zx 1 zg, fb_o12 za zr fr_e0]) X I [0, 1, 2, 3] 4 rfl (by decide +kernel) rfl rfl (fun I => fb_rV (As := []) (rest := []) X hl (fb_goodV fw_1425 fw_1426 fw_1427 fw_191 fw_1428) (c_X11_history l D cI cJ zb zt zn zv zs zp (zq 0) (zu 0) zh zst zre (zo 0) (zi 0) fb_h0 _ ) rfl rfl rfl (by decide +kernel : fb_hd yX11_history 0) ⟨(Nat.le_of_ble_eq_true rfl), (Nat.le_of_ble_eq_true rfl)⟩ (rfl : vwCl[11]? = some _) rfl rfl rfl rfl (Nat.le_of_ble_eq_true rfl) ⟨(Nat.le_of_ble_eq_true rfl), (Nat.le_of_ble_eq_true rfl)⟩ dL_law_1047 I) ?_
  refine fb_tI (v := (0 : Int32)) rfl ?_
  refine lv_aload_n hx hb dL_law_1050 rfl (lv_at hl 2 rfl) ?_
  refine fb_gI (cs := [fb_o12 za zr fr_e0]) (rs := [fb_o11 zb zt zn zv zs zp (zq 0) (zu 0) zh zst zre, fb_o0 zh (zo 0) (zi 0) fb_h0, fb_jw cJ zx 1 zg]) (fun (t : Unit) => [fb_o11 zb zt zn zv zs zp (zq 0) (zu 0) zh zst zre, fb_o0 zh (zo 0) (zi 0) fb_h0, fb_jw cJ zx 1 zg, fb_o12 za zr (upd fr_e0 19 (0 : Int32))]) (fun (t : Unit) => [fb_o12 za zr (upd fr_e0 19 (0 : Int32))]) X I [3, 0, 1, 2] 4 rfl (by decide +kernel) rfl rfl [3, 0, 1, 2] 4 (fun _ => rfl) (by decide +kernel) (fun _ => rfl) (fun _ => rfl) (fun I => fb_rV (As := []) (rest := [.int (0 : Int32)]) X hl (fb_goodV fw_2603 fw_2604 fw_2605 fw_204 fw_2606) (c_history l D cI cJ za zr _ ) rfl rfl rfl (by decide +kernel : fb_hd yX12_history 0) ⟨Nat.le_of_ble_eq_true rfl, Nat.le_of_ble_eq_true rfl⟩ rfl rfl rfl rfl rfl (Nat.le_of_ble_eq_true rfl) ⟨Nat.le_of_ble_eq_true rfl, Nat.le_of_ble_eq_true rfl⟩ dL_law_1051 I) ?_
  intro r2 w1 H locs e0 I
  subst e0
  have I : fb_In D (fun q : Nat => s.heap.size ≤ q) s.heap (([fb_o11 zb zt zn zv zs zp (zq 0) (zu 0) zh zst zre, fb_o0 zh (zo 0) (zi 0) fb_h0, fb_jw cJ zx 1 zg, fb_o12 za zr (upd fr_e0 19 (0 : Int32))] : List va_W).flatten) H locs := I
  refine lv_icmp_eq (tgt := 2336) hx hb dL_law_1054 (by decide) (fun _ => ?_) (fun c3 => absurd rfl c3)
  exact lw_end X hX hbl hbA (by omega) I (lv_sub hl [0, 4] rfl) (Nat.le_of_ble_eq_true rfl) (Nat.le_of_ble_eq_true rfl)

set_option maxHeartbeats 4000000 in
set_option maxRecDepth 100000 in
theorem lc_22_p {p : Program} {l : Launch} {e : Env} {s : State} {m : MethodId} {below : List Frame} {meth : Method} {c : Code} {H : Heap} {locs : List Loc} {ls : Array Slot} {D : va_G} {cI cJ : ClassId} {b L : Nat} {xs : Nat → Int32} {zb : Nat} {zt : Nat} {zn : Nat} {zv : Nat} {zs : Nat} {zp : Nat} {zq : Nat → Nat} {zu : Nat → Nat} {zh : Nat} {zst : Nat} {zre : Nat} {zb0 : Nat} {zb1 : Nat} {zb3 : Nat} {zb4 : Nat} {zb5 : Nat} {zx : Nat} {zg : Nat → Int64} {za : Nat} {zr : Nat → Nat} (hst : l.stackTraces = false) (X : fb_Bx p s m #[Value.ref b] meth c cL_law RL 9 (some .boolean) D (fb_ty D cI cJ) (fun q : Nat => s.heap.size ≤ q)) (hX : va_X b L xs s s.heap) (hbl : b < s.heap.size) (hbA : ¬ (fun q : Nat => s.heap.size ≤ q) b) (hL6 : L = 6)  (I : fb_In D (fun q : Nat => s.heap.size ≤ q) s.heap (([fb_o11 zb zt zn zv zs zp (zq 0) (zu 0) zh zst zre, fb_o7 zst zb0 zb1 zb3 zb4 zb5 (fun _ => 0), fb_jw cJ zx 1 zg, fb_o12 za zr fr_e0] : List va_W).flatten) H locs) (hl : lv_has ls 9 [(4, .int (0 : Int32)), (3, .ref zx), (2, .ref za), (1, .ref zb), (0, .ref b)]) : W p l e room_1 s m #[Value.ref b] below meth c H locs 209 179241 (lw_Z below #[Value.ref b] s) (F0 m 1127 ls []) := by
  obtain ⟨hx, hb, hr, hml, hown, hts, hlk, hA, hK, hF⟩ := id X
  refine lv_aload_n hx hb dL_law_1127 rfl (lv_at hl 3 rfl) ?_
  refine lv_aload_n hx hb dL_law_1128 rfl (lv_at hl 4 rfl) ?_
  refine lv_iload hx hb dL_law_1129 (lv_at hl 0 rfl) ?_
  refine lv_iconst (v := (1 : Int32)) hx hb dL_law_1131 (by decide) ?_
  refine lv_iadd hx hb dL_law_1132 ?_
  refine fb_tI (v := (1 : Int32)) (by decide) ?_
  refine va_sld (i := (1 : Int32)) hx hb hX hbl hbA I.2.2 (fb_inC (n := 1) (by decide) (by decide) (by omega)) dL_law_1133 ?_
  refine fb_tI (v := (xs 1)) rfl ?_
  refine fb_gO (cs := [fb_o11 zb zt zn zv zs zp (zq 0) (zu 0) zh zst zre, fb_o7 zst zb0 zb1 zb3 zb4 zb5 (fun _ => 0)]) (rs := [fb_jw cJ zx 1 zg, fb_o12 za zr fr_e0]) X I [0, 1, 2, 3] 4 rfl (by decide +kernel) rfl rfl (fun I => fb_rV (As := [.int (xs 1)]) (rest := []) X hl (fb_goodV fw_1429 fw_1430 fw_1431 fw_191 fw_1432) (c_X11_clearBreak l D cI cJ zb zt zn zv zs zp (zq 0) (zu 0) zh zst zre zb0 zb1 zb3 zb4 zb5 (fun _ => 0) (xs 1) _ rfl) rfl rfl rfl (by decide +kernel : fb_hd yX11_clearBreak 1) ⟨(Nat.le_of_ble_eq_true rfl), (Nat.le_of_ble_eq_true rfl)⟩ (rfl : vwCl[11]? = some _) rfl rfl rfl rfl (Nat.le_of_ble_eq_true rfl) ⟨(Nat.le_of_ble_eq_true rfl), (Nat.le_of_ble_eq_true rfl)⟩ dL_law_1134 I) ?_
  refine fb_tI (v := (-1 : Int32)) rfl ?_
  refine lv_aload_n hx hb dL_law_1137 rfl (lv_at hl 2 rfl) ?_
  refine lv_aload_n hx hb dL_law_1138 rfl (lv_at hl 4 rfl) ?_
  refine lv_iload hx hb dL_law_1139 (lv_at hl 0 rfl) ?_
  refine lv_iconst (v := (1 : Int32)) hx hb dL_law_1141 (by decide) ?_
  refine lv_iadd hx hb dL_law_1142 ?_
  refine fb_tI (v := (1 : Int32)) (by decide) ?_
  refine va_sld (i := (1 : Int32)) hx hb hX hbl hbA I.2.2 (fb_inC (n := 1) (by decide) (by decide) (by omega)) dL_law_1143 ?_
  refine fb_tI (v := (xs 1)) rfl ?_
  refine fb_gI (cs := [fb_o12 za zr fr_e0]) (rs := [fb_o11 zb zt zn zv zs zp (zq 0) (zu 0) zh zst zre, fb_o7 zst zb0 zb1 zb3 zb4 zb5 (fun _ => 0), fb_jw cJ zx 1 zg]) (fun (t : Unit) => [fb_o11 zb zt zn zv zs zp (zq 0) (zu 0) zh zst zre, fb_o7 zst zb0 zb1 zb3 zb4 zb5 (fun _ => 0), fb_jw cJ zx 1 zg, fb_o12 za zr (upd fr_e0 19 (0 : Int32))]) (fun (t : Unit) => [fb_o12 za zr (upd fr_e0 19 (0 : Int32))]) X I [3, 0, 1, 2] 4 rfl (by decide +kernel) rfl rfl [3, 0, 1, 2] 4 (fun _ => rfl) (by decide +kernel) (fun _ => rfl) (fun _ => rfl) (fun I => fb_rV (As := [.int (xs 1)]) (rest := [.int (-1 : Int32)]) X hl (fb_goodV fw_2611 fw_2612 fw_2613 fw_204 fw_2614) (c_clearBreak l D cI cJ za zr (xs 1) _ ) rfl rfl rfl (by decide +kernel : fb_hd yX12_clearBreak 1) ⟨Nat.le_of_ble_eq_true rfl, Nat.le_of_ble_eq_true rfl⟩ rfl rfl rfl rfl rfl (Nat.le_of_ble_eq_true rfl) ⟨Nat.le_of_ble_eq_true rfl, Nat.le_of_ble_eq_true rfl⟩ dL_law_1144 I) ?_
  intro r2 w1 H locs e0 I
  subst e0
  have I : fb_In D (fun q : Nat => s.heap.size ≤ q) s.heap (([fb_o11 zb zt zn zv zs zp (zq 0) (zu 0) zh zst zre, fb_o7 zst zb0 zb1 zb3 zb4 zb5 (fun _ => 0), fb_jw cJ zx 1 zg, fb_o12 za zr (upd fr_e0 19 (0 : Int32))] : List va_W).flatten) H locs := I
  refine lv_icmp_eq (tgt := 2336) hx hb dL_law_1147 (by decide) (fun _ => ?_) (fun c3 => absurd rfl c3)
  exact lw_end X hX hbl hbA (by omega) I (lv_sub hl [0, 4] rfl) (Nat.le_of_ble_eq_true rfl) (Nat.le_of_ble_eq_true rfl)

set_option maxHeartbeats 4000000 in
set_option maxRecDepth 100000 in
theorem lc_24_p {p : Program} {l : Launch} {e : Env} {s : State} {m : MethodId} {below : List Frame} {meth : Method} {c : Code} {H : Heap} {locs : List Loc} {ls : Array Slot} {D : va_G} {cI cJ : ClassId} {b L : Nat} {xs : Nat → Int32} {zb : Nat} {zt : Nat} {zn : Nat} {zv : Nat} {zs : Nat} {zp : Nat} {zq : Nat → Nat} {zu : Nat → Nat} {zh : Nat} {zst : Nat} {zre : Nat} {zb0 : Nat} {zb1 : Nat} {zb3 : Nat} {zb4 : Nat} {zb5 : Nat} {zx : Nat} {zg : Nat → Int64} {za : Nat} {zr : Nat → Nat} (hst : l.stackTraces = false) (X : fb_Bx p s m #[Value.ref b] meth c cL_law RL 9 (some .boolean) D (fb_ty D cI cJ) (fun q : Nat => s.heap.size ≤ q)) (hX : va_X b L xs s s.heap) (hbl : b < s.heap.size) (hbA : ¬ (fun q : Nat => s.heap.size ≤ q) b) (hL6 : L = 6)  (I : fb_In D (fun q : Nat => s.heap.size ≤ q) s.heap (([fb_o11 zb zt zn zv zs zp (zq 0) (zu 0) zh zst zre, fb_o7 zst zb0 zb1 zb3 zb4 zb5 (fun _ => 0), fb_jw cJ zx 1 zg, fb_o12 za zr fr_e0] : List va_W).flatten) H locs) (hl : lv_has ls 9 [(4, .int (0 : Int32)), (3, .ref zx), (2, .ref za), (1, .ref zb), (0, .ref b)]) : W p l e room_1 s m #[Value.ref b] below meth c H locs 209 179241 (lw_Z below #[Value.ref b] s) (F0 m 1276 ls []) := by
  obtain ⟨hx, hb, hr, hml, hown, hts, hlk, hA, hK, hF⟩ := id X
  refine lv_aload_n hx hb dL_law_1276 rfl (lv_at hl 3 rfl) ?_
  refine fb_gIx (cs := [fb_o11 zb zt zn zv zs zp (zq 0) (zu 0) zh zst zre, fb_o7 zst zb0 zb1 zb3 zb4 zb5 (fun _ => 0)]) (rs := [fb_jw cJ zx 1 zg, fb_o12 za zr fr_e0]) X I [0, 1, 2, 3] 4 rfl (by decide +kernel) rfl rfl (fun I => fb_rV (As := []) (rest := []) X hl (fb_goodV fw_1437 fw_1438 fw_1439 fw_191 fw_1440) (c_X11_clearWatches l D cI cJ zb zt zn zv zs zp (zq 0) (zu 0) zh zst zre zb0 zb1 zb3 zb4 zb5 (fun _ => 0) _ ) rfl rfl rfl (by decide +kernel : fb_hd yX11_clearWatches 0) ⟨(Nat.le_of_ble_eq_true rfl), (Nat.le_of_ble_eq_true rfl)⟩ (rfl : vwCl[11]? = some _) rfl rfl rfl rfl (Nat.le_of_ble_eq_true rfl) ⟨(Nat.le_of_ble_eq_true rfl), (Nat.le_of_ble_eq_true rfl)⟩ dL_law_1277 I) ?_
  intro r u H locs e0 I
  have e0 : r = (0 : Int32) := e0
  subst e0
  refine lv_aload_n hx hb dL_law_1280 rfl (lv_at hl 2 rfl) ?_
  refine fb_gI (cs := [fb_o12 za zr fr_e0]) (rs := [fb_jw cJ zx 1 zg]) (fun (t : Unit) => [fb_jw cJ zx 1 zg, fb_o12 za zr (upd (upd fr_e0 19 (0 : Int32)) 18 (0 : Int32))]) (fun (t : Unit) => [fb_o12 za zr (upd (upd fr_e0 19 (0 : Int32)) 18 (0 : Int32))]) X I [1, 0] 2 rfl (by decide +kernel) rfl rfl [1, 0] 2 (fun _ => rfl) (by decide +kernel) (fun _ => rfl) (fun _ => rfl) (fun I => fb_rV (As := []) (rest := [.int (0 : Int32)]) X hl (fb_goodV fw_2619 fw_2620 fw_2621 fw_204 fw_2622) (c_clearWatches l D cI cJ za zr _ ) rfl rfl rfl (by decide +kernel : fb_hd yX12_clearWatches 0) ⟨Nat.le_of_ble_eq_true rfl, Nat.le_of_ble_eq_true rfl⟩ rfl rfl rfl rfl rfl (Nat.le_of_ble_eq_true rfl) ⟨Nat.le_of_ble_eq_true rfl, Nat.le_of_ble_eq_true rfl⟩ dL_law_1281 I) ?_
  intro r2 w1 H locs e0 I
  subst e0
  have I : fb_In D (fun q : Nat => s.heap.size ≤ q) s.heap (([fb_jw cJ zx 1 zg, fb_o12 za zr (upd (upd fr_e0 19 (0 : Int32)) 18 (0 : Int32))] : List va_W).flatten) H locs := I
  refine lv_icmp_eq (tgt := 2336) hx hb dL_law_1284 (by decide) (fun _ => ?_) (fun c3 => absurd rfl c3)
  exact lw_end X hX hbl hbA (by omega) I (lv_sub hl [0, 4] rfl) (Nat.le_of_ble_eq_true rfl) (Nat.le_of_ble_eq_true rfl)

set_option maxHeartbeats 4000000 in
set_option maxRecDepth 100000 in
theorem lc_25_p {p : Program} {l : Launch} {e : Env} {s : State} {m : MethodId} {below : List Frame} {meth : Method} {c : Code} {H : Heap} {locs : List Loc} {ls : Array Slot} {D : va_G} {cI cJ : ClassId} {b L : Nat} {xs : Nat → Int32} {zb : Nat} {zt : Nat} {zn : Nat} {zv : Nat} {zs : Nat} {zp : Nat} {zq : Nat → Nat} {zu : Nat → Nat} {zh : Nat} {zst : Nat} {zre : Nat} {zw : fb_AR} {zx : Nat} {zg : Nat → Int64} {za : Nat} {zr : Nat → Nat} (hst : l.stackTraces = false) (X : fb_Bx p s m #[Value.ref b] meth c cL_law RL 9 (some .boolean) D (fb_ty D cI cJ) (fun q : Nat => s.heap.size ≤ q)) (hX : va_X b L xs s s.heap) (hbl : b < s.heap.size) (hbA : ¬ (fun q : Nat => s.heap.size ≤ q) b) (hL6 : L = 6)  (I : fb_In D (fun q : Nat => s.heap.size ≤ q) s.heap (([fb_o11 zb zt zn zv zs zp (zq 0) (zu 0) zh zst zre, fb_mw cI zq fb_s0 zw, fb_jw cJ zx 1 zg, fb_o12 za zr fr_e0, fb_aw cI (zr 0) 16205 (fr_m (fun _ => 0) 0)] : List va_W).flatten) H locs) (hl : lv_has ls 9 [(4, .int (0 : Int32)), (3, .ref zx), (2, .ref za), (1, .ref zb), (0, .ref b)]) : W p l e room_1 s m #[Value.ref b] below meth c H locs 209 179241 (lw_Z below #[Value.ref b] s) (F0 m 1289 ls []) := by
  obtain ⟨hx, hb, hr, hml, hown, hts, hlk, hA, hK, hF⟩ := id X
  refine lv_aload_n hx hb dL_law_1289 rfl (lv_at hl 3 rfl) ?_
  refine fb_gO (cs := [fb_o11 zb zt zn zv zs zp (zq 0) (zu 0) zh zst zre, fb_mw cI zq fb_s0 zw]) (rs := [fb_jw cJ zx 1 zg, fb_o12 za zr fr_e0, fb_aw cI (zr 0) 16205 (fr_m (fun _ => 0) 0)]) X I [0, 1, 2, 3, 4] 5 rfl (by decide +kernel) rfl rfl (fun I => fb_rV (As := []) (rest := []) X hl (fb_goodV fw_1441 fw_1442 fw_1443 fw_191 fw_1444) (c_X11_a l D cI cJ zb zt zn zv zs zp (zu 0) zh zst zre zq fb_s0 zw _ ) rfl rfl rfl (by decide +kernel : fb_hd yX11_a 0) ⟨(Nat.le_of_ble_eq_true rfl), (Nat.le_of_ble_eq_true rfl)⟩ (rfl : vwCl[11]? = some _) rfl rfl rfl rfl (Nat.le_of_ble_eq_true rfl) ⟨(Nat.le_of_ble_eq_true rfl), (Nat.le_of_ble_eq_true rfl)⟩ dL_law_1290 I) ?_
  refine fb_tI (v := (0 : Int32)) rfl ?_
  refine lv_aload_n hx hb dL_law_1293 rfl (lv_at hl 2 rfl) ?_
  refine fb_gI (cs := [fb_o12 za zr fr_e0, fb_aw cI (zr 0) 16205 (fr_m (fun _ => 0) 0)]) (rs := [fb_o11 zb zt zn zv zs zp (zq 0) (zu 0) zh zst zre, fb_mw cI zq fb_s0 zw, fb_jw cJ zx 1 zg]) (fun (t : Unit) => [fb_o11 zb zt zn zv zs zp (zq 0) (zu 0) zh zst zre, fb_mw cI zq fb_s0 zw, fb_jw cJ zx 1 zg, fb_o12 za zr (upd fr_e0 19 (0 : Int32)), fb_aw cI (zr 0) 16205 (fr_m (fun _ => 0) 0)]) (fun (t : Unit) => [fb_o12 za zr (upd fr_e0 19 (0 : Int32)), fb_aw cI (zr 0) 16205 (fr_m (fun _ => 0) 0)]) X I [3, 4, 0, 1, 2] 5 rfl (by decide +kernel) rfl rfl [3, 4, 0, 1, 2] 5 (fun _ => rfl) (by decide +kernel) (fun _ => rfl) (fun _ => rfl) (fun I => fb_rV (As := []) (rest := [.int (0 : Int32)]) X hl (fb_goodV fw_2623 fw_2624 fw_2625 fw_204 fw_2626) (c_a l D cI cJ za zr _ ) rfl rfl rfl (by decide +kernel : fb_hd yX12_a 0) ⟨Nat.le_of_ble_eq_true rfl, Nat.le_of_ble_eq_true rfl⟩ rfl rfl rfl rfl rfl (Nat.le_of_ble_eq_true rfl) ⟨Nat.le_of_ble_eq_true rfl, Nat.le_of_ble_eq_true rfl⟩ dL_law_1294 I) ?_
  intro r2 w1 H locs e0 I
  subst e0
  have I : fb_In D (fun q : Nat => s.heap.size ≤ q) s.heap (([fb_o11 zb zt zn zv zs zp (zq 0) (zu 0) zh zst zre, fb_mw cI zq fb_s0 zw, fb_jw cJ zx 1 zg, fb_o12 za zr (upd fr_e0 19 (0 : Int32)), fb_aw cI (zr 0) 16205 (fr_m (fun _ => 0) 0)] : List va_W).flatten) H locs := I
  refine lv_icmp_eq (tgt := 2336) hx hb dL_law_1297 (by decide) (fun _ => ?_) (fun c3 => absurd rfl c3)
  exact lw_end X hX hbl hbA (by omega) I (lv_sub hl [0, 4] rfl) (Nat.le_of_ble_eq_true rfl) (Nat.le_of_ble_eq_true rfl)

set_option maxHeartbeats 4000000 in
set_option maxRecDepth 100000 in
theorem lc_26_p {p : Program} {l : Launch} {e : Env} {s : State} {m : MethodId} {below : List Frame} {meth : Method} {c : Code} {H : Heap} {locs : List Loc} {ls : Array Slot} {D : va_G} {cI cJ : ClassId} {b L : Nat} {xs : Nat → Int32} {zb : Nat} {zt : Nat} {zn : Nat} {zv : Nat} {zs : Nat} {zp : Nat} {zq : Nat → Nat} {zu : Nat → Nat} {zh : Nat} {zst : Nat} {zre : Nat} {zw : fb_AR} {zx : Nat} {zg : Nat → Int64} {za : Nat} {zr : Nat → Nat} (hst : l.stackTraces = false) (X : fb_Bx p s m #[Value.ref b] meth c cL_law RL 9 (some .boolean) D (fb_ty D cI cJ) (fun q : Nat => s.heap.size ≤ q)) (hX : va_X b L xs s s.heap) (hbl : b < s.heap.size) (hbA : ¬ (fun q : Nat => s.heap.size ≤ q) b) (hL6 : L = 6)  (I : fb_In D (fun q : Nat => s.heap.size ≤ q) s.heap (([fb_o11 zb zt zn zv zs zp (zq 0) (zu 0) zh zst zre, fb_mw cI zq fb_s0 zw, fb_jw cJ zx 1 zg, fb_o12 za zr fr_e0, fb_aw cI (zr 0) 16205 (fr_m (fun _ => 0) 0)] : List va_W).flatten) H locs) (hl : lv_has ls 9 [(4, .int (0 : Int32)), (3, .ref zx), (2, .ref za), (1, .ref zb), (0, .ref b)]) : W p l e room_1 s m #[Value.ref b] below meth c H locs 209 179241 (lw_Z below #[Value.ref b] s) (F0 m 1302 ls []) := by
  obtain ⟨hx, hb, hr, hml, hown, hts, hlk, hA, hK, hF⟩ := id X
  refine lv_aload_n hx hb dL_law_1302 rfl (lv_at hl 3 rfl) ?_
  refine fb_gO (cs := [fb_o11 zb zt zn zv zs zp (zq 0) (zu 0) zh zst zre, fb_mw cI zq fb_s0 zw]) (rs := [fb_jw cJ zx 1 zg, fb_o12 za zr fr_e0, fb_aw cI (zr 0) 16205 (fr_m (fun _ => 0) 0)]) X I [0, 1, 2, 3, 4] 5 rfl (by decide +kernel) rfl rfl (fun I => fb_rV (As := []) (rest := []) X hl (fb_goodV fw_1445 fw_1446 fw_1447 fw_191 fw_1448) (c_X11_x l D cI cJ zb zt zn zv zs zp (zu 0) zh zst zre zq fb_s0 zw _ ) rfl rfl rfl (by decide +kernel : fb_hd yX11_x 0) ⟨(Nat.le_of_ble_eq_true rfl), (Nat.le_of_ble_eq_true rfl)⟩ (rfl : vwCl[11]? = some _) rfl rfl rfl rfl (Nat.le_of_ble_eq_true rfl) ⟨(Nat.le_of_ble_eq_true rfl), (Nat.le_of_ble_eq_true rfl)⟩ dL_law_1303 I) ?_
  refine fb_tI (v := (0 : Int32)) rfl ?_
  refine lv_aload_n hx hb dL_law_1306 rfl (lv_at hl 2 rfl) ?_
  refine fb_gI (cs := [fb_o12 za zr fr_e0, fb_aw cI (zr 0) 16205 (fr_m (fun _ => 0) 0)]) (rs := [fb_o11 zb zt zn zv zs zp (zq 0) (zu 0) zh zst zre, fb_mw cI zq fb_s0 zw, fb_jw cJ zx 1 zg]) (fun (t : Unit) => [fb_o11 zb zt zn zv zs zp (zq 0) (zu 0) zh zst zre, fb_mw cI zq fb_s0 zw, fb_jw cJ zx 1 zg, fb_o12 za zr (upd fr_e0 19 (0 : Int32)), fb_aw cI (zr 0) 16205 (fr_m (fun _ => 0) 0)]) (fun (t : Unit) => [fb_o12 za zr (upd fr_e0 19 (0 : Int32)), fb_aw cI (zr 0) 16205 (fr_m (fun _ => 0) 0)]) X I [3, 4, 0, 1, 2] 5 rfl (by decide +kernel) rfl rfl [3, 4, 0, 1, 2] 5 (fun _ => rfl) (by decide +kernel) (fun _ => rfl) (fun _ => rfl) (fun I => fb_rV (As := []) (rest := [.int (0 : Int32)]) X hl (fb_goodV fw_2631 fw_2632 fw_2633 fw_204 fw_2634) (c_x l D cI cJ za zr _ ) rfl rfl rfl (by decide +kernel : fb_hd yX12_x 0) ⟨Nat.le_of_ble_eq_true rfl, Nat.le_of_ble_eq_true rfl⟩ rfl rfl rfl rfl rfl (Nat.le_of_ble_eq_true rfl) ⟨Nat.le_of_ble_eq_true rfl, Nat.le_of_ble_eq_true rfl⟩ dL_law_1307 I) ?_
  intro r2 w1 H locs e0 I
  subst e0
  have I : fb_In D (fun q : Nat => s.heap.size ≤ q) s.heap (([fb_o11 zb zt zn zv zs zp (zq 0) (zu 0) zh zst zre, fb_mw cI zq fb_s0 zw, fb_jw cJ zx 1 zg, fb_o12 za zr (upd fr_e0 19 (0 : Int32)), fb_aw cI (zr 0) 16205 (fr_m (fun _ => 0) 0)] : List va_W).flatten) H locs := I
  refine lv_icmp_eq (tgt := 2336) hx hb dL_law_1310 (by decide) (fun _ => ?_) (fun c3 => absurd rfl c3)
  exact lw_end X hX hbl hbA (by omega) I (lv_sub hl [0, 4] rfl) (Nat.le_of_ble_eq_true rfl) (Nat.le_of_ble_eq_true rfl)

set_option maxHeartbeats 4000000 in
set_option maxRecDepth 100000 in
theorem lc_27_p {p : Program} {l : Launch} {e : Env} {s : State} {m : MethodId} {below : List Frame} {meth : Method} {c : Code} {H : Heap} {locs : List Loc} {ls : Array Slot} {D : va_G} {cI cJ : ClassId} {b L : Nat} {xs : Nat → Int32} {zb : Nat} {zt : Nat} {zn : Nat} {zv : Nat} {zs : Nat} {zp : Nat} {zq : Nat → Nat} {zu : Nat → Nat} {zh : Nat} {zst : Nat} {zre : Nat} {zw : fb_AR} {zx : Nat} {zg : Nat → Int64} {za : Nat} {zr : Nat → Nat} (hst : l.stackTraces = false) (X : fb_Bx p s m #[Value.ref b] meth c cL_law RL 9 (some .boolean) D (fb_ty D cI cJ) (fun q : Nat => s.heap.size ≤ q)) (hX : va_X b L xs s s.heap) (hbl : b < s.heap.size) (hbA : ¬ (fun q : Nat => s.heap.size ≤ q) b) (hL6 : L = 6)  (I : fb_In D (fun q : Nat => s.heap.size ≤ q) s.heap (([fb_o11 zb zt zn zv zs zp (zq 0) (zu 0) zh zst zre, fb_mw cI zq fb_s0 zw, fb_jw cJ zx 1 zg, fb_o12 za zr fr_e0, fb_aw cI (zr 0) 16205 (fr_m (fun _ => 0) 0)] : List va_W).flatten) H locs) (hl : lv_has ls 9 [(4, .int (0 : Int32)), (3, .ref zx), (2, .ref za), (1, .ref zb), (0, .ref b)]) : W p l e room_1 s m #[Value.ref b] below meth c H locs 209 179241 (lw_Z below #[Value.ref b] s) (F0 m 1315 ls []) := by
  obtain ⟨hx, hb, hr, hml, hown, hts, hlk, hA, hK, hF⟩ := id X
  refine lv_aload_n hx hb dL_law_1315 rfl (lv_at hl 3 rfl) ?_
  refine fb_gO (cs := [fb_o11 zb zt zn zv zs zp (zq 0) (zu 0) zh zst zre, fb_mw cI zq fb_s0 zw]) (rs := [fb_jw cJ zx 1 zg, fb_o12 za zr fr_e0, fb_aw cI (zr 0) 16205 (fr_m (fun _ => 0) 0)]) X I [0, 1, 2, 3, 4] 5 rfl (by decide +kernel) rfl rfl (fun I => fb_rV (As := []) (rest := []) X hl (fb_goodV fw_1449 fw_1450 fw_1451 fw_191 fw_1452) (c_X11_s l D cI cJ zb zt zn zv zs zp (zu 0) zh zst zre zq fb_s0 zw _ ) rfl rfl rfl (by decide +kernel : fb_hd yX11_s 0) ⟨(Nat.le_of_ble_eq_true rfl), (Nat.le_of_ble_eq_true rfl)⟩ (rfl : vwCl[11]? = some _) rfl rfl rfl rfl (Nat.le_of_ble_eq_true rfl) ⟨(Nat.le_of_ble_eq_true rfl), (Nat.le_of_ble_eq_true rfl)⟩ dL_law_1316 I) ?_
  refine fb_tI (v := (255 : Int32)) rfl ?_
  refine lv_aload_n hx hb dL_law_1319 rfl (lv_at hl 2 rfl) ?_
  refine fb_gI (cs := [fb_o12 za zr fr_e0, fb_aw cI (zr 0) 16205 (fr_m (fun _ => 0) 0)]) (rs := [fb_o11 zb zt zn zv zs zp (zq 0) (zu 0) zh zst zre, fb_mw cI zq fb_s0 zw, fb_jw cJ zx 1 zg]) (fun (t : Unit) => [fb_o11 zb zt zn zv zs zp (zq 0) (zu 0) zh zst zre, fb_mw cI zq fb_s0 zw, fb_jw cJ zx 1 zg, fb_o12 za zr (upd fr_e0 19 (0 : Int32)), fb_aw cI (zr 0) 16205 (fr_m (fun _ => 0) 0)]) (fun (t : Unit) => [fb_o12 za zr (upd fr_e0 19 (0 : Int32)), fb_aw cI (zr 0) 16205 (fr_m (fun _ => 0) 0)]) X I [3, 4, 0, 1, 2] 5 rfl (by decide +kernel) rfl rfl [3, 4, 0, 1, 2] 5 (fun _ => rfl) (by decide +kernel) (fun _ => rfl) (fun _ => rfl) (fun I => fb_rV (As := []) (rest := [.int (255 : Int32)]) X hl (fb_goodV fw_2635 fw_2636 fw_2637 fw_204 fw_2638) (c_s l D cI cJ za zr _ ) rfl rfl rfl (by decide +kernel : fb_hd yX12_s 0) ⟨Nat.le_of_ble_eq_true rfl, Nat.le_of_ble_eq_true rfl⟩ rfl rfl rfl rfl rfl (Nat.le_of_ble_eq_true rfl) ⟨Nat.le_of_ble_eq_true rfl, Nat.le_of_ble_eq_true rfl⟩ dL_law_1320 I) ?_
  intro r2 w1 H locs e0 I
  subst e0
  have I : fb_In D (fun q : Nat => s.heap.size ≤ q) s.heap (([fb_o11 zb zt zn zv zs zp (zq 0) (zu 0) zh zst zre, fb_mw cI zq fb_s0 zw, fb_jw cJ zx 1 zg, fb_o12 za zr (upd fr_e0 19 (0 : Int32)), fb_aw cI (zr 0) 16205 (fr_m (fun _ => 0) 0)] : List va_W).flatten) H locs := I
  refine lv_icmp_eq (tgt := 2336) hx hb dL_law_1323 (by decide) (fun _ => ?_) (fun c3 => absurd rfl c3)
  exact lw_end X hX hbl hbA (by omega) I (lv_sub hl [0, 4] rfl) (Nat.le_of_ble_eq_true rfl) (Nat.le_of_ble_eq_true rfl)

set_option maxHeartbeats 4000000 in
set_option maxRecDepth 100000 in
theorem lc_28_p {p : Program} {l : Launch} {e : Env} {s : State} {m : MethodId} {below : List Frame} {meth : Method} {c : Code} {H : Heap} {locs : List Loc} {ls : Array Slot} {D : va_G} {cI cJ : ClassId} {b L : Nat} {xs : Nat → Int32} {zb : Nat} {zt : Nat} {zn : Nat} {zv : Nat} {zs : Nat} {zp : Nat} {zq : Nat → Nat} {zu : Nat → Nat} {zh : Nat} {zst : Nat} {zre : Nat} {zw : fb_AR} {zx : Nat} {zg : Nat → Int64} {za : Nat} {zr : Nat → Nat} (hst : l.stackTraces = false) (X : fb_Bx p s m #[Value.ref b] meth c cL_law RL 9 (some .boolean) D (fb_ty D cI cJ) (fun q : Nat => s.heap.size ≤ q)) (hX : va_X b L xs s s.heap) (hbl : b < s.heap.size) (hbA : ¬ (fun q : Nat => s.heap.size ≤ q) b) (hL6 : L = 6)  (I : fb_In D (fun q : Nat => s.heap.size ≤ q) s.heap (([fb_o11 zb zt zn zv zs zp (zq 0) (zu 0) zh zst zre, fb_mw cI zq fb_s0 zw, fb_jw cJ zx 1 zg, fb_o12 za zr fr_e0, fb_aw cI (zr 0) 16205 (fr_m (fun _ => 0) 0)] : List va_W).flatten) H locs) (hl : lv_has ls 9 [(4, .int (0 : Int32)), (3, .ref zx), (2, .ref za), (1, .ref zb), (0, .ref b)]) : W p l e room_1 s m #[Value.ref b] below meth c H locs 209 179241 (lw_Z below #[Value.ref b] s) (F0 m 1328 ls []) := by
  obtain ⟨hx, hb, hr, hml, hown, hts, hlk, hA, hK, hF⟩ := id X
  refine lv_aload_n hx hb dL_law_1328 rfl (lv_at hl 3 rfl) ?_
  refine fb_gO (cs := [fb_o11 zb zt zn zv zs zp (zq 0) (zu 0) zh zst zre, fb_mw cI zq fb_s0 zw]) (rs := [fb_jw cJ zx 1 zg, fb_o12 za zr fr_e0, fb_aw cI (zr 0) 16205 (fr_m (fun _ => 0) 0)]) X I [0, 1, 2, 3, 4] 5 rfl (by decide +kernel) rfl rfl (fun I => fb_rV (As := []) (rest := []) X hl (fb_goodV fw_1453 fw_1454 fw_1455 fw_191 fw_1456) (c_X11_flags l D cI cJ zb zt zn zv zs zp (zu 0) zh zst zre zq fb_s0 zw _ ) rfl rfl rfl (by decide +kernel : fb_hd yX11_flags 0) ⟨(Nat.le_of_ble_eq_true rfl), (Nat.le_of_ble_eq_true rfl)⟩ (rfl : vwCl[11]? = some _) rfl rfl rfl rfl (Nat.le_of_ble_eq_true rfl) ⟨(Nat.le_of_ble_eq_true rfl), (Nat.le_of_ble_eq_true rfl)⟩ dL_law_1329 I) ?_
  refine fb_tI (v := (4 : Int32)) rfl ?_
  refine lv_aload_n hx hb dL_law_1332 rfl (lv_at hl 2 rfl) ?_
  refine fb_gI (cs := [fb_o12 za zr fr_e0, fb_aw cI (zr 0) 16205 (fr_m (fun _ => 0) 0)]) (rs := [fb_o11 zb zt zn zv zs zp (zq 0) (zu 0) zh zst zre, fb_mw cI zq fb_s0 zw, fb_jw cJ zx 1 zg]) (fun (t : Unit) => [fb_o11 zb zt zn zv zs zp (zq 0) (zu 0) zh zst zre, fb_mw cI zq fb_s0 zw, fb_jw cJ zx 1 zg, fb_o12 za zr (upd fr_e0 19 (0 : Int32)), fb_aw cI (zr 0) 16205 (fr_m (fun _ => 0) 0)]) (fun (t : Unit) => [fb_o12 za zr (upd fr_e0 19 (0 : Int32)), fb_aw cI (zr 0) 16205 (fr_m (fun _ => 0) 0)]) X I [3, 4, 0, 1, 2] 5 rfl (by decide +kernel) rfl rfl [3, 4, 0, 1, 2] 5 (fun _ => rfl) (by decide +kernel) (fun _ => rfl) (fun _ => rfl) (fun I => fb_rV (As := []) (rest := [.int (4 : Int32)]) X hl (fb_goodV fw_2639 fw_2640 fw_2641 fw_204 fw_2642) (c_flags l D cI cJ za zr _ ) rfl rfl rfl (by decide +kernel : fb_hd yX12_flags 0) ⟨Nat.le_of_ble_eq_true rfl, Nat.le_of_ble_eq_true rfl⟩ rfl rfl rfl rfl rfl (Nat.le_of_ble_eq_true rfl) ⟨Nat.le_of_ble_eq_true rfl, Nat.le_of_ble_eq_true rfl⟩ dL_law_1333 I) ?_
  intro r2 w1 H locs e0 I
  subst e0
  have I : fb_In D (fun q : Nat => s.heap.size ≤ q) s.heap (([fb_o11 zb zt zn zv zs zp (zq 0) (zu 0) zh zst zre, fb_mw cI zq fb_s0 zw, fb_jw cJ zx 1 zg, fb_o12 za zr (upd fr_e0 19 (0 : Int32)), fb_aw cI (zr 0) 16205 (fr_m (fun _ => 0) 0)] : List va_W).flatten) H locs := I
  refine lv_icmp_eq (tgt := 2336) hx hb dL_law_1336 (by decide) (fun _ => ?_) (fun c3 => absurd rfl c3)
  exact lw_end X hX hbl hbA (by omega) I (lv_sub hl [0, 4] rfl) (Nat.le_of_ble_eq_true rfl) (Nat.le_of_ble_eq_true rfl)

set_option maxHeartbeats 4000000 in
set_option maxRecDepth 100000 in
theorem lc_29_p {p : Program} {l : Launch} {e : Env} {s : State} {m : MethodId} {below : List Frame} {meth : Method} {c : Code} {H : Heap} {locs : List Loc} {ls : Array Slot} {D : va_G} {cI cJ : ClassId} {b L : Nat} {xs : Nat → Int32} {zb : Nat} {zt : Nat} {zn : Nat} {zv : Nat} {zs : Nat} {zp : Nat} {zq : Nat → Nat} {zu : Nat → Nat} {zh : Nat} {zst : Nat} {zre : Nat} {zw : fb_AR} {zx : Nat} {zg : Nat → Int64} {za : Nat} {zr : Nat → Nat} (hst : l.stackTraces = false) (X : fb_Bx p s m #[Value.ref b] meth c cL_law RL 9 (some .boolean) D (fb_ty D cI cJ) (fun q : Nat => s.heap.size ≤ q)) (hX : va_X b L xs s s.heap) (hbl : b < s.heap.size) (hbA : ¬ (fun q : Nat => s.heap.size ≤ q) b) (hL6 : L = 6)  (I : fb_In D (fun q : Nat => s.heap.size ≤ q) s.heap (([fb_o11 zb zt zn zv zs zp (zq 0) (zu 0) zh zst zre, fb_mw cI zq fb_s0 zw, fb_jw cJ zx 1 zg, fb_o12 za zr fr_e0, fb_aw cI (zr 0) 16205 (fr_m (fun _ => 0) 0)] : List va_W).flatten) H locs) (hl : lv_has ls 9 [(4, .int (0 : Int32)), (3, .ref zx), (2, .ref za), (1, .ref zb), (0, .ref b)]) : W p l e room_1 s m #[Value.ref b] below meth c H locs 209 179241 (lw_Z below #[Value.ref b] s) (F0 m 1341 ls []) := by
  obtain ⟨hx, hb, hr, hml, hown, hts, hlk, hA, hK, hF⟩ := id X
  refine lv_aload_n hx hb dL_law_1341 rfl (lv_at hl 3 rfl) ?_
  refine fb_gO (cs := [fb_o11 zb zt zn zv zs zp (zq 0) (zu 0) zh zst zre, fb_mw cI zq fb_s0 zw]) (rs := [fb_jw cJ zx 1 zg, fb_o12 za zr fr_e0, fb_aw cI (zr 0) 16205 (fr_m (fun _ => 0) 0)]) X I [0, 1, 2, 3, 4] 5 rfl (by decide +kernel) rfl rfl (fun I => fb_rV (As := []) (rest := []) X hl (fb_goodV fw_1457 fw_1458 fw_1459 fw_191 fw_1460) (c_X11_pc l D cI cJ zb zt zn zv zs zp (zu 0) zh zst zre zq fb_s0 zw _ ) rfl rfl rfl (by decide +kernel : fb_hd yX11_pc 0) ⟨(Nat.le_of_ble_eq_true rfl), (Nat.le_of_ble_eq_true rfl)⟩ (rfl : vwCl[11]? = some _) rfl rfl rfl rfl (Nat.le_of_ble_eq_true rfl) ⟨(Nat.le_of_ble_eq_true rfl), (Nat.le_of_ble_eq_true rfl)⟩ dL_law_1342 I) ?_
  refine fb_tI (v := (0 : Int32)) np_0.pc ?_
  refine lv_aload_n hx hb dL_law_1345 rfl (lv_at hl 2 rfl) ?_
  refine fb_gI (cs := [fb_o12 za zr fr_e0, fb_aw cI (zr 0) 16205 (fr_m (fun _ => 0) 0)]) (rs := [fb_o11 zb zt zn zv zs zp (zq 0) (zu 0) zh zst zre, fb_mw cI zq fb_s0 zw, fb_jw cJ zx 1 zg]) (fun (t : Unit) => [fb_o11 zb zt zn zv zs zp (zq 0) (zu 0) zh zst zre, fb_mw cI zq fb_s0 zw, fb_jw cJ zx 1 zg, fb_o12 za zr (upd fr_e0 19 (0 : Int32)), fb_aw cI (zr 0) 16205 (fr_m (fun _ => 0) 0)]) (fun (t : Unit) => [fb_o12 za zr (upd fr_e0 19 (0 : Int32)), fb_aw cI (zr 0) 16205 (fr_m (fun _ => 0) 0)]) X I [3, 4, 0, 1, 2] 5 rfl (by decide +kernel) rfl rfl [3, 4, 0, 1, 2] 5 (fun _ => rfl) (by decide +kernel) (fun _ => rfl) (fun _ => rfl) (fun I => fb_rV (As := []) (rest := [.int (0 : Int32)]) X hl (fb_goodV fw_2643 fw_2644 fw_2645 fw_204 fw_2646) (c_pc l D cI cJ za zr _ ) rfl rfl rfl (by decide +kernel : fb_hd yX12_pc 0) ⟨Nat.le_of_ble_eq_true rfl, Nat.le_of_ble_eq_true rfl⟩ rfl rfl rfl rfl rfl (Nat.le_of_ble_eq_true rfl) ⟨Nat.le_of_ble_eq_true rfl, Nat.le_of_ble_eq_true rfl⟩ dL_law_1346 I) ?_
  intro r2 w1 H locs e0 I
  subst e0
  have I : fb_In D (fun q : Nat => s.heap.size ≤ q) s.heap (([fb_o11 zb zt zn zv zs zp (zq 0) (zu 0) zh zst zre, fb_mw cI zq fb_s0 zw, fb_jw cJ zx 1 zg, fb_o12 za zr (upd fr_e0 19 (0 : Int32)), fb_aw cI (zr 0) 16205 (fr_m (fun _ => 0) 0)] : List va_W).flatten) H locs := I
  refine lv_icmp_eq (tgt := 2336) hx hb dL_law_1349 (by decide) (fun _ => ?_) (fun c3 => absurd rfl c3)
  exact lw_end X hX hbl hbA (by omega) I (lv_sub hl [0, 4] rfl) (Nat.le_of_ble_eq_true rfl) (Nat.le_of_ble_eq_true rfl)

set_option maxHeartbeats 4000000 in
set_option maxRecDepth 100000 in
theorem lc_30_p {p : Program} {l : Launch} {e : Env} {s : State} {m : MethodId} {below : List Frame} {meth : Method} {c : Code} {H : Heap} {locs : List Loc} {ls : Array Slot} {D : va_G} {cI cJ : ClassId} {b L : Nat} {xs : Nat → Int32} {zb : Nat} {zt : Nat} {zn : Nat} {zv : Nat} {zs : Nat} {zp : Nat} {zq : Nat → Nat} {zu : Nat → Nat} {zh : Nat} {zst : Nat} {zre : Nat} {zw : fb_AR} {zx : Nat} {zg : Nat → Int64} {za : Nat} {zr : Nat → Nat} (hst : l.stackTraces = false) (X : fb_Bx p s m #[Value.ref b] meth c cL_law RL 9 (some .boolean) D (fb_ty D cI cJ) (fun q : Nat => s.heap.size ≤ q)) (hX : va_X b L xs s s.heap) (hbl : b < s.heap.size) (hbA : ¬ (fun q : Nat => s.heap.size ≤ q) b) (hL6 : L = 6)  (I : fb_In D (fun q : Nat => s.heap.size ≤ q) s.heap (([fb_o11 zb zt zn zv zs zp (zq 0) (zu 0) zh zst zre, fb_mw cI zq fb_s0 zw, fb_jw cJ zx 1 zg, fb_o12 za zr fr_e0, fb_aw cI (zr 0) 16205 (fr_m (fun _ => 0) 0)] : List va_W).flatten) H locs) (hl : lv_has ls 9 [(4, .int (0 : Int32)), (3, .ref zx), (2, .ref za), (1, .ref zb), (0, .ref b)]) : W p l e room_1 s m #[Value.ref b] below meth c H locs 209 179241 (lw_Z below #[Value.ref b] s) (F0 m 1354 ls []) := by
  obtain ⟨hx, hb, hr, hml, hown, hts, hlk, hA, hK, hF⟩ := id X
  refine lv_aload_n hx hb dL_law_1354 rfl (lv_at hl 3 rfl) ?_
  refine fb_gO (cs := [fb_o11 zb zt zn zv zs zp (zq 0) (zu 0) zh zst zre, fb_mw cI zq fb_s0 zw]) (rs := [fb_jw cJ zx 1 zg, fb_o12 za zr fr_e0, fb_aw cI (zr 0) 16205 (fr_m (fun _ => 0) 0)]) X I [0, 1, 2, 3, 4] 5 rfl (by decide +kernel) rfl rfl (fun I => fb_rV (As := []) (rest := []) X hl (fb_goodV fw_1461 fw_1462 fw_1463 fw_191 fw_1464) (c_X11_state l D cI cJ zb zt zn zv zs zp (zu 0) zh zst zre zq fb_s0 zw _ ) rfl rfl rfl (by decide +kernel : fb_hd yX11_state 0) ⟨(Nat.le_of_ble_eq_true rfl), (Nat.le_of_ble_eq_true rfl)⟩ (rfl : vwCl[11]? = some _) rfl rfl rfl rfl (Nat.le_of_ble_eq_true rfl) ⟨(Nat.le_of_ble_eq_true rfl), (Nat.le_of_ble_eq_true rfl)⟩ dL_law_1355 I) ?_
  refine fb_tI (v := (0 : Int32)) rfl ?_
  refine lv_aload_n hx hb dL_law_1358 rfl (lv_at hl 2 rfl) ?_
  refine fb_gI (cs := [fb_o12 za zr fr_e0, fb_aw cI (zr 0) 16205 (fr_m (fun _ => 0) 0)]) (rs := [fb_o11 zb zt zn zv zs zp (zq 0) (zu 0) zh zst zre, fb_mw cI zq fb_s0 zw, fb_jw cJ zx 1 zg]) (fun (t : Unit) => [fb_o11 zb zt zn zv zs zp (zq 0) (zu 0) zh zst zre, fb_mw cI zq fb_s0 zw, fb_jw cJ zx 1 zg, fb_o12 za zr (upd fr_e0 19 (0 : Int32)), fb_aw cI (zr 0) 16205 (fr_m (fun _ => 0) 0)]) (fun (t : Unit) => [fb_o12 za zr (upd fr_e0 19 (0 : Int32)), fb_aw cI (zr 0) 16205 (fr_m (fun _ => 0) 0)]) X I [3, 4, 0, 1, 2] 5 rfl (by decide +kernel) rfl rfl [3, 4, 0, 1, 2] 5 (fun _ => rfl) (by decide +kernel) (fun _ => rfl) (fun _ => rfl) (fun I => fb_rV (As := []) (rest := [.int (0 : Int32)]) X hl (fb_goodV fw_2647 fw_2648 fw_2649 fw_204 fw_2650) (c_state l D cI cJ za zr _ ) rfl rfl rfl (by decide +kernel : fb_hd yX12_state 0) ⟨Nat.le_of_ble_eq_true rfl, Nat.le_of_ble_eq_true rfl⟩ rfl rfl rfl rfl rfl (Nat.le_of_ble_eq_true rfl) ⟨Nat.le_of_ble_eq_true rfl, Nat.le_of_ble_eq_true rfl⟩ dL_law_1359 I) ?_
  intro r2 w1 H locs e0 I
  subst e0
  have I : fb_In D (fun q : Nat => s.heap.size ≤ q) s.heap (([fb_o11 zb zt zn zv zs zp (zq 0) (zu 0) zh zst zre, fb_mw cI zq fb_s0 zw, fb_jw cJ zx 1 zg, fb_o12 za zr (upd fr_e0 19 (0 : Int32)), fb_aw cI (zr 0) 16205 (fr_m (fun _ => 0) 0)] : List va_W).flatten) H locs := I
  refine lv_icmp_eq (tgt := 2336) hx hb dL_law_1362 (by decide) (fun _ => ?_) (fun c3 => absurd rfl c3)
  exact lw_end X hX hbl hbA (by omega) I (lv_sub hl [0, 4] rfl) (Nat.le_of_ble_eq_true rfl) (Nat.le_of_ble_eq_true rfl)

set_option maxHeartbeats 4000000 in
set_option maxRecDepth 100000 in
theorem lc_31_p {p : Program} {l : Launch} {e : Env} {s : State} {m : MethodId} {below : List Frame} {meth : Method} {c : Code} {H : Heap} {locs : List Loc} {ls : Array Slot} {D : va_G} {cI cJ : ClassId} {b L : Nat} {xs : Nat → Int32} {zb : Nat} {zt : Nat} {zn : Nat} {zv : Nat} {zs : Nat} {zp : Nat} {zq : Nat → Nat} {zu : Nat → Nat} {zh : Nat} {zst : Nat} {zre : Nat} {zw : fb_AR} {zx : Nat} {zg : Nat → Int64} {za : Nat} {zr : Nat → Nat} (hst : l.stackTraces = false) (X : fb_Bx p s m #[Value.ref b] meth c cL_law RL 9 (some .boolean) D (fb_ty D cI cJ) (fun q : Nat => s.heap.size ≤ q)) (hX : va_X b L xs s s.heap) (hbl : b < s.heap.size) (hbA : ¬ (fun q : Nat => s.heap.size ≤ q) b) (hL6 : L = 6)  (I : fb_In D (fun q : Nat => s.heap.size ≤ q) s.heap (([fb_o11 zb zt zn zv zs zp (zq 0) (zu 0) zh zst zre, fb_mw cI zq fb_s0 zw, fb_jw cJ zx 1 zg, fb_o12 za zr fr_e0, fb_aw cI (zr 0) 16205 (fr_m (fun _ => 0) 0)] : List va_W).flatten) H locs) (hl : lv_has ls 9 [(4, .int (0 : Int32)), (3, .ref zx), (2, .ref za), (1, .ref zb), (0, .ref b)]) : W p l e room_1 s m #[Value.ref b] below meth c H locs 209 179241 (lw_Z below #[Value.ref b] s) (F0 m 1367 ls []) := by
  obtain ⟨hx, hb, hr, hml, hown, hts, hlk, hA, hK, hF⟩ := id X
  refine lv_aload_n hx hb dL_law_1367 rfl (lv_at hl 3 rfl) ?_
  refine fb_gO (cs := [fb_o11 zb zt zn zv zs zp (zq 0) (zu 0) zh zst zre, fb_mw cI zq fb_s0 zw]) (rs := [fb_jw cJ zx 1 zg, fb_o12 za zr fr_e0, fb_aw cI (zr 0) 16205 (fr_m (fun _ => 0) 0)]) X I [0, 1, 2, 3, 4] 5 rfl (by decide +kernel) rfl rfl (fun I => fb_rV (As := []) (rest := []) X hl (fb_goodV fw_1465 fw_1466 fw_1467 fw_191 fw_1468) (c_X11_cycles l D cI cJ zb zt zn zv zs zp (zu 0) zh zst zre zq fb_s0 zw _ ) rfl rfl rfl (by decide +kernel : fb_hd yX11_cycles 0) ⟨(Nat.le_of_ble_eq_true rfl), (Nat.le_of_ble_eq_true rfl)⟩ (rfl : vwCl[11]? = some _) rfl rfl rfl rfl (Nat.le_of_ble_eq_true rfl) ⟨(Nat.le_of_ble_eq_true rfl), (Nat.le_of_ble_eq_true rfl)⟩ dL_law_1368 I) ?_
  refine fb_tI (v := (0 : Int32)) rfl ?_
  refine lv_aload_n hx hb dL_law_1371 rfl (lv_at hl 2 rfl) ?_
  refine fb_gI (cs := [fb_o12 za zr fr_e0, fb_aw cI (zr 0) 16205 (fr_m (fun _ => 0) 0)]) (rs := [fb_o11 zb zt zn zv zs zp (zq 0) (zu 0) zh zst zre, fb_mw cI zq fb_s0 zw, fb_jw cJ zx 1 zg]) (fun (t : Unit) => [fb_o11 zb zt zn zv zs zp (zq 0) (zu 0) zh zst zre, fb_mw cI zq fb_s0 zw, fb_jw cJ zx 1 zg, fb_o12 za zr (upd fr_e0 19 (0 : Int32)), fb_aw cI (zr 0) 16205 (fr_m (fun _ => 0) 0)]) (fun (t : Unit) => [fb_o12 za zr (upd fr_e0 19 (0 : Int32)), fb_aw cI (zr 0) 16205 (fr_m (fun _ => 0) 0)]) X I [3, 4, 0, 1, 2] 5 rfl (by decide +kernel) rfl rfl [3, 4, 0, 1, 2] 5 (fun _ => rfl) (by decide +kernel) (fun _ => rfl) (fun _ => rfl) (fun I => fb_rV (As := []) (rest := [.int (0 : Int32)]) X hl (fb_goodV fw_2651 fw_2652 fw_2653 fw_204 fw_2654) (c_cycles l D cI cJ za zr _ ) rfl rfl rfl (by decide +kernel : fb_hd yX12_cycles 0) ⟨Nat.le_of_ble_eq_true rfl, Nat.le_of_ble_eq_true rfl⟩ rfl rfl rfl rfl rfl (Nat.le_of_ble_eq_true rfl) ⟨Nat.le_of_ble_eq_true rfl, Nat.le_of_ble_eq_true rfl⟩ dL_law_1372 I) ?_
  intro r2 w1 H locs e0 I
  subst e0
  have I : fb_In D (fun q : Nat => s.heap.size ≤ q) s.heap (([fb_o11 zb zt zn zv zs zp (zq 0) (zu 0) zh zst zre, fb_mw cI zq fb_s0 zw, fb_jw cJ zx 1 zg, fb_o12 za zr (upd fr_e0 19 (0 : Int32)), fb_aw cI (zr 0) 16205 (fr_m (fun _ => 0) 0)] : List va_W).flatten) H locs := I
  refine lv_icmp_eq (tgt := 2336) hx hb dL_law_1375 (by decide) (fun _ => ?_) (fun c3 => absurd rfl c3)
  exact lw_end X hX hbl hbA (by omega) I (lv_sub hl [0, 4] rfl) (Nat.le_of_ble_eq_true rfl) (Nat.le_of_ble_eq_true rfl)

set_option maxHeartbeats 4000000 in
set_option maxRecDepth 100000 in
theorem lc_32_p {p : Program} {l : Launch} {e : Env} {s : State} {m : MethodId} {below : List Frame} {meth : Method} {c : Code} {H : Heap} {locs : List Loc} {ls : Array Slot} {D : va_G} {cI cJ : ClassId} {b L : Nat} {xs : Nat → Int32} {zb : Nat} {zt : Nat} {zn : Nat} {zv : Nat} {zs : Nat} {zp : Nat} {zq : Nat → Nat} {zu : Nat → Nat} {zh : Nat} {zst : Nat} {zre : Nat} {zw : fb_AR} {zx : Nat} {zg : Nat → Int64} {za : Nat} {zr : Nat → Nat} (hst : l.stackTraces = false) (X : fb_Bx p s m #[Value.ref b] meth c cL_law RL 9 (some .boolean) D (fb_ty D cI cJ) (fun q : Nat => s.heap.size ≤ q)) (hX : va_X b L xs s s.heap) (hbl : b < s.heap.size) (hbA : ¬ (fun q : Nat => s.heap.size ≤ q) b) (hL6 : L = 6)  (I : fb_In D (fun q : Nat => s.heap.size ≤ q) s.heap (([fb_o11 zb zt zn zv zs zp (zq 0) (zu 0) zh zst zre, fb_mw cI zq fb_s0 zw, fb_jw cJ zx 1 zg, fb_o12 za zr fr_e0, fb_aw cI (zr 0) 16205 (fr_m (fun _ => 0) 0)] : List va_W).flatten) H locs) (hl : lv_has ls 9 [(4, .int (0 : Int32)), (3, .ref zx), (2, .ref za), (1, .ref zb), (0, .ref b)]) : W p l e room_1 s m #[Value.ref b] below meth c H locs 209 179241 (lw_Z below #[Value.ref b] s) (F0 m 1380 ls []) := by
  obtain ⟨hx, hb, hr, hml, hown, hts, hlk, hA, hK, hF⟩ := id X
  refine lv_aload_n hx hb dL_law_1380 rfl (lv_at hl 3 rfl) ?_
  refine fb_gO (cs := [fb_o11 zb zt zn zv zs zp (zq 0) (zu 0) zh zst zre, fb_mw cI zq fb_s0 zw]) (rs := [fb_jw cJ zx 1 zg, fb_o12 za zr fr_e0, fb_aw cI (zr 0) 16205 (fr_m (fun _ => 0) 0)]) X I [0, 1, 2, 3, 4] 5 rfl (by decide +kernel) rfl rfl (fun I => fb_rV (As := []) (rest := []) X hl (fb_goodV fw_1469 fw_1470 fw_1471 fw_191 fw_1472) (c_X11_instructions l D cI cJ zb zt zn zv zs zp (zu 0) zh zst zre zq fb_s0 zw _ ) rfl rfl rfl (by decide +kernel : fb_hd yX11_instructions 0) ⟨(Nat.le_of_ble_eq_true rfl), (Nat.le_of_ble_eq_true rfl)⟩ (rfl : vwCl[11]? = some _) rfl rfl rfl rfl (Nat.le_of_ble_eq_true rfl) ⟨(Nat.le_of_ble_eq_true rfl), (Nat.le_of_ble_eq_true rfl)⟩ dL_law_1381 I) ?_
  refine fb_tI (v := (0 : Int32)) rfl ?_
  refine lv_aload_n hx hb dL_law_1384 rfl (lv_at hl 2 rfl) ?_
  refine fb_gI (cs := [fb_o12 za zr fr_e0, fb_aw cI (zr 0) 16205 (fr_m (fun _ => 0) 0)]) (rs := [fb_o11 zb zt zn zv zs zp (zq 0) (zu 0) zh zst zre, fb_mw cI zq fb_s0 zw, fb_jw cJ zx 1 zg]) (fun (t : Unit) => [fb_o11 zb zt zn zv zs zp (zq 0) (zu 0) zh zst zre, fb_mw cI zq fb_s0 zw, fb_jw cJ zx 1 zg, fb_o12 za zr (upd fr_e0 19 (0 : Int32)), fb_aw cI (zr 0) 16205 (fr_m (fun _ => 0) 0)]) (fun (t : Unit) => [fb_o12 za zr (upd fr_e0 19 (0 : Int32)), fb_aw cI (zr 0) 16205 (fr_m (fun _ => 0) 0)]) X I [3, 4, 0, 1, 2] 5 rfl (by decide +kernel) rfl rfl [3, 4, 0, 1, 2] 5 (fun _ => rfl) (by decide +kernel) (fun _ => rfl) (fun _ => rfl) (fun I => fb_rV (As := []) (rest := [.int (0 : Int32)]) X hl (fb_goodV fw_2655 fw_2656 fw_2657 fw_204 fw_2658) (c_instructions l D cI cJ za zr _ ) rfl rfl rfl (by decide +kernel : fb_hd yX12_instructions 0) ⟨Nat.le_of_ble_eq_true rfl, Nat.le_of_ble_eq_true rfl⟩ rfl rfl rfl rfl rfl (Nat.le_of_ble_eq_true rfl) ⟨Nat.le_of_ble_eq_true rfl, Nat.le_of_ble_eq_true rfl⟩ dL_law_1385 I) ?_
  intro r2 w1 H locs e0 I
  subst e0
  have I : fb_In D (fun q : Nat => s.heap.size ≤ q) s.heap (([fb_o11 zb zt zn zv zs zp (zq 0) (zu 0) zh zst zre, fb_mw cI zq fb_s0 zw, fb_jw cJ zx 1 zg, fb_o12 za zr (upd fr_e0 19 (0 : Int32)), fb_aw cI (zr 0) 16205 (fr_m (fun _ => 0) 0)] : List va_W).flatten) H locs := I
  refine lv_icmp_eq (tgt := 2336) hx hb dL_law_1388 (by decide) (fun _ => ?_) (fun c3 => absurd rfl c3)
  exact lw_end X hX hbl hbA (by omega) I (lv_sub hl [0, 4] rfl) (Nat.le_of_ble_eq_true rfl) (Nat.le_of_ble_eq_true rfl)

set_option maxHeartbeats 4000000 in
set_option maxRecDepth 100000 in
theorem lc_35_p {p : Program} {l : Launch} {e : Env} {s : State} {m : MethodId} {below : List Frame} {meth : Method} {c : Code} {H : Heap} {locs : List Loc} {ls : Array Slot} {D : va_G} {cI cJ : ClassId} {b L : Nat} {xs : Nat → Int32} {zb : Nat} {zt : Nat} {zn : Nat} {zv : Nat} {zs : Nat} {zp : Nat} {zq : Nat → Nat} {zu : Nat → Nat} {zh : Nat} {zst : Nat} {zre : Nat} {zw : fb_AR} {zx : Nat} {zg : Nat → Int64} {za : Nat} {zr : Nat → Nat} (hst : l.stackTraces = false) (X : fb_Bx p s m #[Value.ref b] meth c cL_law RL 9 (some .boolean) D (fb_ty D cI cJ) (fun q : Nat => s.heap.size ≤ q)) (hX : va_X b L xs s s.heap) (hbl : b < s.heap.size) (hbA : ¬ (fun q : Nat => s.heap.size ≤ q) b) (hL6 : L = 6)  (I : fb_In D (fun q : Nat => s.heap.size ≤ q) s.heap (([fb_o11 zb zt zn zv zs zp (zq 0) (zu 0) zh zst zre, fb_mw cI zq fb_s0 zw, fb_jw cJ zx 1 zg, fb_o12 za zr fr_e0, fb_aw cI (zr 0) 16205 (fr_m (fun _ => 0) 0)] : List va_W).flatten) H locs) (hl : lv_has ls 9 [(4, .int (0 : Int32)), (3, .ref zx), (2, .ref za), (1, .ref zb), (0, .ref b)]) : W p l e room_1 s m #[Value.ref b] below meth c H locs 209 179241 (lw_Z below #[Value.ref b] s) (F0 m 1517 ls []) := by
  obtain ⟨hx, hb, hr, hml, hown, hts, hlk, hA, hK, hF⟩ := id X
  refine lv_aload_n hx hb dL_law_1517 rfl (lv_at hl 3 rfl) ?_
  refine fb_gO (cs := [fb_o11 zb zt zn zv zs zp (zq 0) (zu 0) zh zst zre, fb_mw cI zq fb_s0 zw]) (rs := [fb_jw cJ zx 1 zg, fb_o12 za zr fr_e0, fb_aw cI (zr 0) 16205 (fr_m (fun _ => 0) 0)]) X I [0, 1, 2, 3, 4] 5 rfl (by decide +kernel) rfl rfl (fun I => fb_rV (As := []) (rest := []) X hl (fb_goodV fw_1473 fw_1474 fw_1475 fw_191 fw_1476) (c_X11_bank l D cI cJ zb zt zn zv zs zp (zu 0) zh zst zre zq fb_s0 zw _ ) rfl rfl rfl (by decide +kernel : fb_hd yX11_bank 0) ⟨(Nat.le_of_ble_eq_true rfl), (Nat.le_of_ble_eq_true rfl)⟩ (rfl : vwCl[11]? = some _) rfl rfl rfl rfl (Nat.le_of_ble_eq_true rfl) ⟨(Nat.le_of_ble_eq_true rfl), (Nat.le_of_ble_eq_true rfl)⟩ dL_law_1518 I) ?_
  refine fb_tI (v := (0 : Int32)) rfl ?_
  refine lv_aload_n hx hb dL_law_1521 rfl (lv_at hl 2 rfl) ?_
  refine fb_gI (cs := [fb_o12 za zr fr_e0, fb_aw cI (zr 0) 16205 (fr_m (fun _ => 0) 0)]) (rs := [fb_o11 zb zt zn zv zs zp (zq 0) (zu 0) zh zst zre, fb_mw cI zq fb_s0 zw, fb_jw cJ zx 1 zg]) (fun (t : Unit) => [fb_o11 zb zt zn zv zs zp (zq 0) (zu 0) zh zst zre, fb_mw cI zq fb_s0 zw, fb_jw cJ zx 1 zg, fb_o12 za zr (upd fr_e0 19 (0 : Int32)), fb_aw cI (zr 0) 16205 (fr_m (fun _ => 0) 0)]) (fun (t : Unit) => [fb_o12 za zr (upd fr_e0 19 (0 : Int32)), fb_aw cI (zr 0) 16205 (fr_m (fun _ => 0) 0)]) X I [3, 4, 0, 1, 2] 5 rfl (by decide +kernel) rfl rfl [3, 4, 0, 1, 2] 5 (fun _ => rfl) (by decide +kernel) (fun _ => rfl) (fun _ => rfl) (fun I => fb_rV (As := []) (rest := [.int (0 : Int32)]) X hl (fb_goodV fw_2667 fw_2668 fw_2669 fw_204 fw_2670) (c_bank l D cI cJ za zr _ ) rfl rfl rfl (by decide +kernel : fb_hd yX12_bank 0) ⟨Nat.le_of_ble_eq_true rfl, Nat.le_of_ble_eq_true rfl⟩ rfl rfl rfl rfl rfl (Nat.le_of_ble_eq_true rfl) ⟨Nat.le_of_ble_eq_true rfl, Nat.le_of_ble_eq_true rfl⟩ dL_law_1522 I) ?_
  intro r2 w1 H locs e0 I
  subst e0
  have I : fb_In D (fun q : Nat => s.heap.size ≤ q) s.heap (([fb_o11 zb zt zn zv zs zp (zq 0) (zu 0) zh zst zre, fb_mw cI zq fb_s0 zw, fb_jw cJ zx 1 zg, fb_o12 za zr (upd fr_e0 19 (0 : Int32)), fb_aw cI (zr 0) 16205 (fr_m (fun _ => 0) 0)] : List va_W).flatten) H locs := I
  refine lv_icmp_eq (tgt := 2336) hx hb dL_law_1525 (by decide) (fun _ => ?_) (fun c3 => absurd rfl c3)
  exact lw_end X hX hbl hbA (by omega) I (lv_sub hl [0, 4] rfl) (Nat.le_of_ble_eq_true rfl) (Nat.le_of_ble_eq_true rfl)

set_option maxHeartbeats 4000000 in
set_option maxRecDepth 100000 in
theorem lc_36_p {p : Program} {l : Launch} {e : Env} {s : State} {m : MethodId} {below : List Frame} {meth : Method} {c : Code} {H : Heap} {locs : List Loc} {ls : Array Slot} {D : va_G} {cI cJ : ClassId} {b L : Nat} {xs : Nat → Int32} {zb : Nat} {zt : Nat} {zn : Nat} {zv : Nat} {zs : Nat} {zp : Nat} {zq : Nat → Nat} {zu : Nat → Nat} {zh : Nat} {zst : Nat} {zre : Nat} {zw : fb_AR} {zx : Nat} {zg : Nat → Int64} {za : Nat} {zr : Nat → Nat} (hst : l.stackTraces = false) (X : fb_Bx p s m #[Value.ref b] meth c cL_law RL 9 (some .boolean) D (fb_ty D cI cJ) (fun q : Nat => s.heap.size ≤ q)) (hX : va_X b L xs s s.heap) (hbl : b < s.heap.size) (hbA : ¬ (fun q : Nat => s.heap.size ≤ q) b) (hL6 : L = 6)  (I : fb_In D (fun q : Nat => s.heap.size ≤ q) s.heap (([fb_o11 zb zt zn zv zs zp (zq 0) (zu 0) zh zst zre, fb_mw cI zq fb_s0 zw, fb_jw cJ zx 1 zg, fb_o12 za zr fr_e0, fb_aw cI (zr 0) 16205 (fr_m (fun _ => 0) 0)] : List va_W).flatten) H locs) (hl : lv_has ls 9 [(4, .int (0 : Int32)), (3, .ref zx), (2, .ref za), (1, .ref zb), (0, .ref b)]) : W p l e room_1 s m #[Value.ref b] below meth c H locs 209 179241 (lw_Z below #[Value.ref b] s) (F0 m 1530 ls []) := by
  obtain ⟨hx, hb, hr, hml, hown, hts, hlk, hA, hK, hF⟩ := id X
  refine lv_aload_n hx hb dL_law_1530 rfl (lv_at hl 3 rfl) ?_
  refine fb_gO (cs := [fb_o11 zb zt zn zv zs zp (zq 0) (zu 0) zh zst zre, fb_mw cI zq fb_s0 zw]) (rs := [fb_jw cJ zx 1 zg, fb_o12 za zr fr_e0, fb_aw cI (zr 0) 16205 (fr_m (fun _ => 0) 0)]) X I [0, 1, 2, 3, 4] 5 rfl (by decide +kernel) rfl rfl (fun I => fb_rV (As := []) (rest := []) X hl (fb_goodV fw_1477 fw_1478 fw_1479 fw_191 fw_1480) (c_X11_mask l D cI cJ zb zt zn zv zs zp (zu 0) zh zst zre zq fb_s0 zw _ ) rfl rfl rfl (by decide +kernel : fb_hd yX11_mask 0) ⟨(Nat.le_of_ble_eq_true rfl), (Nat.le_of_ble_eq_true rfl)⟩ (rfl : vwCl[11]? = some _) rfl rfl rfl rfl (Nat.le_of_ble_eq_true rfl) ⟨(Nat.le_of_ble_eq_true rfl), (Nat.le_of_ble_eq_true rfl)⟩ dL_law_1531 I) ?_
  refine fb_tI (v := (0 : Int32)) rfl ?_
  refine lv_aload_n hx hb dL_law_1534 rfl (lv_at hl 2 rfl) ?_
  refine fb_gI (cs := [fb_o12 za zr fr_e0, fb_aw cI (zr 0) 16205 (fr_m (fun _ => 0) 0)]) (rs := [fb_o11 zb zt zn zv zs zp (zq 0) (zu 0) zh zst zre, fb_mw cI zq fb_s0 zw, fb_jw cJ zx 1 zg]) (fun (t : Unit) => [fb_o11 zb zt zn zv zs zp (zq 0) (zu 0) zh zst zre, fb_mw cI zq fb_s0 zw, fb_jw cJ zx 1 zg, fb_o12 za zr (upd fr_e0 19 (0 : Int32)), fb_aw cI (zr 0) 16205 (fr_m (fun _ => 0) 0)]) (fun (t : Unit) => [fb_o12 za zr (upd fr_e0 19 (0 : Int32)), fb_aw cI (zr 0) 16205 (fr_m (fun _ => 0) 0)]) X I [3, 4, 0, 1, 2] 5 rfl (by decide +kernel) rfl rfl [3, 4, 0, 1, 2] 5 (fun _ => rfl) (by decide +kernel) (fun _ => rfl) (fun _ => rfl) (fun I => fb_rV (As := []) (rest := [.int (0 : Int32)]) X hl (fb_goodV fw_2671 fw_2672 fw_2673 fw_204 fw_2674) (c_mask l D cI cJ za zr _ ) rfl rfl rfl (by decide +kernel : fb_hd yX12_mask 0) ⟨Nat.le_of_ble_eq_true rfl, Nat.le_of_ble_eq_true rfl⟩ rfl rfl rfl rfl rfl (Nat.le_of_ble_eq_true rfl) ⟨Nat.le_of_ble_eq_true rfl, Nat.le_of_ble_eq_true rfl⟩ dL_law_1535 I) ?_
  intro r2 w1 H locs e0 I
  subst e0
  have I : fb_In D (fun q : Nat => s.heap.size ≤ q) s.heap (([fb_o11 zb zt zn zv zs zp (zq 0) (zu 0) zh zst zre, fb_mw cI zq fb_s0 zw, fb_jw cJ zx 1 zg, fb_o12 za zr (upd fr_e0 19 (0 : Int32)), fb_aw cI (zr 0) 16205 (fr_m (fun _ => 0) 0)] : List va_W).flatten) H locs := I
  refine lv_icmp_eq (tgt := 2336) hx hb dL_law_1538 (by decide) (fun _ => ?_) (fun c3 => absurd rfl c3)
  exact lw_end X hX hbl hbA (by omega) I (lv_sub hl [0, 4] rfl) (Nat.le_of_ble_eq_true rfl) (Nat.le_of_ble_eq_true rfl)

set_option maxHeartbeats 4000000 in
set_option maxRecDepth 100000 in
theorem lc_37_p {p : Program} {l : Launch} {e : Env} {s : State} {m : MethodId} {below : List Frame} {meth : Method} {c : Code} {H : Heap} {locs : List Loc} {ls : Array Slot} {D : va_G} {cI cJ : ClassId} {b L : Nat} {xs : Nat → Int32} {zb : Nat} {zt : Nat} {zn : Nat} {zv : Nat} {zs : Nat} {zp : Nat} {zq : Nat → Nat} {zu : Nat → Nat} {zh : Nat} {zst : Nat} {zre : Nat} {zw : fb_AR} {zx : Nat} {zg : Nat → Int64} {za : Nat} {zr : Nat → Nat} (hst : l.stackTraces = false) (X : fb_Bx p s m #[Value.ref b] meth c cL_law RL 9 (some .boolean) D (fb_ty D cI cJ) (fun q : Nat => s.heap.size ≤ q)) (hX : va_X b L xs s s.heap) (hbl : b < s.heap.size) (hbA : ¬ (fun q : Nat => s.heap.size ≤ q) b) (hL6 : L = 6)  (I : fb_In D (fun q : Nat => s.heap.size ≤ q) s.heap (([fb_o11 zb zt zn zv zs zp (zq 0) (zu 0) zh zst zre, fb_mw cI zq fb_s0 zw, fb_jw cJ zx 1 zg, fb_o12 za zr fr_e0, fb_aw cI (zr 0) 16205 (fr_m (fun _ => 0) 0)] : List va_W).flatten) H locs) (hl : lv_has ls 9 [(4, .int (0 : Int32)), (3, .ref zx), (2, .ref za), (1, .ref zb), (0, .ref b)]) : W p l e room_1 s m #[Value.ref b] below meth c H locs 209 179241 (lw_Z below #[Value.ref b] s) (F0 m 1543 ls []) := by
  obtain ⟨hx, hb, hr, hml, hown, hts, hlk, hA, hK, hF⟩ := id X
  refine lv_aload_n hx hb dL_law_1543 rfl (lv_at hl 3 rfl) ?_
  refine fb_gO (cs := [fb_o11 zb zt zn zv zs zp (zq 0) (zu 0) zh zst zre, fb_mw cI zq fb_s0 zw]) (rs := [fb_jw cJ zx 1 zg, fb_o12 za zr fr_e0, fb_aw cI (zr 0) 16205 (fr_m (fun _ => 0) 0)]) X I [0, 1, 2, 3, 4] 5 rfl (by decide +kernel) rfl rfl (fun I => fb_rV (As := []) (rest := []) X hl (fb_goodV fw_1481 fw_1482 fw_1483 fw_191 fw_1484) (c_X11_pending l D cI cJ zb zt zn zv zs zp (zu 0) zh zst zre zq fb_s0 zw _ ) rfl rfl rfl (by decide +kernel : fb_hd yX11_pending 0) ⟨(Nat.le_of_ble_eq_true rfl), (Nat.le_of_ble_eq_true rfl)⟩ (rfl : vwCl[11]? = some _) rfl rfl rfl rfl (Nat.le_of_ble_eq_true rfl) ⟨(Nat.le_of_ble_eq_true rfl), (Nat.le_of_ble_eq_true rfl)⟩ dL_law_1544 I) ?_
  refine fb_tI (v := (0 : Int32)) rfl ?_
  refine lv_aload_n hx hb dL_law_1547 rfl (lv_at hl 2 rfl) ?_
  refine fb_gI (cs := [fb_o12 za zr fr_e0, fb_aw cI (zr 0) 16205 (fr_m (fun _ => 0) 0)]) (rs := [fb_o11 zb zt zn zv zs zp (zq 0) (zu 0) zh zst zre, fb_mw cI zq fb_s0 zw, fb_jw cJ zx 1 zg]) (fun (t : Unit) => [fb_o11 zb zt zn zv zs zp (zq 0) (zu 0) zh zst zre, fb_mw cI zq fb_s0 zw, fb_jw cJ zx 1 zg, fb_o12 za zr (upd fr_e0 19 (0 : Int32)), fb_aw cI (zr 0) 16205 (fr_m (fun _ => 0) 0)]) (fun (t : Unit) => [fb_o12 za zr (upd fr_e0 19 (0 : Int32)), fb_aw cI (zr 0) 16205 (fr_m (fun _ => 0) 0)]) X I [3, 4, 0, 1, 2] 5 rfl (by decide +kernel) rfl rfl [3, 4, 0, 1, 2] 5 (fun _ => rfl) (by decide +kernel) (fun _ => rfl) (fun _ => rfl) (fun I => fb_rV (As := []) (rest := [.int (0 : Int32)]) X hl (fb_goodV fw_2675 fw_2676 fw_2677 fw_204 fw_2678) (c_pending l D cI cJ za zr _ ) rfl rfl rfl (by decide +kernel : fb_hd yX12_pending 0) ⟨Nat.le_of_ble_eq_true rfl, Nat.le_of_ble_eq_true rfl⟩ rfl rfl rfl rfl rfl (Nat.le_of_ble_eq_true rfl) ⟨Nat.le_of_ble_eq_true rfl, Nat.le_of_ble_eq_true rfl⟩ dL_law_1548 I) ?_
  intro r2 w1 H locs e0 I
  subst e0
  have I : fb_In D (fun q : Nat => s.heap.size ≤ q) s.heap (([fb_o11 zb zt zn zv zs zp (zq 0) (zu 0) zh zst zre, fb_mw cI zq fb_s0 zw, fb_jw cJ zx 1 zg, fb_o12 za zr (upd fr_e0 19 (0 : Int32)), fb_aw cI (zr 0) 16205 (fr_m (fun _ => 0) 0)] : List va_W).flatten) H locs := I
  refine lv_icmp_eq (tgt := 2336) hx hb dL_law_1551 (by decide) (fun _ => ?_) (fun c3 => absurd rfl c3)
  exact lw_end X hX hbl hbA (by omega) I (lv_sub hl [0, 4] rfl) (Nat.le_of_ble_eq_true rfl) (Nat.le_of_ble_eq_true rfl)

set_option maxHeartbeats 4000000 in
set_option maxRecDepth 100000 in
theorem lc_38_p {p : Program} {l : Launch} {e : Env} {s : State} {m : MethodId} {below : List Frame} {meth : Method} {c : Code} {H : Heap} {locs : List Loc} {ls : Array Slot} {D : va_G} {cI cJ : ClassId} {b L : Nat} {xs : Nat → Int32} {zb : Nat} {zt : Nat} {zn : Nat} {zv : Nat} {zs : Nat} {zp : Nat} {zq : Nat → Nat} {zu : Nat → Nat} {zh : Nat} {zst : Nat} {zre : Nat} {zw : fb_AR} {zx : Nat} {zg : Nat → Int64} {za : Nat} {zr : Nat → Nat} (hst : l.stackTraces = false) (X : fb_Bx p s m #[Value.ref b] meth c cL_law RL 9 (some .boolean) D (fb_ty D cI cJ) (fun q : Nat => s.heap.size ≤ q)) (hX : va_X b L xs s s.heap) (hbl : b < s.heap.size) (hbA : ¬ (fun q : Nat => s.heap.size ≤ q) b) (hL6 : L = 6)  (I : fb_In D (fun q : Nat => s.heap.size ≤ q) s.heap (([fb_o11 zb zt zn zv zs zp (zq 0) (zu 0) zh zst zre, fb_mw cI zq fb_s0 zw, fb_jw cJ zx 1 zg, fb_o12 za zr fr_e0, fb_aw cI (zr 0) 16205 (fr_m (fun _ => 0) 0)] : List va_W).flatten) H locs) (hl : lv_has ls 9 [(4, .int (0 : Int32)), (3, .ref zx), (2, .ref za), (1, .ref zb), (0, .ref b)]) : W p l e room_1 s m #[Value.ref b] below meth c H locs 209 179241 (lw_Z below #[Value.ref b] s) (F0 m 1556 ls []) := by
  obtain ⟨hx, hb, hr, hml, hown, hts, hlk, hA, hK, hF⟩ := id X
  refine lv_aload_n hx hb dL_law_1556 rfl (lv_at hl 3 rfl) ?_
  refine fb_gO (cs := [fb_o11 zb zt zn zv zs zp (zq 0) (zu 0) zh zst zre, fb_mw cI zq fb_s0 zw]) (rs := [fb_jw cJ zx 1 zg, fb_o12 za zr fr_e0, fb_aw cI (zr 0) 16205 (fr_m (fun _ => 0) 0)]) X I [0, 1, 2, 3, 4] 5 rfl (by decide +kernel) rfl rfl (fun I => fb_rV (As := []) (rest := []) X hl (fb_goodV fw_1485 fw_1486 fw_1487 fw_191 fw_1488) (c_X11_count l D cI cJ zb zt zn zv zs zp (zu 0) zh zst zre zq fb_s0 zw _ ) rfl rfl rfl (by decide +kernel : fb_hd yX11_count 0) ⟨(Nat.le_of_ble_eq_true rfl), (Nat.le_of_ble_eq_true rfl)⟩ (rfl : vwCl[11]? = some _) rfl rfl rfl rfl (Nat.le_of_ble_eq_true rfl) ⟨(Nat.le_of_ble_eq_true rfl), (Nat.le_of_ble_eq_true rfl)⟩ dL_law_1557 I) ?_
  refine fb_tI (v := (0 : Int32)) rfl ?_
  refine lv_aload_n hx hb dL_law_1560 rfl (lv_at hl 2 rfl) ?_
  refine fb_gI (cs := [fb_o12 za zr fr_e0, fb_aw cI (zr 0) 16205 (fr_m (fun _ => 0) 0)]) (rs := [fb_o11 zb zt zn zv zs zp (zq 0) (zu 0) zh zst zre, fb_mw cI zq fb_s0 zw, fb_jw cJ zx 1 zg]) (fun (t : Unit) => [fb_o11 zb zt zn zv zs zp (zq 0) (zu 0) zh zst zre, fb_mw cI zq fb_s0 zw, fb_jw cJ zx 1 zg, fb_o12 za zr (upd fr_e0 19 (0 : Int32)), fb_aw cI (zr 0) 16205 (fr_m (fun _ => 0) 0)]) (fun (t : Unit) => [fb_o12 za zr (upd fr_e0 19 (0 : Int32)), fb_aw cI (zr 0) 16205 (fr_m (fun _ => 0) 0)]) X I [3, 4, 0, 1, 2] 5 rfl (by decide +kernel) rfl rfl [3, 4, 0, 1, 2] 5 (fun _ => rfl) (by decide +kernel) (fun _ => rfl) (fun _ => rfl) (fun I => fb_rV (As := []) (rest := [.int (0 : Int32)]) X hl (fb_goodV fw_2679 fw_2680 fw_2681 fw_204 fw_2682) (c_count l D cI cJ za zr _ ) rfl rfl rfl (by decide +kernel : fb_hd yX12_count 0) ⟨Nat.le_of_ble_eq_true rfl, Nat.le_of_ble_eq_true rfl⟩ rfl rfl rfl rfl rfl (Nat.le_of_ble_eq_true rfl) ⟨Nat.le_of_ble_eq_true rfl, Nat.le_of_ble_eq_true rfl⟩ dL_law_1561 I) ?_
  intro r2 w1 H locs e0 I
  subst e0
  have I : fb_In D (fun q : Nat => s.heap.size ≤ q) s.heap (([fb_o11 zb zt zn zv zs zp (zq 0) (zu 0) zh zst zre, fb_mw cI zq fb_s0 zw, fb_jw cJ zx 1 zg, fb_o12 za zr (upd fr_e0 19 (0 : Int32)), fb_aw cI (zr 0) 16205 (fr_m (fun _ => 0) 0)] : List va_W).flatten) H locs := I
  refine lv_icmp_eq (tgt := 2336) hx hb dL_law_1564 (by decide) (fun _ => ?_) (fun c3 => absurd rfl c3)
  exact lw_end X hX hbl hbA (by omega) I (lv_sub hl [0, 4] rfl) (Nat.le_of_ble_eq_true rfl) (Nat.le_of_ble_eq_true rfl)

set_option maxHeartbeats 4000000 in
set_option maxRecDepth 100000 in
theorem lc_39_p {p : Program} {l : Launch} {e : Env} {s : State} {m : MethodId} {below : List Frame} {meth : Method} {c : Code} {H : Heap} {locs : List Loc} {ls : Array Slot} {D : va_G} {cI cJ : ClassId} {b L : Nat} {xs : Nat → Int32} {zb : Nat} {zt : Nat} {zn : Nat} {zv : Nat} {zs : Nat} {zp : Nat} {zq : Nat → Nat} {zu : Nat → Nat} {zh : Nat} {zst : Nat} {zre : Nat} {zw : fb_AR} {zx : Nat} {zg : Nat → Int64} {za : Nat} {zr : Nat → Nat} (hst : l.stackTraces = false) (X : fb_Bx p s m #[Value.ref b] meth c cL_law RL 9 (some .boolean) D (fb_ty D cI cJ) (fun q : Nat => s.heap.size ≤ q)) (hX : va_X b L xs s s.heap) (hbl : b < s.heap.size) (hbA : ¬ (fun q : Nat => s.heap.size ≤ q) b) (hL6 : L = 6)  (I : fb_In D (fun q : Nat => s.heap.size ≤ q) s.heap (([fb_o11 zb zt zn zv zs zp (zq 0) (zu 0) zh zst zre, fb_mw cI zq fb_s0 zw, fb_jw cJ zx 1 zg, fb_o12 za zr fr_e0, fb_aw cI (zr 0) 16205 (fr_m (fun _ => 0) 0)] : List va_W).flatten) H locs) (hl : lv_has ls 9 [(4, .int (0 : Int32)), (3, .ref zx), (2, .ref za), (1, .ref zb), (0, .ref b)]) : W p l e room_1 s m #[Value.ref b] below meth c H locs 209 179241 (lw_Z below #[Value.ref b] s) (F0 m 1569 ls []) := by
  obtain ⟨hx, hb, hr, hml, hown, hts, hlk, hA, hK, hF⟩ := id X
  refine lv_aload_n hx hb dL_law_1569 rfl (lv_at hl 3 rfl) ?_
  refine fb_gO (cs := [fb_o11 zb zt zn zv zs zp (zq 0) (zu 0) zh zst zre, fb_mw cI zq fb_s0 zw]) (rs := [fb_jw cJ zx 1 zg, fb_o12 za zr fr_e0, fb_aw cI (zr 0) 16205 (fr_m (fun _ => 0) 0)]) X I [0, 1, 2, 3, 4] 5 rfl (by decide +kernel) rfl rfl (fun I => fb_rV (As := []) (rest := []) X hl (fb_goodV fw_1489 fw_1490 fw_1491 fw_191 fw_1492) (c_X11_inputs l D cI cJ zb zt zn zv zs zp (zu 0) zh zst zre zq fb_s0 zw _ ) rfl rfl rfl (by decide +kernel : fb_hd yX11_inputs 0) ⟨(Nat.le_of_ble_eq_true rfl), (Nat.le_of_ble_eq_true rfl)⟩ (rfl : vwCl[11]? = some _) rfl rfl rfl rfl (Nat.le_of_ble_eq_true rfl) ⟨(Nat.le_of_ble_eq_true rfl), (Nat.le_of_ble_eq_true rfl)⟩ dL_law_1570 I) ?_
  refine fb_tI (v := (0 : Int32)) rfl ?_
  refine lv_aload_n hx hb dL_law_1573 rfl (lv_at hl 2 rfl) ?_
  refine fb_gI (cs := [fb_o12 za zr fr_e0, fb_aw cI (zr 0) 16205 (fr_m (fun _ => 0) 0)]) (rs := [fb_o11 zb zt zn zv zs zp (zq 0) (zu 0) zh zst zre, fb_mw cI zq fb_s0 zw, fb_jw cJ zx 1 zg]) (fun (t : Unit) => [fb_o11 zb zt zn zv zs zp (zq 0) (zu 0) zh zst zre, fb_mw cI zq fb_s0 zw, fb_jw cJ zx 1 zg, fb_o12 za zr (upd fr_e0 19 (0 : Int32)), fb_aw cI (zr 0) 16205 (fr_m (fun _ => 0) 0)]) (fun (t : Unit) => [fb_o12 za zr (upd fr_e0 19 (0 : Int32)), fb_aw cI (zr 0) 16205 (fr_m (fun _ => 0) 0)]) X I [3, 4, 0, 1, 2] 5 rfl (by decide +kernel) rfl rfl [3, 4, 0, 1, 2] 5 (fun _ => rfl) (by decide +kernel) (fun _ => rfl) (fun _ => rfl) (fun I => fb_rV (As := []) (rest := [.int (0 : Int32)]) X hl (fb_goodV fw_2683 fw_2684 fw_2685 fw_204 fw_2686) (c_inputs l D cI cJ za zr _ ) rfl rfl rfl (by decide +kernel : fb_hd yX12_inputs 0) ⟨Nat.le_of_ble_eq_true rfl, Nat.le_of_ble_eq_true rfl⟩ rfl rfl rfl rfl rfl (Nat.le_of_ble_eq_true rfl) ⟨Nat.le_of_ble_eq_true rfl, Nat.le_of_ble_eq_true rfl⟩ dL_law_1574 I) ?_
  intro r2 w1 H locs e0 I
  subst e0
  have I : fb_In D (fun q : Nat => s.heap.size ≤ q) s.heap (([fb_o11 zb zt zn zv zs zp (zq 0) (zu 0) zh zst zre, fb_mw cI zq fb_s0 zw, fb_jw cJ zx 1 zg, fb_o12 za zr (upd fr_e0 19 (0 : Int32)), fb_aw cI (zr 0) 16205 (fr_m (fun _ => 0) 0)] : List va_W).flatten) H locs := I
  refine lv_icmp_eq (tgt := 2336) hx hb dL_law_1577 (by decide) (fun _ => ?_) (fun c3 => absurd rfl c3)
  exact lw_end X hX hbl hbA (by omega) I (lv_sub hl [0, 4] rfl) (Nat.le_of_ble_eq_true rfl) (Nat.le_of_ble_eq_true rfl)

set_option maxHeartbeats 4000000 in
set_option maxRecDepth 100000 in
theorem lc_40_p {p : Program} {l : Launch} {e : Env} {s : State} {m : MethodId} {below : List Frame} {meth : Method} {c : Code} {H : Heap} {locs : List Loc} {ls : Array Slot} {D : va_G} {cI cJ : ClassId} {b L : Nat} {xs : Nat → Int32} {zb : Nat} {zt : Nat} {zn : Nat} {zv : Nat} {zs : Nat} {zp : Nat} {zq : Nat → Nat} {zu : Nat → Nat} {zh : Nat} {zst : Nat} {zre : Nat} {zw : fb_AR} {zx : Nat} {zg : Nat → Int64} {za : Nat} {zr : Nat → Nat} (hst : l.stackTraces = false) (X : fb_Bx p s m #[Value.ref b] meth c cL_law RL 9 (some .boolean) D (fb_ty D cI cJ) (fun q : Nat => s.heap.size ≤ q)) (hX : va_X b L xs s s.heap) (hbl : b < s.heap.size) (hbA : ¬ (fun q : Nat => s.heap.size ≤ q) b) (hL6 : L = 6)  (I : fb_In D (fun q : Nat => s.heap.size ≤ q) s.heap (([fb_o11 zb zt zn zv zs zp (zq 0) (zu 0) zh zst zre, fb_mw cI zq fb_s0 zw, fb_jw cJ zx 1 zg, fb_o12 za zr fr_e0, fb_aw cI (zr 0) 16205 (fr_m (fun _ => 0) 0)] : List va_W).flatten) H locs) (hl : lv_has ls 9 [(4, .int (0 : Int32)), (3, .ref zx), (2, .ref za), (1, .ref zb), (0, .ref b)]) : W p l e room_1 s m #[Value.ref b] below meth c H locs 209 179241 (lw_Z below #[Value.ref b] s) (F0 m 1582 ls []) := by
  obtain ⟨hx, hb, hr, hml, hown, hts, hlk, hA, hK, hF⟩ := id X
  refine lv_aload_n hx hb dL_law_1582 rfl (lv_at hl 3 rfl) ?_
  refine fb_gO (cs := [fb_o11 zb zt zn zv zs zp (zq 0) (zu 0) zh zst zre, fb_mw cI zq fb_s0 zw]) (rs := [fb_jw cJ zx 1 zg, fb_o12 za zr fr_e0, fb_aw cI (zr 0) 16205 (fr_m (fun _ => 0) 0)]) X I [0, 1, 2, 3, 4] 5 rfl (by decide +kernel) rfl rfl (fun I => fb_rV (As := []) (rest := []) X hl (fb_goodV fw_1493 fw_1494 fw_1495 fw_191 fw_1496) (c_X11_outputs l D cI cJ zb zt zn zv zs zp (zu 0) zh zst zre zq fb_s0 zw _ ) rfl rfl rfl (by decide +kernel : fb_hd yX11_outputs 0) ⟨(Nat.le_of_ble_eq_true rfl), (Nat.le_of_ble_eq_true rfl)⟩ (rfl : vwCl[11]? = some _) rfl rfl rfl rfl (Nat.le_of_ble_eq_true rfl) ⟨(Nat.le_of_ble_eq_true rfl), (Nat.le_of_ble_eq_true rfl)⟩ dL_law_1583 I) ?_
  refine fb_tI (v := (0 : Int32)) rfl ?_
  refine lv_aload_n hx hb dL_law_1586 rfl (lv_at hl 2 rfl) ?_
  refine fb_gI (cs := [fb_o12 za zr fr_e0, fb_aw cI (zr 0) 16205 (fr_m (fun _ => 0) 0)]) (rs := [fb_o11 zb zt zn zv zs zp (zq 0) (zu 0) zh zst zre, fb_mw cI zq fb_s0 zw, fb_jw cJ zx 1 zg]) (fun (t : Unit) => [fb_o11 zb zt zn zv zs zp (zq 0) (zu 0) zh zst zre, fb_mw cI zq fb_s0 zw, fb_jw cJ zx 1 zg, fb_o12 za zr (upd fr_e0 19 (0 : Int32)), fb_aw cI (zr 0) 16205 (fr_m (fun _ => 0) 0)]) (fun (t : Unit) => [fb_o12 za zr (upd fr_e0 19 (0 : Int32)), fb_aw cI (zr 0) 16205 (fr_m (fun _ => 0) 0)]) X I [3, 4, 0, 1, 2] 5 rfl (by decide +kernel) rfl rfl [3, 4, 0, 1, 2] 5 (fun _ => rfl) (by decide +kernel) (fun _ => rfl) (fun _ => rfl) (fun I => fb_rV (As := []) (rest := [.int (0 : Int32)]) X hl (fb_goodV fw_2687 fw_2688 fw_2689 fw_204 fw_2690) (c_outputs l D cI cJ za zr _ ) rfl rfl rfl (by decide +kernel : fb_hd yX12_outputs 0) ⟨Nat.le_of_ble_eq_true rfl, Nat.le_of_ble_eq_true rfl⟩ rfl rfl rfl rfl rfl (Nat.le_of_ble_eq_true rfl) ⟨Nat.le_of_ble_eq_true rfl, Nat.le_of_ble_eq_true rfl⟩ dL_law_1587 I) ?_
  intro r2 w1 H locs e0 I
  subst e0
  have I : fb_In D (fun q : Nat => s.heap.size ≤ q) s.heap (([fb_o11 zb zt zn zv zs zp (zq 0) (zu 0) zh zst zre, fb_mw cI zq fb_s0 zw, fb_jw cJ zx 1 zg, fb_o12 za zr (upd fr_e0 19 (0 : Int32)), fb_aw cI (zr 0) 16205 (fr_m (fun _ => 0) 0)] : List va_W).flatten) H locs := I
  refine lv_icmp_eq (tgt := 2336) hx hb dL_law_1590 (by decide) (fun _ => ?_) (fun c3 => absurd rfl c3)
  exact lw_end X hX hbl hbA (by omega) I (lv_sub hl [0, 4] rfl) (Nat.le_of_ble_eq_true rfl) (Nat.le_of_ble_eq_true rfl)

set_option maxHeartbeats 4000000 in
set_option maxRecDepth 100000 in
theorem lc_42_p {p : Program} {l : Launch} {e : Env} {s : State} {m : MethodId} {below : List Frame} {meth : Method} {c : Code} {H : Heap} {locs : List Loc} {ls : Array Slot} {D : va_G} {cI cJ : ClassId} {b L : Nat} {xs : Nat → Int32} {zb : Nat} {zt : Nat} {zn : Nat} {zv : Nat} {zs : Nat} {zp : Nat} {zq : Nat → Nat} {zu : Nat → Nat} {zh : Nat} {zst : Nat} {zre : Nat} {zw : fb_AR} {zx : Nat} {zg : Nat → Int64} {za : Nat} {zr : Nat → Nat} (hst : l.stackTraces = false) (X : fb_Bx p s m #[Value.ref b] meth c cL_law RL 9 (some .boolean) D (fb_ty D cI cJ) (fun q : Nat => s.heap.size ≤ q)) (hX : va_X b L xs s s.heap) (hbl : b < s.heap.size) (hbA : ¬ (fun q : Nat => s.heap.size ≤ q) b) (hL6 : L = 6)  (I : fb_In D (fun q : Nat => s.heap.size ≤ q) s.heap (([fb_o11 zb zt zn zv zs zp (zq 0) (zu 0) zh zst zre, fb_mw cI zq fb_s0 zw, fb_jw cJ zx 1 zg, fb_o12 za zr fr_e0, fb_aw cI (zr 0) 16205 (fr_m (fun _ => 0) 0)] : List va_W).flatten) H locs) (hl : lv_has ls 9 [(4, .int (0 : Int32)), (3, .ref zx), (2, .ref za), (1, .ref zb), (0, .ref b)]) : W p l e room_1 s m #[Value.ref b] below meth c H locs 209 179241 (lw_Z below #[Value.ref b] s) (F0 m 1651 ls []) := by
  obtain ⟨hx, hb, hr, hml, hown, hts, hlk, hA, hK, hF⟩ := id X
  refine lv_aload_n hx hb dL_law_1651 rfl (lv_at hl 3 rfl) ?_
  refine fb_gO (cs := [fb_o11 zb zt zn zv zs zp (zq 0) (zu 0) zh zst zre, fb_mw cI zq fb_s0 zw]) (rs := [fb_jw cJ zx 1 zg, fb_o12 za zr fr_e0, fb_aw cI (zr 0) 16205 (fr_m (fun _ => 0) 0)]) X I [0, 1, 2, 3, 4] 5 rfl (by decide +kernel) rfl rfl (fun I => fb_rV (As := []) (rest := []) X hl (fb_goodV fw_1497 fw_1498 fw_1499 fw_191 fw_1500) (c_X11_calls l D cI cJ zb zt zn zv zs zp (zu 0) zh zst zre zq fb_s0 zw _ ) rfl rfl rfl (by decide +kernel : fb_hd yX11_calls 0) ⟨(Nat.le_of_ble_eq_true rfl), (Nat.le_of_ble_eq_true rfl)⟩ (rfl : vwCl[11]? = some _) rfl rfl rfl rfl (Nat.le_of_ble_eq_true rfl) ⟨(Nat.le_of_ble_eq_true rfl), (Nat.le_of_ble_eq_true rfl)⟩ dL_law_1652 I) ?_
  refine fb_tI (v := (0 : Int32)) rfl ?_
  refine lv_aload_n hx hb dL_law_1655 rfl (lv_at hl 2 rfl) ?_
  refine fb_gI (cs := [fb_o12 za zr fr_e0, fb_aw cI (zr 0) 16205 (fr_m (fun _ => 0) 0)]) (rs := [fb_o11 zb zt zn zv zs zp (zq 0) (zu 0) zh zst zre, fb_mw cI zq fb_s0 zw, fb_jw cJ zx 1 zg]) (fun (t : Unit) => [fb_o11 zb zt zn zv zs zp (zq 0) (zu 0) zh zst zre, fb_mw cI zq fb_s0 zw, fb_jw cJ zx 1 zg, fb_o12 za zr (upd fr_e0 19 (0 : Int32)), fb_aw cI (zr 0) 16205 (fr_m (fun _ => 0) 0)]) (fun (t : Unit) => [fb_o12 za zr (upd fr_e0 19 (0 : Int32)), fb_aw cI (zr 0) 16205 (fr_m (fun _ => 0) 0)]) X I [3, 4, 0, 1, 2] 5 rfl (by decide +kernel) rfl rfl [3, 4, 0, 1, 2] 5 (fun _ => rfl) (by decide +kernel) (fun _ => rfl) (fun _ => rfl) (fun I => fb_rV (As := []) (rest := [.int (0 : Int32)]) X hl (fb_goodV fw_2699 fw_2700 fw_2701 fw_204 fw_2702) (c_calls l D cI cJ za zr _ ) rfl rfl rfl (by decide +kernel : fb_hd yX12_calls 0) ⟨Nat.le_of_ble_eq_true rfl, Nat.le_of_ble_eq_true rfl⟩ rfl rfl rfl rfl rfl (Nat.le_of_ble_eq_true rfl) ⟨Nat.le_of_ble_eq_true rfl, Nat.le_of_ble_eq_true rfl⟩ dL_law_1656 I) ?_
  intro r2 w1 H locs e0 I
  subst e0
  have I : fb_In D (fun q : Nat => s.heap.size ≤ q) s.heap (([fb_o11 zb zt zn zv zs zp (zq 0) (zu 0) zh zst zre, fb_mw cI zq fb_s0 zw, fb_jw cJ zx 1 zg, fb_o12 za zr (upd fr_e0 19 (0 : Int32)), fb_aw cI (zr 0) 16205 (fr_m (fun _ => 0) 0)] : List va_W).flatten) H locs := I
  refine lv_icmp_eq (tgt := 2336) hx hb dL_law_1659 (by decide) (fun _ => ?_) (fun c3 => absurd rfl c3)
  exact lw_end X hX hbl hbA (by omega) I (lv_sub hl [0, 4] rfl) (Nat.le_of_ble_eq_true rfl) (Nat.le_of_ble_eq_true rfl)

set_option maxHeartbeats 4000000 in
set_option maxRecDepth 100000 in
theorem lc_45_p {p : Program} {l : Launch} {e : Env} {s : State} {m : MethodId} {below : List Frame} {meth : Method} {c : Code} {H : Heap} {locs : List Loc} {ls : Array Slot} {D : va_G} {cI cJ : ClassId} {b L : Nat} {xs : Nat → Int32} {zb : Nat} {zt : Nat} {zn : Nat} {zv : Nat} {zs : Nat} {zp : Nat} {zq : Nat → Nat} {zu : Nat → Nat} {zh : Nat} {zst : Nat} {zre : Nat} {zw : fb_AR} {zx : Nat} {zg : Nat → Int64} {za : Nat} {zr : Nat → Nat} (hst : l.stackTraces = false) (X : fb_Bx p s m #[Value.ref b] meth c cL_law RL 9 (some .boolean) D (fb_ty D cI cJ) (fun q : Nat => s.heap.size ≤ q)) (hX : va_X b L xs s s.heap) (hbl : b < s.heap.size) (hbA : ¬ (fun q : Nat => s.heap.size ≤ q) b) (hL6 : L = 6)  (I : fb_In D (fun q : Nat => s.heap.size ≤ q) s.heap (([fb_o11 zb zt zn zv zs zp (zq 0) (zu 0) zh zst zre, fb_mw cI zq fb_s0 zw, fb_jw cJ zx 1 zg, fb_o12 za zr fr_e0, fb_aw cI (zr 0) 16205 (fr_m (fun _ => 0) 0)] : List va_W).flatten) H locs) (hl : lv_has ls 9 [(4, .int (0 : Int32)), (3, .ref zx), (2, .ref za), (1, .ref zb), (0, .ref b)]) : W p l e room_1 s m #[Value.ref b] below meth c H locs 209 179241 (lw_Z below #[Value.ref b] s) (F0 m 1776 ls []) := by
  obtain ⟨hx, hb, hr, hml, hown, hts, hlk, hA, hK, hF⟩ := id X
  refine lv_aload_n hx hb dL_law_1776 rfl (lv_at hl 3 rfl) ?_
  refine fb_gO (cs := [fb_o11 zb zt zn zv zs zp (zq 0) (zu 0) zh zst zre, fb_mw cI zq fb_s0 zw]) (rs := [fb_jw cJ zx 1 zg, fb_o12 za zr fr_e0, fb_aw cI (zr 0) 16205 (fr_m (fun _ => 0) 0)]) X I [0, 1, 2, 3, 4] 5 rfl (by decide +kernel) rfl rfl (fun I => fb_rV (As := []) (rest := []) X hl (fb_goodV fw_1501 fw_1502 fw_1503 fw_191 fw_1504) (c_X11_hottest l D cI cJ zb zt zn zv zs zp (zu 0) zh zst zre zq fb_s0 zw _ ) rfl rfl rfl (by decide +kernel : fb_hd yX11_hottest 0) ⟨(Nat.le_of_ble_eq_true rfl), (Nat.le_of_ble_eq_true rfl)⟩ (rfl : vwCl[11]? = some _) rfl rfl rfl rfl (Nat.le_of_ble_eq_true rfl) ⟨(Nat.le_of_ble_eq_true rfl), (Nat.le_of_ble_eq_true rfl)⟩ dL_law_1777 I) ?_
  refine fb_tI (v := (-1 : Int32)) a_hottest ?_
  refine lv_aload_n hx hb dL_law_1780 rfl (lv_at hl 2 rfl) ?_
  refine fb_gI (cs := [fb_o12 za zr fr_e0, fb_aw cI (zr 0) 16205 (fr_m (fun _ => 0) 0)]) (rs := [fb_o11 zb zt zn zv zs zp (zq 0) (zu 0) zh zst zre, fb_mw cI zq fb_s0 zw, fb_jw cJ zx 1 zg]) (fun (t : Unit) => [fb_o11 zb zt zn zv zs zp (zq 0) (zu 0) zh zst zre, fb_mw cI zq fb_s0 zw, fb_jw cJ zx 1 zg, fb_o12 za zr (upd fr_e0 19 (0 : Int32)), fb_aw cI (zr 0) 16205 (fr_m (fun _ => 0) 0)]) (fun (t : Unit) => [fb_o12 za zr (upd fr_e0 19 (0 : Int32)), fb_aw cI (zr 0) 16205 (fr_m (fun _ => 0) 0)]) X I [3, 4, 0, 1, 2] 5 rfl (by decide +kernel) rfl rfl [3, 4, 0, 1, 2] 5 (fun _ => rfl) (by decide +kernel) (fun _ => rfl) (fun _ => rfl) (fun I => fb_rV (As := []) (rest := [.int (-1 : Int32)]) X hl (fb_goodV fw_2711 fw_2712 fw_2713 fw_204 fw_2714) (c_hottest l D cI cJ za zr _ ) rfl rfl rfl (by decide +kernel : fb_hd yX12_hottest 0) ⟨Nat.le_of_ble_eq_true rfl, Nat.le_of_ble_eq_true rfl⟩ rfl rfl rfl rfl rfl (Nat.le_of_ble_eq_true rfl) ⟨Nat.le_of_ble_eq_true rfl, Nat.le_of_ble_eq_true rfl⟩ dL_law_1781 I) ?_
  intro r2 w1 H locs e0 I
  subst e0
  have I : fb_In D (fun q : Nat => s.heap.size ≤ q) s.heap (([fb_o11 zb zt zn zv zs zp (zq 0) (zu 0) zh zst zre, fb_mw cI zq fb_s0 zw, fb_jw cJ zx 1 zg, fb_o12 za zr (upd fr_e0 19 (0 : Int32)), fb_aw cI (zr 0) 16205 (fr_m (fun _ => 0) 0)] : List va_W).flatten) H locs := I
  refine lv_icmp_eq (tgt := 2336) hx hb dL_law_1784 (by decide) (fun _ => ?_) (fun c3 => absurd rfl c3)
  exact lw_end X hX hbl hbA (by omega) I (lv_sub hl [0, 4] rfl) (Nat.le_of_ble_eq_true rfl) (Nat.le_of_ble_eq_true rfl)

set_option maxHeartbeats 4000000 in
set_option maxRecDepth 100000 in
theorem lc_54_p {p : Program} {l : Launch} {e : Env} {s : State} {m : MethodId} {below : List Frame} {meth : Method} {c : Code} {H : Heap} {locs : List Loc} {ls : Array Slot} {D : va_G} {cI cJ : ClassId} {b L : Nat} {xs : Nat → Int32} {zb : Nat} {zt : Nat} {zn : Nat} {zv : Nat} {zs : Nat} {zp : Nat} {zq : Nat → Nat} {zu : Nat → Nat} {zh : Nat} {zst : Nat} {zre : Nat} {zw : fb_AR} {zac : Nat} {zab : Nat} {zao : Nat} {zx : Nat} {zg : Nat → Int64} {za : Nat} {zr : Nat → Nat} (hst : l.stackTraces = false) (X : fb_Bx p s m #[Value.ref b] meth c cL_law RL 9 (some .boolean) D (fb_ty D cI cJ) (fun q : Nat => s.heap.size ≤ q)) (hX : va_X b L xs s s.heap) (hbl : b < s.heap.size) (hbA : ¬ (fun q : Nat => s.heap.size ≤ q) b) (hL6 : L = 6)  (I : fb_In D (fun q : Nat => s.heap.size ≤ q) s.heap (([fb_o11 zb zt zn zv zs zp (zq 0) (zu 0) zh zst zre, fb_mw cI zq fb_s0 zw, fb_o6 zre zac zab zao (fun _ => 0), fb_aw cI zac 4096 (fun _ => 0), fb_aw cI zab 4096 (fun _ => 0), fb_aw cI zao 4096 (fun _ => 0), fb_jw cJ zx 1 zg, fb_o12 za zr fr_e0, fb_aw cI (zr 0) 16205 (fr_m (fun _ => 0) 0)] : List va_W).flatten) H locs) (hl : lv_has ls 9 [(4, .int (0 : Int32)), (3, .ref zx), (2, .ref za), (1, .ref zb), (0, .ref b)]) : W p l e room_1 s m #[Value.ref b] below meth c H locs 209 179241 (lw_Z below #[Value.ref b] s) (F0 m 2268 ls []) := by
  obtain ⟨hx, hb, hr, hml, hown, hts, hlk, hA, hK, hF⟩ := id X
  refine lv_aload_n hx hb dL_law_2268 rfl (lv_at hl 3 rfl) ?_
  refine fb_gIx (cs := [fb_o11 zb zt zn zv zs zp (zq 0) (zu 0) zh zst zre, fb_mw cI zq fb_s0 zw, fb_o6 zre zac zab zao (fun _ => 0), fb_aw cI zac 4096 (fun _ => 0), fb_aw cI zab 4096 (fun _ => 0), fb_aw cI zao 4096 (fun _ => 0)]) (rs := [fb_jw cJ zx 1 zg, fb_o12 za zr fr_e0, fb_aw cI (zr 0) 16205 (fr_m (fun _ => 0) 0)]) X I [0, 1, 2, 3, 4, 5, 6, 7, 8] 9 rfl (by decide +kernel) rfl rfl (fun I => fb_rV (As := []) (rest := []) X hl (fb_goodV fw_1509 fw_1510 fw_1511 fw_191 fw_1512) (c_X11_codes l D cI cJ zb zt zn zv zs zp (zu 0) zh zst zre zq fb_s0 zw zac zab zao (fun _ => 0) (fun _ => 0) (fun _ => 0) (fun _ => 0) _ ) rfl rfl rfl (by decide +kernel : fb_hd yX11_codes 0) ⟨(Nat.le_of_ble_eq_true rfl), (Nat.le_of_ble_eq_true rfl)⟩ (rfl : vwCl[11]? = some _) rfl rfl rfl rfl (Nat.le_of_ble_eq_true rfl) ⟨(Nat.le_of_ble_eq_true rfl), (Nat.le_of_ble_eq_true rfl)⟩ dL_law_2269 I) ?_
  intro r u H locs e0 I
  have e0 : r = (nI 4096) := e0.trans (a_codes _ _ _ _)
  subst e0
  refine lv_aload_n hx hb dL_law_2272 rfl (lv_at hl 2 rfl) ?_
  refine fb_gI (cs := [fb_o12 za zr fr_e0, fb_aw cI (zr 0) 16205 (fr_m (fun _ => 0) 0)]) (rs := [fb_jw cJ zx 1 zg]) (fun (t : Unit) => [fb_jw cJ zx 1 zg, fb_o12 za zr (upd fr_e0 19 (0 : Int32)), fb_aw cI (zr 0) 16205 (fr_m (fun _ => 0) 0)]) (fun (t : Unit) => [fb_o12 za zr (upd fr_e0 19 (0 : Int32)), fb_aw cI (zr 0) 16205 (fr_m (fun _ => 0) 0)]) X I [1, 2, 0] 3 rfl (by decide +kernel) rfl rfl [1, 2, 0] 3 (fun _ => rfl) (by decide +kernel) (fun _ => rfl) (fun _ => rfl) (fun I => fb_rV (As := []) (rest := [.int (nI 4096)]) X hl (fb_goodV fw_2771 fw_2772 fw_2773 fw_204 fw_2774) (c_codes l D cI cJ za zr _ ) rfl rfl rfl (by decide +kernel : fb_hd yX12_codes 0) ⟨Nat.le_of_ble_eq_true rfl, Nat.le_of_ble_eq_true rfl⟩ rfl rfl rfl rfl rfl (Nat.le_of_ble_eq_true rfl) ⟨Nat.le_of_ble_eq_true rfl, Nat.le_of_ble_eq_true rfl⟩ dL_law_2273 I) ?_
  intro r2 w1 H locs e0 I
  subst e0
  have I : fb_In D (fun q : Nat => s.heap.size ≤ q) s.heap (([fb_jw cJ zx 1 zg, fb_o12 za zr (upd fr_e0 19 (0 : Int32)), fb_aw cI (zr 0) 16205 (fr_m (fun _ => 0) 0)] : List va_W).flatten) H locs := I
  refine lv_icmp_eq (tgt := 2336) hx hb dL_law_2276 (by decide) (fun _ => ?_) (fun c3 => absurd rfl c3)
  exact lw_end X hX hbl hbA (by omega) I (lv_sub hl [0, 4] rfl) (Nat.le_of_ble_eq_true rfl) (Nat.le_of_ble_eq_true rfl)

set_option maxHeartbeats 4000000 in
set_option maxRecDepth 100000 in
theorem lc_56_p {p : Program} {l : Launch} {e : Env} {s : State} {m : MethodId} {below : List Frame} {meth : Method} {c : Code} {H : Heap} {locs : List Loc} {ls : Array Slot} {D : va_G} {cI cJ : ClassId} {b L : Nat} {xs : Nat → Int32} {zb : Nat} {zt : Nat} {zn : Nat} {zv : Nat} {zs : Nat} {zp : Nat} {zq : Nat → Nat} {zu : Nat → Nat} {zh : Nat} {zst : Nat} {zre : Nat} {zw : fb_AR} {zac : Nat} {zab : Nat} {zao : Nat} {zb0 : Nat} {zb1 : Nat} {zb3 : Nat} {zb4 : Nat} {zb5 : Nat} {zo : Nat → Nat} {zi : Nat → Nat} {zn0 : Nat} {zn1 : Nat} {zn3 : Nat} {zx : Nat} {zg : Nat → Int64} {za : Nat} {zr : Nat → Nat} (hst : l.stackTraces = false) (X : fb_Bx p s m #[Value.ref b] meth c cL_law RL 9 (some .boolean) D (fb_ty D cI cJ) (fun q : Nat => s.heap.size ≤ q)) (hX : va_X b L xs s s.heap) (hbl : b < s.heap.size) (hbA : ¬ (fun q : Nat => s.heap.size ≤ q) b) (hL6 : L = 6)  (I : fb_In D (fun q : Nat => s.heap.size ≤ q) s.heap (([fb_o11 zb zt zn zv zs zp (zq 0) (zu 0) zh zst zre, fb_mw cI zq fb_s0 zw, fb_o6 zre zac zab zao (fun _ => 0), fb_aw cI zac 4096 (fun _ => 0), fb_aw cI zab 4096 (fun _ => 0), fb_aw cI zao 4096 (fun _ => 0), fb_o7 zst zb0 zb1 zb3 zb4 zb5 (fun _ => 0), fb_o0 zh (zo 0) (zi 0) fb_h0, fb_o3 zn zn0 zn1 zn3 (fun _ => 0), fb_aw cI zn3 120 (fun _ => 0), fb_jw cJ zx 1 zg, fb_o12 za zr fr_e0, fb_aw cI (zr 0) 16205 (fr_m (fun _ => 0) 0)] : List va_W).flatten) H locs) (hl : lv_has ls 9 [(4, .int (0 : Int32)), (3, .ref zx), (2, .ref za), (1, .ref zb), (0, .ref b)]) : W p l e room_1 s m #[Value.ref b] below meth c H locs 209 179241 (lw_Z below #[Value.ref b] s) (F0 m 2322 ls []) := by
  obtain ⟨hx, hb, hr, hml, hown, hts, hlk, hA, hK, hF⟩ := id X
  refine lv_aload_n hx hb dL_law_2322 rfl (lv_at hl 3 rfl) ?_
  refine fb_gLx (cs := [fb_o11 zb zt zn zv zs zp (zq 0) (zu 0) zh zst zre, fb_mw cI zq fb_s0 zw, fb_o6 zre zac zab zao (fun _ => 0), fb_aw cI zac 4096 (fun _ => 0), fb_aw cI zab 4096 (fun _ => 0), fb_aw cI zao 4096 (fun _ => 0), fb_o7 zst zb0 zb1 zb3 zb4 zb5 (fun _ => 0), fb_o0 zh (zo 0) (zi 0) fb_h0, fb_o3 zn zn0 zn1 zn3 (fun _ => 0), fb_aw cI zn3 120 (fun _ => 0)]) (rs := [fb_jw cJ zx 1 zg, fb_o12 za zr fr_e0, fb_aw cI (zr 0) 16205 (fr_m (fun _ => 0) 0)]) X I [0, 1, 2, 3, 4, 5, 6, 7, 8, 9, 10, 11, 12] 13 rfl (by decide +kernel) rfl rfl (fun I => fb_rV (As := []) (rest := []) X hl (fb_goodV fw_1543 fw_1544 fw_1545 fw_191 fw_1546) (c_X11_digest l D cI cJ zb zt zn zv zs zp (zu 0) zh zst zre zq fb_s0 zw zac zab zao (fun _ => 0) (fun _ => 0) (fun _ => 0) (fun _ => 0) zb0 zb1 zb3 zb4 zb5 (fun _ => 0) (zo 0) (zi 0) fb_h0 zn0 zn1 zn3 (fun _ => 0) (fun _ => 0) _ ) rfl rfl rfl (by decide +kernel : fb_hd yX11_digest 0) ⟨(Nat.le_of_ble_eq_true rfl), (Nat.le_of_ble_eq_true rfl)⟩ (rfl : vwCl[11]? = some _) rfl rfl rfl rfl (Nat.le_of_ble_eq_true rfl) ⟨(Nat.le_of_ble_eq_true rfl), (Nat.le_of_ble_eq_true rfl)⟩ dL_law_2323 I) ?_
  intro r u H locs e0 I
  have e0 : r = (fr_dg (f_X12_add_ (f_X12_add_ (f_X12_add_ (f_X12_add_ (f_X12_add_ (f_X12_add_ (f_X12_add_ (f_X12_add_ (f_X12_add_ (f_X12_add_ (f_X12_add_ (f_X12_add_ (f_X12_add_ (f_X12_add_ (f_X12_add_ (f_X12_add_ (f_X12_add_ (f_X12_add_ (f_X12_add_ (f_X12_add_ (58008 : Int64) (((0 : Int32)).toInt64)) (((0 : Int32)).toInt64)) (((255 : Int32)).toInt64)) (((4 : Int32)).toInt64)) (((0 : Int32)).toInt64)) (((0 : Int32)).toInt64)) (((0 : Int32)).toInt64)) (((0 : Int32)).toInt64)) (((0 : Int32)).toInt64)) (((0 : Int32)).toInt64)) (((0 : Int32)).toInt64)) (((0 : Int32)).toInt64)) (((0 : Int32)).toInt64)) (((0 : Int32)).toInt64)) (((0 : Int32)).toInt64)) (((0 : Int32)).toInt64)) (((0 : Int32)).toInt64)) (((0 : Int32)).toInt64)) (((-1 : Int32)).toInt64)) (((nI 4096)).toInt64)) 11008) := e0.trans (a_digest _ _ _ _)
  subst e0
  refine lv_aload_n hx hb dL_law_2326 rfl (lv_at hl 2 rfl) ?_
  refine fb_gL (cs := [fb_o12 za zr fr_e0, fb_aw cI (zr 0) 16205 (fr_m (fun _ => 0) 0)]) (rs := [fb_jw cJ zx 1 zg]) (fun (t : Unit) => [fb_jw cJ zx 1 zg, fb_o12 za zr (upd fr_e0 19 (0 : Int32)), fb_aw cI (zr 0) 16205 (fr_m (fun _ => 0) 0)]) (fun (t : Unit) => [fb_o12 za zr (upd fr_e0 19 (0 : Int32)), fb_aw cI (zr 0) 16205 (fr_m (fun _ => 0) 0)]) X I [1, 2, 0] 3 rfl (by decide +kernel) rfl rfl [1, 2, 0] 3 (fun _ => rfl) (by decide +kernel) (fun _ => rfl) (fun _ => rfl) (fun I => fb_rV (As := []) (rest := [.long (fr_dg (f_X12_add_ (f_X12_add_ (f_X12_add_ (f_X12_add_ (f_X12_add_ (f_X12_add_ (f_X12_add_ (f_X12_add_ (f_X12_add_ (f_X12_add_ (f_X12_add_ (f_X12_add_ (f_X12_add_ (f_X12_add_ (f_X12_add_ (f_X12_add_ (f_X12_add_ (f_X12_add_ (f_X12_add_ (f_X12_add_ (58008 : Int64) (((0 : Int32)).toInt64)) (((0 : Int32)).toInt64)) (((255 : Int32)).toInt64)) (((4 : Int32)).toInt64)) (((0 : Int32)).toInt64)) (((0 : Int32)).toInt64)) (((0 : Int32)).toInt64)) (((0 : Int32)).toInt64)) (((0 : Int32)).toInt64)) (((0 : Int32)).toInt64)) (((0 : Int32)).toInt64)) (((0 : Int32)).toInt64)) (((0 : Int32)).toInt64)) (((0 : Int32)).toInt64)) (((0 : Int32)).toInt64)) (((0 : Int32)).toInt64)) (((0 : Int32)).toInt64)) (((0 : Int32)).toInt64)) (((-1 : Int32)).toInt64)) (((nI 4096)).toInt64)) 11008)]) X hl (fb_goodV fw_2783 fw_2784 fw_2785 fw_204 fw_2786) (c_digest l D cI cJ za zr _ ) rfl rfl rfl (by decide +kernel : fb_hd yX12_digest 0) ⟨Nat.le_of_ble_eq_true rfl, Nat.le_of_ble_eq_true rfl⟩ rfl rfl rfl rfl rfl (Nat.le_of_ble_eq_true rfl) ⟨Nat.le_of_ble_eq_true rfl, Nat.le_of_ble_eq_true rfl⟩ dL_law_2327 I) ?_
  intro r2 w1 H locs e0 I
  subst e0
  have I : fb_In D (fun q : Nat => s.heap.size ≤ q) s.heap (([fb_jw cJ zx 1 zg, fb_o12 za zr (upd fr_e0 19 (0 : Int32)), fb_aw cI (zr 0) 16205 (fr_m (fun _ => 0) 0)] : List va_W).flatten) H locs := I
  refine W.lcmp hx hb dL_law_2330 ?_
  refine fb_tI (v := (0 : Int32)) (lw_cmp0 _) ?_
  refine lv_if_eq (tgt := 2336) hx hb dL_law_2331 (by decide) (fun _ => ?_) (fun c3 => absurd (by decide) c3)
  exact lw_end X hX hbl hbA (by omega) I (lv_sub hl [0, 4] rfl) (Nat.le_of_ble_eq_true rfl) (Nat.le_of_ble_eq_true rfl)

set_option maxHeartbeats 4000000 in
set_option maxRecDepth 100000 in
theorem lc_2_p {p : Program} {l : Launch} {e : Env} {s : State} {m : MethodId} {below : List Frame} {meth : Method} {c : Code} {H : Heap} {locs : List Loc} {ls : Array Slot} {D : va_G} {cI cJ : ClassId} {b L : Nat} {xs : Nat → Int32} {zb : Nat} {zt : Nat} {zn : Nat} {zv : Nat} {zs : Nat} {zp : Nat} {zq : Nat → Nat} {zu : Nat → Nat} {zh : Nat} {zst : Nat} {zre : Nat} {zt0 : Nat} {zt2 : Nat} {zt3 : Nat} {zt4 : Nat} {zp4 : Nat} {zp5 : Nat} {zp6 : Nat} {zp7 : Nat} {zp9 : Nat} {zn0 : Nat} {zn1 : Nat} {zn3 : Nat} {zb0 : Nat} {zb1 : Nat} {zb3 : Nat} {zb4 : Nat} {zb5 : Nat} {zw : fb_AR} {zs2 : Nat} {zs3 : Nat} {zl : Nat → Nat} {zo : Nat → Nat} {zi : Nat → Nat} {zx : Nat} {zg : Nat → Int64} {za : Nat} {zr : Nat → Nat} (hst : l.stackTraces = false) (X : fb_Bx p s m #[Value.ref b] meth c cL_law RL 9 (some .boolean) D (fb_ty D cI cJ) (fun q : Nat => s.heap.size ≤ q)) (hX : va_X b L xs s s.heap) (hbl : b < s.heap.size) (hbA : ¬ (fun q : Nat => s.heap.size ≤ q) b) (hL6 : L = 6)  (I : fb_In D (fun q : Nat => s.heap.size ≤ q) s.heap (([fb_o11 zb zt zn zv zs zp (zq 0) (zu 0) zh zst zre, fb_o9 zt zt0 zt2 zt3 zt4 (fun _ => 0), fb_aw cI zt2 2001 (fun _ => 0), fb_aw cI zt3 2001 (fun _ => 0), fb_jw cJ zt4 2001 (fun _ => 0), fb_o4 zp zt zv zn zs zp4 zp5 zp6 zp7 zp9 fb_p0, fb_aw cI zp4 11008 (fun _ => 0), fb_aw cI zp5 11008 (fun _ => 0), fb_aw cI zp6 11008 (fun _ => 0), fb_o3 zn zn0 zn1 zn3 (fun _ => 0), fb_aw cI zn1 120 (fun _ => 0), fb_aw cI zn3 120 (fun _ => 0), fb_o7 zst zb0 zb1 zb3 zb4 zb5 (fun _ => 0), fb_mw cI zq fb_s0 zw, fb_o10 zv zt zn (fun _ => 0), fb_o8 zs zt zv zs2 zs3 (fun _ => 0), fb_qw (D.1 23) zs2 120 zl, fb_o1 (zl 0)  (fun _ => 0), fb_o0 zh (zo 0) (zi 0) fb_h0, fb_jw cJ zx 1 zg, fb_o12 za zr fr_e0, fb_aw cI (zr 0) 16205 (fr_m (fun _ => 0) 0), fb_aw cI (zr 22) 2200 (fun _ => 0), fb_aw cI (zr 23) 2200 (fun _ => 0), fb_aw cI (zr 24) 2200 (fun _ => 0), fb_aw cI (zr 25) 2200 (fun _ => 0), fb_aw (D.1 20) (zr 39) 130 (fun _ => 0), fb_aw cI (zr 45) 11008 (fun _ => 0), fb_aw cI (zr 47) 11008 (fun _ => 0), fb_aw cI (zr 46) 11008 (fun _ => 0), fb_aw cI (zr 33) 200 (fun _ => 0), fb_aw cI (zr 48) 200 (fun _ => 0)] : List va_W).flatten) H locs) (hl : lv_has ls 9 [(4, .int (0 : Int32)), (3, .ref zx), (2, .ref za), (1, .ref zb), (0, .ref b)]) : W p l e room_1 s m #[Value.ref b] below meth c H locs 209 179241 (lw_Z below #[Value.ref b] s) (F0 m 444 ls []) := by
  obtain ⟨hx, hb, hr, hml, hown, hts, hlk, hA, hK, hF⟩ := id X
  refine lv_aload_n hx hb dL_law_444 rfl (lv_at hl 3 rfl) ?_
  refine fb_gI (cs := [fb_o11 zb zt zn zv zs zp (zq 0) (zu 0) zh zst zre, fb_o9 zt zt0 zt2 zt3 zt4 (fun _ => 0), fb_aw cI zt2 2001 (fun _ => 0), fb_aw cI zt3 2001 (fun _ => 0), fb_jw cJ zt4 2001 (fun _ => 0), fb_o4 zp zt zv zn zs zp4 zp5 zp6 zp7 zp9 fb_p0, fb_aw cI zp4 11008 (fun _ => 0), fb_aw cI zp5 11008 (fun _ => 0), fb_aw cI zp6 11008 (fun _ => 0), fb_o3 zn zn0 zn1 zn3 (fun _ => 0), fb_aw cI zn1 120 (fun _ => 0), fb_aw cI zn3 120 (fun _ => 0), fb_o7 zst zb0 zb1 zb3 zb4 zb5 (fun _ => 0), fb_mw cI zq fb_s0 zw, fb_o10 zv zt zn (fun _ => 0), fb_o8 zs zt zv zs2 zs3 (fun _ => 0), fb_qw (D.1 23) zs2 120 zl, fb_o1 (zl 0)  (fun _ => 0), fb_o0 zh (zo 0) (zi 0) fb_h0]) (rs := [fb_jw cJ zx 1 zg, fb_o12 za zr fr_e0, fb_aw cI (zr 0) 16205 (fr_m (fun _ => 0) 0), fb_aw cI (zr 22) 2200 (fun _ => 0), fb_aw cI (zr 23) 2200 (fun _ => 0), fb_aw cI (zr 24) 2200 (fun _ => 0), fb_aw cI (zr 25) 2200 (fun _ => 0), fb_aw (D.1 20) (zr 39) 130 (fun _ => 0), fb_aw cI (zr 45) 11008 (fun _ => 0), fb_aw cI (zr 47) 11008 (fun _ => 0), fb_aw cI (zr 46) 11008 (fun _ => 0), fb_aw cI (zr 33) 200 (fun _ => 0), fb_aw cI (zr 48) 200 (fun _ => 0)]) (fun (t : fb_AR × Nat × Nat × Nat) => [fb_o11 zb zt zn zv zs zp (zq 0) (zu 0) zh zst zre, fb_o9 zt zt0 zt2 zt3 zt4 (upd (upd (upd (fun _ => 0) 5 (0 : Int32)) 5 (1 : Int32)) 1 (0 : Int32)), fb_aw cI zt2 2001 (upd (fun _ => 0) 0 (10 : Int32)), fb_aw cI zt3 2001 (upd (fun _ => 0) 0 (0 : Int32)), fb_jw cJ zt4 2001 (vp_updL (fun _ => 0) 0 (0 : Int64)), fb_o4 zp zt zv zn zs zp4 zp5 zp6 zp7 zp9 (upd (upd (upd (upd (upd fb_p0 13 (0 : Int32)) 14 (-1 : Int32)) 10 (0 : Int32)) 11 (3072 : Int32)) 12 (0 : Int32)), fb_aw cI zp4 11008 (f_J7_fill_53178 11008 (fun _ => 0) 0), fb_aw cI zp5 11008 (f_J7_fill_53178 11008 (fun _ => 0) 0), fb_aw cI zp6 11008 (f_J7_fill_53178 11008 (fun _ => 0) 0), fb_o3 zn zn0 zn1 zn3 (upd (upd (fun _ => 0) 2 (0 : Int32)) 4 ((upd (fun _ => 0) 2 (0 : Int32)) 2)), fb_aw cI zn1 120 (fun _ => 0), fb_aw cI zn3 120 (fun _ => 0), fb_o7 zst zb0 zb1 zb3 zb4 zb5 (upd (upd (upd (fun _ => 0) 2 (0 : Int32)) 6 (0 : Int32)) 7 (0 : Int32)), fb_mw cI zq (f_X2_restart (fb_sM fb_s0 (f_J7_fill_53178 11008 (fun _ => 0) 0))) (t.1), fb_o10 zv zt zn (upd (upd (fun _ => 0) 2 (0 : Int32)) 2 (1 : Int32)), fb_o8 zs zt zv zs2 zs3 (upd (upd (fun _ => 0) 4 (0 : Int32)) 4 (1 : Int32)), fb_qw (D.1 23) zs2 120 (va_up (va_up (va_up zl 0 (t.2.1)) 0 (t.2.2.1)) 0 (t.2.2.2)), fb_o1 (t.2.2.2)  (upd (upd (upd (upd (upd (upd (upd (upd (upd (upd (upd (upd (fun _ => 0) 0 (-1 : Int32)) 1 (-1 : Int32)) 2 (-1 : Int32)) 3 (0 : Int32)) 4 (0 : Int32)) 5 (0 : Int32)) 6 (-1 : Int32)) 7 (0 : Int32)) 8 (0 : Int32)) 5 (0 : Int32)) 7 ((upd (upd (upd (upd (upd fb_p0 13 (0 : Int32)) 14 (-1 : Int32)) 10 (0 : Int32)) 11 (3072 : Int32)) 12 (0 : Int32)) 11)) 8 ((upd (upd (upd (upd (upd fb_p0 13 (0 : Int32)) 14 (-1 : Int32)) 10 (0 : Int32)) 11 (3072 : Int32)) 12 (0 : Int32)) 12)), fb_o0 zh (zo 0) (zi 0) (upd (upd (upd (upd fb_h0 2 (-1 : Int32)) 3 (-1 : Int32)) 4 (0 : Int32)) 5 (0 : Int32)), fb_jw cJ zx 1 zg, fb_o12 za zr fr_e0, fb_aw cI (zr 0) 16205 (fr_m (fun _ => 0) 0), fb_aw cI (zr 22) 2200 (fun _ => 0), fb_aw cI (zr 23) 2200 (fun _ => 0), fb_aw cI (zr 24) 2200 (fun _ => 0), fb_aw cI (zr 25) 2200 (fun _ => 0), fb_aw (D.1 20) (zr 39) 130 (fun _ => 0), fb_aw cI (zr 45) 11008 (fun _ => 0), fb_aw cI (zr 47) 11008 (fun _ => 0), fb_aw cI (zr 46) 11008 (fun _ => 0), fb_aw cI (zr 33) 200 (fun _ => 0), fb_aw cI (zr 48) 200 (fun _ => 0)]) (fun (t : fb_AR × Nat × Nat × Nat) => [fb_o11 zb zt zn zv zs zp (zq 0) (zu 0) zh zst zre, fb_o9 zt zt0 zt2 zt3 zt4 (upd (upd (upd (fun _ => 0) 5 (0 : Int32)) 5 (1 : Int32)) 1 (0 : Int32)), fb_aw cI zt2 2001 (upd (fun _ => 0) 0 (10 : Int32)), fb_aw cI zt3 2001 (upd (fun _ => 0) 0 (0 : Int32)), fb_jw cJ zt4 2001 (vp_updL (fun _ => 0) 0 (0 : Int64)), fb_o4 zp zt zv zn zs zp4 zp5 zp6 zp7 zp9 (upd (upd (upd (upd (upd fb_p0 13 (0 : Int32)) 14 (-1 : Int32)) 10 (0 : Int32)) 11 (3072 : Int32)) 12 (0 : Int32)), fb_aw cI zp4 11008 (f_J7_fill_53178 11008 (fun _ => 0) 0), fb_aw cI zp5 11008 (f_J7_fill_53178 11008 (fun _ => 0) 0), fb_aw cI zp6 11008 (f_J7_fill_53178 11008 (fun _ => 0) 0), fb_o3 zn zn0 zn1 zn3 (upd (upd (fun _ => 0) 2 (0 : Int32)) 4 ((upd (fun _ => 0) 2 (0 : Int32)) 2)), fb_aw cI zn1 120 (fun _ => 0), fb_aw cI zn3 120 (fun _ => 0), fb_o7 zst zb0 zb1 zb3 zb4 zb5 (upd (upd (upd (fun _ => 0) 2 (0 : Int32)) 6 (0 : Int32)) 7 (0 : Int32)), fb_mw cI zq (f_X2_restart (fb_sM fb_s0 (f_J7_fill_53178 11008 (fun _ => 0) 0))) (t.1), fb_o10 zv zt zn (upd (upd (fun _ => 0) 2 (0 : Int32)) 2 (1 : Int32)), fb_o8 zs zt zv zs2 zs3 (upd (upd (fun _ => 0) 4 (0 : Int32)) 4 (1 : Int32)), fb_qw (D.1 23) zs2 120 (va_up (va_up (va_up zl 0 (t.2.1)) 0 (t.2.2.1)) 0 (t.2.2.2)), fb_o1 (t.2.2.2)  (upd (upd (upd (upd (upd (upd (upd (upd (upd (upd (upd (upd (fun _ => 0) 0 (-1 : Int32)) 1 (-1 : Int32)) 2 (-1 : Int32)) 3 (0 : Int32)) 4 (0 : Int32)) 5 (0 : Int32)) 6 (-1 : Int32)) 7 (0 : Int32)) 8 (0 : Int32)) 5 (0 : Int32)) 7 ((upd (upd (upd (upd (upd fb_p0 13 (0 : Int32)) 14 (-1 : Int32)) 10 (0 : Int32)) 11 (3072 : Int32)) 12 (0 : Int32)) 11)) 8 ((upd (upd (upd (upd (upd fb_p0 13 (0 : Int32)) 14 (-1 : Int32)) 10 (0 : Int32)) 11 (3072 : Int32)) 12 (0 : Int32)) 12)), fb_o0 zh (zo 0) (zi 0) (upd (upd (upd (upd fb_h0 2 (-1 : Int32)) 3 (-1 : Int32)) 4 (0 : Int32)) 5 (0 : Int32))]) X I [0, 1, 2, 3, 4, 5, 6, 7, 8, 9, 10, 11, 12, 13, 14, 15, 16, 17, 18, 19, 20, 21, 22, 23, 24, 25, 26, 27, 28, 29, 30, 31] 32 rfl (by decide +kernel) rfl rfl [0, 1, 2, 3, 4, 5, 6, 7, 8, 9, 10, 11, 12, 13, 14, 15, 16, 17, 18, 19, 20, 21, 22, 23, 24, 25, 26, 27, 28, 29, 30, 31] 32 (fun _ => rfl) (by decide +kernel) (fun _ => rfl) (fun _ => rfl) (fun I => fb_rV (As := []) (rest := []) X hl (fb_goodV fw_718 fw_719 fw_720 fw_191 fw_721) (c_assemble0 l D cI cJ zb zv (zu 0) zre zt zt0 zt2 zt3 zt4 (fun _ => 0) (fun _ => 0) (fun _ => 0) (fun _ => 0) zp zv zn zp4 zp5 zp6 zp7 zp9 fb_p0 (fun _ => 0) (fun _ => 0) (fun _ => 0) zn zn0 zn1 zn3 (fun _ => 0) (fun _ => 0) (fun _ => 0) zst zb0 zb1 zb3 zb4 zb5 (fun _ => 0) zq fb_s0 zw zv zn (fun _ => 0) zs zs2 zs3 (fun _ => 0) zl (fun _ => 0) zh (zo 0) (zi 0) fb_h0 _ rfl) rfl rfl rfl (by decide +kernel : fb_hd yX11_assemble 0) ⟨Nat.le_of_ble_eq_true rfl, Nat.le_of_ble_eq_true rfl⟩ rfl rfl rfl rfl rfl (Nat.le_of_ble_eq_true rfl) ⟨Nat.le_of_ble_eq_true rfl, Nat.le_of_ble_eq_true rfl⟩ dL_law_445 I) ?_
  intro r2 w1 H locs e0 I
  subst e0
  obtain ⟨w1_0, w1_1, w1_2, w1_3⟩ := w1
  have I : fb_In D (fun q : Nat => s.heap.size ≤ q) s.heap (([fb_o11 zb zt zn zv zs zp (zq 0) (zu 0) zh zst zre, fb_o9 zt zt0 zt2 zt3 zt4 (upd (upd (upd (fun _ => 0) 5 (0 : Int32)) 5 (1 : Int32)) 1 (0 : Int32)), fb_aw cI zt2 2001 (upd (fun _ => 0) 0 (10 : Int32)), fb_aw cI zt3 2001 (upd (fun _ => 0) 0 (0 : Int32)), fb_jw cJ zt4 2001 (vp_updL (fun _ => 0) 0 (0 : Int64)), fb_o4 zp zt zv zn zs zp4 zp5 zp6 zp7 zp9 (upd (upd (upd (upd (upd fb_p0 13 (0 : Int32)) 14 (-1 : Int32)) 10 (0 : Int32)) 11 (3072 : Int32)) 12 (0 : Int32)), fb_aw cI zp4 11008 (f_J7_fill_53178 11008 (fun _ => 0) 0), fb_aw cI zp5 11008 (f_J7_fill_53178 11008 (fun _ => 0) 0), fb_aw cI zp6 11008 (f_J7_fill_53178 11008 (fun _ => 0) 0), fb_o3 zn zn0 zn1 zn3 (upd (upd (fun _ => 0) 2 (0 : Int32)) 4 ((upd (fun _ => 0) 2 (0 : Int32)) 2)), fb_aw cI zn1 120 (fun _ => 0), fb_aw cI zn3 120 (fun _ => 0), fb_o7 zst zb0 zb1 zb3 zb4 zb5 (upd (upd (upd (fun _ => 0) 2 (0 : Int32)) 6 (0 : Int32)) 7 (0 : Int32)), fb_mw cI zq (f_X2_restart (fb_sM fb_s0 (f_J7_fill_53178 11008 (fun _ => 0) 0))) w1_0, fb_o10 zv zt zn (upd (upd (fun _ => 0) 2 (0 : Int32)) 2 (1 : Int32)), fb_o8 zs zt zv zs2 zs3 (upd (upd (fun _ => 0) 4 (0 : Int32)) 4 (1 : Int32)), fb_qw (D.1 23) zs2 120 (va_up (va_up (va_up zl 0 w1_1) 0 w1_2) 0 w1_3), fb_o1 w1_3  (upd (upd (upd (upd (upd (upd (upd (upd (upd (upd (upd (upd (fun _ => 0) 0 (-1 : Int32)) 1 (-1 : Int32)) 2 (-1 : Int32)) 3 (0 : Int32)) 4 (0 : Int32)) 5 (0 : Int32)) 6 (-1 : Int32)) 7 (0 : Int32)) 8 (0 : Int32)) 5 (0 : Int32)) 7 ((upd (upd (upd (upd (upd fb_p0 13 (0 : Int32)) 14 (-1 : Int32)) 10 (0 : Int32)) 11 (3072 : Int32)) 12 (0 : Int32)) 11)) 8 ((upd (upd (upd (upd (upd fb_p0 13 (0 : Int32)) 14 (-1 : Int32)) 10 (0 : Int32)) 11 (3072 : Int32)) 12 (0 : Int32)) 12)), fb_o0 zh (zo 0) (zi 0) (upd (upd (upd (upd fb_h0 2 (-1 : Int32)) 3 (-1 : Int32)) 4 (0 : Int32)) 5 (0 : Int32)), fb_jw cJ zx 1 zg, fb_o12 za zr fr_e0, fb_aw cI (zr 0) 16205 (fr_m (fun _ => 0) 0), fb_aw cI (zr 22) 2200 (fun _ => 0), fb_aw cI (zr 23) 2200 (fun _ => 0), fb_aw cI (zr 24) 2200 (fun _ => 0), fb_aw cI (zr 25) 2200 (fun _ => 0), fb_aw (D.1 20) (zr 39) 130 (fun _ => 0), fb_aw cI (zr 45) 11008 (fun _ => 0), fb_aw cI (zr 47) 11008 (fun _ => 0), fb_aw cI (zr 46) 11008 (fun _ => 0), fb_aw cI (zr 33) 200 (fun _ => 0), fb_aw cI (zr 48) 200 (fun _ => 0)] : List va_W).flatten) H locs := I
  refine lv_aload_n hx hb dL_law_448 rfl (lv_at hl 2 rfl) ?_
  refine fb_gI (cs := [fb_o12 za zr fr_e0, fb_aw cI (zr 0) 16205 (fr_m (fun _ => 0) 0), fb_aw cI (zr 22) 2200 (fun _ => 0), fb_aw cI (zr 23) 2200 (fun _ => 0), fb_aw cI (zr 24) 2200 (fun _ => 0), fb_aw cI (zr 25) 2200 (fun _ => 0), fb_aw (D.1 20) (zr 39) 130 (fun _ => 0), fb_aw cI (zr 45) 11008 (fun _ => 0), fb_aw cI (zr 47) 11008 (fun _ => 0), fb_aw cI (zr 46) 11008 (fun _ => 0), fb_aw cI (zr 33) 200 (fun _ => 0), fb_aw cI (zr 48) 200 (fun _ => 0)]) (rs := [fb_o11 zb zt zn zv zs zp (zq 0) (zu 0) zh zst zre, fb_o9 zt zt0 zt2 zt3 zt4 (upd (upd (upd (fun _ => 0) 5 (0 : Int32)) 5 (1 : Int32)) 1 (0 : Int32)), fb_aw cI zt2 2001 (upd (fun _ => 0) 0 (10 : Int32)), fb_aw cI zt3 2001 (upd (fun _ => 0) 0 (0 : Int32)), fb_jw cJ zt4 2001 (vp_updL (fun _ => 0) 0 (0 : Int64)), fb_o4 zp zt zv zn zs zp4 zp5 zp6 zp7 zp9 (upd (upd (upd (upd (upd fb_p0 13 (0 : Int32)) 14 (-1 : Int32)) 10 (0 : Int32)) 11 (3072 : Int32)) 12 (0 : Int32)), fb_aw cI zp4 11008 (f_J7_fill_53178 11008 (fun _ => 0) 0), fb_aw cI zp5 11008 (f_J7_fill_53178 11008 (fun _ => 0) 0), fb_aw cI zp6 11008 (f_J7_fill_53178 11008 (fun _ => 0) 0), fb_o3 zn zn0 zn1 zn3 (upd (upd (fun _ => 0) 2 (0 : Int32)) 4 ((upd (fun _ => 0) 2 (0 : Int32)) 2)), fb_aw cI zn1 120 (fun _ => 0), fb_aw cI zn3 120 (fun _ => 0), fb_o7 zst zb0 zb1 zb3 zb4 zb5 (upd (upd (upd (fun _ => 0) 2 (0 : Int32)) 6 (0 : Int32)) 7 (0 : Int32)), fb_mw cI zq (f_X2_restart (fb_sM fb_s0 (f_J7_fill_53178 11008 (fun _ => 0) 0))) w1_0, fb_o10 zv zt zn (upd (upd (fun _ => 0) 2 (0 : Int32)) 2 (1 : Int32)), fb_o8 zs zt zv zs2 zs3 (upd (upd (fun _ => 0) 4 (0 : Int32)) 4 (1 : Int32)), fb_qw (D.1 23) zs2 120 (va_up (va_up (va_up zl 0 w1_1) 0 w1_2) 0 w1_3), fb_o1 w1_3  (upd (upd (upd (upd (upd (upd (upd (upd (upd (upd (upd (upd (fun _ => 0) 0 (-1 : Int32)) 1 (-1 : Int32)) 2 (-1 : Int32)) 3 (0 : Int32)) 4 (0 : Int32)) 5 (0 : Int32)) 6 (-1 : Int32)) 7 (0 : Int32)) 8 (0 : Int32)) 5 (0 : Int32)) 7 ((upd (upd (upd (upd (upd fb_p0 13 (0 : Int32)) 14 (-1 : Int32)) 10 (0 : Int32)) 11 (3072 : Int32)) 12 (0 : Int32)) 11)) 8 ((upd (upd (upd (upd (upd fb_p0 13 (0 : Int32)) 14 (-1 : Int32)) 10 (0 : Int32)) 11 (3072 : Int32)) 12 (0 : Int32)) 12)), fb_o0 zh (zo 0) (zi 0) (upd (upd (upd (upd fb_h0 2 (-1 : Int32)) 3 (-1 : Int32)) 4 (0 : Int32)) 5 (0 : Int32)), fb_jw cJ zx 1 zg]) (fun (t : Unit) => [fb_o11 zb zt zn zv zs zp (zq 0) (zu 0) zh zst zre, fb_o9 zt zt0 zt2 zt3 zt4 (upd (upd (upd (fun _ => 0) 5 (0 : Int32)) 5 (1 : Int32)) 1 (0 : Int32)), fb_aw cI zt2 2001 (upd (fun _ => 0) 0 (10 : Int32)), fb_aw cI zt3 2001 (upd (fun _ => 0) 0 (0 : Int32)), fb_jw cJ zt4 2001 (vp_updL (fun _ => 0) 0 (0 : Int64)), fb_o4 zp zt zv zn zs zp4 zp5 zp6 zp7 zp9 (upd (upd (upd (upd (upd fb_p0 13 (0 : Int32)) 14 (-1 : Int32)) 10 (0 : Int32)) 11 (3072 : Int32)) 12 (0 : Int32)), fb_aw cI zp4 11008 (f_J7_fill_53178 11008 (fun _ => 0) 0), fb_aw cI zp5 11008 (f_J7_fill_53178 11008 (fun _ => 0) 0), fb_aw cI zp6 11008 (f_J7_fill_53178 11008 (fun _ => 0) 0), fb_o3 zn zn0 zn1 zn3 (upd (upd (fun _ => 0) 2 (0 : Int32)) 4 ((upd (fun _ => 0) 2 (0 : Int32)) 2)), fb_aw cI zn1 120 (fun _ => 0), fb_aw cI zn3 120 (fun _ => 0), fb_o7 zst zb0 zb1 zb3 zb4 zb5 (upd (upd (upd (fun _ => 0) 2 (0 : Int32)) 6 (0 : Int32)) 7 (0 : Int32)), fb_mw cI zq (f_X2_restart (fb_sM fb_s0 (f_J7_fill_53178 11008 (fun _ => 0) 0))) w1_0, fb_o10 zv zt zn (upd (upd (fun _ => 0) 2 (0 : Int32)) 2 (1 : Int32)), fb_o8 zs zt zv zs2 zs3 (upd (upd (fun _ => 0) 4 (0 : Int32)) 4 (1 : Int32)), fb_qw (D.1 23) zs2 120 (va_up (va_up (va_up zl 0 w1_1) 0 w1_2) 0 w1_3), fb_o1 w1_3  (upd (upd (upd (upd (upd (upd (upd (upd (upd (upd (upd (upd (fun _ => 0) 0 (-1 : Int32)) 1 (-1 : Int32)) 2 (-1 : Int32)) 3 (0 : Int32)) 4 (0 : Int32)) 5 (0 : Int32)) 6 (-1 : Int32)) 7 (0 : Int32)) 8 (0 : Int32)) 5 (0 : Int32)) 7 ((upd (upd (upd (upd (upd fb_p0 13 (0 : Int32)) 14 (-1 : Int32)) 10 (0 : Int32)) 11 (3072 : Int32)) 12 (0 : Int32)) 11)) 8 ((upd (upd (upd (upd (upd fb_p0 13 (0 : Int32)) 14 (-1 : Int32)) 10 (0 : Int32)) 11 (3072 : Int32)) 12 (0 : Int32)) 12)), fb_o0 zh (zo 0) (zi 0) (upd (upd (upd (upd fb_h0 2 (-1 : Int32)) 3 (-1 : Int32)) 4 (0 : Int32)) 5 (0 : Int32)), fb_jw cJ zx 1 zg, fb_o12 za zr (upd (upd (upd (upd (upd (upd (upd (upd (upd (upd (upd (upd (upd (upd (upd (upd (upd (upd (upd (upd (upd (upd (upd (upd (upd (upd (upd (upd (upd (upd (upd (upd fr_e0 19 (0 : Int32)) 30 (0 : Int32)) 34 (0 : Int32)) 26 (0 : Int32)) 26 (1 : Int32)) 27 (0 : Int32)) 29 (0 : Int32)) 29 (1 : Int32)) 44 (0 : Int32)) 35 (3072 : Int32)) 42 (0 : Int32)) 41 (0 : Int32)) 27 (0 : Int32)) 43 (0 : Int32)) 50 (0 : Int32)) 27 (0 : Int32)) 44 (1 : Int32)) 35 (3072 : Int32)) 42 (0 : Int32)) 41 (0 : Int32)) 27 (0 : Int32)) 43 (0 : Int32)) 50 (0 : Int32)) 27 (0 : Int32)) 49 (0 : Int32)) 28 (-1 : Int32)) 21 (0 : Int32)) 2 (0 : Int32)) 13 (0 : Int32)) 18 (0 : Int32)) 10 (0 : Int32)) 2 (0 : Int32)), fb_aw cI (zr 0) 16205 (fr_m (fun _ => 0) 0), fb_aw cI (zr 22) 2200 (upd (fun _ => 0) 0 (0 : Int32)), fb_aw cI (zr 23) 2200 (upd (fun _ => 0) 0 (0 : Int32)), fb_aw cI (zr 24) 2200 (upd (fun _ => 0) 0 (0 : Int32)), fb_aw cI (zr 25) 2200 (upd (fun _ => 0) 0 (0 : Int32)), fb_aw (D.1 20) (zr 39) 130 (upd (upd (fun _ => 0) 0 (0 : Int32)) 0 (0 : Int32)), fb_aw cI (zr 45) 11008 (fun _ => 0), fb_aw cI (zr 47) 11008 (fun _ => 0), fb_aw cI (zr 46) 11008 (fun _ => 0), fb_aw cI (zr 33) 200 (fun _ => 0), fb_aw cI (zr 48) 200 (va_cpy (fun _ => 0) (fun _ => 0) 0 0 0)]) (fun (t : Unit) => [fb_o12 za zr (upd (upd (upd (upd (upd (upd (upd (upd (upd (upd (upd (upd (upd (upd (upd (upd (upd (upd (upd (upd (upd (upd (upd (upd (upd (upd (upd (upd (upd (upd (upd (upd fr_e0 19 (0 : Int32)) 30 (0 : Int32)) 34 (0 : Int32)) 26 (0 : Int32)) 26 (1 : Int32)) 27 (0 : Int32)) 29 (0 : Int32)) 29 (1 : Int32)) 44 (0 : Int32)) 35 (3072 : Int32)) 42 (0 : Int32)) 41 (0 : Int32)) 27 (0 : Int32)) 43 (0 : Int32)) 50 (0 : Int32)) 27 (0 : Int32)) 44 (1 : Int32)) 35 (3072 : Int32)) 42 (0 : Int32)) 41 (0 : Int32)) 27 (0 : Int32)) 43 (0 : Int32)) 50 (0 : Int32)) 27 (0 : Int32)) 49 (0 : Int32)) 28 (-1 : Int32)) 21 (0 : Int32)) 2 (0 : Int32)) 13 (0 : Int32)) 18 (0 : Int32)) 10 (0 : Int32)) 2 (0 : Int32)), fb_aw cI (zr 0) 16205 (fr_m (fun _ => 0) 0), fb_aw cI (zr 22) 2200 (upd (fun _ => 0) 0 (0 : Int32)), fb_aw cI (zr 23) 2200 (upd (fun _ => 0) 0 (0 : Int32)), fb_aw cI (zr 24) 2200 (upd (fun _ => 0) 0 (0 : Int32)), fb_aw cI (zr 25) 2200 (upd (fun _ => 0) 0 (0 : Int32)), fb_aw (D.1 20) (zr 39) 130 (upd (upd (fun _ => 0) 0 (0 : Int32)) 0 (0 : Int32)), fb_aw cI (zr 45) 11008 (fun _ => 0), fb_aw cI (zr 47) 11008 (fun _ => 0), fb_aw cI (zr 46) 11008 (fun _ => 0), fb_aw cI (zr 33) 200 (fun _ => 0), fb_aw cI (zr 48) 200 (va_cpy (fun _ => 0) (fun _ => 0) 0 0 0)]) X I [20, 21, 22, 23, 24, 25, 26, 27, 28, 29, 30, 31, 0, 1, 2, 3, 4, 5, 6, 7, 8, 9, 10, 11, 12, 13, 14, 15, 16, 17, 18, 19] 32 rfl (by decide +kernel) rfl rfl [20, 21, 22, 23, 24, 25, 26, 27, 28, 29, 30, 31, 0, 1, 2, 3, 4, 5, 6, 7, 8, 9, 10, 11, 12, 13, 14, 15, 16, 17, 18, 19] 32 (fun _ => rfl) (by decide +kernel) (fun _ => rfl) (fun _ => rfl) (fun I => fb_rV (As := []) (rest := [.int (0 : Int32)]) X hl (fb_goodV fw_2123 fw_2124 fw_2125 fw_204 fw_2126) (c_assemble l D cI cJ za zr (fun _ => 0) (fun _ => 0) (fun _ => 0) (fun _ => 0) (fun _ => 0) (fun _ => 0) (fun _ => 0) _ ) rfl rfl rfl (by decide +kernel : fb_hd yX12_assemble 0) ⟨Nat.le_of_ble_eq_true rfl, Nat.le_of_ble_eq_true rfl⟩ rfl rfl rfl rfl rfl (Nat.le_of_ble_eq_true rfl) ⟨Nat.le_of_ble_eq_true rfl, Nat.le_of_ble_eq_true rfl⟩ dL_law_449 I) ?_
  intro r4 w3 H locs e0 I
  subst e0
  have I : fb_In D (fun q : Nat => s.heap.size ≤ q) s.heap (([fb_o11 zb zt zn zv zs zp (zq 0) (zu 0) zh zst zre, fb_o9 zt zt0 zt2 zt3 zt4 (upd (upd (upd (fun _ => 0) 5 (0 : Int32)) 5 (1 : Int32)) 1 (0 : Int32)), fb_aw cI zt2 2001 (upd (fun _ => 0) 0 (10 : Int32)), fb_aw cI zt3 2001 (upd (fun _ => 0) 0 (0 : Int32)), fb_jw cJ zt4 2001 (vp_updL (fun _ => 0) 0 (0 : Int64)), fb_o4 zp zt zv zn zs zp4 zp5 zp6 zp7 zp9 (upd (upd (upd (upd (upd fb_p0 13 (0 : Int32)) 14 (-1 : Int32)) 10 (0 : Int32)) 11 (3072 : Int32)) 12 (0 : Int32)), fb_aw cI zp4 11008 (f_J7_fill_53178 11008 (fun _ => 0) 0), fb_aw cI zp5 11008 (f_J7_fill_53178 11008 (fun _ => 0) 0), fb_aw cI zp6 11008 (f_J7_fill_53178 11008 (fun _ => 0) 0), fb_o3 zn zn0 zn1 zn3 (upd (upd (fun _ => 0) 2 (0 : Int32)) 4 ((upd (fun _ => 0) 2 (0 : Int32)) 2)), fb_aw cI zn1 120 (fun _ => 0), fb_aw cI zn3 120 (fun _ => 0), fb_o7 zst zb0 zb1 zb3 zb4 zb5 (upd (upd (upd (fun _ => 0) 2 (0 : Int32)) 6 (0 : Int32)) 7 (0 : Int32)), fb_mw cI zq (f_X2_restart (fb_sM fb_s0 (f_J7_fill_53178 11008 (fun _ => 0) 0))) w1_0, fb_o10 zv zt zn (upd (upd (fun _ => 0) 2 (0 : Int32)) 2 (1 : Int32)), fb_o8 zs zt zv zs2 zs3 (upd (upd (fun _ => 0) 4 (0 : Int32)) 4 (1 : Int32)), fb_qw (D.1 23) zs2 120 (va_up (va_up (va_up zl 0 w1_1) 0 w1_2) 0 w1_3), fb_o1 w1_3  (upd (upd (upd (upd (upd (upd (upd (upd (upd (upd (upd (upd (fun _ => 0) 0 (-1 : Int32)) 1 (-1 : Int32)) 2 (-1 : Int32)) 3 (0 : Int32)) 4 (0 : Int32)) 5 (0 : Int32)) 6 (-1 : Int32)) 7 (0 : Int32)) 8 (0 : Int32)) 5 (0 : Int32)) 7 ((upd (upd (upd (upd (upd fb_p0 13 (0 : Int32)) 14 (-1 : Int32)) 10 (0 : Int32)) 11 (3072 : Int32)) 12 (0 : Int32)) 11)) 8 ((upd (upd (upd (upd (upd fb_p0 13 (0 : Int32)) 14 (-1 : Int32)) 10 (0 : Int32)) 11 (3072 : Int32)) 12 (0 : Int32)) 12)), fb_o0 zh (zo 0) (zi 0) (upd (upd (upd (upd fb_h0 2 (-1 : Int32)) 3 (-1 : Int32)) 4 (0 : Int32)) 5 (0 : Int32)), fb_jw cJ zx 1 zg, fb_o12 za zr (upd (upd (upd (upd (upd (upd (upd (upd (upd (upd (upd (upd (upd (upd (upd (upd (upd (upd (upd (upd (upd (upd (upd (upd (upd (upd (upd (upd (upd (upd (upd (upd fr_e0 19 (0 : Int32)) 30 (0 : Int32)) 34 (0 : Int32)) 26 (0 : Int32)) 26 (1 : Int32)) 27 (0 : Int32)) 29 (0 : Int32)) 29 (1 : Int32)) 44 (0 : Int32)) 35 (3072 : Int32)) 42 (0 : Int32)) 41 (0 : Int32)) 27 (0 : Int32)) 43 (0 : Int32)) 50 (0 : Int32)) 27 (0 : Int32)) 44 (1 : Int32)) 35 (3072 : Int32)) 42 (0 : Int32)) 41 (0 : Int32)) 27 (0 : Int32)) 43 (0 : Int32)) 50 (0 : Int32)) 27 (0 : Int32)) 49 (0 : Int32)) 28 (-1 : Int32)) 21 (0 : Int32)) 2 (0 : Int32)) 13 (0 : Int32)) 18 (0 : Int32)) 10 (0 : Int32)) 2 (0 : Int32)), fb_aw cI (zr 0) 16205 (fr_m (fun _ => 0) 0), fb_aw cI (zr 22) 2200 (upd (fun _ => 0) 0 (0 : Int32)), fb_aw cI (zr 23) 2200 (upd (fun _ => 0) 0 (0 : Int32)), fb_aw cI (zr 24) 2200 (upd (fun _ => 0) 0 (0 : Int32)), fb_aw cI (zr 25) 2200 (upd (fun _ => 0) 0 (0 : Int32)), fb_aw (D.1 20) (zr 39) 130 (upd (upd (fun _ => 0) 0 (0 : Int32)) 0 (0 : Int32)), fb_aw cI (zr 45) 11008 (fun _ => 0), fb_aw cI (zr 47) 11008 (fun _ => 0), fb_aw cI (zr 46) 11008 (fun _ => 0), fb_aw cI (zr 33) 200 (fun _ => 0), fb_aw cI (zr 48) 200 (va_cpy (fun _ => 0) (fun _ => 0) 0 0 0)] : List va_W).flatten) H locs := I
  refine lv_icmp_eq (tgt := 2336) hx hb dL_law_452 (by decide) (fun _ => ?_) (fun c5 => absurd rfl c5)
  exact lw_end X hX hbl hbA (by omega) I (lv_sub hl [0, 4] rfl) (Nat.le_of_ble_eq_true rfl) (Nat.le_of_ble_eq_true rfl)

set_option maxHeartbeats 4000000 in
set_option maxRecDepth 100000 in
theorem lc_55_p {p : Program} {l : Launch} {e : Env} {s : State} {m : MethodId} {below : List Frame} {meth : Method} {c : Code} {H : Heap} {locs : List Loc} {ls : Array Slot} {D : va_G} {cI cJ : ClassId} {b L : Nat} {xs : Nat → Int32} {zb : Nat} {zt : Nat} {zn : Nat} {zv : Nat} {zs : Nat} {zp : Nat} {zq : Nat → Nat} {zu : Nat → Nat} {zh : Nat} {zst : Nat} {zre : Nat} {zw : fb_AR} {zx : Nat} {zg : Nat → Int64} {za : Nat} {zr : Nat → Nat} (hst : l.stackTraces = false) (X : fb_Bx p s m #[Value.ref b] meth c cL_law RL 9 (some .boolean) D (fb_ty D cI cJ) (fun q : Nat => s.heap.size ≤ q)) (hX : va_X b L xs s s.heap) (hbl : b < s.heap.size) (hbA : ¬ (fun q : Nat => s.heap.size ≤ q) b) (hL6 : L = 6)  (I : fb_In D (fun q : Nat => s.heap.size ≤ q) s.heap (([fb_o11 zb zt zn zv zs zp (zq 0) (zu 0) zh zst zre, fb_mw cI zq fb_s0 zw, fb_jw cJ zx 1 zg, fb_o12 za zr fr_e0, fb_aw cI (zr 0) 16205 (fr_m (fun _ => 0) 0)] : List va_W).flatten) H locs) (hl : lv_has ls 9 [(4, .int (0 : Int32)), (3, .ref zx), (2, .ref za), (1, .ref zb), (0, .ref b)]) : W p l e room_1 s m #[Value.ref b] below meth c H locs 209 179241 (lw_Z below #[Value.ref b] s) (F0 m 2281 ls []) := by
  obtain ⟨hx, hb, hr, hml, hown, hts, hlk, hA, hK, hF⟩ := id X
  refine lv_aload_n hx hb dL_law_2281 rfl (lv_at hl 3 rfl) ?_
  refine fb_gD (cs := [fb_o11 zb zt zn zv zs zp (zq 0) (zu 0) zh zst zre, fb_mw cI zq fb_s0 zw]) (rs := [fb_jw cJ zx 1 zg, fb_o12 za zr fr_e0, fb_aw cI (zr 0) 16205 (fr_m (fun _ => 0) 0)]) (fun (t : Unit) => [fb_o11 zb zt zn zv zs zp (zq 0) (zu 0) zh zst zre, fb_mw cI zq fb_s0 zw, fb_jw cJ zx 1 zg, fb_o12 za zr fr_e0, fb_aw cI (zr 0) 16205 (fr_m (fun _ => 0) 0)]) (fun (t : Unit) => [fb_o11 zb zt zn zv zs zp (zq 0) (zu 0) zh zst zre, fb_mw cI zq fb_s0 zw]) X I [0, 1, 2, 3, 4] 5 rfl (by decide +kernel) rfl rfl [0, 1, 2, 3, 4] 5 (fun _ => rfl) (by decide +kernel) (fun _ => rfl) (fun _ => rfl) (fun I => fb_rV (As := []) (rest := []) X hl (fb_goodV fw_1539 fw_1540 fw_1541 fw_191 fw_1542) (c_meanCycles0 l D cI cJ zb zt zn zv zs zp (zu 0) zh zst zre zq fb_s0 zw _ rfl) rfl rfl rfl (by decide +kernel : fb_hd yX11_meanCycles 0) ⟨Nat.le_of_ble_eq_true rfl, Nat.le_of_ble_eq_true rfl⟩ rfl rfl rfl rfl rfl (Nat.le_of_ble_eq_true rfl) ⟨Nat.le_of_ble_eq_true rfl, Nat.le_of_ble_eq_true rfl⟩ dL_law_2282 I) ?_
  intro r2 w1 H locs e0 I
  subst e0
  have I : fb_In D (fun q : Nat => s.heap.size ≤ q) s.heap (([fb_o11 zb zt zn zv zs zp (zq 0) (zu 0) zh zst zre, fb_mw cI zq fb_s0 zw, fb_jw cJ zx 1 zg, fb_o12 za zr fr_e0, fb_aw cI (zr 0) 16205 (fr_m (fun _ => 0) 0)] : List va_W).flatten) H locs := I
  refine lv_dstore (lv' := [(5, .double (0 : UInt64)), (4, .int (0 : Int32)), (3, .ref zx), (2, .ref za), (1, .ref zb), (0, .ref b)]) hx hb dL_law_2285 hl (by decide) rfl (fun ls hl => ?_)
  refine lv_aload_n hx hb dL_law_2287 rfl (lv_at hl 3 rfl) ?_
  refine fb_gD (cs := [fb_o12 za zr fr_e0, fb_aw cI (zr 0) 16205 (fr_m (fun _ => 0) 0)]) (rs := [fb_o11 zb zt zn zv zs zp (zq 0) (zu 0) zh zst zre, fb_mw cI zq fb_s0 zw, fb_jw cJ zx 1 zg]) (fun (t : Unit) => [fb_o11 zb zt zn zv zs zp (zq 0) (zu 0) zh zst zre, fb_mw cI zq fb_s0 zw, fb_jw cJ zx 1 zg, fb_o12 za zr (upd fr_e0 19 (0 : Int32)), fb_aw cI (zr 0) 16205 (fr_m (fun _ => 0) 0)]) (fun (t : Unit) => [fb_o12 za zr (upd fr_e0 19 (0 : Int32)), fb_aw cI (zr 0) 16205 (fr_m (fun _ => 0) 0)]) X I [3, 4, 0, 1, 2] 5 rfl (by decide +kernel) rfl rfl [3, 4, 0, 1, 2] 5 (fun _ => rfl) (by decide +kernel) (fun _ => rfl) (fun _ => rfl) (fun I => fb_rV (As := []) (rest := []) X hl (fb_goodV fw_2779 fw_2780 fw_2781 fw_204 fw_2782) (c_meanCycles l D cI cJ za zr _ ) rfl rfl rfl (by decide +kernel : fb_hd yX12_meanCycles 0) ⟨Nat.le_of_ble_eq_true rfl, Nat.le_of_ble_eq_true rfl⟩ rfl rfl rfl rfl rfl (Nat.le_of_ble_eq_true rfl) ⟨Nat.le_of_ble_eq_true rfl, Nat.le_of_ble_eq_true rfl⟩ dL_law_2288 I) ?_
  intro r4 w3 H locs e0 I
  subst e0
  have I : fb_In D (fun q : Nat => s.heap.size ≤ q) s.heap (([fb_o11 zb zt zn zv zs zp (zq 0) (zu 0) zh zst zre, fb_mw cI zq fb_s0 zw, fb_jw cJ zx 1 zg, fb_o12 za zr (upd fr_e0 19 (0 : Int32)), fb_aw cI (zr 0) 16205 (fr_m (fun _ => 0) 0)] : List va_W).flatten) H locs := I
  refine lv_dstore (lv' := [(7, .double (0 : UInt64)), (5, .double (0 : UInt64)), (4, .int (0 : Int32)), (3, .ref zx), (2, .ref za), (1, .ref zb), (0, .ref b)]) hx hb dL_law_2291 hl (by decide) rfl (fun ls hl => ?_)
  refine lv_dload hx hb dL_law_2293 (lv_at hl 1 rfl) ?_
  refine lv_dload hx hb dL_law_2295 (lv_at hl 0 rfl) ?_
  refine lv_dcmp hx hb dL_law_2297 ?_
  refine fb_tI (v := (0 : Int32)) (by decide +kernel) ?_
  refine lv_if_eq (tgt := 2319) hx hb dL_law_2298 (by decide) (fun _ => ?_) (fun c5 => absurd (by decide) c5)
  refine lv_goto (tgt := 2336) hx hb dL_law_2319 (by decide) ?_
  exact lw_end X hX hbl hbA (by omega) I (lv_sub hl [2, 6] rfl) (Nat.le_of_ble_eq_true rfl) (Nat.le_of_ble_eq_true rfl)

set_option maxHeartbeats 4000000 in
set_option maxRecDepth 100000 in
theorem lc_0_p {p : Program} {l : Launch} {e : Env} {s : State} {m : MethodId} {below : List Frame} {meth : Method} {c : Code} {H : Heap} {locs : List Loc} {ls : Array Slot} {D : va_G} {cI cJ : ClassId} {b L : Nat} {xs : Nat → Int32} {zb : Nat} {zt : Nat} {zn : Nat} {zv : Nat} {zs : Nat} {zp : Nat} {zq : Nat → Nat} {zu : Nat → Nat} {zh : Nat} {zst : Nat} {zre : Nat} {zt0 : Nat} {zt2 : Nat} {zt3 : Nat} {zt4 : Nat} {zo : Nat → Nat} {zi : Nat → Nat} {zx : Nat} {zg : Nat → Int64} {za : Nat} {zr : Nat → Nat} (hst : l.stackTraces = false) (X : fb_Bx p s m #[Value.ref b] meth c cL_law RL 9 (some .boolean) D (fb_ty D cI cJ) (fun q : Nat => s.heap.size ≤ q)) (hX : va_X b L xs s s.heap) (hbl : b < s.heap.size) (hbA : ¬ (fun q : Nat => s.heap.size ≤ q) b) (hL6 : L = 6)  (I : fb_In D (fun q : Nat => s.heap.size ≤ q) s.heap (([fb_o11 zb zt zn zv zs zp (zq 0) (zu 0) zh zst zre, fb_o9 zt zt0 zt2 zt3 zt4 (fun _ => 0), fb_aw cI zt0 2000 (fun _ => 0), fb_o0 zh (zo 0) (zi 0) fb_h0, fb_jw cJ zx 1 zg, fb_o12 za zr fr_e0, fb_aw (D.1 21) (zr 20) 2000 (fun _ => 0)] : List va_W).flatten) H locs) (hl : lv_has ls 9 [(4, .int (0 : Int32)), (3, .ref zx), (2, .ref za), (1, .ref zb), (0, .ref b)]) : W p l e room_1 s m #[Value.ref b] below meth c H locs 209 179241 (lw_Z below #[Value.ref b] s) (F0 m 284 ls []) := by
  obtain ⟨hx, hb, hr, hml, hown, hts, hlk, hA, hK, hF⟩ := id X
  refine lv_aload_n hx hb dL_law_284 rfl (lv_at hl 3 rfl) ?_
  refine lv_aload_n hx hb dL_law_285 rfl (lv_at hl 4 rfl) ?_
  refine lv_iload hx hb dL_law_286 (lv_at hl 0 rfl) ?_
  refine lv_iconst (v := (1 : Int32)) hx hb dL_law_288 (by decide) ?_
  refine lv_iadd hx hb dL_law_289 ?_
  refine fb_tI (v := (1 : Int32)) (by decide) ?_
  refine va_sld (i := (1 : Int32)) hx hb hX hbl hbA I.2.2 (fb_inC (n := 1) (by decide) (by decide) (by omega)) dL_law_290 ?_
  refine fb_tI (v := (xs 1)) rfl ?_
  refine lv_aload_n hx hb dL_law_291 rfl (lv_at hl 4 rfl) ?_
  refine lv_iload hx hb dL_law_292 (lv_at hl 0 rfl) ?_
  refine lv_iconst (v := (2 : Int32)) hx hb dL_law_294 (by decide) ?_
  refine lv_iadd hx hb dL_law_295 ?_
  refine fb_tI (v := (2 : Int32)) (by decide) ?_
  refine va_sld (i := (2 : Int32)) hx hb hX hbl hbA I.2.2 (fb_inC (n := 2) (by decide) (by decide) (by omega)) dL_law_296 ?_
  refine fb_tI (v := (xs 2)) rfl ?_
  refine lv_aload_n hx hb dL_law_297 rfl (lv_at hl 4 rfl) ?_
  refine lv_iload hx hb dL_law_298 (lv_at hl 0 rfl) ?_
  refine lv_iconst (v := (3 : Int32)) hx hb dL_law_300 (by decide) ?_
  refine lv_iadd hx hb dL_law_301 ?_
  refine fb_tI (v := (3 : Int32)) (by decide) ?_
  refine va_sld (i := (3 : Int32)) hx hb hX hbl hbA I.2.2 (fb_inC (n := 3) (by decide) (by decide) (by omega)) dL_law_302 ?_
  refine fb_tI (v := (xs 3)) rfl ?_
  refine lv_aload_n hx hb dL_law_303 rfl (lv_at hl 4 rfl) ?_
  refine lv_iload hx hb dL_law_304 (lv_at hl 0 rfl) ?_
  refine lv_iconst (v := (4 : Int32)) hx hb dL_law_306 (by decide) ?_
  refine lv_iadd hx hb dL_law_307 ?_
  refine fb_tI (v := (4 : Int32)) (by decide) ?_
  refine va_sld (i := (4 : Int32)) hx hb hX hbl hbA I.2.2 (fb_inC (n := 4) (by decide) (by decide) (by omega)) dL_law_308 ?_
  refine fb_tI (v := (xs 4)) rfl ?_
  refine lv_aload_n hx hb dL_law_309 rfl (lv_at hl 4 rfl) ?_
  refine lv_iload hx hb dL_law_310 (lv_at hl 0 rfl) ?_
  refine lv_iconst (v := (5 : Int32)) hx hb dL_law_312 (by decide) ?_
  refine lv_iadd hx hb dL_law_313 ?_
  refine fb_tI (v := (5 : Int32)) (by decide) ?_
  refine va_sld (i := (5 : Int32)) hx hb hX hbl hbA I.2.2 (fb_inC (n := 5) (by decide) (by decide) (by omega)) dL_law_314 ?_
  refine fb_tI (v := (xs 5)) rfl ?_
  refine lv_aload_n hx hb dL_law_315 rfl (lv_at hl 1 rfl) ?_
  refine fb_gI (cs := [fb_o11 zb zt zn zv zs zp (zq 0) (zu 0) zh zst zre, fb_o9 zt zt0 zt2 zt3 zt4 (fun _ => 0), fb_aw cI zt0 2000 (fun _ => 0), fb_o0 zh (zo 0) (zi 0) fb_h0, fb_jw cJ zx 1 zg]) (rs := [fb_o12 za zr fr_e0, fb_aw (D.1 21) (zr 20) 2000 (fun _ => 0)]) (fun (t : Unit) => [fb_jw cJ zx 1 (vp_updL zg 0 (((20 : Int32)).toInt64)), fb_o12 za zr fr_e0, fb_aw (D.1 21) (zr 20) 2000 (fun _ => 0)]) (fun (t : Unit) => [fb_jw cJ zx 1 (vp_updL zg 0 (((20 : Int32)).toInt64))]) X I [0, 1, 2, 3, 4, 5, 6] 7 rfl (by decide +kernel) rfl rfl [0, 1, 2] 3 (fun _ => rfl) (by decide +kernel) (fun _ => rfl) (fun _ => rfl) (fun I => fb_rSW (As := [.ref zb, .int (xs 1), .int (xs 2), .int (xs 3), .int (xs 4), .int (xs 5), .ref zx]) (rest := []) X hl (fb_goodSW fw_1583 fw_1584 fw_190 fw_1585) (c_w_feed l D cI cJ zb zt zn zv zs zp zq zu zh zst zre zt0 zt2 zt3 zt4 zo zi zx zg (xs 1) (xs 2) (xs 3) (xs 4) (xs 5) _ hst ) rfl rfl (by decide +kernel : fb_hd yL_feed 7) ⟨Nat.le_of_ble_eq_true rfl, Nat.le_of_ble_eq_true rfl⟩ rfl rfl (Nat.le_of_ble_eq_true rfl) ⟨Nat.le_of_ble_eq_true rfl, Nat.le_of_ble_eq_true rfl⟩ dL_law_316 I) ?_
  intro r2 w1 H locs e0 I
  subst e0
  have I : fb_In D (fun q : Nat => s.heap.size ≤ q) s.heap (([fb_jw cJ zx 1 (vp_updL zg 0 (((20 : Int32)).toInt64)), fb_o12 za zr fr_e0, fb_aw (D.1 21) (zr 20) 2000 (fun _ => 0)] : List va_W).flatten) H locs := I
  refine lv_istore (lv' := [(5, .int (0 : Int32)), (4, .int (0 : Int32)), (3, .ref zx), (2, .ref za), (1, .ref zb), (0, .ref b)]) hx hb dL_law_319 hl (by decide) rfl (fun ls hl => ?_)
  refine lv_aload_n hx hb dL_law_321 rfl (lv_at hl 3 rfl) ?_
  refine lv_aload_n hx hb dL_law_322 rfl (lv_at hl 5 rfl) ?_
  refine lv_iload hx hb dL_law_323 (lv_at hl 1 rfl) ?_
  refine lv_iconst (v := (1 : Int32)) hx hb dL_law_325 (by decide) ?_
  refine lv_iadd hx hb dL_law_326 ?_
  refine fb_tI (v := (1 : Int32)) (by decide) ?_
  refine va_sld (i := (1 : Int32)) hx hb hX hbl hbA I.2.2 (fb_inC (n := 1) (by decide) (by decide) (by omega)) dL_law_327 ?_
  refine fb_tI (v := (xs 1)) rfl ?_
  refine lv_aload_n hx hb dL_law_328 rfl (lv_at hl 5 rfl) ?_
  refine lv_iload hx hb dL_law_329 (lv_at hl 1 rfl) ?_
  refine lv_iconst (v := (2 : Int32)) hx hb dL_law_331 (by decide) ?_
  refine lv_iadd hx hb dL_law_332 ?_
  refine fb_tI (v := (2 : Int32)) (by decide) ?_
  refine va_sld (i := (2 : Int32)) hx hb hX hbl hbA I.2.2 (fb_inC (n := 2) (by decide) (by decide) (by omega)) dL_law_333 ?_
  refine fb_tI (v := (xs 2)) rfl ?_
  refine lv_aload_n hx hb dL_law_334 rfl (lv_at hl 5 rfl) ?_
  refine lv_iload hx hb dL_law_335 (lv_at hl 1 rfl) ?_
  refine lv_iconst (v := (3 : Int32)) hx hb dL_law_337 (by decide) ?_
  refine lv_iadd hx hb dL_law_338 ?_
  refine fb_tI (v := (3 : Int32)) (by decide) ?_
  refine va_sld (i := (3 : Int32)) hx hb hX hbl hbA I.2.2 (fb_inC (n := 3) (by decide) (by decide) (by omega)) dL_law_339 ?_
  refine fb_tI (v := (xs 3)) rfl ?_
  refine lv_aload_n hx hb dL_law_340 rfl (lv_at hl 5 rfl) ?_
  refine lv_iload hx hb dL_law_341 (lv_at hl 1 rfl) ?_
  refine lv_iconst (v := (4 : Int32)) hx hb dL_law_343 (by decide) ?_
  refine lv_iadd hx hb dL_law_344 ?_
  refine fb_tI (v := (4 : Int32)) (by decide) ?_
  refine va_sld (i := (4 : Int32)) hx hb hX hbl hbA I.2.2 (fb_inC (n := 4) (by decide) (by decide) (by omega)) dL_law_345 ?_
  refine fb_tI (v := (xs 4)) rfl ?_
  refine lv_aload_n hx hb dL_law_346 rfl (lv_at hl 5 rfl) ?_
  refine lv_iload hx hb dL_law_347 (lv_at hl 1 rfl) ?_
  refine lv_iconst (v := (5 : Int32)) hx hb dL_law_349 (by decide) ?_
  refine lv_iadd hx hb dL_law_350 ?_
  refine fb_tI (v := (5 : Int32)) (by decide) ?_
  refine va_sld (i := (5 : Int32)) hx hb hX hbl hbA I.2.2 (fb_inC (n := 5) (by decide) (by decide) (by omega)) dL_law_351 ?_
  refine fb_tI (v := (xs 5)) rfl ?_
  refine fb_gI (cs := [fb_o12 za zr fr_e0, fb_aw (D.1 21) (zr 20) 2000 (fun _ => 0)]) (rs := [fb_jw cJ zx 1 (vp_updL zg 0 (((20 : Int32)).toInt64))]) (fun (t : fb_AR × Nat) => [fb_jw cJ zx 1 (vp_updL zg 0 (((20 : Int32)).toInt64)), fb_o12 za zr (upd (upd (upd fr_e0 19 (0 : Int32)) 21 (20 : Int32)) 2 (0 : Int32)), fb_aw (D.1 21) (zr 20) 2000 (t.1), fb_aw cI (t.2) 5 (upd (upd (upd (upd (upd (fun _ => 0) 0 (xs 1)) 1 (xs 2)) 2 (xs 3)) 3 (xs 4)) 4 (xs 5))]) (fun (t : fb_AR × Nat) => [fb_o12 za zr (upd (upd (upd fr_e0 19 (0 : Int32)) 21 (20 : Int32)) 2 (0 : Int32)), fb_aw (D.1 21) (zr 20) 2000 (t.1), fb_aw cI (t.2) 5 (upd (upd (upd (upd (upd (fun _ => 0) 0 (xs 1)) 1 (xs 2)) 2 (xs 3)) 3 (xs 4)) 4 (xs 5))]) X I [1, 2, 0] 3 rfl (by decide +kernel) rfl rfl [1, 2, 3, 0] 4 (fun _ => rfl) (by decide +kernel) (fun _ => rfl) (fun _ => rfl) (fun I => fb_rV (As := [.int (xs 1), .int (xs 2), .int (xs 3), .int (xs 4), .int (xs 5)]) (rest := []) X hl (fb_goodV fw_2338 fw_2339 fw_2340 fw_204 fw_2341) (c_feed l D cI cJ za zr (xs 1) (xs 2) (xs 3) (xs 4) (xs 5) (fun _ => 0) _ ) rfl rfl rfl (by decide +kernel : fb_hd yX12_feed 5) ⟨Nat.le_of_ble_eq_true rfl, Nat.le_of_ble_eq_true rfl⟩ rfl rfl rfl rfl rfl (Nat.le_of_ble_eq_true rfl) ⟨Nat.le_of_ble_eq_true rfl, Nat.le_of_ble_eq_true rfl⟩ dL_law_352 I) ?_
  intro r4 w3 H locs e0 I
  subst e0
  obtain ⟨w3_0, w3_1⟩ := w3
  have I : fb_In D (fun q : Nat => s.heap.size ≤ q) s.heap (([fb_jw cJ zx 1 (vp_updL zg 0 (((20 : Int32)).toInt64)), fb_o12 za zr (upd (upd (upd fr_e0 19 (0 : Int32)) 21 (20 : Int32)) 2 (0 : Int32)), fb_aw (D.1 21) (zr 20) 2000 w3_0, fb_aw cI w3_1 5 (upd (upd (upd (upd (upd (fun _ => 0) 0 (xs 1)) 1 (xs 2)) 2 (xs 3)) 3 (xs 4)) 4 (xs 5))] : List va_W).flatten) H locs := I
  refine lv_istore (lv' := [(6, .int (20 : Int32)), (5, .int (0 : Int32)), (4, .int (0 : Int32)), (3, .ref zx), (2, .ref za), (1, .ref zb), (0, .ref b)]) hx hb dL_law_355 hl (by decide) rfl (fun ls hl => ?_)
  refine lv_aload_n hx hb dL_law_357 rfl (lv_at hl 4 rfl) ?_
  refine fb_gO (cs := [fb_o12 za zr (upd (upd (upd fr_e0 19 (0 : Int32)) 21 (20 : Int32)) 2 (0 : Int32))]) (rs := [fb_jw cJ zx 1 (vp_updL zg 0 (((20 : Int32)).toInt64)), fb_aw (D.1 21) (zr 20) 2000 w3_0, fb_aw cI w3_1 5 (upd (upd (upd (upd (upd (fun _ => 0) 0 (xs 1)) 1 (xs 2)) 2 (xs 3)) 3 (xs 4)) 4 (xs 5))]) X I [1, 0, 2, 3] 4 rfl (by decide +kernel) rfl rfl (fun I => fb_rV (As := []) (rest := []) X hl (fb_goodV fw_2119 fw_2120 fw_2121 fw_204 fw_2122) (c_thrown l D cI cJ za zr (upd (upd (upd fr_e0 19 (0 : Int32)) 21 (20 : Int32)) 2 (0 : Int32)) _ ) rfl rfl rfl (by decide +kernel : fb_hd yX12_thrown 0) ⟨Nat.le_of_ble_eq_true rfl, Nat.le_of_ble_eq_true rfl⟩ rfl rfl rfl rfl rfl (Nat.le_of_ble_eq_true rfl) ⟨Nat.le_of_ble_eq_true rfl, Nat.le_of_ble_eq_true rfl⟩ dL_law_358 I) ?_
  refine fb_tI (v := (0 : Int32)) rfl ?_
  refine lv_iload hx hb dL_law_361 (lv_at hl 1 rfl) ?_
  refine lv_icmp_eq (tgt := 368) hx hb dL_law_363 (by decide) (fun _ => ?_) (fun c5 => absurd rfl c5)
  refine lv_iload hx hb dL_law_368 (lv_at hl 1 rfl) ?_
  refine lv_if_ne (tgt := 385) hx hb dL_law_370 (by decide) (fun c6 => absurd (by decide) c6) (fun _ => ?_)
  refine lv_aload_n hx hb dL_law_373 rfl (lv_at hl 3 rfl) ?_
  refine lv_iconst (v := (0 : Int32)) hx hb dL_law_374 (by decide) ?_
  refine va_lald (i := (0 : Int32)) hx hb hK.1 I.1 0 1 rfl rfl (fb_inC (n := 0) (by decide) (by decide) (Nat.le_of_ble_eq_true rfl)) dL_law_375 ?_
  refine fb_tL (v := (((20 : Int32)).toInt64)) rfl ?_
  refine lv_iload hx hb dL_law_376 (lv_at hl 0 rfl) ?_
  refine lv_i2l (v := (((20 : Int32)).toInt64)) hx hb dL_law_378 rfl ?_
  refine W.lcmp hx hb dL_law_379 ?_
  refine fb_tI (v := (0 : Int32)) (lw_cmp0 _) ?_
  refine lv_if_eq (tgt := 385) hx hb dL_law_380 (by decide) (fun _ => ?_) (fun c7 => absurd (by decide) c7)
  refine lv_goto (tgt := 2336) hx hb dL_law_385 (by decide) ?_
  exact lw_end X hX hbl hbA (by omega) I (lv_sub hl [2, 6] rfl) (Nat.le_of_ble_eq_true rfl) (Nat.le_of_ble_eq_true rfl)

set_option maxHeartbeats 4000000 in
set_option maxRecDepth 100000 in
theorem lc_1_a {p : Program} {l : Launch} {e : Env} {s : State} {m : MethodId} {below : List Frame} {meth : Method} {c : Code} {H : Heap} {locs : List Loc} {ls : Array Slot} {D : va_G} {cI cJ : ClassId} {b L : Nat} {xs : Nat → Int32} {zb : Nat} {zt : Nat} {zn : Nat} {zv : Nat} {zs : Nat} {zp : Nat} {zq : Nat → Nat} {zu : Nat → Nat} {zh : Nat} {zst : Nat} {zre : Nat} {zx : Nat} {zg : Nat → Int64} {za : Nat} {zr : Nat → Nat} (hst : l.stackTraces = false) (X : fb_Bx p s m #[Value.ref b] meth c cL_law RL 9 (some .boolean) D (fb_ty D cI cJ) (fun q : Nat => s.heap.size ≤ q)) (hX : va_X b L xs s s.heap) (hbl : b < s.heap.size) (hbA : ¬ (fun q : Nat => s.heap.size ≤ q) b) (hL6 : L = 6) (h0 : (xs 1) < 0) (q1 : f_X12_isIn (xs 1) (0 : Int32) (0 : Int32) = (0 : Int32)) (I : fb_In D (fun q : Nat => s.heap.size ≤ q) s.heap (([fb_o11 zb zt zn zv zs zp (zq 0) (zu 0) zh zst zre, fb_jw cJ zx 1 zg, fb_o12 za zr fr_e0] : List va_W).flatten) H locs) (hl : lv_has ls 9 [(4, .int (0 : Int32)), (3, .ref zx), (2, .ref za), (1, .ref zb), (0, .ref b)]) : W p l e room_1 s m #[Value.ref b] below meth c H locs 209 179241 (lw_Z below #[Value.ref b] s) (F0 m 388 ls []) := by
  obtain ⟨hx, hb, hr, hml, hown, hts, hlk, hA, hK, hF⟩ := id X
  refine lv_aload_n hx hb dL_law_388 rfl (lv_at hl 3 rfl) ?_
  refine lv_aload_n hx hb dL_law_389 rfl (lv_at hl 4 rfl) ?_
  refine lv_iload hx hb dL_law_390 (lv_at hl 0 rfl) ?_
  refine lv_iconst (v := (1 : Int32)) hx hb dL_law_392 (by decide) ?_
  refine lv_iadd hx hb dL_law_393 ?_
  refine fb_tI (v := (1 : Int32)) (by decide) ?_
  refine va_sld (i := (1 : Int32)) hx hb hX hbl hbA I.2.2 (fb_inC (n := 1) (by decide) (by decide) (by omega)) dL_law_394 ?_
  refine fb_tI (v := (xs 1)) rfl ?_
  refine lv_aload_n hx hb dL_law_395 rfl (lv_at hl 1 rfl) ?_
  refine fb_gI (cs := [fb_o11 zb zt zn zv zs zp (zq 0) (zu 0) zh zst zre, fb_jw cJ zx 1 zg]) (rs := [fb_o12 za zr fr_e0]) (fun (t : Unit) => [fb_jw cJ zx 1 zg, fb_o12 za zr fr_e0]) (fun (t : Unit) => [fb_jw cJ zx 1 zg]) X I [0, 1, 2] 3 rfl (by decide +kernel) rfl rfl [0, 1] 2 (fun _ => rfl) (by decide +kernel) (fun _ => rfl) (fun _ => rfl) (fun I => fb_rSW (As := [.ref zb, .int (xs 1), .ref zx]) (rest := []) X hl (fb_goodSW fw_1662 fw_1663 fw_190 fw_1664) (c_w_trim_a l D cI cJ zb zt zn zv zs zp zq zu zh zst zre zx zg (xs 1) _ hst h0) rfl rfl (by decide +kernel : fb_hd yL_trim 3) ⟨Nat.le_of_ble_eq_true rfl, Nat.le_of_ble_eq_true rfl⟩ rfl rfl (Nat.le_of_ble_eq_true rfl) ⟨Nat.le_of_ble_eq_true rfl, Nat.le_of_ble_eq_true rfl⟩ dL_law_396 I) ?_
  intro r2 w1 H locs e0 I
  subst e0
  have I : fb_In D (fun q : Nat => s.heap.size ≤ q) s.heap (([fb_jw cJ zx 1 zg, fb_o12 za zr fr_e0] : List va_W).flatten) H locs := I
  refine lv_istore (lv' := [(5, .int (1 : Int32)), (4, .int (0 : Int32)), (3, .ref zx), (2, .ref za), (1, .ref zb), (0, .ref b)]) hx hb dL_law_399 hl (by decide) rfl (fun ls hl => ?_)
  refine lv_aload_n hx hb dL_law_401 rfl (lv_at hl 3 rfl) ?_
  refine lv_aload_n hx hb dL_law_402 rfl (lv_at hl 5 rfl) ?_
  refine lv_iload hx hb dL_law_403 (lv_at hl 1 rfl) ?_
  refine lv_iconst (v := (1 : Int32)) hx hb dL_law_405 (by decide) ?_
  refine lv_iadd hx hb dL_law_406 ?_
  refine fb_tI (v := (1 : Int32)) (by decide) ?_
  refine va_sld (i := (1 : Int32)) hx hb hX hbl hbA I.2.2 (fb_inC (n := 1) (by decide) (by decide) (by omega)) dL_law_407 ?_
  refine fb_tI (v := (xs 1)) rfl ?_
  refine fb_gI (cs := [fb_o12 za zr fr_e0]) (rs := [fb_jw cJ zx 1 zg]) (fun (t : Unit) => [fb_jw cJ zx 1 zg, fb_o12 za zr (upd (upd fr_e0 19 (0 : Int32)) 19 (1 : Int32))]) (fun (t : Unit) => [fb_o12 za zr (upd (upd fr_e0 19 (0 : Int32)) 19 (1 : Int32))]) X I [1, 0] 2 rfl (by decide +kernel) rfl rfl [1, 0] 2 (fun _ => rfl) (by decide +kernel) (fun _ => rfl) (fun _ => rfl) (fun I => fb_rV (As := [.int (xs 1)]) (rest := []) X hl (fb_goodV fw_2342 fw_2343 fw_2344 fw_204 fw_2345) (c_trim_out l D cI cJ za zr (xs 1) _ q1) rfl rfl rfl (by decide +kernel : fb_hd yX12_trim 1) ⟨Nat.le_of_ble_eq_true rfl, Nat.le_of_ble_eq_true rfl⟩ rfl rfl rfl rfl rfl (Nat.le_of_ble_eq_true rfl) ⟨Nat.le_of_ble_eq_true rfl, Nat.le_of_ble_eq_true rfl⟩ dL_law_408 I) ?_
  intro r4 w3 H locs e0 I
  subst e0
  have I : fb_In D (fun q : Nat => s.heap.size ≤ q) s.heap (([fb_jw cJ zx 1 zg, fb_o12 za zr (upd (upd fr_e0 19 (0 : Int32)) 19 (1 : Int32))] : List va_W).flatten) H locs := I
  refine lv_istore (lv' := [(6, .int (0 : Int32)), (5, .int (1 : Int32)), (4, .int (0 : Int32)), (3, .ref zx), (2, .ref za), (1, .ref zb), (0, .ref b)]) hx hb dL_law_411 hl (by decide) rfl (fun ls hl => ?_)
  refine lv_aload_n hx hb dL_law_413 rfl (lv_at hl 4 rfl) ?_
  refine fb_gO (cs := [fb_o12 za zr (upd (upd fr_e0 19 (0 : Int32)) 19 (1 : Int32))]) (rs := [fb_jw cJ zx 1 zg]) X I [1, 0] 2 rfl (by decide +kernel) rfl rfl (fun I => fb_rV (As := []) (rest := []) X hl (fb_goodV fw_2119 fw_2120 fw_2121 fw_204 fw_2122) (c_thrown l D cI cJ za zr (upd (upd fr_e0 19 (0 : Int32)) 19 (1 : Int32)) _ ) rfl rfl rfl (by decide +kernel : fb_hd yX12_thrown 0) ⟨Nat.le_of_ble_eq_true rfl, Nat.le_of_ble_eq_true rfl⟩ rfl rfl rfl rfl rfl (Nat.le_of_ble_eq_true rfl) ⟨Nat.le_of_ble_eq_true rfl, Nat.le_of_ble_eq_true rfl⟩ dL_law_414 I) ?_
  refine fb_tI (v := (1 : Int32)) rfl ?_
  refine lv_iload hx hb dL_law_417 (lv_at hl 1 rfl) ?_
  refine lv_icmp_eq (tgt := 424) hx hb dL_law_419 (by decide) (fun _ => ?_) (fun c5 => absurd rfl c5)
  refine lv_iload hx hb dL_law_424 (lv_at hl 1 rfl) ?_
  refine lv_if_ne (tgt := 441) hx hb dL_law_426 (by decide) (fun _ => ?_) (fun c6 => absurd c6 (by decide))
  refine lv_goto (tgt := 2336) hx hb dL_law_441 (by decide) ?_
  exact lw_end X hX hbl hbA (by omega) I (lv_sub hl [2, 6] rfl) (Nat.le_of_ble_eq_true rfl) (Nat.le_of_ble_eq_true rfl)

set_option maxHeartbeats 4000000 in
set_option maxRecDepth 100000 in
theorem lc_1_b {p : Program} {l : Launch} {e : Env} {s : State} {m : MethodId} {below : List Frame} {meth : Method} {c : Code} {H : Heap} {locs : List Loc} {ls : Array Slot} {D : va_G} {cI cJ : ClassId} {b L : Nat} {xs : Nat → Int32} {zb : Nat} {zt : Nat} {zn : Nat} {zv : Nat} {zs : Nat} {zp : Nat} {zq : Nat → Nat} {zu : Nat → Nat} {zh : Nat} {zst : Nat} {zre : Nat} {zt0 : Nat} {zt2 : Nat} {zt3 : Nat} {zt4 : Nat} {zx : Nat} {zg : Nat → Int64} {za : Nat} {zr : Nat → Nat} (hst : l.stackTraces = false) (X : fb_Bx p s m #[Value.ref b] meth c cL_law RL 9 (some .boolean) D (fb_ty D cI cJ) (fun q : Nat => s.heap.size ≤ q)) (hX : va_X b L xs s s.heap) (hbl : b < s.heap.size) (hbA : ¬ (fun q : Nat => s.heap.size ≤ q) b) (hL6 : L = 6) (h0 : ¬ (xs 1) < 0) (h1 : ¬ (xs 1) ≤ (0 : Int32)) (q1 : f_X12_isIn (xs 1) (0 : Int32) (0 : Int32) = (0 : Int32)) (I : fb_In D (fun q : Nat => s.heap.size ≤ q) s.heap (([fb_o11 zb zt zn zv zs zp (zq 0) (zu 0) zh zst zre, fb_o9 zt zt0 zt2 zt3 zt4 (fun _ => 0), fb_jw cJ zx 1 zg, fb_o12 za zr fr_e0] : List va_W).flatten) H locs) (hl : lv_has ls 9 [(4, .int (0 : Int32)), (3, .ref zx), (2, .ref za), (1, .ref zb), (0, .ref b)]) : W p l e room_1 s m #[Value.ref b] below meth c H locs 209 179241 (lw_Z below #[Value.ref b] s) (F0 m 388 ls []) := by
  obtain ⟨hx, hb, hr, hml, hown, hts, hlk, hA, hK, hF⟩ := id X
  refine lv_aload_n hx hb dL_law_388 rfl (lv_at hl 3 rfl) ?_
  refine lv_aload_n hx hb dL_law_389 rfl (lv_at hl 4 rfl) ?_
  refine lv_iload hx hb dL_law_390 (lv_at hl 0 rfl) ?_
  refine lv_iconst (v := (1 : Int32)) hx hb dL_law_392 (by decide) ?_
  refine lv_iadd hx hb dL_law_393 ?_
  refine fb_tI (v := (1 : Int32)) (by decide) ?_
  refine va_sld (i := (1 : Int32)) hx hb hX hbl hbA I.2.2 (fb_inC (n := 1) (by decide) (by decide) (by omega)) dL_law_394 ?_
  refine fb_tI (v := (xs 1)) rfl ?_
  refine lv_aload_n hx hb dL_law_395 rfl (lv_at hl 1 rfl) ?_
  refine fb_gI (cs := [fb_o11 zb zt zn zv zs zp (zq 0) (zu 0) zh zst zre, fb_o9 zt zt0 zt2 zt3 zt4 (fun _ => 0), fb_jw cJ zx 1 zg]) (rs := [fb_o12 za zr fr_e0]) (fun (t : Unit) => [fb_jw cJ zx 1 zg, fb_o12 za zr fr_e0]) (fun (t : Unit) => [fb_jw cJ zx 1 zg]) X I [0, 1, 2, 3] 4 rfl (by decide +kernel) rfl rfl [0, 1] 2 (fun _ => rfl) (by decide +kernel) (fun _ => rfl) (fun _ => rfl) (fun I => fb_rSW (As := [.ref zb, .int (xs 1), .ref zx]) (rest := []) X hl (fb_goodSW fw_1662 fw_1663 fw_190 fw_1664) (c_w_trim_b l D cI cJ zb zt zn zv zs zp zq zu zh zst zre zt0 zt2 zt3 zt4 zx zg (xs 1) _ hst h0 h1) rfl rfl (by decide +kernel : fb_hd yL_trim 3) ⟨Nat.le_of_ble_eq_true rfl, Nat.le_of_ble_eq_true rfl⟩ rfl rfl (Nat.le_of_ble_eq_true rfl) ⟨Nat.le_of_ble_eq_true rfl, Nat.le_of_ble_eq_true rfl⟩ dL_law_396 I) ?_
  intro r2 w1 H locs e0 I
  subst e0
  have I : fb_In D (fun q : Nat => s.heap.size ≤ q) s.heap (([fb_jw cJ zx 1 zg, fb_o12 za zr fr_e0] : List va_W).flatten) H locs := I
  refine lv_istore (lv' := [(5, .int (1 : Int32)), (4, .int (0 : Int32)), (3, .ref zx), (2, .ref za), (1, .ref zb), (0, .ref b)]) hx hb dL_law_399 hl (by decide) rfl (fun ls hl => ?_)
  refine lv_aload_n hx hb dL_law_401 rfl (lv_at hl 3 rfl) ?_
  refine lv_aload_n hx hb dL_law_402 rfl (lv_at hl 5 rfl) ?_
  refine lv_iload hx hb dL_law_403 (lv_at hl 1 rfl) ?_
  refine lv_iconst (v := (1 : Int32)) hx hb dL_law_405 (by decide) ?_
  refine lv_iadd hx hb dL_law_406 ?_
  refine fb_tI (v := (1 : Int32)) (by decide) ?_
  refine va_sld (i := (1 : Int32)) hx hb hX hbl hbA I.2.2 (fb_inC (n := 1) (by decide) (by decide) (by omega)) dL_law_407 ?_
  refine fb_tI (v := (xs 1)) rfl ?_
  refine fb_gI (cs := [fb_o12 za zr fr_e0]) (rs := [fb_jw cJ zx 1 zg]) (fun (t : Unit) => [fb_jw cJ zx 1 zg, fb_o12 za zr (upd (upd fr_e0 19 (0 : Int32)) 19 (1 : Int32))]) (fun (t : Unit) => [fb_o12 za zr (upd (upd fr_e0 19 (0 : Int32)) 19 (1 : Int32))]) X I [1, 0] 2 rfl (by decide +kernel) rfl rfl [1, 0] 2 (fun _ => rfl) (by decide +kernel) (fun _ => rfl) (fun _ => rfl) (fun I => fb_rV (As := [.int (xs 1)]) (rest := []) X hl (fb_goodV fw_2342 fw_2343 fw_2344 fw_204 fw_2345) (c_trim_out l D cI cJ za zr (xs 1) _ q1) rfl rfl rfl (by decide +kernel : fb_hd yX12_trim 1) ⟨Nat.le_of_ble_eq_true rfl, Nat.le_of_ble_eq_true rfl⟩ rfl rfl rfl rfl rfl (Nat.le_of_ble_eq_true rfl) ⟨Nat.le_of_ble_eq_true rfl, Nat.le_of_ble_eq_true rfl⟩ dL_law_408 I) ?_
  intro r4 w3 H locs e0 I
  subst e0
  have I : fb_In D (fun q : Nat => s.heap.size ≤ q) s.heap (([fb_jw cJ zx 1 zg, fb_o12 za zr (upd (upd fr_e0 19 (0 : Int32)) 19 (1 : Int32))] : List va_W).flatten) H locs := I
  refine lv_istore (lv' := [(6, .int (0 : Int32)), (5, .int (1 : Int32)), (4, .int (0 : Int32)), (3, .ref zx), (2, .ref za), (1, .ref zb), (0, .ref b)]) hx hb dL_law_411 hl (by decide) rfl (fun ls hl => ?_)
  refine lv_aload_n hx hb dL_law_413 rfl (lv_at hl 4 rfl) ?_
  refine fb_gO (cs := [fb_o12 za zr (upd (upd fr_e0 19 (0 : Int32)) 19 (1 : Int32))]) (rs := [fb_jw cJ zx 1 zg]) X I [1, 0] 2 rfl (by decide +kernel) rfl rfl (fun I => fb_rV (As := []) (rest := []) X hl (fb_goodV fw_2119 fw_2120 fw_2121 fw_204 fw_2122) (c_thrown l D cI cJ za zr (upd (upd fr_e0 19 (0 : Int32)) 19 (1 : Int32)) _ ) rfl rfl rfl (by decide +kernel : fb_hd yX12_thrown 0) ⟨Nat.le_of_ble_eq_true rfl, Nat.le_of_ble_eq_true rfl⟩ rfl rfl rfl rfl rfl (Nat.le_of_ble_eq_true rfl) ⟨Nat.le_of_ble_eq_true rfl, Nat.le_of_ble_eq_true rfl⟩ dL_law_414 I) ?_
  refine fb_tI (v := (1 : Int32)) rfl ?_
  refine lv_iload hx hb dL_law_417 (lv_at hl 1 rfl) ?_
  refine lv_icmp_eq (tgt := 424) hx hb dL_law_419 (by decide) (fun _ => ?_) (fun c5 => absurd rfl c5)
  refine lv_iload hx hb dL_law_424 (lv_at hl 1 rfl) ?_
  refine lv_if_ne (tgt := 441) hx hb dL_law_426 (by decide) (fun _ => ?_) (fun c6 => absurd c6 (by decide))
  refine lv_goto (tgt := 2336) hx hb dL_law_441 (by decide) ?_
  exact lw_end X hX hbl hbA (by omega) I (lv_sub hl [2, 6] rfl) (Nat.le_of_ble_eq_true rfl) (Nat.le_of_ble_eq_true rfl)

set_option maxHeartbeats 4000000 in
set_option maxRecDepth 100000 in
theorem lc_1_i {p : Program} {l : Launch} {e : Env} {s : State} {m : MethodId} {below : List Frame} {meth : Method} {c : Code} {H : Heap} {locs : List Loc} {ls : Array Slot} {D : va_G} {cI cJ : ClassId} {b L : Nat} {xs : Nat → Int32} {zb : Nat} {zt : Nat} {zn : Nat} {zv : Nat} {zs : Nat} {zp : Nat} {zq : Nat → Nat} {zu : Nat → Nat} {zh : Nat} {zst : Nat} {zre : Nat} {zt0 : Nat} {zt2 : Nat} {zt3 : Nat} {zt4 : Nat} {zo : Nat → Nat} {zi : Nat → Nat} {zx : Nat} {zg : Nat → Int64} {za : Nat} {zr : Nat → Nat} (hst : l.stackTraces = false) (X : fb_Bx p s m #[Value.ref b] meth c cL_law RL 9 (some .boolean) D (fb_ty D cI cJ) (fun q : Nat => s.heap.size ≤ q)) (hX : va_X b L xs s s.heap) (hbl : b < s.heap.size) (hbA : ¬ (fun q : Nat => s.heap.size ≤ q) b) (hL6 : L = 6) (hz : xs 1 = 0) (I : fb_In D (fun q : Nat => s.heap.size ≤ q) s.heap (([fb_o11 zb zt zn zv zs zp (zq 0) (zu 0) zh zst zre, fb_o9 zt zt0 zt2 zt3 zt4 (fun _ => 0), fb_o0 zh (zo 0) (zi 0) fb_h0, fb_jw cJ zx 1 zg, fb_o12 za zr fr_e0] : List va_W).flatten) H locs) (hl : lv_has ls 9 [(4, .int (0 : Int32)), (3, .ref zx), (2, .ref za), (1, .ref zb), (0, .ref b)]) : W p l e room_1 s m #[Value.ref b] below meth c H locs 209 179241 (lw_Z below #[Value.ref b] s) (F0 m 388 ls []) := by
  obtain ⟨hx, hb, hr, hml, hown, hts, hlk, hA, hK, hF⟩ := id X
  refine lv_aload_n hx hb dL_law_388 rfl (lv_at hl 3 rfl) ?_
  refine lv_aload_n hx hb dL_law_389 rfl (lv_at hl 4 rfl) ?_
  refine lv_iload hx hb dL_law_390 (lv_at hl 0 rfl) ?_
  refine lv_iconst (v := (1 : Int32)) hx hb dL_law_392 (by decide) ?_
  refine lv_iadd hx hb dL_law_393 ?_
  refine fb_tI (v := (1 : Int32)) (by decide) ?_
  refine va_sld (i := (1 : Int32)) hx hb hX hbl hbA I.2.2 (fb_inC (n := 1) (by decide) (by decide) (by omega)) dL_law_394 ?_
  refine fb_tI (v := (xs 1)) rfl ?_
  refine fb_tI (v := (0 : Int32)) hz ?_
  refine lv_aload_n hx hb dL_law_395 rfl (lv_at hl 1 rfl) ?_
  refine fb_gI (cs := [fb_o11 zb zt zn zv zs zp (zq 0) (zu 0) zh zst zre, fb_o9 zt zt0 zt2 zt3 zt4 (fun _ => 0), fb_o0 zh (zo 0) (zi 0) fb_h0, fb_jw cJ zx 1 zg]) (rs := [fb_o12 za zr fr_e0]) (fun (t : Unit) => [fb_jw cJ zx 1 (vp_updL zg 0 (((0 : Int32)).toInt64)), fb_o12 za zr fr_e0]) (fun (t : Unit) => [fb_jw cJ zx 1 (vp_updL zg 0 (((0 : Int32)).toInt64))]) X I [0, 1, 2, 3, 4] 5 rfl (by decide +kernel) rfl rfl [0, 1] 2 (fun _ => rfl) (by decide +kernel) (fun _ => rfl) (fun _ => rfl) (fun I => fb_rSW (As := [.ref zb, .int (0 : Int32), .ref zx]) (rest := []) X hl (fb_goodSW fw_1662 fw_1663 fw_190 fw_1664) (c_w_trim_in l D cI cJ zb zt zn zv zs zp zq zu zh zst zre zt0 zt2 zt3 zt4 zo zi zx zg _ hst ) rfl rfl (by decide +kernel : fb_hd yL_trim 3) ⟨Nat.le_of_ble_eq_true rfl, Nat.le_of_ble_eq_true rfl⟩ rfl rfl (Nat.le_of_ble_eq_true rfl) ⟨Nat.le_of_ble_eq_true rfl, Nat.le_of_ble_eq_true rfl⟩ dL_law_396 I) ?_
  intro r2 w1 H locs e0 I
  subst e0
  have I : fb_In D (fun q : Nat => s.heap.size ≤ q) s.heap (([fb_jw cJ zx 1 (vp_updL zg 0 (((0 : Int32)).toInt64)), fb_o12 za zr fr_e0] : List va_W).flatten) H locs := I
  refine lv_istore (lv' := [(5, .int (0 : Int32)), (4, .int (0 : Int32)), (3, .ref zx), (2, .ref za), (1, .ref zb), (0, .ref b)]) hx hb dL_law_399 hl (by decide) rfl (fun ls hl => ?_)
  refine lv_aload_n hx hb dL_law_401 rfl (lv_at hl 3 rfl) ?_
  refine lv_aload_n hx hb dL_law_402 rfl (lv_at hl 5 rfl) ?_
  refine lv_iload hx hb dL_law_403 (lv_at hl 1 rfl) ?_
  refine lv_iconst (v := (1 : Int32)) hx hb dL_law_405 (by decide) ?_
  refine lv_iadd hx hb dL_law_406 ?_
  refine fb_tI (v := (1 : Int32)) (by decide) ?_
  refine va_sld (i := (1 : Int32)) hx hb hX hbl hbA I.2.2 (fb_inC (n := 1) (by decide) (by decide) (by omega)) dL_law_407 ?_
  refine fb_tI (v := (xs 1)) rfl ?_
  refine fb_tI (v := (0 : Int32)) hz ?_
  refine fb_gI (cs := [fb_o12 za zr fr_e0]) (rs := [fb_jw cJ zx 1 (vp_updL zg 0 (((0 : Int32)).toInt64))]) (fun (t : Unit) => [fb_jw cJ zx 1 (vp_updL zg 0 (((0 : Int32)).toInt64)), fb_o12 za zr (upd (upd (upd fr_e0 19 (0 : Int32)) 21 (0 : Int32)) 2 (0 : Int32))]) (fun (t : Unit) => [fb_o12 za zr (upd (upd (upd fr_e0 19 (0 : Int32)) 21 (0 : Int32)) 2 (0 : Int32))]) X I [1, 0] 2 rfl (by decide +kernel) rfl rfl [1, 0] 2 (fun _ => rfl) (by decide +kernel) (fun _ => rfl) (fun _ => rfl) (fun I => fb_rV (As := [.int (0 : Int32)]) (rest := []) X hl (fb_goodV fw_2342 fw_2343 fw_2344 fw_204 fw_2345) (c_trim_in l D cI cJ za zr _ ) rfl rfl rfl (by decide +kernel : fb_hd yX12_trim 1) ⟨Nat.le_of_ble_eq_true rfl, Nat.le_of_ble_eq_true rfl⟩ rfl rfl rfl rfl rfl (Nat.le_of_ble_eq_true rfl) ⟨Nat.le_of_ble_eq_true rfl, Nat.le_of_ble_eq_true rfl⟩ dL_law_408 I) ?_
  intro r4 w3 H locs e0 I
  subst e0
  have I : fb_In D (fun q : Nat => s.heap.size ≤ q) s.heap (([fb_jw cJ zx 1 (vp_updL zg 0 (((0 : Int32)).toInt64)), fb_o12 za zr (upd (upd (upd fr_e0 19 (0 : Int32)) 21 (0 : Int32)) 2 (0 : Int32))] : List va_W).flatten) H locs := I
  refine lv_istore (lv' := [(6, .int (0 : Int32)), (5, .int (0 : Int32)), (4, .int (0 : Int32)), (3, .ref zx), (2, .ref za), (1, .ref zb), (0, .ref b)]) hx hb dL_law_411 hl (by decide) rfl (fun ls hl => ?_)
  refine lv_aload_n hx hb dL_law_413 rfl (lv_at hl 4 rfl) ?_
  refine fb_gO (cs := [fb_o12 za zr (upd (upd (upd fr_e0 19 (0 : Int32)) 21 (0 : Int32)) 2 (0 : Int32))]) (rs := [fb_jw cJ zx 1 (vp_updL zg 0 (((0 : Int32)).toInt64))]) X I [1, 0] 2 rfl (by decide +kernel) rfl rfl (fun I => fb_rV (As := []) (rest := []) X hl (fb_goodV fw_2119 fw_2120 fw_2121 fw_204 fw_2122) (c_thrown l D cI cJ za zr (upd (upd (upd fr_e0 19 (0 : Int32)) 21 (0 : Int32)) 2 (0 : Int32)) _ ) rfl rfl rfl (by decide +kernel : fb_hd yX12_thrown 0) ⟨Nat.le_of_ble_eq_true rfl, Nat.le_of_ble_eq_true rfl⟩ rfl rfl rfl rfl rfl (Nat.le_of_ble_eq_true rfl) ⟨Nat.le_of_ble_eq_true rfl, Nat.le_of_ble_eq_true rfl⟩ dL_law_414 I) ?_
  refine fb_tI (v := (0 : Int32)) rfl ?_
  refine lv_iload hx hb dL_law_417 (lv_at hl 1 rfl) ?_
  refine lv_icmp_eq (tgt := 424) hx hb dL_law_419 (by decide) (fun _ => ?_) (fun c5 => absurd rfl c5)
  refine lv_iload hx hb dL_law_424 (lv_at hl 1 rfl) ?_
  refine lv_if_ne (tgt := 441) hx hb dL_law_426 (by decide) (fun c6 => absurd (by decide) c6) (fun _ => ?_)
  refine lv_aload_n hx hb dL_law_429 rfl (lv_at hl 3 rfl) ?_
  refine lv_iconst (v := (0 : Int32)) hx hb dL_law_430 (by decide) ?_
  refine va_lald (i := (0 : Int32)) hx hb hK.1 I.1 0 1 rfl rfl (fb_inC (n := 0) (by decide) (by decide) (Nat.le_of_ble_eq_true rfl)) dL_law_431 ?_
  refine fb_tL (v := (((0 : Int32)).toInt64)) rfl ?_
  refine lv_iload hx hb dL_law_432 (lv_at hl 0 rfl) ?_
  refine lv_i2l (v := (((0 : Int32)).toInt64)) hx hb dL_law_434 rfl ?_
  refine W.lcmp hx hb dL_law_435 ?_
  refine fb_tI (v := (0 : Int32)) (lw_cmp0 _) ?_
  refine lv_if_eq (tgt := 441) hx hb dL_law_436 (by decide) (fun _ => ?_) (fun c7 => absurd (by decide) c7)
  refine lv_goto (tgt := 2336) hx hb dL_law_441 (by decide) ?_
  exact lw_end X hX hbl hbA (by omega) I (lv_sub hl [2, 6] rfl) (Nat.le_of_ble_eq_true rfl) (Nat.le_of_ble_eq_true rfl)

set_option maxHeartbeats 4000000 in
set_option maxRecDepth 100000 in
theorem lc_5_a {p : Program} {l : Launch} {e : Env} {s : State} {m : MethodId} {below : List Frame} {meth : Method} {c : Code} {H : Heap} {locs : List Loc} {ls : Array Slot} {D : va_G} {cI cJ : ClassId} {b L : Nat} {xs : Nat → Int32} {zb : Nat} {zt : Nat} {zn : Nat} {zv : Nat} {zs : Nat} {zp : Nat} {zq : Nat → Nat} {zu : Nat → Nat} {zh : Nat} {zst : Nat} {zre : Nat} {zx : Nat} {zg : Nat → Int64} {za : Nat} {zr : Nat → Nat} (hst : l.stackTraces = false) (X : fb_Bx p s m #[Value.ref b] meth c cL_law RL 9 (some .boolean) D (fb_ty D cI cJ) (fun q : Nat => s.heap.size ≤ q)) (hX : va_X b L xs s s.heap) (hbl : b < s.heap.size) (hbA : ¬ (fun q : Nat => s.heap.size ≤ q) b) (hL6 : L = 6) (h0 : (xs 1) < 0) (I : fb_In D (fun q : Nat => s.heap.size ≤ q) s.heap (([fb_o11 zb zt zn zv zs zp (zq 0) (zu 0) zh zst zre, fb_jw cJ zx 1 zg, fb_o12 za zr fr_e0] : List va_W).flatten) H locs) (hl : lv_has ls 9 [(4, .int (0 : Int32)), (3, .ref zx), (2, .ref za), (1, .ref zb), (0, .ref b)]) : W p l e room_1 s m #[Value.ref b] below meth c H locs 209 179241 (lw_Z below #[Value.ref b] s) (F0 m 483 ls []) := by
  obtain ⟨hx, hb, hr, hml, hown, hts, hlk, hA, hK, hF⟩ := id X
  refine lv_aload_n hx hb dL_law_483 rfl (lv_at hl 3 rfl) ?_
  refine lv_aload_n hx hb dL_law_484 rfl (lv_at hl 4 rfl) ?_
  refine lv_iload hx hb dL_law_485 (lv_at hl 0 rfl) ?_
  refine lv_iconst (v := (1 : Int32)) hx hb dL_law_487 (by decide) ?_
  refine lv_iadd hx hb dL_law_488 ?_
  refine fb_tI (v := (1 : Int32)) (by decide) ?_
  refine va_sld (i := (1 : Int32)) hx hb hX hbl hbA I.2.2 (fb_inC (n := 1) (by decide) (by decide) (by omega)) dL_law_489 ?_
  refine fb_tI (v := (xs 1)) rfl ?_
  refine lv_aload_n hx hb dL_law_490 rfl (lv_at hl 1 rfl) ?_
  refine fb_gI (cs := [fb_o11 zb zt zn zv zs zp (zq 0) (zu 0) zh zst zre, fb_jw cJ zx 1 zg]) (rs := [fb_o12 za zr fr_e0]) (fun (t : Unit) => [fb_jw cJ zx 1 zg, fb_o12 za zr fr_e0]) (fun (t : Unit) => [fb_jw cJ zx 1 zg]) X I [0, 1, 2] 3 rfl (by decide +kernel) rfl rfl [0, 1] 2 (fun _ => rfl) (by decide +kernel) (fun _ => rfl) (fun _ => rfl) (fun I => fb_rSW (As := [.ref zb, .int (xs 1), .ref zx]) (rest := []) X hl (fb_goodSW fw_1686 fw_1687 fw_190 fw_1688) (c_w_valueOf_a l D cI cJ zb zt zn zv zs zp zq zu zh zst zre zx zg (xs 1) _ hst h0) rfl rfl (by decide +kernel : fb_hd yL_valueOf 3) ⟨Nat.le_of_ble_eq_true rfl, Nat.le_of_ble_eq_true rfl⟩ rfl rfl (Nat.le_of_ble_eq_true rfl) ⟨Nat.le_of_ble_eq_true rfl, Nat.le_of_ble_eq_true rfl⟩ dL_law_491 I) ?_
  intro r2 w1 H locs e0 I
  subst e0
  have I : fb_In D (fun q : Nat => s.heap.size ≤ q) s.heap (([fb_jw cJ zx 1 zg, fb_o12 za zr fr_e0] : List va_W).flatten) H locs := I
  refine lv_istore (lv' := [(5, .int (1 : Int32)), (4, .int (0 : Int32)), (3, .ref zx), (2, .ref za), (1, .ref zb), (0, .ref b)]) hx hb dL_law_494 hl (by decide) rfl (fun ls hl => ?_)
  refine lv_aload_n hx hb dL_law_496 rfl (lv_at hl 3 rfl) ?_
  refine lv_aload_n hx hb dL_law_497 rfl (lv_at hl 5 rfl) ?_
  refine lv_iload hx hb dL_law_498 (lv_at hl 1 rfl) ?_
  refine lv_iconst (v := (1 : Int32)) hx hb dL_law_500 (by decide) ?_
  refine lv_iadd hx hb dL_law_501 ?_
  refine fb_tI (v := (1 : Int32)) (by decide) ?_
  refine va_sld (i := (1 : Int32)) hx hb hX hbl hbA I.2.2 (fb_inC (n := 1) (by decide) (by decide) (by omega)) dL_law_502 ?_
  refine fb_tI (v := (xs 1)) rfl ?_
  refine fb_gI (cs := [fb_o12 za zr fr_e0]) (rs := [fb_jw cJ zx 1 zg]) (fun (t : Unit) => [fb_jw cJ zx 1 zg, fb_o12 za zr (upd (upd fr_e0 19 (0 : Int32)) 19 (1 : Int32))]) (fun (t : Unit) => [fb_o12 za zr (upd (upd fr_e0 19 (0 : Int32)) 19 (1 : Int32))]) X I [1, 0] 2 rfl (by decide +kernel) rfl rfl [1, 0] 2 (fun _ => rfl) (by decide +kernel) (fun _ => rfl) (fun _ => rfl) (fun I => fb_rV (As := [.int (xs 1)]) (rest := []) X hl (fb_goodV fw_2362 fw_2363 fw_2364 fw_204 fw_2365) (c_valueOf l D cI cJ za zr (xs 1) _ ) rfl rfl rfl (by decide +kernel : fb_hd yX12_valueOf 1) ⟨Nat.le_of_ble_eq_true rfl, Nat.le_of_ble_eq_true rfl⟩ rfl rfl rfl rfl rfl (Nat.le_of_ble_eq_true rfl) ⟨Nat.le_of_ble_eq_true rfl, Nat.le_of_ble_eq_true rfl⟩ dL_law_503 I) ?_
  intro r4 w3 H locs e0 I
  subst e0
  have I : fb_In D (fun q : Nat => s.heap.size ≤ q) s.heap (([fb_jw cJ zx 1 zg, fb_o12 za zr (upd (upd fr_e0 19 (0 : Int32)) 19 (1 : Int32))] : List va_W).flatten) H locs := I
  refine lv_istore (lv' := [(6, .int (0 : Int32)), (5, .int (1 : Int32)), (4, .int (0 : Int32)), (3, .ref zx), (2, .ref za), (1, .ref zb), (0, .ref b)]) hx hb dL_law_506 hl (by decide) rfl (fun ls hl => ?_)
  refine lv_aload_n hx hb dL_law_508 rfl (lv_at hl 4 rfl) ?_
  refine fb_gO (cs := [fb_o12 za zr (upd (upd fr_e0 19 (0 : Int32)) 19 (1 : Int32))]) (rs := [fb_jw cJ zx 1 zg]) X I [1, 0] 2 rfl (by decide +kernel) rfl rfl (fun I => fb_rV (As := []) (rest := []) X hl (fb_goodV fw_2119 fw_2120 fw_2121 fw_204 fw_2122) (c_thrown l D cI cJ za zr (upd (upd fr_e0 19 (0 : Int32)) 19 (1 : Int32)) _ ) rfl rfl rfl (by decide +kernel : fb_hd yX12_thrown 0) ⟨Nat.le_of_ble_eq_true rfl, Nat.le_of_ble_eq_true rfl⟩ rfl rfl rfl rfl rfl (Nat.le_of_ble_eq_true rfl) ⟨Nat.le_of_ble_eq_true rfl, Nat.le_of_ble_eq_true rfl⟩ dL_law_509 I) ?_
  refine fb_tI (v := (1 : Int32)) rfl ?_
  refine lv_iload hx hb dL_law_512 (lv_at hl 1 rfl) ?_
  refine lv_icmp_eq (tgt := 519) hx hb dL_law_514 (by decide) (fun _ => ?_) (fun c5 => absurd rfl c5)
  refine lv_iload hx hb dL_law_519 (lv_at hl 1 rfl) ?_
  refine lv_if_ne (tgt := 536) hx hb dL_law_521 (by decide) (fun _ => ?_) (fun c6 => absurd c6 (by decide))
  refine lv_goto (tgt := 2336) hx hb dL_law_536 (by decide) ?_
  exact lw_end X hX hbl hbA (by omega) I (lv_sub hl [2, 6] rfl) (Nat.le_of_ble_eq_true rfl) (Nat.le_of_ble_eq_true rfl)

set_option maxHeartbeats 4000000 in
set_option maxRecDepth 100000 in
theorem lc_5_b {p : Program} {l : Launch} {e : Env} {s : State} {m : MethodId} {below : List Frame} {meth : Method} {c : Code} {H : Heap} {locs : List Loc} {ls : Array Slot} {D : va_G} {cI cJ : ClassId} {b L : Nat} {xs : Nat → Int32} {zb : Nat} {zt : Nat} {zn : Nat} {zv : Nat} {zs : Nat} {zp : Nat} {zq : Nat → Nat} {zu : Nat → Nat} {zh : Nat} {zst : Nat} {zre : Nat} {zn0 : Nat} {zn1 : Nat} {zn3 : Nat} {zx : Nat} {zg : Nat → Int64} {za : Nat} {zr : Nat → Nat} (hst : l.stackTraces = false) (X : fb_Bx p s m #[Value.ref b] meth c cL_law RL 9 (some .boolean) D (fb_ty D cI cJ) (fun q : Nat => s.heap.size ≤ q)) (hX : va_X b L xs s s.heap) (hbl : b < s.heap.size) (hbA : ¬ (fun q : Nat => s.heap.size ≤ q) b) (hL6 : L = 6) (h0 : ¬ (xs 1) < 0) (h1 : (0 : Int32) ≤ (xs 1)) (I : fb_In D (fun q : Nat => s.heap.size ≤ q) s.heap (([fb_o11 zb zt zn zv zs zp (zq 0) (zu 0) zh zst zre, fb_o3 zn zn0 zn1 zn3 (fun _ => 0), fb_jw cJ zx 1 zg, fb_o12 za zr fr_e0] : List va_W).flatten) H locs) (hl : lv_has ls 9 [(4, .int (0 : Int32)), (3, .ref zx), (2, .ref za), (1, .ref zb), (0, .ref b)]) : W p l e room_1 s m #[Value.ref b] below meth c H locs 209 179241 (lw_Z below #[Value.ref b] s) (F0 m 483 ls []) := by
  obtain ⟨hx, hb, hr, hml, hown, hts, hlk, hA, hK, hF⟩ := id X
  refine lv_aload_n hx hb dL_law_483 rfl (lv_at hl 3 rfl) ?_
  refine lv_aload_n hx hb dL_law_484 rfl (lv_at hl 4 rfl) ?_
  refine lv_iload hx hb dL_law_485 (lv_at hl 0 rfl) ?_
  refine lv_iconst (v := (1 : Int32)) hx hb dL_law_487 (by decide) ?_
  refine lv_iadd hx hb dL_law_488 ?_
  refine fb_tI (v := (1 : Int32)) (by decide) ?_
  refine va_sld (i := (1 : Int32)) hx hb hX hbl hbA I.2.2 (fb_inC (n := 1) (by decide) (by decide) (by omega)) dL_law_489 ?_
  refine fb_tI (v := (xs 1)) rfl ?_
  refine lv_aload_n hx hb dL_law_490 rfl (lv_at hl 1 rfl) ?_
  refine fb_gI (cs := [fb_o11 zb zt zn zv zs zp (zq 0) (zu 0) zh zst zre, fb_o3 zn zn0 zn1 zn3 (fun _ => 0), fb_jw cJ zx 1 zg]) (rs := [fb_o12 za zr fr_e0]) (fun (t : Unit) => [fb_jw cJ zx 1 zg, fb_o12 za zr fr_e0]) (fun (t : Unit) => [fb_jw cJ zx 1 zg]) X I [0, 1, 2, 3] 4 rfl (by decide +kernel) rfl rfl [0, 1] 2 (fun _ => rfl) (by decide +kernel) (fun _ => rfl) (fun _ => rfl) (fun I => fb_rSW (As := [.ref zb, .int (xs 1), .ref zx]) (rest := []) X hl (fb_goodSW fw_1686 fw_1687 fw_190 fw_1688) (c_w_valueOf_b l D cI cJ zb zt zn zv zs zp zq zu zh zst zre zn0 zn1 zn3 zx zg (xs 1) _ hst h0 h1) rfl rfl (by decide +kernel : fb_hd yL_valueOf 3) ⟨Nat.le_of_ble_eq_true rfl, Nat.le_of_ble_eq_true rfl⟩ rfl rfl (Nat.le_of_ble_eq_true rfl) ⟨Nat.le_of_ble_eq_true rfl, Nat.le_of_ble_eq_true rfl⟩ dL_law_491 I) ?_
  intro r2 w1 H locs e0 I
  subst e0
  have I : fb_In D (fun q : Nat => s.heap.size ≤ q) s.heap (([fb_jw cJ zx 1 zg, fb_o12 za zr fr_e0] : List va_W).flatten) H locs := I
  refine lv_istore (lv' := [(5, .int (1 : Int32)), (4, .int (0 : Int32)), (3, .ref zx), (2, .ref za), (1, .ref zb), (0, .ref b)]) hx hb dL_law_494 hl (by decide) rfl (fun ls hl => ?_)
  refine lv_aload_n hx hb dL_law_496 rfl (lv_at hl 3 rfl) ?_
  refine lv_aload_n hx hb dL_law_497 rfl (lv_at hl 5 rfl) ?_
  refine lv_iload hx hb dL_law_498 (lv_at hl 1 rfl) ?_
  refine lv_iconst (v := (1 : Int32)) hx hb dL_law_500 (by decide) ?_
  refine lv_iadd hx hb dL_law_501 ?_
  refine fb_tI (v := (1 : Int32)) (by decide) ?_
  refine va_sld (i := (1 : Int32)) hx hb hX hbl hbA I.2.2 (fb_inC (n := 1) (by decide) (by decide) (by omega)) dL_law_502 ?_
  refine fb_tI (v := (xs 1)) rfl ?_
  refine fb_gI (cs := [fb_o12 za zr fr_e0]) (rs := [fb_jw cJ zx 1 zg]) (fun (t : Unit) => [fb_jw cJ zx 1 zg, fb_o12 za zr (upd (upd fr_e0 19 (0 : Int32)) 19 (1 : Int32))]) (fun (t : Unit) => [fb_o12 za zr (upd (upd fr_e0 19 (0 : Int32)) 19 (1 : Int32))]) X I [1, 0] 2 rfl (by decide +kernel) rfl rfl [1, 0] 2 (fun _ => rfl) (by decide +kernel) (fun _ => rfl) (fun _ => rfl) (fun I => fb_rV (As := [.int (xs 1)]) (rest := []) X hl (fb_goodV fw_2362 fw_2363 fw_2364 fw_204 fw_2365) (c_valueOf l D cI cJ za zr (xs 1) _ ) rfl rfl rfl (by decide +kernel : fb_hd yX12_valueOf 1) ⟨Nat.le_of_ble_eq_true rfl, Nat.le_of_ble_eq_true rfl⟩ rfl rfl rfl rfl rfl (Nat.le_of_ble_eq_true rfl) ⟨Nat.le_of_ble_eq_true rfl, Nat.le_of_ble_eq_true rfl⟩ dL_law_503 I) ?_
  intro r4 w3 H locs e0 I
  subst e0
  have I : fb_In D (fun q : Nat => s.heap.size ≤ q) s.heap (([fb_jw cJ zx 1 zg, fb_o12 za zr (upd (upd fr_e0 19 (0 : Int32)) 19 (1 : Int32))] : List va_W).flatten) H locs := I
  refine lv_istore (lv' := [(6, .int (0 : Int32)), (5, .int (1 : Int32)), (4, .int (0 : Int32)), (3, .ref zx), (2, .ref za), (1, .ref zb), (0, .ref b)]) hx hb dL_law_506 hl (by decide) rfl (fun ls hl => ?_)
  refine lv_aload_n hx hb dL_law_508 rfl (lv_at hl 4 rfl) ?_
  refine fb_gO (cs := [fb_o12 za zr (upd (upd fr_e0 19 (0 : Int32)) 19 (1 : Int32))]) (rs := [fb_jw cJ zx 1 zg]) X I [1, 0] 2 rfl (by decide +kernel) rfl rfl (fun I => fb_rV (As := []) (rest := []) X hl (fb_goodV fw_2119 fw_2120 fw_2121 fw_204 fw_2122) (c_thrown l D cI cJ za zr (upd (upd fr_e0 19 (0 : Int32)) 19 (1 : Int32)) _ ) rfl rfl rfl (by decide +kernel : fb_hd yX12_thrown 0) ⟨Nat.le_of_ble_eq_true rfl, Nat.le_of_ble_eq_true rfl⟩ rfl rfl rfl rfl rfl (Nat.le_of_ble_eq_true rfl) ⟨Nat.le_of_ble_eq_true rfl, Nat.le_of_ble_eq_true rfl⟩ dL_law_509 I) ?_
  refine fb_tI (v := (1 : Int32)) rfl ?_
  refine lv_iload hx hb dL_law_512 (lv_at hl 1 rfl) ?_
  refine lv_icmp_eq (tgt := 519) hx hb dL_law_514 (by decide) (fun _ => ?_) (fun c5 => absurd rfl c5)
  refine lv_iload hx hb dL_law_519 (lv_at hl 1 rfl) ?_
  refine lv_if_ne (tgt := 536) hx hb dL_law_521 (by decide) (fun _ => ?_) (fun c6 => absurd c6 (by decide))
  refine lv_goto (tgt := 2336) hx hb dL_law_536 (by decide) ?_
  exact lw_end X hX hbl hbA (by omega) I (lv_sub hl [2, 6] rfl) (Nat.le_of_ble_eq_true rfl) (Nat.le_of_ble_eq_true rfl)

set_option maxHeartbeats 4000000 in
set_option maxRecDepth 100000 in
theorem lc_41_a {p : Program} {l : Launch} {e : Env} {s : State} {m : MethodId} {below : List Frame} {meth : Method} {c : Code} {H : Heap} {locs : List Loc} {ls : Array Slot} {D : va_G} {cI cJ : ClassId} {b L : Nat} {xs : Nat → Int32} {zb : Nat} {zt : Nat} {zn : Nat} {zv : Nat} {zs : Nat} {zp : Nat} {zq : Nat → Nat} {zu : Nat → Nat} {zh : Nat} {zst : Nat} {zre : Nat} {zx : Nat} {zg : Nat → Int64} {za : Nat} {zr : Nat → Nat} (hst : l.stackTraces = false) (X : fb_Bx p s m #[Value.ref b] meth c cL_law RL 9 (some .boolean) D (fb_ty D cI cJ) (fun q : Nat => s.heap.size ≤ q)) (hX : va_X b L xs s s.heap) (hbl : b < s.heap.size) (hbA : ¬ (fun q : Nat => s.heap.size ≤ q) b) (hL6 : L = 6) (h0 : (xs 1) < 0) (I : fb_In D (fun q : Nat => s.heap.size ≤ q) s.heap (([fb_o11 zb zt zn zv zs zp (zq 0) (zu 0) zh zst zre, fb_jw cJ zx 1 zg, fb_o12 za zr fr_e0, fb_aw cI (zr 0) 16205 (fr_m (fun _ => 0) 0)] : List va_W).flatten) H locs) (hl : lv_has ls 9 [(4, .int (0 : Int32)), (3, .ref zx), (2, .ref za), (1, .ref zb), (0, .ref b)]) : W p l e room_1 s m #[Value.ref b] below meth c H locs 209 179241 (lw_Z below #[Value.ref b] s) (F0 m 1595 ls []) := by
  obtain ⟨hx, hb, hr, hml, hown, hts, hlk, hA, hK, hF⟩ := id X
  refine lv_aload_n hx hb dL_law_1595 rfl (lv_at hl 3 rfl) ?_
  refine lv_aload_n hx hb dL_law_1596 rfl (lv_at hl 4 rfl) ?_
  refine lv_iload hx hb dL_law_1597 (lv_at hl 0 rfl) ?_
  refine lv_iconst (v := (1 : Int32)) hx hb dL_law_1599 (by decide) ?_
  refine lv_iadd hx hb dL_law_1600 ?_
  refine fb_tI (v := (1 : Int32)) (by decide) ?_
  refine va_sld (i := (1 : Int32)) hx hb hX hbl hbA I.2.2 (fb_inC (n := 1) (by decide) (by decide) (by omega)) dL_law_1601 ?_
  refine fb_tI (v := (xs 1)) rfl ?_
  refine lv_aload_n hx hb dL_law_1602 rfl (lv_at hl 1 rfl) ?_
  refine fb_gI (cs := [fb_o11 zb zt zn zv zs zp (zq 0) (zu 0) zh zst zre, fb_jw cJ zx 1 zg]) (rs := [fb_o12 za zr fr_e0, fb_aw cI (zr 0) 16205 (fr_m (fun _ => 0) 0)]) (fun (t : Unit) => [fb_jw cJ zx 1 zg, fb_o12 za zr fr_e0, fb_aw cI (zr 0) 16205 (fr_m (fun _ => 0) 0)]) (fun (t : Unit) => [fb_jw cJ zx 1 zg]) X I [0, 1, 2, 3] 4 rfl (by decide +kernel) rfl rfl [0, 1, 2] 3 (fun _ => rfl) (by decide +kernel) (fun _ => rfl) (fun _ => rfl) (fun I => fb_rSW (As := [.ref zb, .int (xs 1), .ref zx]) (rest := []) X hl (fb_goodSW fw_1840 fw_1841 fw_190 fw_1842) (c_w_outputAt_a l D cI cJ zb zt zn zv zs zp zq zu zh zst zre zx zg (xs 1) _ hst h0) rfl rfl (by decide +kernel : fb_hd yL_outputAt 3) ⟨Nat.le_of_ble_eq_true rfl, Nat.le_of_ble_eq_true rfl⟩ rfl rfl (Nat.le_of_ble_eq_true rfl) ⟨Nat.le_of_ble_eq_true rfl, Nat.le_of_ble_eq_true rfl⟩ dL_law_1603 I) ?_
  intro r2 w1 H locs e0 I
  subst e0
  have I : fb_In D (fun q : Nat => s.heap.size ≤ q) s.heap (([fb_jw cJ zx 1 zg, fb_o12 za zr fr_e0, fb_aw cI (zr 0) 16205 (fr_m (fun _ => 0) 0)] : List va_W).flatten) H locs := I
  refine lv_istore (lv' := [(5, .int (1 : Int32)), (4, .int (0 : Int32)), (3, .ref zx), (2, .ref za), (1, .ref zb), (0, .ref b)]) hx hb dL_law_1606 hl (by decide) rfl (fun ls hl => ?_)
  refine lv_aload_n hx hb dL_law_1608 rfl (lv_at hl 3 rfl) ?_
  refine lv_aload_n hx hb dL_law_1609 rfl (lv_at hl 5 rfl) ?_
  refine lv_iload hx hb dL_law_1610 (lv_at hl 1 rfl) ?_
  refine lv_iconst (v := (1 : Int32)) hx hb dL_law_1612 (by decide) ?_
  refine lv_iadd hx hb dL_law_1613 ?_
  refine fb_tI (v := (1 : Int32)) (by decide) ?_
  refine va_sld (i := (1 : Int32)) hx hb hX hbl hbA I.2.2 (fb_inC (n := 1) (by decide) (by decide) (by omega)) dL_law_1614 ?_
  refine fb_tI (v := (xs 1)) rfl ?_
  refine fb_gI (cs := [fb_o12 za zr fr_e0, fb_aw cI (zr 0) 16205 (fr_m (fun _ => 0) 0)]) (rs := [fb_jw cJ zx 1 zg]) (fun (t : Unit) => [fb_jw cJ zx 1 zg, fb_o12 za zr (upd (upd fr_e0 19 (0 : Int32)) 19 (1 : Int32)), fb_aw cI (zr 0) 16205 (fr_m (fun _ => 0) 0)]) (fun (t : Unit) => [fb_o12 za zr (upd (upd fr_e0 19 (0 : Int32)) 19 (1 : Int32)), fb_aw cI (zr 0) 16205 (fr_m (fun _ => 0) 0)]) X I [1, 2, 0] 3 rfl (by decide +kernel) rfl rfl [1, 2, 0] 3 (fun _ => rfl) (by decide +kernel) (fun _ => rfl) (fun _ => rfl) (fun I => fb_rV (As := [.int (xs 1)]) (rest := []) X hl (fb_goodV fw_2691 fw_2692 fw_2693 fw_204 fw_2694) (c_outputAt l D cI cJ za zr (xs 1) _ ) rfl rfl rfl (by decide +kernel : fb_hd yX12_outputAt 1) ⟨Nat.le_of_ble_eq_true rfl, Nat.le_of_ble_eq_true rfl⟩ rfl rfl rfl rfl rfl (Nat.le_of_ble_eq_true rfl) ⟨Nat.le_of_ble_eq_true rfl, Nat.le_of_ble_eq_true rfl⟩ dL_law_1615 I) ?_
  intro r4 w3 H locs e0 I
  subst e0
  have I : fb_In D (fun q : Nat => s.heap.size ≤ q) s.heap (([fb_jw cJ zx 1 zg, fb_o12 za zr (upd (upd fr_e0 19 (0 : Int32)) 19 (1 : Int32)), fb_aw cI (zr 0) 16205 (fr_m (fun _ => 0) 0)] : List va_W).flatten) H locs := I
  refine lv_istore (lv' := [(6, .int (0 : Int32)), (5, .int (1 : Int32)), (4, .int (0 : Int32)), (3, .ref zx), (2, .ref za), (1, .ref zb), (0, .ref b)]) hx hb dL_law_1618 hl (by decide) rfl (fun ls hl => ?_)
  refine lv_aload_n hx hb dL_law_1620 rfl (lv_at hl 4 rfl) ?_
  refine fb_gO (cs := [fb_o12 za zr (upd (upd fr_e0 19 (0 : Int32)) 19 (1 : Int32))]) (rs := [fb_jw cJ zx 1 zg, fb_aw cI (zr 0) 16205 (fr_m (fun _ => 0) 0)]) X I [1, 0, 2] 3 rfl (by decide +kernel) rfl rfl (fun I => fb_rV (As := []) (rest := []) X hl (fb_goodV fw_2119 fw_2120 fw_2121 fw_204 fw_2122) (c_thrown l D cI cJ za zr (upd (upd fr_e0 19 (0 : Int32)) 19 (1 : Int32)) _ ) rfl rfl rfl (by decide +kernel : fb_hd yX12_thrown 0) ⟨Nat.le_of_ble_eq_true rfl, Nat.le_of_ble_eq_true rfl⟩ rfl rfl rfl rfl rfl (Nat.le_of_ble_eq_true rfl) ⟨Nat.le_of_ble_eq_true rfl, Nat.le_of_ble_eq_true rfl⟩ dL_law_1621 I) ?_
  refine fb_tI (v := (1 : Int32)) rfl ?_
  refine lv_iload hx hb dL_law_1624 (lv_at hl 1 rfl) ?_
  refine lv_icmp_eq (tgt := 1631) hx hb dL_law_1626 (by decide) (fun _ => ?_) (fun c5 => absurd rfl c5)
  refine lv_iload hx hb dL_law_1631 (lv_at hl 1 rfl) ?_
  refine lv_if_ne (tgt := 1648) hx hb dL_law_1633 (by decide) (fun _ => ?_) (fun c6 => absurd c6 (by decide))
  refine lv_goto (tgt := 2336) hx hb dL_law_1648 (by decide) ?_
  exact lw_end X hX hbl hbA (by omega) I (lv_sub hl [2, 6] rfl) (Nat.le_of_ble_eq_true rfl) (Nat.le_of_ble_eq_true rfl)

set_option maxHeartbeats 4000000 in
set_option maxRecDepth 100000 in
theorem lc_41_b {p : Program} {l : Launch} {e : Env} {s : State} {m : MethodId} {below : List Frame} {meth : Method} {c : Code} {H : Heap} {locs : List Loc} {ls : Array Slot} {D : va_G} {cI cJ : ClassId} {b L : Nat} {xs : Nat → Int32} {zb : Nat} {zt : Nat} {zn : Nat} {zv : Nat} {zs : Nat} {zp : Nat} {zq : Nat → Nat} {zu : Nat → Nat} {zh : Nat} {zst : Nat} {zre : Nat} {zw : fb_AR} {zx : Nat} {zg : Nat → Int64} {za : Nat} {zr : Nat → Nat} (hst : l.stackTraces = false) (X : fb_Bx p s m #[Value.ref b] meth c cL_law RL 9 (some .boolean) D (fb_ty D cI cJ) (fun q : Nat => s.heap.size ≤ q)) (hX : va_X b L xs s s.heap) (hbl : b < s.heap.size) (hbA : ¬ (fun q : Nat => s.heap.size ≤ q) b) (hL6 : L = 6) (h0 : ¬ (xs 1) < 0) (I : fb_In D (fun q : Nat => s.heap.size ≤ q) s.heap (([fb_o11 zb zt zn zv zs zp (zq 0) (zu 0) zh zst zre, fb_mw cI zq fb_s0 zw, fb_jw cJ zx 1 zg, fb_o12 za zr fr_e0, fb_aw cI (zr 0) 16205 (fr_m (fun _ => 0) 0)] : List va_W).flatten) H locs) (hl : lv_has ls 9 [(4, .int (0 : Int32)), (3, .ref zx), (2, .ref za), (1, .ref zb), (0, .ref b)]) : W p l e room_1 s m #[Value.ref b] below meth c H locs 209 179241 (lw_Z below #[Value.ref b] s) (F0 m 1595 ls []) := by
  obtain ⟨hx, hb, hr, hml, hown, hts, hlk, hA, hK, hF⟩ := id X
  refine lv_aload_n hx hb dL_law_1595 rfl (lv_at hl 3 rfl) ?_
  refine lv_aload_n hx hb dL_law_1596 rfl (lv_at hl 4 rfl) ?_
  refine lv_iload hx hb dL_law_1597 (lv_at hl 0 rfl) ?_
  refine lv_iconst (v := (1 : Int32)) hx hb dL_law_1599 (by decide) ?_
  refine lv_iadd hx hb dL_law_1600 ?_
  refine fb_tI (v := (1 : Int32)) (by decide) ?_
  refine va_sld (i := (1 : Int32)) hx hb hX hbl hbA I.2.2 (fb_inC (n := 1) (by decide) (by decide) (by omega)) dL_law_1601 ?_
  refine fb_tI (v := (xs 1)) rfl ?_
  refine lv_aload_n hx hb dL_law_1602 rfl (lv_at hl 1 rfl) ?_
  refine fb_gI (cs := [fb_o11 zb zt zn zv zs zp (zq 0) (zu 0) zh zst zre, fb_mw cI zq fb_s0 zw, fb_jw cJ zx 1 zg]) (rs := [fb_o12 za zr fr_e0, fb_aw cI (zr 0) 16205 (fr_m (fun _ => 0) 0)]) (fun (t : Unit) => [fb_jw cJ zx 1 zg, fb_o12 za zr fr_e0, fb_aw cI (zr 0) 16205 (fr_m (fun _ => 0) 0)]) (fun (t : Unit) => [fb_jw cJ zx 1 zg]) X I [0, 1, 2, 3, 4] 5 rfl (by decide +kernel) rfl rfl [0, 1, 2] 3 (fun _ => rfl) (by decide +kernel) (fun _ => rfl) (fun _ => rfl) (fun I => fb_rSW (As := [.ref zb, .int (xs 1), .ref zx]) (rest := []) X hl (fb_goodSW fw_1840 fw_1841 fw_190 fw_1842) (c_w_outputAt_b l D cI cJ zb zt zn zv zs zp zq zu zh zst zre zw zx zg (xs 1) _ hst h0) rfl rfl (by decide +kernel : fb_hd yL_outputAt 3) ⟨Nat.le_of_ble_eq_true rfl, Nat.le_of_ble_eq_true rfl⟩ rfl rfl (Nat.le_of_ble_eq_true rfl) ⟨Nat.le_of_ble_eq_true rfl, Nat.le_of_ble_eq_true rfl⟩ dL_law_1603 I) ?_
  intro r2 w1 H locs e0 I
  subst e0
  have I : fb_In D (fun q : Nat => s.heap.size ≤ q) s.heap (([fb_jw cJ zx 1 zg, fb_o12 za zr fr_e0, fb_aw cI (zr 0) 16205 (fr_m (fun _ => 0) 0)] : List va_W).flatten) H locs := I
  refine lv_istore (lv' := [(5, .int (1 : Int32)), (4, .int (0 : Int32)), (3, .ref zx), (2, .ref za), (1, .ref zb), (0, .ref b)]) hx hb dL_law_1606 hl (by decide) rfl (fun ls hl => ?_)
  refine lv_aload_n hx hb dL_law_1608 rfl (lv_at hl 3 rfl) ?_
  refine lv_aload_n hx hb dL_law_1609 rfl (lv_at hl 5 rfl) ?_
  refine lv_iload hx hb dL_law_1610 (lv_at hl 1 rfl) ?_
  refine lv_iconst (v := (1 : Int32)) hx hb dL_law_1612 (by decide) ?_
  refine lv_iadd hx hb dL_law_1613 ?_
  refine fb_tI (v := (1 : Int32)) (by decide) ?_
  refine va_sld (i := (1 : Int32)) hx hb hX hbl hbA I.2.2 (fb_inC (n := 1) (by decide) (by decide) (by omega)) dL_law_1614 ?_
  refine fb_tI (v := (xs 1)) rfl ?_
  refine fb_gI (cs := [fb_o12 za zr fr_e0, fb_aw cI (zr 0) 16205 (fr_m (fun _ => 0) 0)]) (rs := [fb_jw cJ zx 1 zg]) (fun (t : Unit) => [fb_jw cJ zx 1 zg, fb_o12 za zr (upd (upd fr_e0 19 (0 : Int32)) 19 (1 : Int32)), fb_aw cI (zr 0) 16205 (fr_m (fun _ => 0) 0)]) (fun (t : Unit) => [fb_o12 za zr (upd (upd fr_e0 19 (0 : Int32)) 19 (1 : Int32)), fb_aw cI (zr 0) 16205 (fr_m (fun _ => 0) 0)]) X I [1, 2, 0] 3 rfl (by decide +kernel) rfl rfl [1, 2, 0] 3 (fun _ => rfl) (by decide +kernel) (fun _ => rfl) (fun _ => rfl) (fun I => fb_rV (As := [.int (xs 1)]) (rest := []) X hl (fb_goodV fw_2691 fw_2692 fw_2693 fw_204 fw_2694) (c_outputAt l D cI cJ za zr (xs 1) _ ) rfl rfl rfl (by decide +kernel : fb_hd yX12_outputAt 1) ⟨Nat.le_of_ble_eq_true rfl, Nat.le_of_ble_eq_true rfl⟩ rfl rfl rfl rfl rfl (Nat.le_of_ble_eq_true rfl) ⟨Nat.le_of_ble_eq_true rfl, Nat.le_of_ble_eq_true rfl⟩ dL_law_1615 I) ?_
  intro r4 w3 H locs e0 I
  subst e0
  have I : fb_In D (fun q : Nat => s.heap.size ≤ q) s.heap (([fb_jw cJ zx 1 zg, fb_o12 za zr (upd (upd fr_e0 19 (0 : Int32)) 19 (1 : Int32)), fb_aw cI (zr 0) 16205 (fr_m (fun _ => 0) 0)] : List va_W).flatten) H locs := I
  refine lv_istore (lv' := [(6, .int (0 : Int32)), (5, .int (1 : Int32)), (4, .int (0 : Int32)), (3, .ref zx), (2, .ref za), (1, .ref zb), (0, .ref b)]) hx hb dL_law_1618 hl (by decide) rfl (fun ls hl => ?_)
  refine lv_aload_n hx hb dL_law_1620 rfl (lv_at hl 4 rfl) ?_
  refine fb_gO (cs := [fb_o12 za zr (upd (upd fr_e0 19 (0 : Int32)) 19 (1 : Int32))]) (rs := [fb_jw cJ zx 1 zg, fb_aw cI (zr 0) 16205 (fr_m (fun _ => 0) 0)]) X I [1, 0, 2] 3 rfl (by decide +kernel) rfl rfl (fun I => fb_rV (As := []) (rest := []) X hl (fb_goodV fw_2119 fw_2120 fw_2121 fw_204 fw_2122) (c_thrown l D cI cJ za zr (upd (upd fr_e0 19 (0 : Int32)) 19 (1 : Int32)) _ ) rfl rfl rfl (by decide +kernel : fb_hd yX12_thrown 0) ⟨Nat.le_of_ble_eq_true rfl, Nat.le_of_ble_eq_true rfl⟩ rfl rfl rfl rfl rfl (Nat.le_of_ble_eq_true rfl) ⟨Nat.le_of_ble_eq_true rfl, Nat.le_of_ble_eq_true rfl⟩ dL_law_1621 I) ?_
  refine fb_tI (v := (1 : Int32)) rfl ?_
  refine lv_iload hx hb dL_law_1624 (lv_at hl 1 rfl) ?_
  refine lv_icmp_eq (tgt := 1631) hx hb dL_law_1626 (by decide) (fun _ => ?_) (fun c5 => absurd rfl c5)
  refine lv_iload hx hb dL_law_1631 (lv_at hl 1 rfl) ?_
  refine lv_if_ne (tgt := 1648) hx hb dL_law_1633 (by decide) (fun _ => ?_) (fun c6 => absurd c6 (by decide))
  refine lv_goto (tgt := 2336) hx hb dL_law_1648 (by decide) ?_
  exact lw_end X hX hbl hbA (by omega) I (lv_sub hl [2, 6] rfl) (Nat.le_of_ble_eq_true rfl) (Nat.le_of_ble_eq_true rfl)

set_option maxHeartbeats 4000000 in
set_option maxRecDepth 100000 in
theorem lc_43_a {p : Program} {l : Launch} {e : Env} {s : State} {m : MethodId} {below : List Frame} {meth : Method} {c : Code} {H : Heap} {locs : List Loc} {ls : Array Slot} {D : va_G} {cI cJ : ClassId} {b L : Nat} {xs : Nat → Int32} {zb : Nat} {zt : Nat} {zn : Nat} {zv : Nat} {zs : Nat} {zp : Nat} {zq : Nat → Nat} {zu : Nat → Nat} {zh : Nat} {zst : Nat} {zre : Nat} {zx : Nat} {zg : Nat → Int64} {za : Nat} {zr : Nat → Nat} (hst : l.stackTraces = false) (X : fb_Bx p s m #[Value.ref b] meth c cL_law RL 9 (some .boolean) D (fb_ty D cI cJ) (fun q : Nat => s.heap.size ≤ q)) (hX : va_X b L xs s s.heap) (hbl : b < s.heap.size) (hbA : ¬ (fun q : Nat => s.heap.size ≤ q) b) (hL6 : L = 6) (h0 : (xs 1) < 0) (I : fb_In D (fun q : Nat => s.heap.size ≤ q) s.heap (([fb_o11 zb zt zn zv zs zp (zq 0) (zu 0) zh zst zre, fb_jw cJ zx 1 zg, fb_o12 za zr fr_e0, fb_aw cI (zr 0) 16205 (fr_m (fun _ => 0) 0)] : List va_W).flatten) H locs) (hl : lv_has ls 9 [(4, .int (0 : Int32)), (3, .ref zx), (2, .ref za), (1, .ref zb), (0, .ref b)]) : W p l e room_1 s m #[Value.ref b] below meth c H locs 209 179241 (lw_Z below #[Value.ref b] s) (F0 m 1664 ls []) := by
  obtain ⟨hx, hb, hr, hml, hown, hts, hlk, hA, hK, hF⟩ := id X
  refine lv_aload_n hx hb dL_law_1664 rfl (lv_at hl 3 rfl) ?_
  refine lv_aload_n hx hb dL_law_1665 rfl (lv_at hl 4 rfl) ?_
  refine lv_iload hx hb dL_law_1666 (lv_at hl 0 rfl) ?_
  refine lv_iconst (v := (1 : Int32)) hx hb dL_law_1668 (by decide) ?_
  refine lv_iadd hx hb dL_law_1669 ?_
  refine fb_tI (v := (1 : Int32)) (by decide) ?_
  refine va_sld (i := (1 : Int32)) hx hb hX hbl hbA I.2.2 (fb_inC (n := 1) (by decide) (by decide) (by omega)) dL_law_1670 ?_
  refine fb_tI (v := (xs 1)) rfl ?_
  refine lv_aload_n hx hb dL_law_1671 rfl (lv_at hl 1 rfl) ?_
  refine fb_gI (cs := [fb_o11 zb zt zn zv zs zp (zq 0) (zu 0) zh zst zre, fb_jw cJ zx 1 zg]) (rs := [fb_o12 za zr fr_e0, fb_aw cI (zr 0) 16205 (fr_m (fun _ => 0) 0)]) (fun (t : Unit) => [fb_jw cJ zx 1 zg, fb_o12 za zr fr_e0, fb_aw cI (zr 0) 16205 (fr_m (fun _ => 0) 0)]) (fun (t : Unit) => [fb_jw cJ zx 1 zg]) X I [0, 1, 2, 3] 4 rfl (by decide +kernel) rfl rfl [0, 1, 2] 3 (fun _ => rfl) (by decide +kernel) (fun _ => rfl) (fun _ => rfl) (fun I => fb_rSW (As := [.ref zb, .int (xs 1), .ref zx]) (rest := []) X hl (fb_goodSW fw_1850 fw_1851 fw_190 fw_1852) (c_w_callAt_a l D cI cJ zb zt zn zv zs zp zq zu zh zst zre zx zg (xs 1) _ hst h0) rfl rfl (by decide +kernel : fb_hd yL_callAt 3) ⟨Nat.le_of_ble_eq_true rfl, Nat.le_of_ble_eq_true rfl⟩ rfl rfl (Nat.le_of_ble_eq_true rfl) ⟨Nat.le_of_ble_eq_true rfl, Nat.le_of_ble_eq_true rfl⟩ dL_law_1672 I) ?_
  intro r2 w1 H locs e0 I
  subst e0
  have I : fb_In D (fun q : Nat => s.heap.size ≤ q) s.heap (([fb_jw cJ zx 1 zg, fb_o12 za zr fr_e0, fb_aw cI (zr 0) 16205 (fr_m (fun _ => 0) 0)] : List va_W).flatten) H locs := I
  refine lv_istore (lv' := [(5, .int (1 : Int32)), (4, .int (0 : Int32)), (3, .ref zx), (2, .ref za), (1, .ref zb), (0, .ref b)]) hx hb dL_law_1675 hl (by decide) rfl (fun ls hl => ?_)
  refine lv_aload_n hx hb dL_law_1677 rfl (lv_at hl 3 rfl) ?_
  refine lv_aload_n hx hb dL_law_1678 rfl (lv_at hl 5 rfl) ?_
  refine lv_iload hx hb dL_law_1679 (lv_at hl 1 rfl) ?_
  refine lv_iconst (v := (1 : Int32)) hx hb dL_law_1681 (by decide) ?_
  refine lv_iadd hx hb dL_law_1682 ?_
  refine fb_tI (v := (1 : Int32)) (by decide) ?_
  refine va_sld (i := (1 : Int32)) hx hb hX hbl hbA I.2.2 (fb_inC (n := 1) (by decide) (by decide) (by omega)) dL_law_1683 ?_
  refine fb_tI (v := (xs 1)) rfl ?_
  refine fb_gI (cs := [fb_o12 za zr fr_e0, fb_aw cI (zr 0) 16205 (fr_m (fun _ => 0) 0)]) (rs := [fb_jw cJ zx 1 zg]) (fun (t : Unit) => [fb_jw cJ zx 1 zg, fb_o12 za zr (upd (upd fr_e0 19 (0 : Int32)) 19 (1 : Int32)), fb_aw cI (zr 0) 16205 (fr_m (fun _ => 0) 0)]) (fun (t : Unit) => [fb_o12 za zr (upd (upd fr_e0 19 (0 : Int32)) 19 (1 : Int32)), fb_aw cI (zr 0) 16205 (fr_m (fun _ => 0) 0)]) X I [1, 2, 0] 3 rfl (by decide +kernel) rfl rfl [1, 2, 0] 3 (fun _ => rfl) (by decide +kernel) (fun _ => rfl) (fun _ => rfl) (fun I => fb_rV (As := [.int (xs 1)]) (rest := []) X hl (fb_goodV fw_2703 fw_2704 fw_2705 fw_204 fw_2706) (c_callAt l D cI cJ za zr (xs 1) _ ) rfl rfl rfl (by decide +kernel : fb_hd yX12_callAt 1) ⟨Nat.le_of_ble_eq_true rfl, Nat.le_of_ble_eq_true rfl⟩ rfl rfl rfl rfl rfl (Nat.le_of_ble_eq_true rfl) ⟨Nat.le_of_ble_eq_true rfl, Nat.le_of_ble_eq_true rfl⟩ dL_law_1684 I) ?_
  intro r4 w3 H locs e0 I
  subst e0
  have I : fb_In D (fun q : Nat => s.heap.size ≤ q) s.heap (([fb_jw cJ zx 1 zg, fb_o12 za zr (upd (upd fr_e0 19 (0 : Int32)) 19 (1 : Int32)), fb_aw cI (zr 0) 16205 (fr_m (fun _ => 0) 0)] : List va_W).flatten) H locs := I
  refine lv_istore (lv' := [(6, .int (0 : Int32)), (5, .int (1 : Int32)), (4, .int (0 : Int32)), (3, .ref zx), (2, .ref za), (1, .ref zb), (0, .ref b)]) hx hb dL_law_1687 hl (by decide) rfl (fun ls hl => ?_)
  refine lv_aload_n hx hb dL_law_1689 rfl (lv_at hl 4 rfl) ?_
  refine fb_gO (cs := [fb_o12 za zr (upd (upd fr_e0 19 (0 : Int32)) 19 (1 : Int32))]) (rs := [fb_jw cJ zx 1 zg, fb_aw cI (zr 0) 16205 (fr_m (fun _ => 0) 0)]) X I [1, 0, 2] 3 rfl (by decide +kernel) rfl rfl (fun I => fb_rV (As := []) (rest := []) X hl (fb_goodV fw_2119 fw_2120 fw_2121 fw_204 fw_2122) (c_thrown l D cI cJ za zr (upd (upd fr_e0 19 (0 : Int32)) 19 (1 : Int32)) _ ) rfl rfl rfl (by decide +kernel : fb_hd yX12_thrown 0) ⟨Nat.le_of_ble_eq_true rfl, Nat.le_of_ble_eq_true rfl⟩ rfl rfl rfl rfl rfl (Nat.le_of_ble_eq_true rfl) ⟨Nat.le_of_ble_eq_true rfl, Nat.le_of_ble_eq_true rfl⟩ dL_law_1690 I) ?_
  refine fb_tI (v := (1 : Int32)) rfl ?_
  refine lv_iload hx hb dL_law_1693 (lv_at hl 1 rfl) ?_
  refine lv_icmp_eq (tgt := 1700) hx hb dL_law_1695 (by decide) (fun _ => ?_) (fun c5 => absurd rfl c5)
  refine lv_iload hx hb dL_law_1700 (lv_at hl 1 rfl) ?_
  refine lv_if_ne (tgt := 1717) hx hb dL_law_1702 (by decide) (fun _ => ?_) (fun c6 => absurd c6 (by decide))
  refine lv_goto (tgt := 2336) hx hb dL_law_1717 (by decide) ?_
  exact lw_end X hX hbl hbA (by omega) I (lv_sub hl [2, 6] rfl) (Nat.le_of_ble_eq_true rfl) (Nat.le_of_ble_eq_true rfl)

set_option maxHeartbeats 4000000 in
set_option maxRecDepth 100000 in
theorem lc_43_b {p : Program} {l : Launch} {e : Env} {s : State} {m : MethodId} {below : List Frame} {meth : Method} {c : Code} {H : Heap} {locs : List Loc} {ls : Array Slot} {D : va_G} {cI cJ : ClassId} {b L : Nat} {xs : Nat → Int32} {zb : Nat} {zt : Nat} {zn : Nat} {zv : Nat} {zs : Nat} {zp : Nat} {zq : Nat → Nat} {zu : Nat → Nat} {zh : Nat} {zst : Nat} {zre : Nat} {zw : fb_AR} {zx : Nat} {zg : Nat → Int64} {za : Nat} {zr : Nat → Nat} (hst : l.stackTraces = false) (X : fb_Bx p s m #[Value.ref b] meth c cL_law RL 9 (some .boolean) D (fb_ty D cI cJ) (fun q : Nat => s.heap.size ≤ q)) (hX : va_X b L xs s s.heap) (hbl : b < s.heap.size) (hbA : ¬ (fun q : Nat => s.heap.size ≤ q) b) (hL6 : L = 6) (h0 : ¬ (xs 1) < 0) (I : fb_In D (fun q : Nat => s.heap.size ≤ q) s.heap (([fb_o11 zb zt zn zv zs zp (zq 0) (zu 0) zh zst zre, fb_mw cI zq fb_s0 zw, fb_jw cJ zx 1 zg, fb_o12 za zr fr_e0, fb_aw cI (zr 0) 16205 (fr_m (fun _ => 0) 0)] : List va_W).flatten) H locs) (hl : lv_has ls 9 [(4, .int (0 : Int32)), (3, .ref zx), (2, .ref za), (1, .ref zb), (0, .ref b)]) : W p l e room_1 s m #[Value.ref b] below meth c H locs 209 179241 (lw_Z below #[Value.ref b] s) (F0 m 1664 ls []) := by
  obtain ⟨hx, hb, hr, hml, hown, hts, hlk, hA, hK, hF⟩ := id X
  refine lv_aload_n hx hb dL_law_1664 rfl (lv_at hl 3 rfl) ?_
  refine lv_aload_n hx hb dL_law_1665 rfl (lv_at hl 4 rfl) ?_
  refine lv_iload hx hb dL_law_1666 (lv_at hl 0 rfl) ?_
  refine lv_iconst (v := (1 : Int32)) hx hb dL_law_1668 (by decide) ?_
  refine lv_iadd hx hb dL_law_1669 ?_
  refine fb_tI (v := (1 : Int32)) (by decide) ?_
  refine va_sld (i := (1 : Int32)) hx hb hX hbl hbA I.2.2 (fb_inC (n := 1) (by decide) (by decide) (by omega)) dL_law_1670 ?_
  refine fb_tI (v := (xs 1)) rfl ?_
  refine lv_aload_n hx hb dL_law_1671 rfl (lv_at hl 1 rfl) ?_
  refine fb_gI (cs := [fb_o11 zb zt zn zv zs zp (zq 0) (zu 0) zh zst zre, fb_mw cI zq fb_s0 zw, fb_jw cJ zx 1 zg]) (rs := [fb_o12 za zr fr_e0, fb_aw cI (zr 0) 16205 (fr_m (fun _ => 0) 0)]) (fun (t : Unit) => [fb_jw cJ zx 1 zg, fb_o12 za zr fr_e0, fb_aw cI (zr 0) 16205 (fr_m (fun _ => 0) 0)]) (fun (t : Unit) => [fb_jw cJ zx 1 zg]) X I [0, 1, 2, 3, 4] 5 rfl (by decide +kernel) rfl rfl [0, 1, 2] 3 (fun _ => rfl) (by decide +kernel) (fun _ => rfl) (fun _ => rfl) (fun I => fb_rSW (As := [.ref zb, .int (xs 1), .ref zx]) (rest := []) X hl (fb_goodSW fw_1850 fw_1851 fw_190 fw_1852) (c_w_callAt_b l D cI cJ zb zt zn zv zs zp zq zu zh zst zre zw zx zg (xs 1) _ hst h0) rfl rfl (by decide +kernel : fb_hd yL_callAt 3) ⟨Nat.le_of_ble_eq_true rfl, Nat.le_of_ble_eq_true rfl⟩ rfl rfl (Nat.le_of_ble_eq_true rfl) ⟨Nat.le_of_ble_eq_true rfl, Nat.le_of_ble_eq_true rfl⟩ dL_law_1672 I) ?_
  intro r2 w1 H locs e0 I
  subst e0
  have I : fb_In D (fun q : Nat => s.heap.size ≤ q) s.heap (([fb_jw cJ zx 1 zg, fb_o12 za zr fr_e0, fb_aw cI (zr 0) 16205 (fr_m (fun _ => 0) 0)] : List va_W).flatten) H locs := I
  refine lv_istore (lv' := [(5, .int (1 : Int32)), (4, .int (0 : Int32)), (3, .ref zx), (2, .ref za), (1, .ref zb), (0, .ref b)]) hx hb dL_law_1675 hl (by decide) rfl (fun ls hl => ?_)
  refine lv_aload_n hx hb dL_law_1677 rfl (lv_at hl 3 rfl) ?_
  refine lv_aload_n hx hb dL_law_1678 rfl (lv_at hl 5 rfl) ?_
  refine lv_iload hx hb dL_law_1679 (lv_at hl 1 rfl) ?_
  refine lv_iconst (v := (1 : Int32)) hx hb dL_law_1681 (by decide) ?_
  refine lv_iadd hx hb dL_law_1682 ?_
  refine fb_tI (v := (1 : Int32)) (by decide) ?_
  refine va_sld (i := (1 : Int32)) hx hb hX hbl hbA I.2.2 (fb_inC (n := 1) (by decide) (by decide) (by omega)) dL_law_1683 ?_
  refine fb_tI (v := (xs 1)) rfl ?_
  refine fb_gI (cs := [fb_o12 za zr fr_e0, fb_aw cI (zr 0) 16205 (fr_m (fun _ => 0) 0)]) (rs := [fb_jw cJ zx 1 zg]) (fun (t : Unit) => [fb_jw cJ zx 1 zg, fb_o12 za zr (upd (upd fr_e0 19 (0 : Int32)) 19 (1 : Int32)), fb_aw cI (zr 0) 16205 (fr_m (fun _ => 0) 0)]) (fun (t : Unit) => [fb_o12 za zr (upd (upd fr_e0 19 (0 : Int32)) 19 (1 : Int32)), fb_aw cI (zr 0) 16205 (fr_m (fun _ => 0) 0)]) X I [1, 2, 0] 3 rfl (by decide +kernel) rfl rfl [1, 2, 0] 3 (fun _ => rfl) (by decide +kernel) (fun _ => rfl) (fun _ => rfl) (fun I => fb_rV (As := [.int (xs 1)]) (rest := []) X hl (fb_goodV fw_2703 fw_2704 fw_2705 fw_204 fw_2706) (c_callAt l D cI cJ za zr (xs 1) _ ) rfl rfl rfl (by decide +kernel : fb_hd yX12_callAt 1) ⟨Nat.le_of_ble_eq_true rfl, Nat.le_of_ble_eq_true rfl⟩ rfl rfl rfl rfl rfl (Nat.le_of_ble_eq_true rfl) ⟨Nat.le_of_ble_eq_true rfl, Nat.le_of_ble_eq_true rfl⟩ dL_law_1684 I) ?_
  intro r4 w3 H locs e0 I
  subst e0
  have I : fb_In D (fun q : Nat => s.heap.size ≤ q) s.heap (([fb_jw cJ zx 1 zg, fb_o12 za zr (upd (upd fr_e0 19 (0 : Int32)) 19 (1 : Int32)), fb_aw cI (zr 0) 16205 (fr_m (fun _ => 0) 0)] : List va_W).flatten) H locs := I
  refine lv_istore (lv' := [(6, .int (0 : Int32)), (5, .int (1 : Int32)), (4, .int (0 : Int32)), (3, .ref zx), (2, .ref za), (1, .ref zb), (0, .ref b)]) hx hb dL_law_1687 hl (by decide) rfl (fun ls hl => ?_)
  refine lv_aload_n hx hb dL_law_1689 rfl (lv_at hl 4 rfl) ?_
  refine fb_gO (cs := [fb_o12 za zr (upd (upd fr_e0 19 (0 : Int32)) 19 (1 : Int32))]) (rs := [fb_jw cJ zx 1 zg, fb_aw cI (zr 0) 16205 (fr_m (fun _ => 0) 0)]) X I [1, 0, 2] 3 rfl (by decide +kernel) rfl rfl (fun I => fb_rV (As := []) (rest := []) X hl (fb_goodV fw_2119 fw_2120 fw_2121 fw_204 fw_2122) (c_thrown l D cI cJ za zr (upd (upd fr_e0 19 (0 : Int32)) 19 (1 : Int32)) _ ) rfl rfl rfl (by decide +kernel : fb_hd yX12_thrown 0) ⟨Nat.le_of_ble_eq_true rfl, Nat.le_of_ble_eq_true rfl⟩ rfl rfl rfl rfl rfl (Nat.le_of_ble_eq_true rfl) ⟨Nat.le_of_ble_eq_true rfl, Nat.le_of_ble_eq_true rfl⟩ dL_law_1690 I) ?_
  refine fb_tI (v := (1 : Int32)) rfl ?_
  refine lv_iload hx hb dL_law_1693 (lv_at hl 1 rfl) ?_
  refine lv_icmp_eq (tgt := 1700) hx hb dL_law_1695 (by decide) (fun _ => ?_) (fun c5 => absurd rfl c5)
  refine lv_iload hx hb dL_law_1700 (lv_at hl 1 rfl) ?_
  refine lv_if_ne (tgt := 1717) hx hb dL_law_1702 (by decide) (fun _ => ?_) (fun c6 => absurd c6 (by decide))
  refine lv_goto (tgt := 2336) hx hb dL_law_1717 (by decide) ?_
  exact lw_end X hX hbl hbA (by omega) I (lv_sub hl [2, 6] rfl) (Nat.le_of_ble_eq_true rfl) (Nat.le_of_ble_eq_true rfl)

set_option maxHeartbeats 4000000 in
set_option maxRecDepth 100000 in
theorem lc_6_o {p : Program} {l : Launch} {e : Env} {s : State} {m : MethodId} {below : List Frame} {meth : Method} {c : Code} {H : Heap} {locs : List Loc} {ls : Array Slot} {D : va_G} {cI cJ : ClassId} {b L : Nat} {xs : Nat → Int32} {zb : Nat} {zt : Nat} {zn : Nat} {zv : Nat} {zs : Nat} {zp : Nat} {zq : Nat → Nat} {zu : Nat → Nat} {zh : Nat} {zst : Nat} {zre : Nat} {zx : Nat} {zg : Nat → Int64} {za : Nat} {zr : Nat → Nat} (hst : l.stackTraces = false) (X : fb_Bx p s m #[Value.ref b] meth c cL_law RL 9 (some .boolean) D (fb_ty D cI cJ) (fun q : Nat => s.heap.size ≤ q)) (hX : va_X b L xs s s.heap) (hbl : b < s.heap.size) (hbA : ¬ (fun q : Nat => s.heap.size ≤ q) b) (hL6 : L = 6) (gA : f_X11_isNoAddress (xs 1) = (1 : Int32)) (q1 : f_X12_isIn (xs 1) (0 : Int32) (4095 : Int32) = (0 : Int32)) (I : fb_In D (fun q : Nat => s.heap.size ≤ q) s.heap (([fb_o11 zb zt zn zv zs zp (zq 0) (zu 0) zh zst zre, fb_jw cJ zx 1 zg, fb_o12 za zr fr_e0] : List va_W).flatten) H locs) (hl : lv_has ls 9 [(4, .int (0 : Int32)), (3, .ref zx), (2, .ref za), (1, .ref zb), (0, .ref b)]) : W p l e room_1 s m #[Value.ref b] below meth c H locs 209 179241 (lw_Z below #[Value.ref b] s) (F0 m 539 ls []) := by
  obtain ⟨hx, hb, hr, hml, hown, hts, hlk, hA, hK, hF⟩ := id X
  refine lv_aload_n hx hb dL_law_539 rfl (lv_at hl 3 rfl) ?_
  refine lv_aload_n hx hb dL_law_540 rfl (lv_at hl 4 rfl) ?_
  refine lv_iload hx hb dL_law_541 (lv_at hl 0 rfl) ?_
  refine lv_iconst (v := (1 : Int32)) hx hb dL_law_543 (by decide) ?_
  refine lv_iadd hx hb dL_law_544 ?_
  refine fb_tI (v := (1 : Int32)) (by decide) ?_
  refine va_sld (i := (1 : Int32)) hx hb hX hbl hbA I.2.2 (fb_inC (n := 1) (by decide) (by decide) (by omega)) dL_law_545 ?_
  refine fb_tI (v := (xs 1)) rfl ?_
  refine lv_aload_n hx hb dL_law_546 rfl (lv_at hl 1 rfl) ?_
  refine fb_gI (cs := [fb_o11 zb zt zn zv zs zp (zq 0) (zu 0) zh zst zre, fb_jw cJ zx 1 zg]) (rs := [fb_o12 za zr fr_e0]) (fun (t : Unit) => [fb_jw cJ zx 1 zg, fb_o12 za zr fr_e0]) (fun (t : Unit) => [fb_jw cJ zx 1 zg]) X I [0, 1, 2] 3 rfl (by decide +kernel) rfl rfl [0, 1] 2 (fun _ => rfl) (by decide +kernel) (fun _ => rfl) (fun _ => rfl) (fun I => fb_rSW (As := [.ref zb, .int (xs 1), .ref zx]) (rest := []) X hl (fb_goodSW fw_1710 fw_1711 fw_190 fw_1712) (c_w_nameNear_o l D cI cJ zb zt zn zv zs zp zq zu zh zst zre zx zg (xs 1) _ hst gA) rfl rfl (by decide +kernel : fb_hd yL_nameNear 3) ⟨Nat.le_of_ble_eq_true rfl, Nat.le_of_ble_eq_true rfl⟩ rfl rfl (Nat.le_of_ble_eq_true rfl) ⟨Nat.le_of_ble_eq_true rfl, Nat.le_of_ble_eq_true rfl⟩ dL_law_547 I) ?_
  intro r2 w1 H locs e0 I
  subst e0
  have I : fb_In D (fun q : Nat => s.heap.size ≤ q) s.heap (([fb_jw cJ zx 1 zg, fb_o12 za zr fr_e0] : List va_W).flatten) H locs := I
  refine lv_istore (lv' := [(5, .int (1 : Int32)), (4, .int (0 : Int32)), (3, .ref zx), (2, .ref za), (1, .ref zb), (0, .ref b)]) hx hb dL_law_550 hl (by decide) rfl (fun ls hl => ?_)
  refine lv_aload_n hx hb dL_law_552 rfl (lv_at hl 3 rfl) ?_
  refine lv_aload_n hx hb dL_law_553 rfl (lv_at hl 5 rfl) ?_
  refine lv_iload hx hb dL_law_554 (lv_at hl 1 rfl) ?_
  refine lv_iconst (v := (1 : Int32)) hx hb dL_law_556 (by decide) ?_
  refine lv_iadd hx hb dL_law_557 ?_
  refine fb_tI (v := (1 : Int32)) (by decide) ?_
  refine va_sld (i := (1 : Int32)) hx hb hX hbl hbA I.2.2 (fb_inC (n := 1) (by decide) (by decide) (by omega)) dL_law_558 ?_
  refine fb_tI (v := (xs 1)) rfl ?_
  refine fb_gI (cs := [fb_o12 za zr fr_e0]) (rs := [fb_jw cJ zx 1 zg]) (fun (t : Unit) => [fb_jw cJ zx 1 zg, fb_o12 za zr (upd (upd fr_e0 19 (0 : Int32)) 19 (1 : Int32))]) (fun (t : Unit) => [fb_o12 za zr (upd (upd fr_e0 19 (0 : Int32)) 19 (1 : Int32))]) X I [1, 0] 2 rfl (by decide +kernel) rfl rfl [1, 0] 2 (fun _ => rfl) (by decide +kernel) (fun _ => rfl) (fun _ => rfl) (fun I => fb_rV (As := [.int (xs 1)]) (rest := []) X hl (fb_goodV fw_2366 fw_2367 fw_2368 fw_204 fw_2369) (c_nameNear_out l D cI cJ za zr (xs 1) _ q1) rfl rfl rfl (by decide +kernel : fb_hd yX12_nameNear 1) ⟨Nat.le_of_ble_eq_true rfl, Nat.le_of_ble_eq_true rfl⟩ rfl rfl rfl rfl rfl (Nat.le_of_ble_eq_true rfl) ⟨Nat.le_of_ble_eq_true rfl, Nat.le_of_ble_eq_true rfl⟩ dL_law_559 I) ?_
  intro r4 w3 H locs e0 I
  subst e0
  have I : fb_In D (fun q : Nat => s.heap.size ≤ q) s.heap (([fb_jw cJ zx 1 zg, fb_o12 za zr (upd (upd fr_e0 19 (0 : Int32)) 19 (1 : Int32))] : List va_W).flatten) H locs := I
  refine lv_istore (lv' := [(6, .int (0 : Int32)), (5, .int (1 : Int32)), (4, .int (0 : Int32)), (3, .ref zx), (2, .ref za), (1, .ref zb), (0, .ref b)]) hx hb dL_law_562 hl (by decide) rfl (fun ls hl => ?_)
  refine lv_aload_n hx hb dL_law_564 rfl (lv_at hl 4 rfl) ?_
  refine fb_gO (cs := [fb_o12 za zr (upd (upd fr_e0 19 (0 : Int32)) 19 (1 : Int32))]) (rs := [fb_jw cJ zx 1 zg]) X I [1, 0] 2 rfl (by decide +kernel) rfl rfl (fun I => fb_rV (As := []) (rest := []) X hl (fb_goodV fw_2119 fw_2120 fw_2121 fw_204 fw_2122) (c_thrown l D cI cJ za zr (upd (upd fr_e0 19 (0 : Int32)) 19 (1 : Int32)) _ ) rfl rfl rfl (by decide +kernel : fb_hd yX12_thrown 0) ⟨Nat.le_of_ble_eq_true rfl, Nat.le_of_ble_eq_true rfl⟩ rfl rfl rfl rfl rfl (Nat.le_of_ble_eq_true rfl) ⟨Nat.le_of_ble_eq_true rfl, Nat.le_of_ble_eq_true rfl⟩ dL_law_565 I) ?_
  refine fb_tI (v := (1 : Int32)) rfl ?_
  refine lv_iload hx hb dL_law_568 (lv_at hl 1 rfl) ?_
  refine lv_icmp_eq (tgt := 575) hx hb dL_law_570 (by decide) (fun _ => ?_) (fun c5 => absurd rfl c5)
  refine lv_iload hx hb dL_law_575 (lv_at hl 1 rfl) ?_
  refine lv_if_ne (tgt := 592) hx hb dL_law_577 (by decide) (fun _ => ?_) (fun c6 => absurd c6 (by decide))
  refine lv_goto (tgt := 2336) hx hb dL_law_592 (by decide) ?_
  exact lw_end X hX hbl hbA (by omega) I (lv_sub hl [2, 6] rfl) (Nat.le_of_ble_eq_true rfl) (Nat.le_of_ble_eq_true rfl)

set_option maxHeartbeats 4000000 in
set_option maxRecDepth 100000 in
theorem lc_6_i {p : Program} {l : Launch} {e : Env} {s : State} {m : MethodId} {below : List Frame} {meth : Method} {c : Code} {H : Heap} {locs : List Loc} {ls : Array Slot} {D : va_G} {cI cJ : ClassId} {b L : Nat} {xs : Nat → Int32} {zb : Nat} {zt : Nat} {zn : Nat} {zv : Nat} {zs : Nat} {zp : Nat} {zq : Nat → Nat} {zu : Nat → Nat} {zh : Nat} {zst : Nat} {zre : Nat} {zn0 : Nat} {zn1 : Nat} {zn3 : Nat} {zx : Nat} {zg : Nat → Int64} {za : Nat} {zr : Nat → Nat} {zj : Nat} (hst : l.stackTraces = false) (X : fb_Bx p s m #[Value.ref b] meth c cL_law RL 9 (some .boolean) D (fb_ty D cI cJ) (fun q : Nat => s.heap.size ≤ q)) (hX : va_X b L xs s s.heap) (hbl : b < s.heap.size) (hbA : ¬ (fun q : Nat => s.heap.size ≤ q) b) (hL6 : L = 6) (hz : xs 1 = nI zj) (hj : zj < 4096) (I : fb_In D (fun q : Nat => s.heap.size ≤ q) s.heap (([fb_o11 zb zt zn zv zs zp (zq 0) (zu 0) zh zst zre, fb_o3 zn zn0 zn1 zn3 (fun _ => 0), fb_aw cI zn3 120 (fun _ => 0), fb_jw cJ zx 1 zg, fb_o12 za zr fr_e0] : List va_W).flatten) H locs) (hl : lv_has ls 9 [(4, .int (0 : Int32)), (3, .ref zx), (2, .ref za), (1, .ref zb), (0, .ref b)]) : W p l e room_1 s m #[Value.ref b] below meth c H locs 209 179241 (lw_Z below #[Value.ref b] s) (F0 m 539 ls []) := by
  obtain ⟨hx, hb, hr, hml, hown, hts, hlk, hA, hK, hF⟩ := id X
  refine lv_aload_n hx hb dL_law_539 rfl (lv_at hl 3 rfl) ?_
  refine lv_aload_n hx hb dL_law_540 rfl (lv_at hl 4 rfl) ?_
  refine lv_iload hx hb dL_law_541 (lv_at hl 0 rfl) ?_
  refine lv_iconst (v := (1 : Int32)) hx hb dL_law_543 (by decide) ?_
  refine lv_iadd hx hb dL_law_544 ?_
  refine fb_tI (v := (1 : Int32)) (by decide) ?_
  refine va_sld (i := (1 : Int32)) hx hb hX hbl hbA I.2.2 (fb_inC (n := 1) (by decide) (by decide) (by omega)) dL_law_545 ?_
  refine fb_tI (v := (xs 1)) rfl ?_
  refine fb_tI (v := (nI zj)) hz ?_
  refine lv_aload_n hx hb dL_law_546 rfl (lv_at hl 1 rfl) ?_
  refine fb_gI (cs := [fb_o11 zb zt zn zv zs zp (zq 0) (zu 0) zh zst zre, fb_o3 zn zn0 zn1 zn3 (fun _ => 0), fb_aw cI zn3 120 (fun _ => 0), fb_jw cJ zx 1 zg]) (rs := [fb_o12 za zr fr_e0]) (fun (t : Unit) => [fb_jw cJ zx 1 (vp_updL zg 0 (((-1 : Int32)).toInt64)), fb_o12 za zr fr_e0]) (fun (t : Unit) => [fb_jw cJ zx 1 (vp_updL zg 0 (((-1 : Int32)).toInt64))]) X I [0, 1, 2, 3, 4] 5 rfl (by decide +kernel) rfl rfl [0, 1] 2 (fun _ => rfl) (by decide +kernel) (fun _ => rfl) (fun _ => rfl) (fun I => fb_rSW (As := [.ref zb, .int (nI zj), .ref zx]) (rest := []) X hl (fb_goodSW fw_1710 fw_1711 fw_190 fw_1712) (c_w_nameNear_in l D cI cJ zb zt zn zv zs zp zq zu zh zst zre zn0 zn1 zn3 zx zg zj _ hst (by omega)) rfl rfl (by decide +kernel : fb_hd yL_nameNear 3) ⟨Nat.le_of_ble_eq_true rfl, Nat.le_of_ble_eq_true rfl⟩ rfl rfl (Nat.le_of_ble_eq_true rfl) ⟨Nat.le_of_ble_eq_true rfl, Nat.le_of_ble_eq_true rfl⟩ dL_law_547 I) ?_
  intro r2 w1 H locs e0 I
  subst e0
  have I : fb_In D (fun q : Nat => s.heap.size ≤ q) s.heap (([fb_jw cJ zx 1 (vp_updL zg 0 (((-1 : Int32)).toInt64)), fb_o12 za zr fr_e0] : List va_W).flatten) H locs := I
  refine lv_istore (lv' := [(5, .int (0 : Int32)), (4, .int (0 : Int32)), (3, .ref zx), (2, .ref za), (1, .ref zb), (0, .ref b)]) hx hb dL_law_550 hl (by decide) rfl (fun ls hl => ?_)
  refine lv_aload_n hx hb dL_law_552 rfl (lv_at hl 3 rfl) ?_
  refine lv_aload_n hx hb dL_law_553 rfl (lv_at hl 5 rfl) ?_
  refine lv_iload hx hb dL_law_554 (lv_at hl 1 rfl) ?_
  refine lv_iconst (v := (1 : Int32)) hx hb dL_law_556 (by decide) ?_
  refine lv_iadd hx hb dL_law_557 ?_
  refine fb_tI (v := (1 : Int32)) (by decide) ?_
  refine va_sld (i := (1 : Int32)) hx hb hX hbl hbA I.2.2 (fb_inC (n := 1) (by decide) (by decide) (by omega)) dL_law_558 ?_
  refine fb_tI (v := (xs 1)) rfl ?_
  refine fb_tI (v := (nI zj)) hz ?_
  refine fb_gI (cs := [fb_o12 za zr fr_e0]) (rs := [fb_jw cJ zx 1 (vp_updL zg 0 (((-1 : Int32)).toInt64))]) (fun (t : Unit) => [fb_jw cJ zx 1 (vp_updL zg 0 (((-1 : Int32)).toInt64)), fb_o12 za zr (upd fr_e0 19 (0 : Int32))]) (fun (t : Unit) => [fb_o12 za zr (upd fr_e0 19 (0 : Int32))]) X I [1, 0] 2 rfl (by decide +kernel) rfl rfl [1, 0] 2 (fun _ => rfl) (by decide +kernel) (fun _ => rfl) (fun _ => rfl) (fun I => fb_rV (As := [.int (nI zj)]) (rest := []) X hl (fb_goodV fw_2366 fw_2367 fw_2368 fw_204 fw_2369) (c_nameNear_in l D cI cJ za zr zj _ (by omega)) rfl rfl rfl (by decide +kernel : fb_hd yX12_nameNear 1) ⟨Nat.le_of_ble_eq_true rfl, Nat.le_of_ble_eq_true rfl⟩ rfl rfl rfl rfl rfl (Nat.le_of_ble_eq_true rfl) ⟨Nat.le_of_ble_eq_true rfl, Nat.le_of_ble_eq_true rfl⟩ dL_law_559 I) ?_
  intro r4 w3 H locs e0 I
  subst e0
  have I : fb_In D (fun q : Nat => s.heap.size ≤ q) s.heap (([fb_jw cJ zx 1 (vp_updL zg 0 (((-1 : Int32)).toInt64)), fb_o12 za zr (upd fr_e0 19 (0 : Int32))] : List va_W).flatten) H locs := I
  refine lv_istore (lv' := [(6, .int (-1 : Int32)), (5, .int (0 : Int32)), (4, .int (0 : Int32)), (3, .ref zx), (2, .ref za), (1, .ref zb), (0, .ref b)]) hx hb dL_law_562 hl (by decide) rfl (fun ls hl => ?_)
  refine lv_aload_n hx hb dL_law_564 rfl (lv_at hl 4 rfl) ?_
  refine fb_gO (cs := [fb_o12 za zr (upd fr_e0 19 (0 : Int32))]) (rs := [fb_jw cJ zx 1 (vp_updL zg 0 (((-1 : Int32)).toInt64))]) X I [1, 0] 2 rfl (by decide +kernel) rfl rfl (fun I => fb_rV (As := []) (rest := []) X hl (fb_goodV fw_2119 fw_2120 fw_2121 fw_204 fw_2122) (c_thrown l D cI cJ za zr (upd fr_e0 19 (0 : Int32)) _ ) rfl rfl rfl (by decide +kernel : fb_hd yX12_thrown 0) ⟨Nat.le_of_ble_eq_true rfl, Nat.le_of_ble_eq_true rfl⟩ rfl rfl rfl rfl rfl (Nat.le_of_ble_eq_true rfl) ⟨Nat.le_of_ble_eq_true rfl, Nat.le_of_ble_eq_true rfl⟩ dL_law_565 I) ?_
  refine fb_tI (v := (0 : Int32)) rfl ?_
  refine lv_iload hx hb dL_law_568 (lv_at hl 1 rfl) ?_
  refine lv_icmp_eq (tgt := 575) hx hb dL_law_570 (by decide) (fun _ => ?_) (fun c5 => absurd rfl c5)
  refine lv_iload hx hb dL_law_575 (lv_at hl 1 rfl) ?_
  refine lv_if_ne (tgt := 592) hx hb dL_law_577 (by decide) (fun c6 => absurd (by decide) c6) (fun _ => ?_)
  refine lv_aload_n hx hb dL_law_580 rfl (lv_at hl 3 rfl) ?_
  refine lv_iconst (v := (0 : Int32)) hx hb dL_law_581 (by decide) ?_
  refine va_lald (i := (0 : Int32)) hx hb hK.1 I.1 0 1 rfl rfl (fb_inC (n := 0) (by decide) (by decide) (Nat.le_of_ble_eq_true rfl)) dL_law_582 ?_
  refine fb_tL (v := (((-1 : Int32)).toInt64)) rfl ?_
  refine lv_iload hx hb dL_law_583 (lv_at hl 0 rfl) ?_
  refine lv_i2l (v := (((-1 : Int32)).toInt64)) hx hb dL_law_585 rfl ?_
  refine W.lcmp hx hb dL_law_586 ?_
  refine fb_tI (v := (0 : Int32)) (lw_cmp0 _) ?_
  refine lv_if_eq (tgt := 592) hx hb dL_law_587 (by decide) (fun _ => ?_) (fun c7 => absurd (by decide) c7)
  refine lv_goto (tgt := 2336) hx hb dL_law_592 (by decide) ?_
  exact lw_end X hX hbl hbA (by omega) I (lv_sub hl [2, 6] rfl) (Nat.le_of_ble_eq_true rfl) (Nat.le_of_ble_eq_true rfl)

set_option maxHeartbeats 4000000 in
set_option maxRecDepth 100000 in
theorem lc_33_o {p : Program} {l : Launch} {e : Env} {s : State} {m : MethodId} {below : List Frame} {meth : Method} {c : Code} {H : Heap} {locs : List Loc} {ls : Array Slot} {D : va_G} {cI cJ : ClassId} {b L : Nat} {xs : Nat → Int32} {zb : Nat} {zt : Nat} {zn : Nat} {zv : Nat} {zs : Nat} {zp : Nat} {zq : Nat → Nat} {zu : Nat → Nat} {zh : Nat} {zst : Nat} {zre : Nat} {zx : Nat} {zg : Nat → Int64} {za : Nat} {zr : Nat → Nat} (hst : l.stackTraces = false) (X : fb_Bx p s m #[Value.ref b] meth c cL_law RL 9 (some .boolean) D (fb_ty D cI cJ) (fun q : Nat => s.heap.size ≤ q)) (hX : va_X b L xs s s.heap) (hbl : b < s.heap.size) (hbA : ¬ (fun q : Nat => s.heap.size ≤ q) b) (hL6 : L = 6) (gA : f_X11_isNoAddress (xs 1) = (1 : Int32)) (q1 : f_X12_isIn (xs 1) (0 : Int32) (4095 : Int32) = (0 : Int32)) (I : fb_In D (fun q : Nat => s.heap.size ≤ q) s.heap (([fb_o11 zb zt zn zv zs zp (zq 0) (zu 0) zh zst zre, fb_jw cJ zx 1 zg, fb_o12 za zr fr_e0, fb_aw cI (zr 0) 16205 (fr_m (fun _ => 0) 0)] : List va_W).flatten) H locs) (hl : lv_has ls 9 [(4, .int (0 : Int32)), (3, .ref zx), (2, .ref za), (1, .ref zb), (0, .ref b)]) : W p l e room_1 s m #[Value.ref b] below meth c H locs 209 179241 (lw_Z below #[Value.ref b] s) (F0 m 1393 ls []) := by
  obtain ⟨hx, hb, hr, hml, hown, hts, hlk, hA, hK, hF⟩ := id X
  refine lv_aload_n hx hb dL_law_1393 rfl (lv_at hl 3 rfl) ?_
  refine lv_aload_n hx hb dL_law_1394 rfl (lv_at hl 4 rfl) ?_
  refine lv_iload hx hb dL_law_1395 (lv_at hl 0 rfl) ?_
  refine lv_iconst (v := (1 : Int32)) hx hb dL_law_1397 (by decide) ?_
  refine lv_iadd hx hb dL_law_1398 ?_
  refine fb_tI (v := (1 : Int32)) (by decide) ?_
  refine va_sld (i := (1 : Int32)) hx hb hX hbl hbA I.2.2 (fb_inC (n := 1) (by decide) (by decide) (by omega)) dL_law_1399 ?_
  refine fb_tI (v := (xs 1)) rfl ?_
  refine lv_aload_n hx hb dL_law_1400 rfl (lv_at hl 1 rfl) ?_
  refine fb_gI (cs := [fb_o11 zb zt zn zv zs zp (zq 0) (zu 0) zh zst zre, fb_jw cJ zx 1 zg]) (rs := [fb_o12 za zr fr_e0, fb_aw cI (zr 0) 16205 (fr_m (fun _ => 0) 0)]) (fun (t : Unit) => [fb_jw cJ zx 1 zg, fb_o12 za zr fr_e0, fb_aw cI (zr 0) 16205 (fr_m (fun _ => 0) 0)]) (fun (t : Unit) => [fb_jw cJ zx 1 zg]) X I [0, 1, 2, 3] 4 rfl (by decide +kernel) rfl rfl [0, 1, 2] 3 (fun _ => rfl) (by decide +kernel) (fun _ => rfl) (fun _ => rfl) (fun I => fb_rSW (As := [.ref zb, .int (xs 1), .ref zx]) (rest := []) X hl (fb_goodSW fw_1823 fw_1824 fw_190 fw_1825) (c_w_byteAt_o l D cI cJ zb zt zn zv zs zp zq zu zh zst zre zx zg (xs 1) _ hst gA) rfl rfl (by decide +kernel : fb_hd yL_byteAt 3) ⟨Nat.le_of_ble_eq_true rfl, Nat.le_of_ble_eq_true rfl⟩ rfl rfl (Nat.le_of_ble_eq_true rfl) ⟨Nat.le_of_ble_eq_true rfl, Nat.le_of_ble_eq_true rfl⟩ dL_law_1401 I) ?_
  intro r2 w1 H locs e0 I
  subst e0
  have I : fb_In D (fun q : Nat => s.heap.size ≤ q) s.heap (([fb_jw cJ zx 1 zg, fb_o12 za zr fr_e0, fb_aw cI (zr 0) 16205 (fr_m (fun _ => 0) 0)] : List va_W).flatten) H locs := I
  refine lv_istore (lv' := [(5, .int (1 : Int32)), (4, .int (0 : Int32)), (3, .ref zx), (2, .ref za), (1, .ref zb), (0, .ref b)]) hx hb dL_law_1404 hl (by decide) rfl (fun ls hl => ?_)
  refine lv_aload_n hx hb dL_law_1406 rfl (lv_at hl 3 rfl) ?_
  refine lv_aload_n hx hb dL_law_1407 rfl (lv_at hl 5 rfl) ?_
  refine lv_iload hx hb dL_law_1408 (lv_at hl 1 rfl) ?_
  refine lv_iconst (v := (1 : Int32)) hx hb dL_law_1410 (by decide) ?_
  refine lv_iadd hx hb dL_law_1411 ?_
  refine fb_tI (v := (1 : Int32)) (by decide) ?_
  refine va_sld (i := (1 : Int32)) hx hb hX hbl hbA I.2.2 (fb_inC (n := 1) (by decide) (by decide) (by omega)) dL_law_1412 ?_
  refine fb_tI (v := (xs 1)) rfl ?_
  refine fb_gI (cs := [fb_o12 za zr fr_e0, fb_aw cI (zr 0) 16205 (fr_m (fun _ => 0) 0)]) (rs := [fb_jw cJ zx 1 zg]) (fun (t : Unit) => [fb_jw cJ zx 1 zg, fb_o12 za zr (upd (upd fr_e0 19 (0 : Int32)) 19 (1 : Int32)), fb_aw cI (zr 0) 16205 (fr_m (fun _ => 0) 0)]) (fun (t : Unit) => [fb_o12 za zr (upd (upd fr_e0 19 (0 : Int32)) 19 (1 : Int32)), fb_aw cI (zr 0) 16205 (fr_m (fun _ => 0) 0)]) X I [1, 2, 0] 3 rfl (by decide +kernel) rfl rfl [1, 2, 0] 3 (fun _ => rfl) (by decide +kernel) (fun _ => rfl) (fun _ => rfl) (fun I => fb_rV (As := [.int (xs 1)]) (rest := []) X hl (fb_goodV fw_2659 fw_2660 fw_2661 fw_204 fw_2662) (c_byteAt_out l D cI cJ za zr (xs 1) _ q1) rfl rfl rfl (by decide +kernel : fb_hd yX12_byteAt 1) ⟨Nat.le_of_ble_eq_true rfl, Nat.le_of_ble_eq_true rfl⟩ rfl rfl rfl rfl rfl (Nat.le_of_ble_eq_true rfl) ⟨Nat.le_of_ble_eq_true rfl, Nat.le_of_ble_eq_true rfl⟩ dL_law_1413 I) ?_
  intro r4 w3 H locs e0 I
  subst e0
  have I : fb_In D (fun q : Nat => s.heap.size ≤ q) s.heap (([fb_jw cJ zx 1 zg, fb_o12 za zr (upd (upd fr_e0 19 (0 : Int32)) 19 (1 : Int32)), fb_aw cI (zr 0) 16205 (fr_m (fun _ => 0) 0)] : List va_W).flatten) H locs := I
  refine lv_istore (lv' := [(6, .int (0 : Int32)), (5, .int (1 : Int32)), (4, .int (0 : Int32)), (3, .ref zx), (2, .ref za), (1, .ref zb), (0, .ref b)]) hx hb dL_law_1416 hl (by decide) rfl (fun ls hl => ?_)
  refine lv_aload_n hx hb dL_law_1418 rfl (lv_at hl 4 rfl) ?_
  refine fb_gO (cs := [fb_o12 za zr (upd (upd fr_e0 19 (0 : Int32)) 19 (1 : Int32))]) (rs := [fb_jw cJ zx 1 zg, fb_aw cI (zr 0) 16205 (fr_m (fun _ => 0) 0)]) X I [1, 0, 2] 3 rfl (by decide +kernel) rfl rfl (fun I => fb_rV (As := []) (rest := []) X hl (fb_goodV fw_2119 fw_2120 fw_2121 fw_204 fw_2122) (c_thrown l D cI cJ za zr (upd (upd fr_e0 19 (0 : Int32)) 19 (1 : Int32)) _ ) rfl rfl rfl (by decide +kernel : fb_hd yX12_thrown 0) ⟨Nat.le_of_ble_eq_true rfl, Nat.le_of_ble_eq_true rfl⟩ rfl rfl rfl rfl rfl (Nat.le_of_ble_eq_true rfl) ⟨Nat.le_of_ble_eq_true rfl, Nat.le_of_ble_eq_true rfl⟩ dL_law_1419 I) ?_
  refine fb_tI (v := (1 : Int32)) rfl ?_
  refine lv_iload hx hb dL_law_1422 (lv_at hl 1 rfl) ?_
  refine lv_icmp_eq (tgt := 1429) hx hb dL_law_1424 (by decide) (fun _ => ?_) (fun c5 => absurd rfl c5)
  refine lv_iload hx hb dL_law_1429 (lv_at hl 1 rfl) ?_
  refine lv_if_ne (tgt := 1446) hx hb dL_law_1431 (by decide) (fun _ => ?_) (fun c6 => absurd c6 (by decide))
  refine lv_goto (tgt := 2336) hx hb dL_law_1446 (by decide) ?_
  exact lw_end X hX hbl hbA (by omega) I (lv_sub hl [2, 6] rfl) (Nat.le_of_ble_eq_true rfl) (Nat.le_of_ble_eq_true rfl)

set_option maxHeartbeats 4000000 in
set_option maxRecDepth 100000 in
theorem lc_33_i {p : Program} {l : Launch} {e : Env} {s : State} {m : MethodId} {below : List Frame} {meth : Method} {c : Code} {H : Heap} {locs : List Loc} {ls : Array Slot} {D : va_G} {cI cJ : ClassId} {b L : Nat} {xs : Nat → Int32} {zb : Nat} {zt : Nat} {zn : Nat} {zv : Nat} {zs : Nat} {zp : Nat} {zq : Nat → Nat} {zu : Nat → Nat} {zh : Nat} {zst : Nat} {zre : Nat} {zw : fb_AR} {zx : Nat} {zg : Nat → Int64} {za : Nat} {zr : Nat → Nat} {zj : Nat} (hst : l.stackTraces = false) (X : fb_Bx p s m #[Value.ref b] meth c cL_law RL 9 (some .boolean) D (fb_ty D cI cJ) (fun q : Nat => s.heap.size ≤ q)) (hX : va_X b L xs s s.heap) (hbl : b < s.heap.size) (hbA : ¬ (fun q : Nat => s.heap.size ≤ q) b) (hL6 : L = 6) (hz : xs 1 = nI zj) (hj : zj < 4096) (I : fb_In D (fun q : Nat => s.heap.size ≤ q) s.heap (([fb_o11 zb zt zn zv zs zp (zq 0) (zu 0) zh zst zre, fb_mw cI zq fb_s0 zw, fb_jw cJ zx 1 zg, fb_o12 za zr fr_e0, fb_aw cI (zr 0) 16205 (fr_m (fun _ => 0) 0)] : List va_W).flatten) H locs) (hl : lv_has ls 9 [(4, .int (0 : Int32)), (3, .ref zx), (2, .ref za), (1, .ref zb), (0, .ref b)]) : W p l e room_1 s m #[Value.ref b] below meth c H locs 209 179241 (lw_Z below #[Value.ref b] s) (F0 m 1393 ls []) := by
  obtain ⟨hx, hb, hr, hml, hown, hts, hlk, hA, hK, hF⟩ := id X
  refine lv_aload_n hx hb dL_law_1393 rfl (lv_at hl 3 rfl) ?_
  refine lv_aload_n hx hb dL_law_1394 rfl (lv_at hl 4 rfl) ?_
  refine lv_iload hx hb dL_law_1395 (lv_at hl 0 rfl) ?_
  refine lv_iconst (v := (1 : Int32)) hx hb dL_law_1397 (by decide) ?_
  refine lv_iadd hx hb dL_law_1398 ?_
  refine fb_tI (v := (1 : Int32)) (by decide) ?_
  refine va_sld (i := (1 : Int32)) hx hb hX hbl hbA I.2.2 (fb_inC (n := 1) (by decide) (by decide) (by omega)) dL_law_1399 ?_
  refine fb_tI (v := (xs 1)) rfl ?_
  refine fb_tI (v := (nI zj)) hz ?_
  refine lv_aload_n hx hb dL_law_1400 rfl (lv_at hl 1 rfl) ?_
  refine fb_gI (cs := [fb_o11 zb zt zn zv zs zp (zq 0) (zu 0) zh zst zre, fb_mw cI zq fb_s0 zw, fb_jw cJ zx 1 zg]) (rs := [fb_o12 za zr fr_e0, fb_aw cI (zr 0) 16205 (fr_m (fun _ => 0) 0)]) (fun (t : Unit) => [fb_jw cJ zx 1 (vp_updL zg 0 (((0 : Int32)).toInt64)), fb_o12 za zr fr_e0, fb_aw cI (zr 0) 16205 (fr_m (fun _ => 0) 0)]) (fun (t : Unit) => [fb_jw cJ zx 1 (vp_updL zg 0 (((0 : Int32)).toInt64))]) X I [0, 1, 2, 3, 4] 5 rfl (by decide +kernel) rfl rfl [0, 1, 2] 3 (fun _ => rfl) (by decide +kernel) (fun _ => rfl) (fun _ => rfl) (fun I => fb_rSW (As := [.ref zb, .int (nI zj), .ref zx]) (rest := []) X hl (fb_goodSW fw_1823 fw_1824 fw_190 fw_1825) (c_w_byteAt_in l D cI cJ zb zt zn zv zs zp zq zu zh zst zre zw zx zg zj _ hst (by omega)) rfl rfl (by decide +kernel : fb_hd yL_byteAt 3) ⟨Nat.le_of_ble_eq_true rfl, Nat.le_of_ble_eq_true rfl⟩ rfl rfl (Nat.le_of_ble_eq_true rfl) ⟨Nat.le_of_ble_eq_true rfl, Nat.le_of_ble_eq_true rfl⟩ dL_law_1401 I) ?_
  intro r2 w1 H locs e0 I
  subst e0
  have I : fb_In D (fun q : Nat => s.heap.size ≤ q) s.heap (([fb_jw cJ zx 1 (vp_updL zg 0 (((0 : Int32)).toInt64)), fb_o12 za zr fr_e0, fb_aw cI (zr 0) 16205 (fr_m (fun _ => 0) 0)] : List va_W).flatten) H locs := I
  refine lv_istore (lv' := [(5, .int (0 : Int32)), (4, .int (0 : Int32)), (3, .ref zx), (2, .ref za), (1, .ref zb), (0, .ref b)]) hx hb dL_law_1404 hl (by decide) rfl (fun ls hl => ?_)
  refine lv_aload_n hx hb dL_law_1406 rfl (lv_at hl 3 rfl) ?_
  refine lv_aload_n hx hb dL_law_1407 rfl (lv_at hl 5 rfl) ?_
  refine lv_iload hx hb dL_law_1408 (lv_at hl 1 rfl) ?_
  refine lv_iconst (v := (1 : Int32)) hx hb dL_law_1410 (by decide) ?_
  refine lv_iadd hx hb dL_law_1411 ?_
  refine fb_tI (v := (1 : Int32)) (by decide) ?_
  refine va_sld (i := (1 : Int32)) hx hb hX hbl hbA I.2.2 (fb_inC (n := 1) (by decide) (by decide) (by omega)) dL_law_1412 ?_
  refine fb_tI (v := (xs 1)) rfl ?_
  refine fb_tI (v := (nI zj)) hz ?_
  refine fb_gI (cs := [fb_o12 za zr fr_e0, fb_aw cI (zr 0) 16205 (fr_m (fun _ => 0) 0)]) (rs := [fb_jw cJ zx 1 (vp_updL zg 0 (((0 : Int32)).toInt64))]) (fun (t : Unit) => [fb_jw cJ zx 1 (vp_updL zg 0 (((0 : Int32)).toInt64)), fb_o12 za zr (upd fr_e0 19 (0 : Int32)), fb_aw cI (zr 0) 16205 (fr_m (fun _ => 0) 0)]) (fun (t : Unit) => [fb_o12 za zr (upd fr_e0 19 (0 : Int32)), fb_aw cI (zr 0) 16205 (fr_m (fun _ => 0) 0)]) X I [1, 2, 0] 3 rfl (by decide +kernel) rfl rfl [1, 2, 0] 3 (fun _ => rfl) (by decide +kernel) (fun _ => rfl) (fun _ => rfl) (fun I => fb_rV (As := [.int (nI zj)]) (rest := []) X hl (fb_goodV fw_2659 fw_2660 fw_2661 fw_204 fw_2662) (c_byteAt_in l D cI cJ za zr zj _ (by omega)) rfl rfl rfl (by decide +kernel : fb_hd yX12_byteAt 1) ⟨Nat.le_of_ble_eq_true rfl, Nat.le_of_ble_eq_true rfl⟩ rfl rfl rfl rfl rfl (Nat.le_of_ble_eq_true rfl) ⟨Nat.le_of_ble_eq_true rfl, Nat.le_of_ble_eq_true rfl⟩ dL_law_1413 I) ?_
  intro r4 w3 H locs e0 I
  subst e0
  have I : fb_In D (fun q : Nat => s.heap.size ≤ q) s.heap (([fb_jw cJ zx 1 (vp_updL zg 0 (((0 : Int32)).toInt64)), fb_o12 za zr (upd fr_e0 19 (0 : Int32)), fb_aw cI (zr 0) 16205 (fr_m (fun _ => 0) 0)] : List va_W).flatten) H locs := I
  refine lv_istore (lv' := [(6, .int (0 : Int32)), (5, .int (0 : Int32)), (4, .int (0 : Int32)), (3, .ref zx), (2, .ref za), (1, .ref zb), (0, .ref b)]) hx hb dL_law_1416 hl (by decide) rfl (fun ls hl => ?_)
  refine lv_aload_n hx hb dL_law_1418 rfl (lv_at hl 4 rfl) ?_
  refine fb_gO (cs := [fb_o12 za zr (upd fr_e0 19 (0 : Int32))]) (rs := [fb_jw cJ zx 1 (vp_updL zg 0 (((0 : Int32)).toInt64)), fb_aw cI (zr 0) 16205 (fr_m (fun _ => 0) 0)]) X I [1, 0, 2] 3 rfl (by decide +kernel) rfl rfl (fun I => fb_rV (As := []) (rest := []) X hl (fb_goodV fw_2119 fw_2120 fw_2121 fw_204 fw_2122) (c_thrown l D cI cJ za zr (upd fr_e0 19 (0 : Int32)) _ ) rfl rfl rfl (by decide +kernel : fb_hd yX12_thrown 0) ⟨Nat.le_of_ble_eq_true rfl, Nat.le_of_ble_eq_true rfl⟩ rfl rfl rfl rfl rfl (Nat.le_of_ble_eq_true rfl) ⟨Nat.le_of_ble_eq_true rfl, Nat.le_of_ble_eq_true rfl⟩ dL_law_1419 I) ?_
  refine fb_tI (v := (0 : Int32)) rfl ?_
  refine lv_iload hx hb dL_law_1422 (lv_at hl 1 rfl) ?_
  refine lv_icmp_eq (tgt := 1429) hx hb dL_law_1424 (by decide) (fun _ => ?_) (fun c5 => absurd rfl c5)
  refine lv_iload hx hb dL_law_1429 (lv_at hl 1 rfl) ?_
  refine lv_if_ne (tgt := 1446) hx hb dL_law_1431 (by decide) (fun c6 => absurd (by decide) c6) (fun _ => ?_)
  refine lv_aload_n hx hb dL_law_1434 rfl (lv_at hl 3 rfl) ?_
  refine lv_iconst (v := (0 : Int32)) hx hb dL_law_1435 (by decide) ?_
  refine va_lald (i := (0 : Int32)) hx hb hK.1 I.1 0 1 rfl rfl (fb_inC (n := 0) (by decide) (by decide) (Nat.le_of_ble_eq_true rfl)) dL_law_1436 ?_
  refine fb_tL (v := (((0 : Int32)).toInt64)) rfl ?_
  refine lv_iload hx hb dL_law_1437 (lv_at hl 0 rfl) ?_
  refine lv_i2l (v := (((0 : Int32)).toInt64)) hx hb dL_law_1439 rfl ?_
  refine W.lcmp hx hb dL_law_1440 ?_
  refine fb_tI (v := (0 : Int32)) (lw_cmp0 _) ?_
  refine lv_if_eq (tgt := 1446) hx hb dL_law_1441 (by decide) (fun _ => ?_) (fun c7 => absurd (by decide) c7)
  refine lv_goto (tgt := 2336) hx hb dL_law_1446 (by decide) ?_
  exact lw_end X hX hbl hbA (by omega) I (lv_sub hl [2, 6] rfl) (Nat.le_of_ble_eq_true rfl) (Nat.le_of_ble_eq_true rfl)

set_option maxHeartbeats 4000000 in
set_option maxRecDepth 100000 in
theorem lc_44_o {p : Program} {l : Launch} {e : Env} {s : State} {m : MethodId} {below : List Frame} {meth : Method} {c : Code} {H : Heap} {locs : List Loc} {ls : Array Slot} {D : va_G} {cI cJ : ClassId} {b L : Nat} {xs : Nat → Int32} {zb : Nat} {zt : Nat} {zn : Nat} {zv : Nat} {zs : Nat} {zp : Nat} {zq : Nat → Nat} {zu : Nat → Nat} {zh : Nat} {zst : Nat} {zre : Nat} {zx : Nat} {zg : Nat → Int64} {za : Nat} {zr : Nat → Nat} (hst : l.stackTraces = false) (X : fb_Bx p s m #[Value.ref b] meth c cL_law RL 9 (some .boolean) D (fb_ty D cI cJ) (fun q : Nat => s.heap.size ≤ q)) (hX : va_X b L xs s s.heap) (hbl : b < s.heap.size) (hbA : ¬ (fun q : Nat => s.heap.size ≤ q) b) (hL6 : L = 6) (gA : f_X11_isNoAddress (xs 1) = (1 : Int32)) (q1 : f_X12_isIn (xs 1) (0 : Int32) (4095 : Int32) = (0 : Int32)) (I : fb_In D (fun q : Nat => s.heap.size ≤ q) s.heap (([fb_o11 zb zt zn zv zs zp (zq 0) (zu 0) zh zst zre, fb_jw cJ zx 1 zg, fb_o12 za zr fr_e0, fb_aw cI (zr 0) 16205 (fr_m (fun _ => 0) 0)] : List va_W).flatten) H locs) (hl : lv_has ls 9 [(4, .int (0 : Int32)), (3, .ref zx), (2, .ref za), (1, .ref zb), (0, .ref b)]) : W p l e room_1 s m #[Value.ref b] below meth c H locs 209 179241 (lw_Z below #[Value.ref b] s) (F0 m 1720 ls []) := by
  obtain ⟨hx, hb, hr, hml, hown, hts, hlk, hA, hK, hF⟩ := id X
  refine lv_aload_n hx hb dL_law_1720 rfl (lv_at hl 3 rfl) ?_
  refine lv_aload_n hx hb dL_law_1721 rfl (lv_at hl 4 rfl) ?_
  refine lv_iload hx hb dL_law_1722 (lv_at hl 0 rfl) ?_
  refine lv_iconst (v := (1 : Int32)) hx hb dL_law_1724 (by decide) ?_
  refine lv_iadd hx hb dL_law_1725 ?_
  refine fb_tI (v := (1 : Int32)) (by decide) ?_
  refine va_sld (i := (1 : Int32)) hx hb hX hbl hbA I.2.2 (fb_inC (n := 1) (by decide) (by decide) (by omega)) dL_law_1726 ?_
  refine fb_tI (v := (xs 1)) rfl ?_
  refine lv_aload_n hx hb dL_law_1727 rfl (lv_at hl 1 rfl) ?_
  refine fb_gI (cs := [fb_o11 zb zt zn zv zs zp (zq 0) (zu 0) zh zst zre, fb_jw cJ zx 1 zg]) (rs := [fb_o12 za zr fr_e0, fb_aw cI (zr 0) 16205 (fr_m (fun _ => 0) 0)]) (fun (t : Unit) => [fb_jw cJ zx 1 zg, fb_o12 za zr fr_e0, fb_aw cI (zr 0) 16205 (fr_m (fun _ => 0) 0)]) (fun (t : Unit) => [fb_jw cJ zx 1 zg]) X I [0, 1, 2, 3] 4 rfl (by decide +kernel) rfl rfl [0, 1, 2] 3 (fun _ => rfl) (by decide +kernel) (fun _ => rfl) (fun _ => rfl) (fun I => fb_rSW (As := [.ref zb, .int (xs 1), .ref zx]) (rest := []) X hl (fb_goodSW fw_1858 fw_1859 fw_190 fw_1860) (c_w_timesAt_o l D cI cJ zb zt zn zv zs zp zq zu zh zst zre zx zg (xs 1) _ hst gA) rfl rfl (by decide +kernel : fb_hd yL_timesAt 3) ⟨Nat.le_of_ble_eq_true rfl, Nat.le_of_ble_eq_true rfl⟩ rfl rfl (Nat.le_of_ble_eq_true rfl) ⟨Nat.le_of_ble_eq_true rfl, Nat.le_of_ble_eq_true rfl⟩ dL_law_1728 I) ?_
  intro r2 w1 H locs e0 I
  subst e0
  have I : fb_In D (fun q : Nat => s.heap.size ≤ q) s.heap (([fb_jw cJ zx 1 zg, fb_o12 za zr fr_e0, fb_aw cI (zr 0) 16205 (fr_m (fun _ => 0) 0)] : List va_W).flatten) H locs := I
  refine lv_istore (lv' := [(5, .int (1 : Int32)), (4, .int (0 : Int32)), (3, .ref zx), (2, .ref za), (1, .ref zb), (0, .ref b)]) hx hb dL_law_1731 hl (by decide) rfl (fun ls hl => ?_)
  refine lv_aload_n hx hb dL_law_1733 rfl (lv_at hl 3 rfl) ?_
  refine lv_aload_n hx hb dL_law_1734 rfl (lv_at hl 5 rfl) ?_
  refine lv_iload hx hb dL_law_1735 (lv_at hl 1 rfl) ?_
  refine lv_iconst (v := (1 : Int32)) hx hb dL_law_1737 (by decide) ?_
  refine lv_iadd hx hb dL_law_1738 ?_
  refine fb_tI (v := (1 : Int32)) (by decide) ?_
  refine va_sld (i := (1 : Int32)) hx hb hX hbl hbA I.2.2 (fb_inC (n := 1) (by decide) (by decide) (by omega)) dL_law_1739 ?_
  refine fb_tI (v := (xs 1)) rfl ?_
  refine fb_gI (cs := [fb_o12 za zr fr_e0, fb_aw cI (zr 0) 16205 (fr_m (fun _ => 0) 0)]) (rs := [fb_jw cJ zx 1 zg]) (fun (t : Unit) => [fb_jw cJ zx 1 zg, fb_o12 za zr (upd (upd fr_e0 19 (0 : Int32)) 19 (1 : Int32)), fb_aw cI (zr 0) 16205 (fr_m (fun _ => 0) 0)]) (fun (t : Unit) => [fb_o12 za zr (upd (upd fr_e0 19 (0 : Int32)) 19 (1 : Int32)), fb_aw cI (zr 0) 16205 (fr_m (fun _ => 0) 0)]) X I [1, 2, 0] 3 rfl (by decide +kernel) rfl rfl [1, 2, 0] 3 (fun _ => rfl) (by decide +kernel) (fun _ => rfl) (fun _ => rfl) (fun I => fb_rV (As := [.int (xs 1)]) (rest := []) X hl (fb_goodV fw_2707 fw_2708 fw_2709 fw_204 fw_2710) (c_timesAt_out l D cI cJ za zr (xs 1) _ q1) rfl rfl rfl (by decide +kernel : fb_hd yX12_timesAt 1) ⟨Nat.le_of_ble_eq_true rfl, Nat.le_of_ble_eq_true rfl⟩ rfl rfl rfl rfl rfl (Nat.le_of_ble_eq_true rfl) ⟨Nat.le_of_ble_eq_true rfl, Nat.le_of_ble_eq_true rfl⟩ dL_law_1740 I) ?_
  intro r4 w3 H locs e0 I
  subst e0
  have I : fb_In D (fun q : Nat => s.heap.size ≤ q) s.heap (([fb_jw cJ zx 1 zg, fb_o12 za zr (upd (upd fr_e0 19 (0 : Int32)) 19 (1 : Int32)), fb_aw cI (zr 0) 16205 (fr_m (fun _ => 0) 0)] : List va_W).flatten) H locs := I
  refine lv_istore (lv' := [(6, .int (0 : Int32)), (5, .int (1 : Int32)), (4, .int (0 : Int32)), (3, .ref zx), (2, .ref za), (1, .ref zb), (0, .ref b)]) hx hb dL_law_1743 hl (by decide) rfl (fun ls hl => ?_)
  refine lv_aload_n hx hb dL_law_1745 rfl (lv_at hl 4 rfl) ?_
  refine fb_gO (cs := [fb_o12 za zr (upd (upd fr_e0 19 (0 : Int32)) 19 (1 : Int32))]) (rs := [fb_jw cJ zx 1 zg, fb_aw cI (zr 0) 16205 (fr_m (fun _ => 0) 0)]) X I [1, 0, 2] 3 rfl (by decide +kernel) rfl rfl (fun I => fb_rV (As := []) (rest := []) X hl (fb_goodV fw_2119 fw_2120 fw_2121 fw_204 fw_2122) (c_thrown l D cI cJ za zr (upd (upd fr_e0 19 (0 : Int32)) 19 (1 : Int32)) _ ) rfl rfl rfl (by decide +kernel : fb_hd yX12_thrown 0) ⟨Nat.le_of_ble_eq_true rfl, Nat.le_of_ble_eq_true rfl⟩ rfl rfl rfl rfl rfl (Nat.le_of_ble_eq_true rfl) ⟨Nat.le_of_ble_eq_true rfl, Nat.le_of_ble_eq_true rfl⟩ dL_law_1746 I) ?_
  refine fb_tI (v := (1 : Int32)) rfl ?_
  refine lv_iload hx hb dL_law_1749 (lv_at hl 1 rfl) ?_
  refine lv_icmp_eq (tgt := 1756) hx hb dL_law_1751 (by decide) (fun _ => ?_) (fun c5 => absurd rfl c5)
  refine lv_iload hx hb dL_law_1756 (lv_at hl 1 rfl) ?_
  refine lv_if_ne (tgt := 1773) hx hb dL_law_1758 (by decide) (fun _ => ?_) (fun c6 => absurd c6 (by decide))
  refine lv_goto (tgt := 2336) hx hb dL_law_1773 (by decide) ?_
  exact lw_end X hX hbl hbA (by omega) I (lv_sub hl [2, 6] rfl) (Nat.le_of_ble_eq_true rfl) (Nat.le_of_ble_eq_true rfl)

set_option maxHeartbeats 4000000 in
set_option maxRecDepth 100000 in
theorem lc_44_i {p : Program} {l : Launch} {e : Env} {s : State} {m : MethodId} {below : List Frame} {meth : Method} {c : Code} {H : Heap} {locs : List Loc} {ls : Array Slot} {D : va_G} {cI cJ : ClassId} {b L : Nat} {xs : Nat → Int32} {zb : Nat} {zt : Nat} {zn : Nat} {zv : Nat} {zs : Nat} {zp : Nat} {zq : Nat → Nat} {zu : Nat → Nat} {zh : Nat} {zst : Nat} {zre : Nat} {zw : fb_AR} {zx : Nat} {zg : Nat → Int64} {za : Nat} {zr : Nat → Nat} {zj : Nat} (hst : l.stackTraces = false) (X : fb_Bx p s m #[Value.ref b] meth c cL_law RL 9 (some .boolean) D (fb_ty D cI cJ) (fun q : Nat => s.heap.size ≤ q)) (hX : va_X b L xs s s.heap) (hbl : b < s.heap.size) (hbA : ¬ (fun q : Nat => s.heap.size ≤ q) b) (hL6 : L = 6) (hz : xs 1 = nI zj) (hj : zj < 4096) (I : fb_In D (fun q : Nat => s.heap.size ≤ q) s.heap (([fb_o11 zb zt zn zv zs zp (zq 0) (zu 0) zh zst zre, fb_mw cI zq fb_s0 zw, fb_jw cJ zx 1 zg, fb_o12 za zr fr_e0, fb_aw cI (zr 0) 16205 (fr_m (fun _ => 0) 0)] : List va_W).flatten) H locs) (hl : lv_has ls 9 [(4, .int (0 : Int32)), (3, .ref zx), (2, .ref za), (1, .ref zb), (0, .ref b)]) : W p l e room_1 s m #[Value.ref b] below meth c H locs 209 179241 (lw_Z below #[Value.ref b] s) (F0 m 1720 ls []) := by
  obtain ⟨hx, hb, hr, hml, hown, hts, hlk, hA, hK, hF⟩ := id X
  refine lv_aload_n hx hb dL_law_1720 rfl (lv_at hl 3 rfl) ?_
  refine lv_aload_n hx hb dL_law_1721 rfl (lv_at hl 4 rfl) ?_
  refine lv_iload hx hb dL_law_1722 (lv_at hl 0 rfl) ?_
  refine lv_iconst (v := (1 : Int32)) hx hb dL_law_1724 (by decide) ?_
  refine lv_iadd hx hb dL_law_1725 ?_
  refine fb_tI (v := (1 : Int32)) (by decide) ?_
  refine va_sld (i := (1 : Int32)) hx hb hX hbl hbA I.2.2 (fb_inC (n := 1) (by decide) (by decide) (by omega)) dL_law_1726 ?_
  refine fb_tI (v := (xs 1)) rfl ?_
  refine fb_tI (v := (nI zj)) hz ?_
  refine lv_aload_n hx hb dL_law_1727 rfl (lv_at hl 1 rfl) ?_
  refine fb_gI (cs := [fb_o11 zb zt zn zv zs zp (zq 0) (zu 0) zh zst zre, fb_mw cI zq fb_s0 zw, fb_jw cJ zx 1 zg]) (rs := [fb_o12 za zr fr_e0, fb_aw cI (zr 0) 16205 (fr_m (fun _ => 0) 0)]) (fun (t : Unit) => [fb_jw cJ zx 1 (vp_updL zg 0 (((0 : Int32)).toInt64)), fb_o12 za zr fr_e0, fb_aw cI (zr 0) 16205 (fr_m (fun _ => 0) 0)]) (fun (t : Unit) => [fb_jw cJ zx 1 (vp_updL zg 0 (((0 : Int32)).toInt64))]) X I [0, 1, 2, 3, 4] 5 rfl (by decide +kernel) rfl rfl [0, 1, 2] 3 (fun _ => rfl) (by decide +kernel) (fun _ => rfl) (fun _ => rfl) (fun I => fb_rSW (As := [.ref zb, .int (nI zj), .ref zx]) (rest := []) X hl (fb_goodSW fw_1858 fw_1859 fw_190 fw_1860) (c_w_timesAt_in l D cI cJ zb zt zn zv zs zp zq zu zh zst zre zw zx zg zj _ hst (by omega)) rfl rfl (by decide +kernel : fb_hd yL_timesAt 3) ⟨Nat.le_of_ble_eq_true rfl, Nat.le_of_ble_eq_true rfl⟩ rfl rfl (Nat.le_of_ble_eq_true rfl) ⟨Nat.le_of_ble_eq_true rfl, Nat.le_of_ble_eq_true rfl⟩ dL_law_1728 I) ?_
  intro r2 w1 H locs e0 I
  subst e0
  have I : fb_In D (fun q : Nat => s.heap.size ≤ q) s.heap (([fb_jw cJ zx 1 (vp_updL zg 0 (((0 : Int32)).toInt64)), fb_o12 za zr fr_e0, fb_aw cI (zr 0) 16205 (fr_m (fun _ => 0) 0)] : List va_W).flatten) H locs := I
  refine lv_istore (lv' := [(5, .int (0 : Int32)), (4, .int (0 : Int32)), (3, .ref zx), (2, .ref za), (1, .ref zb), (0, .ref b)]) hx hb dL_law_1731 hl (by decide) rfl (fun ls hl => ?_)
  refine lv_aload_n hx hb dL_law_1733 rfl (lv_at hl 3 rfl) ?_
  refine lv_aload_n hx hb dL_law_1734 rfl (lv_at hl 5 rfl) ?_
  refine lv_iload hx hb dL_law_1735 (lv_at hl 1 rfl) ?_
  refine lv_iconst (v := (1 : Int32)) hx hb dL_law_1737 (by decide) ?_
  refine lv_iadd hx hb dL_law_1738 ?_
  refine fb_tI (v := (1 : Int32)) (by decide) ?_
  refine va_sld (i := (1 : Int32)) hx hb hX hbl hbA I.2.2 (fb_inC (n := 1) (by decide) (by decide) (by omega)) dL_law_1739 ?_
  refine fb_tI (v := (xs 1)) rfl ?_
  refine fb_tI (v := (nI zj)) hz ?_
  refine fb_gI (cs := [fb_o12 za zr fr_e0, fb_aw cI (zr 0) 16205 (fr_m (fun _ => 0) 0)]) (rs := [fb_jw cJ zx 1 (vp_updL zg 0 (((0 : Int32)).toInt64))]) (fun (t : Unit) => [fb_jw cJ zx 1 (vp_updL zg 0 (((0 : Int32)).toInt64)), fb_o12 za zr (upd fr_e0 19 (0 : Int32)), fb_aw cI (zr 0) 16205 (fr_m (fun _ => 0) 0)]) (fun (t : Unit) => [fb_o12 za zr (upd fr_e0 19 (0 : Int32)), fb_aw cI (zr 0) 16205 (fr_m (fun _ => 0) 0)]) X I [1, 2, 0] 3 rfl (by decide +kernel) rfl rfl [1, 2, 0] 3 (fun _ => rfl) (by decide +kernel) (fun _ => rfl) (fun _ => rfl) (fun I => fb_rV (As := [.int (nI zj)]) (rest := []) X hl (fb_goodV fw_2707 fw_2708 fw_2709 fw_204 fw_2710) (c_timesAt_in l D cI cJ za zr zj _ (by omega)) rfl rfl rfl (by decide +kernel : fb_hd yX12_timesAt 1) ⟨Nat.le_of_ble_eq_true rfl, Nat.le_of_ble_eq_true rfl⟩ rfl rfl rfl rfl rfl (Nat.le_of_ble_eq_true rfl) ⟨Nat.le_of_ble_eq_true rfl, Nat.le_of_ble_eq_true rfl⟩ dL_law_1740 I) ?_
  intro r4 w3 H locs e0 I
  subst e0
  have I : fb_In D (fun q : Nat => s.heap.size ≤ q) s.heap (([fb_jw cJ zx 1 (vp_updL zg 0 (((0 : Int32)).toInt64)), fb_o12 za zr (upd fr_e0 19 (0 : Int32)), fb_aw cI (zr 0) 16205 (fr_m (fun _ => 0) 0)] : List va_W).flatten) H locs := I
  refine lv_istore (lv' := [(6, .int (0 : Int32)), (5, .int (0 : Int32)), (4, .int (0 : Int32)), (3, .ref zx), (2, .ref za), (1, .ref zb), (0, .ref b)]) hx hb dL_law_1743 hl (by decide) rfl (fun ls hl => ?_)
  refine lv_aload_n hx hb dL_law_1745 rfl (lv_at hl 4 rfl) ?_
  refine fb_gO (cs := [fb_o12 za zr (upd fr_e0 19 (0 : Int32))]) (rs := [fb_jw cJ zx 1 (vp_updL zg 0 (((0 : Int32)).toInt64)), fb_aw cI (zr 0) 16205 (fr_m (fun _ => 0) 0)]) X I [1, 0, 2] 3 rfl (by decide +kernel) rfl rfl (fun I => fb_rV (As := []) (rest := []) X hl (fb_goodV fw_2119 fw_2120 fw_2121 fw_204 fw_2122) (c_thrown l D cI cJ za zr (upd fr_e0 19 (0 : Int32)) _ ) rfl rfl rfl (by decide +kernel : fb_hd yX12_thrown 0) ⟨Nat.le_of_ble_eq_true rfl, Nat.le_of_ble_eq_true rfl⟩ rfl rfl rfl rfl rfl (Nat.le_of_ble_eq_true rfl) ⟨Nat.le_of_ble_eq_true rfl, Nat.le_of_ble_eq_true rfl⟩ dL_law_1746 I) ?_
  refine fb_tI (v := (0 : Int32)) rfl ?_
  refine lv_iload hx hb dL_law_1749 (lv_at hl 1 rfl) ?_
  refine lv_icmp_eq (tgt := 1756) hx hb dL_law_1751 (by decide) (fun _ => ?_) (fun c5 => absurd rfl c5)
  refine lv_iload hx hb dL_law_1756 (lv_at hl 1 rfl) ?_
  refine lv_if_ne (tgt := 1773) hx hb dL_law_1758 (by decide) (fun c6 => absurd (by decide) c6) (fun _ => ?_)
  refine lv_aload_n hx hb dL_law_1761 rfl (lv_at hl 3 rfl) ?_
  refine lv_iconst (v := (0 : Int32)) hx hb dL_law_1762 (by decide) ?_
  refine va_lald (i := (0 : Int32)) hx hb hK.1 I.1 0 1 rfl rfl (fb_inC (n := 0) (by decide) (by decide) (Nat.le_of_ble_eq_true rfl)) dL_law_1763 ?_
  refine fb_tL (v := (((0 : Int32)).toInt64)) rfl ?_
  refine lv_iload hx hb dL_law_1764 (lv_at hl 0 rfl) ?_
  refine lv_i2l (v := (((0 : Int32)).toInt64)) hx hb dL_law_1766 rfl ?_
  refine W.lcmp hx hb dL_law_1767 ?_
  refine fb_tI (v := (0 : Int32)) (lw_cmp0 _) ?_
  refine lv_if_eq (tgt := 1773) hx hb dL_law_1768 (by decide) (fun _ => ?_) (fun c7 => absurd (by decide) c7)
  refine lv_goto (tgt := 2336) hx hb dL_law_1773 (by decide) ?_
  exact lw_end X hX hbl hbA (by omega) I (lv_sub hl [2, 6] rfl) (Nat.le_of_ble_eq_true rfl) (Nat.le_of_ble_eq_true rfl)

set_option maxHeartbeats 4000000 in
set_option maxRecDepth 100000 in
theorem lc_46_o {p : Program} {l : Launch} {e : Env} {s : State} {m : MethodId} {below : List Frame} {meth : Method} {c : Code} {H : Heap} {locs : List Loc} {ls : Array Slot} {D : va_G} {cI cJ : ClassId} {b L : Nat} {xs : Nat → Int32} {zb : Nat} {zt : Nat} {zn : Nat} {zv : Nat} {zs : Nat} {zp : Nat} {zq : Nat → Nat} {zu : Nat → Nat} {zh : Nat} {zst : Nat} {zre : Nat} {zx : Nat} {zg : Nat → Int64} {za : Nat} {zr : Nat → Nat} (hst : l.stackTraces = false) (X : fb_Bx p s m #[Value.ref b] meth c cL_law RL 9 (some .boolean) D (fb_ty D cI cJ) (fun q : Nat => s.heap.size ≤ q)) (hX : va_X b L xs s s.heap) (hbl : b < s.heap.size) (hbA : ¬ (fun q : Nat => s.heap.size ≤ q) b) (hL6 : L = 6) (gA : f_X11_isNoAddress (xs 1) = (1 : Int32)) (q1 : f_X12_isIn (xs 1) (0 : Int32) (4095 : Int32) = (0 : Int32)) (I : fb_In D (fun q : Nat => s.heap.size ≤ q) s.heap (([fb_o11 zb zt zn zv zs zp (zq 0) (zu 0) zh zst zre, fb_jw cJ zx 1 zg, fb_o12 za zr fr_e0, fb_aw cI (zr 0) 16205 (fr_m (fun _ => 0) 0)] : List va_W).flatten) H locs) (hl : lv_has ls 9 [(4, .int (0 : Int32)), (3, .ref zx), (2, .ref za), (1, .ref zb), (0, .ref b)]) : W p l e room_1 s m #[Value.ref b] below meth c H locs 209 179241 (lw_Z below #[Value.ref b] s) (F0 m 1789 ls []) := by
  obtain ⟨hx, hb, hr, hml, hown, hts, hlk, hA, hK, hF⟩ := id X
  refine lv_aload_n hx hb dL_law_1789 rfl (lv_at hl 3 rfl) ?_
  refine lv_aload_n hx hb dL_law_1790 rfl (lv_at hl 4 rfl) ?_
  refine lv_iload hx hb dL_law_1791 (lv_at hl 0 rfl) ?_
  refine lv_iconst (v := (1 : Int32)) hx hb dL_law_1793 (by decide) ?_
  refine lv_iadd hx hb dL_law_1794 ?_
  refine fb_tI (v := (1 : Int32)) (by decide) ?_
  refine va_sld (i := (1 : Int32)) hx hb hX hbl hbA I.2.2 (fb_inC (n := 1) (by decide) (by decide) (by omega)) dL_law_1795 ?_
  refine fb_tI (v := (xs 1)) rfl ?_
  refine lv_aload_n hx hb dL_law_1796 rfl (lv_at hl 1 rfl) ?_
  refine fb_gI (cs := [fb_o11 zb zt zn zv zs zp (zq 0) (zu 0) zh zst zre, fb_jw cJ zx 1 zg]) (rs := [fb_o12 za zr fr_e0, fb_aw cI (zr 0) 16205 (fr_m (fun _ => 0) 0)]) (fun (t : Unit) => [fb_jw cJ zx 1 zg, fb_o12 za zr fr_e0, fb_aw cI (zr 0) 16205 (fr_m (fun _ => 0) 0)]) (fun (t : Unit) => [fb_jw cJ zx 1 zg]) X I [0, 1, 2, 3] 4 rfl (by decide +kernel) rfl rfl [0, 1, 2] 3 (fun _ => rfl) (by decide +kernel) (fun _ => rfl) (fun _ => rfl) (fun I => fb_rSW (As := [.ref zb, .int (xs 1), .ref zx]) (rest := []) X hl (fb_goodSW fw_1865 fw_1866 fw_190 fw_1867) (c_w_codeAt_o l D cI cJ zb zt zn zv zs zp zq zu zh zst zre zx zg (xs 1) _ hst gA) rfl rfl (by decide +kernel : fb_hd yL_codeAt 3) ⟨Nat.le_of_ble_eq_true rfl, Nat.le_of_ble_eq_true rfl⟩ rfl rfl (Nat.le_of_ble_eq_true rfl) ⟨Nat.le_of_ble_eq_true rfl, Nat.le_of_ble_eq_true rfl⟩ dL_law_1797 I) ?_
  intro r2 w1 H locs e0 I
  subst e0
  have I : fb_In D (fun q : Nat => s.heap.size ≤ q) s.heap (([fb_jw cJ zx 1 zg, fb_o12 za zr fr_e0, fb_aw cI (zr 0) 16205 (fr_m (fun _ => 0) 0)] : List va_W).flatten) H locs := I
  refine lv_istore (lv' := [(5, .int (1 : Int32)), (4, .int (0 : Int32)), (3, .ref zx), (2, .ref za), (1, .ref zb), (0, .ref b)]) hx hb dL_law_1800 hl (by decide) rfl (fun ls hl => ?_)
  refine lv_aload_n hx hb dL_law_1802 rfl (lv_at hl 3 rfl) ?_
  refine lv_aload_n hx hb dL_law_1803 rfl (lv_at hl 5 rfl) ?_
  refine lv_iload hx hb dL_law_1804 (lv_at hl 1 rfl) ?_
  refine lv_iconst (v := (1 : Int32)) hx hb dL_law_1806 (by decide) ?_
  refine lv_iadd hx hb dL_law_1807 ?_
  refine fb_tI (v := (1 : Int32)) (by decide) ?_
  refine va_sld (i := (1 : Int32)) hx hb hX hbl hbA I.2.2 (fb_inC (n := 1) (by decide) (by decide) (by omega)) dL_law_1808 ?_
  refine fb_tI (v := (xs 1)) rfl ?_
  refine fb_gI (cs := [fb_o12 za zr fr_e0, fb_aw cI (zr 0) 16205 (fr_m (fun _ => 0) 0)]) (rs := [fb_jw cJ zx 1 zg]) (fun (t : Unit) => [fb_jw cJ zx 1 zg, fb_o12 za zr (upd (upd fr_e0 19 (0 : Int32)) 19 (1 : Int32)), fb_aw cI (zr 0) 16205 (fr_m (fun _ => 0) 0)]) (fun (t : Unit) => [fb_o12 za zr (upd (upd fr_e0 19 (0 : Int32)) 19 (1 : Int32)), fb_aw cI (zr 0) 16205 (fr_m (fun _ => 0) 0)]) X I [1, 2, 0] 3 rfl (by decide +kernel) rfl rfl [1, 2, 0] 3 (fun _ => rfl) (by decide +kernel) (fun _ => rfl) (fun _ => rfl) (fun I => fb_rV (As := [.int (xs 1)]) (rest := []) X hl (fb_goodV fw_2719 fw_2720 fw_2721 fw_204 fw_2722) (c_codeAt_out l D cI cJ za zr (xs 1) _ q1) rfl rfl rfl (by decide +kernel : fb_hd yX12_codeAt 1) ⟨Nat.le_of_ble_eq_true rfl, Nat.le_of_ble_eq_true rfl⟩ rfl rfl rfl rfl rfl (Nat.le_of_ble_eq_true rfl) ⟨Nat.le_of_ble_eq_true rfl, Nat.le_of_ble_eq_true rfl⟩ dL_law_1809 I) ?_
  intro r4 w3 H locs e0 I
  subst e0
  have I : fb_In D (fun q : Nat => s.heap.size ≤ q) s.heap (([fb_jw cJ zx 1 zg, fb_o12 za zr (upd (upd fr_e0 19 (0 : Int32)) 19 (1 : Int32)), fb_aw cI (zr 0) 16205 (fr_m (fun _ => 0) 0)] : List va_W).flatten) H locs := I
  refine lv_istore (lv' := [(6, .int (0 : Int32)), (5, .int (1 : Int32)), (4, .int (0 : Int32)), (3, .ref zx), (2, .ref za), (1, .ref zb), (0, .ref b)]) hx hb dL_law_1812 hl (by decide) rfl (fun ls hl => ?_)
  refine lv_aload_n hx hb dL_law_1814 rfl (lv_at hl 4 rfl) ?_
  refine fb_gO (cs := [fb_o12 za zr (upd (upd fr_e0 19 (0 : Int32)) 19 (1 : Int32))]) (rs := [fb_jw cJ zx 1 zg, fb_aw cI (zr 0) 16205 (fr_m (fun _ => 0) 0)]) X I [1, 0, 2] 3 rfl (by decide +kernel) rfl rfl (fun I => fb_rV (As := []) (rest := []) X hl (fb_goodV fw_2119 fw_2120 fw_2121 fw_204 fw_2122) (c_thrown l D cI cJ za zr (upd (upd fr_e0 19 (0 : Int32)) 19 (1 : Int32)) _ ) rfl rfl rfl (by decide +kernel : fb_hd yX12_thrown 0) ⟨Nat.le_of_ble_eq_true rfl, Nat.le_of_ble_eq_true rfl⟩ rfl rfl rfl rfl rfl (Nat.le_of_ble_eq_true rfl) ⟨Nat.le_of_ble_eq_true rfl, Nat.le_of_ble_eq_true rfl⟩ dL_law_1815 I) ?_
  refine fb_tI (v := (1 : Int32)) rfl ?_
  refine lv_iload hx hb dL_law_1818 (lv_at hl 1 rfl) ?_
  refine lv_icmp_eq (tgt := 1825) hx hb dL_law_1820 (by decide) (fun _ => ?_) (fun c5 => absurd rfl c5)
  refine lv_iload hx hb dL_law_1825 (lv_at hl 1 rfl) ?_
  refine lv_if_ne (tgt := 1842) hx hb dL_law_1827 (by decide) (fun _ => ?_) (fun c6 => absurd c6 (by decide))
  refine lv_goto (tgt := 2336) hx hb dL_law_1842 (by decide) ?_
  exact lw_end X hX hbl hbA (by omega) I (lv_sub hl [2, 6] rfl) (Nat.le_of_ble_eq_true rfl) (Nat.le_of_ble_eq_true rfl)

set_option maxHeartbeats 4000000 in
set_option maxRecDepth 100000 in
theorem lc_46_i {p : Program} {l : Launch} {e : Env} {s : State} {m : MethodId} {below : List Frame} {meth : Method} {c : Code} {H : Heap} {locs : List Loc} {ls : Array Slot} {D : va_G} {cI cJ : ClassId} {b L : Nat} {xs : Nat → Int32} {zb : Nat} {zt : Nat} {zn : Nat} {zv : Nat} {zs : Nat} {zp : Nat} {zq : Nat → Nat} {zu : Nat → Nat} {zh : Nat} {zst : Nat} {zre : Nat} {zw : fb_AR} {zx : Nat} {zg : Nat → Int64} {za : Nat} {zr : Nat → Nat} {zj : Nat} (hst : l.stackTraces = false) (X : fb_Bx p s m #[Value.ref b] meth c cL_law RL 9 (some .boolean) D (fb_ty D cI cJ) (fun q : Nat => s.heap.size ≤ q)) (hX : va_X b L xs s s.heap) (hbl : b < s.heap.size) (hbA : ¬ (fun q : Nat => s.heap.size ≤ q) b) (hL6 : L = 6) (hz : xs 1 = nI zj) (hj : zj < 4096) (I : fb_In D (fun q : Nat => s.heap.size ≤ q) s.heap (([fb_o11 zb zt zn zv zs zp (zq 0) (zu 0) zh zst zre, fb_mw cI zq fb_s0 zw, fb_jw cJ zx 1 zg, fb_o12 za zr fr_e0, fb_aw cI (zr 0) 16205 (fr_m (fun _ => 0) 0)] : List va_W).flatten) H locs) (hl : lv_has ls 9 [(4, .int (0 : Int32)), (3, .ref zx), (2, .ref za), (1, .ref zb), (0, .ref b)]) : W p l e room_1 s m #[Value.ref b] below meth c H locs 209 179241 (lw_Z below #[Value.ref b] s) (F0 m 1789 ls []) := by
  obtain ⟨hx, hb, hr, hml, hown, hts, hlk, hA, hK, hF⟩ := id X
  refine lv_aload_n hx hb dL_law_1789 rfl (lv_at hl 3 rfl) ?_
  refine lv_aload_n hx hb dL_law_1790 rfl (lv_at hl 4 rfl) ?_
  refine lv_iload hx hb dL_law_1791 (lv_at hl 0 rfl) ?_
  refine lv_iconst (v := (1 : Int32)) hx hb dL_law_1793 (by decide) ?_
  refine lv_iadd hx hb dL_law_1794 ?_
  refine fb_tI (v := (1 : Int32)) (by decide) ?_
  refine va_sld (i := (1 : Int32)) hx hb hX hbl hbA I.2.2 (fb_inC (n := 1) (by decide) (by decide) (by omega)) dL_law_1795 ?_
  refine fb_tI (v := (xs 1)) rfl ?_
  refine fb_tI (v := (nI zj)) hz ?_
  refine lv_aload_n hx hb dL_law_1796 rfl (lv_at hl 1 rfl) ?_
  refine fb_gI (cs := [fb_o11 zb zt zn zv zs zp (zq 0) (zu 0) zh zst zre, fb_mw cI zq fb_s0 zw, fb_jw cJ zx 1 zg]) (rs := [fb_o12 za zr fr_e0, fb_aw cI (zr 0) 16205 (fr_m (fun _ => 0) 0)]) (fun (t : Unit) => [fb_jw cJ zx 1 (vp_updL zg 0 (((0 : Int32)).toInt64)), fb_o12 za zr fr_e0, fb_aw cI (zr 0) 16205 (fr_m (fun _ => 0) 0)]) (fun (t : Unit) => [fb_jw cJ zx 1 (vp_updL zg 0 (((0 : Int32)).toInt64))]) X I [0, 1, 2, 3, 4] 5 rfl (by decide +kernel) rfl rfl [0, 1, 2] 3 (fun _ => rfl) (by decide +kernel) (fun _ => rfl) (fun _ => rfl) (fun I => fb_rSW (As := [.ref zb, .int (nI zj), .ref zx]) (rest := []) X hl (fb_goodSW fw_1865 fw_1866 fw_190 fw_1867) (c_w_codeAt_in l D cI cJ zb zt zn zv zs zp zq zu zh zst zre zw zx zg zj _ hst (by omega)) rfl rfl (by decide +kernel : fb_hd yL_codeAt 3) ⟨Nat.le_of_ble_eq_true rfl, Nat.le_of_ble_eq_true rfl⟩ rfl rfl (Nat.le_of_ble_eq_true rfl) ⟨Nat.le_of_ble_eq_true rfl, Nat.le_of_ble_eq_true rfl⟩ dL_law_1797 I) ?_
  intro r2 w1 H locs e0 I
  subst e0
  have I : fb_In D (fun q : Nat => s.heap.size ≤ q) s.heap (([fb_jw cJ zx 1 (vp_updL zg 0 (((0 : Int32)).toInt64)), fb_o12 za zr fr_e0, fb_aw cI (zr 0) 16205 (fr_m (fun _ => 0) 0)] : List va_W).flatten) H locs := I
  refine lv_istore (lv' := [(5, .int (0 : Int32)), (4, .int (0 : Int32)), (3, .ref zx), (2, .ref za), (1, .ref zb), (0, .ref b)]) hx hb dL_law_1800 hl (by decide) rfl (fun ls hl => ?_)
  refine lv_aload_n hx hb dL_law_1802 rfl (lv_at hl 3 rfl) ?_
  refine lv_aload_n hx hb dL_law_1803 rfl (lv_at hl 5 rfl) ?_
  refine lv_iload hx hb dL_law_1804 (lv_at hl 1 rfl) ?_
  refine lv_iconst (v := (1 : Int32)) hx hb dL_law_1806 (by decide) ?_
  refine lv_iadd hx hb dL_law_1807 ?_
  refine fb_tI (v := (1 : Int32)) (by decide) ?_
  refine va_sld (i := (1 : Int32)) hx hb hX hbl hbA I.2.2 (fb_inC (n := 1) (by decide) (by decide) (by omega)) dL_law_1808 ?_
  refine fb_tI (v := (xs 1)) rfl ?_
  refine fb_tI (v := (nI zj)) hz ?_
  refine fb_gI (cs := [fb_o12 za zr fr_e0, fb_aw cI (zr 0) 16205 (fr_m (fun _ => 0) 0)]) (rs := [fb_jw cJ zx 1 (vp_updL zg 0 (((0 : Int32)).toInt64))]) (fun (t : Unit) => [fb_jw cJ zx 1 (vp_updL zg 0 (((0 : Int32)).toInt64)), fb_o12 za zr (upd fr_e0 19 (0 : Int32)), fb_aw cI (zr 0) 16205 (fr_m (fun _ => 0) 0)]) (fun (t : Unit) => [fb_o12 za zr (upd fr_e0 19 (0 : Int32)), fb_aw cI (zr 0) 16205 (fr_m (fun _ => 0) 0)]) X I [1, 2, 0] 3 rfl (by decide +kernel) rfl rfl [1, 2, 0] 3 (fun _ => rfl) (by decide +kernel) (fun _ => rfl) (fun _ => rfl) (fun I => fb_rV (As := [.int (nI zj)]) (rest := []) X hl (fb_goodV fw_2719 fw_2720 fw_2721 fw_204 fw_2722) (c_codeAt_in l D cI cJ za zr zj _ (by omega)) rfl rfl rfl (by decide +kernel : fb_hd yX12_codeAt 1) ⟨Nat.le_of_ble_eq_true rfl, Nat.le_of_ble_eq_true rfl⟩ rfl rfl rfl rfl rfl (Nat.le_of_ble_eq_true rfl) ⟨Nat.le_of_ble_eq_true rfl, Nat.le_of_ble_eq_true rfl⟩ dL_law_1809 I) ?_
  intro r4 w3 H locs e0 I
  subst e0
  have I : fb_In D (fun q : Nat => s.heap.size ≤ q) s.heap (([fb_jw cJ zx 1 (vp_updL zg 0 (((0 : Int32)).toInt64)), fb_o12 za zr (upd fr_e0 19 (0 : Int32)), fb_aw cI (zr 0) 16205 (fr_m (fun _ => 0) 0)] : List va_W).flatten) H locs := I
  refine lv_istore (lv' := [(6, .int (0 : Int32)), (5, .int (0 : Int32)), (4, .int (0 : Int32)), (3, .ref zx), (2, .ref za), (1, .ref zb), (0, .ref b)]) hx hb dL_law_1812 hl (by decide) rfl (fun ls hl => ?_)
  refine lv_aload_n hx hb dL_law_1814 rfl (lv_at hl 4 rfl) ?_
  refine fb_gO (cs := [fb_o12 za zr (upd fr_e0 19 (0 : Int32))]) (rs := [fb_jw cJ zx 1 (vp_updL zg 0 (((0 : Int32)).toInt64)), fb_aw cI (zr 0) 16205 (fr_m (fun _ => 0) 0)]) X I [1, 0, 2] 3 rfl (by decide +kernel) rfl rfl (fun I => fb_rV (As := []) (rest := []) X hl (fb_goodV fw_2119 fw_2120 fw_2121 fw_204 fw_2122) (c_thrown l D cI cJ za zr (upd fr_e0 19 (0 : Int32)) _ ) rfl rfl rfl (by decide +kernel : fb_hd yX12_thrown 0) ⟨Nat.le_of_ble_eq_true rfl, Nat.le_of_ble_eq_true rfl⟩ rfl rfl rfl rfl rfl (Nat.le_of_ble_eq_true rfl) ⟨Nat.le_of_ble_eq_true rfl, Nat.le_of_ble_eq_true rfl⟩ dL_law_1815 I) ?_
  refine fb_tI (v := (0 : Int32)) rfl ?_
  refine lv_iload hx hb dL_law_1818 (lv_at hl 1 rfl) ?_
  refine lv_icmp_eq (tgt := 1825) hx hb dL_law_1820 (by decide) (fun _ => ?_) (fun c5 => absurd rfl c5)
  refine lv_iload hx hb dL_law_1825 (lv_at hl 1 rfl) ?_
  refine lv_if_ne (tgt := 1842) hx hb dL_law_1827 (by decide) (fun c6 => absurd (by decide) c6) (fun _ => ?_)
  refine lv_aload_n hx hb dL_law_1830 rfl (lv_at hl 3 rfl) ?_
  refine lv_iconst (v := (0 : Int32)) hx hb dL_law_1831 (by decide) ?_
  refine va_lald (i := (0 : Int32)) hx hb hK.1 I.1 0 1 rfl rfl (fb_inC (n := 0) (by decide) (by decide) (Nat.le_of_ble_eq_true rfl)) dL_law_1832 ?_
  refine fb_tL (v := (((0 : Int32)).toInt64)) rfl ?_
  refine lv_iload hx hb dL_law_1833 (lv_at hl 0 rfl) ?_
  refine lv_i2l (v := (((0 : Int32)).toInt64)) hx hb dL_law_1835 rfl ?_
  refine W.lcmp hx hb dL_law_1836 ?_
  refine fb_tI (v := (0 : Int32)) (lw_cmp0 _) ?_
  refine lv_if_eq (tgt := 1842) hx hb dL_law_1837 (by decide) (fun _ => ?_) (fun c7 => absurd (by decide) c7)
  refine lv_goto (tgt := 2336) hx hb dL_law_1842 (by decide) ?_
  exact lw_end X hX hbl hbA (by omega) I (lv_sub hl [2, 6] rfl) (Nat.le_of_ble_eq_true rfl) (Nat.le_of_ble_eq_true rfl)

set_option maxHeartbeats 4000000 in
set_option maxRecDepth 100000 in
theorem lc_47_o {p : Program} {l : Launch} {e : Env} {s : State} {m : MethodId} {below : List Frame} {meth : Method} {c : Code} {H : Heap} {locs : List Loc} {ls : Array Slot} {D : va_G} {cI cJ : ClassId} {b L : Nat} {xs : Nat → Int32} {zb : Nat} {zt : Nat} {zn : Nat} {zv : Nat} {zs : Nat} {zp : Nat} {zq : Nat → Nat} {zu : Nat → Nat} {zh : Nat} {zst : Nat} {zre : Nat} {zx : Nat} {zg : Nat → Int64} {za : Nat} {zr : Nat → Nat} (hst : l.stackTraces = false) (X : fb_Bx p s m #[Value.ref b] meth c cL_law RL 9 (some .boolean) D (fb_ty D cI cJ) (fun q : Nat => s.heap.size ≤ q)) (hX : va_X b L xs s s.heap) (hbl : b < s.heap.size) (hbA : ¬ (fun q : Nat => s.heap.size ≤ q) b) (hL6 : L = 6) (gA : f_X11_isNoAddress (xs 1) = (1 : Int32)) (q1 : f_X12_isIn (xs 1) (0 : Int32) (4095 : Int32) = (0 : Int32)) (I : fb_In D (fun q : Nat => s.heap.size ≤ q) s.heap (([fb_o11 zb zt zn zv zs zp (zq 0) (zu 0) zh zst zre, fb_jw cJ zx 1 zg, fb_o12 za zr fr_e0, fb_aw cI (zr 0) 16205 (fr_m (fun _ => 0) 0)] : List va_W).flatten) H locs) (hl : lv_has ls 9 [(4, .int (0 : Int32)), (3, .ref zx), (2, .ref za), (1, .ref zb), (0, .ref b)]) : W p l e room_1 s m #[Value.ref b] below meth c H locs 209 179241 (lw_Z below #[Value.ref b] s) (F0 m 1845 ls []) := by
  obtain ⟨hx, hb, hr, hml, hown, hts, hlk, hA, hK, hF⟩ := id X
  refine lv_aload_n hx hb dL_law_1845 rfl (lv_at hl 3 rfl) ?_
  refine lv_aload_n hx hb dL_law_1846 rfl (lv_at hl 4 rfl) ?_
  refine lv_iload hx hb dL_law_1847 (lv_at hl 0 rfl) ?_
  refine lv_iconst (v := (1 : Int32)) hx hb dL_law_1849 (by decide) ?_
  refine lv_iadd hx hb dL_law_1850 ?_
  refine fb_tI (v := (1 : Int32)) (by decide) ?_
  refine va_sld (i := (1 : Int32)) hx hb hX hbl hbA I.2.2 (fb_inC (n := 1) (by decide) (by decide) (by omega)) dL_law_1851 ?_
  refine fb_tI (v := (xs 1)) rfl ?_
  refine lv_aload_n hx hb dL_law_1852 rfl (lv_at hl 1 rfl) ?_
  refine fb_gI (cs := [fb_o11 zb zt zn zv zs zp (zq 0) (zu 0) zh zst zre, fb_jw cJ zx 1 zg]) (rs := [fb_o12 za zr fr_e0, fb_aw cI (zr 0) 16205 (fr_m (fun _ => 0) 0)]) (fun (t : Unit) => [fb_jw cJ zx 1 zg, fb_o12 za zr fr_e0, fb_aw cI (zr 0) 16205 (fr_m (fun _ => 0) 0)]) (fun (t : Unit) => [fb_jw cJ zx 1 zg]) X I [0, 1, 2, 3] 4 rfl (by decide +kernel) rfl rfl [0, 1, 2] 3 (fun _ => rfl) (by decide +kernel) (fun _ => rfl) (fun _ => rfl) (fun I => fb_rSW (As := [.ref zb, .int (xs 1), .ref zx]) (rest := []) X hl (fb_goodSW fw_1873 fw_1874 fw_190 fw_1875) (c_w_lengthAt_o l D cI cJ zb zt zn zv zs zp zq zu zh zst zre zx zg (xs 1) _ hst gA) rfl rfl (by decide +kernel : fb_hd yL_lengthAt 3) ⟨Nat.le_of_ble_eq_true rfl, Nat.le_of_ble_eq_true rfl⟩ rfl rfl (Nat.le_of_ble_eq_true rfl) ⟨Nat.le_of_ble_eq_true rfl, Nat.le_of_ble_eq_true rfl⟩ dL_law_1853 I) ?_
  intro r2 w1 H locs e0 I
  subst e0
  have I : fb_In D (fun q : Nat => s.heap.size ≤ q) s.heap (([fb_jw cJ zx 1 zg, fb_o12 za zr fr_e0, fb_aw cI (zr 0) 16205 (fr_m (fun _ => 0) 0)] : List va_W).flatten) H locs := I
  refine lv_istore (lv' := [(5, .int (1 : Int32)), (4, .int (0 : Int32)), (3, .ref zx), (2, .ref za), (1, .ref zb), (0, .ref b)]) hx hb dL_law_1856 hl (by decide) rfl (fun ls hl => ?_)
  refine lv_aload_n hx hb dL_law_1858 rfl (lv_at hl 3 rfl) ?_
  refine lv_aload_n hx hb dL_law_1859 rfl (lv_at hl 5 rfl) ?_
  refine lv_iload hx hb dL_law_1860 (lv_at hl 1 rfl) ?_
  refine lv_iconst (v := (1 : Int32)) hx hb dL_law_1862 (by decide) ?_
  refine lv_iadd hx hb dL_law_1863 ?_
  refine fb_tI (v := (1 : Int32)) (by decide) ?_
  refine va_sld (i := (1 : Int32)) hx hb hX hbl hbA I.2.2 (fb_inC (n := 1) (by decide) (by decide) (by omega)) dL_law_1864 ?_
  refine fb_tI (v := (xs 1)) rfl ?_
  refine fb_gI (cs := [fb_o12 za zr fr_e0, fb_aw cI (zr 0) 16205 (fr_m (fun _ => 0) 0)]) (rs := [fb_jw cJ zx 1 zg]) (fun (t : Unit) => [fb_jw cJ zx 1 zg, fb_o12 za zr (upd (upd fr_e0 19 (0 : Int32)) 19 (1 : Int32)), fb_aw cI (zr 0) 16205 (fr_m (fun _ => 0) 0)]) (fun (t : Unit) => [fb_o12 za zr (upd (upd fr_e0 19 (0 : Int32)) 19 (1 : Int32)), fb_aw cI (zr 0) 16205 (fr_m (fun _ => 0) 0)]) X I [1, 2, 0] 3 rfl (by decide +kernel) rfl rfl [1, 2, 0] 3 (fun _ => rfl) (by decide +kernel) (fun _ => rfl) (fun _ => rfl) (fun I => fb_rV (As := [.int (xs 1)]) (rest := []) X hl (fb_goodV fw_2723 fw_2724 fw_2725 fw_204 fw_2726) (c_lengthAt_out l D cI cJ za zr (xs 1) _ q1) rfl rfl rfl (by decide +kernel : fb_hd yX12_lengthAt 1) ⟨Nat.le_of_ble_eq_true rfl, Nat.le_of_ble_eq_true rfl⟩ rfl rfl rfl rfl rfl (Nat.le_of_ble_eq_true rfl) ⟨Nat.le_of_ble_eq_true rfl, Nat.le_of_ble_eq_true rfl⟩ dL_law_1865 I) ?_
  intro r4 w3 H locs e0 I
  subst e0
  have I : fb_In D (fun q : Nat => s.heap.size ≤ q) s.heap (([fb_jw cJ zx 1 zg, fb_o12 za zr (upd (upd fr_e0 19 (0 : Int32)) 19 (1 : Int32)), fb_aw cI (zr 0) 16205 (fr_m (fun _ => 0) 0)] : List va_W).flatten) H locs := I
  refine lv_istore (lv' := [(6, .int (0 : Int32)), (5, .int (1 : Int32)), (4, .int (0 : Int32)), (3, .ref zx), (2, .ref za), (1, .ref zb), (0, .ref b)]) hx hb dL_law_1868 hl (by decide) rfl (fun ls hl => ?_)
  refine lv_aload_n hx hb dL_law_1870 rfl (lv_at hl 4 rfl) ?_
  refine fb_gO (cs := [fb_o12 za zr (upd (upd fr_e0 19 (0 : Int32)) 19 (1 : Int32))]) (rs := [fb_jw cJ zx 1 zg, fb_aw cI (zr 0) 16205 (fr_m (fun _ => 0) 0)]) X I [1, 0, 2] 3 rfl (by decide +kernel) rfl rfl (fun I => fb_rV (As := []) (rest := []) X hl (fb_goodV fw_2119 fw_2120 fw_2121 fw_204 fw_2122) (c_thrown l D cI cJ za zr (upd (upd fr_e0 19 (0 : Int32)) 19 (1 : Int32)) _ ) rfl rfl rfl (by decide +kernel : fb_hd yX12_thrown 0) ⟨Nat.le_of_ble_eq_true rfl, Nat.le_of_ble_eq_true rfl⟩ rfl rfl rfl rfl rfl (Nat.le_of_ble_eq_true rfl) ⟨Nat.le_of_ble_eq_true rfl, Nat.le_of_ble_eq_true rfl⟩ dL_law_1871 I) ?_
  refine fb_tI (v := (1 : Int32)) rfl ?_
  refine lv_iload hx hb dL_law_1874 (lv_at hl 1 rfl) ?_
  refine lv_icmp_eq (tgt := 1881) hx hb dL_law_1876 (by decide) (fun _ => ?_) (fun c5 => absurd rfl c5)
  refine lv_iload hx hb dL_law_1881 (lv_at hl 1 rfl) ?_
  refine lv_if_ne (tgt := 1898) hx hb dL_law_1883 (by decide) (fun _ => ?_) (fun c6 => absurd c6 (by decide))
  refine lv_goto (tgt := 2336) hx hb dL_law_1898 (by decide) ?_
  exact lw_end X hX hbl hbA (by omega) I (lv_sub hl [2, 6] rfl) (Nat.le_of_ble_eq_true rfl) (Nat.le_of_ble_eq_true rfl)

set_option maxHeartbeats 4000000 in
set_option maxRecDepth 100000 in
theorem lc_47_i {p : Program} {l : Launch} {e : Env} {s : State} {m : MethodId} {below : List Frame} {meth : Method} {c : Code} {H : Heap} {locs : List Loc} {ls : Array Slot} {D : va_G} {cI cJ : ClassId} {b L : Nat} {xs : Nat → Int32} {zb : Nat} {zt : Nat} {zn : Nat} {zv : Nat} {zs : Nat} {zp : Nat} {zq : Nat → Nat} {zu : Nat → Nat} {zh : Nat} {zst : Nat} {zre : Nat} {zw : fb_AR} {zx : Nat} {zg : Nat → Int64} {za : Nat} {zr : Nat → Nat} {zj : Nat} (hst : l.stackTraces = false) (X : fb_Bx p s m #[Value.ref b] meth c cL_law RL 9 (some .boolean) D (fb_ty D cI cJ) (fun q : Nat => s.heap.size ≤ q)) (hX : va_X b L xs s s.heap) (hbl : b < s.heap.size) (hbA : ¬ (fun q : Nat => s.heap.size ≤ q) b) (hL6 : L = 6) (hz : xs 1 = nI zj) (hj : zj < 4096) (I : fb_In D (fun q : Nat => s.heap.size ≤ q) s.heap (([fb_o11 zb zt zn zv zs zp (zq 0) (zu 0) zh zst zre, fb_mw cI zq fb_s0 zw, fb_jw cJ zx 1 zg, fb_o12 za zr fr_e0, fb_aw cI (zr 0) 16205 (fr_m (fun _ => 0) 0)] : List va_W).flatten) H locs) (hl : lv_has ls 9 [(4, .int (0 : Int32)), (3, .ref zx), (2, .ref za), (1, .ref zb), (0, .ref b)]) : W p l e room_1 s m #[Value.ref b] below meth c H locs 209 179241 (lw_Z below #[Value.ref b] s) (F0 m 1845 ls []) := by
  obtain ⟨hx, hb, hr, hml, hown, hts, hlk, hA, hK, hF⟩ := id X
  refine lv_aload_n hx hb dL_law_1845 rfl (lv_at hl 3 rfl) ?_
  refine lv_aload_n hx hb dL_law_1846 rfl (lv_at hl 4 rfl) ?_
  refine lv_iload hx hb dL_law_1847 (lv_at hl 0 rfl) ?_
  refine lv_iconst (v := (1 : Int32)) hx hb dL_law_1849 (by decide) ?_
  refine lv_iadd hx hb dL_law_1850 ?_
  refine fb_tI (v := (1 : Int32)) (by decide) ?_
  refine va_sld (i := (1 : Int32)) hx hb hX hbl hbA I.2.2 (fb_inC (n := 1) (by decide) (by decide) (by omega)) dL_law_1851 ?_
  refine fb_tI (v := (xs 1)) rfl ?_
  refine fb_tI (v := (nI zj)) hz ?_
  refine lv_aload_n hx hb dL_law_1852 rfl (lv_at hl 1 rfl) ?_
  refine fb_gI (cs := [fb_o11 zb zt zn zv zs zp (zq 0) (zu 0) zh zst zre, fb_mw cI zq fb_s0 zw, fb_jw cJ zx 1 zg]) (rs := [fb_o12 za zr fr_e0, fb_aw cI (zr 0) 16205 (fr_m (fun _ => 0) 0)]) (fun (t : Unit) => [fb_jw cJ zx 1 (vp_updL zg 0 (((1 : Int32)).toInt64)), fb_o12 za zr fr_e0, fb_aw cI (zr 0) 16205 (fr_m (fun _ => 0) 0)]) (fun (t : Unit) => [fb_jw cJ zx 1 (vp_updL zg 0 (((1 : Int32)).toInt64))]) X I [0, 1, 2, 3, 4] 5 rfl (by decide +kernel) rfl rfl [0, 1, 2] 3 (fun _ => rfl) (by decide +kernel) (fun _ => rfl) (fun _ => rfl) (fun I => fb_rSW (As := [.ref zb, .int (nI zj), .ref zx]) (rest := []) X hl (fb_goodSW fw_1873 fw_1874 fw_190 fw_1875) (c_w_lengthAt_in l D cI cJ zb zt zn zv zs zp zq zu zh zst zre zw zx zg zj _ hst (by omega)) rfl rfl (by decide +kernel : fb_hd yL_lengthAt 3) ⟨Nat.le_of_ble_eq_true rfl, Nat.le_of_ble_eq_true rfl⟩ rfl rfl (Nat.le_of_ble_eq_true rfl) ⟨Nat.le_of_ble_eq_true rfl, Nat.le_of_ble_eq_true rfl⟩ dL_law_1853 I) ?_
  intro r2 w1 H locs e0 I
  subst e0
  have I : fb_In D (fun q : Nat => s.heap.size ≤ q) s.heap (([fb_jw cJ zx 1 (vp_updL zg 0 (((1 : Int32)).toInt64)), fb_o12 za zr fr_e0, fb_aw cI (zr 0) 16205 (fr_m (fun _ => 0) 0)] : List va_W).flatten) H locs := I
  refine lv_istore (lv' := [(5, .int (0 : Int32)), (4, .int (0 : Int32)), (3, .ref zx), (2, .ref za), (1, .ref zb), (0, .ref b)]) hx hb dL_law_1856 hl (by decide) rfl (fun ls hl => ?_)
  refine lv_aload_n hx hb dL_law_1858 rfl (lv_at hl 3 rfl) ?_
  refine lv_aload_n hx hb dL_law_1859 rfl (lv_at hl 5 rfl) ?_
  refine lv_iload hx hb dL_law_1860 (lv_at hl 1 rfl) ?_
  refine lv_iconst (v := (1 : Int32)) hx hb dL_law_1862 (by decide) ?_
  refine lv_iadd hx hb dL_law_1863 ?_
  refine fb_tI (v := (1 : Int32)) (by decide) ?_
  refine va_sld (i := (1 : Int32)) hx hb hX hbl hbA I.2.2 (fb_inC (n := 1) (by decide) (by decide) (by omega)) dL_law_1864 ?_
  refine fb_tI (v := (xs 1)) rfl ?_
  refine fb_tI (v := (nI zj)) hz ?_
  refine fb_gI (cs := [fb_o12 za zr fr_e0, fb_aw cI (zr 0) 16205 (fr_m (fun _ => 0) 0)]) (rs := [fb_jw cJ zx 1 (vp_updL zg 0 (((1 : Int32)).toInt64))]) (fun (t : Unit) => [fb_jw cJ zx 1 (vp_updL zg 0 (((1 : Int32)).toInt64)), fb_o12 za zr (upd fr_e0 19 (0 : Int32)), fb_aw cI (zr 0) 16205 (fr_m (fun _ => 0) 0)]) (fun (t : Unit) => [fb_o12 za zr (upd fr_e0 19 (0 : Int32)), fb_aw cI (zr 0) 16205 (fr_m (fun _ => 0) 0)]) X I [1, 2, 0] 3 rfl (by decide +kernel) rfl rfl [1, 2, 0] 3 (fun _ => rfl) (by decide +kernel) (fun _ => rfl) (fun _ => rfl) (fun I => fb_rV (As := [.int (nI zj)]) (rest := []) X hl (fb_goodV fw_2723 fw_2724 fw_2725 fw_204 fw_2726) (c_lengthAt_in l D cI cJ za zr zj _ (by omega)) rfl rfl rfl (by decide +kernel : fb_hd yX12_lengthAt 1) ⟨Nat.le_of_ble_eq_true rfl, Nat.le_of_ble_eq_true rfl⟩ rfl rfl rfl rfl rfl (Nat.le_of_ble_eq_true rfl) ⟨Nat.le_of_ble_eq_true rfl, Nat.le_of_ble_eq_true rfl⟩ dL_law_1865 I) ?_
  intro r4 w3 H locs e0 I
  subst e0
  have I : fb_In D (fun q : Nat => s.heap.size ≤ q) s.heap (([fb_jw cJ zx 1 (vp_updL zg 0 (((1 : Int32)).toInt64)), fb_o12 za zr (upd fr_e0 19 (0 : Int32)), fb_aw cI (zr 0) 16205 (fr_m (fun _ => 0) 0)] : List va_W).flatten) H locs := I
  refine lv_istore (lv' := [(6, .int (1 : Int32)), (5, .int (0 : Int32)), (4, .int (0 : Int32)), (3, .ref zx), (2, .ref za), (1, .ref zb), (0, .ref b)]) hx hb dL_law_1868 hl (by decide) rfl (fun ls hl => ?_)
  refine lv_aload_n hx hb dL_law_1870 rfl (lv_at hl 4 rfl) ?_
  refine fb_gO (cs := [fb_o12 za zr (upd fr_e0 19 (0 : Int32))]) (rs := [fb_jw cJ zx 1 (vp_updL zg 0 (((1 : Int32)).toInt64)), fb_aw cI (zr 0) 16205 (fr_m (fun _ => 0) 0)]) X I [1, 0, 2] 3 rfl (by decide +kernel) rfl rfl (fun I => fb_rV (As := []) (rest := []) X hl (fb_goodV fw_2119 fw_2120 fw_2121 fw_204 fw_2122) (c_thrown l D cI cJ za zr (upd fr_e0 19 (0 : Int32)) _ ) rfl rfl rfl (by decide +kernel : fb_hd yX12_thrown 0) ⟨Nat.le_of_ble_eq_true rfl, Nat.le_of_ble_eq_true rfl⟩ rfl rfl rfl rfl rfl (Nat.le_of_ble_eq_true rfl) ⟨Nat.le_of_ble_eq_true rfl, Nat.le_of_ble_eq_true rfl⟩ dL_law_1871 I) ?_
  refine fb_tI (v := (0 : Int32)) rfl ?_
  refine lv_iload hx hb dL_law_1874 (lv_at hl 1 rfl) ?_
  refine lv_icmp_eq (tgt := 1881) hx hb dL_law_1876 (by decide) (fun _ => ?_) (fun c5 => absurd rfl c5)
  refine lv_iload hx hb dL_law_1881 (lv_at hl 1 rfl) ?_
  refine lv_if_ne (tgt := 1898) hx hb dL_law_1883 (by decide) (fun c6 => absurd (by decide) c6) (fun _ => ?_)
  refine lv_aload_n hx hb dL_law_1886 rfl (lv_at hl 3 rfl) ?_
  refine lv_iconst (v := (0 : Int32)) hx hb dL_law_1887 (by decide) ?_
  refine va_lald (i := (0 : Int32)) hx hb hK.1 I.1 0 1 rfl rfl (fb_inC (n := 0) (by decide) (by decide) (Nat.le_of_ble_eq_true rfl)) dL_law_1888 ?_
  refine fb_tL (v := (((1 : Int32)).toInt64)) rfl ?_
  refine lv_iload hx hb dL_law_1889 (lv_at hl 0 rfl) ?_
  refine lv_i2l (v := (((1 : Int32)).toInt64)) hx hb dL_law_1891 rfl ?_
  refine W.lcmp hx hb dL_law_1892 ?_
  refine fb_tI (v := (0 : Int32)) (lw_cmp0 _) ?_
  refine lv_if_eq (tgt := 1898) hx hb dL_law_1893 (by decide) (fun _ => ?_) (fun c7 => absurd (by decide) c7)
  refine lv_goto (tgt := 2336) hx hb dL_law_1898 (by decide) ?_
  exact lw_end X hX hbl hbA (by omega) I (lv_sub hl [2, 6] rfl) (Nat.le_of_ble_eq_true rfl) (Nat.le_of_ble_eq_true rfl)

set_option maxHeartbeats 4000000 in
set_option maxRecDepth 100000 in
theorem lc_48_o {p : Program} {l : Launch} {e : Env} {s : State} {m : MethodId} {below : List Frame} {meth : Method} {c : Code} {H : Heap} {locs : List Loc} {ls : Array Slot} {D : va_G} {cI cJ : ClassId} {b L : Nat} {xs : Nat → Int32} {zb : Nat} {zt : Nat} {zn : Nat} {zv : Nat} {zs : Nat} {zp : Nat} {zq : Nat → Nat} {zu : Nat → Nat} {zh : Nat} {zst : Nat} {zre : Nat} {zx : Nat} {zg : Nat → Int64} {za : Nat} {zr : Nat → Nat} (hst : l.stackTraces = false) (X : fb_Bx p s m #[Value.ref b] meth c cL_law RL 9 (some .boolean) D (fb_ty D cI cJ) (fun q : Nat => s.heap.size ≤ q)) (hX : va_X b L xs s s.heap) (hbl : b < s.heap.size) (hbA : ¬ (fun q : Nat => s.heap.size ≤ q) b) (hL6 : L = 6) (gA : f_X11_isNoAddress (xs 1) = (1 : Int32)) (q1 : f_X12_isIn (xs 1) (0 : Int32) (4095 : Int32) = (0 : Int32)) (I : fb_In D (fun q : Nat => s.heap.size ≤ q) s.heap (([fb_o11 zb zt zn zv zs zp (zq 0) (zu 0) zh zst zre, fb_jw cJ zx 1 zg, fb_o12 za zr fr_e0, fb_aw cI (zr 0) 16205 (fr_m (fun _ => 0) 0)] : List va_W).flatten) H locs) (hl : lv_has ls 9 [(4, .int (0 : Int32)), (3, .ref zx), (2, .ref za), (1, .ref zb), (0, .ref b)]) : W p l e room_1 s m #[Value.ref b] below meth c H locs 209 179241 (lw_Z below #[Value.ref b] s) (F0 m 1901 ls []) := by
  obtain ⟨hx, hb, hr, hml, hown, hts, hlk, hA, hK, hF⟩ := id X
  refine lv_aload_n hx hb dL_law_1901 rfl (lv_at hl 3 rfl) ?_
  refine lv_aload_n hx hb dL_law_1902 rfl (lv_at hl 4 rfl) ?_
  refine lv_iload hx hb dL_law_1903 (lv_at hl 0 rfl) ?_
  refine lv_iconst (v := (1 : Int32)) hx hb dL_law_1905 (by decide) ?_
  refine lv_iadd hx hb dL_law_1906 ?_
  refine fb_tI (v := (1 : Int32)) (by decide) ?_
  refine va_sld (i := (1 : Int32)) hx hb hX hbl hbA I.2.2 (fb_inC (n := 1) (by decide) (by decide) (by omega)) dL_law_1907 ?_
  refine fb_tI (v := (xs 1)) rfl ?_
  refine lv_aload_n hx hb dL_law_1908 rfl (lv_at hl 1 rfl) ?_
  refine fb_gI (cs := [fb_o11 zb zt zn zv zs zp (zq 0) (zu 0) zh zst zre, fb_jw cJ zx 1 zg]) (rs := [fb_o12 za zr fr_e0, fb_aw cI (zr 0) 16205 (fr_m (fun _ => 0) 0)]) (fun (t : Unit) => [fb_jw cJ zx 1 zg, fb_o12 za zr fr_e0, fb_aw cI (zr 0) 16205 (fr_m (fun _ => 0) 0)]) (fun (t : Unit) => [fb_jw cJ zx 1 zg]) X I [0, 1, 2, 3] 4 rfl (by decide +kernel) rfl rfl [0, 1, 2] 3 (fun _ => rfl) (by decide +kernel) (fun _ => rfl) (fun _ => rfl) (fun I => fb_rSW (As := [.ref zb, .int (xs 1), .ref zx]) (rest := []) X hl (fb_goodSW fw_1880 fw_1881 fw_190 fw_1882) (c_w_operandAt_o l D cI cJ zb zt zn zv zs zp zq zu zh zst zre zx zg (xs 1) _ hst gA) rfl rfl (by decide +kernel : fb_hd yL_operandAt 3) ⟨Nat.le_of_ble_eq_true rfl, Nat.le_of_ble_eq_true rfl⟩ rfl rfl (Nat.le_of_ble_eq_true rfl) ⟨Nat.le_of_ble_eq_true rfl, Nat.le_of_ble_eq_true rfl⟩ dL_law_1909 I) ?_
  intro r2 w1 H locs e0 I
  subst e0
  have I : fb_In D (fun q : Nat => s.heap.size ≤ q) s.heap (([fb_jw cJ zx 1 zg, fb_o12 za zr fr_e0, fb_aw cI (zr 0) 16205 (fr_m (fun _ => 0) 0)] : List va_W).flatten) H locs := I
  refine lv_istore (lv' := [(5, .int (1 : Int32)), (4, .int (0 : Int32)), (3, .ref zx), (2, .ref za), (1, .ref zb), (0, .ref b)]) hx hb dL_law_1912 hl (by decide) rfl (fun ls hl => ?_)
  refine lv_aload_n hx hb dL_law_1914 rfl (lv_at hl 3 rfl) ?_
  refine lv_aload_n hx hb dL_law_1915 rfl (lv_at hl 5 rfl) ?_
  refine lv_iload hx hb dL_law_1916 (lv_at hl 1 rfl) ?_
  refine lv_iconst (v := (1 : Int32)) hx hb dL_law_1918 (by decide) ?_
  refine lv_iadd hx hb dL_law_1919 ?_
  refine fb_tI (v := (1 : Int32)) (by decide) ?_
  refine va_sld (i := (1 : Int32)) hx hb hX hbl hbA I.2.2 (fb_inC (n := 1) (by decide) (by decide) (by omega)) dL_law_1920 ?_
  refine fb_tI (v := (xs 1)) rfl ?_
  refine fb_gI (cs := [fb_o12 za zr fr_e0, fb_aw cI (zr 0) 16205 (fr_m (fun _ => 0) 0)]) (rs := [fb_jw cJ zx 1 zg]) (fun (t : Unit) => [fb_jw cJ zx 1 zg, fb_o12 za zr (upd (upd fr_e0 19 (0 : Int32)) 19 (1 : Int32)), fb_aw cI (zr 0) 16205 (fr_m (fun _ => 0) 0)]) (fun (t : Unit) => [fb_o12 za zr (upd (upd fr_e0 19 (0 : Int32)) 19 (1 : Int32)), fb_aw cI (zr 0) 16205 (fr_m (fun _ => 0) 0)]) X I [1, 2, 0] 3 rfl (by decide +kernel) rfl rfl [1, 2, 0] 3 (fun _ => rfl) (by decide +kernel) (fun _ => rfl) (fun _ => rfl) (fun I => fb_rV (As := [.int (xs 1)]) (rest := []) X hl (fb_goodV fw_2727 fw_2728 fw_2729 fw_204 fw_2730) (c_operandAt_out l D cI cJ za zr (xs 1) _ q1) rfl rfl rfl (by decide +kernel : fb_hd yX12_operandAt 1) ⟨Nat.le_of_ble_eq_true rfl, Nat.le_of_ble_eq_true rfl⟩ rfl rfl rfl rfl rfl (Nat.le_of_ble_eq_true rfl) ⟨Nat.le_of_ble_eq_true rfl, Nat.le_of_ble_eq_true rfl⟩ dL_law_1921 I) ?_
  intro r4 w3 H locs e0 I
  subst e0
  have I : fb_In D (fun q : Nat => s.heap.size ≤ q) s.heap (([fb_jw cJ zx 1 zg, fb_o12 za zr (upd (upd fr_e0 19 (0 : Int32)) 19 (1 : Int32)), fb_aw cI (zr 0) 16205 (fr_m (fun _ => 0) 0)] : List va_W).flatten) H locs := I
  refine lv_istore (lv' := [(6, .int (0 : Int32)), (5, .int (1 : Int32)), (4, .int (0 : Int32)), (3, .ref zx), (2, .ref za), (1, .ref zb), (0, .ref b)]) hx hb dL_law_1924 hl (by decide) rfl (fun ls hl => ?_)
  refine lv_aload_n hx hb dL_law_1926 rfl (lv_at hl 4 rfl) ?_
  refine fb_gO (cs := [fb_o12 za zr (upd (upd fr_e0 19 (0 : Int32)) 19 (1 : Int32))]) (rs := [fb_jw cJ zx 1 zg, fb_aw cI (zr 0) 16205 (fr_m (fun _ => 0) 0)]) X I [1, 0, 2] 3 rfl (by decide +kernel) rfl rfl (fun I => fb_rV (As := []) (rest := []) X hl (fb_goodV fw_2119 fw_2120 fw_2121 fw_204 fw_2122) (c_thrown l D cI cJ za zr (upd (upd fr_e0 19 (0 : Int32)) 19 (1 : Int32)) _ ) rfl rfl rfl (by decide +kernel : fb_hd yX12_thrown 0) ⟨Nat.le_of_ble_eq_true rfl, Nat.le_of_ble_eq_true rfl⟩ rfl rfl rfl rfl rfl (Nat.le_of_ble_eq_true rfl) ⟨Nat.le_of_ble_eq_true rfl, Nat.le_of_ble_eq_true rfl⟩ dL_law_1927 I) ?_
  refine fb_tI (v := (1 : Int32)) rfl ?_
  refine lv_iload hx hb dL_law_1930 (lv_at hl 1 rfl) ?_
  refine lv_icmp_eq (tgt := 1937) hx hb dL_law_1932 (by decide) (fun _ => ?_) (fun c5 => absurd rfl c5)
  refine lv_iload hx hb dL_law_1937 (lv_at hl 1 rfl) ?_
  refine lv_if_ne (tgt := 1954) hx hb dL_law_1939 (by decide) (fun _ => ?_) (fun c6 => absurd c6 (by decide))
  refine lv_goto (tgt := 2336) hx hb dL_law_1954 (by decide) ?_
  exact lw_end X hX hbl hbA (by omega) I (lv_sub hl [2, 6] rfl) (Nat.le_of_ble_eq_true rfl) (Nat.le_of_ble_eq_true rfl)

set_option maxHeartbeats 4000000 in
set_option maxRecDepth 100000 in
theorem lc_48_i {p : Program} {l : Launch} {e : Env} {s : State} {m : MethodId} {below : List Frame} {meth : Method} {c : Code} {H : Heap} {locs : List Loc} {ls : Array Slot} {D : va_G} {cI cJ : ClassId} {b L : Nat} {xs : Nat → Int32} {zb : Nat} {zt : Nat} {zn : Nat} {zv : Nat} {zs : Nat} {zp : Nat} {zq : Nat → Nat} {zu : Nat → Nat} {zh : Nat} {zst : Nat} {zre : Nat} {zw : fb_AR} {zx : Nat} {zg : Nat → Int64} {za : Nat} {zr : Nat → Nat} {zj : Nat} (hst : l.stackTraces = false) (X : fb_Bx p s m #[Value.ref b] meth c cL_law RL 9 (some .boolean) D (fb_ty D cI cJ) (fun q : Nat => s.heap.size ≤ q)) (hX : va_X b L xs s s.heap) (hbl : b < s.heap.size) (hbA : ¬ (fun q : Nat => s.heap.size ≤ q) b) (hL6 : L = 6) (hz : xs 1 = nI zj) (hj : zj < 4096) (I : fb_In D (fun q : Nat => s.heap.size ≤ q) s.heap (([fb_o11 zb zt zn zv zs zp (zq 0) (zu 0) zh zst zre, fb_mw cI zq fb_s0 zw, fb_jw cJ zx 1 zg, fb_o12 za zr fr_e0, fb_aw cI (zr 0) 16205 (fr_m (fun _ => 0) 0)] : List va_W).flatten) H locs) (hl : lv_has ls 9 [(4, .int (0 : Int32)), (3, .ref zx), (2, .ref za), (1, .ref zb), (0, .ref b)]) : W p l e room_1 s m #[Value.ref b] below meth c H locs 209 179241 (lw_Z below #[Value.ref b] s) (F0 m 1901 ls []) := by
  obtain ⟨hx, hb, hr, hml, hown, hts, hlk, hA, hK, hF⟩ := id X
  refine lv_aload_n hx hb dL_law_1901 rfl (lv_at hl 3 rfl) ?_
  refine lv_aload_n hx hb dL_law_1902 rfl (lv_at hl 4 rfl) ?_
  refine lv_iload hx hb dL_law_1903 (lv_at hl 0 rfl) ?_
  refine lv_iconst (v := (1 : Int32)) hx hb dL_law_1905 (by decide) ?_
  refine lv_iadd hx hb dL_law_1906 ?_
  refine fb_tI (v := (1 : Int32)) (by decide) ?_
  refine va_sld (i := (1 : Int32)) hx hb hX hbl hbA I.2.2 (fb_inC (n := 1) (by decide) (by decide) (by omega)) dL_law_1907 ?_
  refine fb_tI (v := (xs 1)) rfl ?_
  refine fb_tI (v := (nI zj)) hz ?_
  refine lv_aload_n hx hb dL_law_1908 rfl (lv_at hl 1 rfl) ?_
  refine fb_gI (cs := [fb_o11 zb zt zn zv zs zp (zq 0) (zu 0) zh zst zre, fb_mw cI zq fb_s0 zw, fb_jw cJ zx 1 zg]) (rs := [fb_o12 za zr fr_e0, fb_aw cI (zr 0) 16205 (fr_m (fun _ => 0) 0)]) (fun (t : Unit) => [fb_jw cJ zx 1 (vp_updL zg 0 (((-1 : Int32)).toInt64)), fb_o12 za zr fr_e0, fb_aw cI (zr 0) 16205 (fr_m (fun _ => 0) 0)]) (fun (t : Unit) => [fb_jw cJ zx 1 (vp_updL zg 0 (((-1 : Int32)).toInt64))]) X I [0, 1, 2, 3, 4] 5 rfl (by decide +kernel) rfl rfl [0, 1, 2] 3 (fun _ => rfl) (by decide +kernel) (fun _ => rfl) (fun _ => rfl) (fun I => fb_rSW (As := [.ref zb, .int (nI zj), .ref zx]) (rest := []) X hl (fb_goodSW fw_1880 fw_1881 fw_190 fw_1882) (c_w_operandAt_in l D cI cJ zb zt zn zv zs zp zq zu zh zst zre zw zx zg zj _ hst (by omega)) rfl rfl (by decide +kernel : fb_hd yL_operandAt 3) ⟨Nat.le_of_ble_eq_true rfl, Nat.le_of_ble_eq_true rfl⟩ rfl rfl (Nat.le_of_ble_eq_true rfl) ⟨Nat.le_of_ble_eq_true rfl, Nat.le_of_ble_eq_true rfl⟩ dL_law_1909 I) ?_
  intro r2 w1 H locs e0 I
  subst e0
  have I : fb_In D (fun q : Nat => s.heap.size ≤ q) s.heap (([fb_jw cJ zx 1 (vp_updL zg 0 (((-1 : Int32)).toInt64)), fb_o12 za zr fr_e0, fb_aw cI (zr 0) 16205 (fr_m (fun _ => 0) 0)] : List va_W).flatten) H locs := I
  refine lv_istore (lv' := [(5, .int (0 : Int32)), (4, .int (0 : Int32)), (3, .ref zx), (2, .ref za), (1, .ref zb), (0, .ref b)]) hx hb dL_law_1912 hl (by decide) rfl (fun ls hl => ?_)
  refine lv_aload_n hx hb dL_law_1914 rfl (lv_at hl 3 rfl) ?_
  refine lv_aload_n hx hb dL_law_1915 rfl (lv_at hl 5 rfl) ?_
  refine lv_iload hx hb dL_law_1916 (lv_at hl 1 rfl) ?_
  refine lv_iconst (v := (1 : Int32)) hx hb dL_law_1918 (by decide) ?_
  refine lv_iadd hx hb dL_law_1919 ?_
  refine fb_tI (v := (1 : Int32)) (by decide) ?_
  refine va_sld (i := (1 : Int32)) hx hb hX hbl hbA I.2.2 (fb_inC (n := 1) (by decide) (by decide) (by omega)) dL_law_1920 ?_
  refine fb_tI (v := (xs 1)) rfl ?_
  refine fb_tI (v := (nI zj)) hz ?_
  refine fb_gI (cs := [fb_o12 za zr fr_e0, fb_aw cI (zr 0) 16205 (fr_m (fun _ => 0) 0)]) (rs := [fb_jw cJ zx 1 (vp_updL zg 0 (((-1 : Int32)).toInt64))]) (fun (t : Unit) => [fb_jw cJ zx 1 (vp_updL zg 0 (((-1 : Int32)).toInt64)), fb_o12 za zr (upd fr_e0 19 (0 : Int32)), fb_aw cI (zr 0) 16205 (fr_m (fun _ => 0) 0)]) (fun (t : Unit) => [fb_o12 za zr (upd fr_e0 19 (0 : Int32)), fb_aw cI (zr 0) 16205 (fr_m (fun _ => 0) 0)]) X I [1, 2, 0] 3 rfl (by decide +kernel) rfl rfl [1, 2, 0] 3 (fun _ => rfl) (by decide +kernel) (fun _ => rfl) (fun _ => rfl) (fun I => fb_rV (As := [.int (nI zj)]) (rest := []) X hl (fb_goodV fw_2727 fw_2728 fw_2729 fw_204 fw_2730) (c_operandAt_in l D cI cJ za zr zj _ (by omega)) rfl rfl rfl (by decide +kernel : fb_hd yX12_operandAt 1) ⟨Nat.le_of_ble_eq_true rfl, Nat.le_of_ble_eq_true rfl⟩ rfl rfl rfl rfl rfl (Nat.le_of_ble_eq_true rfl) ⟨Nat.le_of_ble_eq_true rfl, Nat.le_of_ble_eq_true rfl⟩ dL_law_1921 I) ?_
  intro r4 w3 H locs e0 I
  subst e0
  have I : fb_In D (fun q : Nat => s.heap.size ≤ q) s.heap (([fb_jw cJ zx 1 (vp_updL zg 0 (((-1 : Int32)).toInt64)), fb_o12 za zr (upd fr_e0 19 (0 : Int32)), fb_aw cI (zr 0) 16205 (fr_m (fun _ => 0) 0)] : List va_W).flatten) H locs := I
  refine lv_istore (lv' := [(6, .int (-1 : Int32)), (5, .int (0 : Int32)), (4, .int (0 : Int32)), (3, .ref zx), (2, .ref za), (1, .ref zb), (0, .ref b)]) hx hb dL_law_1924 hl (by decide) rfl (fun ls hl => ?_)
  refine lv_aload_n hx hb dL_law_1926 rfl (lv_at hl 4 rfl) ?_
  refine fb_gO (cs := [fb_o12 za zr (upd fr_e0 19 (0 : Int32))]) (rs := [fb_jw cJ zx 1 (vp_updL zg 0 (((-1 : Int32)).toInt64)), fb_aw cI (zr 0) 16205 (fr_m (fun _ => 0) 0)]) X I [1, 0, 2] 3 rfl (by decide +kernel) rfl rfl (fun I => fb_rV (As := []) (rest := []) X hl (fb_goodV fw_2119 fw_2120 fw_2121 fw_204 fw_2122) (c_thrown l D cI cJ za zr (upd fr_e0 19 (0 : Int32)) _ ) rfl rfl rfl (by decide +kernel : fb_hd yX12_thrown 0) ⟨Nat.le_of_ble_eq_true rfl, Nat.le_of_ble_eq_true rfl⟩ rfl rfl rfl rfl rfl (Nat.le_of_ble_eq_true rfl) ⟨Nat.le_of_ble_eq_true rfl, Nat.le_of_ble_eq_true rfl⟩ dL_law_1927 I) ?_
  refine fb_tI (v := (0 : Int32)) rfl ?_
  refine lv_iload hx hb dL_law_1930 (lv_at hl 1 rfl) ?_
  refine lv_icmp_eq (tgt := 1937) hx hb dL_law_1932 (by decide) (fun _ => ?_) (fun c5 => absurd rfl c5)
  refine lv_iload hx hb dL_law_1937 (lv_at hl 1 rfl) ?_
  refine lv_if_ne (tgt := 1954) hx hb dL_law_1939 (by decide) (fun c6 => absurd (by decide) c6) (fun _ => ?_)
  refine lv_aload_n hx hb dL_law_1942 rfl (lv_at hl 3 rfl) ?_
  refine lv_iconst (v := (0 : Int32)) hx hb dL_law_1943 (by decide) ?_
  refine va_lald (i := (0 : Int32)) hx hb hK.1 I.1 0 1 rfl rfl (fb_inC (n := 0) (by decide) (by decide) (Nat.le_of_ble_eq_true rfl)) dL_law_1944 ?_
  refine fb_tL (v := (((-1 : Int32)).toInt64)) rfl ?_
  refine lv_iload hx hb dL_law_1945 (lv_at hl 0 rfl) ?_
  refine lv_i2l (v := (((-1 : Int32)).toInt64)) hx hb dL_law_1947 rfl ?_
  refine W.lcmp hx hb dL_law_1948 ?_
  refine fb_tI (v := (0 : Int32)) (lw_cmp0 _) ?_
  refine lv_if_eq (tgt := 1954) hx hb dL_law_1949 (by decide) (fun _ => ?_) (fun c7 => absurd (by decide) c7)
  refine lv_goto (tgt := 2336) hx hb dL_law_1954 (by decide) ?_
  exact lw_end X hX hbl hbA (by omega) I (lv_sub hl [2, 6] rfl) (Nat.le_of_ble_eq_true rfl) (Nat.le_of_ble_eq_true rfl)

set_option maxHeartbeats 4000000 in
set_option maxRecDepth 100000 in
theorem lc_53_o {p : Program} {l : Launch} {e : Env} {s : State} {m : MethodId} {below : List Frame} {meth : Method} {c : Code} {H : Heap} {locs : List Loc} {ls : Array Slot} {D : va_G} {cI cJ : ClassId} {b L : Nat} {xs : Nat → Int32} {zb : Nat} {zt : Nat} {zn : Nat} {zv : Nat} {zs : Nat} {zp : Nat} {zq : Nat → Nat} {zu : Nat → Nat} {zh : Nat} {zst : Nat} {zre : Nat} {zx : Nat} {zg : Nat → Int64} {za : Nat} {zr : Nat → Nat} (hst : l.stackTraces = false) (X : fb_Bx p s m #[Value.ref b] meth c cL_law RL 9 (some .boolean) D (fb_ty D cI cJ) (fun q : Nat => s.heap.size ≤ q)) (hX : va_X b L xs s s.heap) (hbl : b < s.heap.size) (hbA : ¬ (fun q : Nat => s.heap.size ≤ q) b) (hL6 : L = 6) (gA : f_X11_isNoAddress (xs 1) = (1 : Int32)) (q1 : f_X12_isIn (xs 1) (0 : Int32) (4095 : Int32) = (0 : Int32)) (I : fb_In D (fun q : Nat => s.heap.size ≤ q) s.heap (([fb_o11 zb zt zn zv zs zp (zq 0) (zu 0) zh zst zre, fb_jw cJ zx 1 zg, fb_o12 za zr fr_e0] : List va_W).flatten) H locs) (hl : lv_has ls 9 [(4, .int (0 : Int32)), (3, .ref zx), (2, .ref za), (1, .ref zb), (0, .ref b)]) : W p l e room_1 s m #[Value.ref b] below meth c H locs 209 179241 (lw_Z below #[Value.ref b] s) (F0 m 2205 ls []) := by
  obtain ⟨hx, hb, hr, hml, hown, hts, hlk, hA, hK, hF⟩ := id X
  refine lv_aload_n hx hb dL_law_2205 rfl (lv_at hl 3 rfl) ?_
  refine lv_aload_n hx hb dL_law_2206 rfl (lv_at hl 4 rfl) ?_
  refine lv_iload hx hb dL_law_2207 (lv_at hl 0 rfl) ?_
  refine lv_iconst (v := (1 : Int32)) hx hb dL_law_2209 (by decide) ?_
  refine lv_iadd hx hb dL_law_2210 ?_
  refine fb_tI (v := (1 : Int32)) (by decide) ?_
  refine va_sld (i := (1 : Int32)) hx hb hX hbl hbA I.2.2 (fb_inC (n := 1) (by decide) (by decide) (by omega)) dL_law_2211 ?_
  refine fb_tI (v := (xs 1)) rfl ?_
  refine lv_aload_n hx hb dL_law_2212 rfl (lv_at hl 1 rfl) ?_
  refine fb_gI (cs := [fb_o11 zb zt zn zv zs zp (zq 0) (zu 0) zh zst zre, fb_jw cJ zx 1 zg]) (rs := [fb_o12 za zr fr_e0]) (fun (t : Unit) => [fb_jw cJ zx 1 zg, fb_o12 za zr fr_e0]) (fun (t : Unit) => [fb_jw cJ zx 1 zg]) X I [0, 1, 2] 3 rfl (by decide +kernel) rfl rfl [0, 1] 2 (fun _ => rfl) (by decide +kernel) (fun _ => rfl) (fun _ => rfl) (fun I => fb_rSW (As := [.ref zb, .int (xs 1), .ref zx]) (rest := []) X hl (fb_goodSW fw_1926 fw_1927 fw_190 fw_1928) (c_w_isCode_o l D cI cJ zb zt zn zv zs zp zq zu zh zst zre zx zg (xs 1) _ hst gA) rfl rfl (by decide +kernel : fb_hd yL_isCode 3) ⟨Nat.le_of_ble_eq_true rfl, Nat.le_of_ble_eq_true rfl⟩ rfl rfl (Nat.le_of_ble_eq_true rfl) ⟨Nat.le_of_ble_eq_true rfl, Nat.le_of_ble_eq_true rfl⟩ dL_law_2213 I) ?_
  intro r2 w1 H locs e0 I
  subst e0
  have I : fb_In D (fun q : Nat => s.heap.size ≤ q) s.heap (([fb_jw cJ zx 1 zg, fb_o12 za zr fr_e0] : List va_W).flatten) H locs := I
  refine lv_istore (lv' := [(5, .int (1 : Int32)), (4, .int (0 : Int32)), (3, .ref zx), (2, .ref za), (1, .ref zb), (0, .ref b)]) hx hb dL_law_2216 hl (by decide) rfl (fun ls hl => ?_)
  refine lv_aload_n hx hb dL_law_2218 rfl (lv_at hl 3 rfl) ?_
  refine lv_aload_n hx hb dL_law_2219 rfl (lv_at hl 5 rfl) ?_
  refine lv_iload hx hb dL_law_2220 (lv_at hl 1 rfl) ?_
  refine lv_iconst (v := (1 : Int32)) hx hb dL_law_2222 (by decide) ?_
  refine lv_iadd hx hb dL_law_2223 ?_
  refine fb_tI (v := (1 : Int32)) (by decide) ?_
  refine va_sld (i := (1 : Int32)) hx hb hX hbl hbA I.2.2 (fb_inC (n := 1) (by decide) (by decide) (by omega)) dL_law_2224 ?_
  refine fb_tI (v := (xs 1)) rfl ?_
  refine fb_gI (cs := [fb_o12 za zr fr_e0]) (rs := [fb_jw cJ zx 1 zg]) (fun (t : Unit) => [fb_jw cJ zx 1 zg, fb_o12 za zr (upd (upd fr_e0 19 (0 : Int32)) 19 (1 : Int32))]) (fun (t : Unit) => [fb_o12 za zr (upd (upd fr_e0 19 (0 : Int32)) 19 (1 : Int32))]) X I [1, 0] 2 rfl (by decide +kernel) rfl rfl [1, 0] 2 (fun _ => rfl) (by decide +kernel) (fun _ => rfl) (fun _ => rfl) (fun I => fb_rV (As := [.int (xs 1)]) (rest := []) X hl (fb_goodV fw_2763 fw_2764 fw_2765 fw_204 fw_2766) (c_isCode_out l D cI cJ za zr (xs 1) _ q1) rfl rfl rfl (by decide +kernel : fb_hd yX12_isCode 1) ⟨Nat.le_of_ble_eq_true rfl, Nat.le_of_ble_eq_true rfl⟩ rfl rfl rfl rfl rfl (Nat.le_of_ble_eq_true rfl) ⟨Nat.le_of_ble_eq_true rfl, Nat.le_of_ble_eq_true rfl⟩ dL_law_2225 I) ?_
  intro r4 w3 H locs e0 I
  subst e0
  have I : fb_In D (fun q : Nat => s.heap.size ≤ q) s.heap (([fb_jw cJ zx 1 zg, fb_o12 za zr (upd (upd fr_e0 19 (0 : Int32)) 19 (1 : Int32))] : List va_W).flatten) H locs := I
  refine lv_istore (lv' := [(6, .int (0 : Int32)), (5, .int (1 : Int32)), (4, .int (0 : Int32)), (3, .ref zx), (2, .ref za), (1, .ref zb), (0, .ref b)]) hx hb dL_law_2228 hl (by decide) rfl (fun ls hl => ?_)
  refine lv_aload_n hx hb dL_law_2230 rfl (lv_at hl 4 rfl) ?_
  refine fb_gO (cs := [fb_o12 za zr (upd (upd fr_e0 19 (0 : Int32)) 19 (1 : Int32))]) (rs := [fb_jw cJ zx 1 zg]) X I [1, 0] 2 rfl (by decide +kernel) rfl rfl (fun I => fb_rV (As := []) (rest := []) X hl (fb_goodV fw_2119 fw_2120 fw_2121 fw_204 fw_2122) (c_thrown l D cI cJ za zr (upd (upd fr_e0 19 (0 : Int32)) 19 (1 : Int32)) _ ) rfl rfl rfl (by decide +kernel : fb_hd yX12_thrown 0) ⟨Nat.le_of_ble_eq_true rfl, Nat.le_of_ble_eq_true rfl⟩ rfl rfl rfl rfl rfl (Nat.le_of_ble_eq_true rfl) ⟨Nat.le_of_ble_eq_true rfl, Nat.le_of_ble_eq_true rfl⟩ dL_law_2231 I) ?_
  refine fb_tI (v := (1 : Int32)) rfl ?_
  refine lv_iload hx hb dL_law_2234 (lv_at hl 1 rfl) ?_
  refine lv_icmp_eq (tgt := 2241) hx hb dL_law_2236 (by decide) (fun _ => ?_) (fun c5 => absurd rfl c5)
  refine lv_iload hx hb dL_law_2241 (lv_at hl 1 rfl) ?_
  refine lv_if_ne (tgt := 2265) hx hb dL_law_2243 (by decide) (fun _ => ?_) (fun c6 => absurd c6 (by decide))
  refine lv_goto (tgt := 2336) hx hb dL_law_2265 (by decide) ?_
  exact lw_end X hX hbl hbA (by omega) I (lv_sub hl [2, 6] rfl) (Nat.le_of_ble_eq_true rfl) (Nat.le_of_ble_eq_true rfl)

set_option maxHeartbeats 4000000 in
set_option maxRecDepth 100000 in
theorem lc_53_i {p : Program} {l : Launch} {e : Env} {s : State} {m : MethodId} {below : List Frame} {meth : Method} {c : Code} {H : Heap} {locs : List Loc} {ls : Array Slot} {D : va_G} {cI cJ : ClassId} {b L : Nat} {xs : Nat → Int32} {zb : Nat} {zt : Nat} {zn : Nat} {zv : Nat} {zs : Nat} {zp : Nat} {zq : Nat → Nat} {zu : Nat → Nat} {zh : Nat} {zst : Nat} {zre : Nat} {zw : fb_AR} {zac : Nat} {zab : Nat} {zao : Nat} {zx : Nat} {zg : Nat → Int64} {za : Nat} {zr : Nat → Nat} {zj : Nat} (hst : l.stackTraces = false) (X : fb_Bx p s m #[Value.ref b] meth c cL_law RL 9 (some .boolean) D (fb_ty D cI cJ) (fun q : Nat => s.heap.size ≤ q)) (hX : va_X b L xs s s.heap) (hbl : b < s.heap.size) (hbA : ¬ (fun q : Nat => s.heap.size ≤ q) b) (hL6 : L = 6) (hz : xs 1 = nI zj) (hj : zj < 4096) (I : fb_In D (fun q : Nat => s.heap.size ≤ q) s.heap (([fb_o11 zb zt zn zv zs zp (zq 0) (zu 0) zh zst zre, fb_mw cI zq fb_s0 zw, fb_o6 zre zac zab zao (fun _ => 0), fb_aw cI zac 4096 (fun _ => 0), fb_aw cI zab 4096 (fun _ => 0), fb_aw cI zao 4096 (fun _ => 0), fb_jw cJ zx 1 zg, fb_o12 za zr fr_e0, fb_aw cI (zr 0) 16205 (fr_m (fun _ => 0) 0)] : List va_W).flatten) H locs) (hl : lv_has ls 9 [(4, .int (0 : Int32)), (3, .ref zx), (2, .ref za), (1, .ref zb), (0, .ref b)]) : W p l e room_1 s m #[Value.ref b] below meth c H locs 209 179241 (lw_Z below #[Value.ref b] s) (F0 m 2205 ls []) := by
  obtain ⟨hx, hb, hr, hml, hown, hts, hlk, hA, hK, hF⟩ := id X
  refine lv_aload_n hx hb dL_law_2205 rfl (lv_at hl 3 rfl) ?_
  refine lv_aload_n hx hb dL_law_2206 rfl (lv_at hl 4 rfl) ?_
  refine lv_iload hx hb dL_law_2207 (lv_at hl 0 rfl) ?_
  refine lv_iconst (v := (1 : Int32)) hx hb dL_law_2209 (by decide) ?_
  refine lv_iadd hx hb dL_law_2210 ?_
  refine fb_tI (v := (1 : Int32)) (by decide) ?_
  refine va_sld (i := (1 : Int32)) hx hb hX hbl hbA I.2.2 (fb_inC (n := 1) (by decide) (by decide) (by omega)) dL_law_2211 ?_
  refine fb_tI (v := (xs 1)) rfl ?_
  refine fb_tI (v := (nI zj)) hz ?_
  refine lv_aload_n hx hb dL_law_2212 rfl (lv_at hl 1 rfl) ?_
  refine fb_gI (cs := [fb_o11 zb zt zn zv zs zp (zq 0) (zu 0) zh zst zre, fb_mw cI zq fb_s0 zw, fb_o6 zre zac zab zao (fun _ => 0), fb_aw cI zac 4096 (fun _ => 0), fb_aw cI zab 4096 (fun _ => 0), fb_aw cI zao 4096 (fun _ => 0), fb_jw cJ zx 1 zg]) (rs := [fb_o12 za zr fr_e0, fb_aw cI (zr 0) 16205 (fr_m (fun _ => 0) 0)]) (fun (t : Unit) => [fb_jw cJ zx 1 (vp_updL zg 0 (1 : Int64)), fb_o12 za zr fr_e0, fb_aw cI (zr 0) 16205 (fr_m (fun _ => 0) 0)]) (fun (t : Unit) => [fb_jw cJ zx 1 (vp_updL zg 0 (1 : Int64))]) X I [0, 1, 2, 3, 4, 5, 6, 7, 8] 9 rfl (by decide +kernel) rfl rfl [0, 1, 2] 3 (fun _ => rfl) (by decide +kernel) (fun _ => rfl) (fun _ => rfl) (fun I => fb_rSW (As := [.ref zb, .int (nI zj), .ref zx]) (rest := []) X hl (fb_goodSW fw_1926 fw_1927 fw_190 fw_1928) (c_w_isCode_in l D cI cJ zb zt zn zv zs zp zq zu zh zst zre zw zac zab zao zx zg zj _ hst (by omega)) rfl rfl (by decide +kernel : fb_hd yL_isCode 3) ⟨Nat.le_of_ble_eq_true rfl, Nat.le_of_ble_eq_true rfl⟩ rfl rfl (Nat.le_of_ble_eq_true rfl) ⟨Nat.le_of_ble_eq_true rfl, Nat.le_of_ble_eq_true rfl⟩ dL_law_2213 I) ?_
  intro r2 w1 H locs e0 I
  subst e0
  have I : fb_In D (fun q : Nat => s.heap.size ≤ q) s.heap (([fb_jw cJ zx 1 (vp_updL zg 0 (1 : Int64)), fb_o12 za zr fr_e0, fb_aw cI (zr 0) 16205 (fr_m (fun _ => 0) 0)] : List va_W).flatten) H locs := I
  refine lv_istore (lv' := [(5, .int (0 : Int32)), (4, .int (0 : Int32)), (3, .ref zx), (2, .ref za), (1, .ref zb), (0, .ref b)]) hx hb dL_law_2216 hl (by decide) rfl (fun ls hl => ?_)
  refine lv_aload_n hx hb dL_law_2218 rfl (lv_at hl 3 rfl) ?_
  refine lv_aload_n hx hb dL_law_2219 rfl (lv_at hl 5 rfl) ?_
  refine lv_iload hx hb dL_law_2220 (lv_at hl 1 rfl) ?_
  refine lv_iconst (v := (1 : Int32)) hx hb dL_law_2222 (by decide) ?_
  refine lv_iadd hx hb dL_law_2223 ?_
  refine fb_tI (v := (1 : Int32)) (by decide) ?_
  refine va_sld (i := (1 : Int32)) hx hb hX hbl hbA I.2.2 (fb_inC (n := 1) (by decide) (by decide) (by omega)) dL_law_2224 ?_
  refine fb_tI (v := (xs 1)) rfl ?_
  refine fb_tI (v := (nI zj)) hz ?_
  refine fb_gI (cs := [fb_o12 za zr fr_e0, fb_aw cI (zr 0) 16205 (fr_m (fun _ => 0) 0)]) (rs := [fb_jw cJ zx 1 (vp_updL zg 0 (1 : Int64))]) (fun (t : Nat × fb_AR) => [fb_jw cJ zx 1 (vp_updL zg 0 (1 : Int64)), fb_o12 za zr (upd fr_e0 19 (0 : Int32)), fb_aw cI (zr 0) 16205 (fr_m (fun _ => 0) 0), fb_aw (D.1 20) (t.1) 4096 (t.2)]) (fun (t : Nat × fb_AR) => [fb_o12 za zr (upd fr_e0 19 (0 : Int32)), fb_aw cI (zr 0) 16205 (fr_m (fun _ => 0) 0), fb_aw (D.1 20) (t.1) 4096 (t.2)]) X I [1, 2, 0] 3 rfl (by decide +kernel) rfl rfl [1, 2, 3, 0] 4 (fun _ => rfl) (by decide +kernel) (fun _ => rfl) (fun _ => rfl) (fun I => fb_rV (As := [.int (nI zj)]) (rest := []) X hl (fb_goodV fw_2763 fw_2764 fw_2765 fw_204 fw_2766) (c_isCode_in l D cI cJ za zr zj _ (by omega)) rfl rfl rfl (by decide +kernel : fb_hd yX12_isCode 1) ⟨Nat.le_of_ble_eq_true rfl, Nat.le_of_ble_eq_true rfl⟩ rfl rfl rfl rfl rfl (Nat.le_of_ble_eq_true rfl) ⟨Nat.le_of_ble_eq_true rfl, Nat.le_of_ble_eq_true rfl⟩ dL_law_2225 I) ?_
  intro r4 w3 H locs e0 I
  subst e0
  obtain ⟨w3_0, w3_1⟩ := w3
  have I : fb_In D (fun q : Nat => s.heap.size ≤ q) s.heap (([fb_jw cJ zx 1 (vp_updL zg 0 (1 : Int64)), fb_o12 za zr (upd fr_e0 19 (0 : Int32)), fb_aw cI (zr 0) 16205 (fr_m (fun _ => 0) 0), fb_aw (D.1 20) w3_0 4096 w3_1] : List va_W).flatten) H locs := I
  refine lv_istore (lv' := [(6, .int (1 : Int32)), (5, .int (0 : Int32)), (4, .int (0 : Int32)), (3, .ref zx), (2, .ref za), (1, .ref zb), (0, .ref b)]) hx hb dL_law_2228 hl (by decide) rfl (fun ls hl => ?_)
  refine lv_aload_n hx hb dL_law_2230 rfl (lv_at hl 4 rfl) ?_
  refine fb_gO (cs := [fb_o12 za zr (upd fr_e0 19 (0 : Int32))]) (rs := [fb_jw cJ zx 1 (vp_updL zg 0 (1 : Int64)), fb_aw cI (zr 0) 16205 (fr_m (fun _ => 0) 0), fb_aw (D.1 20) w3_0 4096 w3_1]) X I [1, 0, 2, 3] 4 rfl (by decide +kernel) rfl rfl (fun I => fb_rV (As := []) (rest := []) X hl (fb_goodV fw_2119 fw_2120 fw_2121 fw_204 fw_2122) (c_thrown l D cI cJ za zr (upd fr_e0 19 (0 : Int32)) _ ) rfl rfl rfl (by decide +kernel : fb_hd yX12_thrown 0) ⟨Nat.le_of_ble_eq_true rfl, Nat.le_of_ble_eq_true rfl⟩ rfl rfl rfl rfl rfl (Nat.le_of_ble_eq_true rfl) ⟨Nat.le_of_ble_eq_true rfl, Nat.le_of_ble_eq_true rfl⟩ dL_law_2231 I) ?_
  refine fb_tI (v := (0 : Int32)) rfl ?_
  refine lv_iload hx hb dL_law_2234 (lv_at hl 1 rfl) ?_
  refine lv_icmp_eq (tgt := 2241) hx hb dL_law_2236 (by decide) (fun _ => ?_) (fun c5 => absurd rfl c5)
  refine lv_iload hx hb dL_law_2241 (lv_at hl 1 rfl) ?_
  refine lv_if_ne (tgt := 2265) hx hb dL_law_2243 (by decide) (fun c6 => absurd (by decide) c6) (fun _ => ?_)
  refine lv_aload_n hx hb dL_law_2246 rfl (lv_at hl 3 rfl) ?_
  refine lv_iconst (v := (0 : Int32)) hx hb dL_law_2247 (by decide) ?_
  refine va_lald (i := (0 : Int32)) hx hb hK.1 I.1 0 1 rfl rfl (fb_inC (n := 0) (by decide) (by decide) (Nat.le_of_ble_eq_true rfl)) dL_law_2248 ?_
  refine fb_tL (v := (1 : Int64)) rfl ?_
  refine lv_iload hx hb dL_law_2249 (lv_at hl 0 rfl) ?_
  refine lv_if_eq (tgt := 2258) hx hb dL_law_2251 (by decide) (fun c7 => absurd c7 (by decide)) (fun _ => ?_)
  refine lv_lconst (v := (1 : Int64)) hx hb dL_law_2254 (by decide) ?_
  refine lv_goto (tgt := 2259) hx hb dL_law_2255 (by decide) ?_
  refine W.lcmp hx hb dL_law_2259 ?_
  refine fb_tI (v := (0 : Int32)) (lw_cmp0 _) ?_
  refine lv_if_eq (tgt := 2265) hx hb dL_law_2260 (by decide) (fun _ => ?_) (fun c8 => absurd (by decide) c8)
  refine lv_goto (tgt := 2336) hx hb dL_law_2265 (by decide) ?_
  exact lw_end X hX hbl hbA (by omega) I (lv_sub hl [2, 6] rfl) (Nat.le_of_ble_eq_true rfl) (Nat.le_of_ble_eq_true rfl)

set_option maxHeartbeats 4000000 in
set_option maxRecDepth 100000 in
theorem lc_7_o {p : Program} {l : Launch} {e : Env} {s : State} {m : MethodId} {below : List Frame} {meth : Method} {c : Code} {H : Heap} {locs : List Loc} {ls : Array Slot} {D : va_G} {cI cJ : ClassId} {b L : Nat} {xs : Nat → Int32} {zb : Nat} {zt : Nat} {zn : Nat} {zv : Nat} {zs : Nat} {zp : Nat} {zq : Nat → Nat} {zu : Nat → Nat} {zh : Nat} {zst : Nat} {zre : Nat} {zx : Nat} {zg : Nat → Int64} {za : Nat} {zr : Nat → Nat} (hst : l.stackTraces = false) (X : fb_Bx p s m #[Value.ref b] meth c cL_law RL 9 (some .boolean) D (fb_ty D cI cJ) (fun q : Nat => s.heap.size ≤ q)) (hX : va_X b L xs s s.heap) (hbl : b < s.heap.size) (hbA : ¬ (fun q : Nat => s.heap.size ≤ q) b) (hL6 : L = 6) (gA : f_X11_isNoAddress (xs 1) = (1 : Int32)) (q1 : f_X12_isIn (xs 1) (0 : Int32) (4095 : Int32) = (0 : Int32)) (I : fb_In D (fun q : Nat => s.heap.size ≤ q) s.heap (([fb_o11 zb zt zn zv zs zp (zq 0) (zu 0) zh zst zre, fb_jw cJ zx 1 zg, fb_o12 za zr fr_e0] : List va_W).flatten) H locs) (hl : lv_has ls 9 [(4, .int (0 : Int32)), (3, .ref zx), (2, .ref za), (1, .ref zb), (0, .ref b)]) : W p l e room_1 s m #[Value.ref b] below meth c H locs 209 179241 (lw_Z below #[Value.ref b] s) (F0 m 595 ls []) := by
  obtain ⟨hx, hb, hr, hml, hown, hts, hlk, hA, hK, hF⟩ := id X
  refine lv_aload_n hx hb dL_law_595 rfl (lv_at hl 3 rfl) ?_
  refine lv_aload_n hx hb dL_law_596 rfl (lv_at hl 4 rfl) ?_
  refine lv_iload hx hb dL_law_597 (lv_at hl 0 rfl) ?_
  refine lv_iconst (v := (1 : Int32)) hx hb dL_law_599 (by decide) ?_
  refine lv_iadd hx hb dL_law_600 ?_
  refine fb_tI (v := (1 : Int32)) (by decide) ?_
  refine va_sld (i := (1 : Int32)) hx hb hX hbl hbA I.2.2 (fb_inC (n := 1) (by decide) (by decide) (by omega)) dL_law_601 ?_
  refine fb_tI (v := (xs 1)) rfl ?_
  refine lv_aload_n hx hb dL_law_602 rfl (lv_at hl 1 rfl) ?_
  refine fb_gI (cs := [fb_o11 zb zt zn zv zs zp (zq 0) (zu 0) zh zst zre, fb_jw cJ zx 1 zg]) (rs := [fb_o12 za zr fr_e0]) (fun (t : Unit) => [fb_jw cJ zx 1 zg, fb_o12 za zr fr_e0]) (fun (t : Unit) => [fb_jw cJ zx 1 zg]) X I [0, 1, 2] 3 rfl (by decide +kernel) rfl rfl [0, 1] 2 (fun _ => rfl) (by decide +kernel) (fun _ => rfl) (fun _ => rfl) (fun I => fb_rSW (As := [.ref zb, .int (xs 1), .ref zx]) (rest := []) X hl (fb_goodSW fw_1725 fw_1726 fw_190 fw_1727) (c_w_lineOf_o l D cI cJ zb zt zn zv zs zp zq zu zh zst zre zx zg (xs 1) _ hst gA) rfl rfl (by decide +kernel : fb_hd yL_lineOf 3) ⟨Nat.le_of_ble_eq_true rfl, Nat.le_of_ble_eq_true rfl⟩ rfl rfl (Nat.le_of_ble_eq_true rfl) ⟨Nat.le_of_ble_eq_true rfl, Nat.le_of_ble_eq_true rfl⟩ dL_law_603 I) ?_
  intro r2 w1 H locs e0 I
  subst e0
  have I : fb_In D (fun q : Nat => s.heap.size ≤ q) s.heap (([fb_jw cJ zx 1 zg, fb_o12 za zr fr_e0] : List va_W).flatten) H locs := I
  refine lv_istore (lv' := [(5, .int (1 : Int32)), (4, .int (0 : Int32)), (3, .ref zx), (2, .ref za), (1, .ref zb), (0, .ref b)]) hx hb dL_law_606 hl (by decide) rfl (fun ls hl => ?_)
  refine lv_aload_n hx hb dL_law_608 rfl (lv_at hl 3 rfl) ?_
  refine lv_aload_n hx hb dL_law_609 rfl (lv_at hl 5 rfl) ?_
  refine lv_iload hx hb dL_law_610 (lv_at hl 1 rfl) ?_
  refine lv_iconst (v := (1 : Int32)) hx hb dL_law_612 (by decide) ?_
  refine lv_iadd hx hb dL_law_613 ?_
  refine fb_tI (v := (1 : Int32)) (by decide) ?_
  refine va_sld (i := (1 : Int32)) hx hb hX hbl hbA I.2.2 (fb_inC (n := 1) (by decide) (by decide) (by omega)) dL_law_614 ?_
  refine fb_tI (v := (xs 1)) rfl ?_
  refine fb_gI (cs := [fb_o12 za zr fr_e0]) (rs := [fb_jw cJ zx 1 zg]) (fun (t : Unit) => [fb_jw cJ zx 1 zg, fb_o12 za zr (upd (upd fr_e0 19 (0 : Int32)) 19 (1 : Int32))]) (fun (t : Unit) => [fb_o12 za zr (upd (upd fr_e0 19 (0 : Int32)) 19 (1 : Int32))]) X I [1, 0] 2 rfl (by decide +kernel) rfl rfl [1, 0] 2 (fun _ => rfl) (by decide +kernel) (fun _ => rfl) (fun _ => rfl) (fun I => fb_rV (As := [.int (xs 1)]) (rest := []) X hl (fb_goodV fw_2370 fw_2371 fw_2372 fw_204 fw_2373) (c_lineOf_out l D cI cJ za zr (xs 1) _ q1) rfl rfl rfl (by decide +kernel : fb_hd yX12_lineOf 1) ⟨Nat.le_of_ble_eq_true rfl, Nat.le_of_ble_eq_true rfl⟩ rfl rfl rfl rfl rfl (Nat.le_of_ble_eq_true rfl) ⟨Nat.le_of_ble_eq_true rfl, Nat.le_of_ble_eq_true rfl⟩ dL_law_615 I) ?_
  intro r4 w3 H locs e0 I
  subst e0
  have I : fb_In D (fun q : Nat => s.heap.size ≤ q) s.heap (([fb_jw cJ zx 1 zg, fb_o12 za zr (upd (upd fr_e0 19 (0 : Int32)) 19 (1 : Int32))] : List va_W).flatten) H locs := I
  refine lv_istore (lv' := [(6, .int (0 : Int32)), (5, .int (1 : Int32)), (4, .int (0 : Int32)), (3, .ref zx), (2, .ref za), (1, .ref zb), (0, .ref b)]) hx hb dL_law_618 hl (by decide) rfl (fun ls hl => ?_)
  refine lv_aload_n hx hb dL_law_620 rfl (lv_at hl 4 rfl) ?_
  refine fb_gO (cs := [fb_o12 za zr (upd (upd fr_e0 19 (0 : Int32)) 19 (1 : Int32))]) (rs := [fb_jw cJ zx 1 zg]) X I [1, 0] 2 rfl (by decide +kernel) rfl rfl (fun I => fb_rV (As := []) (rest := []) X hl (fb_goodV fw_2119 fw_2120 fw_2121 fw_204 fw_2122) (c_thrown l D cI cJ za zr (upd (upd fr_e0 19 (0 : Int32)) 19 (1 : Int32)) _ ) rfl rfl rfl (by decide +kernel : fb_hd yX12_thrown 0) ⟨Nat.le_of_ble_eq_true rfl, Nat.le_of_ble_eq_true rfl⟩ rfl rfl rfl rfl rfl (Nat.le_of_ble_eq_true rfl) ⟨Nat.le_of_ble_eq_true rfl, Nat.le_of_ble_eq_true rfl⟩ dL_law_621 I) ?_
  refine fb_tI (v := (1 : Int32)) rfl ?_
  refine lv_iload hx hb dL_law_624 (lv_at hl 1 rfl) ?_
  refine lv_icmp_eq (tgt := 631) hx hb dL_law_626 (by decide) (fun _ => ?_) (fun c5 => absurd rfl c5)
  refine lv_iload hx hb dL_law_631 (lv_at hl 1 rfl) ?_
  refine lv_if_ne (tgt := 648) hx hb dL_law_633 (by decide) (fun _ => ?_) (fun c6 => absurd c6 (by decide))
  refine lv_goto (tgt := 2336) hx hb dL_law_648 (by decide) ?_
  exact lw_end X hX hbl hbA (by omega) I (lv_sub hl [2, 6] rfl) (Nat.le_of_ble_eq_true rfl) (Nat.le_of_ble_eq_true rfl)

set_option maxHeartbeats 4000000 in
set_option maxRecDepth 100000 in
theorem lc_7_i0 {p : Program} {l : Launch} {e : Env} {s : State} {m : MethodId} {below : List Frame} {meth : Method} {c : Code} {H : Heap} {locs : List Loc} {ls : Array Slot} {D : va_G} {cI cJ : ClassId} {b L : Nat} {xs : Nat → Int32} {zb : Nat} {zt : Nat} {zn : Nat} {zv : Nat} {zs : Nat} {zp : Nat} {zq : Nat → Nat} {zu : Nat → Nat} {zh : Nat} {zst : Nat} {zre : Nat} {zw : fb_AR} {zp4 : Nat} {zp5 : Nat} {zp6 : Nat} {zp7 : Nat} {zp9 : Nat} {zx : Nat} {zg : Nat → Int64} {za : Nat} {zr : Nat → Nat} {zj : Nat} (hst : l.stackTraces = false) (X : fb_Bx p s m #[Value.ref b] meth c cL_law RL 9 (some .boolean) D (fb_ty D cI cJ) (fun q : Nat => s.heap.size ≤ q)) (hX : va_X b L xs s s.heap) (hbl : b < s.heap.size) (hbA : ¬ (fun q : Nat => s.heap.size ≤ q) b) (hL6 : L = 6) (hz : xs 1 = nI zj) (hj : 1792 ≤ zj ∧ zj < 2048) (I : fb_In D (fun q : Nat => s.heap.size ≤ q) s.heap (([fb_o11 zb zt zn zv zs zp (zq 0) (zu 0) zh zst zre, fb_mw cI zq fb_s0 zw, fb_o4 zp zt zv zn zs zp4 zp5 zp6 zp7 zp9 fb_p0, fb_aw cI zp6 11008 (fun _ => 0), fb_jw cJ zx 1 zg, fb_o12 za zr fr_e0, fb_aw cI (zr 0) 16205 (fr_m (fun _ => 0) 0), fb_aw cI (zr 46) 11008 (fun _ => 0)] : List va_W).flatten) H locs) (hl : lv_has ls 9 [(4, .int (0 : Int32)), (3, .ref zx), (2, .ref za), (1, .ref zb), (0, .ref b)]) : W p l e room_1 s m #[Value.ref b] below meth c H locs 209 179241 (lw_Z below #[Value.ref b] s) (F0 m 595 ls []) := by
  obtain ⟨hx, hb, hr, hml, hown, hts, hlk, hA, hK, hF⟩ := id X
  refine lv_aload_n hx hb dL_law_595 rfl (lv_at hl 3 rfl) ?_
  refine lv_aload_n hx hb dL_law_596 rfl (lv_at hl 4 rfl) ?_
  refine lv_iload hx hb dL_law_597 (lv_at hl 0 rfl) ?_
  refine lv_iconst (v := (1 : Int32)) hx hb dL_law_599 (by decide) ?_
  refine lv_iadd hx hb dL_law_600 ?_
  refine fb_tI (v := (1 : Int32)) (by decide) ?_
  refine va_sld (i := (1 : Int32)) hx hb hX hbl hbA I.2.2 (fb_inC (n := 1) (by decide) (by decide) (by omega)) dL_law_601 ?_
  refine fb_tI (v := (xs 1)) rfl ?_
  refine fb_tI (v := (nI zj)) hz ?_
  refine lv_aload_n hx hb dL_law_602 rfl (lv_at hl 1 rfl) ?_
  refine fb_gI (cs := [fb_o11 zb zt zn zv zs zp (zq 0) (zu 0) zh zst zre, fb_mw cI zq fb_s0 zw, fb_o4 zp zt zv zn zs zp4 zp5 zp6 zp7 zp9 fb_p0, fb_aw cI zp6 11008 (fun _ => 0), fb_jw cJ zx 1 zg]) (rs := [fb_o12 za zr fr_e0, fb_aw cI (zr 0) 16205 (fr_m (fun _ => 0) 0), fb_aw cI (zr 46) 11008 (fun _ => 0)]) (fun (t : Unit) => [fb_jw cJ zx 1 (vp_updL zg 0 (((-1 : Int32)).toInt64)), fb_o12 za zr fr_e0, fb_aw cI (zr 0) 16205 (fr_m (fun _ => 0) 0), fb_aw cI (zr 46) 11008 (fun _ => 0)]) (fun (t : Unit) => [fb_jw cJ zx 1 (vp_updL zg 0 (((-1 : Int32)).toInt64))]) X I [0, 1, 2, 3, 4, 5, 6, 7] 8 rfl (by decide +kernel) rfl rfl [0, 1, 2, 3] 4 (fun _ => rfl) (by decide +kernel) (fun _ => rfl) (fun _ => rfl) (fun I => fb_rSW (As := [.ref zb, .int (nI zj), .ref zx]) (rest := []) X hl (fb_goodSW fw_1725 fw_1726 fw_190 fw_1727) (c_w_lineOf_in l D cI cJ zb zt zn zv zs zp zq zu zh zst zre zw zp4 zp5 zp6 zp7 zp9 zx zg zj _ hst (by omega)) rfl rfl (by decide +kernel : fb_hd yL_lineOf 3) ⟨Nat.le_of_ble_eq_true rfl, Nat.le_of_ble_eq_true rfl⟩ rfl rfl (Nat.le_of_ble_eq_true rfl) ⟨Nat.le_of_ble_eq_true rfl, Nat.le_of_ble_eq_true rfl⟩ dL_law_603 I) ?_
  intro r2 w1 H locs e0 I
  subst e0
  have I : fb_In D (fun q : Nat => s.heap.size ≤ q) s.heap (([fb_jw cJ zx 1 (vp_updL zg 0 (((-1 : Int32)).toInt64)), fb_o12 za zr fr_e0, fb_aw cI (zr 0) 16205 (fr_m (fun _ => 0) 0), fb_aw cI (zr 46) 11008 (fun _ => 0)] : List va_W).flatten) H locs := I
  refine lv_istore (lv' := [(5, .int (0 : Int32)), (4, .int (0 : Int32)), (3, .ref zx), (2, .ref za), (1, .ref zb), (0, .ref b)]) hx hb dL_law_606 hl (by decide) rfl (fun ls hl => ?_)
  refine lv_aload_n hx hb dL_law_608 rfl (lv_at hl 3 rfl) ?_
  refine lv_aload_n hx hb dL_law_609 rfl (lv_at hl 5 rfl) ?_
  refine lv_iload hx hb dL_law_610 (lv_at hl 1 rfl) ?_
  refine lv_iconst (v := (1 : Int32)) hx hb dL_law_612 (by decide) ?_
  refine lv_iadd hx hb dL_law_613 ?_
  refine fb_tI (v := (1 : Int32)) (by decide) ?_
  refine va_sld (i := (1 : Int32)) hx hb hX hbl hbA I.2.2 (fb_inC (n := 1) (by decide) (by decide) (by omega)) dL_law_614 ?_
  refine fb_tI (v := (xs 1)) rfl ?_
  refine fb_tI (v := (nI zj)) hz ?_
  refine fb_gI (cs := [fb_o12 za zr fr_e0, fb_aw cI (zr 0) 16205 (fr_m (fun _ => 0) 0), fb_aw cI (zr 46) 11008 (fun _ => 0)]) (rs := [fb_jw cJ zx 1 (vp_updL zg 0 (((-1 : Int32)).toInt64))]) (fun (t : Unit) => [fb_jw cJ zx 1 (vp_updL zg 0 (((-1 : Int32)).toInt64)), fb_o12 za zr (upd fr_e0 19 (0 : Int32)), fb_aw cI (zr 0) 16205 (fr_m (fun _ => 0) 0), fb_aw cI (zr 46) 11008 (fun _ => 0)]) (fun (t : Unit) => [fb_o12 za zr (upd fr_e0 19 (0 : Int32)), fb_aw cI (zr 0) 16205 (fr_m (fun _ => 0) 0), fb_aw cI (zr 46) 11008 (fun _ => 0)]) X I [1, 2, 3, 0] 4 rfl (by decide +kernel) rfl rfl [1, 2, 3, 0] 4 (fun _ => rfl) (by decide +kernel) (fun _ => rfl) (fun _ => rfl) (fun I => fb_rV (As := [.int (nI zj)]) (rest := []) X hl (fb_goodV fw_2370 fw_2371 fw_2372 fw_204 fw_2373) (c_lineOf_0 l D cI cJ za zr zj _ (by omega)) rfl rfl rfl (by decide +kernel : fb_hd yX12_lineOf 1) ⟨Nat.le_of_ble_eq_true rfl, Nat.le_of_ble_eq_true rfl⟩ rfl rfl rfl rfl rfl (Nat.le_of_ble_eq_true rfl) ⟨Nat.le_of_ble_eq_true rfl, Nat.le_of_ble_eq_true rfl⟩ dL_law_615 I) ?_
  intro r4 w3 H locs e0 I
  subst e0
  have I : fb_In D (fun q : Nat => s.heap.size ≤ q) s.heap (([fb_jw cJ zx 1 (vp_updL zg 0 (((-1 : Int32)).toInt64)), fb_o12 za zr (upd fr_e0 19 (0 : Int32)), fb_aw cI (zr 0) 16205 (fr_m (fun _ => 0) 0), fb_aw cI (zr 46) 11008 (fun _ => 0)] : List va_W).flatten) H locs := I
  refine lv_istore (lv' := [(6, .int (-1 : Int32)), (5, .int (0 : Int32)), (4, .int (0 : Int32)), (3, .ref zx), (2, .ref za), (1, .ref zb), (0, .ref b)]) hx hb dL_law_618 hl (by decide) rfl (fun ls hl => ?_)
  refine lv_aload_n hx hb dL_law_620 rfl (lv_at hl 4 rfl) ?_
  refine fb_gO (cs := [fb_o12 za zr (upd fr_e0 19 (0 : Int32))]) (rs := [fb_jw cJ zx 1 (vp_updL zg 0 (((-1 : Int32)).toInt64)), fb_aw cI (zr 0) 16205 (fr_m (fun _ => 0) 0), fb_aw cI (zr 46) 11008 (fun _ => 0)]) X I [1, 0, 2, 3] 4 rfl (by decide +kernel) rfl rfl (fun I => fb_rV (As := []) (rest := []) X hl (fb_goodV fw_2119 fw_2120 fw_2121 fw_204 fw_2122) (c_thrown l D cI cJ za zr (upd fr_e0 19 (0 : Int32)) _ ) rfl rfl rfl (by decide +kernel : fb_hd yX12_thrown 0) ⟨Nat.le_of_ble_eq_true rfl, Nat.le_of_ble_eq_true rfl⟩ rfl rfl rfl rfl rfl (Nat.le_of_ble_eq_true rfl) ⟨Nat.le_of_ble_eq_true rfl, Nat.le_of_ble_eq_true rfl⟩ dL_law_621 I) ?_
  refine fb_tI (v := (0 : Int32)) rfl ?_
  refine lv_iload hx hb dL_law_624 (lv_at hl 1 rfl) ?_
  refine lv_icmp_eq (tgt := 631) hx hb dL_law_626 (by decide) (fun _ => ?_) (fun c5 => absurd rfl c5)
  refine lv_iload hx hb dL_law_631 (lv_at hl 1 rfl) ?_
  refine lv_if_ne (tgt := 648) hx hb dL_law_633 (by decide) (fun c6 => absurd (by decide) c6) (fun _ => ?_)
  refine lv_aload_n hx hb dL_law_636 rfl (lv_at hl 3 rfl) ?_
  refine lv_iconst (v := (0 : Int32)) hx hb dL_law_637 (by decide) ?_
  refine va_lald (i := (0 : Int32)) hx hb hK.1 I.1 0 1 rfl rfl (fb_inC (n := 0) (by decide) (by decide) (Nat.le_of_ble_eq_true rfl)) dL_law_638 ?_
  refine fb_tL (v := (((-1 : Int32)).toInt64)) rfl ?_
  refine lv_iload hx hb dL_law_639 (lv_at hl 0 rfl) ?_
  refine lv_i2l (v := (((-1 : Int32)).toInt64)) hx hb dL_law_641 rfl ?_
  refine W.lcmp hx hb dL_law_642 ?_
  refine fb_tI (v := (0 : Int32)) (lw_cmp0 _) ?_
  refine lv_if_eq (tgt := 648) hx hb dL_law_643 (by decide) (fun _ => ?_) (fun c7 => absurd (by decide) c7)
  refine lv_goto (tgt := 2336) hx hb dL_law_648 (by decide) ?_
  exact lw_end X hX hbl hbA (by omega) I (lv_sub hl [2, 6] rfl) (Nat.le_of_ble_eq_true rfl) (Nat.le_of_ble_eq_true rfl)

set_option maxHeartbeats 4000000 in
set_option maxRecDepth 100000 in
theorem lc_7_i1 {p : Program} {l : Launch} {e : Env} {s : State} {m : MethodId} {below : List Frame} {meth : Method} {c : Code} {H : Heap} {locs : List Loc} {ls : Array Slot} {D : va_G} {cI cJ : ClassId} {b L : Nat} {xs : Nat → Int32} {zb : Nat} {zt : Nat} {zn : Nat} {zv : Nat} {zs : Nat} {zp : Nat} {zq : Nat → Nat} {zu : Nat → Nat} {zh : Nat} {zst : Nat} {zre : Nat} {zw : fb_AR} {zp4 : Nat} {zp5 : Nat} {zp6 : Nat} {zp7 : Nat} {zp9 : Nat} {zx : Nat} {zg : Nat → Int64} {za : Nat} {zr : Nat → Nat} {zj : Nat} (hst : l.stackTraces = false) (X : fb_Bx p s m #[Value.ref b] meth c cL_law RL 9 (some .boolean) D (fb_ty D cI cJ) (fun q : Nat => s.heap.size ≤ q)) (hX : va_X b L xs s s.heap) (hbl : b < s.heap.size) (hbA : ¬ (fun q : Nat => s.heap.size ≤ q) b) (hL6 : L = 6) (hz : xs 1 = nI zj) (hj : zj < 1792) (I : fb_In D (fun q : Nat => s.heap.size ≤ q) s.heap (([fb_o11 zb zt zn zv zs zp (zq 0) (zu 0) zh zst zre, fb_mw cI zq fb_s0 zw, fb_o4 zp zt zv zn zs zp4 zp5 zp6 zp7 zp9 fb_p0, fb_aw cI zp6 11008 (fun _ => 0), fb_jw cJ zx 1 zg, fb_o12 za zr fr_e0, fb_aw cI (zr 0) 16205 (fr_m (fun _ => 0) 0), fb_aw cI (zr 46) 11008 (fun _ => 0)] : List va_W).flatten) H locs) (hl : lv_has ls 9 [(4, .int (0 : Int32)), (3, .ref zx), (2, .ref za), (1, .ref zb), (0, .ref b)]) : W p l e room_1 s m #[Value.ref b] below meth c H locs 209 179241 (lw_Z below #[Value.ref b] s) (F0 m 595 ls []) := by
  obtain ⟨hx, hb, hr, hml, hown, hts, hlk, hA, hK, hF⟩ := id X
  refine lv_aload_n hx hb dL_law_595 rfl (lv_at hl 3 rfl) ?_
  refine lv_aload_n hx hb dL_law_596 rfl (lv_at hl 4 rfl) ?_
  refine lv_iload hx hb dL_law_597 (lv_at hl 0 rfl) ?_
  refine lv_iconst (v := (1 : Int32)) hx hb dL_law_599 (by decide) ?_
  refine lv_iadd hx hb dL_law_600 ?_
  refine fb_tI (v := (1 : Int32)) (by decide) ?_
  refine va_sld (i := (1 : Int32)) hx hb hX hbl hbA I.2.2 (fb_inC (n := 1) (by decide) (by decide) (by omega)) dL_law_601 ?_
  refine fb_tI (v := (xs 1)) rfl ?_
  refine fb_tI (v := (nI zj)) hz ?_
  refine lv_aload_n hx hb dL_law_602 rfl (lv_at hl 1 rfl) ?_
  refine fb_gI (cs := [fb_o11 zb zt zn zv zs zp (zq 0) (zu 0) zh zst zre, fb_mw cI zq fb_s0 zw, fb_o4 zp zt zv zn zs zp4 zp5 zp6 zp7 zp9 fb_p0, fb_aw cI zp6 11008 (fun _ => 0), fb_jw cJ zx 1 zg]) (rs := [fb_o12 za zr fr_e0, fb_aw cI (zr 0) 16205 (fr_m (fun _ => 0) 0), fb_aw cI (zr 46) 11008 (fun _ => 0)]) (fun (t : Unit) => [fb_jw cJ zx 1 (vp_updL zg 0 (((-1 : Int32)).toInt64)), fb_o12 za zr fr_e0, fb_aw cI (zr 0) 16205 (fr_m (fun _ => 0) 0), fb_aw cI (zr 46) 11008 (fun _ => 0)]) (fun (t : Unit) => [fb_jw cJ zx 1 (vp_updL zg 0 (((-1 : Int32)).toInt64))]) X I [0, 1, 2, 3, 4, 5, 6, 7] 8 rfl (by decide +kernel) rfl rfl [0, 1, 2, 3] 4 (fun _ => rfl) (by decide +kernel) (fun _ => rfl) (fun _ => rfl) (fun I => fb_rSW (As := [.ref zb, .int (nI zj), .ref zx]) (rest := []) X hl (fb_goodSW fw_1725 fw_1726 fw_190 fw_1727) (c_w_lineOf_in l D cI cJ zb zt zn zv zs zp zq zu zh zst zre zw zp4 zp5 zp6 zp7 zp9 zx zg zj _ hst (by omega)) rfl rfl (by decide +kernel : fb_hd yL_lineOf 3) ⟨Nat.le_of_ble_eq_true rfl, Nat.le_of_ble_eq_true rfl⟩ rfl rfl (Nat.le_of_ble_eq_true rfl) ⟨Nat.le_of_ble_eq_true rfl, Nat.le_of_ble_eq_true rfl⟩ dL_law_603 I) ?_
  intro r2 w1 H locs e0 I
  subst e0
  have I : fb_In D (fun q : Nat => s.heap.size ≤ q) s.heap (([fb_jw cJ zx 1 (vp_updL zg 0 (((-1 : Int32)).toInt64)), fb_o12 za zr fr_e0, fb_aw cI (zr 0) 16205 (fr_m (fun _ => 0) 0), fb_aw cI (zr 46) 11008 (fun _ => 0)] : List va_W).flatten) H locs := I
  refine lv_istore (lv' := [(5, .int (0 : Int32)), (4, .int (0 : Int32)), (3, .ref zx), (2, .ref za), (1, .ref zb), (0, .ref b)]) hx hb dL_law_606 hl (by decide) rfl (fun ls hl => ?_)
  refine lv_aload_n hx hb dL_law_608 rfl (lv_at hl 3 rfl) ?_
  refine lv_aload_n hx hb dL_law_609 rfl (lv_at hl 5 rfl) ?_
  refine lv_iload hx hb dL_law_610 (lv_at hl 1 rfl) ?_
  refine lv_iconst (v := (1 : Int32)) hx hb dL_law_612 (by decide) ?_
  refine lv_iadd hx hb dL_law_613 ?_
  refine fb_tI (v := (1 : Int32)) (by decide) ?_
  refine va_sld (i := (1 : Int32)) hx hb hX hbl hbA I.2.2 (fb_inC (n := 1) (by decide) (by decide) (by omega)) dL_law_614 ?_
  refine fb_tI (v := (xs 1)) rfl ?_
  refine fb_tI (v := (nI zj)) hz ?_
  refine fb_gI (cs := [fb_o12 za zr fr_e0, fb_aw cI (zr 0) 16205 (fr_m (fun _ => 0) 0), fb_aw cI (zr 46) 11008 (fun _ => 0)]) (rs := [fb_jw cJ zx 1 (vp_updL zg 0 (((-1 : Int32)).toInt64))]) (fun (t : Unit) => [fb_jw cJ zx 1 (vp_updL zg 0 (((-1 : Int32)).toInt64)), fb_o12 za zr (upd fr_e0 19 (0 : Int32)), fb_aw cI (zr 0) 16205 (fr_m (fun _ => 0) 0), fb_aw cI (zr 46) 11008 (fun _ => 0)]) (fun (t : Unit) => [fb_o12 za zr (upd fr_e0 19 (0 : Int32)), fb_aw cI (zr 0) 16205 (fr_m (fun _ => 0) 0), fb_aw cI (zr 46) 11008 (fun _ => 0)]) X I [1, 2, 3, 0] 4 rfl (by decide +kernel) rfl rfl [1, 2, 3, 0] 4 (fun _ => rfl) (by decide +kernel) (fun _ => rfl) (fun _ => rfl) (fun I => fb_rV (As := [.int (nI zj)]) (rest := []) X hl (fb_goodV fw_2370 fw_2371 fw_2372 fw_204 fw_2373) (c_lineOf_1 l D cI cJ za zr zj _ (by omega)) rfl rfl rfl (by decide +kernel : fb_hd yX12_lineOf 1) ⟨Nat.le_of_ble_eq_true rfl, Nat.le_of_ble_eq_true rfl⟩ rfl rfl rfl rfl rfl (Nat.le_of_ble_eq_true rfl) ⟨Nat.le_of_ble_eq_true rfl, Nat.le_of_ble_eq_true rfl⟩ dL_law_615 I) ?_
  intro r4 w3 H locs e0 I
  subst e0
  have I : fb_In D (fun q : Nat => s.heap.size ≤ q) s.heap (([fb_jw cJ zx 1 (vp_updL zg 0 (((-1 : Int32)).toInt64)), fb_o12 za zr (upd fr_e0 19 (0 : Int32)), fb_aw cI (zr 0) 16205 (fr_m (fun _ => 0) 0), fb_aw cI (zr 46) 11008 (fun _ => 0)] : List va_W).flatten) H locs := I
  refine lv_istore (lv' := [(6, .int (-1 : Int32)), (5, .int (0 : Int32)), (4, .int (0 : Int32)), (3, .ref zx), (2, .ref za), (1, .ref zb), (0, .ref b)]) hx hb dL_law_618 hl (by decide) rfl (fun ls hl => ?_)
  refine lv_aload_n hx hb dL_law_620 rfl (lv_at hl 4 rfl) ?_
  refine fb_gO (cs := [fb_o12 za zr (upd fr_e0 19 (0 : Int32))]) (rs := [fb_jw cJ zx 1 (vp_updL zg 0 (((-1 : Int32)).toInt64)), fb_aw cI (zr 0) 16205 (fr_m (fun _ => 0) 0), fb_aw cI (zr 46) 11008 (fun _ => 0)]) X I [1, 0, 2, 3] 4 rfl (by decide +kernel) rfl rfl (fun I => fb_rV (As := []) (rest := []) X hl (fb_goodV fw_2119 fw_2120 fw_2121 fw_204 fw_2122) (c_thrown l D cI cJ za zr (upd fr_e0 19 (0 : Int32)) _ ) rfl rfl rfl (by decide +kernel : fb_hd yX12_thrown 0) ⟨Nat.le_of_ble_eq_true rfl, Nat.le_of_ble_eq_true rfl⟩ rfl rfl rfl rfl rfl (Nat.le_of_ble_eq_true rfl) ⟨Nat.le_of_ble_eq_true rfl, Nat.le_of_ble_eq_true rfl⟩ dL_law_621 I) ?_
  refine fb_tI (v := (0 : Int32)) rfl ?_
  refine lv_iload hx hb dL_law_624 (lv_at hl 1 rfl) ?_
  refine lv_icmp_eq (tgt := 631) hx hb dL_law_626 (by decide) (fun _ => ?_) (fun c5 => absurd rfl c5)
  refine lv_iload hx hb dL_law_631 (lv_at hl 1 rfl) ?_
  refine lv_if_ne (tgt := 648) hx hb dL_law_633 (by decide) (fun c6 => absurd (by decide) c6) (fun _ => ?_)
  refine lv_aload_n hx hb dL_law_636 rfl (lv_at hl 3 rfl) ?_
  refine lv_iconst (v := (0 : Int32)) hx hb dL_law_637 (by decide) ?_
  refine va_lald (i := (0 : Int32)) hx hb hK.1 I.1 0 1 rfl rfl (fb_inC (n := 0) (by decide) (by decide) (Nat.le_of_ble_eq_true rfl)) dL_law_638 ?_
  refine fb_tL (v := (((-1 : Int32)).toInt64)) rfl ?_
  refine lv_iload hx hb dL_law_639 (lv_at hl 0 rfl) ?_
  refine lv_i2l (v := (((-1 : Int32)).toInt64)) hx hb dL_law_641 rfl ?_
  refine W.lcmp hx hb dL_law_642 ?_
  refine fb_tI (v := (0 : Int32)) (lw_cmp0 _) ?_
  refine lv_if_eq (tgt := 648) hx hb dL_law_643 (by decide) (fun _ => ?_) (fun c7 => absurd (by decide) c7)
  refine lv_goto (tgt := 2336) hx hb dL_law_648 (by decide) ?_
  exact lw_end X hX hbl hbA (by omega) I (lv_sub hl [2, 6] rfl) (Nat.le_of_ble_eq_true rfl) (Nat.le_of_ble_eq_true rfl)

set_option maxHeartbeats 4000000 in
set_option maxRecDepth 100000 in
theorem lc_7_i2 {p : Program} {l : Launch} {e : Env} {s : State} {m : MethodId} {below : List Frame} {meth : Method} {c : Code} {H : Heap} {locs : List Loc} {ls : Array Slot} {D : va_G} {cI cJ : ClassId} {b L : Nat} {xs : Nat → Int32} {zb : Nat} {zt : Nat} {zn : Nat} {zv : Nat} {zs : Nat} {zp : Nat} {zq : Nat → Nat} {zu : Nat → Nat} {zh : Nat} {zst : Nat} {zre : Nat} {zw : fb_AR} {zp4 : Nat} {zp5 : Nat} {zp6 : Nat} {zp7 : Nat} {zp9 : Nat} {zx : Nat} {zg : Nat → Int64} {za : Nat} {zr : Nat → Nat} {zj : Nat} (hst : l.stackTraces = false) (X : fb_Bx p s m #[Value.ref b] meth c cL_law RL 9 (some .boolean) D (fb_ty D cI cJ) (fun q : Nat => s.heap.size ≤ q)) (hX : va_X b L xs s s.heap) (hbl : b < s.heap.size) (hbA : ¬ (fun q : Nat => s.heap.size ≤ q) b) (hL6 : L = 6) (hz : xs 1 = nI zj) (hj : 2048 ≤ zj ∧ zj < 3072) (I : fb_In D (fun q : Nat => s.heap.size ≤ q) s.heap (([fb_o11 zb zt zn zv zs zp (zq 0) (zu 0) zh zst zre, fb_mw cI zq fb_s0 zw, fb_o4 zp zt zv zn zs zp4 zp5 zp6 zp7 zp9 fb_p0, fb_aw cI zp6 11008 (fun _ => 0), fb_jw cJ zx 1 zg, fb_o12 za zr fr_e0, fb_aw cI (zr 0) 16205 (fr_m (fun _ => 0) 0), fb_aw cI (zr 46) 11008 (fun _ => 0)] : List va_W).flatten) H locs) (hl : lv_has ls 9 [(4, .int (0 : Int32)), (3, .ref zx), (2, .ref za), (1, .ref zb), (0, .ref b)]) : W p l e room_1 s m #[Value.ref b] below meth c H locs 209 179241 (lw_Z below #[Value.ref b] s) (F0 m 595 ls []) := by
  obtain ⟨hx, hb, hr, hml, hown, hts, hlk, hA, hK, hF⟩ := id X
  refine lv_aload_n hx hb dL_law_595 rfl (lv_at hl 3 rfl) ?_
  refine lv_aload_n hx hb dL_law_596 rfl (lv_at hl 4 rfl) ?_
  refine lv_iload hx hb dL_law_597 (lv_at hl 0 rfl) ?_
  refine lv_iconst (v := (1 : Int32)) hx hb dL_law_599 (by decide) ?_
  refine lv_iadd hx hb dL_law_600 ?_
  refine fb_tI (v := (1 : Int32)) (by decide) ?_
  refine va_sld (i := (1 : Int32)) hx hb hX hbl hbA I.2.2 (fb_inC (n := 1) (by decide) (by decide) (by omega)) dL_law_601 ?_
  refine fb_tI (v := (xs 1)) rfl ?_
  refine fb_tI (v := (nI zj)) hz ?_
  refine lv_aload_n hx hb dL_law_602 rfl (lv_at hl 1 rfl) ?_
  refine fb_gI (cs := [fb_o11 zb zt zn zv zs zp (zq 0) (zu 0) zh zst zre, fb_mw cI zq fb_s0 zw, fb_o4 zp zt zv zn zs zp4 zp5 zp6 zp7 zp9 fb_p0, fb_aw cI zp6 11008 (fun _ => 0), fb_jw cJ zx 1 zg]) (rs := [fb_o12 za zr fr_e0, fb_aw cI (zr 0) 16205 (fr_m (fun _ => 0) 0), fb_aw cI (zr 46) 11008 (fun _ => 0)]) (fun (t : Unit) => [fb_jw cJ zx 1 (vp_updL zg 0 (((-1 : Int32)).toInt64)), fb_o12 za zr fr_e0, fb_aw cI (zr 0) 16205 (fr_m (fun _ => 0) 0), fb_aw cI (zr 46) 11008 (fun _ => 0)]) (fun (t : Unit) => [fb_jw cJ zx 1 (vp_updL zg 0 (((-1 : Int32)).toInt64))]) X I [0, 1, 2, 3, 4, 5, 6, 7] 8 rfl (by decide +kernel) rfl rfl [0, 1, 2, 3] 4 (fun _ => rfl) (by decide +kernel) (fun _ => rfl) (fun _ => rfl) (fun I => fb_rSW (As := [.ref zb, .int (nI zj), .ref zx]) (rest := []) X hl (fb_goodSW fw_1725 fw_1726 fw_190 fw_1727) (c_w_lineOf_in l D cI cJ zb zt zn zv zs zp zq zu zh zst zre zw zp4 zp5 zp6 zp7 zp9 zx zg zj _ hst (by omega)) rfl rfl (by decide +kernel : fb_hd yL_lineOf 3) ⟨Nat.le_of_ble_eq_true rfl, Nat.le_of_ble_eq_true rfl⟩ rfl rfl (Nat.le_of_ble_eq_true rfl) ⟨Nat.le_of_ble_eq_true rfl, Nat.le_of_ble_eq_true rfl⟩ dL_law_603 I) ?_
  intro r2 w1 H locs e0 I
  subst e0
  have I : fb_In D (fun q : Nat => s.heap.size ≤ q) s.heap (([fb_jw cJ zx 1 (vp_updL zg 0 (((-1 : Int32)).toInt64)), fb_o12 za zr fr_e0, fb_aw cI (zr 0) 16205 (fr_m (fun _ => 0) 0), fb_aw cI (zr 46) 11008 (fun _ => 0)] : List va_W).flatten) H locs := I
  refine lv_istore (lv' := [(5, .int (0 : Int32)), (4, .int (0 : Int32)), (3, .ref zx), (2, .ref za), (1, .ref zb), (0, .ref b)]) hx hb dL_law_606 hl (by decide) rfl (fun ls hl => ?_)
  refine lv_aload_n hx hb dL_law_608 rfl (lv_at hl 3 rfl) ?_
  refine lv_aload_n hx hb dL_law_609 rfl (lv_at hl 5 rfl) ?_
  refine lv_iload hx hb dL_law_610 (lv_at hl 1 rfl) ?_
  refine lv_iconst (v := (1 : Int32)) hx hb dL_law_612 (by decide) ?_
  refine lv_iadd hx hb dL_law_613 ?_
  refine fb_tI (v := (1 : Int32)) (by decide) ?_
  refine va_sld (i := (1 : Int32)) hx hb hX hbl hbA I.2.2 (fb_inC (n := 1) (by decide) (by decide) (by omega)) dL_law_614 ?_
  refine fb_tI (v := (xs 1)) rfl ?_
  refine fb_tI (v := (nI zj)) hz ?_
  refine fb_gI (cs := [fb_o12 za zr fr_e0, fb_aw cI (zr 0) 16205 (fr_m (fun _ => 0) 0), fb_aw cI (zr 46) 11008 (fun _ => 0)]) (rs := [fb_jw cJ zx 1 (vp_updL zg 0 (((-1 : Int32)).toInt64))]) (fun (t : Unit) => [fb_jw cJ zx 1 (vp_updL zg 0 (((-1 : Int32)).toInt64)), fb_o12 za zr (upd fr_e0 19 (0 : Int32)), fb_aw cI (zr 0) 16205 (fr_m (fun _ => 0) 0), fb_aw cI (zr 46) 11008 (fun _ => 0)]) (fun (t : Unit) => [fb_o12 za zr (upd fr_e0 19 (0 : Int32)), fb_aw cI (zr 0) 16205 (fr_m (fun _ => 0) 0), fb_aw cI (zr 46) 11008 (fun _ => 0)]) X I [1, 2, 3, 0] 4 rfl (by decide +kernel) rfl rfl [1, 2, 3, 0] 4 (fun _ => rfl) (by decide +kernel) (fun _ => rfl) (fun _ => rfl) (fun I => fb_rV (As := [.int (nI zj)]) (rest := []) X hl (fb_goodV fw_2370 fw_2371 fw_2372 fw_204 fw_2373) (c_lineOf_2 l D cI cJ za zr zj _ (by omega)) rfl rfl rfl (by decide +kernel : fb_hd yX12_lineOf 1) ⟨Nat.le_of_ble_eq_true rfl, Nat.le_of_ble_eq_true rfl⟩ rfl rfl rfl rfl rfl (Nat.le_of_ble_eq_true rfl) ⟨Nat.le_of_ble_eq_true rfl, Nat.le_of_ble_eq_true rfl⟩ dL_law_615 I) ?_
  intro r4 w3 H locs e0 I
  subst e0
  have I : fb_In D (fun q : Nat => s.heap.size ≤ q) s.heap (([fb_jw cJ zx 1 (vp_updL zg 0 (((-1 : Int32)).toInt64)), fb_o12 za zr (upd fr_e0 19 (0 : Int32)), fb_aw cI (zr 0) 16205 (fr_m (fun _ => 0) 0), fb_aw cI (zr 46) 11008 (fun _ => 0)] : List va_W).flatten) H locs := I
  refine lv_istore (lv' := [(6, .int (-1 : Int32)), (5, .int (0 : Int32)), (4, .int (0 : Int32)), (3, .ref zx), (2, .ref za), (1, .ref zb), (0, .ref b)]) hx hb dL_law_618 hl (by decide) rfl (fun ls hl => ?_)
  refine lv_aload_n hx hb dL_law_620 rfl (lv_at hl 4 rfl) ?_
  refine fb_gO (cs := [fb_o12 za zr (upd fr_e0 19 (0 : Int32))]) (rs := [fb_jw cJ zx 1 (vp_updL zg 0 (((-1 : Int32)).toInt64)), fb_aw cI (zr 0) 16205 (fr_m (fun _ => 0) 0), fb_aw cI (zr 46) 11008 (fun _ => 0)]) X I [1, 0, 2, 3] 4 rfl (by decide +kernel) rfl rfl (fun I => fb_rV (As := []) (rest := []) X hl (fb_goodV fw_2119 fw_2120 fw_2121 fw_204 fw_2122) (c_thrown l D cI cJ za zr (upd fr_e0 19 (0 : Int32)) _ ) rfl rfl rfl (by decide +kernel : fb_hd yX12_thrown 0) ⟨Nat.le_of_ble_eq_true rfl, Nat.le_of_ble_eq_true rfl⟩ rfl rfl rfl rfl rfl (Nat.le_of_ble_eq_true rfl) ⟨Nat.le_of_ble_eq_true rfl, Nat.le_of_ble_eq_true rfl⟩ dL_law_621 I) ?_
  refine fb_tI (v := (0 : Int32)) rfl ?_
  refine lv_iload hx hb dL_law_624 (lv_at hl 1 rfl) ?_
  refine lv_icmp_eq (tgt := 631) hx hb dL_law_626 (by decide) (fun _ => ?_) (fun c5 => absurd rfl c5)
  refine lv_iload hx hb dL_law_631 (lv_at hl 1 rfl) ?_
  refine lv_if_ne (tgt := 648) hx hb dL_law_633 (by decide) (fun c6 => absurd (by decide) c6) (fun _ => ?_)
  refine lv_aload_n hx hb dL_law_636 rfl (lv_at hl 3 rfl) ?_
  refine lv_iconst (v := (0 : Int32)) hx hb dL_law_637 (by decide) ?_
  refine va_lald (i := (0 : Int32)) hx hb hK.1 I.1 0 1 rfl rfl (fb_inC (n := 0) (by decide) (by decide) (Nat.le_of_ble_eq_true rfl)) dL_law_638 ?_
  refine fb_tL (v := (((-1 : Int32)).toInt64)) rfl ?_
  refine lv_iload hx hb dL_law_639 (lv_at hl 0 rfl) ?_
  refine lv_i2l (v := (((-1 : Int32)).toInt64)) hx hb dL_law_641 rfl ?_
  refine W.lcmp hx hb dL_law_642 ?_
  refine fb_tI (v := (0 : Int32)) (lw_cmp0 _) ?_
  refine lv_if_eq (tgt := 648) hx hb dL_law_643 (by decide) (fun _ => ?_) (fun c7 => absurd (by decide) c7)
  refine lv_goto (tgt := 2336) hx hb dL_law_648 (by decide) ?_
  exact lw_end X hX hbl hbA (by omega) I (lv_sub hl [2, 6] rfl) (Nat.le_of_ble_eq_true rfl) (Nat.le_of_ble_eq_true rfl)

set_option maxHeartbeats 4000000 in
set_option maxRecDepth 100000 in
theorem lc_7_i3 {p : Program} {l : Launch} {e : Env} {s : State} {m : MethodId} {below : List Frame} {meth : Method} {c : Code} {H : Heap} {locs : List Loc} {ls : Array Slot} {D : va_G} {cI cJ : ClassId} {b L : Nat} {xs : Nat → Int32} {zb : Nat} {zt : Nat} {zn : Nat} {zv : Nat} {zs : Nat} {zp : Nat} {zq : Nat → Nat} {zu : Nat → Nat} {zh : Nat} {zst : Nat} {zre : Nat} {zw : fb_AR} {zp4 : Nat} {zp5 : Nat} {zp6 : Nat} {zp7 : Nat} {zp9 : Nat} {zx : Nat} {zg : Nat → Int64} {za : Nat} {zr : Nat → Nat} {zj : Nat} (hst : l.stackTraces = false) (X : fb_Bx p s m #[Value.ref b] meth c cL_law RL 9 (some .boolean) D (fb_ty D cI cJ) (fun q : Nat => s.heap.size ≤ q)) (hX : va_X b L xs s s.heap) (hbl : b < s.heap.size) (hbA : ¬ (fun q : Nat => s.heap.size ≤ q) b) (hL6 : L = 6) (hz : xs 1 = nI zj) (hj : 3072 ≤ zj ∧ zj < 4096) (I : fb_In D (fun q : Nat => s.heap.size ≤ q) s.heap (([fb_o11 zb zt zn zv zs zp (zq 0) (zu 0) zh zst zre, fb_mw cI zq fb_s0 zw, fb_o4 zp zt zv zn zs zp4 zp5 zp6 zp7 zp9 fb_p0, fb_aw cI zp6 11008 (fun _ => 0), fb_jw cJ zx 1 zg, fb_o12 za zr fr_e0, fb_aw cI (zr 0) 16205 (fr_m (fun _ => 0) 0), fb_aw cI (zr 46) 11008 (fun _ => 0)] : List va_W).flatten) H locs) (hl : lv_has ls 9 [(4, .int (0 : Int32)), (3, .ref zx), (2, .ref za), (1, .ref zb), (0, .ref b)]) : W p l e room_1 s m #[Value.ref b] below meth c H locs 209 179241 (lw_Z below #[Value.ref b] s) (F0 m 595 ls []) := by
  obtain ⟨hx, hb, hr, hml, hown, hts, hlk, hA, hK, hF⟩ := id X
  refine lv_aload_n hx hb dL_law_595 rfl (lv_at hl 3 rfl) ?_
  refine lv_aload_n hx hb dL_law_596 rfl (lv_at hl 4 rfl) ?_
  refine lv_iload hx hb dL_law_597 (lv_at hl 0 rfl) ?_
  refine lv_iconst (v := (1 : Int32)) hx hb dL_law_599 (by decide) ?_
  refine lv_iadd hx hb dL_law_600 ?_
  refine fb_tI (v := (1 : Int32)) (by decide) ?_
  refine va_sld (i := (1 : Int32)) hx hb hX hbl hbA I.2.2 (fb_inC (n := 1) (by decide) (by decide) (by omega)) dL_law_601 ?_
  refine fb_tI (v := (xs 1)) rfl ?_
  refine fb_tI (v := (nI zj)) hz ?_
  refine lv_aload_n hx hb dL_law_602 rfl (lv_at hl 1 rfl) ?_
  refine fb_gI (cs := [fb_o11 zb zt zn zv zs zp (zq 0) (zu 0) zh zst zre, fb_mw cI zq fb_s0 zw, fb_o4 zp zt zv zn zs zp4 zp5 zp6 zp7 zp9 fb_p0, fb_aw cI zp6 11008 (fun _ => 0), fb_jw cJ zx 1 zg]) (rs := [fb_o12 za zr fr_e0, fb_aw cI (zr 0) 16205 (fr_m (fun _ => 0) 0), fb_aw cI (zr 46) 11008 (fun _ => 0)]) (fun (t : Unit) => [fb_jw cJ zx 1 (vp_updL zg 0 (((-1 : Int32)).toInt64)), fb_o12 za zr fr_e0, fb_aw cI (zr 0) 16205 (fr_m (fun _ => 0) 0), fb_aw cI (zr 46) 11008 (fun _ => 0)]) (fun (t : Unit) => [fb_jw cJ zx 1 (vp_updL zg 0 (((-1 : Int32)).toInt64))]) X I [0, 1, 2, 3, 4, 5, 6, 7] 8 rfl (by decide +kernel) rfl rfl [0, 1, 2, 3] 4 (fun _ => rfl) (by decide +kernel) (fun _ => rfl) (fun _ => rfl) (fun I => fb_rSW (As := [.ref zb, .int (nI zj), .ref zx]) (rest := []) X hl (fb_goodSW fw_1725 fw_1726 fw_190 fw_1727) (c_w_lineOf_in l D cI cJ zb zt zn zv zs zp zq zu zh zst zre zw zp4 zp5 zp6 zp7 zp9 zx zg zj _ hst (by omega)) rfl rfl (by decide +kernel : fb_hd yL_lineOf 3) ⟨Nat.le_of_ble_eq_true rfl, Nat.le_of_ble_eq_true rfl⟩ rfl rfl (Nat.le_of_ble_eq_true rfl) ⟨Nat.le_of_ble_eq_true rfl, Nat.le_of_ble_eq_true rfl⟩ dL_law_603 I) ?_
  intro r2 w1 H locs e0 I
  subst e0
  have I : fb_In D (fun q : Nat => s.heap.size ≤ q) s.heap (([fb_jw cJ zx 1 (vp_updL zg 0 (((-1 : Int32)).toInt64)), fb_o12 za zr fr_e0, fb_aw cI (zr 0) 16205 (fr_m (fun _ => 0) 0), fb_aw cI (zr 46) 11008 (fun _ => 0)] : List va_W).flatten) H locs := I
  refine lv_istore (lv' := [(5, .int (0 : Int32)), (4, .int (0 : Int32)), (3, .ref zx), (2, .ref za), (1, .ref zb), (0, .ref b)]) hx hb dL_law_606 hl (by decide) rfl (fun ls hl => ?_)
  refine lv_aload_n hx hb dL_law_608 rfl (lv_at hl 3 rfl) ?_
  refine lv_aload_n hx hb dL_law_609 rfl (lv_at hl 5 rfl) ?_
  refine lv_iload hx hb dL_law_610 (lv_at hl 1 rfl) ?_
  refine lv_iconst (v := (1 : Int32)) hx hb dL_law_612 (by decide) ?_
  refine lv_iadd hx hb dL_law_613 ?_
  refine fb_tI (v := (1 : Int32)) (by decide) ?_
  refine va_sld (i := (1 : Int32)) hx hb hX hbl hbA I.2.2 (fb_inC (n := 1) (by decide) (by decide) (by omega)) dL_law_614 ?_
  refine fb_tI (v := (xs 1)) rfl ?_
  refine fb_tI (v := (nI zj)) hz ?_
  refine fb_gI (cs := [fb_o12 za zr fr_e0, fb_aw cI (zr 0) 16205 (fr_m (fun _ => 0) 0), fb_aw cI (zr 46) 11008 (fun _ => 0)]) (rs := [fb_jw cJ zx 1 (vp_updL zg 0 (((-1 : Int32)).toInt64))]) (fun (t : Unit) => [fb_jw cJ zx 1 (vp_updL zg 0 (((-1 : Int32)).toInt64)), fb_o12 za zr (upd fr_e0 19 (0 : Int32)), fb_aw cI (zr 0) 16205 (fr_m (fun _ => 0) 0), fb_aw cI (zr 46) 11008 (fun _ => 0)]) (fun (t : Unit) => [fb_o12 za zr (upd fr_e0 19 (0 : Int32)), fb_aw cI (zr 0) 16205 (fr_m (fun _ => 0) 0), fb_aw cI (zr 46) 11008 (fun _ => 0)]) X I [1, 2, 3, 0] 4 rfl (by decide +kernel) rfl rfl [1, 2, 3, 0] 4 (fun _ => rfl) (by decide +kernel) (fun _ => rfl) (fun _ => rfl) (fun I => fb_rV (As := [.int (nI zj)]) (rest := []) X hl (fb_goodV fw_2370 fw_2371 fw_2372 fw_204 fw_2373) (c_lineOf_3 l D cI cJ za zr zj _ (by omega)) rfl rfl rfl (by decide +kernel : fb_hd yX12_lineOf 1) ⟨Nat.le_of_ble_eq_true rfl, Nat.le_of_ble_eq_true rfl⟩ rfl rfl rfl rfl rfl (Nat.le_of_ble_eq_true rfl) ⟨Nat.le_of_ble_eq_true rfl, Nat.le_of_ble_eq_true rfl⟩ dL_law_615 I) ?_
  intro r4 w3 H locs e0 I
  subst e0
  have I : fb_In D (fun q : Nat => s.heap.size ≤ q) s.heap (([fb_jw cJ zx 1 (vp_updL zg 0 (((-1 : Int32)).toInt64)), fb_o12 za zr (upd fr_e0 19 (0 : Int32)), fb_aw cI (zr 0) 16205 (fr_m (fun _ => 0) 0), fb_aw cI (zr 46) 11008 (fun _ => 0)] : List va_W).flatten) H locs := I
  refine lv_istore (lv' := [(6, .int (-1 : Int32)), (5, .int (0 : Int32)), (4, .int (0 : Int32)), (3, .ref zx), (2, .ref za), (1, .ref zb), (0, .ref b)]) hx hb dL_law_618 hl (by decide) rfl (fun ls hl => ?_)
  refine lv_aload_n hx hb dL_law_620 rfl (lv_at hl 4 rfl) ?_
  refine fb_gO (cs := [fb_o12 za zr (upd fr_e0 19 (0 : Int32))]) (rs := [fb_jw cJ zx 1 (vp_updL zg 0 (((-1 : Int32)).toInt64)), fb_aw cI (zr 0) 16205 (fr_m (fun _ => 0) 0), fb_aw cI (zr 46) 11008 (fun _ => 0)]) X I [1, 0, 2, 3] 4 rfl (by decide +kernel) rfl rfl (fun I => fb_rV (As := []) (rest := []) X hl (fb_goodV fw_2119 fw_2120 fw_2121 fw_204 fw_2122) (c_thrown l D cI cJ za zr (upd fr_e0 19 (0 : Int32)) _ ) rfl rfl rfl (by decide +kernel : fb_hd yX12_thrown 0) ⟨Nat.le_of_ble_eq_true rfl, Nat.le_of_ble_eq_true rfl⟩ rfl rfl rfl rfl rfl (Nat.le_of_ble_eq_true rfl) ⟨Nat.le_of_ble_eq_true rfl, Nat.le_of_ble_eq_true rfl⟩ dL_law_621 I) ?_
  refine fb_tI (v := (0 : Int32)) rfl ?_
  refine lv_iload hx hb dL_law_624 (lv_at hl 1 rfl) ?_
  refine lv_icmp_eq (tgt := 631) hx hb dL_law_626 (by decide) (fun _ => ?_) (fun c5 => absurd rfl c5)
  refine lv_iload hx hb dL_law_631 (lv_at hl 1 rfl) ?_
  refine lv_if_ne (tgt := 648) hx hb dL_law_633 (by decide) (fun c6 => absurd (by decide) c6) (fun _ => ?_)
  refine lv_aload_n hx hb dL_law_636 rfl (lv_at hl 3 rfl) ?_
  refine lv_iconst (v := (0 : Int32)) hx hb dL_law_637 (by decide) ?_
  refine va_lald (i := (0 : Int32)) hx hb hK.1 I.1 0 1 rfl rfl (fb_inC (n := 0) (by decide) (by decide) (Nat.le_of_ble_eq_true rfl)) dL_law_638 ?_
  refine fb_tL (v := (((-1 : Int32)).toInt64)) rfl ?_
  refine lv_iload hx hb dL_law_639 (lv_at hl 0 rfl) ?_
  refine lv_i2l (v := (((-1 : Int32)).toInt64)) hx hb dL_law_641 rfl ?_
  refine W.lcmp hx hb dL_law_642 ?_
  refine fb_tI (v := (0 : Int32)) (lw_cmp0 _) ?_
  refine lv_if_eq (tgt := 648) hx hb dL_law_643 (by decide) (fun _ => ?_) (fun c7 => absurd (by decide) c7)
  refine lv_goto (tgt := 2336) hx hb dL_law_648 (by decide) ?_
  exact lw_end X hX hbl hbA (by omega) I (lv_sub hl [2, 6] rfl) (Nat.le_of_ble_eq_true rfl) (Nat.le_of_ble_eq_true rfl)

set_option maxHeartbeats 4000000 in
set_option maxRecDepth 100000 in
theorem lc_9_o {p : Program} {l : Launch} {e : Env} {s : State} {m : MethodId} {below : List Frame} {meth : Method} {c : Code} {H : Heap} {locs : List Loc} {ls : Array Slot} {D : va_G} {cI cJ : ClassId} {b L : Nat} {xs : Nat → Int32} {zb : Nat} {zt : Nat} {zn : Nat} {zv : Nat} {zs : Nat} {zp : Nat} {zq : Nat → Nat} {zu : Nat → Nat} {zh : Nat} {zst : Nat} {zre : Nat} {zx : Nat} {zg : Nat → Int64} {za : Nat} {zr : Nat → Nat} (hst : l.stackTraces = false) (X : fb_Bx p s m #[Value.ref b] meth c cL_law RL 9 (some .boolean) D (fb_ty D cI cJ) (fun q : Nat => s.heap.size ≤ q)) (hX : va_X b L xs s s.heap) (hbl : b < s.heap.size) (hbA : ¬ (fun q : Nat => s.heap.size ≤ q) b) (hL6 : L = 6) (gA : f_X11_isNoByte (xs 1) = (1 : Int32)) (q1 : f_X12_isIn (xs 1) (0 : Int32) (255 : Int32) = (0 : Int32)) (I : fb_In D (fun q : Nat => s.heap.size ≤ q) s.heap (([fb_o11 zb zt zn zv zs zp (zq 0) (zu 0) zh zst zre, fb_jw cJ zx 1 zg, fb_o12 za zr fr_e0, fb_aw cI (zr 0) 16205 (fr_m (fun _ => 0) 0)] : List va_W).flatten) H locs) (hl : lv_has ls 9 [(4, .int (0 : Int32)), (3, .ref zx), (2, .ref za), (1, .ref zb), (0, .ref b)]) : W p l e room_1 s m #[Value.ref b] below meth c H locs 209 179241 (lw_Z below #[Value.ref b] s) (F0 m 664 ls []) := by
  obtain ⟨hx, hb, hr, hml, hown, hts, hlk, hA, hK, hF⟩ := id X
  refine lv_aload_n hx hb dL_law_664 rfl (lv_at hl 3 rfl) ?_
  refine lv_aload_n hx hb dL_law_665 rfl (lv_at hl 4 rfl) ?_
  refine lv_iload hx hb dL_law_666 (lv_at hl 0 rfl) ?_
  refine lv_iconst (v := (1 : Int32)) hx hb dL_law_668 (by decide) ?_
  refine lv_iadd hx hb dL_law_669 ?_
  refine fb_tI (v := (1 : Int32)) (by decide) ?_
  refine va_sld (i := (1 : Int32)) hx hb hX hbl hbA I.2.2 (fb_inC (n := 1) (by decide) (by decide) (by omega)) dL_law_670 ?_
  refine fb_tI (v := (xs 1)) rfl ?_
  refine lv_aload_n hx hb dL_law_671 rfl (lv_at hl 1 rfl) ?_
  refine fb_gI (cs := [fb_o11 zb zt zn zv zs zp (zq 0) (zu 0) zh zst zre, fb_jw cJ zx 1 zg]) (rs := [fb_o12 za zr fr_e0, fb_aw cI (zr 0) 16205 (fr_m (fun _ => 0) 0)]) (fun (t : Unit) => [fb_jw cJ zx 1 zg, fb_o12 za zr fr_e0, fb_aw cI (zr 0) 16205 (fr_m (fun _ => 0) 0)]) (fun (t : Unit) => [fb_jw cJ zx 1 zg]) X I [0, 1, 2, 3] 4 rfl (by decide +kernel) rfl rfl [0, 1, 2] 3 (fun _ => rfl) (by decide +kernel) (fun _ => rfl) (fun _ => rfl) (fun I => fb_rSW (As := [.ref zb, .int (xs 1), .ref zx]) (rest := []) X hl (fb_goodSW fw_1733 fw_1734 fw_190 fw_1735) (c_w_key_o l D cI cJ zb zt zn zv zs zp zq zu zh zst zre zx zg (xs 1) _ hst gA) rfl rfl (by decide +kernel : fb_hd yL_key 3) ⟨Nat.le_of_ble_eq_true rfl, Nat.le_of_ble_eq_true rfl⟩ rfl rfl (Nat.le_of_ble_eq_true rfl) ⟨Nat.le_of_ble_eq_true rfl, Nat.le_of_ble_eq_true rfl⟩ dL_law_672 I) ?_
  intro r2 w1 H locs e0 I
  subst e0
  have I : fb_In D (fun q : Nat => s.heap.size ≤ q) s.heap (([fb_jw cJ zx 1 zg, fb_o12 za zr fr_e0, fb_aw cI (zr 0) 16205 (fr_m (fun _ => 0) 0)] : List va_W).flatten) H locs := I
  refine lv_istore (lv' := [(5, .int (1 : Int32)), (4, .int (0 : Int32)), (3, .ref zx), (2, .ref za), (1, .ref zb), (0, .ref b)]) hx hb dL_law_675 hl (by decide) rfl (fun ls hl => ?_)
  refine lv_aload_n hx hb dL_law_677 rfl (lv_at hl 3 rfl) ?_
  refine lv_aload_n hx hb dL_law_678 rfl (lv_at hl 5 rfl) ?_
  refine lv_iload hx hb dL_law_679 (lv_at hl 1 rfl) ?_
  refine lv_iconst (v := (1 : Int32)) hx hb dL_law_681 (by decide) ?_
  refine lv_iadd hx hb dL_law_682 ?_
  refine fb_tI (v := (1 : Int32)) (by decide) ?_
  refine va_sld (i := (1 : Int32)) hx hb hX hbl hbA I.2.2 (fb_inC (n := 1) (by decide) (by decide) (by omega)) dL_law_683 ?_
  refine fb_tI (v := (xs 1)) rfl ?_
  refine fb_gI (cs := [fb_o12 za zr fr_e0, fb_aw cI (zr 0) 16205 (fr_m (fun _ => 0) 0)]) (rs := [fb_jw cJ zx 1 zg]) (fun (t : Unit) => [fb_jw cJ zx 1 zg, fb_o12 za zr (upd (upd fr_e0 19 (0 : Int32)) 19 (1 : Int32)), fb_aw cI (zr 0) 16205 (fr_m (fun _ => 0) 0)]) (fun (t : Unit) => [fb_o12 za zr (upd (upd fr_e0 19 (0 : Int32)) 19 (1 : Int32)), fb_aw cI (zr 0) 16205 (fr_m (fun _ => 0) 0)]) X I [1, 2, 0] 3 rfl (by decide +kernel) rfl rfl [1, 2, 0] 3 (fun _ => rfl) (by decide +kernel) (fun _ => rfl) (fun _ => rfl) (fun I => fb_rV (As := [.int (xs 1)]) (rest := []) X hl (fb_goodV fw_2378 fw_2379 fw_2380 fw_204 fw_2381) (c_key_out l D cI cJ za zr (xs 1) _ q1) rfl rfl rfl (by decide +kernel : fb_hd yX12_key 1) ⟨Nat.le_of_ble_eq_true rfl, Nat.le_of_ble_eq_true rfl⟩ rfl rfl rfl rfl rfl (Nat.le_of_ble_eq_true rfl) ⟨Nat.le_of_ble_eq_true rfl, Nat.le_of_ble_eq_true rfl⟩ dL_law_684 I) ?_
  intro r4 w3 H locs e0 I
  subst e0
  have I : fb_In D (fun q : Nat => s.heap.size ≤ q) s.heap (([fb_jw cJ zx 1 zg, fb_o12 za zr (upd (upd fr_e0 19 (0 : Int32)) 19 (1 : Int32)), fb_aw cI (zr 0) 16205 (fr_m (fun _ => 0) 0)] : List va_W).flatten) H locs := I
  refine lv_istore (lv' := [(6, .int (0 : Int32)), (5, .int (1 : Int32)), (4, .int (0 : Int32)), (3, .ref zx), (2, .ref za), (1, .ref zb), (0, .ref b)]) hx hb dL_law_687 hl (by decide) rfl (fun ls hl => ?_)
  refine lv_aload_n hx hb dL_law_689 rfl (lv_at hl 4 rfl) ?_
  refine fb_gO (cs := [fb_o12 za zr (upd (upd fr_e0 19 (0 : Int32)) 19 (1 : Int32))]) (rs := [fb_jw cJ zx 1 zg, fb_aw cI (zr 0) 16205 (fr_m (fun _ => 0) 0)]) X I [1, 0, 2] 3 rfl (by decide +kernel) rfl rfl (fun I => fb_rV (As := []) (rest := []) X hl (fb_goodV fw_2119 fw_2120 fw_2121 fw_204 fw_2122) (c_thrown l D cI cJ za zr (upd (upd fr_e0 19 (0 : Int32)) 19 (1 : Int32)) _ ) rfl rfl rfl (by decide +kernel : fb_hd yX12_thrown 0) ⟨Nat.le_of_ble_eq_true rfl, Nat.le_of_ble_eq_true rfl⟩ rfl rfl rfl rfl rfl (Nat.le_of_ble_eq_true rfl) ⟨Nat.le_of_ble_eq_true rfl, Nat.le_of_ble_eq_true rfl⟩ dL_law_690 I) ?_
  refine fb_tI (v := (1 : Int32)) rfl ?_
  refine lv_iload hx hb dL_law_693 (lv_at hl 1 rfl) ?_
  refine lv_icmp_eq (tgt := 700) hx hb dL_law_695 (by decide) (fun _ => ?_) (fun c5 => absurd rfl c5)
  refine lv_iload hx hb dL_law_700 (lv_at hl 1 rfl) ?_
  refine lv_if_ne (tgt := 717) hx hb dL_law_702 (by decide) (fun _ => ?_) (fun c6 => absurd c6 (by decide))
  refine lv_goto (tgt := 2336) hx hb dL_law_717 (by decide) ?_
  exact lw_end X hX hbl hbA (by omega) I (lv_sub hl [2, 6] rfl) (Nat.le_of_ble_eq_true rfl) (Nat.le_of_ble_eq_true rfl)

set_option maxHeartbeats 4000000 in
set_option maxRecDepth 100000 in
theorem lc_9_i {p : Program} {l : Launch} {e : Env} {s : State} {m : MethodId} {below : List Frame} {meth : Method} {c : Code} {H : Heap} {locs : List Loc} {ls : Array Slot} {D : va_G} {cI cJ : ClassId} {b L : Nat} {xs : Nat → Int32} {zb : Nat} {zt : Nat} {zn : Nat} {zv : Nat} {zs : Nat} {zp : Nat} {zq : Nat → Nat} {zu : Nat → Nat} {zh : Nat} {zst : Nat} {zre : Nat} {zw : fb_AR} {zo : Nat → Nat} {zi : Nat → Nat} {zx : Nat} {zg : Nat → Int64} {za : Nat} {zr : Nat → Nat} {zj : Nat} (hst : l.stackTraces = false) (X : fb_Bx p s m #[Value.ref b] meth c cL_law RL 9 (some .boolean) D (fb_ty D cI cJ) (fun q : Nat => s.heap.size ≤ q)) (hX : va_X b L xs s s.heap) (hbl : b < s.heap.size) (hbA : ¬ (fun q : Nat => s.heap.size ≤ q) b) (hL6 : L = 6) (hz : xs 1 = nI zj) (hj : zj ≤ 255) (I : fb_In D (fun q : Nat => s.heap.size ≤ q) s.heap (([fb_o11 zb zt zn zv zs zp (zq 0) (zu 0) zh zst zre, fb_mw cI zq fb_s0 zw, fb_o0 zh (zo 0) (zi 0) fb_h0, fb_jw cJ zx 1 zg, fb_o12 za zr fr_e0, fb_aw cI (zr 0) 16205 (fr_m (fun _ => 0) 0)] : List va_W).flatten) H locs) (hl : lv_has ls 9 [(4, .int (0 : Int32)), (3, .ref zx), (2, .ref za), (1, .ref zb), (0, .ref b)]) : W p l e room_1 s m #[Value.ref b] below meth c H locs 209 179241 (lw_Z below #[Value.ref b] s) (F0 m 664 ls []) := by
  obtain ⟨hx, hb, hr, hml, hown, hts, hlk, hA, hK, hF⟩ := id X
  refine lv_aload_n hx hb dL_law_664 rfl (lv_at hl 3 rfl) ?_
  refine lv_aload_n hx hb dL_law_665 rfl (lv_at hl 4 rfl) ?_
  refine lv_iload hx hb dL_law_666 (lv_at hl 0 rfl) ?_
  refine lv_iconst (v := (1 : Int32)) hx hb dL_law_668 (by decide) ?_
  refine lv_iadd hx hb dL_law_669 ?_
  refine fb_tI (v := (1 : Int32)) (by decide) ?_
  refine va_sld (i := (1 : Int32)) hx hb hX hbl hbA I.2.2 (fb_inC (n := 1) (by decide) (by decide) (by omega)) dL_law_670 ?_
  refine fb_tI (v := (xs 1)) rfl ?_
  refine fb_tI (v := (nI zj)) hz ?_
  refine lv_aload_n hx hb dL_law_671 rfl (lv_at hl 1 rfl) ?_
  refine fb_gI (cs := [fb_o11 zb zt zn zv zs zp (zq 0) (zu 0) zh zst zre, fb_mw cI zq fb_s0 zw, fb_o0 zh (zo 0) (zi 0) fb_h0, fb_jw cJ zx 1 zg]) (rs := [fb_o12 za zr fr_e0, fb_aw cI (zr 0) 16205 (fr_m (fun _ => 0) 0)]) (fun (t : Unit) => [fb_jw cJ zx 1 (vp_updL zg 0 (((1 : Int32)).toInt64)), fb_o12 za zr fr_e0, fb_aw cI (zr 0) 16205 (fr_m (fun _ => 0) 0)]) (fun (t : Unit) => [fb_jw cJ zx 1 (vp_updL zg 0 (((1 : Int32)).toInt64))]) X I [0, 1, 2, 3, 4, 5] 6 rfl (by decide +kernel) rfl rfl [0, 1, 2] 3 (fun _ => rfl) (by decide +kernel) (fun _ => rfl) (fun _ => rfl) (fun I => fb_rSW (As := [.ref zb, .int (nI zj), .ref zx]) (rest := []) X hl (fb_goodSW fw_1733 fw_1734 fw_190 fw_1735) (c_w_key_in l D cI cJ zb zt zn zv zs zp zq zu zh zst zre zw zo zi zx zg zj _ hst (by omega)) rfl rfl (by decide +kernel : fb_hd yL_key 3) ⟨Nat.le_of_ble_eq_true rfl, Nat.le_of_ble_eq_true rfl⟩ rfl rfl (Nat.le_of_ble_eq_true rfl) ⟨Nat.le_of_ble_eq_true rfl, Nat.le_of_ble_eq_true rfl⟩ dL_law_672 I) ?_
  intro r2 w1 H locs e0 I
  subst e0
  have I : fb_In D (fun q : Nat => s.heap.size ≤ q) s.heap (([fb_jw cJ zx 1 (vp_updL zg 0 (((1 : Int32)).toInt64)), fb_o12 za zr fr_e0, fb_aw cI (zr 0) 16205 (fr_m (fun _ => 0) 0)] : List va_W).flatten) H locs := I
  refine lv_istore (lv' := [(5, .int (0 : Int32)), (4, .int (0 : Int32)), (3, .ref zx), (2, .ref za), (1, .ref zb), (0, .ref b)]) hx hb dL_law_675 hl (by decide) rfl (fun ls hl => ?_)
  refine lv_aload_n hx hb dL_law_677 rfl (lv_at hl 3 rfl) ?_
  refine lv_aload_n hx hb dL_law_678 rfl (lv_at hl 5 rfl) ?_
  refine lv_iload hx hb dL_law_679 (lv_at hl 1 rfl) ?_
  refine lv_iconst (v := (1 : Int32)) hx hb dL_law_681 (by decide) ?_
  refine lv_iadd hx hb dL_law_682 ?_
  refine fb_tI (v := (1 : Int32)) (by decide) ?_
  refine va_sld (i := (1 : Int32)) hx hb hX hbl hbA I.2.2 (fb_inC (n := 1) (by decide) (by decide) (by omega)) dL_law_683 ?_
  refine fb_tI (v := (xs 1)) rfl ?_
  refine fb_tI (v := (nI zj)) hz ?_
  refine fb_gI (cs := [fb_o12 za zr fr_e0, fb_aw cI (zr 0) 16205 (fr_m (fun _ => 0) 0)]) (rs := [fb_jw cJ zx 1 (vp_updL zg 0 (((1 : Int32)).toInt64))]) (fun (t : Unit) => [fb_jw cJ zx 1 (vp_updL zg 0 (((1 : Int32)).toInt64)), fb_o12 za zr (upd (upd fr_e0 19 (0 : Int32)) 2 (0 : Int32)), fb_aw cI (zr 0) 16205 (upd (upd (upd (fr_m (fun _ => 0) 0) 21 (nI zj)) 18 (1 : Int32)) 11 (2 : Int32))]) (fun (t : Unit) => [fb_o12 za zr (upd (upd fr_e0 19 (0 : Int32)) 2 (0 : Int32)), fb_aw cI (zr 0) 16205 (upd (upd (upd (fr_m (fun _ => 0) 0) 21 (nI zj)) 18 (1 : Int32)) 11 (2 : Int32))]) X I [1, 2, 0] 3 rfl (by decide +kernel) rfl rfl [1, 2, 0] 3 (fun _ => rfl) (by decide +kernel) (fun _ => rfl) (fun _ => rfl) (fun I => fb_rV (As := [.int (nI zj)]) (rest := []) X hl (fb_goodV fw_2378 fw_2379 fw_2380 fw_204 fw_2381) (c_key_in l D cI cJ za zr zj _ (by omega)) rfl rfl rfl (by decide +kernel : fb_hd yX12_key 1) ⟨Nat.le_of_ble_eq_true rfl, Nat.le_of_ble_eq_true rfl⟩ rfl rfl rfl rfl rfl (Nat.le_of_ble_eq_true rfl) ⟨Nat.le_of_ble_eq_true rfl, Nat.le_of_ble_eq_true rfl⟩ dL_law_684 I) ?_
  intro r4 w3 H locs e0 I
  subst e0
  have I : fb_In D (fun q : Nat => s.heap.size ≤ q) s.heap (([fb_jw cJ zx 1 (vp_updL zg 0 (((1 : Int32)).toInt64)), fb_o12 za zr (upd (upd fr_e0 19 (0 : Int32)) 2 (0 : Int32)), fb_aw cI (zr 0) 16205 (upd (upd (upd (fr_m (fun _ => 0) 0) 21 (nI zj)) 18 (1 : Int32)) 11 (2 : Int32))] : List va_W).flatten) H locs := I
  refine lv_istore (lv' := [(6, .int (1 : Int32)), (5, .int (0 : Int32)), (4, .int (0 : Int32)), (3, .ref zx), (2, .ref za), (1, .ref zb), (0, .ref b)]) hx hb dL_law_687 hl (by decide) rfl (fun ls hl => ?_)
  refine lv_aload_n hx hb dL_law_689 rfl (lv_at hl 4 rfl) ?_
  refine fb_gO (cs := [fb_o12 za zr (upd (upd fr_e0 19 (0 : Int32)) 2 (0 : Int32))]) (rs := [fb_jw cJ zx 1 (vp_updL zg 0 (((1 : Int32)).toInt64)), fb_aw cI (zr 0) 16205 (upd (upd (upd (fr_m (fun _ => 0) 0) 21 (nI zj)) 18 (1 : Int32)) 11 (2 : Int32))]) X I [1, 0, 2] 3 rfl (by decide +kernel) rfl rfl (fun I => fb_rV (As := []) (rest := []) X hl (fb_goodV fw_2119 fw_2120 fw_2121 fw_204 fw_2122) (c_thrown l D cI cJ za zr (upd (upd fr_e0 19 (0 : Int32)) 2 (0 : Int32)) _ ) rfl rfl rfl (by decide +kernel : fb_hd yX12_thrown 0) ⟨Nat.le_of_ble_eq_true rfl, Nat.le_of_ble_eq_true rfl⟩ rfl rfl rfl rfl rfl (Nat.le_of_ble_eq_true rfl) ⟨Nat.le_of_ble_eq_true rfl, Nat.le_of_ble_eq_true rfl⟩ dL_law_690 I) ?_
  refine fb_tI (v := (0 : Int32)) rfl ?_
  refine lv_iload hx hb dL_law_693 (lv_at hl 1 rfl) ?_
  refine lv_icmp_eq (tgt := 700) hx hb dL_law_695 (by decide) (fun _ => ?_) (fun c5 => absurd rfl c5)
  refine lv_iload hx hb dL_law_700 (lv_at hl 1 rfl) ?_
  refine lv_if_ne (tgt := 717) hx hb dL_law_702 (by decide) (fun c6 => absurd (by decide) c6) (fun _ => ?_)
  refine lv_aload_n hx hb dL_law_705 rfl (lv_at hl 3 rfl) ?_
  refine lv_iconst (v := (0 : Int32)) hx hb dL_law_706 (by decide) ?_
  refine va_lald (i := (0 : Int32)) hx hb hK.1 I.1 0 1 rfl rfl (fb_inC (n := 0) (by decide) (by decide) (Nat.le_of_ble_eq_true rfl)) dL_law_707 ?_
  refine fb_tL (v := (((1 : Int32)).toInt64)) rfl ?_
  refine lv_iload hx hb dL_law_708 (lv_at hl 0 rfl) ?_
  refine lv_i2l (v := (((1 : Int32)).toInt64)) hx hb dL_law_710 rfl ?_
  refine W.lcmp hx hb dL_law_711 ?_
  refine fb_tI (v := (0 : Int32)) (lw_cmp0 _) ?_
  refine lv_if_eq (tgt := 717) hx hb dL_law_712 (by decide) (fun _ => ?_) (fun c7 => absurd (by decide) c7)
  refine lv_goto (tgt := 2336) hx hb dL_law_717 (by decide) ?_
  exact lw_end X hX hbl hbA (by omega) I (lv_sub hl [2, 6] rfl) (Nat.le_of_ble_eq_true rfl) (Nat.le_of_ble_eq_true rfl)

set_option maxHeartbeats 4000000 in
set_option maxRecDepth 100000 in
theorem lc_12_o {p : Program} {l : Launch} {e : Env} {s : State} {m : MethodId} {below : List Frame} {meth : Method} {c : Code} {H : Heap} {locs : List Loc} {ls : Array Slot} {D : va_G} {cI cJ : ClassId} {b L : Nat} {xs : Nat → Int32} {zb : Nat} {zt : Nat} {zn : Nat} {zv : Nat} {zs : Nat} {zp : Nat} {zq : Nat → Nat} {zu : Nat → Nat} {zh : Nat} {zst : Nat} {zre : Nat} {zx : Nat} {zg : Nat → Int64} {za : Nat} {zr : Nat → Nat} (hst : l.stackTraces = false) (X : fb_Bx p s m #[Value.ref b] meth c cL_law RL 9 (some .boolean) D (fb_ty D cI cJ) (fun q : Nat => s.heap.size ≤ q)) (hX : va_X b L xs s s.heap) (hbl : b < s.heap.size) (hbA : ¬ (fun q : Nat => s.heap.size ≤ q) b) (hL6 : L = 6) (gA : f_X11_isNoAddress (xs 1) = (1 : Int32)) (q1 : f_X12_isIn (xs 1) (0 : Int32) (4095 : Int32) = (0 : Int32)) (I : fb_In D (fun q : Nat => s.heap.size ≤ q) s.heap (([fb_o11 zb zt zn zv zs zp (zq 0) (zu 0) zh zst zre, fb_jw cJ zx 1 zg, fb_o12 za zr fr_e0] : List va_W).flatten) H locs) (hl : lv_has ls 9 [(4, .int (0 : Int32)), (3, .ref zx), (2, .ref za), (1, .ref zb), (0, .ref b)]) : W p l e room_1 s m #[Value.ref b] below meth c H locs 209 179241 (lw_Z below #[Value.ref b] s) (F0 m 746 ls []) := by
  obtain ⟨hx, hb, hr, hml, hown, hts, hlk, hA, hK, hF⟩ := id X
  refine lv_aload_n hx hb dL_law_746 rfl (lv_at hl 3 rfl) ?_
  refine lv_aload_n hx hb dL_law_747 rfl (lv_at hl 4 rfl) ?_
  refine lv_iload hx hb dL_law_748 (lv_at hl 0 rfl) ?_
  refine lv_iconst (v := (1 : Int32)) hx hb dL_law_750 (by decide) ?_
  refine lv_iadd hx hb dL_law_751 ?_
  refine fb_tI (v := (1 : Int32)) (by decide) ?_
  refine va_sld (i := (1 : Int32)) hx hb hX hbl hbA I.2.2 (fb_inC (n := 1) (by decide) (by decide) (by omega)) dL_law_752 ?_
  refine fb_tI (v := (xs 1)) rfl ?_
  refine lv_aload_n hx hb dL_law_753 rfl (lv_at hl 4 rfl) ?_
  refine lv_iload hx hb dL_law_754 (lv_at hl 0 rfl) ?_
  refine lv_iconst (v := (2 : Int32)) hx hb dL_law_756 (by decide) ?_
  refine lv_iadd hx hb dL_law_757 ?_
  refine fb_tI (v := (2 : Int32)) (by decide) ?_
  refine va_sld (i := (2 : Int32)) hx hb hX hbl hbA I.2.2 (fb_inC (n := 2) (by decide) (by decide) (by omega)) dL_law_758 ?_
  refine fb_tI (v := (xs 2)) rfl ?_
  refine lv_aload_n hx hb dL_law_759 rfl (lv_at hl 1 rfl) ?_
  refine fb_gI (cs := [fb_o11 zb zt zn zv zs zp (zq 0) (zu 0) zh zst zre, fb_jw cJ zx 1 zg]) (rs := [fb_o12 za zr fr_e0]) (fun (t : Unit) => [fb_jw cJ zx 1 zg, fb_o12 za zr fr_e0]) (fun (t : Unit) => [fb_jw cJ zx 1 zg]) X I [0, 1, 2] 3 rfl (by decide +kernel) rfl rfl [0, 1] 2 (fun _ => rfl) (by decide +kernel) (fun _ => rfl) (fun _ => rfl) (fun I => fb_rSW (As := [.ref zb, .int (xs 1), .int (xs 2), .ref zx]) (rest := []) X hl (fb_goodSW fw_1749 fw_1750 fw_190 fw_1751) (c_w_poke_o l D cI cJ zb zt zn zv zs zp zq zu zh zst zre zx zg (xs 1) (xs 2) _ hst gA) rfl rfl (by decide +kernel : fb_hd yL_poke 4) ⟨Nat.le_of_ble_eq_true rfl, Nat.le_of_ble_eq_true rfl⟩ rfl rfl (Nat.le_of_ble_eq_true rfl) ⟨Nat.le_of_ble_eq_true rfl, Nat.le_of_ble_eq_true rfl⟩ dL_law_760 I) ?_
  intro r2 w1 H locs e0 I
  subst e0
  have I : fb_In D (fun q : Nat => s.heap.size ≤ q) s.heap (([fb_jw cJ zx 1 zg, fb_o12 za zr fr_e0] : List va_W).flatten) H locs := I
  refine lv_istore (lv' := [(5, .int (1 : Int32)), (4, .int (0 : Int32)), (3, .ref zx), (2, .ref za), (1, .ref zb), (0, .ref b)]) hx hb dL_law_763 hl (by decide) rfl (fun ls hl => ?_)
  refine lv_aload_n hx hb dL_law_765 rfl (lv_at hl 3 rfl) ?_
  refine lv_aload_n hx hb dL_law_766 rfl (lv_at hl 5 rfl) ?_
  refine lv_iload hx hb dL_law_767 (lv_at hl 1 rfl) ?_
  refine lv_iconst (v := (1 : Int32)) hx hb dL_law_769 (by decide) ?_
  refine lv_iadd hx hb dL_law_770 ?_
  refine fb_tI (v := (1 : Int32)) (by decide) ?_
  refine va_sld (i := (1 : Int32)) hx hb hX hbl hbA I.2.2 (fb_inC (n := 1) (by decide) (by decide) (by omega)) dL_law_771 ?_
  refine fb_tI (v := (xs 1)) rfl ?_
  refine lv_aload_n hx hb dL_law_772 rfl (lv_at hl 5 rfl) ?_
  refine lv_iload hx hb dL_law_773 (lv_at hl 1 rfl) ?_
  refine lv_iconst (v := (2 : Int32)) hx hb dL_law_775 (by decide) ?_
  refine lv_iadd hx hb dL_law_776 ?_
  refine fb_tI (v := (2 : Int32)) (by decide) ?_
  refine va_sld (i := (2 : Int32)) hx hb hX hbl hbA I.2.2 (fb_inC (n := 2) (by decide) (by decide) (by omega)) dL_law_777 ?_
  refine fb_tI (v := (xs 2)) rfl ?_
  refine fb_gI (cs := [fb_o12 za zr fr_e0]) (rs := [fb_jw cJ zx 1 zg]) (fun (t : Unit) => [fb_jw cJ zx 1 zg, fb_o12 za zr (upd (upd fr_e0 19 (0 : Int32)) 19 (1 : Int32))]) (fun (t : Unit) => [fb_o12 za zr (upd (upd fr_e0 19 (0 : Int32)) 19 (1 : Int32))]) X I [1, 0] 2 rfl (by decide +kernel) rfl rfl [1, 0] 2 (fun _ => rfl) (by decide +kernel) (fun _ => rfl) (fun _ => rfl) (fun I => fb_rV (As := [.int (xs 1), .int (xs 2)]) (rest := []) X hl (fb_goodV fw_2390 fw_2391 fw_2392 fw_204 fw_2393) (c_poke_out l D cI cJ za zr (xs 1) (xs 2) _ q1) rfl rfl rfl (by decide +kernel : fb_hd yX12_poke 2) ⟨Nat.le_of_ble_eq_true rfl, Nat.le_of_ble_eq_true rfl⟩ rfl rfl rfl rfl rfl (Nat.le_of_ble_eq_true rfl) ⟨Nat.le_of_ble_eq_true rfl, Nat.le_of_ble_eq_true rfl⟩ dL_law_778 I) ?_
  intro r4 w3 H locs e0 I
  subst e0
  have I : fb_In D (fun q : Nat => s.heap.size ≤ q) s.heap (([fb_jw cJ zx 1 zg, fb_o12 za zr (upd (upd fr_e0 19 (0 : Int32)) 19 (1 : Int32))] : List va_W).flatten) H locs := I
  refine lv_istore (lv' := [(6, .int (0 : Int32)), (5, .int (1 : Int32)), (4, .int (0 : Int32)), (3, .ref zx), (2, .ref za), (1, .ref zb), (0, .ref b)]) hx hb dL_law_781 hl (by decide) rfl (fun ls hl => ?_)
  refine lv_aload_n hx hb dL_law_783 rfl (lv_at hl 4 rfl) ?_
  refine fb_gO (cs := [fb_o12 za zr (upd (upd fr_e0 19 (0 : Int32)) 19 (1 : Int32))]) (rs := [fb_jw cJ zx 1 zg]) X I [1, 0] 2 rfl (by decide +kernel) rfl rfl (fun I => fb_rV (As := []) (rest := []) X hl (fb_goodV fw_2119 fw_2120 fw_2121 fw_204 fw_2122) (c_thrown l D cI cJ za zr (upd (upd fr_e0 19 (0 : Int32)) 19 (1 : Int32)) _ ) rfl rfl rfl (by decide +kernel : fb_hd yX12_thrown 0) ⟨Nat.le_of_ble_eq_true rfl, Nat.le_of_ble_eq_true rfl⟩ rfl rfl rfl rfl rfl (Nat.le_of_ble_eq_true rfl) ⟨Nat.le_of_ble_eq_true rfl, Nat.le_of_ble_eq_true rfl⟩ dL_law_784 I) ?_
  refine fb_tI (v := (1 : Int32)) rfl ?_
  refine lv_iload hx hb dL_law_787 (lv_at hl 1 rfl) ?_
  refine lv_icmp_eq (tgt := 794) hx hb dL_law_789 (by decide) (fun _ => ?_) (fun c5 => absurd rfl c5)
  refine lv_iload hx hb dL_law_794 (lv_at hl 1 rfl) ?_
  refine lv_if_ne (tgt := 811) hx hb dL_law_796 (by decide) (fun _ => ?_) (fun c6 => absurd c6 (by decide))
  refine lv_goto (tgt := 2336) hx hb dL_law_811 (by decide) ?_
  exact lw_end X hX hbl hbA (by omega) I (lv_sub hl [2, 6] rfl) (Nat.le_of_ble_eq_true rfl) (Nat.le_of_ble_eq_true rfl)

set_option maxHeartbeats 4000000 in
set_option maxRecDepth 100000 in
theorem lc_12_p {p : Program} {l : Launch} {e : Env} {s : State} {m : MethodId} {below : List Frame} {meth : Method} {c : Code} {H : Heap} {locs : List Loc} {ls : Array Slot} {D : va_G} {cI cJ : ClassId} {b L : Nat} {xs : Nat → Int32} {zb : Nat} {zt : Nat} {zn : Nat} {zv : Nat} {zs : Nat} {zp : Nat} {zq : Nat → Nat} {zu : Nat → Nat} {zh : Nat} {zst : Nat} {zre : Nat} {zx : Nat} {zg : Nat → Int64} {za : Nat} {zr : Nat → Nat} {zj : Nat} (hst : l.stackTraces = false) (X : fb_Bx p s m #[Value.ref b] meth c cL_law RL 9 (some .boolean) D (fb_ty D cI cJ) (fun q : Nat => s.heap.size ≤ q)) (hX : va_X b L xs s s.heap) (hbl : b < s.heap.size) (hbA : ¬ (fun q : Nat => s.heap.size ≤ q) b) (hL6 : L = 6) (hz : xs 1 = nI zj) (hj : 1792 ≤ zj ∧ zj < 2048) (gA0 : f_X11_isNoAddress (nI zj) = (0 : Int32)) (gP : f_X11_isPort (nI zj) = (1 : Int32)) (I : fb_In D (fun q : Nat => s.heap.size ≤ q) s.heap (([fb_o11 zb zt zn zv zs zp (zq 0) (zu 0) zh zst zre, fb_jw cJ zx 1 zg, fb_o12 za zr fr_e0] : List va_W).flatten) H locs) (hl : lv_has ls 9 [(4, .int (0 : Int32)), (3, .ref zx), (2, .ref za), (1, .ref zb), (0, .ref b)]) : W p l e room_1 s m #[Value.ref b] below meth c H locs 209 179241 (lw_Z below #[Value.ref b] s) (F0 m 746 ls []) := by
  obtain ⟨hx, hb, hr, hml, hown, hts, hlk, hA, hK, hF⟩ := id X
  refine lv_aload_n hx hb dL_law_746 rfl (lv_at hl 3 rfl) ?_
  refine lv_aload_n hx hb dL_law_747 rfl (lv_at hl 4 rfl) ?_
  refine lv_iload hx hb dL_law_748 (lv_at hl 0 rfl) ?_
  refine lv_iconst (v := (1 : Int32)) hx hb dL_law_750 (by decide) ?_
  refine lv_iadd hx hb dL_law_751 ?_
  refine fb_tI (v := (1 : Int32)) (by decide) ?_
  refine va_sld (i := (1 : Int32)) hx hb hX hbl hbA I.2.2 (fb_inC (n := 1) (by decide) (by decide) (by omega)) dL_law_752 ?_
  refine fb_tI (v := (xs 1)) rfl ?_
  refine fb_tI (v := (nI zj)) hz ?_
  refine lv_aload_n hx hb dL_law_753 rfl (lv_at hl 4 rfl) ?_
  refine lv_iload hx hb dL_law_754 (lv_at hl 0 rfl) ?_
  refine lv_iconst (v := (2 : Int32)) hx hb dL_law_756 (by decide) ?_
  refine lv_iadd hx hb dL_law_757 ?_
  refine fb_tI (v := (2 : Int32)) (by decide) ?_
  refine va_sld (i := (2 : Int32)) hx hb hX hbl hbA I.2.2 (fb_inC (n := 2) (by decide) (by decide) (by omega)) dL_law_758 ?_
  refine fb_tI (v := (xs 2)) rfl ?_
  refine lv_aload_n hx hb dL_law_759 rfl (lv_at hl 1 rfl) ?_
  refine fb_gI (cs := [fb_o11 zb zt zn zv zs zp (zq 0) (zu 0) zh zst zre, fb_jw cJ zx 1 zg]) (rs := [fb_o12 za zr fr_e0]) (fun (t : Unit) => [fb_jw cJ zx 1 zg, fb_o12 za zr fr_e0]) (fun (t : Unit) => [fb_jw cJ zx 1 zg]) X I [0, 1, 2] 3 rfl (by decide +kernel) rfl rfl [0, 1] 2 (fun _ => rfl) (by decide +kernel) (fun _ => rfl) (fun _ => rfl) (fun I => fb_rSW (As := [.ref zb, .int (nI zj), .int (xs 2), .ref zx]) (rest := []) X hl (fb_goodSW fw_1749 fw_1750 fw_190 fw_1751) (c_w_poke_p l D cI cJ zb zt zn zv zs zp zq zu zh zst zre zx zg (nI zj) (xs 2) _ hst gA0 gP) rfl rfl (by decide +kernel : fb_hd yL_poke 4) ⟨Nat.le_of_ble_eq_true rfl, Nat.le_of_ble_eq_true rfl⟩ rfl rfl (Nat.le_of_ble_eq_true rfl) ⟨Nat.le_of_ble_eq_true rfl, Nat.le_of_ble_eq_true rfl⟩ dL_law_760 I) ?_
  intro r2 w1 H locs e0 I
  subst e0
  have I : fb_In D (fun q : Nat => s.heap.size ≤ q) s.heap (([fb_jw cJ zx 1 zg, fb_o12 za zr fr_e0] : List va_W).flatten) H locs := I
  refine lv_istore (lv' := [(5, .int (1 : Int32)), (4, .int (0 : Int32)), (3, .ref zx), (2, .ref za), (1, .ref zb), (0, .ref b)]) hx hb dL_law_763 hl (by decide) rfl (fun ls hl => ?_)
  refine lv_aload_n hx hb dL_law_765 rfl (lv_at hl 3 rfl) ?_
  refine lv_aload_n hx hb dL_law_766 rfl (lv_at hl 5 rfl) ?_
  refine lv_iload hx hb dL_law_767 (lv_at hl 1 rfl) ?_
  refine lv_iconst (v := (1 : Int32)) hx hb dL_law_769 (by decide) ?_
  refine lv_iadd hx hb dL_law_770 ?_
  refine fb_tI (v := (1 : Int32)) (by decide) ?_
  refine va_sld (i := (1 : Int32)) hx hb hX hbl hbA I.2.2 (fb_inC (n := 1) (by decide) (by decide) (by omega)) dL_law_771 ?_
  refine fb_tI (v := (xs 1)) rfl ?_
  refine fb_tI (v := (nI zj)) hz ?_
  refine lv_aload_n hx hb dL_law_772 rfl (lv_at hl 5 rfl) ?_
  refine lv_iload hx hb dL_law_773 (lv_at hl 1 rfl) ?_
  refine lv_iconst (v := (2 : Int32)) hx hb dL_law_775 (by decide) ?_
  refine lv_iadd hx hb dL_law_776 ?_
  refine fb_tI (v := (2 : Int32)) (by decide) ?_
  refine va_sld (i := (2 : Int32)) hx hb hX hbl hbA I.2.2 (fb_inC (n := 2) (by decide) (by decide) (by omega)) dL_law_777 ?_
  refine fb_tI (v := (xs 2)) rfl ?_
  refine fb_gI (cs := [fb_o12 za zr fr_e0]) (rs := [fb_jw cJ zx 1 zg]) (fun (t : Unit) => [fb_jw cJ zx 1 zg, fb_o12 za zr (upd (upd fr_e0 19 (0 : Int32)) 19 (1 : Int32))]) (fun (t : Unit) => [fb_o12 za zr (upd (upd fr_e0 19 (0 : Int32)) 19 (1 : Int32))]) X I [1, 0] 2 rfl (by decide +kernel) rfl rfl [1, 0] 2 (fun _ => rfl) (by decide +kernel) (fun _ => rfl) (fun _ => rfl) (fun I => fb_rV (As := [.int (nI zj), .int (xs 2)]) (rest := []) X hl (fb_goodV fw_2390 fw_2391 fw_2392 fw_204 fw_2393) (c_poke_port l D cI cJ za zr zj (xs 2) _ (by omega)) rfl rfl rfl (by decide +kernel : fb_hd yX12_poke 2) ⟨Nat.le_of_ble_eq_true rfl, Nat.le_of_ble_eq_true rfl⟩ rfl rfl rfl rfl rfl (Nat.le_of_ble_eq_true rfl) ⟨Nat.le_of_ble_eq_true rfl, Nat.le_of_ble_eq_true rfl⟩ dL_law_778 I) ?_
  intro r4 w3 H locs e0 I
  subst e0
  have I : fb_In D (fun q : Nat => s.heap.size ≤ q) s.heap (([fb_jw cJ zx 1 zg, fb_o12 za zr (upd (upd fr_e0 19 (0 : Int32)) 19 (1 : Int32))] : List va_W).flatten) H locs := I
  refine lv_istore (lv' := [(6, .int (0 : Int32)), (5, .int (1 : Int32)), (4, .int (0 : Int32)), (3, .ref zx), (2, .ref za), (1, .ref zb), (0, .ref b)]) hx hb dL_law_781 hl (by decide) rfl (fun ls hl => ?_)
  refine lv_aload_n hx hb dL_law_783 rfl (lv_at hl 4 rfl) ?_
  refine fb_gO (cs := [fb_o12 za zr (upd (upd fr_e0 19 (0 : Int32)) 19 (1 : Int32))]) (rs := [fb_jw cJ zx 1 zg]) X I [1, 0] 2 rfl (by decide +kernel) rfl rfl (fun I => fb_rV (As := []) (rest := []) X hl (fb_goodV fw_2119 fw_2120 fw_2121 fw_204 fw_2122) (c_thrown l D cI cJ za zr (upd (upd fr_e0 19 (0 : Int32)) 19 (1 : Int32)) _ ) rfl rfl rfl (by decide +kernel : fb_hd yX12_thrown 0) ⟨Nat.le_of_ble_eq_true rfl, Nat.le_of_ble_eq_true rfl⟩ rfl rfl rfl rfl rfl (Nat.le_of_ble_eq_true rfl) ⟨Nat.le_of_ble_eq_true rfl, Nat.le_of_ble_eq_true rfl⟩ dL_law_784 I) ?_
  refine fb_tI (v := (1 : Int32)) rfl ?_
  refine lv_iload hx hb dL_law_787 (lv_at hl 1 rfl) ?_
  refine lv_icmp_eq (tgt := 794) hx hb dL_law_789 (by decide) (fun _ => ?_) (fun c5 => absurd rfl c5)
  refine lv_iload hx hb dL_law_794 (lv_at hl 1 rfl) ?_
  refine lv_if_ne (tgt := 811) hx hb dL_law_796 (by decide) (fun _ => ?_) (fun c6 => absurd c6 (by decide))
  refine lv_goto (tgt := 2336) hx hb dL_law_811 (by decide) ?_
  exact lw_end X hX hbl hbA (by omega) I (lv_sub hl [2, 6] rfl) (Nat.le_of_ble_eq_true rfl) (Nat.le_of_ble_eq_true rfl)

set_option maxHeartbeats 4000000 in
set_option maxRecDepth 100000 in
theorem lc_12_b {p : Program} {l : Launch} {e : Env} {s : State} {m : MethodId} {below : List Frame} {meth : Method} {c : Code} {H : Heap} {locs : List Loc} {ls : Array Slot} {D : va_G} {cI cJ : ClassId} {b L : Nat} {xs : Nat → Int32} {zb : Nat} {zt : Nat} {zn : Nat} {zv : Nat} {zs : Nat} {zp : Nat} {zq : Nat → Nat} {zu : Nat → Nat} {zh : Nat} {zst : Nat} {zre : Nat} {zx : Nat} {zg : Nat → Int64} {za : Nat} {zr : Nat → Nat} {zj : Nat} (hst : l.stackTraces = false) (X : fb_Bx p s m #[Value.ref b] meth c cL_law RL 9 (some .boolean) D (fb_ty D cI cJ) (fun q : Nat => s.heap.size ≤ q)) (hX : va_X b L xs s s.heap) (hbl : b < s.heap.size) (hbA : ¬ (fun q : Nat => s.heap.size ≤ q) b) (hL6 : L = 6) (hz : xs 1 = nI zj) (hj : zj < 1792 ∨ (2048 ≤ zj ∧ zj < 4096)) (gA0 : f_X11_isNoAddress (nI zj) = (0 : Int32)) (gP : f_X11_isPort (nI zj) = (0 : Int32)) (gA : f_X11_isNoByte (xs 2) = (1 : Int32)) (q1 : f_X12_isIn (xs 2) (0 : Int32) (255 : Int32) = (0 : Int32)) (I : fb_In D (fun q : Nat => s.heap.size ≤ q) s.heap (([fb_o11 zb zt zn zv zs zp (zq 0) (zu 0) zh zst zre, fb_jw cJ zx 1 zg, fb_o12 za zr fr_e0] : List va_W).flatten) H locs) (hl : lv_has ls 9 [(4, .int (0 : Int32)), (3, .ref zx), (2, .ref za), (1, .ref zb), (0, .ref b)]) : W p l e room_1 s m #[Value.ref b] below meth c H locs 209 179241 (lw_Z below #[Value.ref b] s) (F0 m 746 ls []) := by
  obtain ⟨hx, hb, hr, hml, hown, hts, hlk, hA, hK, hF⟩ := id X
  refine lv_aload_n hx hb dL_law_746 rfl (lv_at hl 3 rfl) ?_
  refine lv_aload_n hx hb dL_law_747 rfl (lv_at hl 4 rfl) ?_
  refine lv_iload hx hb dL_law_748 (lv_at hl 0 rfl) ?_
  refine lv_iconst (v := (1 : Int32)) hx hb dL_law_750 (by decide) ?_
  refine lv_iadd hx hb dL_law_751 ?_
  refine fb_tI (v := (1 : Int32)) (by decide) ?_
  refine va_sld (i := (1 : Int32)) hx hb hX hbl hbA I.2.2 (fb_inC (n := 1) (by decide) (by decide) (by omega)) dL_law_752 ?_
  refine fb_tI (v := (xs 1)) rfl ?_
  refine fb_tI (v := (nI zj)) hz ?_
  refine lv_aload_n hx hb dL_law_753 rfl (lv_at hl 4 rfl) ?_
  refine lv_iload hx hb dL_law_754 (lv_at hl 0 rfl) ?_
  refine lv_iconst (v := (2 : Int32)) hx hb dL_law_756 (by decide) ?_
  refine lv_iadd hx hb dL_law_757 ?_
  refine fb_tI (v := (2 : Int32)) (by decide) ?_
  refine va_sld (i := (2 : Int32)) hx hb hX hbl hbA I.2.2 (fb_inC (n := 2) (by decide) (by decide) (by omega)) dL_law_758 ?_
  refine fb_tI (v := (xs 2)) rfl ?_
  refine lv_aload_n hx hb dL_law_759 rfl (lv_at hl 1 rfl) ?_
  refine fb_gI (cs := [fb_o11 zb zt zn zv zs zp (zq 0) (zu 0) zh zst zre, fb_jw cJ zx 1 zg]) (rs := [fb_o12 za zr fr_e0]) (fun (t : Unit) => [fb_jw cJ zx 1 zg, fb_o12 za zr fr_e0]) (fun (t : Unit) => [fb_jw cJ zx 1 zg]) X I [0, 1, 2] 3 rfl (by decide +kernel) rfl rfl [0, 1] 2 (fun _ => rfl) (by decide +kernel) (fun _ => rfl) (fun _ => rfl) (fun I => fb_rSW (As := [.ref zb, .int (nI zj), .int (xs 2), .ref zx]) (rest := []) X hl (fb_goodSW fw_1749 fw_1750 fw_190 fw_1751) (c_w_poke_b l D cI cJ zb zt zn zv zs zp zq zu zh zst zre zx zg (nI zj) (xs 2) _ hst gA0 gP gA) rfl rfl (by decide +kernel : fb_hd yL_poke 4) ⟨Nat.le_of_ble_eq_true rfl, Nat.le_of_ble_eq_true rfl⟩ rfl rfl (Nat.le_of_ble_eq_true rfl) ⟨Nat.le_of_ble_eq_true rfl, Nat.le_of_ble_eq_true rfl⟩ dL_law_760 I) ?_
  intro r2 w1 H locs e0 I
  subst e0
  have I : fb_In D (fun q : Nat => s.heap.size ≤ q) s.heap (([fb_jw cJ zx 1 zg, fb_o12 za zr fr_e0] : List va_W).flatten) H locs := I
  refine lv_istore (lv' := [(5, .int (1 : Int32)), (4, .int (0 : Int32)), (3, .ref zx), (2, .ref za), (1, .ref zb), (0, .ref b)]) hx hb dL_law_763 hl (by decide) rfl (fun ls hl => ?_)
  refine lv_aload_n hx hb dL_law_765 rfl (lv_at hl 3 rfl) ?_
  refine lv_aload_n hx hb dL_law_766 rfl (lv_at hl 5 rfl) ?_
  refine lv_iload hx hb dL_law_767 (lv_at hl 1 rfl) ?_
  refine lv_iconst (v := (1 : Int32)) hx hb dL_law_769 (by decide) ?_
  refine lv_iadd hx hb dL_law_770 ?_
  refine fb_tI (v := (1 : Int32)) (by decide) ?_
  refine va_sld (i := (1 : Int32)) hx hb hX hbl hbA I.2.2 (fb_inC (n := 1) (by decide) (by decide) (by omega)) dL_law_771 ?_
  refine fb_tI (v := (xs 1)) rfl ?_
  refine fb_tI (v := (nI zj)) hz ?_
  refine lv_aload_n hx hb dL_law_772 rfl (lv_at hl 5 rfl) ?_
  refine lv_iload hx hb dL_law_773 (lv_at hl 1 rfl) ?_
  refine lv_iconst (v := (2 : Int32)) hx hb dL_law_775 (by decide) ?_
  refine lv_iadd hx hb dL_law_776 ?_
  refine fb_tI (v := (2 : Int32)) (by decide) ?_
  refine va_sld (i := (2 : Int32)) hx hb hX hbl hbA I.2.2 (fb_inC (n := 2) (by decide) (by decide) (by omega)) dL_law_777 ?_
  refine fb_tI (v := (xs 2)) rfl ?_
  refine fb_gI (cs := [fb_o12 za zr fr_e0]) (rs := [fb_jw cJ zx 1 zg]) (fun (t : Unit) => [fb_jw cJ zx 1 zg, fb_o12 za zr (upd (upd fr_e0 19 (0 : Int32)) 19 (1 : Int32))]) (fun (t : Unit) => [fb_o12 za zr (upd (upd fr_e0 19 (0 : Int32)) 19 (1 : Int32))]) X I [1, 0] 2 rfl (by decide +kernel) rfl rfl [1, 0] 2 (fun _ => rfl) (by decide +kernel) (fun _ => rfl) (fun _ => rfl) (fun I => fb_rV (As := [.int (nI zj), .int (xs 2)]) (rest := []) X hl (fb_goodV fw_2390 fw_2391 fw_2392 fw_204 fw_2393) (c_poke_bad l D cI cJ za zr zj (xs 2) _ (by omega) q1) rfl rfl rfl (by decide +kernel : fb_hd yX12_poke 2) ⟨Nat.le_of_ble_eq_true rfl, Nat.le_of_ble_eq_true rfl⟩ rfl rfl rfl rfl rfl (Nat.le_of_ble_eq_true rfl) ⟨Nat.le_of_ble_eq_true rfl, Nat.le_of_ble_eq_true rfl⟩ dL_law_778 I) ?_
  intro r4 w3 H locs e0 I
  subst e0
  have I : fb_In D (fun q : Nat => s.heap.size ≤ q) s.heap (([fb_jw cJ zx 1 zg, fb_o12 za zr (upd (upd fr_e0 19 (0 : Int32)) 19 (1 : Int32))] : List va_W).flatten) H locs := I
  refine lv_istore (lv' := [(6, .int (0 : Int32)), (5, .int (1 : Int32)), (4, .int (0 : Int32)), (3, .ref zx), (2, .ref za), (1, .ref zb), (0, .ref b)]) hx hb dL_law_781 hl (by decide) rfl (fun ls hl => ?_)
  refine lv_aload_n hx hb dL_law_783 rfl (lv_at hl 4 rfl) ?_
  refine fb_gO (cs := [fb_o12 za zr (upd (upd fr_e0 19 (0 : Int32)) 19 (1 : Int32))]) (rs := [fb_jw cJ zx 1 zg]) X I [1, 0] 2 rfl (by decide +kernel) rfl rfl (fun I => fb_rV (As := []) (rest := []) X hl (fb_goodV fw_2119 fw_2120 fw_2121 fw_204 fw_2122) (c_thrown l D cI cJ za zr (upd (upd fr_e0 19 (0 : Int32)) 19 (1 : Int32)) _ ) rfl rfl rfl (by decide +kernel : fb_hd yX12_thrown 0) ⟨Nat.le_of_ble_eq_true rfl, Nat.le_of_ble_eq_true rfl⟩ rfl rfl rfl rfl rfl (Nat.le_of_ble_eq_true rfl) ⟨Nat.le_of_ble_eq_true rfl, Nat.le_of_ble_eq_true rfl⟩ dL_law_784 I) ?_
  refine fb_tI (v := (1 : Int32)) rfl ?_
  refine lv_iload hx hb dL_law_787 (lv_at hl 1 rfl) ?_
  refine lv_icmp_eq (tgt := 794) hx hb dL_law_789 (by decide) (fun _ => ?_) (fun c5 => absurd rfl c5)
  refine lv_iload hx hb dL_law_794 (lv_at hl 1 rfl) ?_
  refine lv_if_ne (tgt := 811) hx hb dL_law_796 (by decide) (fun _ => ?_) (fun c6 => absurd c6 (by decide))
  refine lv_goto (tgt := 2336) hx hb dL_law_811 (by decide) ?_
  exact lw_end X hX hbl hbA (by omega) I (lv_sub hl [2, 6] rfl) (Nat.le_of_ble_eq_true rfl) (Nat.le_of_ble_eq_true rfl)

set_option maxHeartbeats 4000000 in
set_option maxRecDepth 100000 in
theorem lc_12_i1 {p : Program} {l : Launch} {e : Env} {s : State} {m : MethodId} {below : List Frame} {meth : Method} {c : Code} {H : Heap} {locs : List Loc} {ls : Array Slot} {D : va_G} {cI cJ : ClassId} {b L : Nat} {xs : Nat → Int32} {zb : Nat} {zt : Nat} {zn : Nat} {zv : Nat} {zs : Nat} {zp : Nat} {zq : Nat → Nat} {zu : Nat → Nat} {zh : Nat} {zst : Nat} {zre : Nat} {zw : fb_AR} {zo : Nat → Nat} {zi : Nat → Nat} {zx : Nat} {zg : Nat → Int64} {za : Nat} {zr : Nat → Nat} {zj : Nat} {zv9 : Nat} (hst : l.stackTraces = false) (X : fb_Bx p s m #[Value.ref b] meth c cL_law RL 9 (some .boolean) D (fb_ty D cI cJ) (fun q : Nat => s.heap.size ≤ q)) (hX : va_X b L xs s s.heap) (hbl : b < s.heap.size) (hbA : ¬ (fun q : Nat => s.heap.size ≤ q) b) (hL6 : L = 6) (hz : xs 1 = nI zj) (hw : xs 2 = nI zv9) (hj : zj < 1792) (hv : zv9 ≤ 255) (I : fb_In D (fun q : Nat => s.heap.size ≤ q) s.heap (([fb_o11 zb zt zn zv zs zp (zq 0) (zu 0) zh zst zre, fb_mw cI zq fb_s0 zw, fb_o0 zh (zo 0) (zi 0) fb_h0, fb_jw cJ zx 1 zg, fb_o12 za zr fr_e0, fb_aw cI (zr 0) 16205 (fr_m (fun _ => 0) 0)] : List va_W).flatten) H locs) (hl : lv_has ls 9 [(4, .int (0 : Int32)), (3, .ref zx), (2, .ref za), (1, .ref zb), (0, .ref b)]) : W p l e room_1 s m #[Value.ref b] below meth c H locs 209 179241 (lw_Z below #[Value.ref b] s) (F0 m 746 ls []) := by
  obtain ⟨hx, hb, hr, hml, hown, hts, hlk, hA, hK, hF⟩ := id X
  refine lv_aload_n hx hb dL_law_746 rfl (lv_at hl 3 rfl) ?_
  refine lv_aload_n hx hb dL_law_747 rfl (lv_at hl 4 rfl) ?_
  refine lv_iload hx hb dL_law_748 (lv_at hl 0 rfl) ?_
  refine lv_iconst (v := (1 : Int32)) hx hb dL_law_750 (by decide) ?_
  refine lv_iadd hx hb dL_law_751 ?_
  refine fb_tI (v := (1 : Int32)) (by decide) ?_
  refine va_sld (i := (1 : Int32)) hx hb hX hbl hbA I.2.2 (fb_inC (n := 1) (by decide) (by decide) (by omega)) dL_law_752 ?_
  refine fb_tI (v := (xs 1)) rfl ?_
  refine fb_tI (v := (nI zj)) hz ?_
  refine lv_aload_n hx hb dL_law_753 rfl (lv_at hl 4 rfl) ?_
  refine lv_iload hx hb dL_law_754 (lv_at hl 0 rfl) ?_
  refine lv_iconst (v := (2 : Int32)) hx hb dL_law_756 (by decide) ?_
  refine lv_iadd hx hb dL_law_757 ?_
  refine fb_tI (v := (2 : Int32)) (by decide) ?_
  refine va_sld (i := (2 : Int32)) hx hb hX hbl hbA I.2.2 (fb_inC (n := 2) (by decide) (by decide) (by omega)) dL_law_758 ?_
  refine fb_tI (v := (xs 2)) rfl ?_
  refine fb_tI (v := (nI zv9)) hw ?_
  refine lv_aload_n hx hb dL_law_759 rfl (lv_at hl 1 rfl) ?_
  refine fb_gI (cs := [fb_o11 zb zt zn zv zs zp (zq 0) (zu 0) zh zst zre, fb_mw cI zq fb_s0 zw, fb_o0 zh (zo 0) (zi 0) fb_h0, fb_jw cJ zx 1 zg]) (rs := [fb_o12 za zr fr_e0, fb_aw cI (zr 0) 16205 (fr_m (fun _ => 0) 0)]) (fun (t : Unit) => [fb_jw cJ zx 1 (vp_updL zg 0 (((0 : Int32)).toInt64)), fb_o12 za zr fr_e0, fb_aw cI (zr 0) 16205 (fr_m (fun _ => 0) 0)]) (fun (t : Unit) => [fb_jw cJ zx 1 (vp_updL zg 0 (((0 : Int32)).toInt64))]) X I [0, 1, 2, 3, 4, 5] 6 rfl (by decide +kernel) rfl rfl [0, 1, 2] 3 (fun _ => rfl) (by decide +kernel) (fun _ => rfl) (fun _ => rfl) (fun I => fb_rSW (As := [.ref zb, .int (nI zj), .int (nI zv9), .ref zx]) (rest := []) X hl (fb_goodSW fw_1749 fw_1750 fw_190 fw_1751) (c_w_poke_in l D cI cJ zb zt zn zv zs zp zq zu zh zst zre zw zo zi zx zg zj zv9 _ hst (by omega) (by omega)) rfl rfl (by decide +kernel : fb_hd yL_poke 4) ⟨Nat.le_of_ble_eq_true rfl, Nat.le_of_ble_eq_true rfl⟩ rfl rfl (Nat.le_of_ble_eq_true rfl) ⟨Nat.le_of_ble_eq_true rfl, Nat.le_of_ble_eq_true rfl⟩ dL_law_760 I) ?_
  intro r2 w1 H locs e0 I
  subst e0
  have I : fb_In D (fun q : Nat => s.heap.size ≤ q) s.heap (([fb_jw cJ zx 1 (vp_updL zg 0 (((0 : Int32)).toInt64)), fb_o12 za zr fr_e0, fb_aw cI (zr 0) 16205 (fr_m (fun _ => 0) 0)] : List va_W).flatten) H locs := I
  refine lv_istore (lv' := [(5, .int (0 : Int32)), (4, .int (0 : Int32)), (3, .ref zx), (2, .ref za), (1, .ref zb), (0, .ref b)]) hx hb dL_law_763 hl (by decide) rfl (fun ls hl => ?_)
  refine lv_aload_n hx hb dL_law_765 rfl (lv_at hl 3 rfl) ?_
  refine lv_aload_n hx hb dL_law_766 rfl (lv_at hl 5 rfl) ?_
  refine lv_iload hx hb dL_law_767 (lv_at hl 1 rfl) ?_
  refine lv_iconst (v := (1 : Int32)) hx hb dL_law_769 (by decide) ?_
  refine lv_iadd hx hb dL_law_770 ?_
  refine fb_tI (v := (1 : Int32)) (by decide) ?_
  refine va_sld (i := (1 : Int32)) hx hb hX hbl hbA I.2.2 (fb_inC (n := 1) (by decide) (by decide) (by omega)) dL_law_771 ?_
  refine fb_tI (v := (xs 1)) rfl ?_
  refine fb_tI (v := (nI zj)) hz ?_
  refine lv_aload_n hx hb dL_law_772 rfl (lv_at hl 5 rfl) ?_
  refine lv_iload hx hb dL_law_773 (lv_at hl 1 rfl) ?_
  refine lv_iconst (v := (2 : Int32)) hx hb dL_law_775 (by decide) ?_
  refine lv_iadd hx hb dL_law_776 ?_
  refine fb_tI (v := (2 : Int32)) (by decide) ?_
  refine va_sld (i := (2 : Int32)) hx hb hX hbl hbA I.2.2 (fb_inC (n := 2) (by decide) (by decide) (by omega)) dL_law_777 ?_
  refine fb_tI (v := (xs 2)) rfl ?_
  refine fb_tI (v := (nI zv9)) hw ?_
  refine fb_gI (cs := [fb_o12 za zr fr_e0, fb_aw cI (zr 0) 16205 (fr_m (fun _ => 0) 0)]) (rs := [fb_jw cJ zx 1 (vp_updL zg 0 (((0 : Int32)).toInt64))]) (fun (t : Unit) => [fb_jw cJ zx 1 (vp_updL zg 0 (((0 : Int32)).toInt64)), fb_o12 za zr (upd (upd fr_e0 19 (0 : Int32)) 2 (0 : Int32)), fb_aw cI (zr 0) 16205 (upd (fr_m (fun _ => 0) 0) (1101 + zj) (nI zv9))]) (fun (t : Unit) => [fb_o12 za zr (upd (upd fr_e0 19 (0 : Int32)) 2 (0 : Int32)), fb_aw cI (zr 0) 16205 (upd (fr_m (fun _ => 0) 0) (1101 + zj) (nI zv9))]) X I [1, 2, 0] 3 rfl (by decide +kernel) rfl rfl [1, 2, 0] 3 (fun _ => rfl) (by decide +kernel) (fun _ => rfl) (fun _ => rfl) (fun I => fb_rV (As := [.int (nI zj), .int (nI zv9)]) (rest := []) X hl (fb_goodV fw_2390 fw_2391 fw_2392 fw_204 fw_2393) (c_poke_1 l D cI cJ za zr zj (nI zv9) _ (by omega) (fr_inN (z := zv9) (a := 0) (b := 255) (by omega) (by omega) (by omega))) rfl rfl rfl (by decide +kernel : fb_hd yX12_poke 2) ⟨Nat.le_of_ble_eq_true rfl, Nat.le_of_ble_eq_true rfl⟩ rfl rfl rfl rfl rfl (Nat.le_of_ble_eq_true rfl) ⟨Nat.le_of_ble_eq_true rfl, Nat.le_of_ble_eq_true rfl⟩ dL_law_778 I) ?_
  intro r4 w3 H locs e0 I
  subst e0
  have I : fb_In D (fun q : Nat => s.heap.size ≤ q) s.heap (([fb_jw cJ zx 1 (vp_updL zg 0 (((0 : Int32)).toInt64)), fb_o12 za zr (upd (upd fr_e0 19 (0 : Int32)) 2 (0 : Int32)), fb_aw cI (zr 0) 16205 (upd (fr_m (fun _ => 0) 0) (1101 + zj) (nI zv9))] : List va_W).flatten) H locs := I
  refine lv_istore (lv' := [(6, .int (0 : Int32)), (5, .int (0 : Int32)), (4, .int (0 : Int32)), (3, .ref zx), (2, .ref za), (1, .ref zb), (0, .ref b)]) hx hb dL_law_781 hl (by decide) rfl (fun ls hl => ?_)
  refine lv_aload_n hx hb dL_law_783 rfl (lv_at hl 4 rfl) ?_
  refine fb_gO (cs := [fb_o12 za zr (upd (upd fr_e0 19 (0 : Int32)) 2 (0 : Int32))]) (rs := [fb_jw cJ zx 1 (vp_updL zg 0 (((0 : Int32)).toInt64)), fb_aw cI (zr 0) 16205 (upd (fr_m (fun _ => 0) 0) (1101 + zj) (nI zv9))]) X I [1, 0, 2] 3 rfl (by decide +kernel) rfl rfl (fun I => fb_rV (As := []) (rest := []) X hl (fb_goodV fw_2119 fw_2120 fw_2121 fw_204 fw_2122) (c_thrown l D cI cJ za zr (upd (upd fr_e0 19 (0 : Int32)) 2 (0 : Int32)) _ ) rfl rfl rfl (by decide +kernel : fb_hd yX12_thrown 0) ⟨Nat.le_of_ble_eq_true rfl, Nat.le_of_ble_eq_true rfl⟩ rfl rfl rfl rfl rfl (Nat.le_of_ble_eq_true rfl) ⟨Nat.le_of_ble_eq_true rfl, Nat.le_of_ble_eq_true rfl⟩ dL_law_784 I) ?_
  refine fb_tI (v := (0 : Int32)) rfl ?_
  refine lv_iload hx hb dL_law_787 (lv_at hl 1 rfl) ?_
  refine lv_icmp_eq (tgt := 794) hx hb dL_law_789 (by decide) (fun _ => ?_) (fun c5 => absurd rfl c5)
  refine lv_iload hx hb dL_law_794 (lv_at hl 1 rfl) ?_
  refine lv_if_ne (tgt := 811) hx hb dL_law_796 (by decide) (fun c6 => absurd (by decide) c6) (fun _ => ?_)
  refine lv_aload_n hx hb dL_law_799 rfl (lv_at hl 3 rfl) ?_
  refine lv_iconst (v := (0 : Int32)) hx hb dL_law_800 (by decide) ?_
  refine va_lald (i := (0 : Int32)) hx hb hK.1 I.1 0 1 rfl rfl (fb_inC (n := 0) (by decide) (by decide) (Nat.le_of_ble_eq_true rfl)) dL_law_801 ?_
  refine fb_tL (v := (((0 : Int32)).toInt64)) rfl ?_
  refine lv_iload hx hb dL_law_802 (lv_at hl 0 rfl) ?_
  refine lv_i2l (v := (((0 : Int32)).toInt64)) hx hb dL_law_804 rfl ?_
  refine W.lcmp hx hb dL_law_805 ?_
  refine fb_tI (v := (0 : Int32)) (lw_cmp0 _) ?_
  refine lv_if_eq (tgt := 811) hx hb dL_law_806 (by decide) (fun _ => ?_) (fun c7 => absurd (by decide) c7)
  refine lv_goto (tgt := 2336) hx hb dL_law_811 (by decide) ?_
  exact lw_end X hX hbl hbA (by omega) I (lv_sub hl [2, 6] rfl) (Nat.le_of_ble_eq_true rfl) (Nat.le_of_ble_eq_true rfl)

set_option maxHeartbeats 4000000 in
set_option maxRecDepth 100000 in
theorem lc_12_i2 {p : Program} {l : Launch} {e : Env} {s : State} {m : MethodId} {below : List Frame} {meth : Method} {c : Code} {H : Heap} {locs : List Loc} {ls : Array Slot} {D : va_G} {cI cJ : ClassId} {b L : Nat} {xs : Nat → Int32} {zb : Nat} {zt : Nat} {zn : Nat} {zv : Nat} {zs : Nat} {zp : Nat} {zq : Nat → Nat} {zu : Nat → Nat} {zh : Nat} {zst : Nat} {zre : Nat} {zw : fb_AR} {zo : Nat → Nat} {zi : Nat → Nat} {zx : Nat} {zg : Nat → Int64} {za : Nat} {zr : Nat → Nat} {zj : Nat} {zv9 : Nat} (hst : l.stackTraces = false) (X : fb_Bx p s m #[Value.ref b] meth c cL_law RL 9 (some .boolean) D (fb_ty D cI cJ) (fun q : Nat => s.heap.size ≤ q)) (hX : va_X b L xs s s.heap) (hbl : b < s.heap.size) (hbA : ¬ (fun q : Nat => s.heap.size ≤ q) b) (hL6 : L = 6) (hz : xs 1 = nI zj) (hw : xs 2 = nI zv9) (hj : 2048 ≤ zj ∧ zj < 3072) (hv : zv9 ≤ 255) (I : fb_In D (fun q : Nat => s.heap.size ≤ q) s.heap (([fb_o11 zb zt zn zv zs zp (zq 0) (zu 0) zh zst zre, fb_mw cI zq fb_s0 zw, fb_o0 zh (zo 0) (zi 0) fb_h0, fb_jw cJ zx 1 zg, fb_o12 za zr fr_e0, fb_aw cI (zr 0) 16205 (fr_m (fun _ => 0) 0)] : List va_W).flatten) H locs) (hl : lv_has ls 9 [(4, .int (0 : Int32)), (3, .ref zx), (2, .ref za), (1, .ref zb), (0, .ref b)]) : W p l e room_1 s m #[Value.ref b] below meth c H locs 209 179241 (lw_Z below #[Value.ref b] s) (F0 m 746 ls []) := by
  obtain ⟨hx, hb, hr, hml, hown, hts, hlk, hA, hK, hF⟩ := id X
  refine lv_aload_n hx hb dL_law_746 rfl (lv_at hl 3 rfl) ?_
  refine lv_aload_n hx hb dL_law_747 rfl (lv_at hl 4 rfl) ?_
  refine lv_iload hx hb dL_law_748 (lv_at hl 0 rfl) ?_
  refine lv_iconst (v := (1 : Int32)) hx hb dL_law_750 (by decide) ?_
  refine lv_iadd hx hb dL_law_751 ?_
  refine fb_tI (v := (1 : Int32)) (by decide) ?_
  refine va_sld (i := (1 : Int32)) hx hb hX hbl hbA I.2.2 (fb_inC (n := 1) (by decide) (by decide) (by omega)) dL_law_752 ?_
  refine fb_tI (v := (xs 1)) rfl ?_
  refine fb_tI (v := (nI zj)) hz ?_
  refine lv_aload_n hx hb dL_law_753 rfl (lv_at hl 4 rfl) ?_
  refine lv_iload hx hb dL_law_754 (lv_at hl 0 rfl) ?_
  refine lv_iconst (v := (2 : Int32)) hx hb dL_law_756 (by decide) ?_
  refine lv_iadd hx hb dL_law_757 ?_
  refine fb_tI (v := (2 : Int32)) (by decide) ?_
  refine va_sld (i := (2 : Int32)) hx hb hX hbl hbA I.2.2 (fb_inC (n := 2) (by decide) (by decide) (by omega)) dL_law_758 ?_
  refine fb_tI (v := (xs 2)) rfl ?_
  refine fb_tI (v := (nI zv9)) hw ?_
  refine lv_aload_n hx hb dL_law_759 rfl (lv_at hl 1 rfl) ?_
  refine fb_gI (cs := [fb_o11 zb zt zn zv zs zp (zq 0) (zu 0) zh zst zre, fb_mw cI zq fb_s0 zw, fb_o0 zh (zo 0) (zi 0) fb_h0, fb_jw cJ zx 1 zg]) (rs := [fb_o12 za zr fr_e0, fb_aw cI (zr 0) 16205 (fr_m (fun _ => 0) 0)]) (fun (t : Unit) => [fb_jw cJ zx 1 (vp_updL zg 0 (((0 : Int32)).toInt64)), fb_o12 za zr fr_e0, fb_aw cI (zr 0) 16205 (fr_m (fun _ => 0) 0)]) (fun (t : Unit) => [fb_jw cJ zx 1 (vp_updL zg 0 (((0 : Int32)).toInt64))]) X I [0, 1, 2, 3, 4, 5] 6 rfl (by decide +kernel) rfl rfl [0, 1, 2] 3 (fun _ => rfl) (by decide +kernel) (fun _ => rfl) (fun _ => rfl) (fun I => fb_rSW (As := [.ref zb, .int (nI zj), .int (nI zv9), .ref zx]) (rest := []) X hl (fb_goodSW fw_1749 fw_1750 fw_190 fw_1751) (c_w_poke_in l D cI cJ zb zt zn zv zs zp zq zu zh zst zre zw zo zi zx zg zj zv9 _ hst (by omega) (by omega)) rfl rfl (by decide +kernel : fb_hd yL_poke 4) ⟨Nat.le_of_ble_eq_true rfl, Nat.le_of_ble_eq_true rfl⟩ rfl rfl (Nat.le_of_ble_eq_true rfl) ⟨Nat.le_of_ble_eq_true rfl, Nat.le_of_ble_eq_true rfl⟩ dL_law_760 I) ?_
  intro r2 w1 H locs e0 I
  subst e0
  have I : fb_In D (fun q : Nat => s.heap.size ≤ q) s.heap (([fb_jw cJ zx 1 (vp_updL zg 0 (((0 : Int32)).toInt64)), fb_o12 za zr fr_e0, fb_aw cI (zr 0) 16205 (fr_m (fun _ => 0) 0)] : List va_W).flatten) H locs := I
  refine lv_istore (lv' := [(5, .int (0 : Int32)), (4, .int (0 : Int32)), (3, .ref zx), (2, .ref za), (1, .ref zb), (0, .ref b)]) hx hb dL_law_763 hl (by decide) rfl (fun ls hl => ?_)
  refine lv_aload_n hx hb dL_law_765 rfl (lv_at hl 3 rfl) ?_
  refine lv_aload_n hx hb dL_law_766 rfl (lv_at hl 5 rfl) ?_
  refine lv_iload hx hb dL_law_767 (lv_at hl 1 rfl) ?_
  refine lv_iconst (v := (1 : Int32)) hx hb dL_law_769 (by decide) ?_
  refine lv_iadd hx hb dL_law_770 ?_
  refine fb_tI (v := (1 : Int32)) (by decide) ?_
  refine va_sld (i := (1 : Int32)) hx hb hX hbl hbA I.2.2 (fb_inC (n := 1) (by decide) (by decide) (by omega)) dL_law_771 ?_
  refine fb_tI (v := (xs 1)) rfl ?_
  refine fb_tI (v := (nI zj)) hz ?_
  refine lv_aload_n hx hb dL_law_772 rfl (lv_at hl 5 rfl) ?_
  refine lv_iload hx hb dL_law_773 (lv_at hl 1 rfl) ?_
  refine lv_iconst (v := (2 : Int32)) hx hb dL_law_775 (by decide) ?_
  refine lv_iadd hx hb dL_law_776 ?_
  refine fb_tI (v := (2 : Int32)) (by decide) ?_
  refine va_sld (i := (2 : Int32)) hx hb hX hbl hbA I.2.2 (fb_inC (n := 2) (by decide) (by decide) (by omega)) dL_law_777 ?_
  refine fb_tI (v := (xs 2)) rfl ?_
  refine fb_tI (v := (nI zv9)) hw ?_
  refine fb_gI (cs := [fb_o12 za zr fr_e0, fb_aw cI (zr 0) 16205 (fr_m (fun _ => 0) 0)]) (rs := [fb_jw cJ zx 1 (vp_updL zg 0 (((0 : Int32)).toInt64))]) (fun (t : Unit) => [fb_jw cJ zx 1 (vp_updL zg 0 (((0 : Int32)).toInt64)), fb_o12 za zr (upd (upd fr_e0 19 (0 : Int32)) 2 (0 : Int32)), fb_aw cI (zr 0) 16205 (upd (fr_m (fun _ => 0) 0) (2893 + zj - 2048) (nI zv9))]) (fun (t : Unit) => [fb_o12 za zr (upd (upd fr_e0 19 (0 : Int32)) 2 (0 : Int32)), fb_aw cI (zr 0) 16205 (upd (fr_m (fun _ => 0) 0) (2893 + zj - 2048) (nI zv9))]) X I [1, 2, 0] 3 rfl (by decide +kernel) rfl rfl [1, 2, 0] 3 (fun _ => rfl) (by decide +kernel) (fun _ => rfl) (fun _ => rfl) (fun I => fb_rV (As := [.int (nI zj), .int (nI zv9)]) (rest := []) X hl (fb_goodV fw_2390 fw_2391 fw_2392 fw_204 fw_2393) (c_poke_2 l D cI cJ za zr zj (nI zv9) _ (by omega) (fr_inN (z := zv9) (a := 0) (b := 255) (by omega) (by omega) (by omega))) rfl rfl rfl (by decide +kernel : fb_hd yX12_poke 2) ⟨Nat.le_of_ble_eq_true rfl, Nat.le_of_ble_eq_true rfl⟩ rfl rfl rfl rfl rfl (Nat.le_of_ble_eq_true rfl) ⟨Nat.le_of_ble_eq_true rfl, Nat.le_of_ble_eq_true rfl⟩ dL_law_778 I) ?_
  intro r4 w3 H locs e0 I
  subst e0
  have I : fb_In D (fun q : Nat => s.heap.size ≤ q) s.heap (([fb_jw cJ zx 1 (vp_updL zg 0 (((0 : Int32)).toInt64)), fb_o12 za zr (upd (upd fr_e0 19 (0 : Int32)) 2 (0 : Int32)), fb_aw cI (zr 0) 16205 (upd (fr_m (fun _ => 0) 0) (2893 + zj - 2048) (nI zv9))] : List va_W).flatten) H locs := I
  refine lv_istore (lv' := [(6, .int (0 : Int32)), (5, .int (0 : Int32)), (4, .int (0 : Int32)), (3, .ref zx), (2, .ref za), (1, .ref zb), (0, .ref b)]) hx hb dL_law_781 hl (by decide) rfl (fun ls hl => ?_)
  refine lv_aload_n hx hb dL_law_783 rfl (lv_at hl 4 rfl) ?_
  refine fb_gO (cs := [fb_o12 za zr (upd (upd fr_e0 19 (0 : Int32)) 2 (0 : Int32))]) (rs := [fb_jw cJ zx 1 (vp_updL zg 0 (((0 : Int32)).toInt64)), fb_aw cI (zr 0) 16205 (upd (fr_m (fun _ => 0) 0) (2893 + zj - 2048) (nI zv9))]) X I [1, 0, 2] 3 rfl (by decide +kernel) rfl rfl (fun I => fb_rV (As := []) (rest := []) X hl (fb_goodV fw_2119 fw_2120 fw_2121 fw_204 fw_2122) (c_thrown l D cI cJ za zr (upd (upd fr_e0 19 (0 : Int32)) 2 (0 : Int32)) _ ) rfl rfl rfl (by decide +kernel : fb_hd yX12_thrown 0) ⟨Nat.le_of_ble_eq_true rfl, Nat.le_of_ble_eq_true rfl⟩ rfl rfl rfl rfl rfl (Nat.le_of_ble_eq_true rfl) ⟨Nat.le_of_ble_eq_true rfl, Nat.le_of_ble_eq_true rfl⟩ dL_law_784 I) ?_
  refine fb_tI (v := (0 : Int32)) rfl ?_
  refine lv_iload hx hb dL_law_787 (lv_at hl 1 rfl) ?_
  refine lv_icmp_eq (tgt := 794) hx hb dL_law_789 (by decide) (fun _ => ?_) (fun c5 => absurd rfl c5)
  refine lv_iload hx hb dL_law_794 (lv_at hl 1 rfl) ?_
  refine lv_if_ne (tgt := 811) hx hb dL_law_796 (by decide) (fun c6 => absurd (by decide) c6) (fun _ => ?_)
  refine lv_aload_n hx hb dL_law_799 rfl (lv_at hl 3 rfl) ?_
  refine lv_iconst (v := (0 : Int32)) hx hb dL_law_800 (by decide) ?_
  refine va_lald (i := (0 : Int32)) hx hb hK.1 I.1 0 1 rfl rfl (fb_inC (n := 0) (by decide) (by decide) (Nat.le_of_ble_eq_true rfl)) dL_law_801 ?_
  refine fb_tL (v := (((0 : Int32)).toInt64)) rfl ?_
  refine lv_iload hx hb dL_law_802 (lv_at hl 0 rfl) ?_
  refine lv_i2l (v := (((0 : Int32)).toInt64)) hx hb dL_law_804 rfl ?_
  refine W.lcmp hx hb dL_law_805 ?_
  refine fb_tI (v := (0 : Int32)) (lw_cmp0 _) ?_
  refine lv_if_eq (tgt := 811) hx hb dL_law_806 (by decide) (fun _ => ?_) (fun c7 => absurd (by decide) c7)
  refine lv_goto (tgt := 2336) hx hb dL_law_811 (by decide) ?_
  exact lw_end X hX hbl hbA (by omega) I (lv_sub hl [2, 6] rfl) (Nat.le_of_ble_eq_true rfl) (Nat.le_of_ble_eq_true rfl)

set_option maxHeartbeats 4000000 in
set_option maxRecDepth 100000 in
theorem lc_12_i3 {p : Program} {l : Launch} {e : Env} {s : State} {m : MethodId} {below : List Frame} {meth : Method} {c : Code} {H : Heap} {locs : List Loc} {ls : Array Slot} {D : va_G} {cI cJ : ClassId} {b L : Nat} {xs : Nat → Int32} {zb : Nat} {zt : Nat} {zn : Nat} {zv : Nat} {zs : Nat} {zp : Nat} {zq : Nat → Nat} {zu : Nat → Nat} {zh : Nat} {zst : Nat} {zre : Nat} {zw : fb_AR} {zo : Nat → Nat} {zi : Nat → Nat} {zx : Nat} {zg : Nat → Int64} {za : Nat} {zr : Nat → Nat} {zj : Nat} {zv9 : Nat} (hst : l.stackTraces = false) (X : fb_Bx p s m #[Value.ref b] meth c cL_law RL 9 (some .boolean) D (fb_ty D cI cJ) (fun q : Nat => s.heap.size ≤ q)) (hX : va_X b L xs s s.heap) (hbl : b < s.heap.size) (hbA : ¬ (fun q : Nat => s.heap.size ≤ q) b) (hL6 : L = 6) (hz : xs 1 = nI zj) (hw : xs 2 = nI zv9) (hj : 3072 ≤ zj ∧ zj < 4096) (hv : zv9 ≤ 255) (I : fb_In D (fun q : Nat => s.heap.size ≤ q) s.heap (([fb_o11 zb zt zn zv zs zp (zq 0) (zu 0) zh zst zre, fb_mw cI zq fb_s0 zw, fb_o0 zh (zo 0) (zi 0) fb_h0, fb_jw cJ zx 1 zg, fb_o12 za zr fr_e0, fb_aw cI (zr 0) 16205 (fr_m (fun _ => 0) 0)] : List va_W).flatten) H locs) (hl : lv_has ls 9 [(4, .int (0 : Int32)), (3, .ref zx), (2, .ref za), (1, .ref zb), (0, .ref b)]) : W p l e room_1 s m #[Value.ref b] below meth c H locs 209 179241 (lw_Z below #[Value.ref b] s) (F0 m 746 ls []) := by
  obtain ⟨hx, hb, hr, hml, hown, hts, hlk, hA, hK, hF⟩ := id X
  refine lv_aload_n hx hb dL_law_746 rfl (lv_at hl 3 rfl) ?_
  refine lv_aload_n hx hb dL_law_747 rfl (lv_at hl 4 rfl) ?_
  refine lv_iload hx hb dL_law_748 (lv_at hl 0 rfl) ?_
  refine lv_iconst (v := (1 : Int32)) hx hb dL_law_750 (by decide) ?_
  refine lv_iadd hx hb dL_law_751 ?_
  refine fb_tI (v := (1 : Int32)) (by decide) ?_
  refine va_sld (i := (1 : Int32)) hx hb hX hbl hbA I.2.2 (fb_inC (n := 1) (by decide) (by decide) (by omega)) dL_law_752 ?_
  refine fb_tI (v := (xs 1)) rfl ?_
  refine fb_tI (v := (nI zj)) hz ?_
  refine lv_aload_n hx hb dL_law_753 rfl (lv_at hl 4 rfl) ?_
  refine lv_iload hx hb dL_law_754 (lv_at hl 0 rfl) ?_
  refine lv_iconst (v := (2 : Int32)) hx hb dL_law_756 (by decide) ?_
  refine lv_iadd hx hb dL_law_757 ?_
  refine fb_tI (v := (2 : Int32)) (by decide) ?_
  refine va_sld (i := (2 : Int32)) hx hb hX hbl hbA I.2.2 (fb_inC (n := 2) (by decide) (by decide) (by omega)) dL_law_758 ?_
  refine fb_tI (v := (xs 2)) rfl ?_
  refine fb_tI (v := (nI zv9)) hw ?_
  refine lv_aload_n hx hb dL_law_759 rfl (lv_at hl 1 rfl) ?_
  refine fb_gI (cs := [fb_o11 zb zt zn zv zs zp (zq 0) (zu 0) zh zst zre, fb_mw cI zq fb_s0 zw, fb_o0 zh (zo 0) (zi 0) fb_h0, fb_jw cJ zx 1 zg]) (rs := [fb_o12 za zr fr_e0, fb_aw cI (zr 0) 16205 (fr_m (fun _ => 0) 0)]) (fun (t : Unit) => [fb_jw cJ zx 1 (vp_updL zg 0 (((0 : Int32)).toInt64)), fb_o12 za zr fr_e0, fb_aw cI (zr 0) 16205 (fr_m (fun _ => 0) 0)]) (fun (t : Unit) => [fb_jw cJ zx 1 (vp_updL zg 0 (((0 : Int32)).toInt64))]) X I [0, 1, 2, 3, 4, 5] 6 rfl (by decide +kernel) rfl rfl [0, 1, 2] 3 (fun _ => rfl) (by decide +kernel) (fun _ => rfl) (fun _ => rfl) (fun I => fb_rSW (As := [.ref zb, .int (nI zj), .int (nI zv9), .ref zx]) (rest := []) X hl (fb_goodSW fw_1749 fw_1750 fw_190 fw_1751) (c_w_poke_in l D cI cJ zb zt zn zv zs zp zq zu zh zst zre zw zo zi zx zg zj zv9 _ hst (by omega) (by omega)) rfl rfl (by decide +kernel : fb_hd yL_poke 4) ⟨Nat.le_of_ble_eq_true rfl, Nat.le_of_ble_eq_true rfl⟩ rfl rfl (Nat.le_of_ble_eq_true rfl) ⟨Nat.le_of_ble_eq_true rfl, Nat.le_of_ble_eq_true rfl⟩ dL_law_760 I) ?_
  intro r2 w1 H locs e0 I
  subst e0
  have I : fb_In D (fun q : Nat => s.heap.size ≤ q) s.heap (([fb_jw cJ zx 1 (vp_updL zg 0 (((0 : Int32)).toInt64)), fb_o12 za zr fr_e0, fb_aw cI (zr 0) 16205 (fr_m (fun _ => 0) 0)] : List va_W).flatten) H locs := I
  refine lv_istore (lv' := [(5, .int (0 : Int32)), (4, .int (0 : Int32)), (3, .ref zx), (2, .ref za), (1, .ref zb), (0, .ref b)]) hx hb dL_law_763 hl (by decide) rfl (fun ls hl => ?_)
  refine lv_aload_n hx hb dL_law_765 rfl (lv_at hl 3 rfl) ?_
  refine lv_aload_n hx hb dL_law_766 rfl (lv_at hl 5 rfl) ?_
  refine lv_iload hx hb dL_law_767 (lv_at hl 1 rfl) ?_
  refine lv_iconst (v := (1 : Int32)) hx hb dL_law_769 (by decide) ?_
  refine lv_iadd hx hb dL_law_770 ?_
  refine fb_tI (v := (1 : Int32)) (by decide) ?_
  refine va_sld (i := (1 : Int32)) hx hb hX hbl hbA I.2.2 (fb_inC (n := 1) (by decide) (by decide) (by omega)) dL_law_771 ?_
  refine fb_tI (v := (xs 1)) rfl ?_
  refine fb_tI (v := (nI zj)) hz ?_
  refine lv_aload_n hx hb dL_law_772 rfl (lv_at hl 5 rfl) ?_
  refine lv_iload hx hb dL_law_773 (lv_at hl 1 rfl) ?_
  refine lv_iconst (v := (2 : Int32)) hx hb dL_law_775 (by decide) ?_
  refine lv_iadd hx hb dL_law_776 ?_
  refine fb_tI (v := (2 : Int32)) (by decide) ?_
  refine va_sld (i := (2 : Int32)) hx hb hX hbl hbA I.2.2 (fb_inC (n := 2) (by decide) (by decide) (by omega)) dL_law_777 ?_
  refine fb_tI (v := (xs 2)) rfl ?_
  refine fb_tI (v := (nI zv9)) hw ?_
  refine fb_gI (cs := [fb_o12 za zr fr_e0, fb_aw cI (zr 0) 16205 (fr_m (fun _ => 0) 0)]) (rs := [fb_jw cJ zx 1 (vp_updL zg 0 (((0 : Int32)).toInt64))]) (fun (t : Unit) => [fb_jw cJ zx 1 (vp_updL zg 0 (((0 : Int32)).toInt64)), fb_o12 za zr (upd (upd fr_e0 19 (0 : Int32)) 2 (0 : Int32)), fb_aw cI (zr 0) 16205 (upd (fr_m (fun _ => 0) 0) (11085 + zj - 3072) (nI zv9))]) (fun (t : Unit) => [fb_o12 za zr (upd (upd fr_e0 19 (0 : Int32)) 2 (0 : Int32)), fb_aw cI (zr 0) 16205 (upd (fr_m (fun _ => 0) 0) (11085 + zj - 3072) (nI zv9))]) X I [1, 2, 0] 3 rfl (by decide +kernel) rfl rfl [1, 2, 0] 3 (fun _ => rfl) (by decide +kernel) (fun _ => rfl) (fun _ => rfl) (fun I => fb_rV (As := [.int (nI zj), .int (nI zv9)]) (rest := []) X hl (fb_goodV fw_2390 fw_2391 fw_2392 fw_204 fw_2393) (c_poke_3 l D cI cJ za zr zj (nI zv9) _ (by omega) (fr_inN (z := zv9) (a := 0) (b := 255) (by omega) (by omega) (by omega))) rfl rfl rfl (by decide +kernel : fb_hd yX12_poke 2) ⟨Nat.le_of_ble_eq_true rfl, Nat.le_of_ble_eq_true rfl⟩ rfl rfl rfl rfl rfl (Nat.le_of_ble_eq_true rfl) ⟨Nat.le_of_ble_eq_true rfl, Nat.le_of_ble_eq_true rfl⟩ dL_law_778 I) ?_
  intro r4 w3 H locs e0 I
  subst e0
  have I : fb_In D (fun q : Nat => s.heap.size ≤ q) s.heap (([fb_jw cJ zx 1 (vp_updL zg 0 (((0 : Int32)).toInt64)), fb_o12 za zr (upd (upd fr_e0 19 (0 : Int32)) 2 (0 : Int32)), fb_aw cI (zr 0) 16205 (upd (fr_m (fun _ => 0) 0) (11085 + zj - 3072) (nI zv9))] : List va_W).flatten) H locs := I
  refine lv_istore (lv' := [(6, .int (0 : Int32)), (5, .int (0 : Int32)), (4, .int (0 : Int32)), (3, .ref zx), (2, .ref za), (1, .ref zb), (0, .ref b)]) hx hb dL_law_781 hl (by decide) rfl (fun ls hl => ?_)
  refine lv_aload_n hx hb dL_law_783 rfl (lv_at hl 4 rfl) ?_
  refine fb_gO (cs := [fb_o12 za zr (upd (upd fr_e0 19 (0 : Int32)) 2 (0 : Int32))]) (rs := [fb_jw cJ zx 1 (vp_updL zg 0 (((0 : Int32)).toInt64)), fb_aw cI (zr 0) 16205 (upd (fr_m (fun _ => 0) 0) (11085 + zj - 3072) (nI zv9))]) X I [1, 0, 2] 3 rfl (by decide +kernel) rfl rfl (fun I => fb_rV (As := []) (rest := []) X hl (fb_goodV fw_2119 fw_2120 fw_2121 fw_204 fw_2122) (c_thrown l D cI cJ za zr (upd (upd fr_e0 19 (0 : Int32)) 2 (0 : Int32)) _ ) rfl rfl rfl (by decide +kernel : fb_hd yX12_thrown 0) ⟨Nat.le_of_ble_eq_true rfl, Nat.le_of_ble_eq_true rfl⟩ rfl rfl rfl rfl rfl (Nat.le_of_ble_eq_true rfl) ⟨Nat.le_of_ble_eq_true rfl, Nat.le_of_ble_eq_true rfl⟩ dL_law_784 I) ?_
  refine fb_tI (v := (0 : Int32)) rfl ?_
  refine lv_iload hx hb dL_law_787 (lv_at hl 1 rfl) ?_
  refine lv_icmp_eq (tgt := 794) hx hb dL_law_789 (by decide) (fun _ => ?_) (fun c5 => absurd rfl c5)
  refine lv_iload hx hb dL_law_794 (lv_at hl 1 rfl) ?_
  refine lv_if_ne (tgt := 811) hx hb dL_law_796 (by decide) (fun c6 => absurd (by decide) c6) (fun _ => ?_)
  refine lv_aload_n hx hb dL_law_799 rfl (lv_at hl 3 rfl) ?_
  refine lv_iconst (v := (0 : Int32)) hx hb dL_law_800 (by decide) ?_
  refine va_lald (i := (0 : Int32)) hx hb hK.1 I.1 0 1 rfl rfl (fb_inC (n := 0) (by decide) (by decide) (Nat.le_of_ble_eq_true rfl)) dL_law_801 ?_
  refine fb_tL (v := (((0 : Int32)).toInt64)) rfl ?_
  refine lv_iload hx hb dL_law_802 (lv_at hl 0 rfl) ?_
  refine lv_i2l (v := (((0 : Int32)).toInt64)) hx hb dL_law_804 rfl ?_
  refine W.lcmp hx hb dL_law_805 ?_
  refine fb_tI (v := (0 : Int32)) (lw_cmp0 _) ?_
  refine lv_if_eq (tgt := 811) hx hb dL_law_806 (by decide) (fun _ => ?_) (fun c7 => absurd (by decide) c7)
  refine lv_goto (tgt := 2336) hx hb dL_law_811 (by decide) ?_
  exact lw_end X hX hbl hbA (by omega) I (lv_sub hl [2, 6] rfl) (Nat.le_of_ble_eq_true rfl) (Nat.le_of_ble_eq_true rfl)

set_option maxHeartbeats 4000000 in
set_option maxRecDepth 100000 in
theorem lc_13_a {p : Program} {l : Launch} {e : Env} {s : State} {m : MethodId} {below : List Frame} {meth : Method} {c : Code} {H : Heap} {locs : List Loc} {ls : Array Slot} {D : va_G} {cI cJ : ClassId} {b L : Nat} {xs : Nat → Int32} {zb : Nat} {zt : Nat} {zn : Nat} {zv : Nat} {zs : Nat} {zp : Nat} {zq : Nat → Nat} {zu : Nat → Nat} {zh : Nat} {zst : Nat} {zre : Nat} {zx : Nat} {zg : Nat → Int64} {za : Nat} {zr : Nat → Nat} (hst : l.stackTraces = false) (X : fb_Bx p s m #[Value.ref b] meth c cL_law RL 9 (some .boolean) D (fb_ty D cI cJ) (fun q : Nat => s.heap.size ≤ q)) (hX : va_X b L xs s s.heap) (hbl : b < s.heap.size) (hbA : ¬ (fun q : Nat => s.heap.size ≤ q) b) (hL6 : L = 6) (h0 : (xs 1) < 0) (q1 : f_X12_isIn (xs 1) (0 : Int32) (4 : Int32) = (0 : Int32)) (I : fb_In D (fun q : Nat => s.heap.size ≤ q) s.heap (([fb_o11 zb zt zn zv zs zp (zq 0) (zu 0) zh zst zre, fb_jw cJ zx 1 zg, fb_o12 za zr fr_e0] : List va_W).flatten) H locs) (hl : lv_has ls 9 [(4, .int (0 : Int32)), (3, .ref zx), (2, .ref za), (1, .ref zb), (0, .ref b)]) : W p l e room_1 s m #[Value.ref b] below meth c H locs 209 179241 (lw_Z below #[Value.ref b] s) (F0 m 814 ls []) := by
  obtain ⟨hx, hb, hr, hml, hown, hts, hlk, hA, hK, hF⟩ := id X
  refine lv_aload_n hx hb dL_law_814 rfl (lv_at hl 3 rfl) ?_
  refine lv_aload_n hx hb dL_law_815 rfl (lv_at hl 4 rfl) ?_
  refine lv_iload hx hb dL_law_816 (lv_at hl 0 rfl) ?_
  refine lv_iconst (v := (1 : Int32)) hx hb dL_law_818 (by decide) ?_
  refine lv_iadd hx hb dL_law_819 ?_
  refine fb_tI (v := (1 : Int32)) (by decide) ?_
  refine va_sld (i := (1 : Int32)) hx hb hX hbl hbA I.2.2 (fb_inC (n := 1) (by decide) (by decide) (by omega)) dL_law_820 ?_
  refine fb_tI (v := (xs 1)) rfl ?_
  refine lv_aload_n hx hb dL_law_821 rfl (lv_at hl 4 rfl) ?_
  refine lv_iload hx hb dL_law_822 (lv_at hl 0 rfl) ?_
  refine lv_iconst (v := (2 : Int32)) hx hb dL_law_824 (by decide) ?_
  refine lv_iadd hx hb dL_law_825 ?_
  refine fb_tI (v := (2 : Int32)) (by decide) ?_
  refine va_sld (i := (2 : Int32)) hx hb hX hbl hbA I.2.2 (fb_inC (n := 2) (by decide) (by decide) (by omega)) dL_law_826 ?_
  refine fb_tI (v := (xs 2)) rfl ?_
  refine lv_aload_n hx hb dL_law_827 rfl (lv_at hl 1 rfl) ?_
  refine fb_gI (cs := [fb_o11 zb zt zn zv zs zp (zq 0) (zu 0) zh zst zre, fb_jw cJ zx 1 zg]) (rs := [fb_o12 za zr fr_e0]) (fun (t : Unit) => [fb_jw cJ zx 1 zg, fb_o12 za zr fr_e0]) (fun (t : Unit) => [fb_jw cJ zx 1 zg]) X I [0, 1, 2] 3 rfl (by decide +kernel) rfl rfl [0, 1] 2 (fun _ => rfl) (by decide +kernel) (fun _ => rfl) (fun _ => rfl) (fun I => fb_rSW (As := [.ref zb, .int (xs 1), .int (xs 2), .ref zx]) (rest := []) X hl (fb_goodSW fw_1759 fw_1760 fw_190 fw_1761) (c_w_setRegister_a l D cI cJ zb zt zn zv zs zp zq zu zh zst zre zx zg (xs 1) (xs 2) _ hst h0) rfl rfl (by decide +kernel : fb_hd yL_setRegister 4) ⟨Nat.le_of_ble_eq_true rfl, Nat.le_of_ble_eq_true rfl⟩ rfl rfl (Nat.le_of_ble_eq_true rfl) ⟨Nat.le_of_ble_eq_true rfl, Nat.le_of_ble_eq_true rfl⟩ dL_law_828 I) ?_
  intro r2 w1 H locs e0 I
  subst e0
  have I : fb_In D (fun q : Nat => s.heap.size ≤ q) s.heap (([fb_jw cJ zx 1 zg, fb_o12 za zr fr_e0] : List va_W).flatten) H locs := I
  refine lv_istore (lv' := [(5, .int (1 : Int32)), (4, .int (0 : Int32)), (3, .ref zx), (2, .ref za), (1, .ref zb), (0, .ref b)]) hx hb dL_law_831 hl (by decide) rfl (fun ls hl => ?_)
  refine lv_aload_n hx hb dL_law_833 rfl (lv_at hl 3 rfl) ?_
  refine lv_aload_n hx hb dL_law_834 rfl (lv_at hl 5 rfl) ?_
  refine lv_iload hx hb dL_law_835 (lv_at hl 1 rfl) ?_
  refine lv_iconst (v := (1 : Int32)) hx hb dL_law_837 (by decide) ?_
  refine lv_iadd hx hb dL_law_838 ?_
  refine fb_tI (v := (1 : Int32)) (by decide) ?_
  refine va_sld (i := (1 : Int32)) hx hb hX hbl hbA I.2.2 (fb_inC (n := 1) (by decide) (by decide) (by omega)) dL_law_839 ?_
  refine fb_tI (v := (xs 1)) rfl ?_
  refine lv_aload_n hx hb dL_law_840 rfl (lv_at hl 5 rfl) ?_
  refine lv_iload hx hb dL_law_841 (lv_at hl 1 rfl) ?_
  refine lv_iconst (v := (2 : Int32)) hx hb dL_law_843 (by decide) ?_
  refine lv_iadd hx hb dL_law_844 ?_
  refine fb_tI (v := (2 : Int32)) (by decide) ?_
  refine va_sld (i := (2 : Int32)) hx hb hX hbl hbA I.2.2 (fb_inC (n := 2) (by decide) (by decide) (by omega)) dL_law_845 ?_
  refine fb_tI (v := (xs 2)) rfl ?_
  refine fb_gI (cs := [fb_o12 za zr fr_e0]) (rs := [fb_jw cJ zx 1 zg]) (fun (t : Unit) => [fb_jw cJ zx 1 zg, fb_o12 za zr (upd (upd fr_e0 19 (0 : Int32)) 19 (1 : Int32))]) (fun (t : Unit) => [fb_o12 za zr (upd (upd fr_e0 19 (0 : Int32)) 19 (1 : Int32))]) X I [1, 0] 2 rfl (by decide +kernel) rfl rfl [1, 0] 2 (fun _ => rfl) (by decide +kernel) (fun _ => rfl) (fun _ => rfl) (fun I => fb_rV (As := [.int (xs 1), .int (xs 2)]) (rest := []) X hl (fb_goodV fw_2394 fw_2395 fw_2396 fw_204 fw_2397) (c_setRegister_out l D cI cJ za zr (xs 1) (xs 2) _ q1) rfl rfl rfl (by decide +kernel : fb_hd yX12_setRegister 2) ⟨Nat.le_of_ble_eq_true rfl, Nat.le_of_ble_eq_true rfl⟩ rfl rfl rfl rfl rfl (Nat.le_of_ble_eq_true rfl) ⟨Nat.le_of_ble_eq_true rfl, Nat.le_of_ble_eq_true rfl⟩ dL_law_846 I) ?_
  intro r4 w3 H locs e0 I
  subst e0
  have I : fb_In D (fun q : Nat => s.heap.size ≤ q) s.heap (([fb_jw cJ zx 1 zg, fb_o12 za zr (upd (upd fr_e0 19 (0 : Int32)) 19 (1 : Int32))] : List va_W).flatten) H locs := I
  refine lv_istore (lv' := [(6, .int (0 : Int32)), (5, .int (1 : Int32)), (4, .int (0 : Int32)), (3, .ref zx), (2, .ref za), (1, .ref zb), (0, .ref b)]) hx hb dL_law_849 hl (by decide) rfl (fun ls hl => ?_)
  refine lv_aload_n hx hb dL_law_851 rfl (lv_at hl 4 rfl) ?_
  refine fb_gO (cs := [fb_o12 za zr (upd (upd fr_e0 19 (0 : Int32)) 19 (1 : Int32))]) (rs := [fb_jw cJ zx 1 zg]) X I [1, 0] 2 rfl (by decide +kernel) rfl rfl (fun I => fb_rV (As := []) (rest := []) X hl (fb_goodV fw_2119 fw_2120 fw_2121 fw_204 fw_2122) (c_thrown l D cI cJ za zr (upd (upd fr_e0 19 (0 : Int32)) 19 (1 : Int32)) _ ) rfl rfl rfl (by decide +kernel : fb_hd yX12_thrown 0) ⟨Nat.le_of_ble_eq_true rfl, Nat.le_of_ble_eq_true rfl⟩ rfl rfl rfl rfl rfl (Nat.le_of_ble_eq_true rfl) ⟨Nat.le_of_ble_eq_true rfl, Nat.le_of_ble_eq_true rfl⟩ dL_law_852 I) ?_
  refine fb_tI (v := (1 : Int32)) rfl ?_
  refine lv_iload hx hb dL_law_855 (lv_at hl 1 rfl) ?_
  refine lv_icmp_eq (tgt := 862) hx hb dL_law_857 (by decide) (fun _ => ?_) (fun c5 => absurd rfl c5)
  refine lv_iload hx hb dL_law_862 (lv_at hl 1 rfl) ?_
  refine lv_if_ne (tgt := 879) hx hb dL_law_864 (by decide) (fun _ => ?_) (fun c6 => absurd c6 (by decide))
  refine lv_goto (tgt := 2336) hx hb dL_law_879 (by decide) ?_
  exact lw_end X hX hbl hbA (by omega) I (lv_sub hl [2, 6] rfl) (Nat.le_of_ble_eq_true rfl) (Nat.le_of_ble_eq_true rfl)

set_option maxHeartbeats 4000000 in
set_option maxRecDepth 100000 in
theorem lc_13_b {p : Program} {l : Launch} {e : Env} {s : State} {m : MethodId} {below : List Frame} {meth : Method} {c : Code} {H : Heap} {locs : List Loc} {ls : Array Slot} {D : va_G} {cI cJ : ClassId} {b L : Nat} {xs : Nat → Int32} {zb : Nat} {zt : Nat} {zn : Nat} {zv : Nat} {zs : Nat} {zp : Nat} {zq : Nat → Nat} {zu : Nat → Nat} {zh : Nat} {zst : Nat} {zre : Nat} {zx : Nat} {zg : Nat → Int64} {za : Nat} {zr : Nat → Nat} (hst : l.stackTraces = false) (X : fb_Bx p s m #[Value.ref b] meth c cL_law RL 9 (some .boolean) D (fb_ty D cI cJ) (fun q : Nat => s.heap.size ≤ q)) (hX : va_X b L xs s s.heap) (hbl : b < s.heap.size) (hbA : ¬ (fun q : Nat => s.heap.size ≤ q) b) (hL6 : L = 6) (h0 : ¬ (xs 1) < 0) (h1 : ¬ (xs 1) ≤ (4 : Int32)) (q1 : f_X12_isIn (xs 1) (0 : Int32) (4 : Int32) = (0 : Int32)) (I : fb_In D (fun q : Nat => s.heap.size ≤ q) s.heap (([fb_o11 zb zt zn zv zs zp (zq 0) (zu 0) zh zst zre, fb_jw cJ zx 1 zg, fb_o12 za zr fr_e0] : List va_W).flatten) H locs) (hl : lv_has ls 9 [(4, .int (0 : Int32)), (3, .ref zx), (2, .ref za), (1, .ref zb), (0, .ref b)]) : W p l e room_1 s m #[Value.ref b] below meth c H locs 209 179241 (lw_Z below #[Value.ref b] s) (F0 m 814 ls []) := by
  obtain ⟨hx, hb, hr, hml, hown, hts, hlk, hA, hK, hF⟩ := id X
  refine lv_aload_n hx hb dL_law_814 rfl (lv_at hl 3 rfl) ?_
  refine lv_aload_n hx hb dL_law_815 rfl (lv_at hl 4 rfl) ?_
  refine lv_iload hx hb dL_law_816 (lv_at hl 0 rfl) ?_
  refine lv_iconst (v := (1 : Int32)) hx hb dL_law_818 (by decide) ?_
  refine lv_iadd hx hb dL_law_819 ?_
  refine fb_tI (v := (1 : Int32)) (by decide) ?_
  refine va_sld (i := (1 : Int32)) hx hb hX hbl hbA I.2.2 (fb_inC (n := 1) (by decide) (by decide) (by omega)) dL_law_820 ?_
  refine fb_tI (v := (xs 1)) rfl ?_
  refine lv_aload_n hx hb dL_law_821 rfl (lv_at hl 4 rfl) ?_
  refine lv_iload hx hb dL_law_822 (lv_at hl 0 rfl) ?_
  refine lv_iconst (v := (2 : Int32)) hx hb dL_law_824 (by decide) ?_
  refine lv_iadd hx hb dL_law_825 ?_
  refine fb_tI (v := (2 : Int32)) (by decide) ?_
  refine va_sld (i := (2 : Int32)) hx hb hX hbl hbA I.2.2 (fb_inC (n := 2) (by decide) (by decide) (by omega)) dL_law_826 ?_
  refine fb_tI (v := (xs 2)) rfl ?_
  refine lv_aload_n hx hb dL_law_827 rfl (lv_at hl 1 rfl) ?_
  refine fb_gI (cs := [fb_o11 zb zt zn zv zs zp (zq 0) (zu 0) zh zst zre, fb_jw cJ zx 1 zg]) (rs := [fb_o12 za zr fr_e0]) (fun (t : Unit) => [fb_jw cJ zx 1 zg, fb_o12 za zr fr_e0]) (fun (t : Unit) => [fb_jw cJ zx 1 zg]) X I [0, 1, 2] 3 rfl (by decide +kernel) rfl rfl [0, 1] 2 (fun _ => rfl) (by decide +kernel) (fun _ => rfl) (fun _ => rfl) (fun I => fb_rSW (As := [.ref zb, .int (xs 1), .int (xs 2), .ref zx]) (rest := []) X hl (fb_goodSW fw_1759 fw_1760 fw_190 fw_1761) (c_w_setRegister_b l D cI cJ zb zt zn zv zs zp zq zu zh zst zre zx zg (xs 1) (xs 2) _ hst h0 h1) rfl rfl (by decide +kernel : fb_hd yL_setRegister 4) ⟨Nat.le_of_ble_eq_true rfl, Nat.le_of_ble_eq_true rfl⟩ rfl rfl (Nat.le_of_ble_eq_true rfl) ⟨Nat.le_of_ble_eq_true rfl, Nat.le_of_ble_eq_true rfl⟩ dL_law_828 I) ?_
  intro r2 w1 H locs e0 I
  subst e0
  have I : fb_In D (fun q : Nat => s.heap.size ≤ q) s.heap (([fb_jw cJ zx 1 zg, fb_o12 za zr fr_e0] : List va_W).flatten) H locs := I
  refine lv_istore (lv' := [(5, .int (1 : Int32)), (4, .int (0 : Int32)), (3, .ref zx), (2, .ref za), (1, .ref zb), (0, .ref b)]) hx hb dL_law_831 hl (by decide) rfl (fun ls hl => ?_)
  refine lv_aload_n hx hb dL_law_833 rfl (lv_at hl 3 rfl) ?_
  refine lv_aload_n hx hb dL_law_834 rfl (lv_at hl 5 rfl) ?_
  refine lv_iload hx hb dL_law_835 (lv_at hl 1 rfl) ?_
  refine lv_iconst (v := (1 : Int32)) hx hb dL_law_837 (by decide) ?_
  refine lv_iadd hx hb dL_law_838 ?_
  refine fb_tI (v := (1 : Int32)) (by decide) ?_
  refine va_sld (i := (1 : Int32)) hx hb hX hbl hbA I.2.2 (fb_inC (n := 1) (by decide) (by decide) (by omega)) dL_law_839 ?_
  refine fb_tI (v := (xs 1)) rfl ?_
  refine lv_aload_n hx hb dL_law_840 rfl (lv_at hl 5 rfl) ?_
  refine lv_iload hx hb dL_law_841 (lv_at hl 1 rfl) ?_
  refine lv_iconst (v := (2 : Int32)) hx hb dL_law_843 (by decide) ?_
  refine lv_iadd hx hb dL_law_844 ?_
  refine fb_tI (v := (2 : Int32)) (by decide) ?_
  refine va_sld (i := (2 : Int32)) hx hb hX hbl hbA I.2.2 (fb_inC (n := 2) (by decide) (by decide) (by omega)) dL_law_845 ?_
  refine fb_tI (v := (xs 2)) rfl ?_
  refine fb_gI (cs := [fb_o12 za zr fr_e0]) (rs := [fb_jw cJ zx 1 zg]) (fun (t : Unit) => [fb_jw cJ zx 1 zg, fb_o12 za zr (upd (upd fr_e0 19 (0 : Int32)) 19 (1 : Int32))]) (fun (t : Unit) => [fb_o12 za zr (upd (upd fr_e0 19 (0 : Int32)) 19 (1 : Int32))]) X I [1, 0] 2 rfl (by decide +kernel) rfl rfl [1, 0] 2 (fun _ => rfl) (by decide +kernel) (fun _ => rfl) (fun _ => rfl) (fun I => fb_rV (As := [.int (xs 1), .int (xs 2)]) (rest := []) X hl (fb_goodV fw_2394 fw_2395 fw_2396 fw_204 fw_2397) (c_setRegister_out l D cI cJ za zr (xs 1) (xs 2) _ q1) rfl rfl rfl (by decide +kernel : fb_hd yX12_setRegister 2) ⟨Nat.le_of_ble_eq_true rfl, Nat.le_of_ble_eq_true rfl⟩ rfl rfl rfl rfl rfl (Nat.le_of_ble_eq_true rfl) ⟨Nat.le_of_ble_eq_true rfl, Nat.le_of_ble_eq_true rfl⟩ dL_law_846 I) ?_
  intro r4 w3 H locs e0 I
  subst e0
  have I : fb_In D (fun q : Nat => s.heap.size ≤ q) s.heap (([fb_jw cJ zx 1 zg, fb_o12 za zr (upd (upd fr_e0 19 (0 : Int32)) 19 (1 : Int32))] : List va_W).flatten) H locs := I
  refine lv_istore (lv' := [(6, .int (0 : Int32)), (5, .int (1 : Int32)), (4, .int (0 : Int32)), (3, .ref zx), (2, .ref za), (1, .ref zb), (0, .ref b)]) hx hb dL_law_849 hl (by decide) rfl (fun ls hl => ?_)
  refine lv_aload_n hx hb dL_law_851 rfl (lv_at hl 4 rfl) ?_
  refine fb_gO (cs := [fb_o12 za zr (upd (upd fr_e0 19 (0 : Int32)) 19 (1 : Int32))]) (rs := [fb_jw cJ zx 1 zg]) X I [1, 0] 2 rfl (by decide +kernel) rfl rfl (fun I => fb_rV (As := []) (rest := []) X hl (fb_goodV fw_2119 fw_2120 fw_2121 fw_204 fw_2122) (c_thrown l D cI cJ za zr (upd (upd fr_e0 19 (0 : Int32)) 19 (1 : Int32)) _ ) rfl rfl rfl (by decide +kernel : fb_hd yX12_thrown 0) ⟨Nat.le_of_ble_eq_true rfl, Nat.le_of_ble_eq_true rfl⟩ rfl rfl rfl rfl rfl (Nat.le_of_ble_eq_true rfl) ⟨Nat.le_of_ble_eq_true rfl, Nat.le_of_ble_eq_true rfl⟩ dL_law_852 I) ?_
  refine fb_tI (v := (1 : Int32)) rfl ?_
  refine lv_iload hx hb dL_law_855 (lv_at hl 1 rfl) ?_
  refine lv_icmp_eq (tgt := 862) hx hb dL_law_857 (by decide) (fun _ => ?_) (fun c5 => absurd rfl c5)
  refine lv_iload hx hb dL_law_862 (lv_at hl 1 rfl) ?_
  refine lv_if_ne (tgt := 879) hx hb dL_law_864 (by decide) (fun _ => ?_) (fun c6 => absurd c6 (by decide))
  refine lv_goto (tgt := 2336) hx hb dL_law_879 (by decide) ?_
  exact lw_end X hX hbl hbA (by omega) I (lv_sub hl [2, 6] rfl) (Nat.le_of_ble_eq_true rfl) (Nat.le_of_ble_eq_true rfl)

set_option maxHeartbeats 4000000 in
set_option maxRecDepth 100000 in
theorem lc_13_n0 {p : Program} {l : Launch} {e : Env} {s : State} {m : MethodId} {below : List Frame} {meth : Method} {c : Code} {H : Heap} {locs : List Loc} {ls : Array Slot} {D : va_G} {cI cJ : ClassId} {b L : Nat} {xs : Nat → Int32} {zb : Nat} {zt : Nat} {zn : Nat} {zv : Nat} {zs : Nat} {zp : Nat} {zq : Nat → Nat} {zu : Nat → Nat} {zh : Nat} {zst : Nat} {zre : Nat} {zx : Nat} {zg : Nat → Int64} {za : Nat} {zr : Nat → Nat} (hst : l.stackTraces = false) (X : fb_Bx p s m #[Value.ref b] meth c cL_law RL 9 (some .boolean) D (fb_ty D cI cJ) (fun q : Nat => s.heap.size ≤ q)) (hX : va_X b L xs s s.heap) (hbl : b < s.heap.size) (hbA : ¬ (fun q : Nat => s.heap.size ≤ q) b) (hL6 : L = 6) (hz : xs 1 = 0) (r0 : ¬ (0 : Int32) < 0) (r4 : (0 : Int32) ≤ (4 : Int32)) (e4 : ¬ (0 : Int32) = (4 : Int32)) (e3 : ¬ (0 : Int32) = (3 : Int32)) (v0 : (xs 2) < 0) (q1 : f_X12_isIn (xs 2) (0 : Int32) (255 : Int32) = (0 : Int32)) (I : fb_In D (fun q : Nat => s.heap.size ≤ q) s.heap (([fb_o11 zb zt zn zv zs zp (zq 0) (zu 0) zh zst zre, fb_jw cJ zx 1 zg, fb_o12 za zr fr_e0] : List va_W).flatten) H locs) (hl : lv_has ls 9 [(4, .int (0 : Int32)), (3, .ref zx), (2, .ref za), (1, .ref zb), (0, .ref b)]) : W p l e room_1 s m #[Value.ref b] below meth c H locs 209 179241 (lw_Z below #[Value.ref b] s) (F0 m 814 ls []) := by
  obtain ⟨hx, hb, hr, hml, hown, hts, hlk, hA, hK, hF⟩ := id X
  refine lv_aload_n hx hb dL_law_814 rfl (lv_at hl 3 rfl) ?_
  refine lv_aload_n hx hb dL_law_815 rfl (lv_at hl 4 rfl) ?_
  refine lv_iload hx hb dL_law_816 (lv_at hl 0 rfl) ?_
  refine lv_iconst (v := (1 : Int32)) hx hb dL_law_818 (by decide) ?_
  refine lv_iadd hx hb dL_law_819 ?_
  refine fb_tI (v := (1 : Int32)) (by decide) ?_
  refine va_sld (i := (1 : Int32)) hx hb hX hbl hbA I.2.2 (fb_inC (n := 1) (by decide) (by decide) (by omega)) dL_law_820 ?_
  refine fb_tI (v := (xs 1)) rfl ?_
  refine fb_tI (v := (0 : Int32)) hz ?_
  refine lv_aload_n hx hb dL_law_821 rfl (lv_at hl 4 rfl) ?_
  refine lv_iload hx hb dL_law_822 (lv_at hl 0 rfl) ?_
  refine lv_iconst (v := (2 : Int32)) hx hb dL_law_824 (by decide) ?_
  refine lv_iadd hx hb dL_law_825 ?_
  refine fb_tI (v := (2 : Int32)) (by decide) ?_
  refine va_sld (i := (2 : Int32)) hx hb hX hbl hbA I.2.2 (fb_inC (n := 2) (by decide) (by decide) (by omega)) dL_law_826 ?_
  refine fb_tI (v := (xs 2)) rfl ?_
  refine lv_aload_n hx hb dL_law_827 rfl (lv_at hl 1 rfl) ?_
  refine fb_gI (cs := [fb_o11 zb zt zn zv zs zp (zq 0) (zu 0) zh zst zre, fb_jw cJ zx 1 zg]) (rs := [fb_o12 za zr fr_e0]) (fun (t : Unit) => [fb_jw cJ zx 1 zg, fb_o12 za zr fr_e0]) (fun (t : Unit) => [fb_jw cJ zx 1 zg]) X I [0, 1, 2] 3 rfl (by decide +kernel) rfl rfl [0, 1] 2 (fun _ => rfl) (by decide +kernel) (fun _ => rfl) (fun _ => rfl) (fun I => fb_rSW (As := [.ref zb, .int (0 : Int32), .int (xs 2), .ref zx]) (rest := []) X hl (fb_goodSW fw_1759 fw_1760 fw_190 fw_1761) (c_w_setRegister_rn l D cI cJ zb zt zn zv zs zp zq zu zh zst zre zx zg (0 : Int32) (xs 2) _ hst r0 r4 e4 e3 v0) rfl rfl (by decide +kernel : fb_hd yL_setRegister 4) ⟨Nat.le_of_ble_eq_true rfl, Nat.le_of_ble_eq_true rfl⟩ rfl rfl (Nat.le_of_ble_eq_true rfl) ⟨Nat.le_of_ble_eq_true rfl, Nat.le_of_ble_eq_true rfl⟩ dL_law_828 I) ?_
  intro r2 w1 H locs e0 I
  subst e0
  have I : fb_In D (fun q : Nat => s.heap.size ≤ q) s.heap (([fb_jw cJ zx 1 zg, fb_o12 za zr fr_e0] : List va_W).flatten) H locs := I
  refine lv_istore (lv' := [(5, .int (2 : Int32)), (4, .int (0 : Int32)), (3, .ref zx), (2, .ref za), (1, .ref zb), (0, .ref b)]) hx hb dL_law_831 hl (by decide) rfl (fun ls hl => ?_)
  refine lv_aload_n hx hb dL_law_833 rfl (lv_at hl 3 rfl) ?_
  refine lv_aload_n hx hb dL_law_834 rfl (lv_at hl 5 rfl) ?_
  refine lv_iload hx hb dL_law_835 (lv_at hl 1 rfl) ?_
  refine lv_iconst (v := (1 : Int32)) hx hb dL_law_837 (by decide) ?_
  refine lv_iadd hx hb dL_law_838 ?_
  refine fb_tI (v := (1 : Int32)) (by decide) ?_
  refine va_sld (i := (1 : Int32)) hx hb hX hbl hbA I.2.2 (fb_inC (n := 1) (by decide) (by decide) (by omega)) dL_law_839 ?_
  refine fb_tI (v := (xs 1)) rfl ?_
  refine fb_tI (v := (0 : Int32)) hz ?_
  refine lv_aload_n hx hb dL_law_840 rfl (lv_at hl 5 rfl) ?_
  refine lv_iload hx hb dL_law_841 (lv_at hl 1 rfl) ?_
  refine lv_iconst (v := (2 : Int32)) hx hb dL_law_843 (by decide) ?_
  refine lv_iadd hx hb dL_law_844 ?_
  refine fb_tI (v := (2 : Int32)) (by decide) ?_
  refine va_sld (i := (2 : Int32)) hx hb hX hbl hbA I.2.2 (fb_inC (n := 2) (by decide) (by decide) (by omega)) dL_law_845 ?_
  refine fb_tI (v := (xs 2)) rfl ?_
  refine fb_gI (cs := [fb_o12 za zr fr_e0]) (rs := [fb_jw cJ zx 1 zg]) (fun (t : Unit) => [fb_jw cJ zx 1 zg, fb_o12 za zr (upd (upd fr_e0 19 (0 : Int32)) 19 (2 : Int32))]) (fun (t : Unit) => [fb_o12 za zr (upd (upd fr_e0 19 (0 : Int32)) 19 (2 : Int32))]) X I [1, 0] 2 rfl (by decide +kernel) rfl rfl [1, 0] 2 (fun _ => rfl) (by decide +kernel) (fun _ => rfl) (fun _ => rfl) (fun I => fb_rV (As := [.int (0 : Int32), .int (xs 2)]) (rest := []) X hl (fb_goodV fw_2394 fw_2395 fw_2396 fw_204 fw_2397) (c_setRegister_bad0 l D cI cJ za zr (xs 2) _ q1) rfl rfl rfl (by decide +kernel : fb_hd yX12_setRegister 2) ⟨Nat.le_of_ble_eq_true rfl, Nat.le_of_ble_eq_true rfl⟩ rfl rfl rfl rfl rfl (Nat.le_of_ble_eq_true rfl) ⟨Nat.le_of_ble_eq_true rfl, Nat.le_of_ble_eq_true rfl⟩ dL_law_846 I) ?_
  intro r4 w3 H locs e0 I
  subst e0
  have I : fb_In D (fun q : Nat => s.heap.size ≤ q) s.heap (([fb_jw cJ zx 1 zg, fb_o12 za zr (upd (upd fr_e0 19 (0 : Int32)) 19 (2 : Int32))] : List va_W).flatten) H locs := I
  refine lv_istore (lv' := [(6, .int (0 : Int32)), (5, .int (2 : Int32)), (4, .int (0 : Int32)), (3, .ref zx), (2, .ref za), (1, .ref zb), (0, .ref b)]) hx hb dL_law_849 hl (by decide) rfl (fun ls hl => ?_)
  refine lv_aload_n hx hb dL_law_851 rfl (lv_at hl 4 rfl) ?_
  refine fb_gO (cs := [fb_o12 za zr (upd (upd fr_e0 19 (0 : Int32)) 19 (2 : Int32))]) (rs := [fb_jw cJ zx 1 zg]) X I [1, 0] 2 rfl (by decide +kernel) rfl rfl (fun I => fb_rV (As := []) (rest := []) X hl (fb_goodV fw_2119 fw_2120 fw_2121 fw_204 fw_2122) (c_thrown l D cI cJ za zr (upd (upd fr_e0 19 (0 : Int32)) 19 (2 : Int32)) _ ) rfl rfl rfl (by decide +kernel : fb_hd yX12_thrown 0) ⟨Nat.le_of_ble_eq_true rfl, Nat.le_of_ble_eq_true rfl⟩ rfl rfl rfl rfl rfl (Nat.le_of_ble_eq_true rfl) ⟨Nat.le_of_ble_eq_true rfl, Nat.le_of_ble_eq_true rfl⟩ dL_law_852 I) ?_
  refine fb_tI (v := (2 : Int32)) rfl ?_
  refine lv_iload hx hb dL_law_855 (lv_at hl 1 rfl) ?_
  refine lv_icmp_eq (tgt := 862) hx hb dL_law_857 (by decide) (fun _ => ?_) (fun c5 => absurd rfl c5)
  refine lv_iload hx hb dL_law_862 (lv_at hl 1 rfl) ?_
  refine lv_if_ne (tgt := 879) hx hb dL_law_864 (by decide) (fun _ => ?_) (fun c6 => absurd c6 (by decide))
  refine lv_goto (tgt := 2336) hx hb dL_law_879 (by decide) ?_
  exact lw_end X hX hbl hbA (by omega) I (lv_sub hl [2, 6] rfl) (Nat.le_of_ble_eq_true rfl) (Nat.le_of_ble_eq_true rfl)

set_option maxHeartbeats 4000000 in
set_option maxRecDepth 100000 in
theorem lc_13_m0 {p : Program} {l : Launch} {e : Env} {s : State} {m : MethodId} {below : List Frame} {meth : Method} {c : Code} {H : Heap} {locs : List Loc} {ls : Array Slot} {D : va_G} {cI cJ : ClassId} {b L : Nat} {xs : Nat → Int32} {zb : Nat} {zt : Nat} {zn : Nat} {zv : Nat} {zs : Nat} {zp : Nat} {zq : Nat → Nat} {zu : Nat → Nat} {zh : Nat} {zst : Nat} {zre : Nat} {zx : Nat} {zg : Nat → Int64} {za : Nat} {zr : Nat → Nat} (hst : l.stackTraces = false) (X : fb_Bx p s m #[Value.ref b] meth c cL_law RL 9 (some .boolean) D (fb_ty D cI cJ) (fun q : Nat => s.heap.size ≤ q)) (hX : va_X b L xs s s.heap) (hbl : b < s.heap.size) (hbA : ¬ (fun q : Nat => s.heap.size ≤ q) b) (hL6 : L = 6) (hz : xs 1 = 0) (r0 : ¬ (0 : Int32) < 0) (r4 : (0 : Int32) ≤ (4 : Int32)) (e4 : ¬ (0 : Int32) = (4 : Int32)) (e3 : ¬ (0 : Int32) = (3 : Int32)) (v0 : ¬ (xs 2) < 0) (v1 : ¬ (xs 2) ≤ (255 : Int32)) (q1 : f_X12_isIn (xs 2) (0 : Int32) (255 : Int32) = (0 : Int32)) (I : fb_In D (fun q : Nat => s.heap.size ≤ q) s.heap (([fb_o11 zb zt zn zv zs zp (zq 0) (zu 0) zh zst zre, fb_jw cJ zx 1 zg, fb_o12 za zr fr_e0] : List va_W).flatten) H locs) (hl : lv_has ls 9 [(4, .int (0 : Int32)), (3, .ref zx), (2, .ref za), (1, .ref zb), (0, .ref b)]) : W p l e room_1 s m #[Value.ref b] below meth c H locs 209 179241 (lw_Z below #[Value.ref b] s) (F0 m 814 ls []) := by
  obtain ⟨hx, hb, hr, hml, hown, hts, hlk, hA, hK, hF⟩ := id X
  refine lv_aload_n hx hb dL_law_814 rfl (lv_at hl 3 rfl) ?_
  refine lv_aload_n hx hb dL_law_815 rfl (lv_at hl 4 rfl) ?_
  refine lv_iload hx hb dL_law_816 (lv_at hl 0 rfl) ?_
  refine lv_iconst (v := (1 : Int32)) hx hb dL_law_818 (by decide) ?_
  refine lv_iadd hx hb dL_law_819 ?_
  refine fb_tI (v := (1 : Int32)) (by decide) ?_
  refine va_sld (i := (1 : Int32)) hx hb hX hbl hbA I.2.2 (fb_inC (n := 1) (by decide) (by decide) (by omega)) dL_law_820 ?_
  refine fb_tI (v := (xs 1)) rfl ?_
  refine fb_tI (v := (0 : Int32)) hz ?_
  refine lv_aload_n hx hb dL_law_821 rfl (lv_at hl 4 rfl) ?_
  refine lv_iload hx hb dL_law_822 (lv_at hl 0 rfl) ?_
  refine lv_iconst (v := (2 : Int32)) hx hb dL_law_824 (by decide) ?_
  refine lv_iadd hx hb dL_law_825 ?_
  refine fb_tI (v := (2 : Int32)) (by decide) ?_
  refine va_sld (i := (2 : Int32)) hx hb hX hbl hbA I.2.2 (fb_inC (n := 2) (by decide) (by decide) (by omega)) dL_law_826 ?_
  refine fb_tI (v := (xs 2)) rfl ?_
  refine lv_aload_n hx hb dL_law_827 rfl (lv_at hl 1 rfl) ?_
  refine fb_gI (cs := [fb_o11 zb zt zn zv zs zp (zq 0) (zu 0) zh zst zre, fb_jw cJ zx 1 zg]) (rs := [fb_o12 za zr fr_e0]) (fun (t : Unit) => [fb_jw cJ zx 1 zg, fb_o12 za zr fr_e0]) (fun (t : Unit) => [fb_jw cJ zx 1 zg]) X I [0, 1, 2] 3 rfl (by decide +kernel) rfl rfl [0, 1] 2 (fun _ => rfl) (by decide +kernel) (fun _ => rfl) (fun _ => rfl) (fun I => fb_rSW (As := [.ref zb, .int (0 : Int32), .int (xs 2), .ref zx]) (rest := []) X hl (fb_goodSW fw_1759 fw_1760 fw_190 fw_1761) (c_w_setRegister_rm l D cI cJ zb zt zn zv zs zp zq zu zh zst zre zx zg (0 : Int32) (xs 2) _ hst r0 r4 e4 e3 v0 v1) rfl rfl (by decide +kernel : fb_hd yL_setRegister 4) ⟨Nat.le_of_ble_eq_true rfl, Nat.le_of_ble_eq_true rfl⟩ rfl rfl (Nat.le_of_ble_eq_true rfl) ⟨Nat.le_of_ble_eq_true rfl, Nat.le_of_ble_eq_true rfl⟩ dL_law_828 I) ?_
  intro r2 w1 H locs e0 I
  subst e0
  have I : fb_In D (fun q : Nat => s.heap.size ≤ q) s.heap (([fb_jw cJ zx 1 zg, fb_o12 za zr fr_e0] : List va_W).flatten) H locs := I
  refine lv_istore (lv' := [(5, .int (2 : Int32)), (4, .int (0 : Int32)), (3, .ref zx), (2, .ref za), (1, .ref zb), (0, .ref b)]) hx hb dL_law_831 hl (by decide) rfl (fun ls hl => ?_)
  refine lv_aload_n hx hb dL_law_833 rfl (lv_at hl 3 rfl) ?_
  refine lv_aload_n hx hb dL_law_834 rfl (lv_at hl 5 rfl) ?_
  refine lv_iload hx hb dL_law_835 (lv_at hl 1 rfl) ?_
  refine lv_iconst (v := (1 : Int32)) hx hb dL_law_837 (by decide) ?_
  refine lv_iadd hx hb dL_law_838 ?_
  refine fb_tI (v := (1 : Int32)) (by decide) ?_
  refine va_sld (i := (1 : Int32)) hx hb hX hbl hbA I.2.2 (fb_inC (n := 1) (by decide) (by decide) (by omega)) dL_law_839 ?_
  refine fb_tI (v := (xs 1)) rfl ?_
  refine fb_tI (v := (0 : Int32)) hz ?_
  refine lv_aload_n hx hb dL_law_840 rfl (lv_at hl 5 rfl) ?_
  refine lv_iload hx hb dL_law_841 (lv_at hl 1 rfl) ?_
  refine lv_iconst (v := (2 : Int32)) hx hb dL_law_843 (by decide) ?_
  refine lv_iadd hx hb dL_law_844 ?_
  refine fb_tI (v := (2 : Int32)) (by decide) ?_
  refine va_sld (i := (2 : Int32)) hx hb hX hbl hbA I.2.2 (fb_inC (n := 2) (by decide) (by decide) (by omega)) dL_law_845 ?_
  refine fb_tI (v := (xs 2)) rfl ?_
  refine fb_gI (cs := [fb_o12 za zr fr_e0]) (rs := [fb_jw cJ zx 1 zg]) (fun (t : Unit) => [fb_jw cJ zx 1 zg, fb_o12 za zr (upd (upd fr_e0 19 (0 : Int32)) 19 (2 : Int32))]) (fun (t : Unit) => [fb_o12 za zr (upd (upd fr_e0 19 (0 : Int32)) 19 (2 : Int32))]) X I [1, 0] 2 rfl (by decide +kernel) rfl rfl [1, 0] 2 (fun _ => rfl) (by decide +kernel) (fun _ => rfl) (fun _ => rfl) (fun I => fb_rV (As := [.int (0 : Int32), .int (xs 2)]) (rest := []) X hl (fb_goodV fw_2394 fw_2395 fw_2396 fw_204 fw_2397) (c_setRegister_bad0 l D cI cJ za zr (xs 2) _ q1) rfl rfl rfl (by decide +kernel : fb_hd yX12_setRegister 2) ⟨Nat.le_of_ble_eq_true rfl, Nat.le_of_ble_eq_true rfl⟩ rfl rfl rfl rfl rfl (Nat.le_of_ble_eq_true rfl) ⟨Nat.le_of_ble_eq_true rfl, Nat.le_of_ble_eq_true rfl⟩ dL_law_846 I) ?_
  intro r4 w3 H locs e0 I
  subst e0
  have I : fb_In D (fun q : Nat => s.heap.size ≤ q) s.heap (([fb_jw cJ zx 1 zg, fb_o12 za zr (upd (upd fr_e0 19 (0 : Int32)) 19 (2 : Int32))] : List va_W).flatten) H locs := I
  refine lv_istore (lv' := [(6, .int (0 : Int32)), (5, .int (2 : Int32)), (4, .int (0 : Int32)), (3, .ref zx), (2, .ref za), (1, .ref zb), (0, .ref b)]) hx hb dL_law_849 hl (by decide) rfl (fun ls hl => ?_)
  refine lv_aload_n hx hb dL_law_851 rfl (lv_at hl 4 rfl) ?_
  refine fb_gO (cs := [fb_o12 za zr (upd (upd fr_e0 19 (0 : Int32)) 19 (2 : Int32))]) (rs := [fb_jw cJ zx 1 zg]) X I [1, 0] 2 rfl (by decide +kernel) rfl rfl (fun I => fb_rV (As := []) (rest := []) X hl (fb_goodV fw_2119 fw_2120 fw_2121 fw_204 fw_2122) (c_thrown l D cI cJ za zr (upd (upd fr_e0 19 (0 : Int32)) 19 (2 : Int32)) _ ) rfl rfl rfl (by decide +kernel : fb_hd yX12_thrown 0) ⟨Nat.le_of_ble_eq_true rfl, Nat.le_of_ble_eq_true rfl⟩ rfl rfl rfl rfl rfl (Nat.le_of_ble_eq_true rfl) ⟨Nat.le_of_ble_eq_true rfl, Nat.le_of_ble_eq_true rfl⟩ dL_law_852 I) ?_
  refine fb_tI (v := (2 : Int32)) rfl ?_
  refine lv_iload hx hb dL_law_855 (lv_at hl 1 rfl) ?_
  refine lv_icmp_eq (tgt := 862) hx hb dL_law_857 (by decide) (fun _ => ?_) (fun c5 => absurd rfl c5)
  refine lv_iload hx hb dL_law_862 (lv_at hl 1 rfl) ?_
  refine lv_if_ne (tgt := 879) hx hb dL_law_864 (by decide) (fun _ => ?_) (fun c6 => absurd c6 (by decide))
  refine lv_goto (tgt := 2336) hx hb dL_law_879 (by decide) ?_
  exact lw_end X hX hbl hbA (by omega) I (lv_sub hl [2, 6] rfl) (Nat.le_of_ble_eq_true rfl) (Nat.le_of_ble_eq_true rfl)

set_option maxHeartbeats 4000000 in
set_option maxRecDepth 100000 in
theorem lc_13_i0 {p : Program} {l : Launch} {e : Env} {s : State} {m : MethodId} {below : List Frame} {meth : Method} {c : Code} {H : Heap} {locs : List Loc} {ls : Array Slot} {D : va_G} {cI cJ : ClassId} {b L : Nat} {xs : Nat → Int32} {zb : Nat} {zt : Nat} {zn : Nat} {zv : Nat} {zs : Nat} {zp : Nat} {zq : Nat → Nat} {zu : Nat → Nat} {zh : Nat} {zst : Nat} {zre : Nat} {zw : fb_AR} {zo : Nat → Nat} {zi : Nat → Nat} {zx : Nat} {zg : Nat → Int64} {za : Nat} {zr : Nat → Nat} {zv9 : Nat} (hst : l.stackTraces = false) (X : fb_Bx p s m #[Value.ref b] meth c cL_law RL 9 (some .boolean) D (fb_ty D cI cJ) (fun q : Nat => s.heap.size ≤ q)) (hX : va_X b L xs s s.heap) (hbl : b < s.heap.size) (hbA : ¬ (fun q : Nat => s.heap.size ≤ q) b) (hL6 : L = 6) (hz : xs 1 = 0) (hw : xs 2 = nI zv9) (hv : zv9 ≤ 255) (I : fb_In D (fun q : Nat => s.heap.size ≤ q) s.heap (([fb_o11 zb zt zn zv zs zp (zq 0) (zu 0) zh zst zre, fb_mw cI zq fb_s0 zw, fb_o0 zh (zo 0) (zi 0) fb_h0, fb_jw cJ zx 1 zg, fb_o12 za zr fr_e0, fb_aw cI (zr 0) 16205 (fr_m (fun _ => 0) 0)] : List va_W).flatten) H locs) (hl : lv_has ls 9 [(4, .int (0 : Int32)), (3, .ref zx), (2, .ref za), (1, .ref zb), (0, .ref b)]) : W p l e room_1 s m #[Value.ref b] below meth c H locs 209 179241 (lw_Z below #[Value.ref b] s) (F0 m 814 ls []) := by
  obtain ⟨hx, hb, hr, hml, hown, hts, hlk, hA, hK, hF⟩ := id X
  refine lv_aload_n hx hb dL_law_814 rfl (lv_at hl 3 rfl) ?_
  refine lv_aload_n hx hb dL_law_815 rfl (lv_at hl 4 rfl) ?_
  refine lv_iload hx hb dL_law_816 (lv_at hl 0 rfl) ?_
  refine lv_iconst (v := (1 : Int32)) hx hb dL_law_818 (by decide) ?_
  refine lv_iadd hx hb dL_law_819 ?_
  refine fb_tI (v := (1 : Int32)) (by decide) ?_
  refine va_sld (i := (1 : Int32)) hx hb hX hbl hbA I.2.2 (fb_inC (n := 1) (by decide) (by decide) (by omega)) dL_law_820 ?_
  refine fb_tI (v := (xs 1)) rfl ?_
  refine fb_tI (v := (0 : Int32)) hz ?_
  refine lv_aload_n hx hb dL_law_821 rfl (lv_at hl 4 rfl) ?_
  refine lv_iload hx hb dL_law_822 (lv_at hl 0 rfl) ?_
  refine lv_iconst (v := (2 : Int32)) hx hb dL_law_824 (by decide) ?_
  refine lv_iadd hx hb dL_law_825 ?_
  refine fb_tI (v := (2 : Int32)) (by decide) ?_
  refine va_sld (i := (2 : Int32)) hx hb hX hbl hbA I.2.2 (fb_inC (n := 2) (by decide) (by decide) (by omega)) dL_law_826 ?_
  refine fb_tI (v := (xs 2)) rfl ?_
  refine fb_tI (v := (nI zv9)) hw ?_
  refine lv_aload_n hx hb dL_law_827 rfl (lv_at hl 1 rfl) ?_
  refine fb_gI (cs := [fb_o11 zb zt zn zv zs zp (zq 0) (zu 0) zh zst zre, fb_mw cI zq fb_s0 zw, fb_o0 zh (zo 0) (zi 0) fb_h0, fb_jw cJ zx 1 zg]) (rs := [fb_o12 za zr fr_e0, fb_aw cI (zr 0) 16205 (fr_m (fun _ => 0) 0)]) (fun (t : Unit) => [fb_jw cJ zx 1 (vp_updL zg 0 (((0 : Int32)).toInt64)), fb_o12 za zr fr_e0, fb_aw cI (zr 0) 16205 (fr_m (fun _ => 0) 0)]) (fun (t : Unit) => [fb_jw cJ zx 1 (vp_updL zg 0 (((0 : Int32)).toInt64))]) X I [0, 1, 2, 3, 4, 5] 6 rfl (by decide +kernel) rfl rfl [0, 1, 2] 3 (fun _ => rfl) (by decide +kernel) (fun _ => rfl) (fun _ => rfl) (fun I => fb_rSW (As := [.ref zb, .int (0 : Int32), .int (nI zv9), .ref zx]) (rest := []) X hl (fb_goodSW fw_1759 fw_1760 fw_190 fw_1761) (c_w_setRegister_0 l D cI cJ zb zt zn zv zs zp zq zu zh zst zre zw zo zi zx zg zv9 _ hst (by omega)) rfl rfl (by decide +kernel : fb_hd yL_setRegister 4) ⟨Nat.le_of_ble_eq_true rfl, Nat.le_of_ble_eq_true rfl⟩ rfl rfl (Nat.le_of_ble_eq_true rfl) ⟨Nat.le_of_ble_eq_true rfl, Nat.le_of_ble_eq_true rfl⟩ dL_law_828 I) ?_
  intro r2 w1 H locs e0 I
  subst e0
  have I : fb_In D (fun q : Nat => s.heap.size ≤ q) s.heap (([fb_jw cJ zx 1 (vp_updL zg 0 (((0 : Int32)).toInt64)), fb_o12 za zr fr_e0, fb_aw cI (zr 0) 16205 (fr_m (fun _ => 0) 0)] : List va_W).flatten) H locs := I
  refine lv_istore (lv' := [(5, .int (0 : Int32)), (4, .int (0 : Int32)), (3, .ref zx), (2, .ref za), (1, .ref zb), (0, .ref b)]) hx hb dL_law_831 hl (by decide) rfl (fun ls hl => ?_)
  refine lv_aload_n hx hb dL_law_833 rfl (lv_at hl 3 rfl) ?_
  refine lv_aload_n hx hb dL_law_834 rfl (lv_at hl 5 rfl) ?_
  refine lv_iload hx hb dL_law_835 (lv_at hl 1 rfl) ?_
  refine lv_iconst (v := (1 : Int32)) hx hb dL_law_837 (by decide) ?_
  refine lv_iadd hx hb dL_law_838 ?_
  refine fb_tI (v := (1 : Int32)) (by decide) ?_
  refine va_sld (i := (1 : Int32)) hx hb hX hbl hbA I.2.2 (fb_inC (n := 1) (by decide) (by decide) (by omega)) dL_law_839 ?_
  refine fb_tI (v := (xs 1)) rfl ?_
  refine fb_tI (v := (0 : Int32)) hz ?_
  refine lv_aload_n hx hb dL_law_840 rfl (lv_at hl 5 rfl) ?_
  refine lv_iload hx hb dL_law_841 (lv_at hl 1 rfl) ?_
  refine lv_iconst (v := (2 : Int32)) hx hb dL_law_843 (by decide) ?_
  refine lv_iadd hx hb dL_law_844 ?_
  refine fb_tI (v := (2 : Int32)) (by decide) ?_
  refine va_sld (i := (2 : Int32)) hx hb hX hbl hbA I.2.2 (fb_inC (n := 2) (by decide) (by decide) (by omega)) dL_law_845 ?_
  refine fb_tI (v := (xs 2)) rfl ?_
  refine fb_tI (v := (nI zv9)) hw ?_
  refine fb_gI (cs := [fb_o12 za zr fr_e0, fb_aw cI (zr 0) 16205 (fr_m (fun _ => 0) 0)]) (rs := [fb_jw cJ zx 1 (vp_updL zg 0 (((0 : Int32)).toInt64))]) (fun (t : Unit) => [fb_jw cJ zx 1 (vp_updL zg 0 (((0 : Int32)).toInt64)), fb_o12 za zr (upd (upd fr_e0 19 (0 : Int32)) 2 (0 : Int32)), fb_aw cI (zr 0) 16205 (upd (fr_m (fun _ => 0) 0) 0 (nI zv9))]) (fun (t : Unit) => [fb_o12 za zr (upd (upd fr_e0 19 (0 : Int32)) 2 (0 : Int32)), fb_aw cI (zr 0) 16205 (upd (fr_m (fun _ => 0) 0) 0 (nI zv9))]) X I [1, 2, 0] 3 rfl (by decide +kernel) rfl rfl [1, 2, 0] 3 (fun _ => rfl) (by decide +kernel) (fun _ => rfl) (fun _ => rfl) (fun I => fb_rV (As := [.int (0 : Int32), .int (nI zv9)]) (rest := []) X hl (fb_goodV fw_2394 fw_2395 fw_2396 fw_204 fw_2397) (c_setRegister_0 l D cI cJ za zr (nI zv9) _ (fr_inN (z := zv9) (a := 0) (b := 255) (by omega) (by omega) (by omega))) rfl rfl rfl (by decide +kernel : fb_hd yX12_setRegister 2) ⟨Nat.le_of_ble_eq_true rfl, Nat.le_of_ble_eq_true rfl⟩ rfl rfl rfl rfl rfl (Nat.le_of_ble_eq_true rfl) ⟨Nat.le_of_ble_eq_true rfl, Nat.le_of_ble_eq_true rfl⟩ dL_law_846 I) ?_
  intro r4 w3 H locs e0 I
  subst e0
  have I : fb_In D (fun q : Nat => s.heap.size ≤ q) s.heap (([fb_jw cJ zx 1 (vp_updL zg 0 (((0 : Int32)).toInt64)), fb_o12 za zr (upd (upd fr_e0 19 (0 : Int32)) 2 (0 : Int32)), fb_aw cI (zr 0) 16205 (upd (fr_m (fun _ => 0) 0) 0 (nI zv9))] : List va_W).flatten) H locs := I
  refine lv_istore (lv' := [(6, .int (0 : Int32)), (5, .int (0 : Int32)), (4, .int (0 : Int32)), (3, .ref zx), (2, .ref za), (1, .ref zb), (0, .ref b)]) hx hb dL_law_849 hl (by decide) rfl (fun ls hl => ?_)
  refine lv_aload_n hx hb dL_law_851 rfl (lv_at hl 4 rfl) ?_
  refine fb_gO (cs := [fb_o12 za zr (upd (upd fr_e0 19 (0 : Int32)) 2 (0 : Int32))]) (rs := [fb_jw cJ zx 1 (vp_updL zg 0 (((0 : Int32)).toInt64)), fb_aw cI (zr 0) 16205 (upd (fr_m (fun _ => 0) 0) 0 (nI zv9))]) X I [1, 0, 2] 3 rfl (by decide +kernel) rfl rfl (fun I => fb_rV (As := []) (rest := []) X hl (fb_goodV fw_2119 fw_2120 fw_2121 fw_204 fw_2122) (c_thrown l D cI cJ za zr (upd (upd fr_e0 19 (0 : Int32)) 2 (0 : Int32)) _ ) rfl rfl rfl (by decide +kernel : fb_hd yX12_thrown 0) ⟨Nat.le_of_ble_eq_true rfl, Nat.le_of_ble_eq_true rfl⟩ rfl rfl rfl rfl rfl (Nat.le_of_ble_eq_true rfl) ⟨Nat.le_of_ble_eq_true rfl, Nat.le_of_ble_eq_true rfl⟩ dL_law_852 I) ?_
  refine fb_tI (v := (0 : Int32)) rfl ?_
  refine lv_iload hx hb dL_law_855 (lv_at hl 1 rfl) ?_
  refine lv_icmp_eq (tgt := 862) hx hb dL_law_857 (by decide) (fun _ => ?_) (fun c5 => absurd rfl c5)
  refine lv_iload hx hb dL_law_862 (lv_at hl 1 rfl) ?_
  refine lv_if_ne (tgt := 879) hx hb dL_law_864 (by decide) (fun c6 => absurd (by decide) c6) (fun _ => ?_)
  refine lv_aload_n hx hb dL_law_867 rfl (lv_at hl 3 rfl) ?_
  refine lv_iconst (v := (0 : Int32)) hx hb dL_law_868 (by decide) ?_
  refine va_lald (i := (0 : Int32)) hx hb hK.1 I.1 0 1 rfl rfl (fb_inC (n := 0) (by decide) (by decide) (Nat.le_of_ble_eq_true rfl)) dL_law_869 ?_
  refine fb_tL (v := (((0 : Int32)).toInt64)) rfl ?_
  refine lv_iload hx hb dL_law_870 (lv_at hl 0 rfl) ?_
  refine lv_i2l (v := (((0 : Int32)).toInt64)) hx hb dL_law_872 rfl ?_
  refine W.lcmp hx hb dL_law_873 ?_
  refine fb_tI (v := (0 : Int32)) (lw_cmp0 _) ?_
  refine lv_if_eq (tgt := 879) hx hb dL_law_874 (by decide) (fun _ => ?_) (fun c7 => absurd (by decide) c7)
  refine lv_goto (tgt := 2336) hx hb dL_law_879 (by decide) ?_
  exact lw_end X hX hbl hbA (by omega) I (lv_sub hl [2, 6] rfl) (Nat.le_of_ble_eq_true rfl) (Nat.le_of_ble_eq_true rfl)

set_option maxHeartbeats 4000000 in
set_option maxRecDepth 100000 in
theorem lc_13_n1 {p : Program} {l : Launch} {e : Env} {s : State} {m : MethodId} {below : List Frame} {meth : Method} {c : Code} {H : Heap} {locs : List Loc} {ls : Array Slot} {D : va_G} {cI cJ : ClassId} {b L : Nat} {xs : Nat → Int32} {zb : Nat} {zt : Nat} {zn : Nat} {zv : Nat} {zs : Nat} {zp : Nat} {zq : Nat → Nat} {zu : Nat → Nat} {zh : Nat} {zst : Nat} {zre : Nat} {zx : Nat} {zg : Nat → Int64} {za : Nat} {zr : Nat → Nat} (hst : l.stackTraces = false) (X : fb_Bx p s m #[Value.ref b] meth c cL_law RL 9 (some .boolean) D (fb_ty D cI cJ) (fun q : Nat => s.heap.size ≤ q)) (hX : va_X b L xs s s.heap) (hbl : b < s.heap.size) (hbA : ¬ (fun q : Nat => s.heap.size ≤ q) b) (hL6 : L = 6) (hz : xs 1 = 1) (r0 : ¬ (1 : Int32) < 0) (r4 : (1 : Int32) ≤ (4 : Int32)) (e4 : ¬ (1 : Int32) = (4 : Int32)) (e3 : ¬ (1 : Int32) = (3 : Int32)) (v0 : (xs 2) < 0) (q1 : f_X12_isIn (xs 2) (0 : Int32) (255 : Int32) = (0 : Int32)) (I : fb_In D (fun q : Nat => s.heap.size ≤ q) s.heap (([fb_o11 zb zt zn zv zs zp (zq 0) (zu 0) zh zst zre, fb_jw cJ zx 1 zg, fb_o12 za zr fr_e0] : List va_W).flatten) H locs) (hl : lv_has ls 9 [(4, .int (0 : Int32)), (3, .ref zx), (2, .ref za), (1, .ref zb), (0, .ref b)]) : W p l e room_1 s m #[Value.ref b] below meth c H locs 209 179241 (lw_Z below #[Value.ref b] s) (F0 m 814 ls []) := by
  obtain ⟨hx, hb, hr, hml, hown, hts, hlk, hA, hK, hF⟩ := id X
  refine lv_aload_n hx hb dL_law_814 rfl (lv_at hl 3 rfl) ?_
  refine lv_aload_n hx hb dL_law_815 rfl (lv_at hl 4 rfl) ?_
  refine lv_iload hx hb dL_law_816 (lv_at hl 0 rfl) ?_
  refine lv_iconst (v := (1 : Int32)) hx hb dL_law_818 (by decide) ?_
  refine lv_iadd hx hb dL_law_819 ?_
  refine fb_tI (v := (1 : Int32)) (by decide) ?_
  refine va_sld (i := (1 : Int32)) hx hb hX hbl hbA I.2.2 (fb_inC (n := 1) (by decide) (by decide) (by omega)) dL_law_820 ?_
  refine fb_tI (v := (xs 1)) rfl ?_
  refine fb_tI (v := (1 : Int32)) hz ?_
  refine lv_aload_n hx hb dL_law_821 rfl (lv_at hl 4 rfl) ?_
  refine lv_iload hx hb dL_law_822 (lv_at hl 0 rfl) ?_
  refine lv_iconst (v := (2 : Int32)) hx hb dL_law_824 (by decide) ?_
  refine lv_iadd hx hb dL_law_825 ?_
  refine fb_tI (v := (2 : Int32)) (by decide) ?_
  refine va_sld (i := (2 : Int32)) hx hb hX hbl hbA I.2.2 (fb_inC (n := 2) (by decide) (by decide) (by omega)) dL_law_826 ?_
  refine fb_tI (v := (xs 2)) rfl ?_
  refine lv_aload_n hx hb dL_law_827 rfl (lv_at hl 1 rfl) ?_
  refine fb_gI (cs := [fb_o11 zb zt zn zv zs zp (zq 0) (zu 0) zh zst zre, fb_jw cJ zx 1 zg]) (rs := [fb_o12 za zr fr_e0]) (fun (t : Unit) => [fb_jw cJ zx 1 zg, fb_o12 za zr fr_e0]) (fun (t : Unit) => [fb_jw cJ zx 1 zg]) X I [0, 1, 2] 3 rfl (by decide +kernel) rfl rfl [0, 1] 2 (fun _ => rfl) (by decide +kernel) (fun _ => rfl) (fun _ => rfl) (fun I => fb_rSW (As := [.ref zb, .int (1 : Int32), .int (xs 2), .ref zx]) (rest := []) X hl (fb_goodSW fw_1759 fw_1760 fw_190 fw_1761) (c_w_setRegister_rn l D cI cJ zb zt zn zv zs zp zq zu zh zst zre zx zg (1 : Int32) (xs 2) _ hst r0 r4 e4 e3 v0) rfl rfl (by decide +kernel : fb_hd yL_setRegister 4) ⟨Nat.le_of_ble_eq_true rfl, Nat.le_of_ble_eq_true rfl⟩ rfl rfl (Nat.le_of_ble_eq_true rfl) ⟨Nat.le_of_ble_eq_true rfl, Nat.le_of_ble_eq_true rfl⟩ dL_law_828 I) ?_
  intro r2 w1 H locs e0 I
  subst e0
  have I : fb_In D (fun q : Nat => s.heap.size ≤ q) s.heap (([fb_jw cJ zx 1 zg, fb_o12 za zr fr_e0] : List va_W).flatten) H locs := I
  refine lv_istore (lv' := [(5, .int (2 : Int32)), (4, .int (0 : Int32)), (3, .ref zx), (2, .ref za), (1, .ref zb), (0, .ref b)]) hx hb dL_law_831 hl (by decide) rfl (fun ls hl => ?_)
  refine lv_aload_n hx hb dL_law_833 rfl (lv_at hl 3 rfl) ?_
  refine lv_aload_n hx hb dL_law_834 rfl (lv_at hl 5 rfl) ?_
  refine lv_iload hx hb dL_law_835 (lv_at hl 1 rfl) ?_
  refine lv_iconst (v := (1 : Int32)) hx hb dL_law_837 (by decide) ?_
  refine lv_iadd hx hb dL_law_838 ?_
  refine fb_tI (v := (1 : Int32)) (by decide) ?_
  refine va_sld (i := (1 : Int32)) hx hb hX hbl hbA I.2.2 (fb_inC (n := 1) (by decide) (by decide) (by omega)) dL_law_839 ?_
  refine fb_tI (v := (xs 1)) rfl ?_
  refine fb_tI (v := (1 : Int32)) hz ?_
  refine lv_aload_n hx hb dL_law_840 rfl (lv_at hl 5 rfl) ?_
  refine lv_iload hx hb dL_law_841 (lv_at hl 1 rfl) ?_
  refine lv_iconst (v := (2 : Int32)) hx hb dL_law_843 (by decide) ?_
  refine lv_iadd hx hb dL_law_844 ?_
  refine fb_tI (v := (2 : Int32)) (by decide) ?_
  refine va_sld (i := (2 : Int32)) hx hb hX hbl hbA I.2.2 (fb_inC (n := 2) (by decide) (by decide) (by omega)) dL_law_845 ?_
  refine fb_tI (v := (xs 2)) rfl ?_
  refine fb_gI (cs := [fb_o12 za zr fr_e0]) (rs := [fb_jw cJ zx 1 zg]) (fun (t : Unit) => [fb_jw cJ zx 1 zg, fb_o12 za zr (upd (upd fr_e0 19 (0 : Int32)) 19 (2 : Int32))]) (fun (t : Unit) => [fb_o12 za zr (upd (upd fr_e0 19 (0 : Int32)) 19 (2 : Int32))]) X I [1, 0] 2 rfl (by decide +kernel) rfl rfl [1, 0] 2 (fun _ => rfl) (by decide +kernel) (fun _ => rfl) (fun _ => rfl) (fun I => fb_rV (As := [.int (1 : Int32), .int (xs 2)]) (rest := []) X hl (fb_goodV fw_2394 fw_2395 fw_2396 fw_204 fw_2397) (c_setRegister_bad1 l D cI cJ za zr (xs 2) _ q1) rfl rfl rfl (by decide +kernel : fb_hd yX12_setRegister 2) ⟨Nat.le_of_ble_eq_true rfl, Nat.le_of_ble_eq_true rfl⟩ rfl rfl rfl rfl rfl (Nat.le_of_ble_eq_true rfl) ⟨Nat.le_of_ble_eq_true rfl, Nat.le_of_ble_eq_true rfl⟩ dL_law_846 I) ?_
  intro r4 w3 H locs e0 I
  subst e0
  have I : fb_In D (fun q : Nat => s.heap.size ≤ q) s.heap (([fb_jw cJ zx 1 zg, fb_o12 za zr (upd (upd fr_e0 19 (0 : Int32)) 19 (2 : Int32))] : List va_W).flatten) H locs := I
  refine lv_istore (lv' := [(6, .int (0 : Int32)), (5, .int (2 : Int32)), (4, .int (0 : Int32)), (3, .ref zx), (2, .ref za), (1, .ref zb), (0, .ref b)]) hx hb dL_law_849 hl (by decide) rfl (fun ls hl => ?_)
  refine lv_aload_n hx hb dL_law_851 rfl (lv_at hl 4 rfl) ?_
  refine fb_gO (cs := [fb_o12 za zr (upd (upd fr_e0 19 (0 : Int32)) 19 (2 : Int32))]) (rs := [fb_jw cJ zx 1 zg]) X I [1, 0] 2 rfl (by decide +kernel) rfl rfl (fun I => fb_rV (As := []) (rest := []) X hl (fb_goodV fw_2119 fw_2120 fw_2121 fw_204 fw_2122) (c_thrown l D cI cJ za zr (upd (upd fr_e0 19 (0 : Int32)) 19 (2 : Int32)) _ ) rfl rfl rfl (by decide +kernel : fb_hd yX12_thrown 0) ⟨Nat.le_of_ble_eq_true rfl, Nat.le_of_ble_eq_true rfl⟩ rfl rfl rfl rfl rfl (Nat.le_of_ble_eq_true rfl) ⟨Nat.le_of_ble_eq_true rfl, Nat.le_of_ble_eq_true rfl⟩ dL_law_852 I) ?_
  refine fb_tI (v := (2 : Int32)) rfl ?_
  refine lv_iload hx hb dL_law_855 (lv_at hl 1 rfl) ?_
  refine lv_icmp_eq (tgt := 862) hx hb dL_law_857 (by decide) (fun _ => ?_) (fun c5 => absurd rfl c5)
  refine lv_iload hx hb dL_law_862 (lv_at hl 1 rfl) ?_
  refine lv_if_ne (tgt := 879) hx hb dL_law_864 (by decide) (fun _ => ?_) (fun c6 => absurd c6 (by decide))
  refine lv_goto (tgt := 2336) hx hb dL_law_879 (by decide) ?_
  exact lw_end X hX hbl hbA (by omega) I (lv_sub hl [2, 6] rfl) (Nat.le_of_ble_eq_true rfl) (Nat.le_of_ble_eq_true rfl)

set_option maxHeartbeats 4000000 in
set_option maxRecDepth 100000 in
theorem lc_13_m1 {p : Program} {l : Launch} {e : Env} {s : State} {m : MethodId} {below : List Frame} {meth : Method} {c : Code} {H : Heap} {locs : List Loc} {ls : Array Slot} {D : va_G} {cI cJ : ClassId} {b L : Nat} {xs : Nat → Int32} {zb : Nat} {zt : Nat} {zn : Nat} {zv : Nat} {zs : Nat} {zp : Nat} {zq : Nat → Nat} {zu : Nat → Nat} {zh : Nat} {zst : Nat} {zre : Nat} {zx : Nat} {zg : Nat → Int64} {za : Nat} {zr : Nat → Nat} (hst : l.stackTraces = false) (X : fb_Bx p s m #[Value.ref b] meth c cL_law RL 9 (some .boolean) D (fb_ty D cI cJ) (fun q : Nat => s.heap.size ≤ q)) (hX : va_X b L xs s s.heap) (hbl : b < s.heap.size) (hbA : ¬ (fun q : Nat => s.heap.size ≤ q) b) (hL6 : L = 6) (hz : xs 1 = 1) (r0 : ¬ (1 : Int32) < 0) (r4 : (1 : Int32) ≤ (4 : Int32)) (e4 : ¬ (1 : Int32) = (4 : Int32)) (e3 : ¬ (1 : Int32) = (3 : Int32)) (v0 : ¬ (xs 2) < 0) (v1 : ¬ (xs 2) ≤ (255 : Int32)) (q1 : f_X12_isIn (xs 2) (0 : Int32) (255 : Int32) = (0 : Int32)) (I : fb_In D (fun q : Nat => s.heap.size ≤ q) s.heap (([fb_o11 zb zt zn zv zs zp (zq 0) (zu 0) zh zst zre, fb_jw cJ zx 1 zg, fb_o12 za zr fr_e0] : List va_W).flatten) H locs) (hl : lv_has ls 9 [(4, .int (0 : Int32)), (3, .ref zx), (2, .ref za), (1, .ref zb), (0, .ref b)]) : W p l e room_1 s m #[Value.ref b] below meth c H locs 209 179241 (lw_Z below #[Value.ref b] s) (F0 m 814 ls []) := by
  obtain ⟨hx, hb, hr, hml, hown, hts, hlk, hA, hK, hF⟩ := id X
  refine lv_aload_n hx hb dL_law_814 rfl (lv_at hl 3 rfl) ?_
  refine lv_aload_n hx hb dL_law_815 rfl (lv_at hl 4 rfl) ?_
  refine lv_iload hx hb dL_law_816 (lv_at hl 0 rfl) ?_
  refine lv_iconst (v := (1 : Int32)) hx hb dL_law_818 (by decide) ?_
  refine lv_iadd hx hb dL_law_819 ?_
  refine fb_tI (v := (1 : Int32)) (by decide) ?_
  refine va_sld (i := (1 : Int32)) hx hb hX hbl hbA I.2.2 (fb_inC (n := 1) (by decide) (by decide) (by omega)) dL_law_820 ?_
  refine fb_tI (v := (xs 1)) rfl ?_
  refine fb_tI (v := (1 : Int32)) hz ?_
  refine lv_aload_n hx hb dL_law_821 rfl (lv_at hl 4 rfl) ?_
  refine lv_iload hx hb dL_law_822 (lv_at hl 0 rfl) ?_
  refine lv_iconst (v := (2 : Int32)) hx hb dL_law_824 (by decide) ?_
  refine lv_iadd hx hb dL_law_825 ?_
  refine fb_tI (v := (2 : Int32)) (by decide) ?_
  refine va_sld (i := (2 : Int32)) hx hb hX hbl hbA I.2.2 (fb_inC (n := 2) (by decide) (by decide) (by omega)) dL_law_826 ?_
  refine fb_tI (v := (xs 2)) rfl ?_
  refine lv_aload_n hx hb dL_law_827 rfl (lv_at hl 1 rfl) ?_
  refine fb_gI (cs := [fb_o11 zb zt zn zv zs zp (zq 0) (zu 0) zh zst zre, fb_jw cJ zx 1 zg]) (rs := [fb_o12 za zr fr_e0]) (fun (t : Unit) => [fb_jw cJ zx 1 zg, fb_o12 za zr fr_e0]) (fun (t : Unit) => [fb_jw cJ zx 1 zg]) X I [0, 1, 2] 3 rfl (by decide +kernel) rfl rfl [0, 1] 2 (fun _ => rfl) (by decide +kernel) (fun _ => rfl) (fun _ => rfl) (fun I => fb_rSW (As := [.ref zb, .int (1 : Int32), .int (xs 2), .ref zx]) (rest := []) X hl (fb_goodSW fw_1759 fw_1760 fw_190 fw_1761) (c_w_setRegister_rm l D cI cJ zb zt zn zv zs zp zq zu zh zst zre zx zg (1 : Int32) (xs 2) _ hst r0 r4 e4 e3 v0 v1) rfl rfl (by decide +kernel : fb_hd yL_setRegister 4) ⟨Nat.le_of_ble_eq_true rfl, Nat.le_of_ble_eq_true rfl⟩ rfl rfl (Nat.le_of_ble_eq_true rfl) ⟨Nat.le_of_ble_eq_true rfl, Nat.le_of_ble_eq_true rfl⟩ dL_law_828 I) ?_
  intro r2 w1 H locs e0 I
  subst e0
  have I : fb_In D (fun q : Nat => s.heap.size ≤ q) s.heap (([fb_jw cJ zx 1 zg, fb_o12 za zr fr_e0] : List va_W).flatten) H locs := I
  refine lv_istore (lv' := [(5, .int (2 : Int32)), (4, .int (0 : Int32)), (3, .ref zx), (2, .ref za), (1, .ref zb), (0, .ref b)]) hx hb dL_law_831 hl (by decide) rfl (fun ls hl => ?_)
  refine lv_aload_n hx hb dL_law_833 rfl (lv_at hl 3 rfl) ?_
  refine lv_aload_n hx hb dL_law_834 rfl (lv_at hl 5 rfl) ?_
  refine lv_iload hx hb dL_law_835 (lv_at hl 1 rfl) ?_
  refine lv_iconst (v := (1 : Int32)) hx hb dL_law_837 (by decide) ?_
  refine lv_iadd hx hb dL_law_838 ?_
  refine fb_tI (v := (1 : Int32)) (by decide) ?_
  refine va_sld (i := (1 : Int32)) hx hb hX hbl hbA I.2.2 (fb_inC (n := 1) (by decide) (by decide) (by omega)) dL_law_839 ?_
  refine fb_tI (v := (xs 1)) rfl ?_
  refine fb_tI (v := (1 : Int32)) hz ?_
  refine lv_aload_n hx hb dL_law_840 rfl (lv_at hl 5 rfl) ?_
  refine lv_iload hx hb dL_law_841 (lv_at hl 1 rfl) ?_
  refine lv_iconst (v := (2 : Int32)) hx hb dL_law_843 (by decide) ?_
  refine lv_iadd hx hb dL_law_844 ?_
  refine fb_tI (v := (2 : Int32)) (by decide) ?_
  refine va_sld (i := (2 : Int32)) hx hb hX hbl hbA I.2.2 (fb_inC (n := 2) (by decide) (by decide) (by omega)) dL_law_845 ?_
  refine fb_tI (v := (xs 2)) rfl ?_
  refine fb_gI (cs := [fb_o12 za zr fr_e0]) (rs := [fb_jw cJ zx 1 zg]) (fun (t : Unit) => [fb_jw cJ zx 1 zg, fb_o12 za zr (upd (upd fr_e0 19 (0 : Int32)) 19 (2 : Int32))]) (fun (t : Unit) => [fb_o12 za zr (upd (upd fr_e0 19 (0 : Int32)) 19 (2 : Int32))]) X I [1, 0] 2 rfl (by decide +kernel) rfl rfl [1, 0] 2 (fun _ => rfl) (by decide +kernel) (fun _ => rfl) (fun _ => rfl) (fun I => fb_rV (As := [.int (1 : Int32), .int (xs 2)]) (rest := []) X hl (fb_goodV fw_2394 fw_2395 fw_2396 fw_204 fw_2397) (c_setRegister_bad1 l D cI cJ za zr (xs 2) _ q1) rfl rfl rfl (by decide +kernel : fb_hd yX12_setRegister 2) ⟨Nat.le_of_ble_eq_true rfl, Nat.le_of_ble_eq_true rfl⟩ rfl rfl rfl rfl rfl (Nat.le_of_ble_eq_true rfl) ⟨Nat.le_of_ble_eq_true rfl, Nat.le_of_ble_eq_true rfl⟩ dL_law_846 I) ?_
  intro r4 w3 H locs e0 I
  subst e0
  have I : fb_In D (fun q : Nat => s.heap.size ≤ q) s.heap (([fb_jw cJ zx 1 zg, fb_o12 za zr (upd (upd fr_e0 19 (0 : Int32)) 19 (2 : Int32))] : List va_W).flatten) H locs := I
  refine lv_istore (lv' := [(6, .int (0 : Int32)), (5, .int (2 : Int32)), (4, .int (0 : Int32)), (3, .ref zx), (2, .ref za), (1, .ref zb), (0, .ref b)]) hx hb dL_law_849 hl (by decide) rfl (fun ls hl => ?_)
  refine lv_aload_n hx hb dL_law_851 rfl (lv_at hl 4 rfl) ?_
  refine fb_gO (cs := [fb_o12 za zr (upd (upd fr_e0 19 (0 : Int32)) 19 (2 : Int32))]) (rs := [fb_jw cJ zx 1 zg]) X I [1, 0] 2 rfl (by decide +kernel) rfl rfl (fun I => fb_rV (As := []) (rest := []) X hl (fb_goodV fw_2119 fw_2120 fw_2121 fw_204 fw_2122) (c_thrown l D cI cJ za zr (upd (upd fr_e0 19 (0 : Int32)) 19 (2 : Int32)) _ ) rfl rfl rfl (by decide +kernel : fb_hd yX12_thrown 0) ⟨Nat.le_of_ble_eq_true rfl, Nat.le_of_ble_eq_true rfl⟩ rfl rfl rfl rfl rfl (Nat.le_of_ble_eq_true rfl) ⟨Nat.le_of_ble_eq_true rfl, Nat.le_of_ble_eq_true rfl⟩ dL_law_852 I) ?_
  refine fb_tI (v := (2 : Int32)) rfl ?_
  refine lv_iload hx hb dL_law_855 (lv_at hl 1 rfl) ?_
  refine lv_icmp_eq (tgt := 862) hx hb dL_law_857 (by decide) (fun _ => ?_) (fun c5 => absurd rfl c5)
  refine lv_iload hx hb dL_law_862 (lv_at hl 1 rfl) ?_
  refine lv_if_ne (tgt := 879) hx hb dL_law_864 (by decide) (fun _ => ?_) (fun c6 => absurd c6 (by decide))
  refine lv_goto (tgt := 2336) hx hb dL_law_879 (by decide) ?_
  exact lw_end X hX hbl hbA (by omega) I (lv_sub hl [2, 6] rfl) (Nat.le_of_ble_eq_true rfl) (Nat.le_of_ble_eq_true rfl)

set_option maxHeartbeats 4000000 in
set_option maxRecDepth 100000 in
theorem lc_13_i1 {p : Program} {l : Launch} {e : Env} {s : State} {m : MethodId} {below : List Frame} {meth : Method} {c : Code} {H : Heap} {locs : List Loc} {ls : Array Slot} {D : va_G} {cI cJ : ClassId} {b L : Nat} {xs : Nat → Int32} {zb : Nat} {zt : Nat} {zn : Nat} {zv : Nat} {zs : Nat} {zp : Nat} {zq : Nat → Nat} {zu : Nat → Nat} {zh : Nat} {zst : Nat} {zre : Nat} {zw : fb_AR} {zo : Nat → Nat} {zi : Nat → Nat} {zx : Nat} {zg : Nat → Int64} {za : Nat} {zr : Nat → Nat} {zv9 : Nat} (hst : l.stackTraces = false) (X : fb_Bx p s m #[Value.ref b] meth c cL_law RL 9 (some .boolean) D (fb_ty D cI cJ) (fun q : Nat => s.heap.size ≤ q)) (hX : va_X b L xs s s.heap) (hbl : b < s.heap.size) (hbA : ¬ (fun q : Nat => s.heap.size ≤ q) b) (hL6 : L = 6) (hz : xs 1 = 1) (hw : xs 2 = nI zv9) (hv : zv9 ≤ 255) (I : fb_In D (fun q : Nat => s.heap.size ≤ q) s.heap (([fb_o11 zb zt zn zv zs zp (zq 0) (zu 0) zh zst zre, fb_mw cI zq fb_s0 zw, fb_o0 zh (zo 0) (zi 0) fb_h0, fb_jw cJ zx 1 zg, fb_o12 za zr fr_e0, fb_aw cI (zr 0) 16205 (fr_m (fun _ => 0) 0)] : List va_W).flatten) H locs) (hl : lv_has ls 9 [(4, .int (0 : Int32)), (3, .ref zx), (2, .ref za), (1, .ref zb), (0, .ref b)]) : W p l e room_1 s m #[Value.ref b] below meth c H locs 209 179241 (lw_Z below #[Value.ref b] s) (F0 m 814 ls []) := by
  obtain ⟨hx, hb, hr, hml, hown, hts, hlk, hA, hK, hF⟩ := id X
  refine lv_aload_n hx hb dL_law_814 rfl (lv_at hl 3 rfl) ?_
  refine lv_aload_n hx hb dL_law_815 rfl (lv_at hl 4 rfl) ?_
  refine lv_iload hx hb dL_law_816 (lv_at hl 0 rfl) ?_
  refine lv_iconst (v := (1 : Int32)) hx hb dL_law_818 (by decide) ?_
  refine lv_iadd hx hb dL_law_819 ?_
  refine fb_tI (v := (1 : Int32)) (by decide) ?_
  refine va_sld (i := (1 : Int32)) hx hb hX hbl hbA I.2.2 (fb_inC (n := 1) (by decide) (by decide) (by omega)) dL_law_820 ?_
  refine fb_tI (v := (xs 1)) rfl ?_
  refine fb_tI (v := (1 : Int32)) hz ?_
  refine lv_aload_n hx hb dL_law_821 rfl (lv_at hl 4 rfl) ?_
  refine lv_iload hx hb dL_law_822 (lv_at hl 0 rfl) ?_
  refine lv_iconst (v := (2 : Int32)) hx hb dL_law_824 (by decide) ?_
  refine lv_iadd hx hb dL_law_825 ?_
  refine fb_tI (v := (2 : Int32)) (by decide) ?_
  refine va_sld (i := (2 : Int32)) hx hb hX hbl hbA I.2.2 (fb_inC (n := 2) (by decide) (by decide) (by omega)) dL_law_826 ?_
  refine fb_tI (v := (xs 2)) rfl ?_
  refine fb_tI (v := (nI zv9)) hw ?_
  refine lv_aload_n hx hb dL_law_827 rfl (lv_at hl 1 rfl) ?_
  refine fb_gI (cs := [fb_o11 zb zt zn zv zs zp (zq 0) (zu 0) zh zst zre, fb_mw cI zq fb_s0 zw, fb_o0 zh (zo 0) (zi 0) fb_h0, fb_jw cJ zx 1 zg]) (rs := [fb_o12 za zr fr_e0, fb_aw cI (zr 0) 16205 (fr_m (fun _ => 0) 0)]) (fun (t : Unit) => [fb_jw cJ zx 1 (vp_updL zg 0 (((0 : Int32)).toInt64)), fb_o12 za zr fr_e0, fb_aw cI (zr 0) 16205 (fr_m (fun _ => 0) 0)]) (fun (t : Unit) => [fb_jw cJ zx 1 (vp_updL zg 0 (((0 : Int32)).toInt64))]) X I [0, 1, 2, 3, 4, 5] 6 rfl (by decide +kernel) rfl rfl [0, 1, 2] 3 (fun _ => rfl) (by decide +kernel) (fun _ => rfl) (fun _ => rfl) (fun I => fb_rSW (As := [.ref zb, .int (1 : Int32), .int (nI zv9), .ref zx]) (rest := []) X hl (fb_goodSW fw_1759 fw_1760 fw_190 fw_1761) (c_w_setRegister_1 l D cI cJ zb zt zn zv zs zp zq zu zh zst zre zw zo zi zx zg zv9 _ hst (by omega)) rfl rfl (by decide +kernel : fb_hd yL_setRegister 4) ⟨Nat.le_of_ble_eq_true rfl, Nat.le_of_ble_eq_true rfl⟩ rfl rfl (Nat.le_of_ble_eq_true rfl) ⟨Nat.le_of_ble_eq_true rfl, Nat.le_of_ble_eq_true rfl⟩ dL_law_828 I) ?_
  intro r2 w1 H locs e0 I
  subst e0
  have I : fb_In D (fun q : Nat => s.heap.size ≤ q) s.heap (([fb_jw cJ zx 1 (vp_updL zg 0 (((0 : Int32)).toInt64)), fb_o12 za zr fr_e0, fb_aw cI (zr 0) 16205 (fr_m (fun _ => 0) 0)] : List va_W).flatten) H locs := I
  refine lv_istore (lv' := [(5, .int (0 : Int32)), (4, .int (0 : Int32)), (3, .ref zx), (2, .ref za), (1, .ref zb), (0, .ref b)]) hx hb dL_law_831 hl (by decide) rfl (fun ls hl => ?_)
  refine lv_aload_n hx hb dL_law_833 rfl (lv_at hl 3 rfl) ?_
  refine lv_aload_n hx hb dL_law_834 rfl (lv_at hl 5 rfl) ?_
  refine lv_iload hx hb dL_law_835 (lv_at hl 1 rfl) ?_
  refine lv_iconst (v := (1 : Int32)) hx hb dL_law_837 (by decide) ?_
  refine lv_iadd hx hb dL_law_838 ?_
  refine fb_tI (v := (1 : Int32)) (by decide) ?_
  refine va_sld (i := (1 : Int32)) hx hb hX hbl hbA I.2.2 (fb_inC (n := 1) (by decide) (by decide) (by omega)) dL_law_839 ?_
  refine fb_tI (v := (xs 1)) rfl ?_
  refine fb_tI (v := (1 : Int32)) hz ?_
  refine lv_aload_n hx hb dL_law_840 rfl (lv_at hl 5 rfl) ?_
  refine lv_iload hx hb dL_law_841 (lv_at hl 1 rfl) ?_
  refine lv_iconst (v := (2 : Int32)) hx hb dL_law_843 (by decide) ?_
  refine lv_iadd hx hb dL_law_844 ?_
  refine fb_tI (v := (2 : Int32)) (by decide) ?_
  refine va_sld (i := (2 : Int32)) hx hb hX hbl hbA I.2.2 (fb_inC (n := 2) (by decide) (by decide) (by omega)) dL_law_845 ?_
  refine fb_tI (v := (xs 2)) rfl ?_
  refine fb_tI (v := (nI zv9)) hw ?_
  refine fb_gI (cs := [fb_o12 za zr fr_e0, fb_aw cI (zr 0) 16205 (fr_m (fun _ => 0) 0)]) (rs := [fb_jw cJ zx 1 (vp_updL zg 0 (((0 : Int32)).toInt64))]) (fun (t : Unit) => [fb_jw cJ zx 1 (vp_updL zg 0 (((0 : Int32)).toInt64)), fb_o12 za zr (upd (upd fr_e0 19 (0 : Int32)) 2 (0 : Int32)), fb_aw cI (zr 0) 16205 (upd (fr_m (fun _ => 0) 0) 1 (nI zv9))]) (fun (t : Unit) => [fb_o12 za zr (upd (upd fr_e0 19 (0 : Int32)) 2 (0 : Int32)), fb_aw cI (zr 0) 16205 (upd (fr_m (fun _ => 0) 0) 1 (nI zv9))]) X I [1, 2, 0] 3 rfl (by decide +kernel) rfl rfl [1, 2, 0] 3 (fun _ => rfl) (by decide +kernel) (fun _ => rfl) (fun _ => rfl) (fun I => fb_rV (As := [.int (1 : Int32), .int (nI zv9)]) (rest := []) X hl (fb_goodV fw_2394 fw_2395 fw_2396 fw_204 fw_2397) (c_setRegister_1 l D cI cJ za zr (nI zv9) _ (fr_inN (z := zv9) (a := 0) (b := 255) (by omega) (by omega) (by omega))) rfl rfl rfl (by decide +kernel : fb_hd yX12_setRegister 2) ⟨Nat.le_of_ble_eq_true rfl, Nat.le_of_ble_eq_true rfl⟩ rfl rfl rfl rfl rfl (Nat.le_of_ble_eq_true rfl) ⟨Nat.le_of_ble_eq_true rfl, Nat.le_of_ble_eq_true rfl⟩ dL_law_846 I) ?_
  intro r4 w3 H locs e0 I
  subst e0
  have I : fb_In D (fun q : Nat => s.heap.size ≤ q) s.heap (([fb_jw cJ zx 1 (vp_updL zg 0 (((0 : Int32)).toInt64)), fb_o12 za zr (upd (upd fr_e0 19 (0 : Int32)) 2 (0 : Int32)), fb_aw cI (zr 0) 16205 (upd (fr_m (fun _ => 0) 0) 1 (nI zv9))] : List va_W).flatten) H locs := I
  refine lv_istore (lv' := [(6, .int (0 : Int32)), (5, .int (0 : Int32)), (4, .int (0 : Int32)), (3, .ref zx), (2, .ref za), (1, .ref zb), (0, .ref b)]) hx hb dL_law_849 hl (by decide) rfl (fun ls hl => ?_)
  refine lv_aload_n hx hb dL_law_851 rfl (lv_at hl 4 rfl) ?_
  refine fb_gO (cs := [fb_o12 za zr (upd (upd fr_e0 19 (0 : Int32)) 2 (0 : Int32))]) (rs := [fb_jw cJ zx 1 (vp_updL zg 0 (((0 : Int32)).toInt64)), fb_aw cI (zr 0) 16205 (upd (fr_m (fun _ => 0) 0) 1 (nI zv9))]) X I [1, 0, 2] 3 rfl (by decide +kernel) rfl rfl (fun I => fb_rV (As := []) (rest := []) X hl (fb_goodV fw_2119 fw_2120 fw_2121 fw_204 fw_2122) (c_thrown l D cI cJ za zr (upd (upd fr_e0 19 (0 : Int32)) 2 (0 : Int32)) _ ) rfl rfl rfl (by decide +kernel : fb_hd yX12_thrown 0) ⟨Nat.le_of_ble_eq_true rfl, Nat.le_of_ble_eq_true rfl⟩ rfl rfl rfl rfl rfl (Nat.le_of_ble_eq_true rfl) ⟨Nat.le_of_ble_eq_true rfl, Nat.le_of_ble_eq_true rfl⟩ dL_law_852 I) ?_
  refine fb_tI (v := (0 : Int32)) rfl ?_
  refine lv_iload hx hb dL_law_855 (lv_at hl 1 rfl) ?_
  refine lv_icmp_eq (tgt := 862) hx hb dL_law_857 (by decide) (fun _ => ?_) (fun c5 => absurd rfl c5)
  refine lv_iload hx hb dL_law_862 (lv_at hl 1 rfl) ?_
  refine lv_if_ne (tgt := 879) hx hb dL_law_864 (by decide) (fun c6 => absurd (by decide) c6) (fun _ => ?_)
  refine lv_aload_n hx hb dL_law_867 rfl (lv_at hl 3 rfl) ?_
  refine lv_iconst (v := (0 : Int32)) hx hb dL_law_868 (by decide) ?_
  refine va_lald (i := (0 : Int32)) hx hb hK.1 I.1 0 1 rfl rfl (fb_inC (n := 0) (by decide) (by decide) (Nat.le_of_ble_eq_true rfl)) dL_law_869 ?_
  refine fb_tL (v := (((0 : Int32)).toInt64)) rfl ?_
  refine lv_iload hx hb dL_law_870 (lv_at hl 0 rfl) ?_
  refine lv_i2l (v := (((0 : Int32)).toInt64)) hx hb dL_law_872 rfl ?_
  refine W.lcmp hx hb dL_law_873 ?_
  refine fb_tI (v := (0 : Int32)) (lw_cmp0 _) ?_
  refine lv_if_eq (tgt := 879) hx hb dL_law_874 (by decide) (fun _ => ?_) (fun c7 => absurd (by decide) c7)
  refine lv_goto (tgt := 2336) hx hb dL_law_879 (by decide) ?_
  exact lw_end X hX hbl hbA (by omega) I (lv_sub hl [2, 6] rfl) (Nat.le_of_ble_eq_true rfl) (Nat.le_of_ble_eq_true rfl)

set_option maxHeartbeats 4000000 in
set_option maxRecDepth 100000 in
theorem lc_13_n2 {p : Program} {l : Launch} {e : Env} {s : State} {m : MethodId} {below : List Frame} {meth : Method} {c : Code} {H : Heap} {locs : List Loc} {ls : Array Slot} {D : va_G} {cI cJ : ClassId} {b L : Nat} {xs : Nat → Int32} {zb : Nat} {zt : Nat} {zn : Nat} {zv : Nat} {zs : Nat} {zp : Nat} {zq : Nat → Nat} {zu : Nat → Nat} {zh : Nat} {zst : Nat} {zre : Nat} {zx : Nat} {zg : Nat → Int64} {za : Nat} {zr : Nat → Nat} (hst : l.stackTraces = false) (X : fb_Bx p s m #[Value.ref b] meth c cL_law RL 9 (some .boolean) D (fb_ty D cI cJ) (fun q : Nat => s.heap.size ≤ q)) (hX : va_X b L xs s s.heap) (hbl : b < s.heap.size) (hbA : ¬ (fun q : Nat => s.heap.size ≤ q) b) (hL6 : L = 6) (hz : xs 1 = 2) (r0 : ¬ (2 : Int32) < 0) (r4 : (2 : Int32) ≤ (4 : Int32)) (e4 : ¬ (2 : Int32) = (4 : Int32)) (e3 : ¬ (2 : Int32) = (3 : Int32)) (v0 : (xs 2) < 0) (q1 : f_X12_isIn (xs 2) (0 : Int32) (255 : Int32) = (0 : Int32)) (I : fb_In D (fun q : Nat => s.heap.size ≤ q) s.heap (([fb_o11 zb zt zn zv zs zp (zq 0) (zu 0) zh zst zre, fb_jw cJ zx 1 zg, fb_o12 za zr fr_e0] : List va_W).flatten) H locs) (hl : lv_has ls 9 [(4, .int (0 : Int32)), (3, .ref zx), (2, .ref za), (1, .ref zb), (0, .ref b)]) : W p l e room_1 s m #[Value.ref b] below meth c H locs 209 179241 (lw_Z below #[Value.ref b] s) (F0 m 814 ls []) := by
  obtain ⟨hx, hb, hr, hml, hown, hts, hlk, hA, hK, hF⟩ := id X
  refine lv_aload_n hx hb dL_law_814 rfl (lv_at hl 3 rfl) ?_
  refine lv_aload_n hx hb dL_law_815 rfl (lv_at hl 4 rfl) ?_
  refine lv_iload hx hb dL_law_816 (lv_at hl 0 rfl) ?_
  refine lv_iconst (v := (1 : Int32)) hx hb dL_law_818 (by decide) ?_
  refine lv_iadd hx hb dL_law_819 ?_
  refine fb_tI (v := (1 : Int32)) (by decide) ?_
  refine va_sld (i := (1 : Int32)) hx hb hX hbl hbA I.2.2 (fb_inC (n := 1) (by decide) (by decide) (by omega)) dL_law_820 ?_
  refine fb_tI (v := (xs 1)) rfl ?_
  refine fb_tI (v := (2 : Int32)) hz ?_
  refine lv_aload_n hx hb dL_law_821 rfl (lv_at hl 4 rfl) ?_
  refine lv_iload hx hb dL_law_822 (lv_at hl 0 rfl) ?_
  refine lv_iconst (v := (2 : Int32)) hx hb dL_law_824 (by decide) ?_
  refine lv_iadd hx hb dL_law_825 ?_
  refine fb_tI (v := (2 : Int32)) (by decide) ?_
  refine va_sld (i := (2 : Int32)) hx hb hX hbl hbA I.2.2 (fb_inC (n := 2) (by decide) (by decide) (by omega)) dL_law_826 ?_
  refine fb_tI (v := (xs 2)) rfl ?_
  refine lv_aload_n hx hb dL_law_827 rfl (lv_at hl 1 rfl) ?_
  refine fb_gI (cs := [fb_o11 zb zt zn zv zs zp (zq 0) (zu 0) zh zst zre, fb_jw cJ zx 1 zg]) (rs := [fb_o12 za zr fr_e0]) (fun (t : Unit) => [fb_jw cJ zx 1 zg, fb_o12 za zr fr_e0]) (fun (t : Unit) => [fb_jw cJ zx 1 zg]) X I [0, 1, 2] 3 rfl (by decide +kernel) rfl rfl [0, 1] 2 (fun _ => rfl) (by decide +kernel) (fun _ => rfl) (fun _ => rfl) (fun I => fb_rSW (As := [.ref zb, .int (2 : Int32), .int (xs 2), .ref zx]) (rest := []) X hl (fb_goodSW fw_1759 fw_1760 fw_190 fw_1761) (c_w_setRegister_rn l D cI cJ zb zt zn zv zs zp zq zu zh zst zre zx zg (2 : Int32) (xs 2) _ hst r0 r4 e4 e3 v0) rfl rfl (by decide +kernel : fb_hd yL_setRegister 4) ⟨Nat.le_of_ble_eq_true rfl, Nat.le_of_ble_eq_true rfl⟩ rfl rfl (Nat.le_of_ble_eq_true rfl) ⟨Nat.le_of_ble_eq_true rfl, Nat.le_of_ble_eq_true rfl⟩ dL_law_828 I) ?_
  intro r2 w1 H locs e0 I
  subst e0
  have I : fb_In D (fun q : Nat => s.heap.size ≤ q) s.heap (([fb_jw cJ zx 1 zg, fb_o12 za zr fr_e0] : List va_W).flatten) H locs := I
  refine lv_istore (lv' := [(5, .int (2 : Int32)), (4, .int (0 : Int32)), (3, .ref zx), (2, .ref za), (1, .ref zb), (0, .ref b)]) hx hb dL_law_831 hl (by decide) rfl (fun ls hl => ?_)
  refine lv_aload_n hx hb dL_law_833 rfl (lv_at hl 3 rfl) ?_
  refine lv_aload_n hx hb dL_law_834 rfl (lv_at hl 5 rfl) ?_
  refine lv_iload hx hb dL_law_835 (lv_at hl 1 rfl) ?_
  refine lv_iconst (v := (1 : Int32)) hx hb dL_law_837 (by decide) ?_
  refine lv_iadd hx hb dL_law_838 ?_
  refine fb_tI (v := (1 : Int32)) (by decide) ?_
  refine va_sld (i := (1 : Int32)) hx hb hX hbl hbA I.2.2 (fb_inC (n := 1) (by decide) (by decide) (by omega)) dL_law_839 ?_
  refine fb_tI (v := (xs 1)) rfl ?_
  refine fb_tI (v := (2 : Int32)) hz ?_
  refine lv_aload_n hx hb dL_law_840 rfl (lv_at hl 5 rfl) ?_
  refine lv_iload hx hb dL_law_841 (lv_at hl 1 rfl) ?_
  refine lv_iconst (v := (2 : Int32)) hx hb dL_law_843 (by decide) ?_
  refine lv_iadd hx hb dL_law_844 ?_
  refine fb_tI (v := (2 : Int32)) (by decide) ?_
  refine va_sld (i := (2 : Int32)) hx hb hX hbl hbA I.2.2 (fb_inC (n := 2) (by decide) (by decide) (by omega)) dL_law_845 ?_
  refine fb_tI (v := (xs 2)) rfl ?_
  refine fb_gI (cs := [fb_o12 za zr fr_e0]) (rs := [fb_jw cJ zx 1 zg]) (fun (t : Unit) => [fb_jw cJ zx 1 zg, fb_o12 za zr (upd (upd fr_e0 19 (0 : Int32)) 19 (2 : Int32))]) (fun (t : Unit) => [fb_o12 za zr (upd (upd fr_e0 19 (0 : Int32)) 19 (2 : Int32))]) X I [1, 0] 2 rfl (by decide +kernel) rfl rfl [1, 0] 2 (fun _ => rfl) (by decide +kernel) (fun _ => rfl) (fun _ => rfl) (fun I => fb_rV (As := [.int (2 : Int32), .int (xs 2)]) (rest := []) X hl (fb_goodV fw_2394 fw_2395 fw_2396 fw_204 fw_2397) (c_setRegister_bad2 l D cI cJ za zr (xs 2) _ q1) rfl rfl rfl (by decide +kernel : fb_hd yX12_setRegister 2) ⟨Nat.le_of_ble_eq_true rfl, Nat.le_of_ble_eq_true rfl⟩ rfl rfl rfl rfl rfl (Nat.le_of_ble_eq_true rfl) ⟨Nat.le_of_ble_eq_true rfl, Nat.le_of_ble_eq_true rfl⟩ dL_law_846 I) ?_
  intro r4 w3 H locs e0 I
  subst e0
  have I : fb_In D (fun q : Nat => s.heap.size ≤ q) s.heap (([fb_jw cJ zx 1 zg, fb_o12 za zr (upd (upd fr_e0 19 (0 : Int32)) 19 (2 : Int32))] : List va_W).flatten) H locs := I
  refine lv_istore (lv' := [(6, .int (0 : Int32)), (5, .int (2 : Int32)), (4, .int (0 : Int32)), (3, .ref zx), (2, .ref za), (1, .ref zb), (0, .ref b)]) hx hb dL_law_849 hl (by decide) rfl (fun ls hl => ?_)
  refine lv_aload_n hx hb dL_law_851 rfl (lv_at hl 4 rfl) ?_
  refine fb_gO (cs := [fb_o12 za zr (upd (upd fr_e0 19 (0 : Int32)) 19 (2 : Int32))]) (rs := [fb_jw cJ zx 1 zg]) X I [1, 0] 2 rfl (by decide +kernel) rfl rfl (fun I => fb_rV (As := []) (rest := []) X hl (fb_goodV fw_2119 fw_2120 fw_2121 fw_204 fw_2122) (c_thrown l D cI cJ za zr (upd (upd fr_e0 19 (0 : Int32)) 19 (2 : Int32)) _ ) rfl rfl rfl (by decide +kernel : fb_hd yX12_thrown 0) ⟨Nat.le_of_ble_eq_true rfl, Nat.le_of_ble_eq_true rfl⟩ rfl rfl rfl rfl rfl (Nat.le_of_ble_eq_true rfl) ⟨Nat.le_of_ble_eq_true rfl, Nat.le_of_ble_eq_true rfl⟩ dL_law_852 I) ?_
  refine fb_tI (v := (2 : Int32)) rfl ?_
  refine lv_iload hx hb dL_law_855 (lv_at hl 1 rfl) ?_
  refine lv_icmp_eq (tgt := 862) hx hb dL_law_857 (by decide) (fun _ => ?_) (fun c5 => absurd rfl c5)
  refine lv_iload hx hb dL_law_862 (lv_at hl 1 rfl) ?_
  refine lv_if_ne (tgt := 879) hx hb dL_law_864 (by decide) (fun _ => ?_) (fun c6 => absurd c6 (by decide))
  refine lv_goto (tgt := 2336) hx hb dL_law_879 (by decide) ?_
  exact lw_end X hX hbl hbA (by omega) I (lv_sub hl [2, 6] rfl) (Nat.le_of_ble_eq_true rfl) (Nat.le_of_ble_eq_true rfl)

set_option maxHeartbeats 4000000 in
set_option maxRecDepth 100000 in
theorem lc_13_m2 {p : Program} {l : Launch} {e : Env} {s : State} {m : MethodId} {below : List Frame} {meth : Method} {c : Code} {H : Heap} {locs : List Loc} {ls : Array Slot} {D : va_G} {cI cJ : ClassId} {b L : Nat} {xs : Nat → Int32} {zb : Nat} {zt : Nat} {zn : Nat} {zv : Nat} {zs : Nat} {zp : Nat} {zq : Nat → Nat} {zu : Nat → Nat} {zh : Nat} {zst : Nat} {zre : Nat} {zx : Nat} {zg : Nat → Int64} {za : Nat} {zr : Nat → Nat} (hst : l.stackTraces = false) (X : fb_Bx p s m #[Value.ref b] meth c cL_law RL 9 (some .boolean) D (fb_ty D cI cJ) (fun q : Nat => s.heap.size ≤ q)) (hX : va_X b L xs s s.heap) (hbl : b < s.heap.size) (hbA : ¬ (fun q : Nat => s.heap.size ≤ q) b) (hL6 : L = 6) (hz : xs 1 = 2) (r0 : ¬ (2 : Int32) < 0) (r4 : (2 : Int32) ≤ (4 : Int32)) (e4 : ¬ (2 : Int32) = (4 : Int32)) (e3 : ¬ (2 : Int32) = (3 : Int32)) (v0 : ¬ (xs 2) < 0) (v1 : ¬ (xs 2) ≤ (255 : Int32)) (q1 : f_X12_isIn (xs 2) (0 : Int32) (255 : Int32) = (0 : Int32)) (I : fb_In D (fun q : Nat => s.heap.size ≤ q) s.heap (([fb_o11 zb zt zn zv zs zp (zq 0) (zu 0) zh zst zre, fb_jw cJ zx 1 zg, fb_o12 za zr fr_e0] : List va_W).flatten) H locs) (hl : lv_has ls 9 [(4, .int (0 : Int32)), (3, .ref zx), (2, .ref za), (1, .ref zb), (0, .ref b)]) : W p l e room_1 s m #[Value.ref b] below meth c H locs 209 179241 (lw_Z below #[Value.ref b] s) (F0 m 814 ls []) := by
  obtain ⟨hx, hb, hr, hml, hown, hts, hlk, hA, hK, hF⟩ := id X
  refine lv_aload_n hx hb dL_law_814 rfl (lv_at hl 3 rfl) ?_
  refine lv_aload_n hx hb dL_law_815 rfl (lv_at hl 4 rfl) ?_
  refine lv_iload hx hb dL_law_816 (lv_at hl 0 rfl) ?_
  refine lv_iconst (v := (1 : Int32)) hx hb dL_law_818 (by decide) ?_
  refine lv_iadd hx hb dL_law_819 ?_
  refine fb_tI (v := (1 : Int32)) (by decide) ?_
  refine va_sld (i := (1 : Int32)) hx hb hX hbl hbA I.2.2 (fb_inC (n := 1) (by decide) (by decide) (by omega)) dL_law_820 ?_
  refine fb_tI (v := (xs 1)) rfl ?_
  refine fb_tI (v := (2 : Int32)) hz ?_
  refine lv_aload_n hx hb dL_law_821 rfl (lv_at hl 4 rfl) ?_
  refine lv_iload hx hb dL_law_822 (lv_at hl 0 rfl) ?_
  refine lv_iconst (v := (2 : Int32)) hx hb dL_law_824 (by decide) ?_
  refine lv_iadd hx hb dL_law_825 ?_
  refine fb_tI (v := (2 : Int32)) (by decide) ?_
  refine va_sld (i := (2 : Int32)) hx hb hX hbl hbA I.2.2 (fb_inC (n := 2) (by decide) (by decide) (by omega)) dL_law_826 ?_
  refine fb_tI (v := (xs 2)) rfl ?_
  refine lv_aload_n hx hb dL_law_827 rfl (lv_at hl 1 rfl) ?_
  refine fb_gI (cs := [fb_o11 zb zt zn zv zs zp (zq 0) (zu 0) zh zst zre, fb_jw cJ zx 1 zg]) (rs := [fb_o12 za zr fr_e0]) (fun (t : Unit) => [fb_jw cJ zx 1 zg, fb_o12 za zr fr_e0]) (fun (t : Unit) => [fb_jw cJ zx 1 zg]) X I [0, 1, 2] 3 rfl (by decide +kernel) rfl rfl [0, 1] 2 (fun _ => rfl) (by decide +kernel) (fun _ => rfl) (fun _ => rfl) (fun I => fb_rSW (As := [.ref zb, .int (2 : Int32), .int (xs 2), .ref zx]) (rest := []) X hl (fb_goodSW fw_1759 fw_1760 fw_190 fw_1761) (c_w_setRegister_rm l D cI cJ zb zt zn zv zs zp zq zu zh zst zre zx zg (2 : Int32) (xs 2) _ hst r0 r4 e4 e3 v0 v1) rfl rfl (by decide +kernel : fb_hd yL_setRegister 4) ⟨Nat.le_of_ble_eq_true rfl, Nat.le_of_ble_eq_true rfl⟩ rfl rfl (Nat.le_of_ble_eq_true rfl) ⟨Nat.le_of_ble_eq_true rfl, Nat.le_of_ble_eq_true rfl⟩ dL_law_828 I) ?_
  intro r2 w1 H locs e0 I
  subst e0
  have I : fb_In D (fun q : Nat => s.heap.size ≤ q) s.heap (([fb_jw cJ zx 1 zg, fb_o12 za zr fr_e0] : List va_W).flatten) H locs := I
  refine lv_istore (lv' := [(5, .int (2 : Int32)), (4, .int (0 : Int32)), (3, .ref zx), (2, .ref za), (1, .ref zb), (0, .ref b)]) hx hb dL_law_831 hl (by decide) rfl (fun ls hl => ?_)
  refine lv_aload_n hx hb dL_law_833 rfl (lv_at hl 3 rfl) ?_
  refine lv_aload_n hx hb dL_law_834 rfl (lv_at hl 5 rfl) ?_
  refine lv_iload hx hb dL_law_835 (lv_at hl 1 rfl) ?_
  refine lv_iconst (v := (1 : Int32)) hx hb dL_law_837 (by decide) ?_
  refine lv_iadd hx hb dL_law_838 ?_
  refine fb_tI (v := (1 : Int32)) (by decide) ?_
  refine va_sld (i := (1 : Int32)) hx hb hX hbl hbA I.2.2 (fb_inC (n := 1) (by decide) (by decide) (by omega)) dL_law_839 ?_
  refine fb_tI (v := (xs 1)) rfl ?_
  refine fb_tI (v := (2 : Int32)) hz ?_
  refine lv_aload_n hx hb dL_law_840 rfl (lv_at hl 5 rfl) ?_
  refine lv_iload hx hb dL_law_841 (lv_at hl 1 rfl) ?_
  refine lv_iconst (v := (2 : Int32)) hx hb dL_law_843 (by decide) ?_
  refine lv_iadd hx hb dL_law_844 ?_
  refine fb_tI (v := (2 : Int32)) (by decide) ?_
  refine va_sld (i := (2 : Int32)) hx hb hX hbl hbA I.2.2 (fb_inC (n := 2) (by decide) (by decide) (by omega)) dL_law_845 ?_
  refine fb_tI (v := (xs 2)) rfl ?_
  refine fb_gI (cs := [fb_o12 za zr fr_e0]) (rs := [fb_jw cJ zx 1 zg]) (fun (t : Unit) => [fb_jw cJ zx 1 zg, fb_o12 za zr (upd (upd fr_e0 19 (0 : Int32)) 19 (2 : Int32))]) (fun (t : Unit) => [fb_o12 za zr (upd (upd fr_e0 19 (0 : Int32)) 19 (2 : Int32))]) X I [1, 0] 2 rfl (by decide +kernel) rfl rfl [1, 0] 2 (fun _ => rfl) (by decide +kernel) (fun _ => rfl) (fun _ => rfl) (fun I => fb_rV (As := [.int (2 : Int32), .int (xs 2)]) (rest := []) X hl (fb_goodV fw_2394 fw_2395 fw_2396 fw_204 fw_2397) (c_setRegister_bad2 l D cI cJ za zr (xs 2) _ q1) rfl rfl rfl (by decide +kernel : fb_hd yX12_setRegister 2) ⟨Nat.le_of_ble_eq_true rfl, Nat.le_of_ble_eq_true rfl⟩ rfl rfl rfl rfl rfl (Nat.le_of_ble_eq_true rfl) ⟨Nat.le_of_ble_eq_true rfl, Nat.le_of_ble_eq_true rfl⟩ dL_law_846 I) ?_
  intro r4 w3 H locs e0 I
  subst e0
  have I : fb_In D (fun q : Nat => s.heap.size ≤ q) s.heap (([fb_jw cJ zx 1 zg, fb_o12 za zr (upd (upd fr_e0 19 (0 : Int32)) 19 (2 : Int32))] : List va_W).flatten) H locs := I
  refine lv_istore (lv' := [(6, .int (0 : Int32)), (5, .int (2 : Int32)), (4, .int (0 : Int32)), (3, .ref zx), (2, .ref za), (1, .ref zb), (0, .ref b)]) hx hb dL_law_849 hl (by decide) rfl (fun ls hl => ?_)
  refine lv_aload_n hx hb dL_law_851 rfl (lv_at hl 4 rfl) ?_
  refine fb_gO (cs := [fb_o12 za zr (upd (upd fr_e0 19 (0 : Int32)) 19 (2 : Int32))]) (rs := [fb_jw cJ zx 1 zg]) X I [1, 0] 2 rfl (by decide +kernel) rfl rfl (fun I => fb_rV (As := []) (rest := []) X hl (fb_goodV fw_2119 fw_2120 fw_2121 fw_204 fw_2122) (c_thrown l D cI cJ za zr (upd (upd fr_e0 19 (0 : Int32)) 19 (2 : Int32)) _ ) rfl rfl rfl (by decide +kernel : fb_hd yX12_thrown 0) ⟨Nat.le_of_ble_eq_true rfl, Nat.le_of_ble_eq_true rfl⟩ rfl rfl rfl rfl rfl (Nat.le_of_ble_eq_true rfl) ⟨Nat.le_of_ble_eq_true rfl, Nat.le_of_ble_eq_true rfl⟩ dL_law_852 I) ?_
  refine fb_tI (v := (2 : Int32)) rfl ?_
  refine lv_iload hx hb dL_law_855 (lv_at hl 1 rfl) ?_
  refine lv_icmp_eq (tgt := 862) hx hb dL_law_857 (by decide) (fun _ => ?_) (fun c5 => absurd rfl c5)
  refine lv_iload hx hb dL_law_862 (lv_at hl 1 rfl) ?_
  refine lv_if_ne (tgt := 879) hx hb dL_law_864 (by decide) (fun _ => ?_) (fun c6 => absurd c6 (by decide))
  refine lv_goto (tgt := 2336) hx hb dL_law_879 (by decide) ?_
  exact lw_end X hX hbl hbA (by omega) I (lv_sub hl [2, 6] rfl) (Nat.le_of_ble_eq_true rfl) (Nat.le_of_ble_eq_true rfl)

set_option maxHeartbeats 4000000 in
set_option maxRecDepth 100000 in
theorem lc_13_i2 {p : Program} {l : Launch} {e : Env} {s : State} {m : MethodId} {below : List Frame} {meth : Method} {c : Code} {H : Heap} {locs : List Loc} {ls : Array Slot} {D : va_G} {cI cJ : ClassId} {b L : Nat} {xs : Nat → Int32} {zb : Nat} {zt : Nat} {zn : Nat} {zv : Nat} {zs : Nat} {zp : Nat} {zq : Nat → Nat} {zu : Nat → Nat} {zh : Nat} {zst : Nat} {zre : Nat} {zw : fb_AR} {zo : Nat → Nat} {zi : Nat → Nat} {zx : Nat} {zg : Nat → Int64} {za : Nat} {zr : Nat → Nat} {zv9 : Nat} (hst : l.stackTraces = false) (X : fb_Bx p s m #[Value.ref b] meth c cL_law RL 9 (some .boolean) D (fb_ty D cI cJ) (fun q : Nat => s.heap.size ≤ q)) (hX : va_X b L xs s s.heap) (hbl : b < s.heap.size) (hbA : ¬ (fun q : Nat => s.heap.size ≤ q) b) (hL6 : L = 6) (hz : xs 1 = 2) (hw : xs 2 = nI zv9) (hv : zv9 ≤ 255) (I : fb_In D (fun q : Nat => s.heap.size ≤ q) s.heap (([fb_o11 zb zt zn zv zs zp (zq 0) (zu 0) zh zst zre, fb_mw cI zq fb_s0 zw, fb_o0 zh (zo 0) (zi 0) fb_h0, fb_jw cJ zx 1 zg, fb_o12 za zr fr_e0, fb_aw cI (zr 0) 16205 (fr_m (fun _ => 0) 0)] : List va_W).flatten) H locs) (hl : lv_has ls 9 [(4, .int (0 : Int32)), (3, .ref zx), (2, .ref za), (1, .ref zb), (0, .ref b)]) : W p l e room_1 s m #[Value.ref b] below meth c H locs 209 179241 (lw_Z below #[Value.ref b] s) (F0 m 814 ls []) := by
  obtain ⟨hx, hb, hr, hml, hown, hts, hlk, hA, hK, hF⟩ := id X
  refine lv_aload_n hx hb dL_law_814 rfl (lv_at hl 3 rfl) ?_
  refine lv_aload_n hx hb dL_law_815 rfl (lv_at hl 4 rfl) ?_
  refine lv_iload hx hb dL_law_816 (lv_at hl 0 rfl) ?_
  refine lv_iconst (v := (1 : Int32)) hx hb dL_law_818 (by decide) ?_
  refine lv_iadd hx hb dL_law_819 ?_
  refine fb_tI (v := (1 : Int32)) (by decide) ?_
  refine va_sld (i := (1 : Int32)) hx hb hX hbl hbA I.2.2 (fb_inC (n := 1) (by decide) (by decide) (by omega)) dL_law_820 ?_
  refine fb_tI (v := (xs 1)) rfl ?_
  refine fb_tI (v := (2 : Int32)) hz ?_
  refine lv_aload_n hx hb dL_law_821 rfl (lv_at hl 4 rfl) ?_
  refine lv_iload hx hb dL_law_822 (lv_at hl 0 rfl) ?_
  refine lv_iconst (v := (2 : Int32)) hx hb dL_law_824 (by decide) ?_
  refine lv_iadd hx hb dL_law_825 ?_
  refine fb_tI (v := (2 : Int32)) (by decide) ?_
  refine va_sld (i := (2 : Int32)) hx hb hX hbl hbA I.2.2 (fb_inC (n := 2) (by decide) (by decide) (by omega)) dL_law_826 ?_
  refine fb_tI (v := (xs 2)) rfl ?_
  refine fb_tI (v := (nI zv9)) hw ?_
  refine lv_aload_n hx hb dL_law_827 rfl (lv_at hl 1 rfl) ?_
  refine fb_gI (cs := [fb_o11 zb zt zn zv zs zp (zq 0) (zu 0) zh zst zre, fb_mw cI zq fb_s0 zw, fb_o0 zh (zo 0) (zi 0) fb_h0, fb_jw cJ zx 1 zg]) (rs := [fb_o12 za zr fr_e0, fb_aw cI (zr 0) 16205 (fr_m (fun _ => 0) 0)]) (fun (t : Unit) => [fb_jw cJ zx 1 (vp_updL zg 0 (((255 : Int32)).toInt64)), fb_o12 za zr fr_e0, fb_aw cI (zr 0) 16205 (fr_m (fun _ => 0) 0)]) (fun (t : Unit) => [fb_jw cJ zx 1 (vp_updL zg 0 (((255 : Int32)).toInt64))]) X I [0, 1, 2, 3, 4, 5] 6 rfl (by decide +kernel) rfl rfl [0, 1, 2] 3 (fun _ => rfl) (by decide +kernel) (fun _ => rfl) (fun _ => rfl) (fun I => fb_rSW (As := [.ref zb, .int (2 : Int32), .int (nI zv9), .ref zx]) (rest := []) X hl (fb_goodSW fw_1759 fw_1760 fw_190 fw_1761) (c_w_setRegister_2 l D cI cJ zb zt zn zv zs zp zq zu zh zst zre zw zo zi zx zg zv9 _ hst (by omega)) rfl rfl (by decide +kernel : fb_hd yL_setRegister 4) ⟨Nat.le_of_ble_eq_true rfl, Nat.le_of_ble_eq_true rfl⟩ rfl rfl (Nat.le_of_ble_eq_true rfl) ⟨Nat.le_of_ble_eq_true rfl, Nat.le_of_ble_eq_true rfl⟩ dL_law_828 I) ?_
  intro r2 w1 H locs e0 I
  subst e0
  have I : fb_In D (fun q : Nat => s.heap.size ≤ q) s.heap (([fb_jw cJ zx 1 (vp_updL zg 0 (((255 : Int32)).toInt64)), fb_o12 za zr fr_e0, fb_aw cI (zr 0) 16205 (fr_m (fun _ => 0) 0)] : List va_W).flatten) H locs := I
  refine lv_istore (lv' := [(5, .int (0 : Int32)), (4, .int (0 : Int32)), (3, .ref zx), (2, .ref za), (1, .ref zb), (0, .ref b)]) hx hb dL_law_831 hl (by decide) rfl (fun ls hl => ?_)
  refine lv_aload_n hx hb dL_law_833 rfl (lv_at hl 3 rfl) ?_
  refine lv_aload_n hx hb dL_law_834 rfl (lv_at hl 5 rfl) ?_
  refine lv_iload hx hb dL_law_835 (lv_at hl 1 rfl) ?_
  refine lv_iconst (v := (1 : Int32)) hx hb dL_law_837 (by decide) ?_
  refine lv_iadd hx hb dL_law_838 ?_
  refine fb_tI (v := (1 : Int32)) (by decide) ?_
  refine va_sld (i := (1 : Int32)) hx hb hX hbl hbA I.2.2 (fb_inC (n := 1) (by decide) (by decide) (by omega)) dL_law_839 ?_
  refine fb_tI (v := (xs 1)) rfl ?_
  refine fb_tI (v := (2 : Int32)) hz ?_
  refine lv_aload_n hx hb dL_law_840 rfl (lv_at hl 5 rfl) ?_
  refine lv_iload hx hb dL_law_841 (lv_at hl 1 rfl) ?_
  refine lv_iconst (v := (2 : Int32)) hx hb dL_law_843 (by decide) ?_
  refine lv_iadd hx hb dL_law_844 ?_
  refine fb_tI (v := (2 : Int32)) (by decide) ?_
  refine va_sld (i := (2 : Int32)) hx hb hX hbl hbA I.2.2 (fb_inC (n := 2) (by decide) (by decide) (by omega)) dL_law_845 ?_
  refine fb_tI (v := (xs 2)) rfl ?_
  refine fb_tI (v := (nI zv9)) hw ?_
  refine fb_gI (cs := [fb_o12 za zr fr_e0, fb_aw cI (zr 0) 16205 (fr_m (fun _ => 0) 0)]) (rs := [fb_jw cJ zx 1 (vp_updL zg 0 (((255 : Int32)).toInt64))]) (fun (t : Unit) => [fb_jw cJ zx 1 (vp_updL zg 0 (((255 : Int32)).toInt64)), fb_o12 za zr (upd (upd fr_e0 19 (0 : Int32)) 2 (0 : Int32)), fb_aw cI (zr 0) 16205 (upd (fr_m (fun _ => 0) 0) 2 (nI zv9))]) (fun (t : Unit) => [fb_o12 za zr (upd (upd fr_e0 19 (0 : Int32)) 2 (0 : Int32)), fb_aw cI (zr 0) 16205 (upd (fr_m (fun _ => 0) 0) 2 (nI zv9))]) X I [1, 2, 0] 3 rfl (by decide +kernel) rfl rfl [1, 2, 0] 3 (fun _ => rfl) (by decide +kernel) (fun _ => rfl) (fun _ => rfl) (fun I => fb_rV (As := [.int (2 : Int32), .int (nI zv9)]) (rest := []) X hl (fb_goodV fw_2394 fw_2395 fw_2396 fw_204 fw_2397) (c_setRegister_2 l D cI cJ za zr (nI zv9) _ (fr_inN (z := zv9) (a := 0) (b := 255) (by omega) (by omega) (by omega))) rfl rfl rfl (by decide +kernel : fb_hd yX12_setRegister 2) ⟨Nat.le_of_ble_eq_true rfl, Nat.le_of_ble_eq_true rfl⟩ rfl rfl rfl rfl rfl (Nat.le_of_ble_eq_true rfl) ⟨Nat.le_of_ble_eq_true rfl, Nat.le_of_ble_eq_true rfl⟩ dL_law_846 I) ?_
  intro r4 w3 H locs e0 I
  subst e0
  have I : fb_In D (fun q : Nat => s.heap.size ≤ q) s.heap (([fb_jw cJ zx 1 (vp_updL zg 0 (((255 : Int32)).toInt64)), fb_o12 za zr (upd (upd fr_e0 19 (0 : Int32)) 2 (0 : Int32)), fb_aw cI (zr 0) 16205 (upd (fr_m (fun _ => 0) 0) 2 (nI zv9))] : List va_W).flatten) H locs := I
  refine lv_istore (lv' := [(6, .int (255 : Int32)), (5, .int (0 : Int32)), (4, .int (0 : Int32)), (3, .ref zx), (2, .ref za), (1, .ref zb), (0, .ref b)]) hx hb dL_law_849 hl (by decide) rfl (fun ls hl => ?_)
  refine lv_aload_n hx hb dL_law_851 rfl (lv_at hl 4 rfl) ?_
  refine fb_gO (cs := [fb_o12 za zr (upd (upd fr_e0 19 (0 : Int32)) 2 (0 : Int32))]) (rs := [fb_jw cJ zx 1 (vp_updL zg 0 (((255 : Int32)).toInt64)), fb_aw cI (zr 0) 16205 (upd (fr_m (fun _ => 0) 0) 2 (nI zv9))]) X I [1, 0, 2] 3 rfl (by decide +kernel) rfl rfl (fun I => fb_rV (As := []) (rest := []) X hl (fb_goodV fw_2119 fw_2120 fw_2121 fw_204 fw_2122) (c_thrown l D cI cJ za zr (upd (upd fr_e0 19 (0 : Int32)) 2 (0 : Int32)) _ ) rfl rfl rfl (by decide +kernel : fb_hd yX12_thrown 0) ⟨Nat.le_of_ble_eq_true rfl, Nat.le_of_ble_eq_true rfl⟩ rfl rfl rfl rfl rfl (Nat.le_of_ble_eq_true rfl) ⟨Nat.le_of_ble_eq_true rfl, Nat.le_of_ble_eq_true rfl⟩ dL_law_852 I) ?_
  refine fb_tI (v := (0 : Int32)) rfl ?_
  refine lv_iload hx hb dL_law_855 (lv_at hl 1 rfl) ?_
  refine lv_icmp_eq (tgt := 862) hx hb dL_law_857 (by decide) (fun _ => ?_) (fun c5 => absurd rfl c5)
  refine lv_iload hx hb dL_law_862 (lv_at hl 1 rfl) ?_
  refine lv_if_ne (tgt := 879) hx hb dL_law_864 (by decide) (fun c6 => absurd (by decide) c6) (fun _ => ?_)
  refine lv_aload_n hx hb dL_law_867 rfl (lv_at hl 3 rfl) ?_
  refine lv_iconst (v := (0 : Int32)) hx hb dL_law_868 (by decide) ?_
  refine va_lald (i := (0 : Int32)) hx hb hK.1 I.1 0 1 rfl rfl (fb_inC (n := 0) (by decide) (by decide) (Nat.le_of_ble_eq_true rfl)) dL_law_869 ?_
  refine fb_tL (v := (((255 : Int32)).toInt64)) rfl ?_
  refine lv_iload hx hb dL_law_870 (lv_at hl 0 rfl) ?_
  refine lv_i2l (v := (((255 : Int32)).toInt64)) hx hb dL_law_872 rfl ?_
  refine W.lcmp hx hb dL_law_873 ?_
  refine fb_tI (v := (0 : Int32)) (lw_cmp0 _) ?_
  refine lv_if_eq (tgt := 879) hx hb dL_law_874 (by decide) (fun _ => ?_) (fun c7 => absurd (by decide) c7)
  refine lv_goto (tgt := 2336) hx hb dL_law_879 (by decide) ?_
  exact lw_end X hX hbl hbA (by omega) I (lv_sub hl [2, 6] rfl) (Nat.le_of_ble_eq_true rfl) (Nat.le_of_ble_eq_true rfl)

set_option maxHeartbeats 4000000 in
set_option maxRecDepth 100000 in
theorem lc_13_n3 {p : Program} {l : Launch} {e : Env} {s : State} {m : MethodId} {below : List Frame} {meth : Method} {c : Code} {H : Heap} {locs : List Loc} {ls : Array Slot} {D : va_G} {cI cJ : ClassId} {b L : Nat} {xs : Nat → Int32} {zb : Nat} {zt : Nat} {zn : Nat} {zv : Nat} {zs : Nat} {zp : Nat} {zq : Nat → Nat} {zu : Nat → Nat} {zh : Nat} {zst : Nat} {zre : Nat} {zx : Nat} {zg : Nat → Int64} {za : Nat} {zr : Nat → Nat} (hst : l.stackTraces = false) (X : fb_Bx p s m #[Value.ref b] meth c cL_law RL 9 (some .boolean) D (fb_ty D cI cJ) (fun q : Nat => s.heap.size ≤ q)) (hX : va_X b L xs s s.heap) (hbl : b < s.heap.size) (hbA : ¬ (fun q : Nat => s.heap.size ≤ q) b) (hL6 : L = 6) (hz : xs 1 = 3) (r0 : ¬ (3 : Int32) < 0) (r4 : (3 : Int32) ≤ (4 : Int32)) (e4 : ¬ (3 : Int32) = (4 : Int32)) (e3 : (3 : Int32) = (3 : Int32)) (v0 : (xs 2) < 0) (q1 : f_X12_isIn (xs 2) (0 : Int32) (31 : Int32) = (0 : Int32)) (I : fb_In D (fun q : Nat => s.heap.size ≤ q) s.heap (([fb_o11 zb zt zn zv zs zp (zq 0) (zu 0) zh zst zre, fb_jw cJ zx 1 zg, fb_o12 za zr fr_e0] : List va_W).flatten) H locs) (hl : lv_has ls 9 [(4, .int (0 : Int32)), (3, .ref zx), (2, .ref za), (1, .ref zb), (0, .ref b)]) : W p l e room_1 s m #[Value.ref b] below meth c H locs 209 179241 (lw_Z below #[Value.ref b] s) (F0 m 814 ls []) := by
  obtain ⟨hx, hb, hr, hml, hown, hts, hlk, hA, hK, hF⟩ := id X
  refine lv_aload_n hx hb dL_law_814 rfl (lv_at hl 3 rfl) ?_
  refine lv_aload_n hx hb dL_law_815 rfl (lv_at hl 4 rfl) ?_
  refine lv_iload hx hb dL_law_816 (lv_at hl 0 rfl) ?_
  refine lv_iconst (v := (1 : Int32)) hx hb dL_law_818 (by decide) ?_
  refine lv_iadd hx hb dL_law_819 ?_
  refine fb_tI (v := (1 : Int32)) (by decide) ?_
  refine va_sld (i := (1 : Int32)) hx hb hX hbl hbA I.2.2 (fb_inC (n := 1) (by decide) (by decide) (by omega)) dL_law_820 ?_
  refine fb_tI (v := (xs 1)) rfl ?_
  refine fb_tI (v := (3 : Int32)) hz ?_
  refine lv_aload_n hx hb dL_law_821 rfl (lv_at hl 4 rfl) ?_
  refine lv_iload hx hb dL_law_822 (lv_at hl 0 rfl) ?_
  refine lv_iconst (v := (2 : Int32)) hx hb dL_law_824 (by decide) ?_
  refine lv_iadd hx hb dL_law_825 ?_
  refine fb_tI (v := (2 : Int32)) (by decide) ?_
  refine va_sld (i := (2 : Int32)) hx hb hX hbl hbA I.2.2 (fb_inC (n := 2) (by decide) (by decide) (by omega)) dL_law_826 ?_
  refine fb_tI (v := (xs 2)) rfl ?_
  refine lv_aload_n hx hb dL_law_827 rfl (lv_at hl 1 rfl) ?_
  refine fb_gI (cs := [fb_o11 zb zt zn zv zs zp (zq 0) (zu 0) zh zst zre, fb_jw cJ zx 1 zg]) (rs := [fb_o12 za zr fr_e0]) (fun (t : Unit) => [fb_jw cJ zx 1 zg, fb_o12 za zr fr_e0]) (fun (t : Unit) => [fb_jw cJ zx 1 zg]) X I [0, 1, 2] 3 rfl (by decide +kernel) rfl rfl [0, 1] 2 (fun _ => rfl) (by decide +kernel) (fun _ => rfl) (fun _ => rfl) (fun I => fb_rSW (As := [.ref zb, .int (3 : Int32), .int (xs 2), .ref zx]) (rest := []) X hl (fb_goodSW fw_1759 fw_1760 fw_190 fw_1761) (c_w_setRegister_3n l D cI cJ zb zt zn zv zs zp zq zu zh zst zre zx zg (3 : Int32) (xs 2) _ hst r0 r4 e4 e3 v0) rfl rfl (by decide +kernel : fb_hd yL_setRegister 4) ⟨Nat.le_of_ble_eq_true rfl, Nat.le_of_ble_eq_true rfl⟩ rfl rfl (Nat.le_of_ble_eq_true rfl) ⟨Nat.le_of_ble_eq_true rfl, Nat.le_of_ble_eq_true rfl⟩ dL_law_828 I) ?_
  intro r2 w1 H locs e0 I
  subst e0
  have I : fb_In D (fun q : Nat => s.heap.size ≤ q) s.heap (([fb_jw cJ zx 1 zg, fb_o12 za zr fr_e0] : List va_W).flatten) H locs := I
  refine lv_istore (lv' := [(5, .int (2 : Int32)), (4, .int (0 : Int32)), (3, .ref zx), (2, .ref za), (1, .ref zb), (0, .ref b)]) hx hb dL_law_831 hl (by decide) rfl (fun ls hl => ?_)
  refine lv_aload_n hx hb dL_law_833 rfl (lv_at hl 3 rfl) ?_
  refine lv_aload_n hx hb dL_law_834 rfl (lv_at hl 5 rfl) ?_
  refine lv_iload hx hb dL_law_835 (lv_at hl 1 rfl) ?_
  refine lv_iconst (v := (1 : Int32)) hx hb dL_law_837 (by decide) ?_
  refine lv_iadd hx hb dL_law_838 ?_
  refine fb_tI (v := (1 : Int32)) (by decide) ?_
  refine va_sld (i := (1 : Int32)) hx hb hX hbl hbA I.2.2 (fb_inC (n := 1) (by decide) (by decide) (by omega)) dL_law_839 ?_
  refine fb_tI (v := (xs 1)) rfl ?_
  refine fb_tI (v := (3 : Int32)) hz ?_
  refine lv_aload_n hx hb dL_law_840 rfl (lv_at hl 5 rfl) ?_
  refine lv_iload hx hb dL_law_841 (lv_at hl 1 rfl) ?_
  refine lv_iconst (v := (2 : Int32)) hx hb dL_law_843 (by decide) ?_
  refine lv_iadd hx hb dL_law_844 ?_
  refine fb_tI (v := (2 : Int32)) (by decide) ?_
  refine va_sld (i := (2 : Int32)) hx hb hX hbl hbA I.2.2 (fb_inC (n := 2) (by decide) (by decide) (by omega)) dL_law_845 ?_
  refine fb_tI (v := (xs 2)) rfl ?_
  refine fb_gI (cs := [fb_o12 za zr fr_e0]) (rs := [fb_jw cJ zx 1 zg]) (fun (t : Unit) => [fb_jw cJ zx 1 zg, fb_o12 za zr (upd (upd fr_e0 19 (0 : Int32)) 19 (2 : Int32))]) (fun (t : Unit) => [fb_o12 za zr (upd (upd fr_e0 19 (0 : Int32)) 19 (2 : Int32))]) X I [1, 0] 2 rfl (by decide +kernel) rfl rfl [1, 0] 2 (fun _ => rfl) (by decide +kernel) (fun _ => rfl) (fun _ => rfl) (fun I => fb_rV (As := [.int (3 : Int32), .int (xs 2)]) (rest := []) X hl (fb_goodV fw_2394 fw_2395 fw_2396 fw_204 fw_2397) (c_setRegister_bad3 l D cI cJ za zr (xs 2) _ q1) rfl rfl rfl (by decide +kernel : fb_hd yX12_setRegister 2) ⟨Nat.le_of_ble_eq_true rfl, Nat.le_of_ble_eq_true rfl⟩ rfl rfl rfl rfl rfl (Nat.le_of_ble_eq_true rfl) ⟨Nat.le_of_ble_eq_true rfl, Nat.le_of_ble_eq_true rfl⟩ dL_law_846 I) ?_
  intro r4 w3 H locs e0 I
  subst e0
  have I : fb_In D (fun q : Nat => s.heap.size ≤ q) s.heap (([fb_jw cJ zx 1 zg, fb_o12 za zr (upd (upd fr_e0 19 (0 : Int32)) 19 (2 : Int32))] : List va_W).flatten) H locs := I
  refine lv_istore (lv' := [(6, .int (0 : Int32)), (5, .int (2 : Int32)), (4, .int (0 : Int32)), (3, .ref zx), (2, .ref za), (1, .ref zb), (0, .ref b)]) hx hb dL_law_849 hl (by decide) rfl (fun ls hl => ?_)
  refine lv_aload_n hx hb dL_law_851 rfl (lv_at hl 4 rfl) ?_
  refine fb_gO (cs := [fb_o12 za zr (upd (upd fr_e0 19 (0 : Int32)) 19 (2 : Int32))]) (rs := [fb_jw cJ zx 1 zg]) X I [1, 0] 2 rfl (by decide +kernel) rfl rfl (fun I => fb_rV (As := []) (rest := []) X hl (fb_goodV fw_2119 fw_2120 fw_2121 fw_204 fw_2122) (c_thrown l D cI cJ za zr (upd (upd fr_e0 19 (0 : Int32)) 19 (2 : Int32)) _ ) rfl rfl rfl (by decide +kernel : fb_hd yX12_thrown 0) ⟨Nat.le_of_ble_eq_true rfl, Nat.le_of_ble_eq_true rfl⟩ rfl rfl rfl rfl rfl (Nat.le_of_ble_eq_true rfl) ⟨Nat.le_of_ble_eq_true rfl, Nat.le_of_ble_eq_true rfl⟩ dL_law_852 I) ?_
  refine fb_tI (v := (2 : Int32)) rfl ?_
  refine lv_iload hx hb dL_law_855 (lv_at hl 1 rfl) ?_
  refine lv_icmp_eq (tgt := 862) hx hb dL_law_857 (by decide) (fun _ => ?_) (fun c5 => absurd rfl c5)
  refine lv_iload hx hb dL_law_862 (lv_at hl 1 rfl) ?_
  refine lv_if_ne (tgt := 879) hx hb dL_law_864 (by decide) (fun _ => ?_) (fun c6 => absurd c6 (by decide))
  refine lv_goto (tgt := 2336) hx hb dL_law_879 (by decide) ?_
  exact lw_end X hX hbl hbA (by omega) I (lv_sub hl [2, 6] rfl) (Nat.le_of_ble_eq_true rfl) (Nat.le_of_ble_eq_true rfl)

set_option maxHeartbeats 4000000 in
set_option maxRecDepth 100000 in
theorem lc_13_m3 {p : Program} {l : Launch} {e : Env} {s : State} {m : MethodId} {below : List Frame} {meth : Method} {c : Code} {H : Heap} {locs : List Loc} {ls : Array Slot} {D : va_G} {cI cJ : ClassId} {b L : Nat} {xs : Nat → Int32} {zb : Nat} {zt : Nat} {zn : Nat} {zv : Nat} {zs : Nat} {zp : Nat} {zq : Nat → Nat} {zu : Nat → Nat} {zh : Nat} {zst : Nat} {zre : Nat} {zx : Nat} {zg : Nat → Int64} {za : Nat} {zr : Nat → Nat} (hst : l.stackTraces = false) (X : fb_Bx p s m #[Value.ref b] meth c cL_law RL 9 (some .boolean) D (fb_ty D cI cJ) (fun q : Nat => s.heap.size ≤ q)) (hX : va_X b L xs s s.heap) (hbl : b < s.heap.size) (hbA : ¬ (fun q : Nat => s.heap.size ≤ q) b) (hL6 : L = 6) (hz : xs 1 = 3) (r0 : ¬ (3 : Int32) < 0) (r4 : (3 : Int32) ≤ (4 : Int32)) (e4 : ¬ (3 : Int32) = (4 : Int32)) (e3 : (3 : Int32) = (3 : Int32)) (v0 : ¬ (xs 2) < 0) (v1 : ¬ (xs 2) ≤ (31 : Int32)) (q1 : f_X12_isIn (xs 2) (0 : Int32) (31 : Int32) = (0 : Int32)) (I : fb_In D (fun q : Nat => s.heap.size ≤ q) s.heap (([fb_o11 zb zt zn zv zs zp (zq 0) (zu 0) zh zst zre, fb_jw cJ zx 1 zg, fb_o12 za zr fr_e0] : List va_W).flatten) H locs) (hl : lv_has ls 9 [(4, .int (0 : Int32)), (3, .ref zx), (2, .ref za), (1, .ref zb), (0, .ref b)]) : W p l e room_1 s m #[Value.ref b] below meth c H locs 209 179241 (lw_Z below #[Value.ref b] s) (F0 m 814 ls []) := by
  obtain ⟨hx, hb, hr, hml, hown, hts, hlk, hA, hK, hF⟩ := id X
  refine lv_aload_n hx hb dL_law_814 rfl (lv_at hl 3 rfl) ?_
  refine lv_aload_n hx hb dL_law_815 rfl (lv_at hl 4 rfl) ?_
  refine lv_iload hx hb dL_law_816 (lv_at hl 0 rfl) ?_
  refine lv_iconst (v := (1 : Int32)) hx hb dL_law_818 (by decide) ?_
  refine lv_iadd hx hb dL_law_819 ?_
  refine fb_tI (v := (1 : Int32)) (by decide) ?_
  refine va_sld (i := (1 : Int32)) hx hb hX hbl hbA I.2.2 (fb_inC (n := 1) (by decide) (by decide) (by omega)) dL_law_820 ?_
  refine fb_tI (v := (xs 1)) rfl ?_
  refine fb_tI (v := (3 : Int32)) hz ?_
  refine lv_aload_n hx hb dL_law_821 rfl (lv_at hl 4 rfl) ?_
  refine lv_iload hx hb dL_law_822 (lv_at hl 0 rfl) ?_
  refine lv_iconst (v := (2 : Int32)) hx hb dL_law_824 (by decide) ?_
  refine lv_iadd hx hb dL_law_825 ?_
  refine fb_tI (v := (2 : Int32)) (by decide) ?_
  refine va_sld (i := (2 : Int32)) hx hb hX hbl hbA I.2.2 (fb_inC (n := 2) (by decide) (by decide) (by omega)) dL_law_826 ?_
  refine fb_tI (v := (xs 2)) rfl ?_
  refine lv_aload_n hx hb dL_law_827 rfl (lv_at hl 1 rfl) ?_
  refine fb_gI (cs := [fb_o11 zb zt zn zv zs zp (zq 0) (zu 0) zh zst zre, fb_jw cJ zx 1 zg]) (rs := [fb_o12 za zr fr_e0]) (fun (t : Unit) => [fb_jw cJ zx 1 zg, fb_o12 za zr fr_e0]) (fun (t : Unit) => [fb_jw cJ zx 1 zg]) X I [0, 1, 2] 3 rfl (by decide +kernel) rfl rfl [0, 1] 2 (fun _ => rfl) (by decide +kernel) (fun _ => rfl) (fun _ => rfl) (fun I => fb_rSW (As := [.ref zb, .int (3 : Int32), .int (xs 2), .ref zx]) (rest := []) X hl (fb_goodSW fw_1759 fw_1760 fw_190 fw_1761) (c_w_setRegister_3m l D cI cJ zb zt zn zv zs zp zq zu zh zst zre zx zg (3 : Int32) (xs 2) _ hst r0 r4 e4 e3 v0 v1) rfl rfl (by decide +kernel : fb_hd yL_setRegister 4) ⟨Nat.le_of_ble_eq_true rfl, Nat.le_of_ble_eq_true rfl⟩ rfl rfl (Nat.le_of_ble_eq_true rfl) ⟨Nat.le_of_ble_eq_true rfl, Nat.le_of_ble_eq_true rfl⟩ dL_law_828 I) ?_
  intro r2 w1 H locs e0 I
  subst e0
  have I : fb_In D (fun q : Nat => s.heap.size ≤ q) s.heap (([fb_jw cJ zx 1 zg, fb_o12 za zr fr_e0] : List va_W).flatten) H locs := I
  refine lv_istore (lv' := [(5, .int (2 : Int32)), (4, .int (0 : Int32)), (3, .ref zx), (2, .ref za), (1, .ref zb), (0, .ref b)]) hx hb dL_law_831 hl (by decide) rfl (fun ls hl => ?_)
  refine lv_aload_n hx hb dL_law_833 rfl (lv_at hl 3 rfl) ?_
  refine lv_aload_n hx hb dL_law_834 rfl (lv_at hl 5 rfl) ?_
  refine lv_iload hx hb dL_law_835 (lv_at hl 1 rfl) ?_
  refine lv_iconst (v := (1 : Int32)) hx hb dL_law_837 (by decide) ?_
  refine lv_iadd hx hb dL_law_838 ?_
  refine fb_tI (v := (1 : Int32)) (by decide) ?_
  refine va_sld (i := (1 : Int32)) hx hb hX hbl hbA I.2.2 (fb_inC (n := 1) (by decide) (by decide) (by omega)) dL_law_839 ?_
  refine fb_tI (v := (xs 1)) rfl ?_
  refine fb_tI (v := (3 : Int32)) hz ?_
  refine lv_aload_n hx hb dL_law_840 rfl (lv_at hl 5 rfl) ?_
  refine lv_iload hx hb dL_law_841 (lv_at hl 1 rfl) ?_
  refine lv_iconst (v := (2 : Int32)) hx hb dL_law_843 (by decide) ?_
  refine lv_iadd hx hb dL_law_844 ?_
  refine fb_tI (v := (2 : Int32)) (by decide) ?_
  refine va_sld (i := (2 : Int32)) hx hb hX hbl hbA I.2.2 (fb_inC (n := 2) (by decide) (by decide) (by omega)) dL_law_845 ?_
  refine fb_tI (v := (xs 2)) rfl ?_
  refine fb_gI (cs := [fb_o12 za zr fr_e0]) (rs := [fb_jw cJ zx 1 zg]) (fun (t : Unit) => [fb_jw cJ zx 1 zg, fb_o12 za zr (upd (upd fr_e0 19 (0 : Int32)) 19 (2 : Int32))]) (fun (t : Unit) => [fb_o12 za zr (upd (upd fr_e0 19 (0 : Int32)) 19 (2 : Int32))]) X I [1, 0] 2 rfl (by decide +kernel) rfl rfl [1, 0] 2 (fun _ => rfl) (by decide +kernel) (fun _ => rfl) (fun _ => rfl) (fun I => fb_rV (As := [.int (3 : Int32), .int (xs 2)]) (rest := []) X hl (fb_goodV fw_2394 fw_2395 fw_2396 fw_204 fw_2397) (c_setRegister_bad3 l D cI cJ za zr (xs 2) _ q1) rfl rfl rfl (by decide +kernel : fb_hd yX12_setRegister 2) ⟨Nat.le_of_ble_eq_true rfl, Nat.le_of_ble_eq_true rfl⟩ rfl rfl rfl rfl rfl (Nat.le_of_ble_eq_true rfl) ⟨Nat.le_of_ble_eq_true rfl, Nat.le_of_ble_eq_true rfl⟩ dL_law_846 I) ?_
  intro r4 w3 H locs e0 I
  subst e0
  have I : fb_In D (fun q : Nat => s.heap.size ≤ q) s.heap (([fb_jw cJ zx 1 zg, fb_o12 za zr (upd (upd fr_e0 19 (0 : Int32)) 19 (2 : Int32))] : List va_W).flatten) H locs := I
  refine lv_istore (lv' := [(6, .int (0 : Int32)), (5, .int (2 : Int32)), (4, .int (0 : Int32)), (3, .ref zx), (2, .ref za), (1, .ref zb), (0, .ref b)]) hx hb dL_law_849 hl (by decide) rfl (fun ls hl => ?_)
  refine lv_aload_n hx hb dL_law_851 rfl (lv_at hl 4 rfl) ?_
  refine fb_gO (cs := [fb_o12 za zr (upd (upd fr_e0 19 (0 : Int32)) 19 (2 : Int32))]) (rs := [fb_jw cJ zx 1 zg]) X I [1, 0] 2 rfl (by decide +kernel) rfl rfl (fun I => fb_rV (As := []) (rest := []) X hl (fb_goodV fw_2119 fw_2120 fw_2121 fw_204 fw_2122) (c_thrown l D cI cJ za zr (upd (upd fr_e0 19 (0 : Int32)) 19 (2 : Int32)) _ ) rfl rfl rfl (by decide +kernel : fb_hd yX12_thrown 0) ⟨Nat.le_of_ble_eq_true rfl, Nat.le_of_ble_eq_true rfl⟩ rfl rfl rfl rfl rfl (Nat.le_of_ble_eq_true rfl) ⟨Nat.le_of_ble_eq_true rfl, Nat.le_of_ble_eq_true rfl⟩ dL_law_852 I) ?_
  refine fb_tI (v := (2 : Int32)) rfl ?_
  refine lv_iload hx hb dL_law_855 (lv_at hl 1 rfl) ?_
  refine lv_icmp_eq (tgt := 862) hx hb dL_law_857 (by decide) (fun _ => ?_) (fun c5 => absurd rfl c5)
  refine lv_iload hx hb dL_law_862 (lv_at hl 1 rfl) ?_
  refine lv_if_ne (tgt := 879) hx hb dL_law_864 (by decide) (fun _ => ?_) (fun c6 => absurd c6 (by decide))
  refine lv_goto (tgt := 2336) hx hb dL_law_879 (by decide) ?_
  exact lw_end X hX hbl hbA (by omega) I (lv_sub hl [2, 6] rfl) (Nat.le_of_ble_eq_true rfl) (Nat.le_of_ble_eq_true rfl)

set_option maxHeartbeats 4000000 in
set_option maxRecDepth 100000 in
theorem lc_13_i3 {p : Program} {l : Launch} {e : Env} {s : State} {m : MethodId} {below : List Frame} {meth : Method} {c : Code} {H : Heap} {locs : List Loc} {ls : Array Slot} {D : va_G} {cI cJ : ClassId} {b L : Nat} {xs : Nat → Int32} {zb : Nat} {zt : Nat} {zn : Nat} {zv : Nat} {zs : Nat} {zp : Nat} {zq : Nat → Nat} {zu : Nat → Nat} {zh : Nat} {zst : Nat} {zre : Nat} {zw : fb_AR} {zo : Nat → Nat} {zi : Nat → Nat} {zx : Nat} {zg : Nat → Int64} {za : Nat} {zr : Nat → Nat} {zv9 : Nat} (hst : l.stackTraces = false) (X : fb_Bx p s m #[Value.ref b] meth c cL_law RL 9 (some .boolean) D (fb_ty D cI cJ) (fun q : Nat => s.heap.size ≤ q)) (hX : va_X b L xs s s.heap) (hbl : b < s.heap.size) (hbA : ¬ (fun q : Nat => s.heap.size ≤ q) b) (hL6 : L = 6) (hz : xs 1 = 3) (hw : xs 2 = nI zv9) (hv : zv9 ≤ 31) (I : fb_In D (fun q : Nat => s.heap.size ≤ q) s.heap (([fb_o11 zb zt zn zv zs zp (zq 0) (zu 0) zh zst zre, fb_mw cI zq fb_s0 zw, fb_o0 zh (zo 0) (zi 0) fb_h0, fb_jw cJ zx 1 zg, fb_o12 za zr fr_e0, fb_aw cI (zr 0) 16205 (fr_m (fun _ => 0) 0)] : List va_W).flatten) H locs) (hl : lv_has ls 9 [(4, .int (0 : Int32)), (3, .ref zx), (2, .ref za), (1, .ref zb), (0, .ref b)]) : W p l e room_1 s m #[Value.ref b] below meth c H locs 209 179241 (lw_Z below #[Value.ref b] s) (F0 m 814 ls []) := by
  obtain ⟨hx, hb, hr, hml, hown, hts, hlk, hA, hK, hF⟩ := id X
  refine lv_aload_n hx hb dL_law_814 rfl (lv_at hl 3 rfl) ?_
  refine lv_aload_n hx hb dL_law_815 rfl (lv_at hl 4 rfl) ?_
  refine lv_iload hx hb dL_law_816 (lv_at hl 0 rfl) ?_
  refine lv_iconst (v := (1 : Int32)) hx hb dL_law_818 (by decide) ?_
  refine lv_iadd hx hb dL_law_819 ?_
  refine fb_tI (v := (1 : Int32)) (by decide) ?_
  refine va_sld (i := (1 : Int32)) hx hb hX hbl hbA I.2.2 (fb_inC (n := 1) (by decide) (by decide) (by omega)) dL_law_820 ?_
  refine fb_tI (v := (xs 1)) rfl ?_
  refine fb_tI (v := (3 : Int32)) hz ?_
  refine lv_aload_n hx hb dL_law_821 rfl (lv_at hl 4 rfl) ?_
  refine lv_iload hx hb dL_law_822 (lv_at hl 0 rfl) ?_
  refine lv_iconst (v := (2 : Int32)) hx hb dL_law_824 (by decide) ?_
  refine lv_iadd hx hb dL_law_825 ?_
  refine fb_tI (v := (2 : Int32)) (by decide) ?_
  refine va_sld (i := (2 : Int32)) hx hb hX hbl hbA I.2.2 (fb_inC (n := 2) (by decide) (by decide) (by omega)) dL_law_826 ?_
  refine fb_tI (v := (xs 2)) rfl ?_
  refine fb_tI (v := (nI zv9)) hw ?_
  refine lv_aload_n hx hb dL_law_827 rfl (lv_at hl 1 rfl) ?_
  refine fb_gI (cs := [fb_o11 zb zt zn zv zs zp (zq 0) (zu 0) zh zst zre, fb_mw cI zq fb_s0 zw, fb_o0 zh (zo 0) (zi 0) fb_h0, fb_jw cJ zx 1 zg]) (rs := [fb_o12 za zr fr_e0, fb_aw cI (zr 0) 16205 (fr_m (fun _ => 0) 0)]) (fun (t : Unit) => [fb_jw cJ zx 1 (vp_updL zg 0 (((4 : Int32)).toInt64)), fb_o12 za zr fr_e0, fb_aw cI (zr 0) 16205 (fr_m (fun _ => 0) 0)]) (fun (t : Unit) => [fb_jw cJ zx 1 (vp_updL zg 0 (((4 : Int32)).toInt64))]) X I [0, 1, 2, 3, 4, 5] 6 rfl (by decide +kernel) rfl rfl [0, 1, 2] 3 (fun _ => rfl) (by decide +kernel) (fun _ => rfl) (fun _ => rfl) (fun I => fb_rSW (As := [.ref zb, .int (3 : Int32), .int (nI zv9), .ref zx]) (rest := []) X hl (fb_goodSW fw_1759 fw_1760 fw_190 fw_1761) (c_w_setRegister_3 l D cI cJ zb zt zn zv zs zp zq zu zh zst zre zw zo zi zx zg zv9 _ hst (by omega)) rfl rfl (by decide +kernel : fb_hd yL_setRegister 4) ⟨Nat.le_of_ble_eq_true rfl, Nat.le_of_ble_eq_true rfl⟩ rfl rfl (Nat.le_of_ble_eq_true rfl) ⟨Nat.le_of_ble_eq_true rfl, Nat.le_of_ble_eq_true rfl⟩ dL_law_828 I) ?_
  intro r2 w1 H locs e0 I
  subst e0
  have I : fb_In D (fun q : Nat => s.heap.size ≤ q) s.heap (([fb_jw cJ zx 1 (vp_updL zg 0 (((4 : Int32)).toInt64)), fb_o12 za zr fr_e0, fb_aw cI (zr 0) 16205 (fr_m (fun _ => 0) 0)] : List va_W).flatten) H locs := I
  refine lv_istore (lv' := [(5, .int (0 : Int32)), (4, .int (0 : Int32)), (3, .ref zx), (2, .ref za), (1, .ref zb), (0, .ref b)]) hx hb dL_law_831 hl (by decide) rfl (fun ls hl => ?_)
  refine lv_aload_n hx hb dL_law_833 rfl (lv_at hl 3 rfl) ?_
  refine lv_aload_n hx hb dL_law_834 rfl (lv_at hl 5 rfl) ?_
  refine lv_iload hx hb dL_law_835 (lv_at hl 1 rfl) ?_
  refine lv_iconst (v := (1 : Int32)) hx hb dL_law_837 (by decide) ?_
  refine lv_iadd hx hb dL_law_838 ?_
  refine fb_tI (v := (1 : Int32)) (by decide) ?_
  refine va_sld (i := (1 : Int32)) hx hb hX hbl hbA I.2.2 (fb_inC (n := 1) (by decide) (by decide) (by omega)) dL_law_839 ?_
  refine fb_tI (v := (xs 1)) rfl ?_
  refine fb_tI (v := (3 : Int32)) hz ?_
  refine lv_aload_n hx hb dL_law_840 rfl (lv_at hl 5 rfl) ?_
  refine lv_iload hx hb dL_law_841 (lv_at hl 1 rfl) ?_
  refine lv_iconst (v := (2 : Int32)) hx hb dL_law_843 (by decide) ?_
  refine lv_iadd hx hb dL_law_844 ?_
  refine fb_tI (v := (2 : Int32)) (by decide) ?_
  refine va_sld (i := (2 : Int32)) hx hb hX hbl hbA I.2.2 (fb_inC (n := 2) (by decide) (by decide) (by omega)) dL_law_845 ?_
  refine fb_tI (v := (xs 2)) rfl ?_
  refine fb_tI (v := (nI zv9)) hw ?_
  refine fb_gI (cs := [fb_o12 za zr fr_e0, fb_aw cI (zr 0) 16205 (fr_m (fun _ => 0) 0)]) (rs := [fb_jw cJ zx 1 (vp_updL zg 0 (((4 : Int32)).toInt64))]) (fun (t : Unit) => [fb_jw cJ zx 1 (vp_updL zg 0 (((4 : Int32)).toInt64)), fb_o12 za zr (upd (upd fr_e0 19 (0 : Int32)) 2 (0 : Int32)), fb_aw cI (zr 0) 16205 (upd (fr_m (fun _ => 0) 0) 3 (nI zv9))]) (fun (t : Unit) => [fb_o12 za zr (upd (upd fr_e0 19 (0 : Int32)) 2 (0 : Int32)), fb_aw cI (zr 0) 16205 (upd (fr_m (fun _ => 0) 0) 3 (nI zv9))]) X I [1, 2, 0] 3 rfl (by decide +kernel) rfl rfl [1, 2, 0] 3 (fun _ => rfl) (by decide +kernel) (fun _ => rfl) (fun _ => rfl) (fun I => fb_rV (As := [.int (3 : Int32), .int (nI zv9)]) (rest := []) X hl (fb_goodV fw_2394 fw_2395 fw_2396 fw_204 fw_2397) (c_setRegister_3 l D cI cJ za zr (nI zv9) _ (fr_inN (z := zv9) (a := 0) (b := 31) (by omega) (by omega) (by omega))) rfl rfl rfl (by decide +kernel : fb_hd yX12_setRegister 2) ⟨Nat.le_of_ble_eq_true rfl, Nat.le_of_ble_eq_true rfl⟩ rfl rfl rfl rfl rfl (Nat.le_of_ble_eq_true rfl) ⟨Nat.le_of_ble_eq_true rfl, Nat.le_of_ble_eq_true rfl⟩ dL_law_846 I) ?_
  intro r4 w3 H locs e0 I
  subst e0
  have I : fb_In D (fun q : Nat => s.heap.size ≤ q) s.heap (([fb_jw cJ zx 1 (vp_updL zg 0 (((4 : Int32)).toInt64)), fb_o12 za zr (upd (upd fr_e0 19 (0 : Int32)) 2 (0 : Int32)), fb_aw cI (zr 0) 16205 (upd (fr_m (fun _ => 0) 0) 3 (nI zv9))] : List va_W).flatten) H locs := I
  refine lv_istore (lv' := [(6, .int (4 : Int32)), (5, .int (0 : Int32)), (4, .int (0 : Int32)), (3, .ref zx), (2, .ref za), (1, .ref zb), (0, .ref b)]) hx hb dL_law_849 hl (by decide) rfl (fun ls hl => ?_)
  refine lv_aload_n hx hb dL_law_851 rfl (lv_at hl 4 rfl) ?_
  refine fb_gO (cs := [fb_o12 za zr (upd (upd fr_e0 19 (0 : Int32)) 2 (0 : Int32))]) (rs := [fb_jw cJ zx 1 (vp_updL zg 0 (((4 : Int32)).toInt64)), fb_aw cI (zr 0) 16205 (upd (fr_m (fun _ => 0) 0) 3 (nI zv9))]) X I [1, 0, 2] 3 rfl (by decide +kernel) rfl rfl (fun I => fb_rV (As := []) (rest := []) X hl (fb_goodV fw_2119 fw_2120 fw_2121 fw_204 fw_2122) (c_thrown l D cI cJ za zr (upd (upd fr_e0 19 (0 : Int32)) 2 (0 : Int32)) _ ) rfl rfl rfl (by decide +kernel : fb_hd yX12_thrown 0) ⟨Nat.le_of_ble_eq_true rfl, Nat.le_of_ble_eq_true rfl⟩ rfl rfl rfl rfl rfl (Nat.le_of_ble_eq_true rfl) ⟨Nat.le_of_ble_eq_true rfl, Nat.le_of_ble_eq_true rfl⟩ dL_law_852 I) ?_
  refine fb_tI (v := (0 : Int32)) rfl ?_
  refine lv_iload hx hb dL_law_855 (lv_at hl 1 rfl) ?_
  refine lv_icmp_eq (tgt := 862) hx hb dL_law_857 (by decide) (fun _ => ?_) (fun c5 => absurd rfl c5)
  refine lv_iload hx hb dL_law_862 (lv_at hl 1 rfl) ?_
  refine lv_if_ne (tgt := 879) hx hb dL_law_864 (by decide) (fun c6 => absurd (by decide) c6) (fun _ => ?_)
  refine lv_aload_n hx hb dL_law_867 rfl (lv_at hl 3 rfl) ?_
  refine lv_iconst (v := (0 : Int32)) hx hb dL_law_868 (by decide) ?_
  refine va_lald (i := (0 : Int32)) hx hb hK.1 I.1 0 1 rfl rfl (fb_inC (n := 0) (by decide) (by decide) (Nat.le_of_ble_eq_true rfl)) dL_law_869 ?_
  refine fb_tL (v := (((4 : Int32)).toInt64)) rfl ?_
  refine lv_iload hx hb dL_law_870 (lv_at hl 0 rfl) ?_
  refine lv_i2l (v := (((4 : Int32)).toInt64)) hx hb dL_law_872 rfl ?_
  refine W.lcmp hx hb dL_law_873 ?_
  refine fb_tI (v := (0 : Int32)) (lw_cmp0 _) ?_
  refine lv_if_eq (tgt := 879) hx hb dL_law_874 (by decide) (fun _ => ?_) (fun c7 => absurd (by decide) c7)
  refine lv_goto (tgt := 2336) hx hb dL_law_879 (by decide) ?_
  exact lw_end X hX hbl hbA (by omega) I (lv_sub hl [2, 6] rfl) (Nat.le_of_ble_eq_true rfl) (Nat.le_of_ble_eq_true rfl)

set_option maxHeartbeats 4000000 in
set_option maxRecDepth 100000 in
theorem lc_13_n4 {p : Program} {l : Launch} {e : Env} {s : State} {m : MethodId} {below : List Frame} {meth : Method} {c : Code} {H : Heap} {locs : List Loc} {ls : Array Slot} {D : va_G} {cI cJ : ClassId} {b L : Nat} {xs : Nat → Int32} {zb : Nat} {zt : Nat} {zn : Nat} {zv : Nat} {zs : Nat} {zp : Nat} {zq : Nat → Nat} {zu : Nat → Nat} {zh : Nat} {zst : Nat} {zre : Nat} {zx : Nat} {zg : Nat → Int64} {za : Nat} {zr : Nat → Nat} (hst : l.stackTraces = false) (X : fb_Bx p s m #[Value.ref b] meth c cL_law RL 9 (some .boolean) D (fb_ty D cI cJ) (fun q : Nat => s.heap.size ≤ q)) (hX : va_X b L xs s s.heap) (hbl : b < s.heap.size) (hbA : ¬ (fun q : Nat => s.heap.size ≤ q) b) (hL6 : L = 6) (hz : xs 1 = 4) (r0 : ¬ (4 : Int32) < 0) (r4 : (4 : Int32) ≤ (4 : Int32)) (e4 : (4 : Int32) = (4 : Int32)) (v0 : (xs 2) < 0) (q1 : f_X12_isIn (xs 2) (0 : Int32) (4095 : Int32) = (0 : Int32)) (I : fb_In D (fun q : Nat => s.heap.size ≤ q) s.heap (([fb_o11 zb zt zn zv zs zp (zq 0) (zu 0) zh zst zre, fb_jw cJ zx 1 zg, fb_o12 za zr fr_e0] : List va_W).flatten) H locs) (hl : lv_has ls 9 [(4, .int (0 : Int32)), (3, .ref zx), (2, .ref za), (1, .ref zb), (0, .ref b)]) : W p l e room_1 s m #[Value.ref b] below meth c H locs 209 179241 (lw_Z below #[Value.ref b] s) (F0 m 814 ls []) := by
  obtain ⟨hx, hb, hr, hml, hown, hts, hlk, hA, hK, hF⟩ := id X
  refine lv_aload_n hx hb dL_law_814 rfl (lv_at hl 3 rfl) ?_
  refine lv_aload_n hx hb dL_law_815 rfl (lv_at hl 4 rfl) ?_
  refine lv_iload hx hb dL_law_816 (lv_at hl 0 rfl) ?_
  refine lv_iconst (v := (1 : Int32)) hx hb dL_law_818 (by decide) ?_
  refine lv_iadd hx hb dL_law_819 ?_
  refine fb_tI (v := (1 : Int32)) (by decide) ?_
  refine va_sld (i := (1 : Int32)) hx hb hX hbl hbA I.2.2 (fb_inC (n := 1) (by decide) (by decide) (by omega)) dL_law_820 ?_
  refine fb_tI (v := (xs 1)) rfl ?_
  refine fb_tI (v := (4 : Int32)) hz ?_
  refine lv_aload_n hx hb dL_law_821 rfl (lv_at hl 4 rfl) ?_
  refine lv_iload hx hb dL_law_822 (lv_at hl 0 rfl) ?_
  refine lv_iconst (v := (2 : Int32)) hx hb dL_law_824 (by decide) ?_
  refine lv_iadd hx hb dL_law_825 ?_
  refine fb_tI (v := (2 : Int32)) (by decide) ?_
  refine va_sld (i := (2 : Int32)) hx hb hX hbl hbA I.2.2 (fb_inC (n := 2) (by decide) (by decide) (by omega)) dL_law_826 ?_
  refine fb_tI (v := (xs 2)) rfl ?_
  refine lv_aload_n hx hb dL_law_827 rfl (lv_at hl 1 rfl) ?_
  refine fb_gI (cs := [fb_o11 zb zt zn zv zs zp (zq 0) (zu 0) zh zst zre, fb_jw cJ zx 1 zg]) (rs := [fb_o12 za zr fr_e0]) (fun (t : Unit) => [fb_jw cJ zx 1 zg, fb_o12 za zr fr_e0]) (fun (t : Unit) => [fb_jw cJ zx 1 zg]) X I [0, 1, 2] 3 rfl (by decide +kernel) rfl rfl [0, 1] 2 (fun _ => rfl) (by decide +kernel) (fun _ => rfl) (fun _ => rfl) (fun I => fb_rSW (As := [.ref zb, .int (4 : Int32), .int (xs 2), .ref zx]) (rest := []) X hl (fb_goodSW fw_1759 fw_1760 fw_190 fw_1761) (c_w_setRegister_4n l D cI cJ zb zt zn zv zs zp zq zu zh zst zre zx zg (4 : Int32) (xs 2) _ hst r0 r4 e4 v0) rfl rfl (by decide +kernel : fb_hd yL_setRegister 4) ⟨Nat.le_of_ble_eq_true rfl, Nat.le_of_ble_eq_true rfl⟩ rfl rfl (Nat.le_of_ble_eq_true rfl) ⟨Nat.le_of_ble_eq_true rfl, Nat.le_of_ble_eq_true rfl⟩ dL_law_828 I) ?_
  intro r2 w1 H locs e0 I
  subst e0
  have I : fb_In D (fun q : Nat => s.heap.size ≤ q) s.heap (([fb_jw cJ zx 1 zg, fb_o12 za zr fr_e0] : List va_W).flatten) H locs := I
  refine lv_istore (lv' := [(5, .int (2 : Int32)), (4, .int (0 : Int32)), (3, .ref zx), (2, .ref za), (1, .ref zb), (0, .ref b)]) hx hb dL_law_831 hl (by decide) rfl (fun ls hl => ?_)
  refine lv_aload_n hx hb dL_law_833 rfl (lv_at hl 3 rfl) ?_
  refine lv_aload_n hx hb dL_law_834 rfl (lv_at hl 5 rfl) ?_
  refine lv_iload hx hb dL_law_835 (lv_at hl 1 rfl) ?_
  refine lv_iconst (v := (1 : Int32)) hx hb dL_law_837 (by decide) ?_
  refine lv_iadd hx hb dL_law_838 ?_
  refine fb_tI (v := (1 : Int32)) (by decide) ?_
  refine va_sld (i := (1 : Int32)) hx hb hX hbl hbA I.2.2 (fb_inC (n := 1) (by decide) (by decide) (by omega)) dL_law_839 ?_
  refine fb_tI (v := (xs 1)) rfl ?_
  refine fb_tI (v := (4 : Int32)) hz ?_
  refine lv_aload_n hx hb dL_law_840 rfl (lv_at hl 5 rfl) ?_
  refine lv_iload hx hb dL_law_841 (lv_at hl 1 rfl) ?_
  refine lv_iconst (v := (2 : Int32)) hx hb dL_law_843 (by decide) ?_
  refine lv_iadd hx hb dL_law_844 ?_
  refine fb_tI (v := (2 : Int32)) (by decide) ?_
  refine va_sld (i := (2 : Int32)) hx hb hX hbl hbA I.2.2 (fb_inC (n := 2) (by decide) (by decide) (by omega)) dL_law_845 ?_
  refine fb_tI (v := (xs 2)) rfl ?_
  refine fb_gI (cs := [fb_o12 za zr fr_e0]) (rs := [fb_jw cJ zx 1 zg]) (fun (t : Unit) => [fb_jw cJ zx 1 zg, fb_o12 za zr (upd (upd fr_e0 19 (0 : Int32)) 19 (2 : Int32))]) (fun (t : Unit) => [fb_o12 za zr (upd (upd fr_e0 19 (0 : Int32)) 19 (2 : Int32))]) X I [1, 0] 2 rfl (by decide +kernel) rfl rfl [1, 0] 2 (fun _ => rfl) (by decide +kernel) (fun _ => rfl) (fun _ => rfl) (fun I => fb_rV (As := [.int (4 : Int32), .int (xs 2)]) (rest := []) X hl (fb_goodV fw_2394 fw_2395 fw_2396 fw_204 fw_2397) (c_setRegister_bad4 l D cI cJ za zr (xs 2) _ q1) rfl rfl rfl (by decide +kernel : fb_hd yX12_setRegister 2) ⟨Nat.le_of_ble_eq_true rfl, Nat.le_of_ble_eq_true rfl⟩ rfl rfl rfl rfl rfl (Nat.le_of_ble_eq_true rfl) ⟨Nat.le_of_ble_eq_true rfl, Nat.le_of_ble_eq_true rfl⟩ dL_law_846 I) ?_
  intro r4 w3 H locs e0 I
  subst e0
  have I : fb_In D (fun q : Nat => s.heap.size ≤ q) s.heap (([fb_jw cJ zx 1 zg, fb_o12 za zr (upd (upd fr_e0 19 (0 : Int32)) 19 (2 : Int32))] : List va_W).flatten) H locs := I
  refine lv_istore (lv' := [(6, .int (0 : Int32)), (5, .int (2 : Int32)), (4, .int (0 : Int32)), (3, .ref zx), (2, .ref za), (1, .ref zb), (0, .ref b)]) hx hb dL_law_849 hl (by decide) rfl (fun ls hl => ?_)
  refine lv_aload_n hx hb dL_law_851 rfl (lv_at hl 4 rfl) ?_
  refine fb_gO (cs := [fb_o12 za zr (upd (upd fr_e0 19 (0 : Int32)) 19 (2 : Int32))]) (rs := [fb_jw cJ zx 1 zg]) X I [1, 0] 2 rfl (by decide +kernel) rfl rfl (fun I => fb_rV (As := []) (rest := []) X hl (fb_goodV fw_2119 fw_2120 fw_2121 fw_204 fw_2122) (c_thrown l D cI cJ za zr (upd (upd fr_e0 19 (0 : Int32)) 19 (2 : Int32)) _ ) rfl rfl rfl (by decide +kernel : fb_hd yX12_thrown 0) ⟨Nat.le_of_ble_eq_true rfl, Nat.le_of_ble_eq_true rfl⟩ rfl rfl rfl rfl rfl (Nat.le_of_ble_eq_true rfl) ⟨Nat.le_of_ble_eq_true rfl, Nat.le_of_ble_eq_true rfl⟩ dL_law_852 I) ?_
  refine fb_tI (v := (2 : Int32)) rfl ?_
  refine lv_iload hx hb dL_law_855 (lv_at hl 1 rfl) ?_
  refine lv_icmp_eq (tgt := 862) hx hb dL_law_857 (by decide) (fun _ => ?_) (fun c5 => absurd rfl c5)
  refine lv_iload hx hb dL_law_862 (lv_at hl 1 rfl) ?_
  refine lv_if_ne (tgt := 879) hx hb dL_law_864 (by decide) (fun _ => ?_) (fun c6 => absurd c6 (by decide))
  refine lv_goto (tgt := 2336) hx hb dL_law_879 (by decide) ?_
  exact lw_end X hX hbl hbA (by omega) I (lv_sub hl [2, 6] rfl) (Nat.le_of_ble_eq_true rfl) (Nat.le_of_ble_eq_true rfl)

set_option maxHeartbeats 4000000 in
set_option maxRecDepth 100000 in
theorem lc_13_m4 {p : Program} {l : Launch} {e : Env} {s : State} {m : MethodId} {below : List Frame} {meth : Method} {c : Code} {H : Heap} {locs : List Loc} {ls : Array Slot} {D : va_G} {cI cJ : ClassId} {b L : Nat} {xs : Nat → Int32} {zb : Nat} {zt : Nat} {zn : Nat} {zv : Nat} {zs : Nat} {zp : Nat} {zq : Nat → Nat} {zu : Nat → Nat} {zh : Nat} {zst : Nat} {zre : Nat} {zx : Nat} {zg : Nat → Int64} {za : Nat} {zr : Nat → Nat} (hst : l.stackTraces = false) (X : fb_Bx p s m #[Value.ref b] meth c cL_law RL 9 (some .boolean) D (fb_ty D cI cJ) (fun q : Nat => s.heap.size ≤ q)) (hX : va_X b L xs s s.heap) (hbl : b < s.heap.size) (hbA : ¬ (fun q : Nat => s.heap.size ≤ q) b) (hL6 : L = 6) (hz : xs 1 = 4) (r0 : ¬ (4 : Int32) < 0) (r4 : (4 : Int32) ≤ (4 : Int32)) (e4 : (4 : Int32) = (4 : Int32)) (v0 : ¬ (xs 2) < 0) (v1 : ¬ (xs 2) ≤ (4095 : Int32)) (q1 : f_X12_isIn (xs 2) (0 : Int32) (4095 : Int32) = (0 : Int32)) (I : fb_In D (fun q : Nat => s.heap.size ≤ q) s.heap (([fb_o11 zb zt zn zv zs zp (zq 0) (zu 0) zh zst zre, fb_jw cJ zx 1 zg, fb_o12 za zr fr_e0] : List va_W).flatten) H locs) (hl : lv_has ls 9 [(4, .int (0 : Int32)), (3, .ref zx), (2, .ref za), (1, .ref zb), (0, .ref b)]) : W p l e room_1 s m #[Value.ref b] below meth c H locs 209 179241 (lw_Z below #[Value.ref b] s) (F0 m 814 ls []) := by
  obtain ⟨hx, hb, hr, hml, hown, hts, hlk, hA, hK, hF⟩ := id X
  refine lv_aload_n hx hb dL_law_814 rfl (lv_at hl 3 rfl) ?_
  refine lv_aload_n hx hb dL_law_815 rfl (lv_at hl 4 rfl) ?_
  refine lv_iload hx hb dL_law_816 (lv_at hl 0 rfl) ?_
  refine lv_iconst (v := (1 : Int32)) hx hb dL_law_818 (by decide) ?_
  refine lv_iadd hx hb dL_law_819 ?_
  refine fb_tI (v := (1 : Int32)) (by decide) ?_
  refine va_sld (i := (1 : Int32)) hx hb hX hbl hbA I.2.2 (fb_inC (n := 1) (by decide) (by decide) (by omega)) dL_law_820 ?_
  refine fb_tI (v := (xs 1)) rfl ?_
  refine fb_tI (v := (4 : Int32)) hz ?_
  refine lv_aload_n hx hb dL_law_821 rfl (lv_at hl 4 rfl) ?_
  refine lv_iload hx hb dL_law_822 (lv_at hl 0 rfl) ?_
  refine lv_iconst (v := (2 : Int32)) hx hb dL_law_824 (by decide) ?_
  refine lv_iadd hx hb dL_law_825 ?_
  refine fb_tI (v := (2 : Int32)) (by decide) ?_
  refine va_sld (i := (2 : Int32)) hx hb hX hbl hbA I.2.2 (fb_inC (n := 2) (by decide) (by decide) (by omega)) dL_law_826 ?_
  refine fb_tI (v := (xs 2)) rfl ?_
  refine lv_aload_n hx hb dL_law_827 rfl (lv_at hl 1 rfl) ?_
  refine fb_gI (cs := [fb_o11 zb zt zn zv zs zp (zq 0) (zu 0) zh zst zre, fb_jw cJ zx 1 zg]) (rs := [fb_o12 za zr fr_e0]) (fun (t : Unit) => [fb_jw cJ zx 1 zg, fb_o12 za zr fr_e0]) (fun (t : Unit) => [fb_jw cJ zx 1 zg]) X I [0, 1, 2] 3 rfl (by decide +kernel) rfl rfl [0, 1] 2 (fun _ => rfl) (by decide +kernel) (fun _ => rfl) (fun _ => rfl) (fun I => fb_rSW (As := [.ref zb, .int (4 : Int32), .int (xs 2), .ref zx]) (rest := []) X hl (fb_goodSW fw_1759 fw_1760 fw_190 fw_1761) (c_w_setRegister_4m l D cI cJ zb zt zn zv zs zp zq zu zh zst zre zx zg (4 : Int32) (xs 2) _ hst r0 r4 e4 v0 v1) rfl rfl (by decide +kernel : fb_hd yL_setRegister 4) ⟨Nat.le_of_ble_eq_true rfl, Nat.le_of_ble_eq_true rfl⟩ rfl rfl (Nat.le_of_ble_eq_true rfl) ⟨Nat.le_of_ble_eq_true rfl, Nat.le_of_ble_eq_true rfl⟩ dL_law_828 I) ?_
  intro r2 w1 H locs e0 I
  subst e0
  have I : fb_In D (fun q : Nat => s.heap.size ≤ q) s.heap (([fb_jw cJ zx 1 zg, fb_o12 za zr fr_e0] : List va_W).flatten) H locs := I
  refine lv_istore (lv' := [(5, .int (2 : Int32)), (4, .int (0 : Int32)), (3, .ref zx), (2, .ref za), (1, .ref zb), (0, .ref b)]) hx hb dL_law_831 hl (by decide) rfl (fun ls hl => ?_)
  refine lv_aload_n hx hb dL_law_833 rfl (lv_at hl 3 rfl) ?_
  refine lv_aload_n hx hb dL_law_834 rfl (lv_at hl 5 rfl) ?_
  refine lv_iload hx hb dL_law_835 (lv_at hl 1 rfl) ?_
  refine lv_iconst (v := (1 : Int32)) hx hb dL_law_837 (by decide) ?_
  refine lv_iadd hx hb dL_law_838 ?_
  refine fb_tI (v := (1 : Int32)) (by decide) ?_
  refine va_sld (i := (1 : Int32)) hx hb hX hbl hbA I.2.2 (fb_inC (n := 1) (by decide) (by decide) (by omega)) dL_law_839 ?_
  refine fb_tI (v := (xs 1)) rfl ?_
  refine fb_tI (v := (4 : Int32)) hz ?_
  refine lv_aload_n hx hb dL_law_840 rfl (lv_at hl 5 rfl) ?_
  refine lv_iload hx hb dL_law_841 (lv_at hl 1 rfl) ?_
  refine lv_iconst (v := (2 : Int32)) hx hb dL_law_843 (by decide) ?_
  refine lv_iadd hx hb dL_law_844 ?_
  refine fb_tI (v := (2 : Int32)) (by decide) ?_
  refine va_sld (i := (2 : Int32)) hx hb hX hbl hbA I.2.2 (fb_inC (n := 2) (by decide) (by decide) (by omega)) dL_law_845 ?_
  refine fb_tI (v := (xs 2)) rfl ?_
  refine fb_gI (cs := [fb_o12 za zr fr_e0]) (rs := [fb_jw cJ zx 1 zg]) (fun (t : Unit) => [fb_jw cJ zx 1 zg, fb_o12 za zr (upd (upd fr_e0 19 (0 : Int32)) 19 (2 : Int32))]) (fun (t : Unit) => [fb_o12 za zr (upd (upd fr_e0 19 (0 : Int32)) 19 (2 : Int32))]) X I [1, 0] 2 rfl (by decide +kernel) rfl rfl [1, 0] 2 (fun _ => rfl) (by decide +kernel) (fun _ => rfl) (fun _ => rfl) (fun I => fb_rV (As := [.int (4 : Int32), .int (xs 2)]) (rest := []) X hl (fb_goodV fw_2394 fw_2395 fw_2396 fw_204 fw_2397) (c_setRegister_bad4 l D cI cJ za zr (xs 2) _ q1) rfl rfl rfl (by decide +kernel : fb_hd yX12_setRegister 2) ⟨Nat.le_of_ble_eq_true rfl, Nat.le_of_ble_eq_true rfl⟩ rfl rfl rfl rfl rfl (Nat.le_of_ble_eq_true rfl) ⟨Nat.le_of_ble_eq_true rfl, Nat.le_of_ble_eq_true rfl⟩ dL_law_846 I) ?_
  intro r4 w3 H locs e0 I
  subst e0
  have I : fb_In D (fun q : Nat => s.heap.size ≤ q) s.heap (([fb_jw cJ zx 1 zg, fb_o12 za zr (upd (upd fr_e0 19 (0 : Int32)) 19 (2 : Int32))] : List va_W).flatten) H locs := I
  refine lv_istore (lv' := [(6, .int (0 : Int32)), (5, .int (2 : Int32)), (4, .int (0 : Int32)), (3, .ref zx), (2, .ref za), (1, .ref zb), (0, .ref b)]) hx hb dL_law_849 hl (by decide) rfl (fun ls hl => ?_)
  refine lv_aload_n hx hb dL_law_851 rfl (lv_at hl 4 rfl) ?_
  refine fb_gO (cs := [fb_o12 za zr (upd (upd fr_e0 19 (0 : Int32)) 19 (2 : Int32))]) (rs := [fb_jw cJ zx 1 zg]) X I [1, 0] 2 rfl (by decide +kernel) rfl rfl (fun I => fb_rV (As := []) (rest := []) X hl (fb_goodV fw_2119 fw_2120 fw_2121 fw_204 fw_2122) (c_thrown l D cI cJ za zr (upd (upd fr_e0 19 (0 : Int32)) 19 (2 : Int32)) _ ) rfl rfl rfl (by decide +kernel : fb_hd yX12_thrown 0) ⟨Nat.le_of_ble_eq_true rfl, Nat.le_of_ble_eq_true rfl⟩ rfl rfl rfl rfl rfl (Nat.le_of_ble_eq_true rfl) ⟨Nat.le_of_ble_eq_true rfl, Nat.le_of_ble_eq_true rfl⟩ dL_law_852 I) ?_
  refine fb_tI (v := (2 : Int32)) rfl ?_
  refine lv_iload hx hb dL_law_855 (lv_at hl 1 rfl) ?_
  refine lv_icmp_eq (tgt := 862) hx hb dL_law_857 (by decide) (fun _ => ?_) (fun c5 => absurd rfl c5)
  refine lv_iload hx hb dL_law_862 (lv_at hl 1 rfl) ?_
  refine lv_if_ne (tgt := 879) hx hb dL_law_864 (by decide) (fun _ => ?_) (fun c6 => absurd c6 (by decide))
  refine lv_goto (tgt := 2336) hx hb dL_law_879 (by decide) ?_
  exact lw_end X hX hbl hbA (by omega) I (lv_sub hl [2, 6] rfl) (Nat.le_of_ble_eq_true rfl) (Nat.le_of_ble_eq_true rfl)

set_option maxHeartbeats 4000000 in
set_option maxRecDepth 100000 in
theorem lc_13_i4 {p : Program} {l : Launch} {e : Env} {s : State} {m : MethodId} {below : List Frame} {meth : Method} {c : Code} {H : Heap} {locs : List Loc} {ls : Array Slot} {D : va_G} {cI cJ : ClassId} {b L : Nat} {xs : Nat → Int32} {zb : Nat} {zt : Nat} {zn : Nat} {zv : Nat} {zs : Nat} {zp : Nat} {zq : Nat → Nat} {zu : Nat → Nat} {zh : Nat} {zst : Nat} {zre : Nat} {zw : fb_AR} {zo : Nat → Nat} {zi : Nat → Nat} {zx : Nat} {zg : Nat → Int64} {za : Nat} {zr : Nat → Nat} {zv9 : Nat} (hst : l.stackTraces = false) (X : fb_Bx p s m #[Value.ref b] meth c cL_law RL 9 (some .boolean) D (fb_ty D cI cJ) (fun q : Nat => s.heap.size ≤ q)) (hX : va_X b L xs s s.heap) (hbl : b < s.heap.size) (hbA : ¬ (fun q : Nat => s.heap.size ≤ q) b) (hL6 : L = 6) (hz : xs 1 = 4) (hw : xs 2 = nI zv9) (hv : zv9 ≤ 4095) (I : fb_In D (fun q : Nat => s.heap.size ≤ q) s.heap (([fb_o11 zb zt zn zv zs zp (zq 0) (zu 0) zh zst zre, fb_mw cI zq fb_s0 zw, fb_o0 zh (zo 0) (zi 0) fb_h0, fb_jw cJ zx 1 zg, fb_o12 za zr fr_e0, fb_aw cI (zr 0) 16205 (fr_m (fun _ => 0) 0)] : List va_W).flatten) H locs) (hl : lv_has ls 9 [(4, .int (0 : Int32)), (3, .ref zx), (2, .ref za), (1, .ref zb), (0, .ref b)]) : W p l e room_1 s m #[Value.ref b] below meth c H locs 209 179241 (lw_Z below #[Value.ref b] s) (F0 m 814 ls []) := by
  obtain ⟨hx, hb, hr, hml, hown, hts, hlk, hA, hK, hF⟩ := id X
  refine lv_aload_n hx hb dL_law_814 rfl (lv_at hl 3 rfl) ?_
  refine lv_aload_n hx hb dL_law_815 rfl (lv_at hl 4 rfl) ?_
  refine lv_iload hx hb dL_law_816 (lv_at hl 0 rfl) ?_
  refine lv_iconst (v := (1 : Int32)) hx hb dL_law_818 (by decide) ?_
  refine lv_iadd hx hb dL_law_819 ?_
  refine fb_tI (v := (1 : Int32)) (by decide) ?_
  refine va_sld (i := (1 : Int32)) hx hb hX hbl hbA I.2.2 (fb_inC (n := 1) (by decide) (by decide) (by omega)) dL_law_820 ?_
  refine fb_tI (v := (xs 1)) rfl ?_
  refine fb_tI (v := (4 : Int32)) hz ?_
  refine lv_aload_n hx hb dL_law_821 rfl (lv_at hl 4 rfl) ?_
  refine lv_iload hx hb dL_law_822 (lv_at hl 0 rfl) ?_
  refine lv_iconst (v := (2 : Int32)) hx hb dL_law_824 (by decide) ?_
  refine lv_iadd hx hb dL_law_825 ?_
  refine fb_tI (v := (2 : Int32)) (by decide) ?_
  refine va_sld (i := (2 : Int32)) hx hb hX hbl hbA I.2.2 (fb_inC (n := 2) (by decide) (by decide) (by omega)) dL_law_826 ?_
  refine fb_tI (v := (xs 2)) rfl ?_
  refine fb_tI (v := (nI zv9)) hw ?_
  refine lv_aload_n hx hb dL_law_827 rfl (lv_at hl 1 rfl) ?_
  refine fb_gI (cs := [fb_o11 zb zt zn zv zs zp (zq 0) (zu 0) zh zst zre, fb_mw cI zq fb_s0 zw, fb_o0 zh (zo 0) (zi 0) fb_h0, fb_jw cJ zx 1 zg]) (rs := [fb_o12 za zr fr_e0, fb_aw cI (zr 0) 16205 (fr_m (fun _ => 0) 0)]) (fun (t : Unit) => [fb_jw cJ zx 1 (vp_updL zg 0 (((0 : Int32)).toInt64)), fb_o12 za zr fr_e0, fb_aw cI (zr 0) 16205 (fr_m (fun _ => 0) 0)]) (fun (t : Unit) => [fb_jw cJ zx 1 (vp_updL zg 0 (((0 : Int32)).toInt64))]) X I [0, 1, 2, 3, 4, 5] 6 rfl (by decide +kernel) rfl rfl [0, 1, 2] 3 (fun _ => rfl) (by decide +kernel) (fun _ => rfl) (fun _ => rfl) (fun I => fb_rSW (As := [.ref zb, .int (4 : Int32), .int (nI zv9), .ref zx]) (rest := []) X hl (fb_goodSW fw_1759 fw_1760 fw_190 fw_1761) (c_w_setRegister_4 l D cI cJ zb zt zn zv zs zp zq zu zh zst zre zw zo zi zx zg zv9 _ hst (by omega)) rfl rfl (by decide +kernel : fb_hd yL_setRegister 4) ⟨Nat.le_of_ble_eq_true rfl, Nat.le_of_ble_eq_true rfl⟩ rfl rfl (Nat.le_of_ble_eq_true rfl) ⟨Nat.le_of_ble_eq_true rfl, Nat.le_of_ble_eq_true rfl⟩ dL_law_828 I) ?_
  intro r2 w1 H locs e0 I
  subst e0
  have I : fb_In D (fun q : Nat => s.heap.size ≤ q) s.heap (([fb_jw cJ zx 1 (vp_updL zg 0 (((0 : Int32)).toInt64)), fb_o12 za zr fr_e0, fb_aw cI (zr 0) 16205 (fr_m (fun _ => 0) 0)] : List va_W).flatten) H locs := I
  refine lv_istore (lv' := [(5, .int (0 : Int32)), (4, .int (0 : Int32)), (3, .ref zx), (2, .ref za), (1, .ref zb), (0, .ref b)]) hx hb dL_law_831 hl (by decide) rfl (fun ls hl => ?_)
  refine lv_aload_n hx hb dL_law_833 rfl (lv_at hl 3 rfl) ?_
  refine lv_aload_n hx hb dL_law_834 rfl (lv_at hl 5 rfl) ?_
  refine lv_iload hx hb dL_law_835 (lv_at hl 1 rfl) ?_
  refine lv_iconst (v := (1 : Int32)) hx hb dL_law_837 (by decide) ?_
  refine lv_iadd hx hb dL_law_838 ?_
  refine fb_tI (v := (1 : Int32)) (by decide) ?_
  refine va_sld (i := (1 : Int32)) hx hb hX hbl hbA I.2.2 (fb_inC (n := 1) (by decide) (by decide) (by omega)) dL_law_839 ?_
  refine fb_tI (v := (xs 1)) rfl ?_
  refine fb_tI (v := (4 : Int32)) hz ?_
  refine lv_aload_n hx hb dL_law_840 rfl (lv_at hl 5 rfl) ?_
  refine lv_iload hx hb dL_law_841 (lv_at hl 1 rfl) ?_
  refine lv_iconst (v := (2 : Int32)) hx hb dL_law_843 (by decide) ?_
  refine lv_iadd hx hb dL_law_844 ?_
  refine fb_tI (v := (2 : Int32)) (by decide) ?_
  refine va_sld (i := (2 : Int32)) hx hb hX hbl hbA I.2.2 (fb_inC (n := 2) (by decide) (by decide) (by omega)) dL_law_845 ?_
  refine fb_tI (v := (xs 2)) rfl ?_
  refine fb_tI (v := (nI zv9)) hw ?_
  refine fb_gI (cs := [fb_o12 za zr fr_e0, fb_aw cI (zr 0) 16205 (fr_m (fun _ => 0) 0)]) (rs := [fb_jw cJ zx 1 (vp_updL zg 0 (((0 : Int32)).toInt64))]) (fun (t : Unit) => [fb_jw cJ zx 1 (vp_updL zg 0 (((0 : Int32)).toInt64)), fb_o12 za zr (upd (upd fr_e0 19 (0 : Int32)) 2 (0 : Int32)), fb_aw cI (zr 0) 16205 (upd (fr_m (fun _ => 0) 0) 4 (nI zv9))]) (fun (t : Unit) => [fb_o12 za zr (upd (upd fr_e0 19 (0 : Int32)) 2 (0 : Int32)), fb_aw cI (zr 0) 16205 (upd (fr_m (fun _ => 0) 0) 4 (nI zv9))]) X I [1, 2, 0] 3 rfl (by decide +kernel) rfl rfl [1, 2, 0] 3 (fun _ => rfl) (by decide +kernel) (fun _ => rfl) (fun _ => rfl) (fun I => fb_rV (As := [.int (4 : Int32), .int (nI zv9)]) (rest := []) X hl (fb_goodV fw_2394 fw_2395 fw_2396 fw_204 fw_2397) (c_setRegister_4 l D cI cJ za zr (nI zv9) _ (fr_inN (z := zv9) (a := 0) (b := 4095) (by omega) (by omega) (by omega))) rfl rfl rfl (by decide +kernel : fb_hd yX12_setRegister 2) ⟨Nat.le_of_ble_eq_true rfl, Nat.le_of_ble_eq_true rfl⟩ rfl rfl rfl rfl rfl (Nat.le_of_ble_eq_true rfl) ⟨Nat.le_of_ble_eq_true rfl, Nat.le_of_ble_eq_true rfl⟩ dL_law_846 I) ?_
  intro r4 w3 H locs e0 I
  subst e0
  have I : fb_In D (fun q : Nat => s.heap.size ≤ q) s.heap (([fb_jw cJ zx 1 (vp_updL zg 0 (((0 : Int32)).toInt64)), fb_o12 za zr (upd (upd fr_e0 19 (0 : Int32)) 2 (0 : Int32)), fb_aw cI (zr 0) 16205 (upd (fr_m (fun _ => 0) 0) 4 (nI zv9))] : List va_W).flatten) H locs := I
  refine lv_istore (lv' := [(6, .int (0 : Int32)), (5, .int (0 : Int32)), (4, .int (0 : Int32)), (3, .ref zx), (2, .ref za), (1, .ref zb), (0, .ref b)]) hx hb dL_law_849 hl (by decide) rfl (fun ls hl => ?_)
  refine lv_aload_n hx hb dL_law_851 rfl (lv_at hl 4 rfl) ?_
  refine fb_gO (cs := [fb_o12 za zr (upd (upd fr_e0 19 (0 : Int32)) 2 (0 : Int32))]) (rs := [fb_jw cJ zx 1 (vp_updL zg 0 (((0 : Int32)).toInt64)), fb_aw cI (zr 0) 16205 (upd (fr_m (fun _ => 0) 0) 4 (nI zv9))]) X I [1, 0, 2] 3 rfl (by decide +kernel) rfl rfl (fun I => fb_rV (As := []) (rest := []) X hl (fb_goodV fw_2119 fw_2120 fw_2121 fw_204 fw_2122) (c_thrown l D cI cJ za zr (upd (upd fr_e0 19 (0 : Int32)) 2 (0 : Int32)) _ ) rfl rfl rfl (by decide +kernel : fb_hd yX12_thrown 0) ⟨Nat.le_of_ble_eq_true rfl, Nat.le_of_ble_eq_true rfl⟩ rfl rfl rfl rfl rfl (Nat.le_of_ble_eq_true rfl) ⟨Nat.le_of_ble_eq_true rfl, Nat.le_of_ble_eq_true rfl⟩ dL_law_852 I) ?_
  refine fb_tI (v := (0 : Int32)) rfl ?_
  refine lv_iload hx hb dL_law_855 (lv_at hl 1 rfl) ?_
  refine lv_icmp_eq (tgt := 862) hx hb dL_law_857 (by decide) (fun _ => ?_) (fun c5 => absurd rfl c5)
  refine lv_iload hx hb dL_law_862 (lv_at hl 1 rfl) ?_
  refine lv_if_ne (tgt := 879) hx hb dL_law_864 (by decide) (fun c6 => absurd (by decide) c6) (fun _ => ?_)
  refine lv_aload_n hx hb dL_law_867 rfl (lv_at hl 3 rfl) ?_
  refine lv_iconst (v := (0 : Int32)) hx hb dL_law_868 (by decide) ?_
  refine va_lald (i := (0 : Int32)) hx hb hK.1 I.1 0 1 rfl rfl (fb_inC (n := 0) (by decide) (by decide) (Nat.le_of_ble_eq_true rfl)) dL_law_869 ?_
  refine fb_tL (v := (((0 : Int32)).toInt64)) rfl ?_
  refine lv_iload hx hb dL_law_870 (lv_at hl 0 rfl) ?_
  refine lv_i2l (v := (((0 : Int32)).toInt64)) hx hb dL_law_872 rfl ?_
  refine W.lcmp hx hb dL_law_873 ?_
  refine fb_tI (v := (0 : Int32)) (lw_cmp0 _) ?_
  refine lv_if_eq (tgt := 879) hx hb dL_law_874 (by decide) (fun _ => ?_) (fun c7 => absurd (by decide) c7)
  refine lv_goto (tgt := 2336) hx hb dL_law_879 (by decide) ?_
  exact lw_end X hX hbl hbA (by omega) I (lv_sub hl [2, 6] rfl) (Nat.le_of_ble_eq_true rfl) (Nat.le_of_ble_eq_true rfl)

set_option maxHeartbeats 4000000 in
set_option maxRecDepth 100000 in
theorem lc_15_o {p : Program} {l : Launch} {e : Env} {s : State} {m : MethodId} {below : List Frame} {meth : Method} {c : Code} {H : Heap} {locs : List Loc} {ls : Array Slot} {D : va_G} {cI cJ : ClassId} {b L : Nat} {xs : Nat → Int32} {zb : Nat} {zt : Nat} {zn : Nat} {zv : Nat} {zs : Nat} {zp : Nat} {zq : Nat → Nat} {zu : Nat → Nat} {zh : Nat} {zst : Nat} {zre : Nat} {zx : Nat} {zg : Nat → Int64} {za : Nat} {zr : Nat → Nat} (hst : l.stackTraces = false) (X : fb_Bx p s m #[Value.ref b] meth c cL_law RL 9 (some .boolean) D (fb_ty D cI cJ) (fun q : Nat => s.heap.size ≤ q)) (hX : va_X b L xs s s.heap) (hbl : b < s.heap.size) (hbA : ¬ (fun q : Nat => s.heap.size ≤ q) b) (hL6 : L = 6) (gA : f_X11_isNoSpan (xs 1) = (1 : Int32)) (q1 : f_X12_isIn (xs 1) (1 : Int32) (5000 : Int32) = (0 : Int32)) (I : fb_In D (fun q : Nat => s.heap.size ≤ q) s.heap (([fb_o11 zb zt zn zv zs zp (zq 0) (zu 0) zh zst zre, fb_jw cJ zx 1 zg, fb_o12 za zr fr_e0] : List va_W).flatten) H locs) (hl : lv_has ls 9 [(4, .int (0 : Int32)), (3, .ref zx), (2, .ref za), (1, .ref zb), (0, .ref b)]) : W p l e room_1 s m #[Value.ref b] below meth c H locs 209 179241 (lw_Z below #[Value.ref b] s) (F0 m 895 ls []) := by
  obtain ⟨hx, hb, hr, hml, hown, hts, hlk, hA, hK, hF⟩ := id X
  refine lv_aload_n hx hb dL_law_895 rfl (lv_at hl 3 rfl) ?_
  refine lv_aload_n hx hb dL_law_896 rfl (lv_at hl 4 rfl) ?_
  refine lv_iload hx hb dL_law_897 (lv_at hl 0 rfl) ?_
  refine lv_iconst (v := (1 : Int32)) hx hb dL_law_899 (by decide) ?_
  refine lv_iadd hx hb dL_law_900 ?_
  refine fb_tI (v := (1 : Int32)) (by decide) ?_
  refine va_sld (i := (1 : Int32)) hx hb hX hbl hbA I.2.2 (fb_inC (n := 1) (by decide) (by decide) (by omega)) dL_law_901 ?_
  refine fb_tI (v := (xs 1)) rfl ?_
  refine lv_aload_n hx hb dL_law_902 rfl (lv_at hl 1 rfl) ?_
  refine fb_gI (cs := [fb_o11 zb zt zn zv zs zp (zq 0) (zu 0) zh zst zre, fb_jw cJ zx 1 zg]) (rs := [fb_o12 za zr fr_e0]) (fun (t : Unit) => [fb_jw cJ zx 1 zg, fb_o12 za zr fr_e0]) (fun (t : Unit) => [fb_jw cJ zx 1 zg]) X I [0, 1, 2] 3 rfl (by decide +kernel) rfl rfl [0, 1] 2 (fun _ => rfl) (by decide +kernel) (fun _ => rfl) (fun _ => rfl) (fun I => fb_rSW (As := [.ref zb, .int (xs 1), .ref zx]) (rest := []) X hl (fb_goodSW fw_1772 fw_1773 fw_190 fw_1774) (c_w_run_o l D cI cJ zb zt zn zv zs zp zq zu zh zst zre zx zg (xs 1) _ hst gA) rfl rfl (by decide +kernel : fb_hd yL_run 3) ⟨Nat.le_of_ble_eq_true rfl, Nat.le_of_ble_eq_true rfl⟩ rfl rfl (Nat.le_of_ble_eq_true rfl) ⟨Nat.le_of_ble_eq_true rfl, Nat.le_of_ble_eq_true rfl⟩ dL_law_903 I) ?_
  intro r2 w1 H locs e0 I
  subst e0
  have I : fb_In D (fun q : Nat => s.heap.size ≤ q) s.heap (([fb_jw cJ zx 1 zg, fb_o12 za zr fr_e0] : List va_W).flatten) H locs := I
  refine lv_istore (lv' := [(5, .int (1 : Int32)), (4, .int (0 : Int32)), (3, .ref zx), (2, .ref za), (1, .ref zb), (0, .ref b)]) hx hb dL_law_906 hl (by decide) rfl (fun ls hl => ?_)
  refine lv_aload_n hx hb dL_law_908 rfl (lv_at hl 3 rfl) ?_
  refine lv_aload_n hx hb dL_law_909 rfl (lv_at hl 5 rfl) ?_
  refine lv_iload hx hb dL_law_910 (lv_at hl 1 rfl) ?_
  refine lv_iconst (v := (1 : Int32)) hx hb dL_law_912 (by decide) ?_
  refine lv_iadd hx hb dL_law_913 ?_
  refine fb_tI (v := (1 : Int32)) (by decide) ?_
  refine va_sld (i := (1 : Int32)) hx hb hX hbl hbA I.2.2 (fb_inC (n := 1) (by decide) (by decide) (by omega)) dL_law_914 ?_
  refine fb_tI (v := (xs 1)) rfl ?_
  refine fb_gI (cs := [fb_o12 za zr fr_e0]) (rs := [fb_jw cJ zx 1 zg]) (fun (t : Unit) => [fb_jw cJ zx 1 zg, fb_o12 za zr (upd (upd fr_e0 19 (0 : Int32)) 19 (1 : Int32))]) (fun (t : Unit) => [fb_o12 za zr (upd (upd fr_e0 19 (0 : Int32)) 19 (1 : Int32))]) X I [1, 0] 2 rfl (by decide +kernel) rfl rfl [1, 0] 2 (fun _ => rfl) (by decide +kernel) (fun _ => rfl) (fun _ => rfl) (fun I => fb_rV (As := [.int (xs 1)]) (rest := []) X hl (fb_goodV fw_2562 fw_2563 fw_2564 fw_204 fw_2565) (c_run_out l D cI cJ za zr (xs 1) _ q1) rfl rfl rfl (by decide +kernel : fb_hd yX12_run 1) ⟨Nat.le_of_ble_eq_true rfl, Nat.le_of_ble_eq_true rfl⟩ rfl rfl rfl rfl rfl (Nat.le_of_ble_eq_true rfl) ⟨Nat.le_of_ble_eq_true rfl, Nat.le_of_ble_eq_true rfl⟩ dL_law_915 I) ?_
  intro r4 w3 H locs e0 I
  subst e0
  have I : fb_In D (fun q : Nat => s.heap.size ≤ q) s.heap (([fb_jw cJ zx 1 zg, fb_o12 za zr (upd (upd fr_e0 19 (0 : Int32)) 19 (1 : Int32))] : List va_W).flatten) H locs := I
  refine lv_istore (lv' := [(6, .int (0 : Int32)), (5, .int (1 : Int32)), (4, .int (0 : Int32)), (3, .ref zx), (2, .ref za), (1, .ref zb), (0, .ref b)]) hx hb dL_law_918 hl (by decide) rfl (fun ls hl => ?_)
  refine lv_aload_n hx hb dL_law_920 rfl (lv_at hl 4 rfl) ?_
  refine fb_gO (cs := [fb_o12 za zr (upd (upd fr_e0 19 (0 : Int32)) 19 (1 : Int32))]) (rs := [fb_jw cJ zx 1 zg]) X I [1, 0] 2 rfl (by decide +kernel) rfl rfl (fun I => fb_rV (As := []) (rest := []) X hl (fb_goodV fw_2119 fw_2120 fw_2121 fw_204 fw_2122) (c_thrown l D cI cJ za zr (upd (upd fr_e0 19 (0 : Int32)) 19 (1 : Int32)) _ ) rfl rfl rfl (by decide +kernel : fb_hd yX12_thrown 0) ⟨Nat.le_of_ble_eq_true rfl, Nat.le_of_ble_eq_true rfl⟩ rfl rfl rfl rfl rfl (Nat.le_of_ble_eq_true rfl) ⟨Nat.le_of_ble_eq_true rfl, Nat.le_of_ble_eq_true rfl⟩ dL_law_921 I) ?_
  refine fb_tI (v := (1 : Int32)) rfl ?_
  refine lv_iload hx hb dL_law_924 (lv_at hl 1 rfl) ?_
  refine lv_icmp_eq (tgt := 931) hx hb dL_law_926 (by decide) (fun _ => ?_) (fun c5 => absurd rfl c5)
  refine lv_iload hx hb dL_law_931 (lv_at hl 1 rfl) ?_
  refine lv_if_ne (tgt := 948) hx hb dL_law_933 (by decide) (fun _ => ?_) (fun c6 => absurd c6 (by decide))
  refine lv_goto (tgt := 2336) hx hb dL_law_948 (by decide) ?_
  exact lw_end X hX hbl hbA (by omega) I (lv_sub hl [2, 6] rfl) (Nat.le_of_ble_eq_true rfl) (Nat.le_of_ble_eq_true rfl)

set_option maxHeartbeats 4000000 in
set_option maxRecDepth 100000 in
theorem lc_15_i {p : Program} {l : Launch} {e : Env} {s : State} {m : MethodId} {below : List Frame} {meth : Method} {c : Code} {H : Heap} {locs : List Loc} {ls : Array Slot} {D : va_G} {cI cJ : ClassId} {b L : Nat} {xs : Nat → Int32} {zb : Nat} {zt : Nat} {zn : Nat} {zv : Nat} {zs : Nat} {zp : Nat} {zq : Nat → Nat} {zu : Nat → Nat} {zh : Nat} {zst : Nat} {zre : Nat} {zo : Nat → Nat} {zi : Nat → Nat} {zw : fb_AR} {zb0 : Nat} {zb1 : Nat} {zb3 : Nat} {zb4 : Nat} {zb5 : Nat} {zx : Nat} {zg : Nat → Int64} {za : Nat} {zr : Nat → Nat} {zN : Nat} (hst : l.stackTraces = false) (X : fb_Bx p s m #[Value.ref b] meth c cL_law RL 9 (some .boolean) D (fb_ty D cI cJ) (fun q : Nat => s.heap.size ≤ q)) (hX : va_X b L xs s s.heap) (hbl : b < s.heap.size) (hbA : ¬ (fun q : Nat => s.heap.size ≤ q) b) (hL6 : L = 6) (hz : xs 1 = nI (zN + 1)) (hN : zN < 5000) (I : fb_In D (fun q : Nat => s.heap.size ≤ q) s.heap (([fb_o11 zb zt zn zv zs zp (zq 0) (zu 0) zh zst zre, fb_o0 zh (zo 0) (zi 0) fb_h0, fb_mw cI zo fb_m0 (fun _ => 0), fb_mw cI zi fb_m0 (fun _ => 0), fb_mw cI zq fb_s0 zw, fb_o7 zst zb0 zb1 zb3 zb4 zb5 (fun _ => 0), fb_jw cJ zx 1 zg, fb_o12 za zr fr_e0, fb_aw cI (zr 0) 16205 (fr_m (fun _ => 0) 0), fb_aw cI (zr 3) 64 (fun _ => 0), fb_qh D (zr 1) 200 (fun _ => none), ([] : va_W)] : List va_W).flatten) H locs) (hl : lv_has ls 9 [(4, .int (0 : Int32)), (3, .ref zx), (2, .ref za), (1, .ref zb), (0, .ref b)]) : W p l e room_1 s m #[Value.ref b] below meth c H locs 209 179241 (lw_Z below #[Value.ref b] s) (F0 m 895 ls []) := by
  obtain ⟨hx, hb, hr, hml, hown, hts, hlk, hA, hK, hF⟩ := id X
  refine lv_aload_n hx hb dL_law_895 rfl (lv_at hl 3 rfl) ?_
  refine lv_aload_n hx hb dL_law_896 rfl (lv_at hl 4 rfl) ?_
  refine lv_iload hx hb dL_law_897 (lv_at hl 0 rfl) ?_
  refine lv_iconst (v := (1 : Int32)) hx hb dL_law_899 (by decide) ?_
  refine lv_iadd hx hb dL_law_900 ?_
  refine fb_tI (v := (1 : Int32)) (by decide) ?_
  refine va_sld (i := (1 : Int32)) hx hb hX hbl hbA I.2.2 (fb_inC (n := 1) (by decide) (by decide) (by omega)) dL_law_901 ?_
  refine fb_tI (v := (xs 1)) rfl ?_
  refine fb_tI (v := (nI (zN + 1))) hz ?_
  refine lv_aload_n hx hb dL_law_902 rfl (lv_at hl 1 rfl) ?_
  refine fb_gI (cs := [fb_o11 zb zt zn zv zs zp (zq 0) (zu 0) zh zst zre, fb_o0 zh (zo 0) (zi 0) fb_h0, fb_mw cI zo fb_m0 (fun _ => 0), fb_mw cI zi fb_m0 (fun _ => 0), fb_mw cI zq fb_s0 zw, fb_o7 zst zb0 zb1 zb3 zb4 zb5 (fun _ => 0), fb_jw cJ zx 1 zg]) (rs := [fb_o12 za zr fr_e0, fb_aw cI (zr 0) 16205 (fr_m (fun _ => 0) 0), fb_aw cI (zr 3) 64 (fun _ => 0), fb_qh D (zr 1) 200 (fun _ => none), ([] : va_W)]) (fun (t : Unit) => [fb_jw cJ zx 1 (vp_updL zg 0 (((nI (zN + 1))).toInt64)), fb_o12 za zr fr_e0, fb_aw cI (zr 0) 16205 (fr_m (fun _ => 0) 0), fb_aw cI (zr 3) 64 (fun _ => 0), fb_qh D (zr 1) 200 (fun _ => none), ([] : va_W)]) (fun (t : Unit) => [fb_jw cJ zx 1 (vp_updL zg 0 (((nI (zN + 1))).toInt64))]) X I [0, 1, 2, 3, 4, 5, 6, 7, 8, 9, 10, 11] 12 rfl (by decide +kernel) rfl rfl [0, 1, 2, 3, 4, 5] 6 (fun _ => rfl) (by decide +kernel) (fun _ => rfl) (fun _ => rfl) (fun I => fb_rSW (As := [.ref zb, .int (nI (zN + 1)), .ref zx]) (rest := []) X hl (fb_goodSW fw_1772 fw_1773 fw_190 fw_1774) (c_w_run_in l D cI cJ zb zt zn zv zs zp zq zu zh zst zre zo zi zw zb0 zb1 zb3 zb4 zb5 zx zg zN _ hst (by omega)) rfl rfl (by decide +kernel : fb_hd yL_run 3) ⟨Nat.le_of_ble_eq_true rfl, Nat.le_of_ble_eq_true rfl⟩ rfl rfl (Nat.le_of_ble_eq_true rfl) ⟨Nat.le_of_ble_eq_true rfl, Nat.le_of_ble_eq_true rfl⟩ dL_law_903 I) ?_
  intro r2 w1 H locs e0 I
  subst e0
  have I : fb_In D (fun q : Nat => s.heap.size ≤ q) s.heap (([fb_jw cJ zx 1 (vp_updL zg 0 (((nI (zN + 1))).toInt64)), fb_o12 za zr fr_e0, fb_aw cI (zr 0) 16205 (fr_m (fun _ => 0) 0), fb_aw cI (zr 3) 64 (fun _ => 0), fb_qh D (zr 1) 200 (fun _ => none), ([] : va_W)] : List va_W).flatten) H locs := I
  refine lv_istore (lv' := [(5, .int (0 : Int32)), (4, .int (0 : Int32)), (3, .ref zx), (2, .ref za), (1, .ref zb), (0, .ref b)]) hx hb dL_law_906 hl (by decide) rfl (fun ls hl => ?_)
  refine lv_aload_n hx hb dL_law_908 rfl (lv_at hl 3 rfl) ?_
  refine lv_aload_n hx hb dL_law_909 rfl (lv_at hl 5 rfl) ?_
  refine lv_iload hx hb dL_law_910 (lv_at hl 1 rfl) ?_
  refine lv_iconst (v := (1 : Int32)) hx hb dL_law_912 (by decide) ?_
  refine lv_iadd hx hb dL_law_913 ?_
  refine fb_tI (v := (1 : Int32)) (by decide) ?_
  refine va_sld (i := (1 : Int32)) hx hb hX hbl hbA I.2.2 (fb_inC (n := 1) (by decide) (by decide) (by omega)) dL_law_914 ?_
  refine fb_tI (v := (xs 1)) rfl ?_
  refine fb_tI (v := (nI (zN + 1))) hz ?_
  refine fb_gI (cs := [fb_o12 za zr fr_e0, fb_aw cI (zr 0) 16205 (fr_m (fun _ => 0) 0), fb_aw cI (zr 3) 64 (fun _ => 0), fb_qh D (zr 1) 200 (fun _ => none), ([] : va_W)]) (rs := [fb_jw cJ zx 1 (vp_updL zg 0 (((nI (zN + 1))).toInt64))]) (fun (t : fb_AR × fb_AR × fb_AR × (Nat → Option Nat) × va_W) => [fb_jw cJ zx 1 (vp_updL zg 0 (((nI (zN + 1))).toInt64)), fb_o12 za zr (upd (t.1) 10 (1 : Int32)), fb_aw cI (zr 0) 16205 (fr_m (t.2.1) ((0 + zN) + 1)), fb_aw cI (zr 3) 64 (t.2.2.1), fb_qh D (zr 1) 200 (t.2.2.2.1), (t.2.2.2.2)]) (fun (t : fb_AR × fb_AR × fb_AR × (Nat → Option Nat) × va_W) => [fb_o12 za zr (upd (t.1) 10 (1 : Int32)), fb_aw cI (zr 0) 16205 (fr_m (t.2.1) ((0 + zN) + 1)), fb_aw cI (zr 3) 64 (t.2.2.1), fb_qh D (zr 1) 200 (t.2.2.2.1), (t.2.2.2.2)]) X I [1, 2, 3, 4, 5, 0] 6 rfl (by decide +kernel) rfl rfl [1, 2, 3, 4, 5, 0] 6 (fun _ => rfl) (by decide +kernel) (fun _ => rfl) (fun _ => rfl) (fun I => fb_rV (As := [.int (nI (zN + 1))]) (rest := []) X hl (fb_goodV fw_2562 fw_2563 fw_2564 fw_204 fw_2565) (c_run_in l D cI cJ za zr (fun _ => 0) (fun _ => none) ([] : va_W) zN _ (by omega) (fr_hok0 cI)) rfl rfl rfl (by decide +kernel : fb_hd yX12_run 1) ⟨Nat.le_of_ble_eq_true rfl, Nat.le_of_ble_eq_true rfl⟩ rfl rfl rfl rfl rfl (Nat.le_of_ble_eq_true rfl) ⟨Nat.le_of_ble_eq_true rfl, Nat.le_of_ble_eq_true rfl⟩ dL_law_915 I) ?_
  intro r4 w3 H locs e0 I
  obtain ⟨e9, e0⟩ := e0
  subst e9
  obtain ⟨w3_0, w3_1, w3_2, w3_3, w3_4⟩ := w3
  have p5 : (upd w3_0 10 (1 : Int32)) 19 = (0 : Int32) := e0
  have I : fb_In D (fun q : Nat => s.heap.size ≤ q) s.heap (([fb_jw cJ zx 1 (vp_updL zg 0 (((nI (zN + 1))).toInt64)), fb_o12 za zr (upd w3_0 10 (1 : Int32)), fb_aw cI (zr 0) 16205 (fr_m w3_1 ((0 + zN) + 1)), fb_aw cI (zr 3) 64 w3_2, fb_qh D (zr 1) 200 w3_3, w3_4] : List va_W).flatten) H locs := I
  refine lv_istore (lv' := [(6, .int (nI (zN + 1))), (5, .int (0 : Int32)), (4, .int (0 : Int32)), (3, .ref zx), (2, .ref za), (1, .ref zb), (0, .ref b)]) hx hb dL_law_918 hl (by decide) rfl (fun ls hl => ?_)
  refine lv_aload_n hx hb dL_law_920 rfl (lv_at hl 4 rfl) ?_
  refine fb_gO (cs := [fb_o12 za zr (upd w3_0 10 (1 : Int32))]) (rs := [fb_jw cJ zx 1 (vp_updL zg 0 (((nI (zN + 1))).toInt64)), fb_aw cI (zr 0) 16205 (fr_m w3_1 ((0 + zN) + 1)), fb_aw cI (zr 3) 64 w3_2, fb_qh D (zr 1) 200 w3_3, w3_4]) X I [1, 0, 2, 3, 4, 5] 6 rfl (by decide +kernel) rfl rfl (fun I => fb_rV (As := []) (rest := []) X hl (fb_goodV fw_2119 fw_2120 fw_2121 fw_204 fw_2122) (c_thrown l D cI cJ za zr (upd w3_0 10 (1 : Int32)) _ ) rfl rfl rfl (by decide +kernel : fb_hd yX12_thrown 0) ⟨Nat.le_of_ble_eq_true rfl, Nat.le_of_ble_eq_true rfl⟩ rfl rfl rfl rfl rfl (Nat.le_of_ble_eq_true rfl) ⟨Nat.le_of_ble_eq_true rfl, Nat.le_of_ble_eq_true rfl⟩ dL_law_921 I) ?_
  refine fb_tI (v := (0 : Int32)) p5 ?_
  refine lv_iload hx hb dL_law_924 (lv_at hl 1 rfl) ?_
  refine lv_icmp_eq (tgt := 931) hx hb dL_law_926 (by decide) (fun _ => ?_) (fun c6 => absurd rfl c6)
  refine lv_iload hx hb dL_law_931 (lv_at hl 1 rfl) ?_
  refine lv_if_ne (tgt := 948) hx hb dL_law_933 (by decide) (fun c7 => absurd (by decide) c7) (fun _ => ?_)
  refine lv_aload_n hx hb dL_law_936 rfl (lv_at hl 3 rfl) ?_
  refine lv_iconst (v := (0 : Int32)) hx hb dL_law_937 (by decide) ?_
  refine va_lald (i := (0 : Int32)) hx hb hK.1 I.1 0 1 rfl rfl (fb_inC (n := 0) (by decide) (by decide) (Nat.le_of_ble_eq_true rfl)) dL_law_938 ?_
  refine fb_tL (v := (((nI (zN + 1))).toInt64)) rfl ?_
  refine lv_iload hx hb dL_law_939 (lv_at hl 0 rfl) ?_
  refine lv_i2l (v := (((nI (zN + 1))).toInt64)) hx hb dL_law_941 rfl ?_
  refine W.lcmp hx hb dL_law_942 ?_
  refine fb_tI (v := (0 : Int32)) (lw_cmp0 _) ?_
  refine lv_if_eq (tgt := 948) hx hb dL_law_943 (by decide) (fun _ => ?_) (fun c8 => absurd (by decide) c8)
  refine lv_goto (tgt := 2336) hx hb dL_law_948 (by decide) ?_
  exact lw_end X hX hbl hbA (by omega) I (lv_sub hl [2, 6] rfl) (Nat.le_of_ble_eq_true rfl) (Nat.le_of_ble_eq_true rfl)

set_option maxHeartbeats 4000000 in
set_option maxRecDepth 100000 in
theorem lc_18_a {p : Program} {l : Launch} {e : Env} {s : State} {m : MethodId} {below : List Frame} {meth : Method} {c : Code} {H : Heap} {locs : List Loc} {ls : Array Slot} {D : va_G} {cI cJ : ClassId} {b L : Nat} {xs : Nat → Int32} {zb : Nat} {zt : Nat} {zn : Nat} {zv : Nat} {zs : Nat} {zp : Nat} {zq : Nat → Nat} {zu : Nat → Nat} {zh : Nat} {zst : Nat} {zre : Nat} {zx : Nat} {zg : Nat → Int64} {za : Nat} {zr : Nat → Nat} (hst : l.stackTraces = false) (X : fb_Bx p s m #[Value.ref b] meth c cL_law RL 9 (some .boolean) D (fb_ty D cI cJ) (fun q : Nat => s.heap.size ≤ q)) (hX : va_X b L xs s s.heap) (hbl : b < s.heap.size) (hbA : ¬ (fun q : Nat => s.heap.size ≤ q) b) (hL6 : L = 6) (h0 : (xs 1) < (1 : Int32)) (q1 : f_X12_isIn (xs 1) (1 : Int32) (200 : Int32) = (0 : Int32)) (I : fb_In D (fun q : Nat => s.heap.size ≤ q) s.heap (([fb_o11 zb zt zn zv zs zp (zq 0) (zu 0) zh zst zre, fb_jw cJ zx 1 zg, fb_o12 za zr fr_e0] : List va_W).flatten) H locs) (hl : lv_has ls 9 [(4, .int (0 : Int32)), (3, .ref zx), (2, .ref za), (1, .ref zb), (0, .ref b)]) : W p l e room_1 s m #[Value.ref b] below meth c H locs 209 179241 (lw_Z below #[Value.ref b] s) (F0 m 977 ls []) := by
  obtain ⟨hx, hb, hr, hml, hown, hts, hlk, hA, hK, hF⟩ := id X
  refine lv_aload_n hx hb dL_law_977 rfl (lv_at hl 3 rfl) ?_
  refine lv_aload_n hx hb dL_law_978 rfl (lv_at hl 4 rfl) ?_
  refine lv_iload hx hb dL_law_979 (lv_at hl 0 rfl) ?_
  refine lv_iconst (v := (1 : Int32)) hx hb dL_law_981 (by decide) ?_
  refine lv_iadd hx hb dL_law_982 ?_
  refine fb_tI (v := (1 : Int32)) (by decide) ?_
  refine va_sld (i := (1 : Int32)) hx hb hX hbl hbA I.2.2 (fb_inC (n := 1) (by decide) (by decide) (by omega)) dL_law_983 ?_
  refine fb_tI (v := (xs 1)) rfl ?_
  refine lv_aload_n hx hb dL_law_984 rfl (lv_at hl 1 rfl) ?_
  refine fb_gI (cs := [fb_o11 zb zt zn zv zs zp (zq 0) (zu 0) zh zst zre, fb_jw cJ zx 1 zg]) (rs := [fb_o12 za zr fr_e0]) (fun (t : Unit) => [fb_jw cJ zx 1 zg, fb_o12 za zr fr_e0]) (fun (t : Unit) => [fb_jw cJ zx 1 zg]) X I [0, 1, 2] 3 rfl (by decide +kernel) rfl rfl [0, 1] 2 (fun _ => rfl) (by decide +kernel) (fun _ => rfl) (fun _ => rfl) (fun I => fb_rSW (As := [.ref zb, .int (xs 1), .ref zx]) (rest := []) X hl (fb_goodSW fw_1783 fw_1784 fw_190 fw_1785) (c_w_back_a l D cI cJ zb zt zn zv zs zp zq zu zh zst zre zx zg (xs 1) _ hst h0) rfl rfl (by decide +kernel : fb_hd yL_back 3) ⟨Nat.le_of_ble_eq_true rfl, Nat.le_of_ble_eq_true rfl⟩ rfl rfl (Nat.le_of_ble_eq_true rfl) ⟨Nat.le_of_ble_eq_true rfl, Nat.le_of_ble_eq_true rfl⟩ dL_law_985 I) ?_
  intro r2 w1 H locs e0 I
  subst e0
  have I : fb_In D (fun q : Nat => s.heap.size ≤ q) s.heap (([fb_jw cJ zx 1 zg, fb_o12 za zr fr_e0] : List va_W).flatten) H locs := I
  refine lv_istore (lv' := [(5, .int (1 : Int32)), (4, .int (0 : Int32)), (3, .ref zx), (2, .ref za), (1, .ref zb), (0, .ref b)]) hx hb dL_law_988 hl (by decide) rfl (fun ls hl => ?_)
  refine lv_aload_n hx hb dL_law_990 rfl (lv_at hl 3 rfl) ?_
  refine lv_aload_n hx hb dL_law_991 rfl (lv_at hl 5 rfl) ?_
  refine lv_iload hx hb dL_law_992 (lv_at hl 1 rfl) ?_
  refine lv_iconst (v := (1 : Int32)) hx hb dL_law_994 (by decide) ?_
  refine lv_iadd hx hb dL_law_995 ?_
  refine fb_tI (v := (1 : Int32)) (by decide) ?_
  refine va_sld (i := (1 : Int32)) hx hb hX hbl hbA I.2.2 (fb_inC (n := 1) (by decide) (by decide) (by omega)) dL_law_996 ?_
  refine fb_tI (v := (xs 1)) rfl ?_
  refine fb_gI (cs := [fb_o12 za zr fr_e0]) (rs := [fb_jw cJ zx 1 zg]) (fun (t : Unit) => [fb_jw cJ zx 1 zg, fb_o12 za zr (upd (upd fr_e0 19 (0 : Int32)) 19 (1 : Int32))]) (fun (t : Unit) => [fb_o12 za zr (upd (upd fr_e0 19 (0 : Int32)) 19 (1 : Int32))]) X I [1, 0] 2 rfl (by decide +kernel) rfl rfl [1, 0] 2 (fun _ => rfl) (by decide +kernel) (fun _ => rfl) (fun _ => rfl) (fun I => fb_rV (As := [.int (xs 1)]) (rest := []) X hl (fb_goodV fw_2594 fw_2595 fw_2596 fw_204 fw_2597) (c_back_out l D cI cJ za zr (xs 1) _ q1) rfl rfl rfl (by decide +kernel : fb_hd yX12_back 1) ⟨Nat.le_of_ble_eq_true rfl, Nat.le_of_ble_eq_true rfl⟩ rfl rfl rfl rfl rfl (Nat.le_of_ble_eq_true rfl) ⟨Nat.le_of_ble_eq_true rfl, Nat.le_of_ble_eq_true rfl⟩ dL_law_997 I) ?_
  intro r4 w3 H locs e0 I
  subst e0
  have I : fb_In D (fun q : Nat => s.heap.size ≤ q) s.heap (([fb_jw cJ zx 1 zg, fb_o12 za zr (upd (upd fr_e0 19 (0 : Int32)) 19 (1 : Int32))] : List va_W).flatten) H locs := I
  refine lv_istore (lv' := [(6, .int (0 : Int32)), (5, .int (1 : Int32)), (4, .int (0 : Int32)), (3, .ref zx), (2, .ref za), (1, .ref zb), (0, .ref b)]) hx hb dL_law_1000 hl (by decide) rfl (fun ls hl => ?_)
  refine lv_aload_n hx hb dL_law_1002 rfl (lv_at hl 4 rfl) ?_
  refine fb_gO (cs := [fb_o12 za zr (upd (upd fr_e0 19 (0 : Int32)) 19 (1 : Int32))]) (rs := [fb_jw cJ zx 1 zg]) X I [1, 0] 2 rfl (by decide +kernel) rfl rfl (fun I => fb_rV (As := []) (rest := []) X hl (fb_goodV fw_2119 fw_2120 fw_2121 fw_204 fw_2122) (c_thrown l D cI cJ za zr (upd (upd fr_e0 19 (0 : Int32)) 19 (1 : Int32)) _ ) rfl rfl rfl (by decide +kernel : fb_hd yX12_thrown 0) ⟨Nat.le_of_ble_eq_true rfl, Nat.le_of_ble_eq_true rfl⟩ rfl rfl rfl rfl rfl (Nat.le_of_ble_eq_true rfl) ⟨Nat.le_of_ble_eq_true rfl, Nat.le_of_ble_eq_true rfl⟩ dL_law_1003 I) ?_
  refine fb_tI (v := (1 : Int32)) rfl ?_
  refine lv_iload hx hb dL_law_1006 (lv_at hl 1 rfl) ?_
  refine lv_icmp_eq (tgt := 1013) hx hb dL_law_1008 (by decide) (fun _ => ?_) (fun c5 => absurd rfl c5)
  refine lv_iload hx hb dL_law_1013 (lv_at hl 1 rfl) ?_
  refine lv_if_ne (tgt := 1030) hx hb dL_law_1015 (by decide) (fun _ => ?_) (fun c6 => absurd c6 (by decide))
  refine lv_goto (tgt := 2336) hx hb dL_law_1030 (by decide) ?_
  exact lw_end X hX hbl hbA (by omega) I (lv_sub hl [2, 6] rfl) (Nat.le_of_ble_eq_true rfl) (Nat.le_of_ble_eq_true rfl)

set_option maxHeartbeats 4000000 in
set_option maxRecDepth 100000 in
theorem lc_18_b {p : Program} {l : Launch} {e : Env} {s : State} {m : MethodId} {below : List Frame} {meth : Method} {c : Code} {H : Heap} {locs : List Loc} {ls : Array Slot} {D : va_G} {cI cJ : ClassId} {b L : Nat} {xs : Nat → Int32} {zb : Nat} {zt : Nat} {zn : Nat} {zv : Nat} {zs : Nat} {zp : Nat} {zq : Nat → Nat} {zu : Nat → Nat} {zh : Nat} {zst : Nat} {zre : Nat} {zx : Nat} {zg : Nat → Int64} {za : Nat} {zr : Nat → Nat} (hst : l.stackTraces = false) (X : fb_Bx p s m #[Value.ref b] meth c cL_law RL 9 (some .boolean) D (fb_ty D cI cJ) (fun q : Nat => s.heap.size ≤ q)) (hX : va_X b L xs s s.heap) (hbl : b < s.heap.size) (hbA : ¬ (fun q : Nat => s.heap.size ≤ q) b) (hL6 : L = 6) (h0 : ¬ (xs 1) < (1 : Int32)) (h1 : ¬ (xs 1) ≤ (200 : Int32)) (q1 : f_X12_isIn (xs 1) (1 : Int32) (200 : Int32) = (0 : Int32)) (I : fb_In D (fun q : Nat => s.heap.size ≤ q) s.heap (([fb_o11 zb zt zn zv zs zp (zq 0) (zu 0) zh zst zre, fb_jw cJ zx 1 zg, fb_o12 za zr fr_e0] : List va_W).flatten) H locs) (hl : lv_has ls 9 [(4, .int (0 : Int32)), (3, .ref zx), (2, .ref za), (1, .ref zb), (0, .ref b)]) : W p l e room_1 s m #[Value.ref b] below meth c H locs 209 179241 (lw_Z below #[Value.ref b] s) (F0 m 977 ls []) := by
  obtain ⟨hx, hb, hr, hml, hown, hts, hlk, hA, hK, hF⟩ := id X
  refine lv_aload_n hx hb dL_law_977 rfl (lv_at hl 3 rfl) ?_
  refine lv_aload_n hx hb dL_law_978 rfl (lv_at hl 4 rfl) ?_
  refine lv_iload hx hb dL_law_979 (lv_at hl 0 rfl) ?_
  refine lv_iconst (v := (1 : Int32)) hx hb dL_law_981 (by decide) ?_
  refine lv_iadd hx hb dL_law_982 ?_
  refine fb_tI (v := (1 : Int32)) (by decide) ?_
  refine va_sld (i := (1 : Int32)) hx hb hX hbl hbA I.2.2 (fb_inC (n := 1) (by decide) (by decide) (by omega)) dL_law_983 ?_
  refine fb_tI (v := (xs 1)) rfl ?_
  refine lv_aload_n hx hb dL_law_984 rfl (lv_at hl 1 rfl) ?_
  refine fb_gI (cs := [fb_o11 zb zt zn zv zs zp (zq 0) (zu 0) zh zst zre, fb_jw cJ zx 1 zg]) (rs := [fb_o12 za zr fr_e0]) (fun (t : Unit) => [fb_jw cJ zx 1 zg, fb_o12 za zr fr_e0]) (fun (t : Unit) => [fb_jw cJ zx 1 zg]) X I [0, 1, 2] 3 rfl (by decide +kernel) rfl rfl [0, 1] 2 (fun _ => rfl) (by decide +kernel) (fun _ => rfl) (fun _ => rfl) (fun I => fb_rSW (As := [.ref zb, .int (xs 1), .ref zx]) (rest := []) X hl (fb_goodSW fw_1783 fw_1784 fw_190 fw_1785) (c_w_back_b l D cI cJ zb zt zn zv zs zp zq zu zh zst zre zx zg (xs 1) _ hst h0 h1) rfl rfl (by decide +kernel : fb_hd yL_back 3) ⟨Nat.le_of_ble_eq_true rfl, Nat.le_of_ble_eq_true rfl⟩ rfl rfl (Nat.le_of_ble_eq_true rfl) ⟨Nat.le_of_ble_eq_true rfl, Nat.le_of_ble_eq_true rfl⟩ dL_law_985 I) ?_
  intro r2 w1 H locs e0 I
  subst e0
  have I : fb_In D (fun q : Nat => s.heap.size ≤ q) s.heap (([fb_jw cJ zx 1 zg, fb_o12 za zr fr_e0] : List va_W).flatten) H locs := I
  refine lv_istore (lv' := [(5, .int (1 : Int32)), (4, .int (0 : Int32)), (3, .ref zx), (2, .ref za), (1, .ref zb), (0, .ref b)]) hx hb dL_law_988 hl (by decide) rfl (fun ls hl => ?_)
  refine lv_aload_n hx hb dL_law_990 rfl (lv_at hl 3 rfl) ?_
  refine lv_aload_n hx hb dL_law_991 rfl (lv_at hl 5 rfl) ?_
  refine lv_iload hx hb dL_law_992 (lv_at hl 1 rfl) ?_
  refine lv_iconst (v := (1 : Int32)) hx hb dL_law_994 (by decide) ?_
  refine lv_iadd hx hb dL_law_995 ?_
  refine fb_tI (v := (1 : Int32)) (by decide) ?_
  refine va_sld (i := (1 : Int32)) hx hb hX hbl hbA I.2.2 (fb_inC (n := 1) (by decide) (by decide) (by omega)) dL_law_996 ?_
  refine fb_tI (v := (xs 1)) rfl ?_
  refine fb_gI (cs := [fb_o12 za zr fr_e0]) (rs := [fb_jw cJ zx 1 zg]) (fun (t : Unit) => [fb_jw cJ zx 1 zg, fb_o12 za zr (upd (upd fr_e0 19 (0 : Int32)) 19 (1 : Int32))]) (fun (t : Unit) => [fb_o12 za zr (upd (upd fr_e0 19 (0 : Int32)) 19 (1 : Int32))]) X I [1, 0] 2 rfl (by decide +kernel) rfl rfl [1, 0] 2 (fun _ => rfl) (by decide +kernel) (fun _ => rfl) (fun _ => rfl) (fun I => fb_rV (As := [.int (xs 1)]) (rest := []) X hl (fb_goodV fw_2594 fw_2595 fw_2596 fw_204 fw_2597) (c_back_out l D cI cJ za zr (xs 1) _ q1) rfl rfl rfl (by decide +kernel : fb_hd yX12_back 1) ⟨Nat.le_of_ble_eq_true rfl, Nat.le_of_ble_eq_true rfl⟩ rfl rfl rfl rfl rfl (Nat.le_of_ble_eq_true rfl) ⟨Nat.le_of_ble_eq_true rfl, Nat.le_of_ble_eq_true rfl⟩ dL_law_997 I) ?_
  intro r4 w3 H locs e0 I
  subst e0
  have I : fb_In D (fun q : Nat => s.heap.size ≤ q) s.heap (([fb_jw cJ zx 1 zg, fb_o12 za zr (upd (upd fr_e0 19 (0 : Int32)) 19 (1 : Int32))] : List va_W).flatten) H locs := I
  refine lv_istore (lv' := [(6, .int (0 : Int32)), (5, .int (1 : Int32)), (4, .int (0 : Int32)), (3, .ref zx), (2, .ref za), (1, .ref zb), (0, .ref b)]) hx hb dL_law_1000 hl (by decide) rfl (fun ls hl => ?_)
  refine lv_aload_n hx hb dL_law_1002 rfl (lv_at hl 4 rfl) ?_
  refine fb_gO (cs := [fb_o12 za zr (upd (upd fr_e0 19 (0 : Int32)) 19 (1 : Int32))]) (rs := [fb_jw cJ zx 1 zg]) X I [1, 0] 2 rfl (by decide +kernel) rfl rfl (fun I => fb_rV (As := []) (rest := []) X hl (fb_goodV fw_2119 fw_2120 fw_2121 fw_204 fw_2122) (c_thrown l D cI cJ za zr (upd (upd fr_e0 19 (0 : Int32)) 19 (1 : Int32)) _ ) rfl rfl rfl (by decide +kernel : fb_hd yX12_thrown 0) ⟨Nat.le_of_ble_eq_true rfl, Nat.le_of_ble_eq_true rfl⟩ rfl rfl rfl rfl rfl (Nat.le_of_ble_eq_true rfl) ⟨Nat.le_of_ble_eq_true rfl, Nat.le_of_ble_eq_true rfl⟩ dL_law_1003 I) ?_
  refine fb_tI (v := (1 : Int32)) rfl ?_
  refine lv_iload hx hb dL_law_1006 (lv_at hl 1 rfl) ?_
  refine lv_icmp_eq (tgt := 1013) hx hb dL_law_1008 (by decide) (fun _ => ?_) (fun c5 => absurd rfl c5)
  refine lv_iload hx hb dL_law_1013 (lv_at hl 1 rfl) ?_
  refine lv_if_ne (tgt := 1030) hx hb dL_law_1015 (by decide) (fun _ => ?_) (fun c6 => absurd c6 (by decide))
  refine lv_goto (tgt := 2336) hx hb dL_law_1030 (by decide) ?_
  exact lw_end X hX hbl hbA (by omega) I (lv_sub hl [2, 6] rfl) (Nat.le_of_ble_eq_true rfl) (Nat.le_of_ble_eq_true rfl)

set_option maxHeartbeats 4000000 in
set_option maxRecDepth 100000 in
theorem lc_18_i {p : Program} {l : Launch} {e : Env} {s : State} {m : MethodId} {below : List Frame} {meth : Method} {c : Code} {H : Heap} {locs : List Loc} {ls : Array Slot} {D : va_G} {cI cJ : ClassId} {b L : Nat} {xs : Nat → Int32} {zb : Nat} {zt : Nat} {zn : Nat} {zv : Nat} {zs : Nat} {zp : Nat} {zq : Nat → Nat} {zu : Nat → Nat} {zh : Nat} {zst : Nat} {zre : Nat} {zo : Nat → Nat} {zi : Nat → Nat} {zw : fb_AR} {zb0 : Nat} {zb1 : Nat} {zb3 : Nat} {zb4 : Nat} {zb5 : Nat} {zx : Nat} {zg : Nat → Int64} {za : Nat} {zr : Nat → Nat} {zj : Nat} (hst : l.stackTraces = false) (X : fb_Bx p s m #[Value.ref b] meth c cL_law RL 9 (some .boolean) D (fb_ty D cI cJ) (fun q : Nat => s.heap.size ≤ q)) (hX : va_X b L xs s s.heap) (hbl : b < s.heap.size) (hbA : ¬ (fun q : Nat => s.heap.size ≤ q) b) (hL6 : L = 6) (hz : xs 1 = nI zj) (hj : 1 ≤ zj ∧ zj ≤ 200) (I : fb_In D (fun q : Nat => s.heap.size ≤ q) s.heap (([fb_o11 zb zt zn zv zs zp (zq 0) (zu 0) zh zst zre, fb_o0 zh (zo 0) (zi 0) fb_h0, fb_mw cI zo fb_m0 (fun _ => 0), fb_mw cI zi fb_m0 (fun _ => 0), fb_mw cI zq fb_s0 zw, fb_o7 zst zb0 zb1 zb3 zb4 zb5 (fun _ => 0), fb_jw cJ zx 1 zg, fb_o12 za zr fr_e0] : List va_W).flatten) H locs) (hl : lv_has ls 9 [(4, .int (0 : Int32)), (3, .ref zx), (2, .ref za), (1, .ref zb), (0, .ref b)]) : W p l e room_1 s m #[Value.ref b] below meth c H locs 209 179241 (lw_Z below #[Value.ref b] s) (F0 m 977 ls []) := by
  obtain ⟨hx, hb, hr, hml, hown, hts, hlk, hA, hK, hF⟩ := id X
  refine lv_aload_n hx hb dL_law_977 rfl (lv_at hl 3 rfl) ?_
  refine lv_aload_n hx hb dL_law_978 rfl (lv_at hl 4 rfl) ?_
  refine lv_iload hx hb dL_law_979 (lv_at hl 0 rfl) ?_
  refine lv_iconst (v := (1 : Int32)) hx hb dL_law_981 (by decide) ?_
  refine lv_iadd hx hb dL_law_982 ?_
  refine fb_tI (v := (1 : Int32)) (by decide) ?_
  refine va_sld (i := (1 : Int32)) hx hb hX hbl hbA I.2.2 (fb_inC (n := 1) (by decide) (by decide) (by omega)) dL_law_983 ?_
  refine fb_tI (v := (xs 1)) rfl ?_
  refine fb_tI (v := (nI zj)) hz ?_
  refine lv_aload_n hx hb dL_law_984 rfl (lv_at hl 1 rfl) ?_
  refine fb_gI (cs := [fb_o11 zb zt zn zv zs zp (zq 0) (zu 0) zh zst zre, fb_o0 zh (zo 0) (zi 0) fb_h0, fb_mw cI zo fb_m0 (fun _ => 0), fb_mw cI zi fb_m0 (fun _ => 0), fb_mw cI zq fb_s0 zw, fb_o7 zst zb0 zb1 zb3 zb4 zb5 (fun _ => 0), fb_jw cJ zx 1 zg]) (rs := [fb_o12 za zr fr_e0]) (fun (t : Unit) => [fb_jw cJ zx 1 (vp_updL zg 0 (((0 : Int32)).toInt64)), fb_o12 za zr fr_e0]) (fun (t : Unit) => [fb_jw cJ zx 1 (vp_updL zg 0 (((0 : Int32)).toInt64))]) X I [0, 1, 2, 3, 4, 5, 6, 7] 8 rfl (by decide +kernel) rfl rfl [0, 1] 2 (fun _ => rfl) (by decide +kernel) (fun _ => rfl) (fun _ => rfl) (fun I => fb_rSW (As := [.ref zb, .int (nI zj), .ref zx]) (rest := []) X hl (fb_goodSW fw_1783 fw_1784 fw_190 fw_1785) (c_w_back_in l D cI cJ zb zt zn zv zs zp zq zu zh zst zre zo zi zw zb0 zb1 zb3 zb4 zb5 zx zg zj _ hst (by omega)) rfl rfl (by decide +kernel : fb_hd yL_back 3) ⟨Nat.le_of_ble_eq_true rfl, Nat.le_of_ble_eq_true rfl⟩ rfl rfl (Nat.le_of_ble_eq_true rfl) ⟨Nat.le_of_ble_eq_true rfl, Nat.le_of_ble_eq_true rfl⟩ dL_law_985 I) ?_
  intro r2 w1 H locs e0 I
  subst e0
  have I : fb_In D (fun q : Nat => s.heap.size ≤ q) s.heap (([fb_jw cJ zx 1 (vp_updL zg 0 (((0 : Int32)).toInt64)), fb_o12 za zr fr_e0] : List va_W).flatten) H locs := I
  refine lv_istore (lv' := [(5, .int (0 : Int32)), (4, .int (0 : Int32)), (3, .ref zx), (2, .ref za), (1, .ref zb), (0, .ref b)]) hx hb dL_law_988 hl (by decide) rfl (fun ls hl => ?_)
  refine lv_aload_n hx hb dL_law_990 rfl (lv_at hl 3 rfl) ?_
  refine lv_aload_n hx hb dL_law_991 rfl (lv_at hl 5 rfl) ?_
  refine lv_iload hx hb dL_law_992 (lv_at hl 1 rfl) ?_
  refine lv_iconst (v := (1 : Int32)) hx hb dL_law_994 (by decide) ?_
  refine lv_iadd hx hb dL_law_995 ?_
  refine fb_tI (v := (1 : Int32)) (by decide) ?_
  refine va_sld (i := (1 : Int32)) hx hb hX hbl hbA I.2.2 (fb_inC (n := 1) (by decide) (by decide) (by omega)) dL_law_996 ?_
  refine fb_tI (v := (xs 1)) rfl ?_
  refine fb_tI (v := (nI zj)) hz ?_
  refine fb_gI (cs := [fb_o12 za zr fr_e0]) (rs := [fb_jw cJ zx 1 (vp_updL zg 0 (((0 : Int32)).toInt64))]) (fun (t : Unit) => [fb_jw cJ zx 1 (vp_updL zg 0 (((0 : Int32)).toInt64)), fb_o12 za zr (upd (upd fr_e0 19 (0 : Int32)) 10 (0 : Int32))]) (fun (t : Unit) => [fb_o12 za zr (upd (upd fr_e0 19 (0 : Int32)) 10 (0 : Int32))]) X I [1, 0] 2 rfl (by decide +kernel) rfl rfl [1, 0] 2 (fun _ => rfl) (by decide +kernel) (fun _ => rfl) (fun _ => rfl) (fun I => fb_rV (As := [.int (nI zj)]) (rest := []) X hl (fb_goodV fw_2594 fw_2595 fw_2596 fw_204 fw_2597) (c_back_in l D cI cJ za zr zj _ (by omega)) rfl rfl rfl (by decide +kernel : fb_hd yX12_back 1) ⟨Nat.le_of_ble_eq_true rfl, Nat.le_of_ble_eq_true rfl⟩ rfl rfl rfl rfl rfl (Nat.le_of_ble_eq_true rfl) ⟨Nat.le_of_ble_eq_true rfl, Nat.le_of_ble_eq_true rfl⟩ dL_law_997 I) ?_
  intro r4 w3 H locs e0 I
  subst e0
  have I : fb_In D (fun q : Nat => s.heap.size ≤ q) s.heap (([fb_jw cJ zx 1 (vp_updL zg 0 (((0 : Int32)).toInt64)), fb_o12 za zr (upd (upd fr_e0 19 (0 : Int32)) 10 (0 : Int32))] : List va_W).flatten) H locs := I
  refine lv_istore (lv' := [(6, .int (0 : Int32)), (5, .int (0 : Int32)), (4, .int (0 : Int32)), (3, .ref zx), (2, .ref za), (1, .ref zb), (0, .ref b)]) hx hb dL_law_1000 hl (by decide) rfl (fun ls hl => ?_)
  refine lv_aload_n hx hb dL_law_1002 rfl (lv_at hl 4 rfl) ?_
  refine fb_gO (cs := [fb_o12 za zr (upd (upd fr_e0 19 (0 : Int32)) 10 (0 : Int32))]) (rs := [fb_jw cJ zx 1 (vp_updL zg 0 (((0 : Int32)).toInt64))]) X I [1, 0] 2 rfl (by decide +kernel) rfl rfl (fun I => fb_rV (As := []) (rest := []) X hl (fb_goodV fw_2119 fw_2120 fw_2121 fw_204 fw_2122) (c_thrown l D cI cJ za zr (upd (upd fr_e0 19 (0 : Int32)) 10 (0 : Int32)) _ ) rfl rfl rfl (by decide +kernel : fb_hd yX12_thrown 0) ⟨Nat.le_of_ble_eq_true rfl, Nat.le_of_ble_eq_true rfl⟩ rfl rfl rfl rfl rfl (Nat.le_of_ble_eq_true rfl) ⟨Nat.le_of_ble_eq_true rfl, Nat.le_of_ble_eq_true rfl⟩ dL_law_1003 I) ?_
  refine fb_tI (v := (0 : Int32)) rfl ?_
  refine lv_iload hx hb dL_law_1006 (lv_at hl 1 rfl) ?_
  refine lv_icmp_eq (tgt := 1013) hx hb dL_law_1008 (by decide) (fun _ => ?_) (fun c5 => absurd rfl c5)
  refine lv_iload hx hb dL_law_1013 (lv_at hl 1 rfl) ?_
  refine lv_if_ne (tgt := 1030) hx hb dL_law_1015 (by decide) (fun c6 => absurd (by decide) c6) (fun _ => ?_)
  refine lv_aload_n hx hb dL_law_1018 rfl (lv_at hl 3 rfl) ?_
  refine lv_iconst (v := (0 : Int32)) hx hb dL_law_1019 (by decide) ?_
  refine va_lald (i := (0 : Int32)) hx hb hK.1 I.1 0 1 rfl rfl (fb_inC (n := 0) (by decide) (by decide) (Nat.le_of_ble_eq_true rfl)) dL_law_1020 ?_
  refine fb_tL (v := (((0 : Int32)).toInt64)) rfl ?_
  refine lv_iload hx hb dL_law_1021 (lv_at hl 0 rfl) ?_
  refine lv_i2l (v := (((0 : Int32)).toInt64)) hx hb dL_law_1023 rfl ?_
  refine W.lcmp hx hb dL_law_1024 ?_
  refine fb_tI (v := (0 : Int32)) (lw_cmp0 _) ?_
  refine lv_if_eq (tgt := 1030) hx hb dL_law_1025 (by decide) (fun _ => ?_) (fun c7 => absurd (by decide) c7)
  refine lv_goto (tgt := 2336) hx hb dL_law_1030 (by decide) ?_
  exact lw_end X hX hbl hbA (by omega) I (lv_sub hl [2, 6] rfl) (Nat.le_of_ble_eq_true rfl) (Nat.le_of_ble_eq_true rfl)

set_option maxHeartbeats 4000000 in
set_option maxRecDepth 100000 in
theorem lc_21_o {p : Program} {l : Launch} {e : Env} {s : State} {m : MethodId} {below : List Frame} {meth : Method} {c : Code} {H : Heap} {locs : List Loc} {ls : Array Slot} {D : va_G} {cI cJ : ClassId} {b L : Nat} {xs : Nat → Int32} {zb : Nat} {zt : Nat} {zn : Nat} {zv : Nat} {zs : Nat} {zp : Nat} {zq : Nat → Nat} {zu : Nat → Nat} {zh : Nat} {zst : Nat} {zre : Nat} {zx : Nat} {zg : Nat → Int64} {za : Nat} {zr : Nat → Nat} (hst : l.stackTraces = false) (X : fb_Bx p s m #[Value.ref b] meth c cL_law RL 9 (some .boolean) D (fb_ty D cI cJ) (fun q : Nat => s.heap.size ≤ q)) (hX : va_X b L xs s s.heap) (hbl : b < s.heap.size) (hbA : ¬ (fun q : Nat => s.heap.size ≤ q) b) (hL6 : L = 6) (gA : f_X11_isNoAddress (xs 1) = (1 : Int32)) (q1 : f_X12_isIn (xs 1) (0 : Int32) (4095 : Int32) = (0 : Int32)) (I : fb_In D (fun q : Nat => s.heap.size ≤ q) s.heap (([fb_o11 zb zt zn zv zs zp (zq 0) (zu 0) zh zst zre, fb_jw cJ zx 1 zg, fb_o12 za zr fr_e0] : List va_W).flatten) H locs) (hl : lv_has ls 9 [(4, .int (0 : Int32)), (3, .ref zx), (2, .ref za), (1, .ref zb), (0, .ref b)]) : W p l e room_1 s m #[Value.ref b] below meth c H locs 209 179241 (lw_Z below #[Value.ref b] s) (F0 m 1059 ls []) := by
  obtain ⟨hx, hb, hr, hml, hown, hts, hlk, hA, hK, hF⟩ := id X
  refine lv_aload_n hx hb dL_law_1059 rfl (lv_at hl 3 rfl) ?_
  refine lv_aload_n hx hb dL_law_1060 rfl (lv_at hl 4 rfl) ?_
  refine lv_iload hx hb dL_law_1061 (lv_at hl 0 rfl) ?_
  refine lv_iconst (v := (1 : Int32)) hx hb dL_law_1063 (by decide) ?_
  refine lv_iadd hx hb dL_law_1064 ?_
  refine fb_tI (v := (1 : Int32)) (by decide) ?_
  refine va_sld (i := (1 : Int32)) hx hb hX hbl hbA I.2.2 (fb_inC (n := 1) (by decide) (by decide) (by omega)) dL_law_1065 ?_
  refine fb_tI (v := (xs 1)) rfl ?_
  refine lv_aload_n hx hb dL_law_1066 rfl (lv_at hl 4 rfl) ?_
  refine lv_iload hx hb dL_law_1067 (lv_at hl 0 rfl) ?_
  refine lv_iconst (v := (2 : Int32)) hx hb dL_law_1069 (by decide) ?_
  refine lv_iadd hx hb dL_law_1070 ?_
  refine fb_tI (v := (2 : Int32)) (by decide) ?_
  refine va_sld (i := (2 : Int32)) hx hb hX hbl hbA I.2.2 (fb_inC (n := 2) (by decide) (by decide) (by omega)) dL_law_1071 ?_
  refine fb_tI (v := (xs 2)) rfl ?_
  refine lv_aload_n hx hb dL_law_1072 rfl (lv_at hl 1 rfl) ?_
  refine fb_gI (cs := [fb_o11 zb zt zn zv zs zp (zq 0) (zu 0) zh zst zre, fb_jw cJ zx 1 zg]) (rs := [fb_o12 za zr fr_e0]) (fun (t : Unit) => [fb_jw cJ zx 1 zg, fb_o12 za zr fr_e0]) (fun (t : Unit) => [fb_jw cJ zx 1 zg]) X I [0, 1, 2] 3 rfl (by decide +kernel) rfl rfl [0, 1] 2 (fun _ => rfl) (by decide +kernel) (fun _ => rfl) (fun _ => rfl) (fun I => fb_rSW (As := [.ref zb, .int (xs 1), .int (xs 2), .ref zx]) (rest := []) X hl (fb_goodSW fw_1796 fw_1797 fw_190 fw_1798) (c_w_setBreak_o l D cI cJ zb zt zn zv zs zp zq zu zh zst zre zx zg (xs 1) (xs 2) _ hst gA) rfl rfl (by decide +kernel : fb_hd yL_setBreak 4) ⟨Nat.le_of_ble_eq_true rfl, Nat.le_of_ble_eq_true rfl⟩ rfl rfl (Nat.le_of_ble_eq_true rfl) ⟨Nat.le_of_ble_eq_true rfl, Nat.le_of_ble_eq_true rfl⟩ dL_law_1073 I) ?_
  intro r2 w1 H locs e0 I
  subst e0
  have I : fb_In D (fun q : Nat => s.heap.size ≤ q) s.heap (([fb_jw cJ zx 1 zg, fb_o12 za zr fr_e0] : List va_W).flatten) H locs := I
  refine lv_istore (lv' := [(5, .int (1 : Int32)), (4, .int (0 : Int32)), (3, .ref zx), (2, .ref za), (1, .ref zb), (0, .ref b)]) hx hb dL_law_1076 hl (by decide) rfl (fun ls hl => ?_)
  refine lv_aload_n hx hb dL_law_1078 rfl (lv_at hl 3 rfl) ?_
  refine lv_aload_n hx hb dL_law_1079 rfl (lv_at hl 5 rfl) ?_
  refine lv_iload hx hb dL_law_1080 (lv_at hl 1 rfl) ?_
  refine lv_iconst (v := (1 : Int32)) hx hb dL_law_1082 (by decide) ?_
  refine lv_iadd hx hb dL_law_1083 ?_
  refine fb_tI (v := (1 : Int32)) (by decide) ?_
  refine va_sld (i := (1 : Int32)) hx hb hX hbl hbA I.2.2 (fb_inC (n := 1) (by decide) (by decide) (by omega)) dL_law_1084 ?_
  refine fb_tI (v := (xs 1)) rfl ?_
  refine lv_aload_n hx hb dL_law_1085 rfl (lv_at hl 5 rfl) ?_
  refine lv_iload hx hb dL_law_1086 (lv_at hl 1 rfl) ?_
  refine lv_iconst (v := (2 : Int32)) hx hb dL_law_1088 (by decide) ?_
  refine lv_iadd hx hb dL_law_1089 ?_
  refine fb_tI (v := (2 : Int32)) (by decide) ?_
  refine va_sld (i := (2 : Int32)) hx hb hX hbl hbA I.2.2 (fb_inC (n := 2) (by decide) (by decide) (by omega)) dL_law_1090 ?_
  refine fb_tI (v := (xs 2)) rfl ?_
  refine fb_gI (cs := [fb_o12 za zr fr_e0]) (rs := [fb_jw cJ zx 1 zg]) (fun (t : Unit) => [fb_jw cJ zx 1 zg, fb_o12 za zr (upd (upd fr_e0 19 (0 : Int32)) 19 (1 : Int32))]) (fun (t : Unit) => [fb_o12 za zr (upd (upd fr_e0 19 (0 : Int32)) 19 (1 : Int32))]) X I [1, 0] 2 rfl (by decide +kernel) rfl rfl [1, 0] 2 (fun _ => rfl) (by decide +kernel) (fun _ => rfl) (fun _ => rfl) (fun I => fb_rV (As := [.int (xs 1), .int (xs 2)]) (rest := []) X hl (fb_goodV fw_2607 fw_2608 fw_2609 fw_204 fw_2610) (c_setBreak_out l D cI cJ za zr (xs 1) (xs 2) _ q1) rfl rfl rfl (by decide +kernel : fb_hd yX12_setBreak 2) ⟨Nat.le_of_ble_eq_true rfl, Nat.le_of_ble_eq_true rfl⟩ rfl rfl rfl rfl rfl (Nat.le_of_ble_eq_true rfl) ⟨Nat.le_of_ble_eq_true rfl, Nat.le_of_ble_eq_true rfl⟩ dL_law_1091 I) ?_
  intro r4 w3 H locs e0 I
  subst e0
  have I : fb_In D (fun q : Nat => s.heap.size ≤ q) s.heap (([fb_jw cJ zx 1 zg, fb_o12 za zr (upd (upd fr_e0 19 (0 : Int32)) 19 (1 : Int32))] : List va_W).flatten) H locs := I
  refine lv_istore (lv' := [(6, .int (0 : Int32)), (5, .int (1 : Int32)), (4, .int (0 : Int32)), (3, .ref zx), (2, .ref za), (1, .ref zb), (0, .ref b)]) hx hb dL_law_1094 hl (by decide) rfl (fun ls hl => ?_)
  refine lv_aload_n hx hb dL_law_1096 rfl (lv_at hl 4 rfl) ?_
  refine fb_gO (cs := [fb_o12 za zr (upd (upd fr_e0 19 (0 : Int32)) 19 (1 : Int32))]) (rs := [fb_jw cJ zx 1 zg]) X I [1, 0] 2 rfl (by decide +kernel) rfl rfl (fun I => fb_rV (As := []) (rest := []) X hl (fb_goodV fw_2119 fw_2120 fw_2121 fw_204 fw_2122) (c_thrown l D cI cJ za zr (upd (upd fr_e0 19 (0 : Int32)) 19 (1 : Int32)) _ ) rfl rfl rfl (by decide +kernel : fb_hd yX12_thrown 0) ⟨Nat.le_of_ble_eq_true rfl, Nat.le_of_ble_eq_true rfl⟩ rfl rfl rfl rfl rfl (Nat.le_of_ble_eq_true rfl) ⟨Nat.le_of_ble_eq_true rfl, Nat.le_of_ble_eq_true rfl⟩ dL_law_1097 I) ?_
  refine fb_tI (v := (1 : Int32)) rfl ?_
  refine lv_iload hx hb dL_law_1100 (lv_at hl 1 rfl) ?_
  refine lv_icmp_eq (tgt := 1107) hx hb dL_law_1102 (by decide) (fun _ => ?_) (fun c5 => absurd rfl c5)
  refine lv_iload hx hb dL_law_1107 (lv_at hl 1 rfl) ?_
  refine lv_if_ne (tgt := 1124) hx hb dL_law_1109 (by decide) (fun _ => ?_) (fun c6 => absurd c6 (by decide))
  refine lv_goto (tgt := 2336) hx hb dL_law_1124 (by decide) ?_
  exact lw_end X hX hbl hbA (by omega) I (lv_sub hl [2, 6] rfl) (Nat.le_of_ble_eq_true rfl) (Nat.le_of_ble_eq_true rfl)

set_option maxHeartbeats 4000000 in
set_option maxRecDepth 100000 in
theorem lc_21_a {p : Program} {l : Launch} {e : Env} {s : State} {m : MethodId} {below : List Frame} {meth : Method} {c : Code} {H : Heap} {locs : List Loc} {ls : Array Slot} {D : va_G} {cI cJ : ClassId} {b L : Nat} {xs : Nat → Int32} {zb : Nat} {zt : Nat} {zn : Nat} {zv : Nat} {zs : Nat} {zp : Nat} {zq : Nat → Nat} {zu : Nat → Nat} {zh : Nat} {zst : Nat} {zre : Nat} {zx : Nat} {zg : Nat → Int64} {za : Nat} {zr : Nat → Nat} {zj : Nat} (hst : l.stackTraces = false) (X : fb_Bx p s m #[Value.ref b] meth c cL_law RL 9 (some .boolean) D (fb_ty D cI cJ) (fun q : Nat => s.heap.size ≤ q)) (hX : va_X b L xs s s.heap) (hbl : b < s.heap.size) (hbA : ¬ (fun q : Nat => s.heap.size ≤ q) b) (hL6 : L = 6) (hz : xs 1 = nI zj) (hj : zj < 4096) (gA0 : f_X11_isNoAddress (nI zj) = (0 : Int32)) (h0 : (xs 2) < 0) (q1 : f_X12_isIn (xs 2) (0 : Int32) (1000 : Int32) = (0 : Int32)) (I : fb_In D (fun q : Nat => s.heap.size ≤ q) s.heap (([fb_o11 zb zt zn zv zs zp (zq 0) (zu 0) zh zst zre, fb_jw cJ zx 1 zg, fb_o12 za zr fr_e0] : List va_W).flatten) H locs) (hl : lv_has ls 9 [(4, .int (0 : Int32)), (3, .ref zx), (2, .ref za), (1, .ref zb), (0, .ref b)]) : W p l e room_1 s m #[Value.ref b] below meth c H locs 209 179241 (lw_Z below #[Value.ref b] s) (F0 m 1059 ls []) := by
  obtain ⟨hx, hb, hr, hml, hown, hts, hlk, hA, hK, hF⟩ := id X
  refine lv_aload_n hx hb dL_law_1059 rfl (lv_at hl 3 rfl) ?_
  refine lv_aload_n hx hb dL_law_1060 rfl (lv_at hl 4 rfl) ?_
  refine lv_iload hx hb dL_law_1061 (lv_at hl 0 rfl) ?_
  refine lv_iconst (v := (1 : Int32)) hx hb dL_law_1063 (by decide) ?_
  refine lv_iadd hx hb dL_law_1064 ?_
  refine fb_tI (v := (1 : Int32)) (by decide) ?_
  refine va_sld (i := (1 : Int32)) hx hb hX hbl hbA I.2.2 (fb_inC (n := 1) (by decide) (by decide) (by omega)) dL_law_1065 ?_
  refine fb_tI (v := (xs 1)) rfl ?_
  refine fb_tI (v := (nI zj)) hz ?_
  refine lv_aload_n hx hb dL_law_1066 rfl (lv_at hl 4 rfl) ?_
  refine lv_iload hx hb dL_law_1067 (lv_at hl 0 rfl) ?_
  refine lv_iconst (v := (2 : Int32)) hx hb dL_law_1069 (by decide) ?_
  refine lv_iadd hx hb dL_law_1070 ?_
  refine fb_tI (v := (2 : Int32)) (by decide) ?_
  refine va_sld (i := (2 : Int32)) hx hb hX hbl hbA I.2.2 (fb_inC (n := 2) (by decide) (by decide) (by omega)) dL_law_1071 ?_
  refine fb_tI (v := (xs 2)) rfl ?_
  refine lv_aload_n hx hb dL_law_1072 rfl (lv_at hl 1 rfl) ?_
  refine fb_gI (cs := [fb_o11 zb zt zn zv zs zp (zq 0) (zu 0) zh zst zre, fb_jw cJ zx 1 zg]) (rs := [fb_o12 za zr fr_e0]) (fun (t : Unit) => [fb_jw cJ zx 1 zg, fb_o12 za zr fr_e0]) (fun (t : Unit) => [fb_jw cJ zx 1 zg]) X I [0, 1, 2] 3 rfl (by decide +kernel) rfl rfl [0, 1] 2 (fun _ => rfl) (by decide +kernel) (fun _ => rfl) (fun _ => rfl) (fun I => fb_rSW (As := [.ref zb, .int (nI zj), .int (xs 2), .ref zx]) (rest := []) X hl (fb_goodSW fw_1796 fw_1797 fw_190 fw_1798) (c_w_setBreak_a l D cI cJ zb zt zn zv zs zp zq zu zh zst zre zx zg (nI zj) (xs 2) _ hst gA0 h0) rfl rfl (by decide +kernel : fb_hd yL_setBreak 4) ⟨Nat.le_of_ble_eq_true rfl, Nat.le_of_ble_eq_true rfl⟩ rfl rfl (Nat.le_of_ble_eq_true rfl) ⟨Nat.le_of_ble_eq_true rfl, Nat.le_of_ble_eq_true rfl⟩ dL_law_1073 I) ?_
  intro r2 w1 H locs e0 I
  subst e0
  have I : fb_In D (fun q : Nat => s.heap.size ≤ q) s.heap (([fb_jw cJ zx 1 zg, fb_o12 za zr fr_e0] : List va_W).flatten) H locs := I
  refine lv_istore (lv' := [(5, .int (1 : Int32)), (4, .int (0 : Int32)), (3, .ref zx), (2, .ref za), (1, .ref zb), (0, .ref b)]) hx hb dL_law_1076 hl (by decide) rfl (fun ls hl => ?_)
  refine lv_aload_n hx hb dL_law_1078 rfl (lv_at hl 3 rfl) ?_
  refine lv_aload_n hx hb dL_law_1079 rfl (lv_at hl 5 rfl) ?_
  refine lv_iload hx hb dL_law_1080 (lv_at hl 1 rfl) ?_
  refine lv_iconst (v := (1 : Int32)) hx hb dL_law_1082 (by decide) ?_
  refine lv_iadd hx hb dL_law_1083 ?_
  refine fb_tI (v := (1 : Int32)) (by decide) ?_
  refine va_sld (i := (1 : Int32)) hx hb hX hbl hbA I.2.2 (fb_inC (n := 1) (by decide) (by decide) (by omega)) dL_law_1084 ?_
  refine fb_tI (v := (xs 1)) rfl ?_
  refine fb_tI (v := (nI zj)) hz ?_
  refine lv_aload_n hx hb dL_law_1085 rfl (lv_at hl 5 rfl) ?_
  refine lv_iload hx hb dL_law_1086 (lv_at hl 1 rfl) ?_
  refine lv_iconst (v := (2 : Int32)) hx hb dL_law_1088 (by decide) ?_
  refine lv_iadd hx hb dL_law_1089 ?_
  refine fb_tI (v := (2 : Int32)) (by decide) ?_
  refine va_sld (i := (2 : Int32)) hx hb hX hbl hbA I.2.2 (fb_inC (n := 2) (by decide) (by decide) (by omega)) dL_law_1090 ?_
  refine fb_tI (v := (xs 2)) rfl ?_
  refine fb_gI (cs := [fb_o12 za zr fr_e0]) (rs := [fb_jw cJ zx 1 zg]) (fun (t : Unit) => [fb_jw cJ zx 1 zg, fb_o12 za zr (upd (upd fr_e0 19 (0 : Int32)) 19 (1 : Int32))]) (fun (t : Unit) => [fb_o12 za zr (upd (upd fr_e0 19 (0 : Int32)) 19 (1 : Int32))]) X I [1, 0] 2 rfl (by decide +kernel) rfl rfl [1, 0] 2 (fun _ => rfl) (by decide +kernel) (fun _ => rfl) (fun _ => rfl) (fun I => fb_rV (As := [.int (nI zj), .int (xs 2)]) (rest := []) X hl (fb_goodV fw_2607 fw_2608 fw_2609 fw_204 fw_2610) (c_setBreak_bad l D cI cJ za zr zj (xs 2) _ (by omega) q1) rfl rfl rfl (by decide +kernel : fb_hd yX12_setBreak 2) ⟨Nat.le_of_ble_eq_true rfl, Nat.le_of_ble_eq_true rfl⟩ rfl rfl rfl rfl rfl (Nat.le_of_ble_eq_true rfl) ⟨Nat.le_of_ble_eq_true rfl, Nat.le_of_ble_eq_true rfl⟩ dL_law_1091 I) ?_
  intro r4 w3 H locs e0 I
  subst e0
  have I : fb_In D (fun q : Nat => s.heap.size ≤ q) s.heap (([fb_jw cJ zx 1 zg, fb_o12 za zr (upd (upd fr_e0 19 (0 : Int32)) 19 (1 : Int32))] : List va_W).flatten) H locs := I
  refine lv_istore (lv' := [(6, .int (0 : Int32)), (5, .int (1 : Int32)), (4, .int (0 : Int32)), (3, .ref zx), (2, .ref za), (1, .ref zb), (0, .ref b)]) hx hb dL_law_1094 hl (by decide) rfl (fun ls hl => ?_)
  refine lv_aload_n hx hb dL_law_1096 rfl (lv_at hl 4 rfl) ?_
  refine fb_gO (cs := [fb_o12 za zr (upd (upd fr_e0 19 (0 : Int32)) 19 (1 : Int32))]) (rs := [fb_jw cJ zx 1 zg]) X I [1, 0] 2 rfl (by decide +kernel) rfl rfl (fun I => fb_rV (As := []) (rest := []) X hl (fb_goodV fw_2119 fw_2120 fw_2121 fw_204 fw_2122) (c_thrown l D cI cJ za zr (upd (upd fr_e0 19 (0 : Int32)) 19 (1 : Int32)) _ ) rfl rfl rfl (by decide +kernel : fb_hd yX12_thrown 0) ⟨Nat.le_of_ble_eq_true rfl, Nat.le_of_ble_eq_true rfl⟩ rfl rfl rfl rfl rfl (Nat.le_of_ble_eq_true rfl) ⟨Nat.le_of_ble_eq_true rfl, Nat.le_of_ble_eq_true rfl⟩ dL_law_1097 I) ?_
  refine fb_tI (v := (1 : Int32)) rfl ?_
  refine lv_iload hx hb dL_law_1100 (lv_at hl 1 rfl) ?_
  refine lv_icmp_eq (tgt := 1107) hx hb dL_law_1102 (by decide) (fun _ => ?_) (fun c5 => absurd rfl c5)
  refine lv_iload hx hb dL_law_1107 (lv_at hl 1 rfl) ?_
  refine lv_if_ne (tgt := 1124) hx hb dL_law_1109 (by decide) (fun _ => ?_) (fun c6 => absurd c6 (by decide))
  refine lv_goto (tgt := 2336) hx hb dL_law_1124 (by decide) ?_
  exact lw_end X hX hbl hbA (by omega) I (lv_sub hl [2, 6] rfl) (Nat.le_of_ble_eq_true rfl) (Nat.le_of_ble_eq_true rfl)

set_option maxHeartbeats 4000000 in
set_option maxRecDepth 100000 in
theorem lc_21_b {p : Program} {l : Launch} {e : Env} {s : State} {m : MethodId} {below : List Frame} {meth : Method} {c : Code} {H : Heap} {locs : List Loc} {ls : Array Slot} {D : va_G} {cI cJ : ClassId} {b L : Nat} {xs : Nat → Int32} {zb : Nat} {zt : Nat} {zn : Nat} {zv : Nat} {zs : Nat} {zp : Nat} {zq : Nat → Nat} {zu : Nat → Nat} {zh : Nat} {zst : Nat} {zre : Nat} {zx : Nat} {zg : Nat → Int64} {za : Nat} {zr : Nat → Nat} {zj : Nat} (hst : l.stackTraces = false) (X : fb_Bx p s m #[Value.ref b] meth c cL_law RL 9 (some .boolean) D (fb_ty D cI cJ) (fun q : Nat => s.heap.size ≤ q)) (hX : va_X b L xs s s.heap) (hbl : b < s.heap.size) (hbA : ¬ (fun q : Nat => s.heap.size ≤ q) b) (hL6 : L = 6) (hz : xs 1 = nI zj) (hj : zj < 4096) (gA0 : f_X11_isNoAddress (nI zj) = (0 : Int32)) (h0 : ¬ (xs 2) < 0) (h1 : ¬ (xs 2) ≤ (1000 : Int32)) (q1 : f_X12_isIn (xs 2) (0 : Int32) (1000 : Int32) = (0 : Int32)) (I : fb_In D (fun q : Nat => s.heap.size ≤ q) s.heap (([fb_o11 zb zt zn zv zs zp (zq 0) (zu 0) zh zst zre, fb_jw cJ zx 1 zg, fb_o12 za zr fr_e0] : List va_W).flatten) H locs) (hl : lv_has ls 9 [(4, .int (0 : Int32)), (3, .ref zx), (2, .ref za), (1, .ref zb), (0, .ref b)]) : W p l e room_1 s m #[Value.ref b] below meth c H locs 209 179241 (lw_Z below #[Value.ref b] s) (F0 m 1059 ls []) := by
  obtain ⟨hx, hb, hr, hml, hown, hts, hlk, hA, hK, hF⟩ := id X
  refine lv_aload_n hx hb dL_law_1059 rfl (lv_at hl 3 rfl) ?_
  refine lv_aload_n hx hb dL_law_1060 rfl (lv_at hl 4 rfl) ?_
  refine lv_iload hx hb dL_law_1061 (lv_at hl 0 rfl) ?_
  refine lv_iconst (v := (1 : Int32)) hx hb dL_law_1063 (by decide) ?_
  refine lv_iadd hx hb dL_law_1064 ?_
  refine fb_tI (v := (1 : Int32)) (by decide) ?_
  refine va_sld (i := (1 : Int32)) hx hb hX hbl hbA I.2.2 (fb_inC (n := 1) (by decide) (by decide) (by omega)) dL_law_1065 ?_
  refine fb_tI (v := (xs 1)) rfl ?_
  refine fb_tI (v := (nI zj)) hz ?_
  refine lv_aload_n hx hb dL_law_1066 rfl (lv_at hl 4 rfl) ?_
  refine lv_iload hx hb dL_law_1067 (lv_at hl 0 rfl) ?_
  refine lv_iconst (v := (2 : Int32)) hx hb dL_law_1069 (by decide) ?_
  refine lv_iadd hx hb dL_law_1070 ?_
  refine fb_tI (v := (2 : Int32)) (by decide) ?_
  refine va_sld (i := (2 : Int32)) hx hb hX hbl hbA I.2.2 (fb_inC (n := 2) (by decide) (by decide) (by omega)) dL_law_1071 ?_
  refine fb_tI (v := (xs 2)) rfl ?_
  refine lv_aload_n hx hb dL_law_1072 rfl (lv_at hl 1 rfl) ?_
  refine fb_gI (cs := [fb_o11 zb zt zn zv zs zp (zq 0) (zu 0) zh zst zre, fb_jw cJ zx 1 zg]) (rs := [fb_o12 za zr fr_e0]) (fun (t : Unit) => [fb_jw cJ zx 1 zg, fb_o12 za zr fr_e0]) (fun (t : Unit) => [fb_jw cJ zx 1 zg]) X I [0, 1, 2] 3 rfl (by decide +kernel) rfl rfl [0, 1] 2 (fun _ => rfl) (by decide +kernel) (fun _ => rfl) (fun _ => rfl) (fun I => fb_rSW (As := [.ref zb, .int (nI zj), .int (xs 2), .ref zx]) (rest := []) X hl (fb_goodSW fw_1796 fw_1797 fw_190 fw_1798) (c_w_setBreak_b l D cI cJ zb zt zn zv zs zp zq zu zh zst zre zx zg (nI zj) (xs 2) _ hst gA0 h0 h1) rfl rfl (by decide +kernel : fb_hd yL_setBreak 4) ⟨Nat.le_of_ble_eq_true rfl, Nat.le_of_ble_eq_true rfl⟩ rfl rfl (Nat.le_of_ble_eq_true rfl) ⟨Nat.le_of_ble_eq_true rfl, Nat.le_of_ble_eq_true rfl⟩ dL_law_1073 I) ?_
  intro r2 w1 H locs e0 I
  subst e0
  have I : fb_In D (fun q : Nat => s.heap.size ≤ q) s.heap (([fb_jw cJ zx 1 zg, fb_o12 za zr fr_e0] : List va_W).flatten) H locs := I
  refine lv_istore (lv' := [(5, .int (1 : Int32)), (4, .int (0 : Int32)), (3, .ref zx), (2, .ref za), (1, .ref zb), (0, .ref b)]) hx hb dL_law_1076 hl (by decide) rfl (fun ls hl => ?_)
  refine lv_aload_n hx hb dL_law_1078 rfl (lv_at hl 3 rfl) ?_
  refine lv_aload_n hx hb dL_law_1079 rfl (lv_at hl 5 rfl) ?_
  refine lv_iload hx hb dL_law_1080 (lv_at hl 1 rfl) ?_
  refine lv_iconst (v := (1 : Int32)) hx hb dL_law_1082 (by decide) ?_
  refine lv_iadd hx hb dL_law_1083 ?_
  refine fb_tI (v := (1 : Int32)) (by decide) ?_
  refine va_sld (i := (1 : Int32)) hx hb hX hbl hbA I.2.2 (fb_inC (n := 1) (by decide) (by decide) (by omega)) dL_law_1084 ?_
  refine fb_tI (v := (xs 1)) rfl ?_
  refine fb_tI (v := (nI zj)) hz ?_
  refine lv_aload_n hx hb dL_law_1085 rfl (lv_at hl 5 rfl) ?_
  refine lv_iload hx hb dL_law_1086 (lv_at hl 1 rfl) ?_
  refine lv_iconst (v := (2 : Int32)) hx hb dL_law_1088 (by decide) ?_
  refine lv_iadd hx hb dL_law_1089 ?_
  refine fb_tI (v := (2 : Int32)) (by decide) ?_
  refine va_sld (i := (2 : Int32)) hx hb hX hbl hbA I.2.2 (fb_inC (n := 2) (by decide) (by decide) (by omega)) dL_law_1090 ?_
  refine fb_tI (v := (xs 2)) rfl ?_
  refine fb_gI (cs := [fb_o12 za zr fr_e0]) (rs := [fb_jw cJ zx 1 zg]) (fun (t : Unit) => [fb_jw cJ zx 1 zg, fb_o12 za zr (upd (upd fr_e0 19 (0 : Int32)) 19 (1 : Int32))]) (fun (t : Unit) => [fb_o12 za zr (upd (upd fr_e0 19 (0 : Int32)) 19 (1 : Int32))]) X I [1, 0] 2 rfl (by decide +kernel) rfl rfl [1, 0] 2 (fun _ => rfl) (by decide +kernel) (fun _ => rfl) (fun _ => rfl) (fun I => fb_rV (As := [.int (nI zj), .int (xs 2)]) (rest := []) X hl (fb_goodV fw_2607 fw_2608 fw_2609 fw_204 fw_2610) (c_setBreak_bad l D cI cJ za zr zj (xs 2) _ (by omega) q1) rfl rfl rfl (by decide +kernel : fb_hd yX12_setBreak 2) ⟨Nat.le_of_ble_eq_true rfl, Nat.le_of_ble_eq_true rfl⟩ rfl rfl rfl rfl rfl (Nat.le_of_ble_eq_true rfl) ⟨Nat.le_of_ble_eq_true rfl, Nat.le_of_ble_eq_true rfl⟩ dL_law_1091 I) ?_
  intro r4 w3 H locs e0 I
  subst e0
  have I : fb_In D (fun q : Nat => s.heap.size ≤ q) s.heap (([fb_jw cJ zx 1 zg, fb_o12 za zr (upd (upd fr_e0 19 (0 : Int32)) 19 (1 : Int32))] : List va_W).flatten) H locs := I
  refine lv_istore (lv' := [(6, .int (0 : Int32)), (5, .int (1 : Int32)), (4, .int (0 : Int32)), (3, .ref zx), (2, .ref za), (1, .ref zb), (0, .ref b)]) hx hb dL_law_1094 hl (by decide) rfl (fun ls hl => ?_)
  refine lv_aload_n hx hb dL_law_1096 rfl (lv_at hl 4 rfl) ?_
  refine fb_gO (cs := [fb_o12 za zr (upd (upd fr_e0 19 (0 : Int32)) 19 (1 : Int32))]) (rs := [fb_jw cJ zx 1 zg]) X I [1, 0] 2 rfl (by decide +kernel) rfl rfl (fun I => fb_rV (As := []) (rest := []) X hl (fb_goodV fw_2119 fw_2120 fw_2121 fw_204 fw_2122) (c_thrown l D cI cJ za zr (upd (upd fr_e0 19 (0 : Int32)) 19 (1 : Int32)) _ ) rfl rfl rfl (by decide +kernel : fb_hd yX12_thrown 0) ⟨Nat.le_of_ble_eq_true rfl, Nat.le_of_ble_eq_true rfl⟩ rfl rfl rfl rfl rfl (Nat.le_of_ble_eq_true rfl) ⟨Nat.le_of_ble_eq_true rfl, Nat.le_of_ble_eq_true rfl⟩ dL_law_1097 I) ?_
  refine fb_tI (v := (1 : Int32)) rfl ?_
  refine lv_iload hx hb dL_law_1100 (lv_at hl 1 rfl) ?_
  refine lv_icmp_eq (tgt := 1107) hx hb dL_law_1102 (by decide) (fun _ => ?_) (fun c5 => absurd rfl c5)
  refine lv_iload hx hb dL_law_1107 (lv_at hl 1 rfl) ?_
  refine lv_if_ne (tgt := 1124) hx hb dL_law_1109 (by decide) (fun _ => ?_) (fun c6 => absurd c6 (by decide))
  refine lv_goto (tgt := 2336) hx hb dL_law_1124 (by decide) ?_
  exact lw_end X hX hbl hbA (by omega) I (lv_sub hl [2, 6] rfl) (Nat.le_of_ble_eq_true rfl) (Nat.le_of_ble_eq_true rfl)

set_option maxHeartbeats 4000000 in
set_option maxRecDepth 100000 in
theorem lc_21_i {p : Program} {l : Launch} {e : Env} {s : State} {m : MethodId} {below : List Frame} {meth : Method} {c : Code} {H : Heap} {locs : List Loc} {ls : Array Slot} {D : va_G} {cI cJ : ClassId} {b L : Nat} {xs : Nat → Int32} {zb : Nat} {zt : Nat} {zn : Nat} {zv : Nat} {zs : Nat} {zp : Nat} {zq : Nat → Nat} {zu : Nat → Nat} {zh : Nat} {zst : Nat} {zre : Nat} {zb0 : Nat} {zb1 : Nat} {zb3 : Nat} {zb4 : Nat} {zb5 : Nat} {zx : Nat} {zg : Nat → Int64} {za : Nat} {zr : Nat → Nat} {zj : Nat} {zv9 : Nat} (hst : l.stackTraces = false) (X : fb_Bx p s m #[Value.ref b] meth c cL_law RL 9 (some .boolean) D (fb_ty D cI cJ) (fun q : Nat => s.heap.size ≤ q)) (hX : va_X b L xs s s.heap) (hbl : b < s.heap.size) (hbA : ¬ (fun q : Nat => s.heap.size ≤ q) b) (hL6 : L = 6) (hz : xs 1 = nI zj) (hw : xs 2 = nI zv9) (hj : zj < 4096) (hv : zv9 ≤ 1000) (I : fb_In D (fun q : Nat => s.heap.size ≤ q) s.heap (([fb_o11 zb zt zn zv zs zp (zq 0) (zu 0) zh zst zre, fb_o7 zst zb0 zb1 zb3 zb4 zb5 (fun _ => 0), fb_aw cI zb0 6 (fun _ => 0), fb_aw cI zb1 6 (fun _ => 0), fb_jw cJ zx 1 zg, fb_o12 za zr fr_e0, fb_aw cI (zr 11) 6 (fun _ => 0), fb_aw cI (zr 12) 6 (fun _ => 0)] : List va_W).flatten) H locs) (hl : lv_has ls 9 [(4, .int (0 : Int32)), (3, .ref zx), (2, .ref za), (1, .ref zb), (0, .ref b)]) : W p l e room_1 s m #[Value.ref b] below meth c H locs 209 179241 (lw_Z below #[Value.ref b] s) (F0 m 1059 ls []) := by
  obtain ⟨hx, hb, hr, hml, hown, hts, hlk, hA, hK, hF⟩ := id X
  refine lv_aload_n hx hb dL_law_1059 rfl (lv_at hl 3 rfl) ?_
  refine lv_aload_n hx hb dL_law_1060 rfl (lv_at hl 4 rfl) ?_
  refine lv_iload hx hb dL_law_1061 (lv_at hl 0 rfl) ?_
  refine lv_iconst (v := (1 : Int32)) hx hb dL_law_1063 (by decide) ?_
  refine lv_iadd hx hb dL_law_1064 ?_
  refine fb_tI (v := (1 : Int32)) (by decide) ?_
  refine va_sld (i := (1 : Int32)) hx hb hX hbl hbA I.2.2 (fb_inC (n := 1) (by decide) (by decide) (by omega)) dL_law_1065 ?_
  refine fb_tI (v := (xs 1)) rfl ?_
  refine fb_tI (v := (nI zj)) hz ?_
  refine lv_aload_n hx hb dL_law_1066 rfl (lv_at hl 4 rfl) ?_
  refine lv_iload hx hb dL_law_1067 (lv_at hl 0 rfl) ?_
  refine lv_iconst (v := (2 : Int32)) hx hb dL_law_1069 (by decide) ?_
  refine lv_iadd hx hb dL_law_1070 ?_
  refine fb_tI (v := (2 : Int32)) (by decide) ?_
  refine va_sld (i := (2 : Int32)) hx hb hX hbl hbA I.2.2 (fb_inC (n := 2) (by decide) (by decide) (by omega)) dL_law_1071 ?_
  refine fb_tI (v := (xs 2)) rfl ?_
  refine fb_tI (v := (nI zv9)) hw ?_
  refine lv_aload_n hx hb dL_law_1072 rfl (lv_at hl 1 rfl) ?_
  refine fb_gI (cs := [fb_o11 zb zt zn zv zs zp (zq 0) (zu 0) zh zst zre, fb_o7 zst zb0 zb1 zb3 zb4 zb5 (fun _ => 0), fb_aw cI zb0 6 (fun _ => 0), fb_aw cI zb1 6 (fun _ => 0), fb_jw cJ zx 1 zg]) (rs := [fb_o12 za zr fr_e0, fb_aw cI (zr 11) 6 (fun _ => 0), fb_aw cI (zr 12) 6 (fun _ => 0)]) (fun (t : Unit) => [fb_jw cJ zx 1 (vp_updL zg 0 (((1 : Int32)).toInt64)), fb_o12 za zr fr_e0, fb_aw cI (zr 11) 6 (fun _ => 0), fb_aw cI (zr 12) 6 (fun _ => 0)]) (fun (t : Unit) => [fb_jw cJ zx 1 (vp_updL zg 0 (((1 : Int32)).toInt64))]) X I [0, 1, 2, 3, 4, 5, 6, 7] 8 rfl (by decide +kernel) rfl rfl [0, 1, 2, 3] 4 (fun _ => rfl) (by decide +kernel) (fun _ => rfl) (fun _ => rfl) (fun I => fb_rSW (As := [.ref zb, .int (nI zj), .int (nI zv9), .ref zx]) (rest := []) X hl (fb_goodSW fw_1796 fw_1797 fw_190 fw_1798) (c_w_setBreak_in l D cI cJ zb zt zn zv zs zp zq zu zh zst zre zb0 zb1 zb3 zb4 zb5 zx zg zj zv9 _ hst (by omega) (by omega)) rfl rfl (by decide +kernel : fb_hd yL_setBreak 4) ⟨Nat.le_of_ble_eq_true rfl, Nat.le_of_ble_eq_true rfl⟩ rfl rfl (Nat.le_of_ble_eq_true rfl) ⟨Nat.le_of_ble_eq_true rfl, Nat.le_of_ble_eq_true rfl⟩ dL_law_1073 I) ?_
  intro r2 w1 H locs e0 I
  subst e0
  have I : fb_In D (fun q : Nat => s.heap.size ≤ q) s.heap (([fb_jw cJ zx 1 (vp_updL zg 0 (((1 : Int32)).toInt64)), fb_o12 za zr fr_e0, fb_aw cI (zr 11) 6 (fun _ => 0), fb_aw cI (zr 12) 6 (fun _ => 0)] : List va_W).flatten) H locs := I
  refine lv_istore (lv' := [(5, .int (0 : Int32)), (4, .int (0 : Int32)), (3, .ref zx), (2, .ref za), (1, .ref zb), (0, .ref b)]) hx hb dL_law_1076 hl (by decide) rfl (fun ls hl => ?_)
  refine lv_aload_n hx hb dL_law_1078 rfl (lv_at hl 3 rfl) ?_
  refine lv_aload_n hx hb dL_law_1079 rfl (lv_at hl 5 rfl) ?_
  refine lv_iload hx hb dL_law_1080 (lv_at hl 1 rfl) ?_
  refine lv_iconst (v := (1 : Int32)) hx hb dL_law_1082 (by decide) ?_
  refine lv_iadd hx hb dL_law_1083 ?_
  refine fb_tI (v := (1 : Int32)) (by decide) ?_
  refine va_sld (i := (1 : Int32)) hx hb hX hbl hbA I.2.2 (fb_inC (n := 1) (by decide) (by decide) (by omega)) dL_law_1084 ?_
  refine fb_tI (v := (xs 1)) rfl ?_
  refine fb_tI (v := (nI zj)) hz ?_
  refine lv_aload_n hx hb dL_law_1085 rfl (lv_at hl 5 rfl) ?_
  refine lv_iload hx hb dL_law_1086 (lv_at hl 1 rfl) ?_
  refine lv_iconst (v := (2 : Int32)) hx hb dL_law_1088 (by decide) ?_
  refine lv_iadd hx hb dL_law_1089 ?_
  refine fb_tI (v := (2 : Int32)) (by decide) ?_
  refine va_sld (i := (2 : Int32)) hx hb hX hbl hbA I.2.2 (fb_inC (n := 2) (by decide) (by decide) (by omega)) dL_law_1090 ?_
  refine fb_tI (v := (xs 2)) rfl ?_
  refine fb_tI (v := (nI zv9)) hw ?_
  refine fb_gI (cs := [fb_o12 za zr fr_e0, fb_aw cI (zr 11) 6 (fun _ => 0), fb_aw cI (zr 12) 6 (fun _ => 0)]) (rs := [fb_jw cJ zx 1 (vp_updL zg 0 (((1 : Int32)).toInt64))]) (fun (t : Unit) => [fb_jw cJ zx 1 (vp_updL zg 0 (((1 : Int32)).toInt64)), fb_o12 za zr (upd (upd fr_e0 19 (0 : Int32)) 13 (1 : Int32)), fb_aw cI (zr 11) 6 (upd (fun _ => 0) 0 (nI zj)), fb_aw cI (zr 12) 6 (upd (fun _ => 0) 0 (nI zv9))]) (fun (t : Unit) => [fb_o12 za zr (upd (upd fr_e0 19 (0 : Int32)) 13 (1 : Int32)), fb_aw cI (zr 11) 6 (upd (fun _ => 0) 0 (nI zj)), fb_aw cI (zr 12) 6 (upd (fun _ => 0) 0 (nI zv9))]) X I [1, 2, 3, 0] 4 rfl (by decide +kernel) rfl rfl [1, 2, 3, 0] 4 (fun _ => rfl) (by decide +kernel) (fun _ => rfl) (fun _ => rfl) (fun I => fb_rV (As := [.int (nI zj), .int (nI zv9)]) (rest := []) X hl (fb_goodV fw_2607 fw_2608 fw_2609 fw_204 fw_2610) (c_setBreak_in l D cI cJ za zr zj (nI zv9) (fun _ => 0) (fun _ => 0) _ (by omega) (fr_inN (z := zv9) (a := 0) (b := 1000) (by omega) (by omega) (by omega))) rfl rfl rfl (by decide +kernel : fb_hd yX12_setBreak 2) ⟨Nat.le_of_ble_eq_true rfl, Nat.le_of_ble_eq_true rfl⟩ rfl rfl rfl rfl rfl (Nat.le_of_ble_eq_true rfl) ⟨Nat.le_of_ble_eq_true rfl, Nat.le_of_ble_eq_true rfl⟩ dL_law_1091 I) ?_
  intro r4 w3 H locs e0 I
  subst e0
  have I : fb_In D (fun q : Nat => s.heap.size ≤ q) s.heap (([fb_jw cJ zx 1 (vp_updL zg 0 (((1 : Int32)).toInt64)), fb_o12 za zr (upd (upd fr_e0 19 (0 : Int32)) 13 (1 : Int32)), fb_aw cI (zr 11) 6 (upd (fun _ => 0) 0 (nI zj)), fb_aw cI (zr 12) 6 (upd (fun _ => 0) 0 (nI zv9))] : List va_W).flatten) H locs := I
  refine lv_istore (lv' := [(6, .int (1 : Int32)), (5, .int (0 : Int32)), (4, .int (0 : Int32)), (3, .ref zx), (2, .ref za), (1, .ref zb), (0, .ref b)]) hx hb dL_law_1094 hl (by decide) rfl (fun ls hl => ?_)
  refine lv_aload_n hx hb dL_law_1096 rfl (lv_at hl 4 rfl) ?_
  refine fb_gO (cs := [fb_o12 za zr (upd (upd fr_e0 19 (0 : Int32)) 13 (1 : Int32))]) (rs := [fb_jw cJ zx 1 (vp_updL zg 0 (((1 : Int32)).toInt64)), fb_aw cI (zr 11) 6 (upd (fun _ => 0) 0 (nI zj)), fb_aw cI (zr 12) 6 (upd (fun _ => 0) 0 (nI zv9))]) X I [1, 0, 2, 3] 4 rfl (by decide +kernel) rfl rfl (fun I => fb_rV (As := []) (rest := []) X hl (fb_goodV fw_2119 fw_2120 fw_2121 fw_204 fw_2122) (c_thrown l D cI cJ za zr (upd (upd fr_e0 19 (0 : Int32)) 13 (1 : Int32)) _ ) rfl rfl rfl (by decide +kernel : fb_hd yX12_thrown 0) ⟨Nat.le_of_ble_eq_true rfl, Nat.le_of_ble_eq_true rfl⟩ rfl rfl rfl rfl rfl (Nat.le_of_ble_eq_true rfl) ⟨Nat.le_of_ble_eq_true rfl, Nat.le_of_ble_eq_true rfl⟩ dL_law_1097 I) ?_
  refine fb_tI (v := (0 : Int32)) rfl ?_
  refine lv_iload hx hb dL_law_1100 (lv_at hl 1 rfl) ?_
  refine lv_icmp_eq (tgt := 1107) hx hb dL_law_1102 (by decide) (fun _ => ?_) (fun c5 => absurd rfl c5)
  refine lv_iload hx hb dL_law_1107 (lv_at hl 1 rfl) ?_
  refine lv_if_ne (tgt := 1124) hx hb dL_law_1109 (by decide) (fun c6 => absurd (by decide) c6) (fun _ => ?_)
  refine lv_aload_n hx hb dL_law_1112 rfl (lv_at hl 3 rfl) ?_
  refine lv_iconst (v := (0 : Int32)) hx hb dL_law_1113 (by decide) ?_
  refine va_lald (i := (0 : Int32)) hx hb hK.1 I.1 0 1 rfl rfl (fb_inC (n := 0) (by decide) (by decide) (Nat.le_of_ble_eq_true rfl)) dL_law_1114 ?_
  refine fb_tL (v := (((1 : Int32)).toInt64)) rfl ?_
  refine lv_iload hx hb dL_law_1115 (lv_at hl 0 rfl) ?_
  refine lv_i2l (v := (((1 : Int32)).toInt64)) hx hb dL_law_1117 rfl ?_
  refine W.lcmp hx hb dL_law_1118 ?_
  refine fb_tI (v := (0 : Int32)) (lw_cmp0 _) ?_
  refine lv_if_eq (tgt := 1124) hx hb dL_law_1119 (by decide) (fun _ => ?_) (fun c7 => absurd (by decide) c7)
  refine lv_goto (tgt := 2336) hx hb dL_law_1124 (by decide) ?_
  exact lw_end X hX hbl hbA (by omega) I (lv_sub hl [2, 6] rfl) (Nat.le_of_ble_eq_true rfl) (Nat.le_of_ble_eq_true rfl)

set_option maxHeartbeats 4000000 in
set_option maxRecDepth 100000 in
theorem lc_23_o00 {p : Program} {l : Launch} {e : Env} {s : State} {m : MethodId} {below : List Frame} {meth : Method} {c : Code} {H : Heap} {locs : List Loc} {ls : Array Slot} {D : va_G} {cI cJ : ClassId} {b L : Nat} {xs : Nat → Int32} {zb : Nat} {zt : Nat} {zn : Nat} {zv : Nat} {zs : Nat} {zp : Nat} {zq : Nat → Nat} {zu : Nat → Nat} {zh : Nat} {zst : Nat} {zre : Nat} {zx : Nat} {zg : Nat → Int64} {za : Nat} {zr : Nat → Nat} (hst : l.stackTraces = false) (X : fb_Bx p s m #[Value.ref b] meth c cL_law RL 9 (some .boolean) D (fb_ty D cI cJ) (fun q : Nat => s.heap.size ≤ q)) (hX : va_X b L xs s s.heap) (hbl : b < s.heap.size) (hbA : ¬ (fun q : Nat => s.heap.size ≤ q) b) (hL6 : L = 6) (gA : f_X11_isNoAddress (xs 1) = (1 : Int32)) (q1 : f_X12_isIn (xs 1) (0 : Int32) (4095 : Int32) = (0 : Int32)) (z3 : xs 3 = 0) (z4 : xs 4 = 0) (I : fb_In D (fun q : Nat => s.heap.size ≤ q) s.heap (([fb_o11 zb zt zn zv zs zp (zq 0) (zu 0) zh zst zre, fb_jw cJ zx 1 zg, fb_o12 za zr fr_e0] : List va_W).flatten) H locs) (hl : lv_has ls 9 [(4, .int (0 : Int32)), (3, .ref zx), (2, .ref za), (1, .ref zb), (0, .ref b)]) : W p l e room_1 s m #[Value.ref b] below meth c H locs 209 179241 (lw_Z below #[Value.ref b] s) (F0 m 1152 ls []) := by
  obtain ⟨hx, hb, hr, hml, hown, hts, hlk, hA, hK, hF⟩ := id X
  refine lv_aload_n hx hb dL_law_1152 rfl (lv_at hl 3 rfl) ?_
  refine lv_aload_n hx hb dL_law_1153 rfl (lv_at hl 4 rfl) ?_
  refine lv_iload hx hb dL_law_1154 (lv_at hl 0 rfl) ?_
  refine lv_iconst (v := (1 : Int32)) hx hb dL_law_1156 (by decide) ?_
  refine lv_iadd hx hb dL_law_1157 ?_
  refine fb_tI (v := (1 : Int32)) (by decide) ?_
  refine va_sld (i := (1 : Int32)) hx hb hX hbl hbA I.2.2 (fb_inC (n := 1) (by decide) (by decide) (by omega)) dL_law_1158 ?_
  refine fb_tI (v := (xs 1)) rfl ?_
  refine lv_aload_n hx hb dL_law_1159 rfl (lv_at hl 4 rfl) ?_
  refine lv_iload hx hb dL_law_1160 (lv_at hl 0 rfl) ?_
  refine lv_iconst (v := (2 : Int32)) hx hb dL_law_1162 (by decide) ?_
  refine lv_iadd hx hb dL_law_1163 ?_
  refine fb_tI (v := (2 : Int32)) (by decide) ?_
  refine va_sld (i := (2 : Int32)) hx hb hX hbl hbA I.2.2 (fb_inC (n := 2) (by decide) (by decide) (by omega)) dL_law_1164 ?_
  refine fb_tI (v := (xs 2)) rfl ?_
  refine lv_aload_n hx hb dL_law_1165 rfl (lv_at hl 4 rfl) ?_
  refine lv_iload hx hb dL_law_1166 (lv_at hl 0 rfl) ?_
  refine lv_iconst (v := (3 : Int32)) hx hb dL_law_1168 (by decide) ?_
  refine lv_iadd hx hb dL_law_1169 ?_
  refine fb_tI (v := (3 : Int32)) (by decide) ?_
  refine va_sld (i := (3 : Int32)) hx hb hX hbl hbA I.2.2 (fb_inC (n := 3) (by decide) (by decide) (by omega)) dL_law_1170 ?_
  refine fb_tI (v := (xs 3)) rfl ?_
  refine lv_if_eq (tgt := 1178) hx hb dL_law_1171 (by decide) (fun _ => ?_) (fun c1 => absurd z3 c1)
  refine lv_iconst (v := (0 : Int32)) hx hb dL_law_1178 (by decide) ?_
  refine lv_aload_n hx hb dL_law_1179 rfl (lv_at hl 4 rfl) ?_
  refine lv_iload hx hb dL_law_1180 (lv_at hl 0 rfl) ?_
  refine lv_iconst (v := (4 : Int32)) hx hb dL_law_1182 (by decide) ?_
  refine lv_iadd hx hb dL_law_1183 ?_
  refine fb_tI (v := (4 : Int32)) (by decide) ?_
  refine va_sld (i := (4 : Int32)) hx hb hX hbl hbA I.2.2 (fb_inC (n := 4) (by decide) (by decide) (by omega)) dL_law_1184 ?_
  refine fb_tI (v := (xs 4)) rfl ?_
  refine lv_if_eq (tgt := 1192) hx hb dL_law_1185 (by decide) (fun _ => ?_) (fun c2 => absurd z4 c2)
  refine lv_iconst (v := (0 : Int32)) hx hb dL_law_1192 (by decide) ?_
  refine lv_aload_n hx hb dL_law_1193 rfl (lv_at hl 1 rfl) ?_
  refine fb_gI (cs := [fb_o11 zb zt zn zv zs zp (zq 0) (zu 0) zh zst zre, fb_jw cJ zx 1 zg]) (rs := [fb_o12 za zr fr_e0]) (fun (t : Unit) => [fb_jw cJ zx 1 zg, fb_o12 za zr fr_e0]) (fun (t : Unit) => [fb_jw cJ zx 1 zg]) X I [0, 1, 2] 3 rfl (by decide +kernel) rfl rfl [0, 1] 2 (fun _ => rfl) (by decide +kernel) (fun _ => rfl) (fun _ => rfl) (fun I => fb_rSW (As := [.ref zb, .int (xs 1), .int (xs 2), .int (0 : Int32), .int (0 : Int32), .ref zx]) (rest := []) X hl (fb_goodSW fw_1810 fw_1811 fw_190 fw_1812) (c_w_setWatch_o l D cI cJ zb zt zn zv zs zp zq zu zh zst zre zx zg (xs 1) (xs 2) false false _ hst gA) rfl rfl (by decide +kernel : fb_hd yL_setWatch 6) ⟨Nat.le_of_ble_eq_true rfl, Nat.le_of_ble_eq_true rfl⟩ rfl rfl (Nat.le_of_ble_eq_true rfl) ⟨Nat.le_of_ble_eq_true rfl, Nat.le_of_ble_eq_true rfl⟩ dL_law_1194 I) ?_
  intro r4 w3 H locs e0 I
  subst e0
  have I : fb_In D (fun q : Nat => s.heap.size ≤ q) s.heap (([fb_jw cJ zx 1 zg, fb_o12 za zr fr_e0] : List va_W).flatten) H locs := I
  refine lv_istore (lv' := [(5, .int (1 : Int32)), (4, .int (0 : Int32)), (3, .ref zx), (2, .ref za), (1, .ref zb), (0, .ref b)]) hx hb dL_law_1197 hl (by decide) rfl (fun ls hl => ?_)
  refine lv_aload_n hx hb dL_law_1199 rfl (lv_at hl 3 rfl) ?_
  refine lv_aload_n hx hb dL_law_1200 rfl (lv_at hl 5 rfl) ?_
  refine lv_iload hx hb dL_law_1201 (lv_at hl 1 rfl) ?_
  refine lv_iconst (v := (1 : Int32)) hx hb dL_law_1203 (by decide) ?_
  refine lv_iadd hx hb dL_law_1204 ?_
  refine fb_tI (v := (1 : Int32)) (by decide) ?_
  refine va_sld (i := (1 : Int32)) hx hb hX hbl hbA I.2.2 (fb_inC (n := 1) (by decide) (by decide) (by omega)) dL_law_1205 ?_
  refine fb_tI (v := (xs 1)) rfl ?_
  refine lv_aload_n hx hb dL_law_1206 rfl (lv_at hl 5 rfl) ?_
  refine lv_iload hx hb dL_law_1207 (lv_at hl 1 rfl) ?_
  refine lv_iconst (v := (2 : Int32)) hx hb dL_law_1209 (by decide) ?_
  refine lv_iadd hx hb dL_law_1210 ?_
  refine fb_tI (v := (2 : Int32)) (by decide) ?_
  refine va_sld (i := (2 : Int32)) hx hb hX hbl hbA I.2.2 (fb_inC (n := 2) (by decide) (by decide) (by omega)) dL_law_1211 ?_
  refine fb_tI (v := (xs 2)) rfl ?_
  refine lv_aload_n hx hb dL_law_1212 rfl (lv_at hl 5 rfl) ?_
  refine lv_iload hx hb dL_law_1213 (lv_at hl 1 rfl) ?_
  refine lv_iconst (v := (3 : Int32)) hx hb dL_law_1215 (by decide) ?_
  refine lv_iadd hx hb dL_law_1216 ?_
  refine fb_tI (v := (3 : Int32)) (by decide) ?_
  refine va_sld (i := (3 : Int32)) hx hb hX hbl hbA I.2.2 (fb_inC (n := 3) (by decide) (by decide) (by omega)) dL_law_1217 ?_
  refine fb_tI (v := (xs 3)) rfl ?_
  refine lv_if_eq (tgt := 1225) hx hb dL_law_1218 (by decide) (fun _ => ?_) (fun c5 => absurd z3 c5)
  refine lv_iconst (v := (0 : Int32)) hx hb dL_law_1225 (by decide) ?_
  refine lv_aload_n hx hb dL_law_1226 rfl (lv_at hl 5 rfl) ?_
  refine lv_iload hx hb dL_law_1227 (lv_at hl 1 rfl) ?_
  refine lv_iconst (v := (4 : Int32)) hx hb dL_law_1229 (by decide) ?_
  refine lv_iadd hx hb dL_law_1230 ?_
  refine fb_tI (v := (4 : Int32)) (by decide) ?_
  refine va_sld (i := (4 : Int32)) hx hb hX hbl hbA I.2.2 (fb_inC (n := 4) (by decide) (by decide) (by omega)) dL_law_1231 ?_
  refine fb_tI (v := (xs 4)) rfl ?_
  refine lv_if_eq (tgt := 1239) hx hb dL_law_1232 (by decide) (fun _ => ?_) (fun c6 => absurd z4 c6)
  refine lv_iconst (v := (0 : Int32)) hx hb dL_law_1239 (by decide) ?_
  refine fb_gI (cs := [fb_o12 za zr fr_e0]) (rs := [fb_jw cJ zx 1 zg]) (fun (t : Unit) => [fb_jw cJ zx 1 zg, fb_o12 za zr (upd (upd fr_e0 19 (0 : Int32)) 19 (1 : Int32))]) (fun (t : Unit) => [fb_o12 za zr (upd (upd fr_e0 19 (0 : Int32)) 19 (1 : Int32))]) X I [1, 0] 2 rfl (by decide +kernel) rfl rfl [1, 0] 2 (fun _ => rfl) (by decide +kernel) (fun _ => rfl) (fun _ => rfl) (fun I => fb_rV (As := [.int (xs 1), .int (xs 2), .int (0 : Int32), .int (0 : Int32)]) (rest := []) X hl (fb_goodV fw_2615 fw_2616 fw_2617 fw_204 fw_2618) (c_setWatch_out l D cI cJ za zr (xs 1) (xs 2) false false _ q1) rfl rfl rfl (by decide +kernel : fb_hd yX12_setWatch 4) ⟨Nat.le_of_ble_eq_true rfl, Nat.le_of_ble_eq_true rfl⟩ rfl rfl rfl rfl rfl (Nat.le_of_ble_eq_true rfl) ⟨Nat.le_of_ble_eq_true rfl, Nat.le_of_ble_eq_true rfl⟩ dL_law_1240 I) ?_
  intro r8 w7 H locs e0 I
  subst e0
  have I : fb_In D (fun q : Nat => s.heap.size ≤ q) s.heap (([fb_jw cJ zx 1 zg, fb_o12 za zr (upd (upd fr_e0 19 (0 : Int32)) 19 (1 : Int32))] : List va_W).flatten) H locs := I
  refine lv_istore (lv' := [(6, .int (0 : Int32)), (5, .int (1 : Int32)), (4, .int (0 : Int32)), (3, .ref zx), (2, .ref za), (1, .ref zb), (0, .ref b)]) hx hb dL_law_1243 hl (by decide) rfl (fun ls hl => ?_)
  refine lv_aload_n hx hb dL_law_1245 rfl (lv_at hl 4 rfl) ?_
  refine fb_gO (cs := [fb_o12 za zr (upd (upd fr_e0 19 (0 : Int32)) 19 (1 : Int32))]) (rs := [fb_jw cJ zx 1 zg]) X I [1, 0] 2 rfl (by decide +kernel) rfl rfl (fun I => fb_rV (As := []) (rest := []) X hl (fb_goodV fw_2119 fw_2120 fw_2121 fw_204 fw_2122) (c_thrown l D cI cJ za zr (upd (upd fr_e0 19 (0 : Int32)) 19 (1 : Int32)) _ ) rfl rfl rfl (by decide +kernel : fb_hd yX12_thrown 0) ⟨Nat.le_of_ble_eq_true rfl, Nat.le_of_ble_eq_true rfl⟩ rfl rfl rfl rfl rfl (Nat.le_of_ble_eq_true rfl) ⟨Nat.le_of_ble_eq_true rfl, Nat.le_of_ble_eq_true rfl⟩ dL_law_1246 I) ?_
  refine fb_tI (v := (1 : Int32)) rfl ?_
  refine lv_iload hx hb dL_law_1249 (lv_at hl 1 rfl) ?_
  refine lv_icmp_eq (tgt := 1256) hx hb dL_law_1251 (by decide) (fun _ => ?_) (fun c9 => absurd rfl c9)
  refine lv_iload hx hb dL_law_1256 (lv_at hl 1 rfl) ?_
  refine lv_if_ne (tgt := 1273) hx hb dL_law_1258 (by decide) (fun _ => ?_) (fun c10 => absurd c10 (by decide))
  refine lv_goto (tgt := 2336) hx hb dL_law_1273 (by decide) ?_
  exact lw_end X hX hbl hbA (by omega) I (lv_sub hl [2, 6] rfl) (Nat.le_of_ble_eq_true rfl) (Nat.le_of_ble_eq_true rfl)

set_option maxHeartbeats 4000000 in
set_option maxRecDepth 100000 in
theorem lc_23_p00 {p : Program} {l : Launch} {e : Env} {s : State} {m : MethodId} {below : List Frame} {meth : Method} {c : Code} {H : Heap} {locs : List Loc} {ls : Array Slot} {D : va_G} {cI cJ : ClassId} {b L : Nat} {xs : Nat → Int32} {zb : Nat} {zt : Nat} {zn : Nat} {zv : Nat} {zs : Nat} {zp : Nat} {zq : Nat → Nat} {zu : Nat → Nat} {zh : Nat} {zst : Nat} {zre : Nat} {zx : Nat} {zg : Nat → Int64} {za : Nat} {zr : Nat → Nat} {zj : Nat} (hst : l.stackTraces = false) (X : fb_Bx p s m #[Value.ref b] meth c cL_law RL 9 (some .boolean) D (fb_ty D cI cJ) (fun q : Nat => s.heap.size ≤ q)) (hX : va_X b L xs s s.heap) (hbl : b < s.heap.size) (hbA : ¬ (fun q : Nat => s.heap.size ≤ q) b) (hL6 : L = 6) (hz : xs 1 = nI zj) (hj : zj < 4096) (gA0 : f_X11_isNoAddress (nI zj) = (0 : Int32)) (gA : f_X11_isNoAddress (xs 2) = (1 : Int32)) (q1 : f_X12_isIn (xs 2) (nI zj) (4095 : Int32) = (0 : Int32)) (z3 : xs 3 = 0) (z4 : xs 4 = 0) (I : fb_In D (fun q : Nat => s.heap.size ≤ q) s.heap (([fb_o11 zb zt zn zv zs zp (zq 0) (zu 0) zh zst zre, fb_jw cJ zx 1 zg, fb_o12 za zr fr_e0] : List va_W).flatten) H locs) (hl : lv_has ls 9 [(4, .int (0 : Int32)), (3, .ref zx), (2, .ref za), (1, .ref zb), (0, .ref b)]) : W p l e room_1 s m #[Value.ref b] below meth c H locs 209 179241 (lw_Z below #[Value.ref b] s) (F0 m 1152 ls []) := by
  obtain ⟨hx, hb, hr, hml, hown, hts, hlk, hA, hK, hF⟩ := id X
  refine lv_aload_n hx hb dL_law_1152 rfl (lv_at hl 3 rfl) ?_
  refine lv_aload_n hx hb dL_law_1153 rfl (lv_at hl 4 rfl) ?_
  refine lv_iload hx hb dL_law_1154 (lv_at hl 0 rfl) ?_
  refine lv_iconst (v := (1 : Int32)) hx hb dL_law_1156 (by decide) ?_
  refine lv_iadd hx hb dL_law_1157 ?_
  refine fb_tI (v := (1 : Int32)) (by decide) ?_
  refine va_sld (i := (1 : Int32)) hx hb hX hbl hbA I.2.2 (fb_inC (n := 1) (by decide) (by decide) (by omega)) dL_law_1158 ?_
  refine fb_tI (v := (xs 1)) rfl ?_
  refine fb_tI (v := (nI zj)) hz ?_
  refine lv_aload_n hx hb dL_law_1159 rfl (lv_at hl 4 rfl) ?_
  refine lv_iload hx hb dL_law_1160 (lv_at hl 0 rfl) ?_
  refine lv_iconst (v := (2 : Int32)) hx hb dL_law_1162 (by decide) ?_
  refine lv_iadd hx hb dL_law_1163 ?_
  refine fb_tI (v := (2 : Int32)) (by decide) ?_
  refine va_sld (i := (2 : Int32)) hx hb hX hbl hbA I.2.2 (fb_inC (n := 2) (by decide) (by decide) (by omega)) dL_law_1164 ?_
  refine fb_tI (v := (xs 2)) rfl ?_
  refine lv_aload_n hx hb dL_law_1165 rfl (lv_at hl 4 rfl) ?_
  refine lv_iload hx hb dL_law_1166 (lv_at hl 0 rfl) ?_
  refine lv_iconst (v := (3 : Int32)) hx hb dL_law_1168 (by decide) ?_
  refine lv_iadd hx hb dL_law_1169 ?_
  refine fb_tI (v := (3 : Int32)) (by decide) ?_
  refine va_sld (i := (3 : Int32)) hx hb hX hbl hbA I.2.2 (fb_inC (n := 3) (by decide) (by decide) (by omega)) dL_law_1170 ?_
  refine fb_tI (v := (xs 3)) rfl ?_
  refine lv_if_eq (tgt := 1178) hx hb dL_law_1171 (by decide) (fun _ => ?_) (fun c1 => absurd z3 c1)
  refine lv_iconst (v := (0 : Int32)) hx hb dL_law_1178 (by decide) ?_
  refine lv_aload_n hx hb dL_law_1179 rfl (lv_at hl 4 rfl) ?_
  refine lv_iload hx hb dL_law_1180 (lv_at hl 0 rfl) ?_
  refine lv_iconst (v := (4 : Int32)) hx hb dL_law_1182 (by decide) ?_
  refine lv_iadd hx hb dL_law_1183 ?_
  refine fb_tI (v := (4 : Int32)) (by decide) ?_
  refine va_sld (i := (4 : Int32)) hx hb hX hbl hbA I.2.2 (fb_inC (n := 4) (by decide) (by decide) (by omega)) dL_law_1184 ?_
  refine fb_tI (v := (xs 4)) rfl ?_
  refine lv_if_eq (tgt := 1192) hx hb dL_law_1185 (by decide) (fun _ => ?_) (fun c2 => absurd z4 c2)
  refine lv_iconst (v := (0 : Int32)) hx hb dL_law_1192 (by decide) ?_
  refine lv_aload_n hx hb dL_law_1193 rfl (lv_at hl 1 rfl) ?_
  refine fb_gI (cs := [fb_o11 zb zt zn zv zs zp (zq 0) (zu 0) zh zst zre, fb_jw cJ zx 1 zg]) (rs := [fb_o12 za zr fr_e0]) (fun (t : Unit) => [fb_jw cJ zx 1 zg, fb_o12 za zr fr_e0]) (fun (t : Unit) => [fb_jw cJ zx 1 zg]) X I [0, 1, 2] 3 rfl (by decide +kernel) rfl rfl [0, 1] 2 (fun _ => rfl) (by decide +kernel) (fun _ => rfl) (fun _ => rfl) (fun I => fb_rSW (As := [.ref zb, .int (nI zj), .int (xs 2), .int (0 : Int32), .int (0 : Int32), .ref zx]) (rest := []) X hl (fb_goodSW fw_1810 fw_1811 fw_190 fw_1812) (c_w_setWatch_p l D cI cJ zb zt zn zv zs zp zq zu zh zst zre zx zg (nI zj) (xs 2) false false _ hst gA0 gA) rfl rfl (by decide +kernel : fb_hd yL_setWatch 6) ⟨Nat.le_of_ble_eq_true rfl, Nat.le_of_ble_eq_true rfl⟩ rfl rfl (Nat.le_of_ble_eq_true rfl) ⟨Nat.le_of_ble_eq_true rfl, Nat.le_of_ble_eq_true rfl⟩ dL_law_1194 I) ?_
  intro r4 w3 H locs e0 I
  subst e0
  have I : fb_In D (fun q : Nat => s.heap.size ≤ q) s.heap (([fb_jw cJ zx 1 zg, fb_o12 za zr fr_e0] : List va_W).flatten) H locs := I
  refine lv_istore (lv' := [(5, .int (1 : Int32)), (4, .int (0 : Int32)), (3, .ref zx), (2, .ref za), (1, .ref zb), (0, .ref b)]) hx hb dL_law_1197 hl (by decide) rfl (fun ls hl => ?_)
  refine lv_aload_n hx hb dL_law_1199 rfl (lv_at hl 3 rfl) ?_
  refine lv_aload_n hx hb dL_law_1200 rfl (lv_at hl 5 rfl) ?_
  refine lv_iload hx hb dL_law_1201 (lv_at hl 1 rfl) ?_
  refine lv_iconst (v := (1 : Int32)) hx hb dL_law_1203 (by decide) ?_
  refine lv_iadd hx hb dL_law_1204 ?_
  refine fb_tI (v := (1 : Int32)) (by decide) ?_
  refine va_sld (i := (1 : Int32)) hx hb hX hbl hbA I.2.2 (fb_inC (n := 1) (by decide) (by decide) (by omega)) dL_law_1205 ?_
  refine fb_tI (v := (xs 1)) rfl ?_
  refine fb_tI (v := (nI zj)) hz ?_
  refine lv_aload_n hx hb dL_law_1206 rfl (lv_at hl 5 rfl) ?_
  refine lv_iload hx hb dL_law_1207 (lv_at hl 1 rfl) ?_
  refine lv_iconst (v := (2 : Int32)) hx hb dL_law_1209 (by decide) ?_
  refine lv_iadd hx hb dL_law_1210 ?_
  refine fb_tI (v := (2 : Int32)) (by decide) ?_
  refine va_sld (i := (2 : Int32)) hx hb hX hbl hbA I.2.2 (fb_inC (n := 2) (by decide) (by decide) (by omega)) dL_law_1211 ?_
  refine fb_tI (v := (xs 2)) rfl ?_
  refine lv_aload_n hx hb dL_law_1212 rfl (lv_at hl 5 rfl) ?_
  refine lv_iload hx hb dL_law_1213 (lv_at hl 1 rfl) ?_
  refine lv_iconst (v := (3 : Int32)) hx hb dL_law_1215 (by decide) ?_
  refine lv_iadd hx hb dL_law_1216 ?_
  refine fb_tI (v := (3 : Int32)) (by decide) ?_
  refine va_sld (i := (3 : Int32)) hx hb hX hbl hbA I.2.2 (fb_inC (n := 3) (by decide) (by decide) (by omega)) dL_law_1217 ?_
  refine fb_tI (v := (xs 3)) rfl ?_
  refine lv_if_eq (tgt := 1225) hx hb dL_law_1218 (by decide) (fun _ => ?_) (fun c5 => absurd z3 c5)
  refine lv_iconst (v := (0 : Int32)) hx hb dL_law_1225 (by decide) ?_
  refine lv_aload_n hx hb dL_law_1226 rfl (lv_at hl 5 rfl) ?_
  refine lv_iload hx hb dL_law_1227 (lv_at hl 1 rfl) ?_
  refine lv_iconst (v := (4 : Int32)) hx hb dL_law_1229 (by decide) ?_
  refine lv_iadd hx hb dL_law_1230 ?_
  refine fb_tI (v := (4 : Int32)) (by decide) ?_
  refine va_sld (i := (4 : Int32)) hx hb hX hbl hbA I.2.2 (fb_inC (n := 4) (by decide) (by decide) (by omega)) dL_law_1231 ?_
  refine fb_tI (v := (xs 4)) rfl ?_
  refine lv_if_eq (tgt := 1239) hx hb dL_law_1232 (by decide) (fun _ => ?_) (fun c6 => absurd z4 c6)
  refine lv_iconst (v := (0 : Int32)) hx hb dL_law_1239 (by decide) ?_
  refine fb_gI (cs := [fb_o12 za zr fr_e0]) (rs := [fb_jw cJ zx 1 zg]) (fun (t : Unit) => [fb_jw cJ zx 1 zg, fb_o12 za zr (upd (upd fr_e0 19 (0 : Int32)) 19 (1 : Int32))]) (fun (t : Unit) => [fb_o12 za zr (upd (upd fr_e0 19 (0 : Int32)) 19 (1 : Int32))]) X I [1, 0] 2 rfl (by decide +kernel) rfl rfl [1, 0] 2 (fun _ => rfl) (by decide +kernel) (fun _ => rfl) (fun _ => rfl) (fun I => fb_rV (As := [.int (nI zj), .int (xs 2), .int (0 : Int32), .int (0 : Int32)]) (rest := []) X hl (fb_goodV fw_2615 fw_2616 fw_2617 fw_204 fw_2618) (c_setWatch_bad l D cI cJ za zr zj (xs 2) false false _ (by omega) q1) rfl rfl rfl (by decide +kernel : fb_hd yX12_setWatch 4) ⟨Nat.le_of_ble_eq_true rfl, Nat.le_of_ble_eq_true rfl⟩ rfl rfl rfl rfl rfl (Nat.le_of_ble_eq_true rfl) ⟨Nat.le_of_ble_eq_true rfl, Nat.le_of_ble_eq_true rfl⟩ dL_law_1240 I) ?_
  intro r8 w7 H locs e0 I
  subst e0
  have I : fb_In D (fun q : Nat => s.heap.size ≤ q) s.heap (([fb_jw cJ zx 1 zg, fb_o12 za zr (upd (upd fr_e0 19 (0 : Int32)) 19 (1 : Int32))] : List va_W).flatten) H locs := I
  refine lv_istore (lv' := [(6, .int (0 : Int32)), (5, .int (1 : Int32)), (4, .int (0 : Int32)), (3, .ref zx), (2, .ref za), (1, .ref zb), (0, .ref b)]) hx hb dL_law_1243 hl (by decide) rfl (fun ls hl => ?_)
  refine lv_aload_n hx hb dL_law_1245 rfl (lv_at hl 4 rfl) ?_
  refine fb_gO (cs := [fb_o12 za zr (upd (upd fr_e0 19 (0 : Int32)) 19 (1 : Int32))]) (rs := [fb_jw cJ zx 1 zg]) X I [1, 0] 2 rfl (by decide +kernel) rfl rfl (fun I => fb_rV (As := []) (rest := []) X hl (fb_goodV fw_2119 fw_2120 fw_2121 fw_204 fw_2122) (c_thrown l D cI cJ za zr (upd (upd fr_e0 19 (0 : Int32)) 19 (1 : Int32)) _ ) rfl rfl rfl (by decide +kernel : fb_hd yX12_thrown 0) ⟨Nat.le_of_ble_eq_true rfl, Nat.le_of_ble_eq_true rfl⟩ rfl rfl rfl rfl rfl (Nat.le_of_ble_eq_true rfl) ⟨Nat.le_of_ble_eq_true rfl, Nat.le_of_ble_eq_true rfl⟩ dL_law_1246 I) ?_
  refine fb_tI (v := (1 : Int32)) rfl ?_
  refine lv_iload hx hb dL_law_1249 (lv_at hl 1 rfl) ?_
  refine lv_icmp_eq (tgt := 1256) hx hb dL_law_1251 (by decide) (fun _ => ?_) (fun c9 => absurd rfl c9)
  refine lv_iload hx hb dL_law_1256 (lv_at hl 1 rfl) ?_
  refine lv_if_ne (tgt := 1273) hx hb dL_law_1258 (by decide) (fun _ => ?_) (fun c10 => absurd c10 (by decide))
  refine lv_goto (tgt := 2336) hx hb dL_law_1273 (by decide) ?_
  exact lw_end X hX hbl hbA (by omega) I (lv_sub hl [2, 6] rfl) (Nat.le_of_ble_eq_true rfl) (Nat.le_of_ble_eq_true rfl)

set_option maxHeartbeats 4000000 in
set_option maxRecDepth 100000 in
theorem lc_23_b00 {p : Program} {l : Launch} {e : Env} {s : State} {m : MethodId} {below : List Frame} {meth : Method} {c : Code} {H : Heap} {locs : List Loc} {ls : Array Slot} {D : va_G} {cI cJ : ClassId} {b L : Nat} {xs : Nat → Int32} {zb : Nat} {zt : Nat} {zn : Nat} {zv : Nat} {zs : Nat} {zp : Nat} {zq : Nat → Nat} {zu : Nat → Nat} {zh : Nat} {zst : Nat} {zre : Nat} {zx : Nat} {zg : Nat → Int64} {za : Nat} {zr : Nat → Nat} {zj : Nat} {zv9 : Nat} (hst : l.stackTraces = false) (X : fb_Bx p s m #[Value.ref b] meth c cL_law RL 9 (some .boolean) D (fb_ty D cI cJ) (fun q : Nat => s.heap.size ≤ q)) (hX : va_X b L xs s s.heap) (hbl : b < s.heap.size) (hbA : ¬ (fun q : Nat => s.heap.size ≤ q) b) (hL6 : L = 6) (hz : xs 1 = nI zj) (hw : xs 2 = nI zv9) (hj : zj < 4096) (gA0 : f_X11_isNoAddress (nI zj) = (0 : Int32)) (gA2 : f_X11_isNoAddress (nI zv9) = (0 : Int32)) (h1 : (nI zv9) < (nI zj)) (h2 : ¬ (nI zj) ≤ (nI zv9)) (q1 : f_X12_isIn (nI zv9) (nI zj) (4095 : Int32) = (0 : Int32)) (z3 : xs 3 = 0) (z4 : xs 4 = 0) (I : fb_In D (fun q : Nat => s.heap.size ≤ q) s.heap (([fb_o11 zb zt zn zv zs zp (zq 0) (zu 0) zh zst zre, fb_jw cJ zx 1 zg, fb_o12 za zr fr_e0] : List va_W).flatten) H locs) (hl : lv_has ls 9 [(4, .int (0 : Int32)), (3, .ref zx), (2, .ref za), (1, .ref zb), (0, .ref b)]) : W p l e room_1 s m #[Value.ref b] below meth c H locs 209 179241 (lw_Z below #[Value.ref b] s) (F0 m 1152 ls []) := by
  obtain ⟨hx, hb, hr, hml, hown, hts, hlk, hA, hK, hF⟩ := id X
  refine lv_aload_n hx hb dL_law_1152 rfl (lv_at hl 3 rfl) ?_
  refine lv_aload_n hx hb dL_law_1153 rfl (lv_at hl 4 rfl) ?_
  refine lv_iload hx hb dL_law_1154 (lv_at hl 0 rfl) ?_
  refine lv_iconst (v := (1 : Int32)) hx hb dL_law_1156 (by decide) ?_
  refine lv_iadd hx hb dL_law_1157 ?_
  refine fb_tI (v := (1 : Int32)) (by decide) ?_
  refine va_sld (i := (1 : Int32)) hx hb hX hbl hbA I.2.2 (fb_inC (n := 1) (by decide) (by decide) (by omega)) dL_law_1158 ?_
  refine fb_tI (v := (xs 1)) rfl ?_
  refine fb_tI (v := (nI zj)) hz ?_
  refine lv_aload_n hx hb dL_law_1159 rfl (lv_at hl 4 rfl) ?_
  refine lv_iload hx hb dL_law_1160 (lv_at hl 0 rfl) ?_
  refine lv_iconst (v := (2 : Int32)) hx hb dL_law_1162 (by decide) ?_
  refine lv_iadd hx hb dL_law_1163 ?_
  refine fb_tI (v := (2 : Int32)) (by decide) ?_
  refine va_sld (i := (2 : Int32)) hx hb hX hbl hbA I.2.2 (fb_inC (n := 2) (by decide) (by decide) (by omega)) dL_law_1164 ?_
  refine fb_tI (v := (xs 2)) rfl ?_
  refine fb_tI (v := (nI zv9)) hw ?_
  refine lv_aload_n hx hb dL_law_1165 rfl (lv_at hl 4 rfl) ?_
  refine lv_iload hx hb dL_law_1166 (lv_at hl 0 rfl) ?_
  refine lv_iconst (v := (3 : Int32)) hx hb dL_law_1168 (by decide) ?_
  refine lv_iadd hx hb dL_law_1169 ?_
  refine fb_tI (v := (3 : Int32)) (by decide) ?_
  refine va_sld (i := (3 : Int32)) hx hb hX hbl hbA I.2.2 (fb_inC (n := 3) (by decide) (by decide) (by omega)) dL_law_1170 ?_
  refine fb_tI (v := (xs 3)) rfl ?_
  refine lv_if_eq (tgt := 1178) hx hb dL_law_1171 (by decide) (fun _ => ?_) (fun c1 => absurd z3 c1)
  refine lv_iconst (v := (0 : Int32)) hx hb dL_law_1178 (by decide) ?_
  refine lv_aload_n hx hb dL_law_1179 rfl (lv_at hl 4 rfl) ?_
  refine lv_iload hx hb dL_law_1180 (lv_at hl 0 rfl) ?_
  refine lv_iconst (v := (4 : Int32)) hx hb dL_law_1182 (by decide) ?_
  refine lv_iadd hx hb dL_law_1183 ?_
  refine fb_tI (v := (4 : Int32)) (by decide) ?_
  refine va_sld (i := (4 : Int32)) hx hb hX hbl hbA I.2.2 (fb_inC (n := 4) (by decide) (by decide) (by omega)) dL_law_1184 ?_
  refine fb_tI (v := (xs 4)) rfl ?_
  refine lv_if_eq (tgt := 1192) hx hb dL_law_1185 (by decide) (fun _ => ?_) (fun c2 => absurd z4 c2)
  refine lv_iconst (v := (0 : Int32)) hx hb dL_law_1192 (by decide) ?_
  refine lv_aload_n hx hb dL_law_1193 rfl (lv_at hl 1 rfl) ?_
  refine fb_gI (cs := [fb_o11 zb zt zn zv zs zp (zq 0) (zu 0) zh zst zre, fb_jw cJ zx 1 zg]) (rs := [fb_o12 za zr fr_e0]) (fun (t : Unit) => [fb_jw cJ zx 1 zg, fb_o12 za zr fr_e0]) (fun (t : Unit) => [fb_jw cJ zx 1 zg]) X I [0, 1, 2] 3 rfl (by decide +kernel) rfl rfl [0, 1] 2 (fun _ => rfl) (by decide +kernel) (fun _ => rfl) (fun _ => rfl) (fun I => fb_rSW (As := [.ref zb, .int (nI zj), .int (nI zv9), .int (0 : Int32), .int (0 : Int32), .ref zx]) (rest := []) X hl (fb_goodSW fw_1810 fw_1811 fw_190 fw_1812) (c_w_setWatch_b l D cI cJ zb zt zn zv zs zp zq zu zh zst zre zx zg (nI zj) (nI zv9) false false _ hst gA0 gA2 h1 h2) rfl rfl (by decide +kernel : fb_hd yL_setWatch 6) ⟨Nat.le_of_ble_eq_true rfl, Nat.le_of_ble_eq_true rfl⟩ rfl rfl (Nat.le_of_ble_eq_true rfl) ⟨Nat.le_of_ble_eq_true rfl, Nat.le_of_ble_eq_true rfl⟩ dL_law_1194 I) ?_
  intro r4 w3 H locs e0 I
  subst e0
  have I : fb_In D (fun q : Nat => s.heap.size ≤ q) s.heap (([fb_jw cJ zx 1 zg, fb_o12 za zr fr_e0] : List va_W).flatten) H locs := I
  refine lv_istore (lv' := [(5, .int (1 : Int32)), (4, .int (0 : Int32)), (3, .ref zx), (2, .ref za), (1, .ref zb), (0, .ref b)]) hx hb dL_law_1197 hl (by decide) rfl (fun ls hl => ?_)
  refine lv_aload_n hx hb dL_law_1199 rfl (lv_at hl 3 rfl) ?_
  refine lv_aload_n hx hb dL_law_1200 rfl (lv_at hl 5 rfl) ?_
  refine lv_iload hx hb dL_law_1201 (lv_at hl 1 rfl) ?_
  refine lv_iconst (v := (1 : Int32)) hx hb dL_law_1203 (by decide) ?_
  refine lv_iadd hx hb dL_law_1204 ?_
  refine fb_tI (v := (1 : Int32)) (by decide) ?_
  refine va_sld (i := (1 : Int32)) hx hb hX hbl hbA I.2.2 (fb_inC (n := 1) (by decide) (by decide) (by omega)) dL_law_1205 ?_
  refine fb_tI (v := (xs 1)) rfl ?_
  refine fb_tI (v := (nI zj)) hz ?_
  refine lv_aload_n hx hb dL_law_1206 rfl (lv_at hl 5 rfl) ?_
  refine lv_iload hx hb dL_law_1207 (lv_at hl 1 rfl) ?_
  refine lv_iconst (v := (2 : Int32)) hx hb dL_law_1209 (by decide) ?_
  refine lv_iadd hx hb dL_law_1210 ?_
  refine fb_tI (v := (2 : Int32)) (by decide) ?_
  refine va_sld (i := (2 : Int32)) hx hb hX hbl hbA I.2.2 (fb_inC (n := 2) (by decide) (by decide) (by omega)) dL_law_1211 ?_
  refine fb_tI (v := (xs 2)) rfl ?_
  refine fb_tI (v := (nI zv9)) hw ?_
  refine lv_aload_n hx hb dL_law_1212 rfl (lv_at hl 5 rfl) ?_
  refine lv_iload hx hb dL_law_1213 (lv_at hl 1 rfl) ?_
  refine lv_iconst (v := (3 : Int32)) hx hb dL_law_1215 (by decide) ?_
  refine lv_iadd hx hb dL_law_1216 ?_
  refine fb_tI (v := (3 : Int32)) (by decide) ?_
  refine va_sld (i := (3 : Int32)) hx hb hX hbl hbA I.2.2 (fb_inC (n := 3) (by decide) (by decide) (by omega)) dL_law_1217 ?_
  refine fb_tI (v := (xs 3)) rfl ?_
  refine lv_if_eq (tgt := 1225) hx hb dL_law_1218 (by decide) (fun _ => ?_) (fun c5 => absurd z3 c5)
  refine lv_iconst (v := (0 : Int32)) hx hb dL_law_1225 (by decide) ?_
  refine lv_aload_n hx hb dL_law_1226 rfl (lv_at hl 5 rfl) ?_
  refine lv_iload hx hb dL_law_1227 (lv_at hl 1 rfl) ?_
  refine lv_iconst (v := (4 : Int32)) hx hb dL_law_1229 (by decide) ?_
  refine lv_iadd hx hb dL_law_1230 ?_
  refine fb_tI (v := (4 : Int32)) (by decide) ?_
  refine va_sld (i := (4 : Int32)) hx hb hX hbl hbA I.2.2 (fb_inC (n := 4) (by decide) (by decide) (by omega)) dL_law_1231 ?_
  refine fb_tI (v := (xs 4)) rfl ?_
  refine lv_if_eq (tgt := 1239) hx hb dL_law_1232 (by decide) (fun _ => ?_) (fun c6 => absurd z4 c6)
  refine lv_iconst (v := (0 : Int32)) hx hb dL_law_1239 (by decide) ?_
  refine fb_gI (cs := [fb_o12 za zr fr_e0]) (rs := [fb_jw cJ zx 1 zg]) (fun (t : Unit) => [fb_jw cJ zx 1 zg, fb_o12 za zr (upd (upd fr_e0 19 (0 : Int32)) 19 (1 : Int32))]) (fun (t : Unit) => [fb_o12 za zr (upd (upd fr_e0 19 (0 : Int32)) 19 (1 : Int32))]) X I [1, 0] 2 rfl (by decide +kernel) rfl rfl [1, 0] 2 (fun _ => rfl) (by decide +kernel) (fun _ => rfl) (fun _ => rfl) (fun I => fb_rV (As := [.int (nI zj), .int (nI zv9), .int (0 : Int32), .int (0 : Int32)]) (rest := []) X hl (fb_goodV fw_2615 fw_2616 fw_2617 fw_204 fw_2618) (c_setWatch_bad l D cI cJ za zr zj (nI zv9) false false _ (by omega) q1) rfl rfl rfl (by decide +kernel : fb_hd yX12_setWatch 4) ⟨Nat.le_of_ble_eq_true rfl, Nat.le_of_ble_eq_true rfl⟩ rfl rfl rfl rfl rfl (Nat.le_of_ble_eq_true rfl) ⟨Nat.le_of_ble_eq_true rfl, Nat.le_of_ble_eq_true rfl⟩ dL_law_1240 I) ?_
  intro r8 w7 H locs e0 I
  subst e0
  have I : fb_In D (fun q : Nat => s.heap.size ≤ q) s.heap (([fb_jw cJ zx 1 zg, fb_o12 za zr (upd (upd fr_e0 19 (0 : Int32)) 19 (1 : Int32))] : List va_W).flatten) H locs := I
  refine lv_istore (lv' := [(6, .int (0 : Int32)), (5, .int (1 : Int32)), (4, .int (0 : Int32)), (3, .ref zx), (2, .ref za), (1, .ref zb), (0, .ref b)]) hx hb dL_law_1243 hl (by decide) rfl (fun ls hl => ?_)
  refine lv_aload_n hx hb dL_law_1245 rfl (lv_at hl 4 rfl) ?_
  refine fb_gO (cs := [fb_o12 za zr (upd (upd fr_e0 19 (0 : Int32)) 19 (1 : Int32))]) (rs := [fb_jw cJ zx 1 zg]) X I [1, 0] 2 rfl (by decide +kernel) rfl rfl (fun I => fb_rV (As := []) (rest := []) X hl (fb_goodV fw_2119 fw_2120 fw_2121 fw_204 fw_2122) (c_thrown l D cI cJ za zr (upd (upd fr_e0 19 (0 : Int32)) 19 (1 : Int32)) _ ) rfl rfl rfl (by decide +kernel : fb_hd yX12_thrown 0) ⟨Nat.le_of_ble_eq_true rfl, Nat.le_of_ble_eq_true rfl⟩ rfl rfl rfl rfl rfl (Nat.le_of_ble_eq_true rfl) ⟨Nat.le_of_ble_eq_true rfl, Nat.le_of_ble_eq_true rfl⟩ dL_law_1246 I) ?_
  refine fb_tI (v := (1 : Int32)) rfl ?_
  refine lv_iload hx hb dL_law_1249 (lv_at hl 1 rfl) ?_
  refine lv_icmp_eq (tgt := 1256) hx hb dL_law_1251 (by decide) (fun _ => ?_) (fun c9 => absurd rfl c9)
  refine lv_iload hx hb dL_law_1256 (lv_at hl 1 rfl) ?_
  refine lv_if_ne (tgt := 1273) hx hb dL_law_1258 (by decide) (fun _ => ?_) (fun c10 => absurd c10 (by decide))
  refine lv_goto (tgt := 2336) hx hb dL_law_1273 (by decide) ?_
  exact lw_end X hX hbl hbA (by omega) I (lv_sub hl [2, 6] rfl) (Nat.le_of_ble_eq_true rfl) (Nat.le_of_ble_eq_true rfl)

set_option maxHeartbeats 4000000 in
set_option maxRecDepth 100000 in
theorem lc_23_i00 {p : Program} {l : Launch} {e : Env} {s : State} {m : MethodId} {below : List Frame} {meth : Method} {c : Code} {H : Heap} {locs : List Loc} {ls : Array Slot} {D : va_G} {cI cJ : ClassId} {b L : Nat} {xs : Nat → Int32} {zb : Nat} {zt : Nat} {zn : Nat} {zv : Nat} {zs : Nat} {zp : Nat} {zq : Nat → Nat} {zu : Nat → Nat} {zh : Nat} {zst : Nat} {zre : Nat} {zb0 : Nat} {zb1 : Nat} {zb3 : Nat} {zb4 : Nat} {zb5 : Nat} {zx : Nat} {zg : Nat → Int64} {za : Nat} {zr : Nat → Nat} {zj : Nat} {zv9 : Nat} (hst : l.stackTraces = false) (X : fb_Bx p s m #[Value.ref b] meth c cL_law RL 9 (some .boolean) D (fb_ty D cI cJ) (fun q : Nat => s.heap.size ≤ q)) (hX : va_X b L xs s s.heap) (hbl : b < s.heap.size) (hbA : ¬ (fun q : Nat => s.heap.size ≤ q) b) (hL6 : L = 6) (hz : xs 1 = nI zj) (hw : xs 2 = nI zv9) (hj : zj < 4096) (hv : zj ≤ zv9 ∧ zv9 < 4096) (q1 : f_X12_isIn (nI zv9) (nI zj) (4095 : Int32) = (1 : Int32)) (z3 : xs 3 = 0) (z4 : xs 4 = 0) (I : fb_In D (fun q : Nat => s.heap.size ≤ q) s.heap (([fb_o11 zb zt zn zv zs zp (zq 0) (zu 0) zh zst zre, fb_o7 zst zb0 zb1 zb3 zb4 zb5 (fun _ => 0), fb_aw cI zb3 4 (fun _ => 0), fb_aw cI zb4 4 (fun _ => 0), fb_aw cI zb5 4 (fun _ => 0), fb_jw cJ zx 1 zg, fb_o12 za zr fr_e0, fb_aw cI (zr 14) 4 (fun _ => 0), fb_aw cI (zr 15) 4 (fun _ => 0), fb_aw (D.1 20) (zr 16) 4 (fun _ => 0), fb_aw (D.1 20) (zr 17) 4 (fun _ => 0)] : List va_W).flatten) H locs) (hl : lv_has ls 9 [(4, .int (0 : Int32)), (3, .ref zx), (2, .ref za), (1, .ref zb), (0, .ref b)]) : W p l e room_1 s m #[Value.ref b] below meth c H locs 209 179241 (lw_Z below #[Value.ref b] s) (F0 m 1152 ls []) := by
  obtain ⟨hx, hb, hr, hml, hown, hts, hlk, hA, hK, hF⟩ := id X
  refine lv_aload_n hx hb dL_law_1152 rfl (lv_at hl 3 rfl) ?_
  refine lv_aload_n hx hb dL_law_1153 rfl (lv_at hl 4 rfl) ?_
  refine lv_iload hx hb dL_law_1154 (lv_at hl 0 rfl) ?_
  refine lv_iconst (v := (1 : Int32)) hx hb dL_law_1156 (by decide) ?_
  refine lv_iadd hx hb dL_law_1157 ?_
  refine fb_tI (v := (1 : Int32)) (by decide) ?_
  refine va_sld (i := (1 : Int32)) hx hb hX hbl hbA I.2.2 (fb_inC (n := 1) (by decide) (by decide) (by omega)) dL_law_1158 ?_
  refine fb_tI (v := (xs 1)) rfl ?_
  refine fb_tI (v := (nI zj)) hz ?_
  refine lv_aload_n hx hb dL_law_1159 rfl (lv_at hl 4 rfl) ?_
  refine lv_iload hx hb dL_law_1160 (lv_at hl 0 rfl) ?_
  refine lv_iconst (v := (2 : Int32)) hx hb dL_law_1162 (by decide) ?_
  refine lv_iadd hx hb dL_law_1163 ?_
  refine fb_tI (v := (2 : Int32)) (by decide) ?_
  refine va_sld (i := (2 : Int32)) hx hb hX hbl hbA I.2.2 (fb_inC (n := 2) (by decide) (by decide) (by omega)) dL_law_1164 ?_
  refine fb_tI (v := (xs 2)) rfl ?_
  refine fb_tI (v := (nI zv9)) hw ?_
  refine lv_aload_n hx hb dL_law_1165 rfl (lv_at hl 4 rfl) ?_
  refine lv_iload hx hb dL_law_1166 (lv_at hl 0 rfl) ?_
  refine lv_iconst (v := (3 : Int32)) hx hb dL_law_1168 (by decide) ?_
  refine lv_iadd hx hb dL_law_1169 ?_
  refine fb_tI (v := (3 : Int32)) (by decide) ?_
  refine va_sld (i := (3 : Int32)) hx hb hX hbl hbA I.2.2 (fb_inC (n := 3) (by decide) (by decide) (by omega)) dL_law_1170 ?_
  refine fb_tI (v := (xs 3)) rfl ?_
  refine lv_if_eq (tgt := 1178) hx hb dL_law_1171 (by decide) (fun _ => ?_) (fun c1 => absurd z3 c1)
  refine lv_iconst (v := (0 : Int32)) hx hb dL_law_1178 (by decide) ?_
  refine lv_aload_n hx hb dL_law_1179 rfl (lv_at hl 4 rfl) ?_
  refine lv_iload hx hb dL_law_1180 (lv_at hl 0 rfl) ?_
  refine lv_iconst (v := (4 : Int32)) hx hb dL_law_1182 (by decide) ?_
  refine lv_iadd hx hb dL_law_1183 ?_
  refine fb_tI (v := (4 : Int32)) (by decide) ?_
  refine va_sld (i := (4 : Int32)) hx hb hX hbl hbA I.2.2 (fb_inC (n := 4) (by decide) (by decide) (by omega)) dL_law_1184 ?_
  refine fb_tI (v := (xs 4)) rfl ?_
  refine lv_if_eq (tgt := 1192) hx hb dL_law_1185 (by decide) (fun _ => ?_) (fun c2 => absurd z4 c2)
  refine lv_iconst (v := (0 : Int32)) hx hb dL_law_1192 (by decide) ?_
  refine lv_aload_n hx hb dL_law_1193 rfl (lv_at hl 1 rfl) ?_
  refine fb_gI (cs := [fb_o11 zb zt zn zv zs zp (zq 0) (zu 0) zh zst zre, fb_o7 zst zb0 zb1 zb3 zb4 zb5 (fun _ => 0), fb_aw cI zb3 4 (fun _ => 0), fb_aw cI zb4 4 (fun _ => 0), fb_aw cI zb5 4 (fun _ => 0), fb_jw cJ zx 1 zg]) (rs := [fb_o12 za zr fr_e0, fb_aw cI (zr 14) 4 (fun _ => 0), fb_aw cI (zr 15) 4 (fun _ => 0), fb_aw (D.1 20) (zr 16) 4 (fun _ => 0), fb_aw (D.1 20) (zr 17) 4 (fun _ => 0)]) (fun (t : Unit) => [fb_jw cJ zx 1 (vp_updL zg 0 (((1 : Int32)).toInt64)), fb_o12 za zr fr_e0, fb_aw cI (zr 14) 4 (fun _ => 0), fb_aw cI (zr 15) 4 (fun _ => 0), fb_aw (D.1 20) (zr 16) 4 (fun _ => 0), fb_aw (D.1 20) (zr 17) 4 (fun _ => 0)]) (fun (t : Unit) => [fb_jw cJ zx 1 (vp_updL zg 0 (((1 : Int32)).toInt64))]) X I [0, 1, 2, 3, 4, 5, 6, 7, 8, 9, 10] 11 rfl (by decide +kernel) rfl rfl [0, 1, 2, 3, 4, 5] 6 (fun _ => rfl) (by decide +kernel) (fun _ => rfl) (fun _ => rfl) (fun I => fb_rSW (As := [.ref zb, .int (nI zj), .int (nI zv9), .int (0 : Int32), .int (0 : Int32), .ref zx]) (rest := []) X hl (fb_goodSW fw_1810 fw_1811 fw_190 fw_1812) (c_w_setWatch_in l D cI cJ zb zt zn zv zs zp zq zu zh zst zre zb0 zb1 zb3 zb4 zb5 zx zg zj zv9 false false _ hst (by omega) (by omega)) rfl rfl (by decide +kernel : fb_hd yL_setWatch 6) ⟨Nat.le_of_ble_eq_true rfl, Nat.le_of_ble_eq_true rfl⟩ rfl rfl (Nat.le_of_ble_eq_true rfl) ⟨Nat.le_of_ble_eq_true rfl, Nat.le_of_ble_eq_true rfl⟩ dL_law_1194 I) ?_
  intro r4 w3 H locs e0 I
  subst e0
  have I : fb_In D (fun q : Nat => s.heap.size ≤ q) s.heap (([fb_jw cJ zx 1 (vp_updL zg 0 (((1 : Int32)).toInt64)), fb_o12 za zr fr_e0, fb_aw cI (zr 14) 4 (fun _ => 0), fb_aw cI (zr 15) 4 (fun _ => 0), fb_aw (D.1 20) (zr 16) 4 (fun _ => 0), fb_aw (D.1 20) (zr 17) 4 (fun _ => 0)] : List va_W).flatten) H locs := I
  refine lv_istore (lv' := [(5, .int (0 : Int32)), (4, .int (0 : Int32)), (3, .ref zx), (2, .ref za), (1, .ref zb), (0, .ref b)]) hx hb dL_law_1197 hl (by decide) rfl (fun ls hl => ?_)
  refine lv_aload_n hx hb dL_law_1199 rfl (lv_at hl 3 rfl) ?_
  refine lv_aload_n hx hb dL_law_1200 rfl (lv_at hl 5 rfl) ?_
  refine lv_iload hx hb dL_law_1201 (lv_at hl 1 rfl) ?_
  refine lv_iconst (v := (1 : Int32)) hx hb dL_law_1203 (by decide) ?_
  refine lv_iadd hx hb dL_law_1204 ?_
  refine fb_tI (v := (1 : Int32)) (by decide) ?_
  refine va_sld (i := (1 : Int32)) hx hb hX hbl hbA I.2.2 (fb_inC (n := 1) (by decide) (by decide) (by omega)) dL_law_1205 ?_
  refine fb_tI (v := (xs 1)) rfl ?_
  refine fb_tI (v := (nI zj)) hz ?_
  refine lv_aload_n hx hb dL_law_1206 rfl (lv_at hl 5 rfl) ?_
  refine lv_iload hx hb dL_law_1207 (lv_at hl 1 rfl) ?_
  refine lv_iconst (v := (2 : Int32)) hx hb dL_law_1209 (by decide) ?_
  refine lv_iadd hx hb dL_law_1210 ?_
  refine fb_tI (v := (2 : Int32)) (by decide) ?_
  refine va_sld (i := (2 : Int32)) hx hb hX hbl hbA I.2.2 (fb_inC (n := 2) (by decide) (by decide) (by omega)) dL_law_1211 ?_
  refine fb_tI (v := (xs 2)) rfl ?_
  refine fb_tI (v := (nI zv9)) hw ?_
  refine lv_aload_n hx hb dL_law_1212 rfl (lv_at hl 5 rfl) ?_
  refine lv_iload hx hb dL_law_1213 (lv_at hl 1 rfl) ?_
  refine lv_iconst (v := (3 : Int32)) hx hb dL_law_1215 (by decide) ?_
  refine lv_iadd hx hb dL_law_1216 ?_
  refine fb_tI (v := (3 : Int32)) (by decide) ?_
  refine va_sld (i := (3 : Int32)) hx hb hX hbl hbA I.2.2 (fb_inC (n := 3) (by decide) (by decide) (by omega)) dL_law_1217 ?_
  refine fb_tI (v := (xs 3)) rfl ?_
  refine lv_if_eq (tgt := 1225) hx hb dL_law_1218 (by decide) (fun _ => ?_) (fun c5 => absurd z3 c5)
  refine lv_iconst (v := (0 : Int32)) hx hb dL_law_1225 (by decide) ?_
  refine lv_aload_n hx hb dL_law_1226 rfl (lv_at hl 5 rfl) ?_
  refine lv_iload hx hb dL_law_1227 (lv_at hl 1 rfl) ?_
  refine lv_iconst (v := (4 : Int32)) hx hb dL_law_1229 (by decide) ?_
  refine lv_iadd hx hb dL_law_1230 ?_
  refine fb_tI (v := (4 : Int32)) (by decide) ?_
  refine va_sld (i := (4 : Int32)) hx hb hX hbl hbA I.2.2 (fb_inC (n := 4) (by decide) (by decide) (by omega)) dL_law_1231 ?_
  refine fb_tI (v := (xs 4)) rfl ?_
  refine lv_if_eq (tgt := 1239) hx hb dL_law_1232 (by decide) (fun _ => ?_) (fun c6 => absurd z4 c6)
  refine lv_iconst (v := (0 : Int32)) hx hb dL_law_1239 (by decide) ?_
  refine fb_gI (cs := [fb_o12 za zr fr_e0, fb_aw cI (zr 14) 4 (fun _ => 0), fb_aw cI (zr 15) 4 (fun _ => 0), fb_aw (D.1 20) (zr 16) 4 (fun _ => 0), fb_aw (D.1 20) (zr 17) 4 (fun _ => 0)]) (rs := [fb_jw cJ zx 1 (vp_updL zg 0 (((1 : Int32)).toInt64))]) (fun (t : Unit) => [fb_jw cJ zx 1 (vp_updL zg 0 (((1 : Int32)).toInt64)), fb_o12 za zr (upd (upd fr_e0 19 (0 : Int32)) 18 (1 : Int32)), fb_aw cI (zr 14) 4 (upd (fun _ => 0) 0 (nI zj)), fb_aw cI (zr 15) 4 (upd (fun _ => 0) 0 (nI zv9)), fb_aw (D.1 20) (zr 16) 4 (upd (fun _ => 0) 0 (fb_bI false)), fb_aw (D.1 20) (zr 17) 4 (upd (fun _ => 0) 0 (fb_bI false))]) (fun (t : Unit) => [fb_o12 za zr (upd (upd fr_e0 19 (0 : Int32)) 18 (1 : Int32)), fb_aw cI (zr 14) 4 (upd (fun _ => 0) 0 (nI zj)), fb_aw cI (zr 15) 4 (upd (fun _ => 0) 0 (nI zv9)), fb_aw (D.1 20) (zr 16) 4 (upd (fun _ => 0) 0 (fb_bI false)), fb_aw (D.1 20) (zr 17) 4 (upd (fun _ => 0) 0 (fb_bI false))]) X I [1, 2, 3, 4, 5, 0] 6 rfl (by decide +kernel) rfl rfl [1, 2, 3, 4, 5, 0] 6 (fun _ => rfl) (by decide +kernel) (fun _ => rfl) (fun _ => rfl) (fun I => fb_rV (As := [.int (nI zj), .int (nI zv9), .int (0 : Int32), .int (0 : Int32)]) (rest := []) X hl (fb_goodV fw_2615 fw_2616 fw_2617 fw_204 fw_2618) (c_setWatch_in l D cI cJ za zr zj (nI zv9) (fun _ => 0) (fun _ => 0) (fun _ => 0) (fun _ => 0) false false _ (by omega) q1) rfl rfl rfl (by decide +kernel : fb_hd yX12_setWatch 4) ⟨Nat.le_of_ble_eq_true rfl, Nat.le_of_ble_eq_true rfl⟩ rfl rfl rfl rfl rfl (Nat.le_of_ble_eq_true rfl) ⟨Nat.le_of_ble_eq_true rfl, Nat.le_of_ble_eq_true rfl⟩ dL_law_1240 I) ?_
  intro r8 w7 H locs e0 I
  subst e0
  have I : fb_In D (fun q : Nat => s.heap.size ≤ q) s.heap (([fb_jw cJ zx 1 (vp_updL zg 0 (((1 : Int32)).toInt64)), fb_o12 za zr (upd (upd fr_e0 19 (0 : Int32)) 18 (1 : Int32)), fb_aw cI (zr 14) 4 (upd (fun _ => 0) 0 (nI zj)), fb_aw cI (zr 15) 4 (upd (fun _ => 0) 0 (nI zv9)), fb_aw (D.1 20) (zr 16) 4 (upd (fun _ => 0) 0 (fb_bI false)), fb_aw (D.1 20) (zr 17) 4 (upd (fun _ => 0) 0 (fb_bI false))] : List va_W).flatten) H locs := I
  refine lv_istore (lv' := [(6, .int (1 : Int32)), (5, .int (0 : Int32)), (4, .int (0 : Int32)), (3, .ref zx), (2, .ref za), (1, .ref zb), (0, .ref b)]) hx hb dL_law_1243 hl (by decide) rfl (fun ls hl => ?_)
  refine lv_aload_n hx hb dL_law_1245 rfl (lv_at hl 4 rfl) ?_
  refine fb_gO (cs := [fb_o12 za zr (upd (upd fr_e0 19 (0 : Int32)) 18 (1 : Int32))]) (rs := [fb_jw cJ zx 1 (vp_updL zg 0 (((1 : Int32)).toInt64)), fb_aw cI (zr 14) 4 (upd (fun _ => 0) 0 (nI zj)), fb_aw cI (zr 15) 4 (upd (fun _ => 0) 0 (nI zv9)), fb_aw (D.1 20) (zr 16) 4 (upd (fun _ => 0) 0 (fb_bI false)), fb_aw (D.1 20) (zr 17) 4 (upd (fun _ => 0) 0 (fb_bI false))]) X I [1, 0, 2, 3, 4, 5] 6 rfl (by decide +kernel) rfl rfl (fun I => fb_rV (As := []) (rest := []) X hl (fb_goodV fw_2119 fw_2120 fw_2121 fw_204 fw_2122) (c_thrown l D cI cJ za zr (upd (upd fr_e0 19 (0 : Int32)) 18 (1 : Int32)) _ ) rfl rfl rfl (by decide +kernel : fb_hd yX12_thrown 0) ⟨Nat.le_of_ble_eq_true rfl, Nat.le_of_ble_eq_true rfl⟩ rfl rfl rfl rfl rfl (Nat.le_of_ble_eq_true rfl) ⟨Nat.le_of_ble_eq_true rfl, Nat.le_of_ble_eq_true rfl⟩ dL_law_1246 I) ?_
  refine fb_tI (v := (0 : Int32)) rfl ?_
  refine lv_iload hx hb dL_law_1249 (lv_at hl 1 rfl) ?_
  refine lv_icmp_eq (tgt := 1256) hx hb dL_law_1251 (by decide) (fun _ => ?_) (fun c9 => absurd rfl c9)
  refine lv_iload hx hb dL_law_1256 (lv_at hl 1 rfl) ?_
  refine lv_if_ne (tgt := 1273) hx hb dL_law_1258 (by decide) (fun c10 => absurd (by decide) c10) (fun _ => ?_)
  refine lv_aload_n hx hb dL_law_1261 rfl (lv_at hl 3 rfl) ?_
  refine lv_iconst (v := (0 : Int32)) hx hb dL_law_1262 (by decide) ?_
  refine va_lald (i := (0 : Int32)) hx hb hK.1 I.1 0 1 rfl rfl (fb_inC (n := 0) (by decide) (by decide) (Nat.le_of_ble_eq_true rfl)) dL_law_1263 ?_
  refine fb_tL (v := (((1 : Int32)).toInt64)) rfl ?_
  refine lv_iload hx hb dL_law_1264 (lv_at hl 0 rfl) ?_
  refine lv_i2l (v := (((1 : Int32)).toInt64)) hx hb dL_law_1266 rfl ?_
  refine W.lcmp hx hb dL_law_1267 ?_
  refine fb_tI (v := (0 : Int32)) (lw_cmp0 _) ?_
  refine lv_if_eq (tgt := 1273) hx hb dL_law_1268 (by decide) (fun _ => ?_) (fun c11 => absurd (by decide) c11)
  refine lv_goto (tgt := 2336) hx hb dL_law_1273 (by decide) ?_
  exact lw_end X hX hbl hbA (by omega) I (lv_sub hl [2, 6] rfl) (Nat.le_of_ble_eq_true rfl) (Nat.le_of_ble_eq_true rfl)

set_option maxHeartbeats 4000000 in
set_option maxRecDepth 100000 in
theorem lc_23_o01 {p : Program} {l : Launch} {e : Env} {s : State} {m : MethodId} {below : List Frame} {meth : Method} {c : Code} {H : Heap} {locs : List Loc} {ls : Array Slot} {D : va_G} {cI cJ : ClassId} {b L : Nat} {xs : Nat → Int32} {zb : Nat} {zt : Nat} {zn : Nat} {zv : Nat} {zs : Nat} {zp : Nat} {zq : Nat → Nat} {zu : Nat → Nat} {zh : Nat} {zst : Nat} {zre : Nat} {zx : Nat} {zg : Nat → Int64} {za : Nat} {zr : Nat → Nat} (hst : l.stackTraces = false) (X : fb_Bx p s m #[Value.ref b] meth c cL_law RL 9 (some .boolean) D (fb_ty D cI cJ) (fun q : Nat => s.heap.size ≤ q)) (hX : va_X b L xs s s.heap) (hbl : b < s.heap.size) (hbA : ¬ (fun q : Nat => s.heap.size ≤ q) b) (hL6 : L = 6) (gA : f_X11_isNoAddress (xs 1) = (1 : Int32)) (q1 : f_X12_isIn (xs 1) (0 : Int32) (4095 : Int32) = (0 : Int32)) (z3 : xs 3 = 0) (z4 : ¬ xs 4 = 0) (I : fb_In D (fun q : Nat => s.heap.size ≤ q) s.heap (([fb_o11 zb zt zn zv zs zp (zq 0) (zu 0) zh zst zre, fb_jw cJ zx 1 zg, fb_o12 za zr fr_e0] : List va_W).flatten) H locs) (hl : lv_has ls 9 [(4, .int (0 : Int32)), (3, .ref zx), (2, .ref za), (1, .ref zb), (0, .ref b)]) : W p l e room_1 s m #[Value.ref b] below meth c H locs 209 179241 (lw_Z below #[Value.ref b] s) (F0 m 1152 ls []) := by
  obtain ⟨hx, hb, hr, hml, hown, hts, hlk, hA, hK, hF⟩ := id X
  refine lv_aload_n hx hb dL_law_1152 rfl (lv_at hl 3 rfl) ?_
  refine lv_aload_n hx hb dL_law_1153 rfl (lv_at hl 4 rfl) ?_
  refine lv_iload hx hb dL_law_1154 (lv_at hl 0 rfl) ?_
  refine lv_iconst (v := (1 : Int32)) hx hb dL_law_1156 (by decide) ?_
  refine lv_iadd hx hb dL_law_1157 ?_
  refine fb_tI (v := (1 : Int32)) (by decide) ?_
  refine va_sld (i := (1 : Int32)) hx hb hX hbl hbA I.2.2 (fb_inC (n := 1) (by decide) (by decide) (by omega)) dL_law_1158 ?_
  refine fb_tI (v := (xs 1)) rfl ?_
  refine lv_aload_n hx hb dL_law_1159 rfl (lv_at hl 4 rfl) ?_
  refine lv_iload hx hb dL_law_1160 (lv_at hl 0 rfl) ?_
  refine lv_iconst (v := (2 : Int32)) hx hb dL_law_1162 (by decide) ?_
  refine lv_iadd hx hb dL_law_1163 ?_
  refine fb_tI (v := (2 : Int32)) (by decide) ?_
  refine va_sld (i := (2 : Int32)) hx hb hX hbl hbA I.2.2 (fb_inC (n := 2) (by decide) (by decide) (by omega)) dL_law_1164 ?_
  refine fb_tI (v := (xs 2)) rfl ?_
  refine lv_aload_n hx hb dL_law_1165 rfl (lv_at hl 4 rfl) ?_
  refine lv_iload hx hb dL_law_1166 (lv_at hl 0 rfl) ?_
  refine lv_iconst (v := (3 : Int32)) hx hb dL_law_1168 (by decide) ?_
  refine lv_iadd hx hb dL_law_1169 ?_
  refine fb_tI (v := (3 : Int32)) (by decide) ?_
  refine va_sld (i := (3 : Int32)) hx hb hX hbl hbA I.2.2 (fb_inC (n := 3) (by decide) (by decide) (by omega)) dL_law_1170 ?_
  refine fb_tI (v := (xs 3)) rfl ?_
  refine lv_if_eq (tgt := 1178) hx hb dL_law_1171 (by decide) (fun _ => ?_) (fun c1 => absurd z3 c1)
  refine lv_iconst (v := (0 : Int32)) hx hb dL_law_1178 (by decide) ?_
  refine lv_aload_n hx hb dL_law_1179 rfl (lv_at hl 4 rfl) ?_
  refine lv_iload hx hb dL_law_1180 (lv_at hl 0 rfl) ?_
  refine lv_iconst (v := (4 : Int32)) hx hb dL_law_1182 (by decide) ?_
  refine lv_iadd hx hb dL_law_1183 ?_
  refine fb_tI (v := (4 : Int32)) (by decide) ?_
  refine va_sld (i := (4 : Int32)) hx hb hX hbl hbA I.2.2 (fb_inC (n := 4) (by decide) (by decide) (by omega)) dL_law_1184 ?_
  refine fb_tI (v := (xs 4)) rfl ?_
  refine lv_if_eq (tgt := 1192) hx hb dL_law_1185 (by decide) (fun c2 => absurd c2 z4) (fun _ => ?_)
  refine lv_iconst (v := (1 : Int32)) hx hb dL_law_1188 (by decide) ?_
  refine lv_goto (tgt := 1193) hx hb dL_law_1189 (by decide) ?_
  refine lv_aload_n hx hb dL_law_1193 rfl (lv_at hl 1 rfl) ?_
  refine fb_gI (cs := [fb_o11 zb zt zn zv zs zp (zq 0) (zu 0) zh zst zre, fb_jw cJ zx 1 zg]) (rs := [fb_o12 za zr fr_e0]) (fun (t : Unit) => [fb_jw cJ zx 1 zg, fb_o12 za zr fr_e0]) (fun (t : Unit) => [fb_jw cJ zx 1 zg]) X I [0, 1, 2] 3 rfl (by decide +kernel) rfl rfl [0, 1] 2 (fun _ => rfl) (by decide +kernel) (fun _ => rfl) (fun _ => rfl) (fun I => fb_rSW (As := [.ref zb, .int (xs 1), .int (xs 2), .int (0 : Int32), .int (1 : Int32), .ref zx]) (rest := []) X hl (fb_goodSW fw_1810 fw_1811 fw_190 fw_1812) (c_w_setWatch_o l D cI cJ zb zt zn zv zs zp zq zu zh zst zre zx zg (xs 1) (xs 2) false true _ hst gA) rfl rfl (by decide +kernel : fb_hd yL_setWatch 6) ⟨Nat.le_of_ble_eq_true rfl, Nat.le_of_ble_eq_true rfl⟩ rfl rfl (Nat.le_of_ble_eq_true rfl) ⟨Nat.le_of_ble_eq_true rfl, Nat.le_of_ble_eq_true rfl⟩ dL_law_1194 I) ?_
  intro r4 w3 H locs e0 I
  subst e0
  have I : fb_In D (fun q : Nat => s.heap.size ≤ q) s.heap (([fb_jw cJ zx 1 zg, fb_o12 za zr fr_e0] : List va_W).flatten) H locs := I
  refine lv_istore (lv' := [(5, .int (1 : Int32)), (4, .int (0 : Int32)), (3, .ref zx), (2, .ref za), (1, .ref zb), (0, .ref b)]) hx hb dL_law_1197 hl (by decide) rfl (fun ls hl => ?_)
  refine lv_aload_n hx hb dL_law_1199 rfl (lv_at hl 3 rfl) ?_
  refine lv_aload_n hx hb dL_law_1200 rfl (lv_at hl 5 rfl) ?_
  refine lv_iload hx hb dL_law_1201 (lv_at hl 1 rfl) ?_
  refine lv_iconst (v := (1 : Int32)) hx hb dL_law_1203 (by decide) ?_
  refine lv_iadd hx hb dL_law_1204 ?_
  refine fb_tI (v := (1 : Int32)) (by decide) ?_
  refine va_sld (i := (1 : Int32)) hx hb hX hbl hbA I.2.2 (fb_inC (n := 1) (by decide) (by decide) (by omega)) dL_law_1205 ?_
  refine fb_tI (v := (xs 1)) rfl ?_
  refine lv_aload_n hx hb dL_law_1206 rfl (lv_at hl 5 rfl) ?_
  refine lv_iload hx hb dL_law_1207 (lv_at hl 1 rfl) ?_
  refine lv_iconst (v := (2 : Int32)) hx hb dL_law_1209 (by decide) ?_
  refine lv_iadd hx hb dL_law_1210 ?_
  refine fb_tI (v := (2 : Int32)) (by decide) ?_
  refine va_sld (i := (2 : Int32)) hx hb hX hbl hbA I.2.2 (fb_inC (n := 2) (by decide) (by decide) (by omega)) dL_law_1211 ?_
  refine fb_tI (v := (xs 2)) rfl ?_
  refine lv_aload_n hx hb dL_law_1212 rfl (lv_at hl 5 rfl) ?_
  refine lv_iload hx hb dL_law_1213 (lv_at hl 1 rfl) ?_
  refine lv_iconst (v := (3 : Int32)) hx hb dL_law_1215 (by decide) ?_
  refine lv_iadd hx hb dL_law_1216 ?_
  refine fb_tI (v := (3 : Int32)) (by decide) ?_
  refine va_sld (i := (3 : Int32)) hx hb hX hbl hbA I.2.2 (fb_inC (n := 3) (by decide) (by decide) (by omega)) dL_law_1217 ?_
  refine fb_tI (v := (xs 3)) rfl ?_
  refine lv_if_eq (tgt := 1225) hx hb dL_law_1218 (by decide) (fun _ => ?_) (fun c5 => absurd z3 c5)
  refine lv_iconst (v := (0 : Int32)) hx hb dL_law_1225 (by decide) ?_
  refine lv_aload_n hx hb dL_law_1226 rfl (lv_at hl 5 rfl) ?_
  refine lv_iload hx hb dL_law_1227 (lv_at hl 1 rfl) ?_
  refine lv_iconst (v := (4 : Int32)) hx hb dL_law_1229 (by decide) ?_
  refine lv_iadd hx hb dL_law_1230 ?_
  refine fb_tI (v := (4 : Int32)) (by decide) ?_
  refine va_sld (i := (4 : Int32)) hx hb hX hbl hbA I.2.2 (fb_inC (n := 4) (by decide) (by decide) (by omega)) dL_law_1231 ?_
  refine fb_tI (v := (xs 4)) rfl ?_
  refine lv_if_eq (tgt := 1239) hx hb dL_law_1232 (by decide) (fun c6 => absurd c6 z4) (fun _ => ?_)
  refine lv_iconst (v := (1 : Int32)) hx hb dL_law_1235 (by decide) ?_
  refine lv_goto (tgt := 1240) hx hb dL_law_1236 (by decide) ?_
  refine fb_gI (cs := [fb_o12 za zr fr_e0]) (rs := [fb_jw cJ zx 1 zg]) (fun (t : Unit) => [fb_jw cJ zx 1 zg, fb_o12 za zr (upd (upd fr_e0 19 (0 : Int32)) 19 (1 : Int32))]) (fun (t : Unit) => [fb_o12 za zr (upd (upd fr_e0 19 (0 : Int32)) 19 (1 : Int32))]) X I [1, 0] 2 rfl (by decide +kernel) rfl rfl [1, 0] 2 (fun _ => rfl) (by decide +kernel) (fun _ => rfl) (fun _ => rfl) (fun I => fb_rV (As := [.int (xs 1), .int (xs 2), .int (0 : Int32), .int (1 : Int32)]) (rest := []) X hl (fb_goodV fw_2615 fw_2616 fw_2617 fw_204 fw_2618) (c_setWatch_out l D cI cJ za zr (xs 1) (xs 2) false true _ q1) rfl rfl rfl (by decide +kernel : fb_hd yX12_setWatch 4) ⟨Nat.le_of_ble_eq_true rfl, Nat.le_of_ble_eq_true rfl⟩ rfl rfl rfl rfl rfl (Nat.le_of_ble_eq_true rfl) ⟨Nat.le_of_ble_eq_true rfl, Nat.le_of_ble_eq_true rfl⟩ dL_law_1240 I) ?_
  intro r8 w7 H locs e0 I
  subst e0
  have I : fb_In D (fun q : Nat => s.heap.size ≤ q) s.heap (([fb_jw cJ zx 1 zg, fb_o12 za zr (upd (upd fr_e0 19 (0 : Int32)) 19 (1 : Int32))] : List va_W).flatten) H locs := I
  refine lv_istore (lv' := [(6, .int (0 : Int32)), (5, .int (1 : Int32)), (4, .int (0 : Int32)), (3, .ref zx), (2, .ref za), (1, .ref zb), (0, .ref b)]) hx hb dL_law_1243 hl (by decide) rfl (fun ls hl => ?_)
  refine lv_aload_n hx hb dL_law_1245 rfl (lv_at hl 4 rfl) ?_
  refine fb_gO (cs := [fb_o12 za zr (upd (upd fr_e0 19 (0 : Int32)) 19 (1 : Int32))]) (rs := [fb_jw cJ zx 1 zg]) X I [1, 0] 2 rfl (by decide +kernel) rfl rfl (fun I => fb_rV (As := []) (rest := []) X hl (fb_goodV fw_2119 fw_2120 fw_2121 fw_204 fw_2122) (c_thrown l D cI cJ za zr (upd (upd fr_e0 19 (0 : Int32)) 19 (1 : Int32)) _ ) rfl rfl rfl (by decide +kernel : fb_hd yX12_thrown 0) ⟨Nat.le_of_ble_eq_true rfl, Nat.le_of_ble_eq_true rfl⟩ rfl rfl rfl rfl rfl (Nat.le_of_ble_eq_true rfl) ⟨Nat.le_of_ble_eq_true rfl, Nat.le_of_ble_eq_true rfl⟩ dL_law_1246 I) ?_
  refine fb_tI (v := (1 : Int32)) rfl ?_
  refine lv_iload hx hb dL_law_1249 (lv_at hl 1 rfl) ?_
  refine lv_icmp_eq (tgt := 1256) hx hb dL_law_1251 (by decide) (fun _ => ?_) (fun c9 => absurd rfl c9)
  refine lv_iload hx hb dL_law_1256 (lv_at hl 1 rfl) ?_
  refine lv_if_ne (tgt := 1273) hx hb dL_law_1258 (by decide) (fun _ => ?_) (fun c10 => absurd c10 (by decide))
  refine lv_goto (tgt := 2336) hx hb dL_law_1273 (by decide) ?_
  exact lw_end X hX hbl hbA (by omega) I (lv_sub hl [2, 6] rfl) (Nat.le_of_ble_eq_true rfl) (Nat.le_of_ble_eq_true rfl)

set_option maxHeartbeats 4000000 in
set_option maxRecDepth 100000 in
theorem lc_23_p01 {p : Program} {l : Launch} {e : Env} {s : State} {m : MethodId} {below : List Frame} {meth : Method} {c : Code} {H : Heap} {locs : List Loc} {ls : Array Slot} {D : va_G} {cI cJ : ClassId} {b L : Nat} {xs : Nat → Int32} {zb : Nat} {zt : Nat} {zn : Nat} {zv : Nat} {zs : Nat} {zp : Nat} {zq : Nat → Nat} {zu : Nat → Nat} {zh : Nat} {zst : Nat} {zre : Nat} {zx : Nat} {zg : Nat → Int64} {za : Nat} {zr : Nat → Nat} {zj : Nat} (hst : l.stackTraces = false) (X : fb_Bx p s m #[Value.ref b] meth c cL_law RL 9 (some .boolean) D (fb_ty D cI cJ) (fun q : Nat => s.heap.size ≤ q)) (hX : va_X b L xs s s.heap) (hbl : b < s.heap.size) (hbA : ¬ (fun q : Nat => s.heap.size ≤ q) b) (hL6 : L = 6) (hz : xs 1 = nI zj) (hj : zj < 4096) (gA0 : f_X11_isNoAddress (nI zj) = (0 : Int32)) (gA : f_X11_isNoAddress (xs 2) = (1 : Int32)) (q1 : f_X12_isIn (xs 2) (nI zj) (4095 : Int32) = (0 : Int32)) (z3 : xs 3 = 0) (z4 : ¬ xs 4 = 0) (I : fb_In D (fun q : Nat => s.heap.size ≤ q) s.heap (([fb_o11 zb zt zn zv zs zp (zq 0) (zu 0) zh zst zre, fb_jw cJ zx 1 zg, fb_o12 za zr fr_e0] : List va_W).flatten) H locs) (hl : lv_has ls 9 [(4, .int (0 : Int32)), (3, .ref zx), (2, .ref za), (1, .ref zb), (0, .ref b)]) : W p l e room_1 s m #[Value.ref b] below meth c H locs 209 179241 (lw_Z below #[Value.ref b] s) (F0 m 1152 ls []) := by
  obtain ⟨hx, hb, hr, hml, hown, hts, hlk, hA, hK, hF⟩ := id X
  refine lv_aload_n hx hb dL_law_1152 rfl (lv_at hl 3 rfl) ?_
  refine lv_aload_n hx hb dL_law_1153 rfl (lv_at hl 4 rfl) ?_
  refine lv_iload hx hb dL_law_1154 (lv_at hl 0 rfl) ?_
  refine lv_iconst (v := (1 : Int32)) hx hb dL_law_1156 (by decide) ?_
  refine lv_iadd hx hb dL_law_1157 ?_
  refine fb_tI (v := (1 : Int32)) (by decide) ?_
  refine va_sld (i := (1 : Int32)) hx hb hX hbl hbA I.2.2 (fb_inC (n := 1) (by decide) (by decide) (by omega)) dL_law_1158 ?_
  refine fb_tI (v := (xs 1)) rfl ?_
  refine fb_tI (v := (nI zj)) hz ?_
  refine lv_aload_n hx hb dL_law_1159 rfl (lv_at hl 4 rfl) ?_
  refine lv_iload hx hb dL_law_1160 (lv_at hl 0 rfl) ?_
  refine lv_iconst (v := (2 : Int32)) hx hb dL_law_1162 (by decide) ?_
  refine lv_iadd hx hb dL_law_1163 ?_
  refine fb_tI (v := (2 : Int32)) (by decide) ?_
  refine va_sld (i := (2 : Int32)) hx hb hX hbl hbA I.2.2 (fb_inC (n := 2) (by decide) (by decide) (by omega)) dL_law_1164 ?_
  refine fb_tI (v := (xs 2)) rfl ?_
  refine lv_aload_n hx hb dL_law_1165 rfl (lv_at hl 4 rfl) ?_
  refine lv_iload hx hb dL_law_1166 (lv_at hl 0 rfl) ?_
  refine lv_iconst (v := (3 : Int32)) hx hb dL_law_1168 (by decide) ?_
  refine lv_iadd hx hb dL_law_1169 ?_
  refine fb_tI (v := (3 : Int32)) (by decide) ?_
  refine va_sld (i := (3 : Int32)) hx hb hX hbl hbA I.2.2 (fb_inC (n := 3) (by decide) (by decide) (by omega)) dL_law_1170 ?_
  refine fb_tI (v := (xs 3)) rfl ?_
  refine lv_if_eq (tgt := 1178) hx hb dL_law_1171 (by decide) (fun _ => ?_) (fun c1 => absurd z3 c1)
  refine lv_iconst (v := (0 : Int32)) hx hb dL_law_1178 (by decide) ?_
  refine lv_aload_n hx hb dL_law_1179 rfl (lv_at hl 4 rfl) ?_
  refine lv_iload hx hb dL_law_1180 (lv_at hl 0 rfl) ?_
  refine lv_iconst (v := (4 : Int32)) hx hb dL_law_1182 (by decide) ?_
  refine lv_iadd hx hb dL_law_1183 ?_
  refine fb_tI (v := (4 : Int32)) (by decide) ?_
  refine va_sld (i := (4 : Int32)) hx hb hX hbl hbA I.2.2 (fb_inC (n := 4) (by decide) (by decide) (by omega)) dL_law_1184 ?_
  refine fb_tI (v := (xs 4)) rfl ?_
  refine lv_if_eq (tgt := 1192) hx hb dL_law_1185 (by decide) (fun c2 => absurd c2 z4) (fun _ => ?_)
  refine lv_iconst (v := (1 : Int32)) hx hb dL_law_1188 (by decide) ?_
  refine lv_goto (tgt := 1193) hx hb dL_law_1189 (by decide) ?_
  refine lv_aload_n hx hb dL_law_1193 rfl (lv_at hl 1 rfl) ?_
  refine fb_gI (cs := [fb_o11 zb zt zn zv zs zp (zq 0) (zu 0) zh zst zre, fb_jw cJ zx 1 zg]) (rs := [fb_o12 za zr fr_e0]) (fun (t : Unit) => [fb_jw cJ zx 1 zg, fb_o12 za zr fr_e0]) (fun (t : Unit) => [fb_jw cJ zx 1 zg]) X I [0, 1, 2] 3 rfl (by decide +kernel) rfl rfl [0, 1] 2 (fun _ => rfl) (by decide +kernel) (fun _ => rfl) (fun _ => rfl) (fun I => fb_rSW (As := [.ref zb, .int (nI zj), .int (xs 2), .int (0 : Int32), .int (1 : Int32), .ref zx]) (rest := []) X hl (fb_goodSW fw_1810 fw_1811 fw_190 fw_1812) (c_w_setWatch_p l D cI cJ zb zt zn zv zs zp zq zu zh zst zre zx zg (nI zj) (xs 2) false true _ hst gA0 gA) rfl rfl (by decide +kernel : fb_hd yL_setWatch 6) ⟨Nat.le_of_ble_eq_true rfl, Nat.le_of_ble_eq_true rfl⟩ rfl rfl (Nat.le_of_ble_eq_true rfl) ⟨Nat.le_of_ble_eq_true rfl, Nat.le_of_ble_eq_true rfl⟩ dL_law_1194 I) ?_
  intro r4 w3 H locs e0 I
  subst e0
  have I : fb_In D (fun q : Nat => s.heap.size ≤ q) s.heap (([fb_jw cJ zx 1 zg, fb_o12 za zr fr_e0] : List va_W).flatten) H locs := I
  refine lv_istore (lv' := [(5, .int (1 : Int32)), (4, .int (0 : Int32)), (3, .ref zx), (2, .ref za), (1, .ref zb), (0, .ref b)]) hx hb dL_law_1197 hl (by decide) rfl (fun ls hl => ?_)
  refine lv_aload_n hx hb dL_law_1199 rfl (lv_at hl 3 rfl) ?_
  refine lv_aload_n hx hb dL_law_1200 rfl (lv_at hl 5 rfl) ?_
  refine lv_iload hx hb dL_law_1201 (lv_at hl 1 rfl) ?_
  refine lv_iconst (v := (1 : Int32)) hx hb dL_law_1203 (by decide) ?_
  refine lv_iadd hx hb dL_law_1204 ?_
  refine fb_tI (v := (1 : Int32)) (by decide) ?_
  refine va_sld (i := (1 : Int32)) hx hb hX hbl hbA I.2.2 (fb_inC (n := 1) (by decide) (by decide) (by omega)) dL_law_1205 ?_
  refine fb_tI (v := (xs 1)) rfl ?_
  refine fb_tI (v := (nI zj)) hz ?_
  refine lv_aload_n hx hb dL_law_1206 rfl (lv_at hl 5 rfl) ?_
  refine lv_iload hx hb dL_law_1207 (lv_at hl 1 rfl) ?_
  refine lv_iconst (v := (2 : Int32)) hx hb dL_law_1209 (by decide) ?_
  refine lv_iadd hx hb dL_law_1210 ?_
  refine fb_tI (v := (2 : Int32)) (by decide) ?_
  refine va_sld (i := (2 : Int32)) hx hb hX hbl hbA I.2.2 (fb_inC (n := 2) (by decide) (by decide) (by omega)) dL_law_1211 ?_
  refine fb_tI (v := (xs 2)) rfl ?_
  refine lv_aload_n hx hb dL_law_1212 rfl (lv_at hl 5 rfl) ?_
  refine lv_iload hx hb dL_law_1213 (lv_at hl 1 rfl) ?_
  refine lv_iconst (v := (3 : Int32)) hx hb dL_law_1215 (by decide) ?_
  refine lv_iadd hx hb dL_law_1216 ?_
  refine fb_tI (v := (3 : Int32)) (by decide) ?_
  refine va_sld (i := (3 : Int32)) hx hb hX hbl hbA I.2.2 (fb_inC (n := 3) (by decide) (by decide) (by omega)) dL_law_1217 ?_
  refine fb_tI (v := (xs 3)) rfl ?_
  refine lv_if_eq (tgt := 1225) hx hb dL_law_1218 (by decide) (fun _ => ?_) (fun c5 => absurd z3 c5)
  refine lv_iconst (v := (0 : Int32)) hx hb dL_law_1225 (by decide) ?_
  refine lv_aload_n hx hb dL_law_1226 rfl (lv_at hl 5 rfl) ?_
  refine lv_iload hx hb dL_law_1227 (lv_at hl 1 rfl) ?_
  refine lv_iconst (v := (4 : Int32)) hx hb dL_law_1229 (by decide) ?_
  refine lv_iadd hx hb dL_law_1230 ?_
  refine fb_tI (v := (4 : Int32)) (by decide) ?_
  refine va_sld (i := (4 : Int32)) hx hb hX hbl hbA I.2.2 (fb_inC (n := 4) (by decide) (by decide) (by omega)) dL_law_1231 ?_
  refine fb_tI (v := (xs 4)) rfl ?_
  refine lv_if_eq (tgt := 1239) hx hb dL_law_1232 (by decide) (fun c6 => absurd c6 z4) (fun _ => ?_)
  refine lv_iconst (v := (1 : Int32)) hx hb dL_law_1235 (by decide) ?_
  refine lv_goto (tgt := 1240) hx hb dL_law_1236 (by decide) ?_
  refine fb_gI (cs := [fb_o12 za zr fr_e0]) (rs := [fb_jw cJ zx 1 zg]) (fun (t : Unit) => [fb_jw cJ zx 1 zg, fb_o12 za zr (upd (upd fr_e0 19 (0 : Int32)) 19 (1 : Int32))]) (fun (t : Unit) => [fb_o12 za zr (upd (upd fr_e0 19 (0 : Int32)) 19 (1 : Int32))]) X I [1, 0] 2 rfl (by decide +kernel) rfl rfl [1, 0] 2 (fun _ => rfl) (by decide +kernel) (fun _ => rfl) (fun _ => rfl) (fun I => fb_rV (As := [.int (nI zj), .int (xs 2), .int (0 : Int32), .int (1 : Int32)]) (rest := []) X hl (fb_goodV fw_2615 fw_2616 fw_2617 fw_204 fw_2618) (c_setWatch_bad l D cI cJ za zr zj (xs 2) false true _ (by omega) q1) rfl rfl rfl (by decide +kernel : fb_hd yX12_setWatch 4) ⟨Nat.le_of_ble_eq_true rfl, Nat.le_of_ble_eq_true rfl⟩ rfl rfl rfl rfl rfl (Nat.le_of_ble_eq_true rfl) ⟨Nat.le_of_ble_eq_true rfl, Nat.le_of_ble_eq_true rfl⟩ dL_law_1240 I) ?_
  intro r8 w7 H locs e0 I
  subst e0
  have I : fb_In D (fun q : Nat => s.heap.size ≤ q) s.heap (([fb_jw cJ zx 1 zg, fb_o12 za zr (upd (upd fr_e0 19 (0 : Int32)) 19 (1 : Int32))] : List va_W).flatten) H locs := I
  refine lv_istore (lv' := [(6, .int (0 : Int32)), (5, .int (1 : Int32)), (4, .int (0 : Int32)), (3, .ref zx), (2, .ref za), (1, .ref zb), (0, .ref b)]) hx hb dL_law_1243 hl (by decide) rfl (fun ls hl => ?_)
  refine lv_aload_n hx hb dL_law_1245 rfl (lv_at hl 4 rfl) ?_
  refine fb_gO (cs := [fb_o12 za zr (upd (upd fr_e0 19 (0 : Int32)) 19 (1 : Int32))]) (rs := [fb_jw cJ zx 1 zg]) X I [1, 0] 2 rfl (by decide +kernel) rfl rfl (fun I => fb_rV (As := []) (rest := []) X hl (fb_goodV fw_2119 fw_2120 fw_2121 fw_204 fw_2122) (c_thrown l D cI cJ za zr (upd (upd fr_e0 19 (0 : Int32)) 19 (1 : Int32)) _ ) rfl rfl rfl (by decide +kernel : fb_hd yX12_thrown 0) ⟨Nat.le_of_ble_eq_true rfl, Nat.le_of_ble_eq_true rfl⟩ rfl rfl rfl rfl rfl (Nat.le_of_ble_eq_true rfl) ⟨Nat.le_of_ble_eq_true rfl, Nat.le_of_ble_eq_true rfl⟩ dL_law_1246 I) ?_
  refine fb_tI (v := (1 : Int32)) rfl ?_
  refine lv_iload hx hb dL_law_1249 (lv_at hl 1 rfl) ?_
  refine lv_icmp_eq (tgt := 1256) hx hb dL_law_1251 (by decide) (fun _ => ?_) (fun c9 => absurd rfl c9)
  refine lv_iload hx hb dL_law_1256 (lv_at hl 1 rfl) ?_
  refine lv_if_ne (tgt := 1273) hx hb dL_law_1258 (by decide) (fun _ => ?_) (fun c10 => absurd c10 (by decide))
  refine lv_goto (tgt := 2336) hx hb dL_law_1273 (by decide) ?_
  exact lw_end X hX hbl hbA (by omega) I (lv_sub hl [2, 6] rfl) (Nat.le_of_ble_eq_true rfl) (Nat.le_of_ble_eq_true rfl)

set_option maxHeartbeats 4000000 in
set_option maxRecDepth 100000 in
theorem lc_23_b01 {p : Program} {l : Launch} {e : Env} {s : State} {m : MethodId} {below : List Frame} {meth : Method} {c : Code} {H : Heap} {locs : List Loc} {ls : Array Slot} {D : va_G} {cI cJ : ClassId} {b L : Nat} {xs : Nat → Int32} {zb : Nat} {zt : Nat} {zn : Nat} {zv : Nat} {zs : Nat} {zp : Nat} {zq : Nat → Nat} {zu : Nat → Nat} {zh : Nat} {zst : Nat} {zre : Nat} {zx : Nat} {zg : Nat → Int64} {za : Nat} {zr : Nat → Nat} {zj : Nat} {zv9 : Nat} (hst : l.stackTraces = false) (X : fb_Bx p s m #[Value.ref b] meth c cL_law RL 9 (some .boolean) D (fb_ty D cI cJ) (fun q : Nat => s.heap.size ≤ q)) (hX : va_X b L xs s s.heap) (hbl : b < s.heap.size) (hbA : ¬ (fun q : Nat => s.heap.size ≤ q) b) (hL6 : L = 6) (hz : xs 1 = nI zj) (hw : xs 2 = nI zv9) (hj : zj < 4096) (gA0 : f_X11_isNoAddress (nI zj) = (0 : Int32)) (gA2 : f_X11_isNoAddress (nI zv9) = (0 : Int32)) (h1 : (nI zv9) < (nI zj)) (h2 : ¬ (nI zj) ≤ (nI zv9)) (q1 : f_X12_isIn (nI zv9) (nI zj) (4095 : Int32) = (0 : Int32)) (z3 : xs 3 = 0) (z4 : ¬ xs 4 = 0) (I : fb_In D (fun q : Nat => s.heap.size ≤ q) s.heap (([fb_o11 zb zt zn zv zs zp (zq 0) (zu 0) zh zst zre, fb_jw cJ zx 1 zg, fb_o12 za zr fr_e0] : List va_W).flatten) H locs) (hl : lv_has ls 9 [(4, .int (0 : Int32)), (3, .ref zx), (2, .ref za), (1, .ref zb), (0, .ref b)]) : W p l e room_1 s m #[Value.ref b] below meth c H locs 209 179241 (lw_Z below #[Value.ref b] s) (F0 m 1152 ls []) := by
  obtain ⟨hx, hb, hr, hml, hown, hts, hlk, hA, hK, hF⟩ := id X
  refine lv_aload_n hx hb dL_law_1152 rfl (lv_at hl 3 rfl) ?_
  refine lv_aload_n hx hb dL_law_1153 rfl (lv_at hl 4 rfl) ?_
  refine lv_iload hx hb dL_law_1154 (lv_at hl 0 rfl) ?_
  refine lv_iconst (v := (1 : Int32)) hx hb dL_law_1156 (by decide) ?_
  refine lv_iadd hx hb dL_law_1157 ?_
  refine fb_tI (v := (1 : Int32)) (by decide) ?_
  refine va_sld (i := (1 : Int32)) hx hb hX hbl hbA I.2.2 (fb_inC (n := 1) (by decide) (by decide) (by omega)) dL_law_1158 ?_
  refine fb_tI (v := (xs 1)) rfl ?_
  refine fb_tI (v := (nI zj)) hz ?_
  refine lv_aload_n hx hb dL_law_1159 rfl (lv_at hl 4 rfl) ?_
  refine lv_iload hx hb dL_law_1160 (lv_at hl 0 rfl) ?_
  refine lv_iconst (v := (2 : Int32)) hx hb dL_law_1162 (by decide) ?_
  refine lv_iadd hx hb dL_law_1163 ?_
  refine fb_tI (v := (2 : Int32)) (by decide) ?_
  refine va_sld (i := (2 : Int32)) hx hb hX hbl hbA I.2.2 (fb_inC (n := 2) (by decide) (by decide) (by omega)) dL_law_1164 ?_
  refine fb_tI (v := (xs 2)) rfl ?_
  refine fb_tI (v := (nI zv9)) hw ?_
  refine lv_aload_n hx hb dL_law_1165 rfl (lv_at hl 4 rfl) ?_
  refine lv_iload hx hb dL_law_1166 (lv_at hl 0 rfl) ?_
  refine lv_iconst (v := (3 : Int32)) hx hb dL_law_1168 (by decide) ?_
  refine lv_iadd hx hb dL_law_1169 ?_
  refine fb_tI (v := (3 : Int32)) (by decide) ?_
  refine va_sld (i := (3 : Int32)) hx hb hX hbl hbA I.2.2 (fb_inC (n := 3) (by decide) (by decide) (by omega)) dL_law_1170 ?_
  refine fb_tI (v := (xs 3)) rfl ?_
  refine lv_if_eq (tgt := 1178) hx hb dL_law_1171 (by decide) (fun _ => ?_) (fun c1 => absurd z3 c1)
  refine lv_iconst (v := (0 : Int32)) hx hb dL_law_1178 (by decide) ?_
  refine lv_aload_n hx hb dL_law_1179 rfl (lv_at hl 4 rfl) ?_
  refine lv_iload hx hb dL_law_1180 (lv_at hl 0 rfl) ?_
  refine lv_iconst (v := (4 : Int32)) hx hb dL_law_1182 (by decide) ?_
  refine lv_iadd hx hb dL_law_1183 ?_
  refine fb_tI (v := (4 : Int32)) (by decide) ?_
  refine va_sld (i := (4 : Int32)) hx hb hX hbl hbA I.2.2 (fb_inC (n := 4) (by decide) (by decide) (by omega)) dL_law_1184 ?_
  refine fb_tI (v := (xs 4)) rfl ?_
  refine lv_if_eq (tgt := 1192) hx hb dL_law_1185 (by decide) (fun c2 => absurd c2 z4) (fun _ => ?_)
  refine lv_iconst (v := (1 : Int32)) hx hb dL_law_1188 (by decide) ?_
  refine lv_goto (tgt := 1193) hx hb dL_law_1189 (by decide) ?_
  refine lv_aload_n hx hb dL_law_1193 rfl (lv_at hl 1 rfl) ?_
  refine fb_gI (cs := [fb_o11 zb zt zn zv zs zp (zq 0) (zu 0) zh zst zre, fb_jw cJ zx 1 zg]) (rs := [fb_o12 za zr fr_e0]) (fun (t : Unit) => [fb_jw cJ zx 1 zg, fb_o12 za zr fr_e0]) (fun (t : Unit) => [fb_jw cJ zx 1 zg]) X I [0, 1, 2] 3 rfl (by decide +kernel) rfl rfl [0, 1] 2 (fun _ => rfl) (by decide +kernel) (fun _ => rfl) (fun _ => rfl) (fun I => fb_rSW (As := [.ref zb, .int (nI zj), .int (nI zv9), .int (0 : Int32), .int (1 : Int32), .ref zx]) (rest := []) X hl (fb_goodSW fw_1810 fw_1811 fw_190 fw_1812) (c_w_setWatch_b l D cI cJ zb zt zn zv zs zp zq zu zh zst zre zx zg (nI zj) (nI zv9) false true _ hst gA0 gA2 h1 h2) rfl rfl (by decide +kernel : fb_hd yL_setWatch 6) ⟨Nat.le_of_ble_eq_true rfl, Nat.le_of_ble_eq_true rfl⟩ rfl rfl (Nat.le_of_ble_eq_true rfl) ⟨Nat.le_of_ble_eq_true rfl, Nat.le_of_ble_eq_true rfl⟩ dL_law_1194 I) ?_
  intro r4 w3 H locs e0 I
  subst e0
  have I : fb_In D (fun q : Nat => s.heap.size ≤ q) s.heap (([fb_jw cJ zx 1 zg, fb_o12 za zr fr_e0] : List va_W).flatten) H locs := I
  refine lv_istore (lv' := [(5, .int (1 : Int32)), (4, .int (0 : Int32)), (3, .ref zx), (2, .ref za), (1, .ref zb), (0, .ref b)]) hx hb dL_law_1197 hl (by decide) rfl (fun ls hl => ?_)
  refine lv_aload_n hx hb dL_law_1199 rfl (lv_at hl 3 rfl) ?_
  refine lv_aload_n hx hb dL_law_1200 rfl (lv_at hl 5 rfl) ?_
  refine lv_iload hx hb dL_law_1201 (lv_at hl 1 rfl) ?_
  refine lv_iconst (v := (1 : Int32)) hx hb dL_law_1203 (by decide) ?_
  refine lv_iadd hx hb dL_law_1204 ?_
  refine fb_tI (v := (1 : Int32)) (by decide) ?_
  refine va_sld (i := (1 : Int32)) hx hb hX hbl hbA I.2.2 (fb_inC (n := 1) (by decide) (by decide) (by omega)) dL_law_1205 ?_
  refine fb_tI (v := (xs 1)) rfl ?_
  refine fb_tI (v := (nI zj)) hz ?_
  refine lv_aload_n hx hb dL_law_1206 rfl (lv_at hl 5 rfl) ?_
  refine lv_iload hx hb dL_law_1207 (lv_at hl 1 rfl) ?_
  refine lv_iconst (v := (2 : Int32)) hx hb dL_law_1209 (by decide) ?_
  refine lv_iadd hx hb dL_law_1210 ?_
  refine fb_tI (v := (2 : Int32)) (by decide) ?_
  refine va_sld (i := (2 : Int32)) hx hb hX hbl hbA I.2.2 (fb_inC (n := 2) (by decide) (by decide) (by omega)) dL_law_1211 ?_
  refine fb_tI (v := (xs 2)) rfl ?_
  refine fb_tI (v := (nI zv9)) hw ?_
  refine lv_aload_n hx hb dL_law_1212 rfl (lv_at hl 5 rfl) ?_
  refine lv_iload hx hb dL_law_1213 (lv_at hl 1 rfl) ?_
  refine lv_iconst (v := (3 : Int32)) hx hb dL_law_1215 (by decide) ?_
  refine lv_iadd hx hb dL_law_1216 ?_
  refine fb_tI (v := (3 : Int32)) (by decide) ?_
  refine va_sld (i := (3 : Int32)) hx hb hX hbl hbA I.2.2 (fb_inC (n := 3) (by decide) (by decide) (by omega)) dL_law_1217 ?_
  refine fb_tI (v := (xs 3)) rfl ?_
  refine lv_if_eq (tgt := 1225) hx hb dL_law_1218 (by decide) (fun _ => ?_) (fun c5 => absurd z3 c5)
  refine lv_iconst (v := (0 : Int32)) hx hb dL_law_1225 (by decide) ?_
  refine lv_aload_n hx hb dL_law_1226 rfl (lv_at hl 5 rfl) ?_
  refine lv_iload hx hb dL_law_1227 (lv_at hl 1 rfl) ?_
  refine lv_iconst (v := (4 : Int32)) hx hb dL_law_1229 (by decide) ?_
  refine lv_iadd hx hb dL_law_1230 ?_
  refine fb_tI (v := (4 : Int32)) (by decide) ?_
  refine va_sld (i := (4 : Int32)) hx hb hX hbl hbA I.2.2 (fb_inC (n := 4) (by decide) (by decide) (by omega)) dL_law_1231 ?_
  refine fb_tI (v := (xs 4)) rfl ?_
  refine lv_if_eq (tgt := 1239) hx hb dL_law_1232 (by decide) (fun c6 => absurd c6 z4) (fun _ => ?_)
  refine lv_iconst (v := (1 : Int32)) hx hb dL_law_1235 (by decide) ?_
  refine lv_goto (tgt := 1240) hx hb dL_law_1236 (by decide) ?_
  refine fb_gI (cs := [fb_o12 za zr fr_e0]) (rs := [fb_jw cJ zx 1 zg]) (fun (t : Unit) => [fb_jw cJ zx 1 zg, fb_o12 za zr (upd (upd fr_e0 19 (0 : Int32)) 19 (1 : Int32))]) (fun (t : Unit) => [fb_o12 za zr (upd (upd fr_e0 19 (0 : Int32)) 19 (1 : Int32))]) X I [1, 0] 2 rfl (by decide +kernel) rfl rfl [1, 0] 2 (fun _ => rfl) (by decide +kernel) (fun _ => rfl) (fun _ => rfl) (fun I => fb_rV (As := [.int (nI zj), .int (nI zv9), .int (0 : Int32), .int (1 : Int32)]) (rest := []) X hl (fb_goodV fw_2615 fw_2616 fw_2617 fw_204 fw_2618) (c_setWatch_bad l D cI cJ za zr zj (nI zv9) false true _ (by omega) q1) rfl rfl rfl (by decide +kernel : fb_hd yX12_setWatch 4) ⟨Nat.le_of_ble_eq_true rfl, Nat.le_of_ble_eq_true rfl⟩ rfl rfl rfl rfl rfl (Nat.le_of_ble_eq_true rfl) ⟨Nat.le_of_ble_eq_true rfl, Nat.le_of_ble_eq_true rfl⟩ dL_law_1240 I) ?_
  intro r8 w7 H locs e0 I
  subst e0
  have I : fb_In D (fun q : Nat => s.heap.size ≤ q) s.heap (([fb_jw cJ zx 1 zg, fb_o12 za zr (upd (upd fr_e0 19 (0 : Int32)) 19 (1 : Int32))] : List va_W).flatten) H locs := I
  refine lv_istore (lv' := [(6, .int (0 : Int32)), (5, .int (1 : Int32)), (4, .int (0 : Int32)), (3, .ref zx), (2, .ref za), (1, .ref zb), (0, .ref b)]) hx hb dL_law_1243 hl (by decide) rfl (fun ls hl => ?_)
  refine lv_aload_n hx hb dL_law_1245 rfl (lv_at hl 4 rfl) ?_
  refine fb_gO (cs := [fb_o12 za zr (upd (upd fr_e0 19 (0 : Int32)) 19 (1 : Int32))]) (rs := [fb_jw cJ zx 1 zg]) X I [1, 0] 2 rfl (by decide +kernel) rfl rfl (fun I => fb_rV (As := []) (rest := []) X hl (fb_goodV fw_2119 fw_2120 fw_2121 fw_204 fw_2122) (c_thrown l D cI cJ za zr (upd (upd fr_e0 19 (0 : Int32)) 19 (1 : Int32)) _ ) rfl rfl rfl (by decide +kernel : fb_hd yX12_thrown 0) ⟨Nat.le_of_ble_eq_true rfl, Nat.le_of_ble_eq_true rfl⟩ rfl rfl rfl rfl rfl (Nat.le_of_ble_eq_true rfl) ⟨Nat.le_of_ble_eq_true rfl, Nat.le_of_ble_eq_true rfl⟩ dL_law_1246 I) ?_
  refine fb_tI (v := (1 : Int32)) rfl ?_
  refine lv_iload hx hb dL_law_1249 (lv_at hl 1 rfl) ?_
  refine lv_icmp_eq (tgt := 1256) hx hb dL_law_1251 (by decide) (fun _ => ?_) (fun c9 => absurd rfl c9)
  refine lv_iload hx hb dL_law_1256 (lv_at hl 1 rfl) ?_
  refine lv_if_ne (tgt := 1273) hx hb dL_law_1258 (by decide) (fun _ => ?_) (fun c10 => absurd c10 (by decide))
  refine lv_goto (tgt := 2336) hx hb dL_law_1273 (by decide) ?_
  exact lw_end X hX hbl hbA (by omega) I (lv_sub hl [2, 6] rfl) (Nat.le_of_ble_eq_true rfl) (Nat.le_of_ble_eq_true rfl)

set_option maxHeartbeats 4000000 in
set_option maxRecDepth 100000 in
theorem lc_23_i01 {p : Program} {l : Launch} {e : Env} {s : State} {m : MethodId} {below : List Frame} {meth : Method} {c : Code} {H : Heap} {locs : List Loc} {ls : Array Slot} {D : va_G} {cI cJ : ClassId} {b L : Nat} {xs : Nat → Int32} {zb : Nat} {zt : Nat} {zn : Nat} {zv : Nat} {zs : Nat} {zp : Nat} {zq : Nat → Nat} {zu : Nat → Nat} {zh : Nat} {zst : Nat} {zre : Nat} {zb0 : Nat} {zb1 : Nat} {zb3 : Nat} {zb4 : Nat} {zb5 : Nat} {zx : Nat} {zg : Nat → Int64} {za : Nat} {zr : Nat → Nat} {zj : Nat} {zv9 : Nat} (hst : l.stackTraces = false) (X : fb_Bx p s m #[Value.ref b] meth c cL_law RL 9 (some .boolean) D (fb_ty D cI cJ) (fun q : Nat => s.heap.size ≤ q)) (hX : va_X b L xs s s.heap) (hbl : b < s.heap.size) (hbA : ¬ (fun q : Nat => s.heap.size ≤ q) b) (hL6 : L = 6) (hz : xs 1 = nI zj) (hw : xs 2 = nI zv9) (hj : zj < 4096) (hv : zj ≤ zv9 ∧ zv9 < 4096) (q1 : f_X12_isIn (nI zv9) (nI zj) (4095 : Int32) = (1 : Int32)) (z3 : xs 3 = 0) (z4 : ¬ xs 4 = 0) (I : fb_In D (fun q : Nat => s.heap.size ≤ q) s.heap (([fb_o11 zb zt zn zv zs zp (zq 0) (zu 0) zh zst zre, fb_o7 zst zb0 zb1 zb3 zb4 zb5 (fun _ => 0), fb_aw cI zb3 4 (fun _ => 0), fb_aw cI zb4 4 (fun _ => 0), fb_aw cI zb5 4 (fun _ => 0), fb_jw cJ zx 1 zg, fb_o12 za zr fr_e0, fb_aw cI (zr 14) 4 (fun _ => 0), fb_aw cI (zr 15) 4 (fun _ => 0), fb_aw (D.1 20) (zr 16) 4 (fun _ => 0), fb_aw (D.1 20) (zr 17) 4 (fun _ => 0)] : List va_W).flatten) H locs) (hl : lv_has ls 9 [(4, .int (0 : Int32)), (3, .ref zx), (2, .ref za), (1, .ref zb), (0, .ref b)]) : W p l e room_1 s m #[Value.ref b] below meth c H locs 209 179241 (lw_Z below #[Value.ref b] s) (F0 m 1152 ls []) := by
  obtain ⟨hx, hb, hr, hml, hown, hts, hlk, hA, hK, hF⟩ := id X
  refine lv_aload_n hx hb dL_law_1152 rfl (lv_at hl 3 rfl) ?_
  refine lv_aload_n hx hb dL_law_1153 rfl (lv_at hl 4 rfl) ?_
  refine lv_iload hx hb dL_law_1154 (lv_at hl 0 rfl) ?_
  refine lv_iconst (v := (1 : Int32)) hx hb dL_law_1156 (by decide) ?_
  refine lv_iadd hx hb dL_law_1157 ?_
  refine fb_tI (v := (1 : Int32)) (by decide) ?_
  refine va_sld (i := (1 : Int32)) hx hb hX hbl hbA I.2.2 (fb_inC (n := 1) (by decide) (by decide) (by omega)) dL_law_1158 ?_
  refine fb_tI (v := (xs 1)) rfl ?_
  refine fb_tI (v := (nI zj)) hz ?_
  refine lv_aload_n hx hb dL_law_1159 rfl (lv_at hl 4 rfl) ?_
  refine lv_iload hx hb dL_law_1160 (lv_at hl 0 rfl) ?_
  refine lv_iconst (v := (2 : Int32)) hx hb dL_law_1162 (by decide) ?_
  refine lv_iadd hx hb dL_law_1163 ?_
  refine fb_tI (v := (2 : Int32)) (by decide) ?_
  refine va_sld (i := (2 : Int32)) hx hb hX hbl hbA I.2.2 (fb_inC (n := 2) (by decide) (by decide) (by omega)) dL_law_1164 ?_
  refine fb_tI (v := (xs 2)) rfl ?_
  refine fb_tI (v := (nI zv9)) hw ?_
  refine lv_aload_n hx hb dL_law_1165 rfl (lv_at hl 4 rfl) ?_
  refine lv_iload hx hb dL_law_1166 (lv_at hl 0 rfl) ?_
  refine lv_iconst (v := (3 : Int32)) hx hb dL_law_1168 (by decide) ?_
  refine lv_iadd hx hb dL_law_1169 ?_
  refine fb_tI (v := (3 : Int32)) (by decide) ?_
  refine va_sld (i := (3 : Int32)) hx hb hX hbl hbA I.2.2 (fb_inC (n := 3) (by decide) (by decide) (by omega)) dL_law_1170 ?_
  refine fb_tI (v := (xs 3)) rfl ?_
  refine lv_if_eq (tgt := 1178) hx hb dL_law_1171 (by decide) (fun _ => ?_) (fun c1 => absurd z3 c1)
  refine lv_iconst (v := (0 : Int32)) hx hb dL_law_1178 (by decide) ?_
  refine lv_aload_n hx hb dL_law_1179 rfl (lv_at hl 4 rfl) ?_
  refine lv_iload hx hb dL_law_1180 (lv_at hl 0 rfl) ?_
  refine lv_iconst (v := (4 : Int32)) hx hb dL_law_1182 (by decide) ?_
  refine lv_iadd hx hb dL_law_1183 ?_
  refine fb_tI (v := (4 : Int32)) (by decide) ?_
  refine va_sld (i := (4 : Int32)) hx hb hX hbl hbA I.2.2 (fb_inC (n := 4) (by decide) (by decide) (by omega)) dL_law_1184 ?_
  refine fb_tI (v := (xs 4)) rfl ?_
  refine lv_if_eq (tgt := 1192) hx hb dL_law_1185 (by decide) (fun c2 => absurd c2 z4) (fun _ => ?_)
  refine lv_iconst (v := (1 : Int32)) hx hb dL_law_1188 (by decide) ?_
  refine lv_goto (tgt := 1193) hx hb dL_law_1189 (by decide) ?_
  refine lv_aload_n hx hb dL_law_1193 rfl (lv_at hl 1 rfl) ?_
  refine fb_gI (cs := [fb_o11 zb zt zn zv zs zp (zq 0) (zu 0) zh zst zre, fb_o7 zst zb0 zb1 zb3 zb4 zb5 (fun _ => 0), fb_aw cI zb3 4 (fun _ => 0), fb_aw cI zb4 4 (fun _ => 0), fb_aw cI zb5 4 (fun _ => 0), fb_jw cJ zx 1 zg]) (rs := [fb_o12 za zr fr_e0, fb_aw cI (zr 14) 4 (fun _ => 0), fb_aw cI (zr 15) 4 (fun _ => 0), fb_aw (D.1 20) (zr 16) 4 (fun _ => 0), fb_aw (D.1 20) (zr 17) 4 (fun _ => 0)]) (fun (t : Unit) => [fb_jw cJ zx 1 (vp_updL zg 0 (((1 : Int32)).toInt64)), fb_o12 za zr fr_e0, fb_aw cI (zr 14) 4 (fun _ => 0), fb_aw cI (zr 15) 4 (fun _ => 0), fb_aw (D.1 20) (zr 16) 4 (fun _ => 0), fb_aw (D.1 20) (zr 17) 4 (fun _ => 0)]) (fun (t : Unit) => [fb_jw cJ zx 1 (vp_updL zg 0 (((1 : Int32)).toInt64))]) X I [0, 1, 2, 3, 4, 5, 6, 7, 8, 9, 10] 11 rfl (by decide +kernel) rfl rfl [0, 1, 2, 3, 4, 5] 6 (fun _ => rfl) (by decide +kernel) (fun _ => rfl) (fun _ => rfl) (fun I => fb_rSW (As := [.ref zb, .int (nI zj), .int (nI zv9), .int (0 : Int32), .int (1 : Int32), .ref zx]) (rest := []) X hl (fb_goodSW fw_1810 fw_1811 fw_190 fw_1812) (c_w_setWatch_in l D cI cJ zb zt zn zv zs zp zq zu zh zst zre zb0 zb1 zb3 zb4 zb5 zx zg zj zv9 false true _ hst (by omega) (by omega)) rfl rfl (by decide +kernel : fb_hd yL_setWatch 6) ⟨Nat.le_of_ble_eq_true rfl, Nat.le_of_ble_eq_true rfl⟩ rfl rfl (Nat.le_of_ble_eq_true rfl) ⟨Nat.le_of_ble_eq_true rfl, Nat.le_of_ble_eq_true rfl⟩ dL_law_1194 I) ?_
  intro r4 w3 H locs e0 I
  subst e0
  have I : fb_In D (fun q : Nat => s.heap.size ≤ q) s.heap (([fb_jw cJ zx 1 (vp_updL zg 0 (((1 : Int32)).toInt64)), fb_o12 za zr fr_e0, fb_aw cI (zr 14) 4 (fun _ => 0), fb_aw cI (zr 15) 4 (fun _ => 0), fb_aw (D.1 20) (zr 16) 4 (fun _ => 0), fb_aw (D.1 20) (zr 17) 4 (fun _ => 0)] : List va_W).flatten) H locs := I
  refine lv_istore (lv' := [(5, .int (0 : Int32)), (4, .int (0 : Int32)), (3, .ref zx), (2, .ref za), (1, .ref zb), (0, .ref b)]) hx hb dL_law_1197 hl (by decide) rfl (fun ls hl => ?_)
  refine lv_aload_n hx hb dL_law_1199 rfl (lv_at hl 3 rfl) ?_
  refine lv_aload_n hx hb dL_law_1200 rfl (lv_at hl 5 rfl) ?_
  refine lv_iload hx hb dL_law_1201 (lv_at hl 1 rfl) ?_
  refine lv_iconst (v := (1 : Int32)) hx hb dL_law_1203 (by decide) ?_
  refine lv_iadd hx hb dL_law_1204 ?_
  refine fb_tI (v := (1 : Int32)) (by decide) ?_
  refine va_sld (i := (1 : Int32)) hx hb hX hbl hbA I.2.2 (fb_inC (n := 1) (by decide) (by decide) (by omega)) dL_law_1205 ?_
  refine fb_tI (v := (xs 1)) rfl ?_
  refine fb_tI (v := (nI zj)) hz ?_
  refine lv_aload_n hx hb dL_law_1206 rfl (lv_at hl 5 rfl) ?_
  refine lv_iload hx hb dL_law_1207 (lv_at hl 1 rfl) ?_
  refine lv_iconst (v := (2 : Int32)) hx hb dL_law_1209 (by decide) ?_
  refine lv_iadd hx hb dL_law_1210 ?_
  refine fb_tI (v := (2 : Int32)) (by decide) ?_
  refine va_sld (i := (2 : Int32)) hx hb hX hbl hbA I.2.2 (fb_inC (n := 2) (by decide) (by decide) (by omega)) dL_law_1211 ?_
  refine fb_tI (v := (xs 2)) rfl ?_
  refine fb_tI (v := (nI zv9)) hw ?_
  refine lv_aload_n hx hb dL_law_1212 rfl (lv_at hl 5 rfl) ?_
  refine lv_iload hx hb dL_law_1213 (lv_at hl 1 rfl) ?_
  refine lv_iconst (v := (3 : Int32)) hx hb dL_law_1215 (by decide) ?_
  refine lv_iadd hx hb dL_law_1216 ?_
  refine fb_tI (v := (3 : Int32)) (by decide) ?_
  refine va_sld (i := (3 : Int32)) hx hb hX hbl hbA I.2.2 (fb_inC (n := 3) (by decide) (by decide) (by omega)) dL_law_1217 ?_
  refine fb_tI (v := (xs 3)) rfl ?_
  refine lv_if_eq (tgt := 1225) hx hb dL_law_1218 (by decide) (fun _ => ?_) (fun c5 => absurd z3 c5)
  refine lv_iconst (v := (0 : Int32)) hx hb dL_law_1225 (by decide) ?_
  refine lv_aload_n hx hb dL_law_1226 rfl (lv_at hl 5 rfl) ?_
  refine lv_iload hx hb dL_law_1227 (lv_at hl 1 rfl) ?_
  refine lv_iconst (v := (4 : Int32)) hx hb dL_law_1229 (by decide) ?_
  refine lv_iadd hx hb dL_law_1230 ?_
  refine fb_tI (v := (4 : Int32)) (by decide) ?_
  refine va_sld (i := (4 : Int32)) hx hb hX hbl hbA I.2.2 (fb_inC (n := 4) (by decide) (by decide) (by omega)) dL_law_1231 ?_
  refine fb_tI (v := (xs 4)) rfl ?_
  refine lv_if_eq (tgt := 1239) hx hb dL_law_1232 (by decide) (fun c6 => absurd c6 z4) (fun _ => ?_)
  refine lv_iconst (v := (1 : Int32)) hx hb dL_law_1235 (by decide) ?_
  refine lv_goto (tgt := 1240) hx hb dL_law_1236 (by decide) ?_
  refine fb_gI (cs := [fb_o12 za zr fr_e0, fb_aw cI (zr 14) 4 (fun _ => 0), fb_aw cI (zr 15) 4 (fun _ => 0), fb_aw (D.1 20) (zr 16) 4 (fun _ => 0), fb_aw (D.1 20) (zr 17) 4 (fun _ => 0)]) (rs := [fb_jw cJ zx 1 (vp_updL zg 0 (((1 : Int32)).toInt64))]) (fun (t : Unit) => [fb_jw cJ zx 1 (vp_updL zg 0 (((1 : Int32)).toInt64)), fb_o12 za zr (upd (upd fr_e0 19 (0 : Int32)) 18 (1 : Int32)), fb_aw cI (zr 14) 4 (upd (fun _ => 0) 0 (nI zj)), fb_aw cI (zr 15) 4 (upd (fun _ => 0) 0 (nI zv9)), fb_aw (D.1 20) (zr 16) 4 (upd (fun _ => 0) 0 (fb_bI false)), fb_aw (D.1 20) (zr 17) 4 (upd (fun _ => 0) 0 (fb_bI true))]) (fun (t : Unit) => [fb_o12 za zr (upd (upd fr_e0 19 (0 : Int32)) 18 (1 : Int32)), fb_aw cI (zr 14) 4 (upd (fun _ => 0) 0 (nI zj)), fb_aw cI (zr 15) 4 (upd (fun _ => 0) 0 (nI zv9)), fb_aw (D.1 20) (zr 16) 4 (upd (fun _ => 0) 0 (fb_bI false)), fb_aw (D.1 20) (zr 17) 4 (upd (fun _ => 0) 0 (fb_bI true))]) X I [1, 2, 3, 4, 5, 0] 6 rfl (by decide +kernel) rfl rfl [1, 2, 3, 4, 5, 0] 6 (fun _ => rfl) (by decide +kernel) (fun _ => rfl) (fun _ => rfl) (fun I => fb_rV (As := [.int (nI zj), .int (nI zv9), .int (0 : Int32), .int (1 : Int32)]) (rest := []) X hl (fb_goodV fw_2615 fw_2616 fw_2617 fw_204 fw_2618) (c_setWatch_in l D cI cJ za zr zj (nI zv9) (fun _ => 0) (fun _ => 0) (fun _ => 0) (fun _ => 0) false true _ (by omega) q1) rfl rfl rfl (by decide +kernel : fb_hd yX12_setWatch 4) ⟨Nat.le_of_ble_eq_true rfl, Nat.le_of_ble_eq_true rfl⟩ rfl rfl rfl rfl rfl (Nat.le_of_ble_eq_true rfl) ⟨Nat.le_of_ble_eq_true rfl, Nat.le_of_ble_eq_true rfl⟩ dL_law_1240 I) ?_
  intro r8 w7 H locs e0 I
  subst e0
  have I : fb_In D (fun q : Nat => s.heap.size ≤ q) s.heap (([fb_jw cJ zx 1 (vp_updL zg 0 (((1 : Int32)).toInt64)), fb_o12 za zr (upd (upd fr_e0 19 (0 : Int32)) 18 (1 : Int32)), fb_aw cI (zr 14) 4 (upd (fun _ => 0) 0 (nI zj)), fb_aw cI (zr 15) 4 (upd (fun _ => 0) 0 (nI zv9)), fb_aw (D.1 20) (zr 16) 4 (upd (fun _ => 0) 0 (fb_bI false)), fb_aw (D.1 20) (zr 17) 4 (upd (fun _ => 0) 0 (fb_bI true))] : List va_W).flatten) H locs := I
  refine lv_istore (lv' := [(6, .int (1 : Int32)), (5, .int (0 : Int32)), (4, .int (0 : Int32)), (3, .ref zx), (2, .ref za), (1, .ref zb), (0, .ref b)]) hx hb dL_law_1243 hl (by decide) rfl (fun ls hl => ?_)
  refine lv_aload_n hx hb dL_law_1245 rfl (lv_at hl 4 rfl) ?_
  refine fb_gO (cs := [fb_o12 za zr (upd (upd fr_e0 19 (0 : Int32)) 18 (1 : Int32))]) (rs := [fb_jw cJ zx 1 (vp_updL zg 0 (((1 : Int32)).toInt64)), fb_aw cI (zr 14) 4 (upd (fun _ => 0) 0 (nI zj)), fb_aw cI (zr 15) 4 (upd (fun _ => 0) 0 (nI zv9)), fb_aw (D.1 20) (zr 16) 4 (upd (fun _ => 0) 0 (fb_bI false)), fb_aw (D.1 20) (zr 17) 4 (upd (fun _ => 0) 0 (fb_bI true))]) X I [1, 0, 2, 3, 4, 5] 6 rfl (by decide +kernel) rfl rfl (fun I => fb_rV (As := []) (rest := []) X hl (fb_goodV fw_2119 fw_2120 fw_2121 fw_204 fw_2122) (c_thrown l D cI cJ za zr (upd (upd fr_e0 19 (0 : Int32)) 18 (1 : Int32)) _ ) rfl rfl rfl (by decide +kernel : fb_hd yX12_thrown 0) ⟨Nat.le_of_ble_eq_true rfl, Nat.le_of_ble_eq_true rfl⟩ rfl rfl rfl rfl rfl (Nat.le_of_ble_eq_true rfl) ⟨Nat.le_of_ble_eq_true rfl, Nat.le_of_ble_eq_true rfl⟩ dL_law_1246 I) ?_
  refine fb_tI (v := (0 : Int32)) rfl ?_
  refine lv_iload hx hb dL_law_1249 (lv_at hl 1 rfl) ?_
  refine lv_icmp_eq (tgt := 1256) hx hb dL_law_1251 (by decide) (fun _ => ?_) (fun c9 => absurd rfl c9)
  refine lv_iload hx hb dL_law_1256 (lv_at hl 1 rfl) ?_
  refine lv_if_ne (tgt := 1273) hx hb dL_law_1258 (by decide) (fun c10 => absurd (by decide) c10) (fun _ => ?_)
  refine lv_aload_n hx hb dL_law_1261 rfl (lv_at hl 3 rfl) ?_
  refine lv_iconst (v := (0 : Int32)) hx hb dL_law_1262 (by decide) ?_
  refine va_lald (i := (0 : Int32)) hx hb hK.1 I.1 0 1 rfl rfl (fb_inC (n := 0) (by decide) (by decide) (Nat.le_of_ble_eq_true rfl)) dL_law_1263 ?_
  refine fb_tL (v := (((1 : Int32)).toInt64)) rfl ?_
  refine lv_iload hx hb dL_law_1264 (lv_at hl 0 rfl) ?_
  refine lv_i2l (v := (((1 : Int32)).toInt64)) hx hb dL_law_1266 rfl ?_
  refine W.lcmp hx hb dL_law_1267 ?_
  refine fb_tI (v := (0 : Int32)) (lw_cmp0 _) ?_
  refine lv_if_eq (tgt := 1273) hx hb dL_law_1268 (by decide) (fun _ => ?_) (fun c11 => absurd (by decide) c11)
  refine lv_goto (tgt := 2336) hx hb dL_law_1273 (by decide) ?_
  exact lw_end X hX hbl hbA (by omega) I (lv_sub hl [2, 6] rfl) (Nat.le_of_ble_eq_true rfl) (Nat.le_of_ble_eq_true rfl)

set_option maxHeartbeats 4000000 in
set_option maxRecDepth 100000 in
theorem lc_23_o10 {p : Program} {l : Launch} {e : Env} {s : State} {m : MethodId} {below : List Frame} {meth : Method} {c : Code} {H : Heap} {locs : List Loc} {ls : Array Slot} {D : va_G} {cI cJ : ClassId} {b L : Nat} {xs : Nat → Int32} {zb : Nat} {zt : Nat} {zn : Nat} {zv : Nat} {zs : Nat} {zp : Nat} {zq : Nat → Nat} {zu : Nat → Nat} {zh : Nat} {zst : Nat} {zre : Nat} {zx : Nat} {zg : Nat → Int64} {za : Nat} {zr : Nat → Nat} (hst : l.stackTraces = false) (X : fb_Bx p s m #[Value.ref b] meth c cL_law RL 9 (some .boolean) D (fb_ty D cI cJ) (fun q : Nat => s.heap.size ≤ q)) (hX : va_X b L xs s s.heap) (hbl : b < s.heap.size) (hbA : ¬ (fun q : Nat => s.heap.size ≤ q) b) (hL6 : L = 6) (gA : f_X11_isNoAddress (xs 1) = (1 : Int32)) (q1 : f_X12_isIn (xs 1) (0 : Int32) (4095 : Int32) = (0 : Int32)) (z3 : ¬ xs 3 = 0) (z4 : xs 4 = 0) (I : fb_In D (fun q : Nat => s.heap.size ≤ q) s.heap (([fb_o11 zb zt zn zv zs zp (zq 0) (zu 0) zh zst zre, fb_jw cJ zx 1 zg, fb_o12 za zr fr_e0] : List va_W).flatten) H locs) (hl : lv_has ls 9 [(4, .int (0 : Int32)), (3, .ref zx), (2, .ref za), (1, .ref zb), (0, .ref b)]) : W p l e room_1 s m #[Value.ref b] below meth c H locs 209 179241 (lw_Z below #[Value.ref b] s) (F0 m 1152 ls []) := by
  obtain ⟨hx, hb, hr, hml, hown, hts, hlk, hA, hK, hF⟩ := id X
  refine lv_aload_n hx hb dL_law_1152 rfl (lv_at hl 3 rfl) ?_
  refine lv_aload_n hx hb dL_law_1153 rfl (lv_at hl 4 rfl) ?_
  refine lv_iload hx hb dL_law_1154 (lv_at hl 0 rfl) ?_
  refine lv_iconst (v := (1 : Int32)) hx hb dL_law_1156 (by decide) ?_
  refine lv_iadd hx hb dL_law_1157 ?_
  refine fb_tI (v := (1 : Int32)) (by decide) ?_
  refine va_sld (i := (1 : Int32)) hx hb hX hbl hbA I.2.2 (fb_inC (n := 1) (by decide) (by decide) (by omega)) dL_law_1158 ?_
  refine fb_tI (v := (xs 1)) rfl ?_
  refine lv_aload_n hx hb dL_law_1159 rfl (lv_at hl 4 rfl) ?_
  refine lv_iload hx hb dL_law_1160 (lv_at hl 0 rfl) ?_
  refine lv_iconst (v := (2 : Int32)) hx hb dL_law_1162 (by decide) ?_
  refine lv_iadd hx hb dL_law_1163 ?_
  refine fb_tI (v := (2 : Int32)) (by decide) ?_
  refine va_sld (i := (2 : Int32)) hx hb hX hbl hbA I.2.2 (fb_inC (n := 2) (by decide) (by decide) (by omega)) dL_law_1164 ?_
  refine fb_tI (v := (xs 2)) rfl ?_
  refine lv_aload_n hx hb dL_law_1165 rfl (lv_at hl 4 rfl) ?_
  refine lv_iload hx hb dL_law_1166 (lv_at hl 0 rfl) ?_
  refine lv_iconst (v := (3 : Int32)) hx hb dL_law_1168 (by decide) ?_
  refine lv_iadd hx hb dL_law_1169 ?_
  refine fb_tI (v := (3 : Int32)) (by decide) ?_
  refine va_sld (i := (3 : Int32)) hx hb hX hbl hbA I.2.2 (fb_inC (n := 3) (by decide) (by decide) (by omega)) dL_law_1170 ?_
  refine fb_tI (v := (xs 3)) rfl ?_
  refine lv_if_eq (tgt := 1178) hx hb dL_law_1171 (by decide) (fun c1 => absurd c1 z3) (fun _ => ?_)
  refine lv_iconst (v := (1 : Int32)) hx hb dL_law_1174 (by decide) ?_
  refine lv_goto (tgt := 1179) hx hb dL_law_1175 (by decide) ?_
  refine lv_aload_n hx hb dL_law_1179 rfl (lv_at hl 4 rfl) ?_
  refine lv_iload hx hb dL_law_1180 (lv_at hl 0 rfl) ?_
  refine lv_iconst (v := (4 : Int32)) hx hb dL_law_1182 (by decide) ?_
  refine lv_iadd hx hb dL_law_1183 ?_
  refine fb_tI (v := (4 : Int32)) (by decide) ?_
  refine va_sld (i := (4 : Int32)) hx hb hX hbl hbA I.2.2 (fb_inC (n := 4) (by decide) (by decide) (by omega)) dL_law_1184 ?_
  refine fb_tI (v := (xs 4)) rfl ?_
  refine lv_if_eq (tgt := 1192) hx hb dL_law_1185 (by decide) (fun _ => ?_) (fun c2 => absurd z4 c2)
  refine lv_iconst (v := (0 : Int32)) hx hb dL_law_1192 (by decide) ?_
  refine lv_aload_n hx hb dL_law_1193 rfl (lv_at hl 1 rfl) ?_
  refine fb_gI (cs := [fb_o11 zb zt zn zv zs zp (zq 0) (zu 0) zh zst zre, fb_jw cJ zx 1 zg]) (rs := [fb_o12 za zr fr_e0]) (fun (t : Unit) => [fb_jw cJ zx 1 zg, fb_o12 za zr fr_e0]) (fun (t : Unit) => [fb_jw cJ zx 1 zg]) X I [0, 1, 2] 3 rfl (by decide +kernel) rfl rfl [0, 1] 2 (fun _ => rfl) (by decide +kernel) (fun _ => rfl) (fun _ => rfl) (fun I => fb_rSW (As := [.ref zb, .int (xs 1), .int (xs 2), .int (1 : Int32), .int (0 : Int32), .ref zx]) (rest := []) X hl (fb_goodSW fw_1810 fw_1811 fw_190 fw_1812) (c_w_setWatch_o l D cI cJ zb zt zn zv zs zp zq zu zh zst zre zx zg (xs 1) (xs 2) true false _ hst gA) rfl rfl (by decide +kernel : fb_hd yL_setWatch 6) ⟨Nat.le_of_ble_eq_true rfl, Nat.le_of_ble_eq_true rfl⟩ rfl rfl (Nat.le_of_ble_eq_true rfl) ⟨Nat.le_of_ble_eq_true rfl, Nat.le_of_ble_eq_true rfl⟩ dL_law_1194 I) ?_
  intro r4 w3 H locs e0 I
  subst e0
  have I : fb_In D (fun q : Nat => s.heap.size ≤ q) s.heap (([fb_jw cJ zx 1 zg, fb_o12 za zr fr_e0] : List va_W).flatten) H locs := I
  refine lv_istore (lv' := [(5, .int (1 : Int32)), (4, .int (0 : Int32)), (3, .ref zx), (2, .ref za), (1, .ref zb), (0, .ref b)]) hx hb dL_law_1197 hl (by decide) rfl (fun ls hl => ?_)
  refine lv_aload_n hx hb dL_law_1199 rfl (lv_at hl 3 rfl) ?_
  refine lv_aload_n hx hb dL_law_1200 rfl (lv_at hl 5 rfl) ?_
  refine lv_iload hx hb dL_law_1201 (lv_at hl 1 rfl) ?_
  refine lv_iconst (v := (1 : Int32)) hx hb dL_law_1203 (by decide) ?_
  refine lv_iadd hx hb dL_law_1204 ?_
  refine fb_tI (v := (1 : Int32)) (by decide) ?_
  refine va_sld (i := (1 : Int32)) hx hb hX hbl hbA I.2.2 (fb_inC (n := 1) (by decide) (by decide) (by omega)) dL_law_1205 ?_
  refine fb_tI (v := (xs 1)) rfl ?_
  refine lv_aload_n hx hb dL_law_1206 rfl (lv_at hl 5 rfl) ?_
  refine lv_iload hx hb dL_law_1207 (lv_at hl 1 rfl) ?_
  refine lv_iconst (v := (2 : Int32)) hx hb dL_law_1209 (by decide) ?_
  refine lv_iadd hx hb dL_law_1210 ?_
  refine fb_tI (v := (2 : Int32)) (by decide) ?_
  refine va_sld (i := (2 : Int32)) hx hb hX hbl hbA I.2.2 (fb_inC (n := 2) (by decide) (by decide) (by omega)) dL_law_1211 ?_
  refine fb_tI (v := (xs 2)) rfl ?_
  refine lv_aload_n hx hb dL_law_1212 rfl (lv_at hl 5 rfl) ?_
  refine lv_iload hx hb dL_law_1213 (lv_at hl 1 rfl) ?_
  refine lv_iconst (v := (3 : Int32)) hx hb dL_law_1215 (by decide) ?_
  refine lv_iadd hx hb dL_law_1216 ?_
  refine fb_tI (v := (3 : Int32)) (by decide) ?_
  refine va_sld (i := (3 : Int32)) hx hb hX hbl hbA I.2.2 (fb_inC (n := 3) (by decide) (by decide) (by omega)) dL_law_1217 ?_
  refine fb_tI (v := (xs 3)) rfl ?_
  refine lv_if_eq (tgt := 1225) hx hb dL_law_1218 (by decide) (fun c5 => absurd c5 z3) (fun _ => ?_)
  refine lv_iconst (v := (1 : Int32)) hx hb dL_law_1221 (by decide) ?_
  refine lv_goto (tgt := 1226) hx hb dL_law_1222 (by decide) ?_
  refine lv_aload_n hx hb dL_law_1226 rfl (lv_at hl 5 rfl) ?_
  refine lv_iload hx hb dL_law_1227 (lv_at hl 1 rfl) ?_
  refine lv_iconst (v := (4 : Int32)) hx hb dL_law_1229 (by decide) ?_
  refine lv_iadd hx hb dL_law_1230 ?_
  refine fb_tI (v := (4 : Int32)) (by decide) ?_
  refine va_sld (i := (4 : Int32)) hx hb hX hbl hbA I.2.2 (fb_inC (n := 4) (by decide) (by decide) (by omega)) dL_law_1231 ?_
  refine fb_tI (v := (xs 4)) rfl ?_
  refine lv_if_eq (tgt := 1239) hx hb dL_law_1232 (by decide) (fun _ => ?_) (fun c6 => absurd z4 c6)
  refine lv_iconst (v := (0 : Int32)) hx hb dL_law_1239 (by decide) ?_
  refine fb_gI (cs := [fb_o12 za zr fr_e0]) (rs := [fb_jw cJ zx 1 zg]) (fun (t : Unit) => [fb_jw cJ zx 1 zg, fb_o12 za zr (upd (upd fr_e0 19 (0 : Int32)) 19 (1 : Int32))]) (fun (t : Unit) => [fb_o12 za zr (upd (upd fr_e0 19 (0 : Int32)) 19 (1 : Int32))]) X I [1, 0] 2 rfl (by decide +kernel) rfl rfl [1, 0] 2 (fun _ => rfl) (by decide +kernel) (fun _ => rfl) (fun _ => rfl) (fun I => fb_rV (As := [.int (xs 1), .int (xs 2), .int (1 : Int32), .int (0 : Int32)]) (rest := []) X hl (fb_goodV fw_2615 fw_2616 fw_2617 fw_204 fw_2618) (c_setWatch_out l D cI cJ za zr (xs 1) (xs 2) true false _ q1) rfl rfl rfl (by decide +kernel : fb_hd yX12_setWatch 4) ⟨Nat.le_of_ble_eq_true rfl, Nat.le_of_ble_eq_true rfl⟩ rfl rfl rfl rfl rfl (Nat.le_of_ble_eq_true rfl) ⟨Nat.le_of_ble_eq_true rfl, Nat.le_of_ble_eq_true rfl⟩ dL_law_1240 I) ?_
  intro r8 w7 H locs e0 I
  subst e0
  have I : fb_In D (fun q : Nat => s.heap.size ≤ q) s.heap (([fb_jw cJ zx 1 zg, fb_o12 za zr (upd (upd fr_e0 19 (0 : Int32)) 19 (1 : Int32))] : List va_W).flatten) H locs := I
  refine lv_istore (lv' := [(6, .int (0 : Int32)), (5, .int (1 : Int32)), (4, .int (0 : Int32)), (3, .ref zx), (2, .ref za), (1, .ref zb), (0, .ref b)]) hx hb dL_law_1243 hl (by decide) rfl (fun ls hl => ?_)
  refine lv_aload_n hx hb dL_law_1245 rfl (lv_at hl 4 rfl) ?_
  refine fb_gO (cs := [fb_o12 za zr (upd (upd fr_e0 19 (0 : Int32)) 19 (1 : Int32))]) (rs := [fb_jw cJ zx 1 zg]) X I [1, 0] 2 rfl (by decide +kernel) rfl rfl (fun I => fb_rV (As := []) (rest := []) X hl (fb_goodV fw_2119 fw_2120 fw_2121 fw_204 fw_2122) (c_thrown l D cI cJ za zr (upd (upd fr_e0 19 (0 : Int32)) 19 (1 : Int32)) _ ) rfl rfl rfl (by decide +kernel : fb_hd yX12_thrown 0) ⟨Nat.le_of_ble_eq_true rfl, Nat.le_of_ble_eq_true rfl⟩ rfl rfl rfl rfl rfl (Nat.le_of_ble_eq_true rfl) ⟨Nat.le_of_ble_eq_true rfl, Nat.le_of_ble_eq_true rfl⟩ dL_law_1246 I) ?_
  refine fb_tI (v := (1 : Int32)) rfl ?_
  refine lv_iload hx hb dL_law_1249 (lv_at hl 1 rfl) ?_
  refine lv_icmp_eq (tgt := 1256) hx hb dL_law_1251 (by decide) (fun _ => ?_) (fun c9 => absurd rfl c9)
  refine lv_iload hx hb dL_law_1256 (lv_at hl 1 rfl) ?_
  refine lv_if_ne (tgt := 1273) hx hb dL_law_1258 (by decide) (fun _ => ?_) (fun c10 => absurd c10 (by decide))
  refine lv_goto (tgt := 2336) hx hb dL_law_1273 (by decide) ?_
  exact lw_end X hX hbl hbA (by omega) I (lv_sub hl [2, 6] rfl) (Nat.le_of_ble_eq_true rfl) (Nat.le_of_ble_eq_true rfl)

set_option maxHeartbeats 4000000 in
set_option maxRecDepth 100000 in
theorem lc_23_p10 {p : Program} {l : Launch} {e : Env} {s : State} {m : MethodId} {below : List Frame} {meth : Method} {c : Code} {H : Heap} {locs : List Loc} {ls : Array Slot} {D : va_G} {cI cJ : ClassId} {b L : Nat} {xs : Nat → Int32} {zb : Nat} {zt : Nat} {zn : Nat} {zv : Nat} {zs : Nat} {zp : Nat} {zq : Nat → Nat} {zu : Nat → Nat} {zh : Nat} {zst : Nat} {zre : Nat} {zx : Nat} {zg : Nat → Int64} {za : Nat} {zr : Nat → Nat} {zj : Nat} (hst : l.stackTraces = false) (X : fb_Bx p s m #[Value.ref b] meth c cL_law RL 9 (some .boolean) D (fb_ty D cI cJ) (fun q : Nat => s.heap.size ≤ q)) (hX : va_X b L xs s s.heap) (hbl : b < s.heap.size) (hbA : ¬ (fun q : Nat => s.heap.size ≤ q) b) (hL6 : L = 6) (hz : xs 1 = nI zj) (hj : zj < 4096) (gA0 : f_X11_isNoAddress (nI zj) = (0 : Int32)) (gA : f_X11_isNoAddress (xs 2) = (1 : Int32)) (q1 : f_X12_isIn (xs 2) (nI zj) (4095 : Int32) = (0 : Int32)) (z3 : ¬ xs 3 = 0) (z4 : xs 4 = 0) (I : fb_In D (fun q : Nat => s.heap.size ≤ q) s.heap (([fb_o11 zb zt zn zv zs zp (zq 0) (zu 0) zh zst zre, fb_jw cJ zx 1 zg, fb_o12 za zr fr_e0] : List va_W).flatten) H locs) (hl : lv_has ls 9 [(4, .int (0 : Int32)), (3, .ref zx), (2, .ref za), (1, .ref zb), (0, .ref b)]) : W p l e room_1 s m #[Value.ref b] below meth c H locs 209 179241 (lw_Z below #[Value.ref b] s) (F0 m 1152 ls []) := by
  obtain ⟨hx, hb, hr, hml, hown, hts, hlk, hA, hK, hF⟩ := id X
  refine lv_aload_n hx hb dL_law_1152 rfl (lv_at hl 3 rfl) ?_
  refine lv_aload_n hx hb dL_law_1153 rfl (lv_at hl 4 rfl) ?_
  refine lv_iload hx hb dL_law_1154 (lv_at hl 0 rfl) ?_
  refine lv_iconst (v := (1 : Int32)) hx hb dL_law_1156 (by decide) ?_
  refine lv_iadd hx hb dL_law_1157 ?_
  refine fb_tI (v := (1 : Int32)) (by decide) ?_
  refine va_sld (i := (1 : Int32)) hx hb hX hbl hbA I.2.2 (fb_inC (n := 1) (by decide) (by decide) (by omega)) dL_law_1158 ?_
  refine fb_tI (v := (xs 1)) rfl ?_
  refine fb_tI (v := (nI zj)) hz ?_
  refine lv_aload_n hx hb dL_law_1159 rfl (lv_at hl 4 rfl) ?_
  refine lv_iload hx hb dL_law_1160 (lv_at hl 0 rfl) ?_
  refine lv_iconst (v := (2 : Int32)) hx hb dL_law_1162 (by decide) ?_
  refine lv_iadd hx hb dL_law_1163 ?_
  refine fb_tI (v := (2 : Int32)) (by decide) ?_
  refine va_sld (i := (2 : Int32)) hx hb hX hbl hbA I.2.2 (fb_inC (n := 2) (by decide) (by decide) (by omega)) dL_law_1164 ?_
  refine fb_tI (v := (xs 2)) rfl ?_
  refine lv_aload_n hx hb dL_law_1165 rfl (lv_at hl 4 rfl) ?_
  refine lv_iload hx hb dL_law_1166 (lv_at hl 0 rfl) ?_
  refine lv_iconst (v := (3 : Int32)) hx hb dL_law_1168 (by decide) ?_
  refine lv_iadd hx hb dL_law_1169 ?_
  refine fb_tI (v := (3 : Int32)) (by decide) ?_
  refine va_sld (i := (3 : Int32)) hx hb hX hbl hbA I.2.2 (fb_inC (n := 3) (by decide) (by decide) (by omega)) dL_law_1170 ?_
  refine fb_tI (v := (xs 3)) rfl ?_
  refine lv_if_eq (tgt := 1178) hx hb dL_law_1171 (by decide) (fun c1 => absurd c1 z3) (fun _ => ?_)
  refine lv_iconst (v := (1 : Int32)) hx hb dL_law_1174 (by decide) ?_
  refine lv_goto (tgt := 1179) hx hb dL_law_1175 (by decide) ?_
  refine lv_aload_n hx hb dL_law_1179 rfl (lv_at hl 4 rfl) ?_
  refine lv_iload hx hb dL_law_1180 (lv_at hl 0 rfl) ?_
  refine lv_iconst (v := (4 : Int32)) hx hb dL_law_1182 (by decide) ?_
  refine lv_iadd hx hb dL_law_1183 ?_
  refine fb_tI (v := (4 : Int32)) (by decide) ?_
  refine va_sld (i := (4 : Int32)) hx hb hX hbl hbA I.2.2 (fb_inC (n := 4) (by decide) (by decide) (by omega)) dL_law_1184 ?_
  refine fb_tI (v := (xs 4)) rfl ?_
  refine lv_if_eq (tgt := 1192) hx hb dL_law_1185 (by decide) (fun _ => ?_) (fun c2 => absurd z4 c2)
  refine lv_iconst (v := (0 : Int32)) hx hb dL_law_1192 (by decide) ?_
  refine lv_aload_n hx hb dL_law_1193 rfl (lv_at hl 1 rfl) ?_
  refine fb_gI (cs := [fb_o11 zb zt zn zv zs zp (zq 0) (zu 0) zh zst zre, fb_jw cJ zx 1 zg]) (rs := [fb_o12 za zr fr_e0]) (fun (t : Unit) => [fb_jw cJ zx 1 zg, fb_o12 za zr fr_e0]) (fun (t : Unit) => [fb_jw cJ zx 1 zg]) X I [0, 1, 2] 3 rfl (by decide +kernel) rfl rfl [0, 1] 2 (fun _ => rfl) (by decide +kernel) (fun _ => rfl) (fun _ => rfl) (fun I => fb_rSW (As := [.ref zb, .int (nI zj), .int (xs 2), .int (1 : Int32), .int (0 : Int32), .ref zx]) (rest := []) X hl (fb_goodSW fw_1810 fw_1811 fw_190 fw_1812) (c_w_setWatch_p l D cI cJ zb zt zn zv zs zp zq zu zh zst zre zx zg (nI zj) (xs 2) true false _ hst gA0 gA) rfl rfl (by decide +kernel : fb_hd yL_setWatch 6) ⟨Nat.le_of_ble_eq_true rfl, Nat.le_of_ble_eq_true rfl⟩ rfl rfl (Nat.le_of_ble_eq_true rfl) ⟨Nat.le_of_ble_eq_true rfl, Nat.le_of_ble_eq_true rfl⟩ dL_law_1194 I) ?_
  intro r4 w3 H locs e0 I
  subst e0
  have I : fb_In D (fun q : Nat => s.heap.size ≤ q) s.heap (([fb_jw cJ zx 1 zg, fb_o12 za zr fr_e0] : List va_W).flatten) H locs := I
  refine lv_istore (lv' := [(5, .int (1 : Int32)), (4, .int (0 : Int32)), (3, .ref zx), (2, .ref za), (1, .ref zb), (0, .ref b)]) hx hb dL_law_1197 hl (by decide) rfl (fun ls hl => ?_)
  refine lv_aload_n hx hb dL_law_1199 rfl (lv_at hl 3 rfl) ?_
  refine lv_aload_n hx hb dL_law_1200 rfl (lv_at hl 5 rfl) ?_
  refine lv_iload hx hb dL_law_1201 (lv_at hl 1 rfl) ?_
  refine lv_iconst (v := (1 : Int32)) hx hb dL_law_1203 (by decide) ?_
  refine lv_iadd hx hb dL_law_1204 ?_
  refine fb_tI (v := (1 : Int32)) (by decide) ?_
  refine va_sld (i := (1 : Int32)) hx hb hX hbl hbA I.2.2 (fb_inC (n := 1) (by decide) (by decide) (by omega)) dL_law_1205 ?_
  refine fb_tI (v := (xs 1)) rfl ?_
  refine fb_tI (v := (nI zj)) hz ?_
  refine lv_aload_n hx hb dL_law_1206 rfl (lv_at hl 5 rfl) ?_
  refine lv_iload hx hb dL_law_1207 (lv_at hl 1 rfl) ?_
  refine lv_iconst (v := (2 : Int32)) hx hb dL_law_1209 (by decide) ?_
  refine lv_iadd hx hb dL_law_1210 ?_
  refine fb_tI (v := (2 : Int32)) (by decide) ?_
  refine va_sld (i := (2 : Int32)) hx hb hX hbl hbA I.2.2 (fb_inC (n := 2) (by decide) (by decide) (by omega)) dL_law_1211 ?_
  refine fb_tI (v := (xs 2)) rfl ?_
  refine lv_aload_n hx hb dL_law_1212 rfl (lv_at hl 5 rfl) ?_
  refine lv_iload hx hb dL_law_1213 (lv_at hl 1 rfl) ?_
  refine lv_iconst (v := (3 : Int32)) hx hb dL_law_1215 (by decide) ?_
  refine lv_iadd hx hb dL_law_1216 ?_
  refine fb_tI (v := (3 : Int32)) (by decide) ?_
  refine va_sld (i := (3 : Int32)) hx hb hX hbl hbA I.2.2 (fb_inC (n := 3) (by decide) (by decide) (by omega)) dL_law_1217 ?_
  refine fb_tI (v := (xs 3)) rfl ?_
  refine lv_if_eq (tgt := 1225) hx hb dL_law_1218 (by decide) (fun c5 => absurd c5 z3) (fun _ => ?_)
  refine lv_iconst (v := (1 : Int32)) hx hb dL_law_1221 (by decide) ?_
  refine lv_goto (tgt := 1226) hx hb dL_law_1222 (by decide) ?_
  refine lv_aload_n hx hb dL_law_1226 rfl (lv_at hl 5 rfl) ?_
  refine lv_iload hx hb dL_law_1227 (lv_at hl 1 rfl) ?_
  refine lv_iconst (v := (4 : Int32)) hx hb dL_law_1229 (by decide) ?_
  refine lv_iadd hx hb dL_law_1230 ?_
  refine fb_tI (v := (4 : Int32)) (by decide) ?_
  refine va_sld (i := (4 : Int32)) hx hb hX hbl hbA I.2.2 (fb_inC (n := 4) (by decide) (by decide) (by omega)) dL_law_1231 ?_
  refine fb_tI (v := (xs 4)) rfl ?_
  refine lv_if_eq (tgt := 1239) hx hb dL_law_1232 (by decide) (fun _ => ?_) (fun c6 => absurd z4 c6)
  refine lv_iconst (v := (0 : Int32)) hx hb dL_law_1239 (by decide) ?_
  refine fb_gI (cs := [fb_o12 za zr fr_e0]) (rs := [fb_jw cJ zx 1 zg]) (fun (t : Unit) => [fb_jw cJ zx 1 zg, fb_o12 za zr (upd (upd fr_e0 19 (0 : Int32)) 19 (1 : Int32))]) (fun (t : Unit) => [fb_o12 za zr (upd (upd fr_e0 19 (0 : Int32)) 19 (1 : Int32))]) X I [1, 0] 2 rfl (by decide +kernel) rfl rfl [1, 0] 2 (fun _ => rfl) (by decide +kernel) (fun _ => rfl) (fun _ => rfl) (fun I => fb_rV (As := [.int (nI zj), .int (xs 2), .int (1 : Int32), .int (0 : Int32)]) (rest := []) X hl (fb_goodV fw_2615 fw_2616 fw_2617 fw_204 fw_2618) (c_setWatch_bad l D cI cJ za zr zj (xs 2) true false _ (by omega) q1) rfl rfl rfl (by decide +kernel : fb_hd yX12_setWatch 4) ⟨Nat.le_of_ble_eq_true rfl, Nat.le_of_ble_eq_true rfl⟩ rfl rfl rfl rfl rfl (Nat.le_of_ble_eq_true rfl) ⟨Nat.le_of_ble_eq_true rfl, Nat.le_of_ble_eq_true rfl⟩ dL_law_1240 I) ?_
  intro r8 w7 H locs e0 I
  subst e0
  have I : fb_In D (fun q : Nat => s.heap.size ≤ q) s.heap (([fb_jw cJ zx 1 zg, fb_o12 za zr (upd (upd fr_e0 19 (0 : Int32)) 19 (1 : Int32))] : List va_W).flatten) H locs := I
  refine lv_istore (lv' := [(6, .int (0 : Int32)), (5, .int (1 : Int32)), (4, .int (0 : Int32)), (3, .ref zx), (2, .ref za), (1, .ref zb), (0, .ref b)]) hx hb dL_law_1243 hl (by decide) rfl (fun ls hl => ?_)
  refine lv_aload_n hx hb dL_law_1245 rfl (lv_at hl 4 rfl) ?_
  refine fb_gO (cs := [fb_o12 za zr (upd (upd fr_e0 19 (0 : Int32)) 19 (1 : Int32))]) (rs := [fb_jw cJ zx 1 zg]) X I [1, 0] 2 rfl (by decide +kernel) rfl rfl (fun I => fb_rV (As := []) (rest := []) X hl (fb_goodV fw_2119 fw_2120 fw_2121 fw_204 fw_2122) (c_thrown l D cI cJ za zr (upd (upd fr_e0 19 (0 : Int32)) 19 (1 : Int32)) _ ) rfl rfl rfl (by decide +kernel : fb_hd yX12_thrown 0) ⟨Nat.le_of_ble_eq_true rfl, Nat.le_of_ble_eq_true rfl⟩ rfl rfl rfl rfl rfl (Nat.le_of_ble_eq_true rfl) ⟨Nat.le_of_ble_eq_true rfl, Nat.le_of_ble_eq_true rfl⟩ dL_law_1246 I) ?_
  refine fb_tI (v := (1 : Int32)) rfl ?_
  refine lv_iload hx hb dL_law_1249 (lv_at hl 1 rfl) ?_
  refine lv_icmp_eq (tgt := 1256) hx hb dL_law_1251 (by decide) (fun _ => ?_) (fun c9 => absurd rfl c9)
  refine lv_iload hx hb dL_law_1256 (lv_at hl 1 rfl) ?_
  refine lv_if_ne (tgt := 1273) hx hb dL_law_1258 (by decide) (fun _ => ?_) (fun c10 => absurd c10 (by decide))
  refine lv_goto (tgt := 2336) hx hb dL_law_1273 (by decide) ?_
  exact lw_end X hX hbl hbA (by omega) I (lv_sub hl [2, 6] rfl) (Nat.le_of_ble_eq_true rfl) (Nat.le_of_ble_eq_true rfl)

set_option maxHeartbeats 4000000 in
set_option maxRecDepth 100000 in
theorem lc_23_b10 {p : Program} {l : Launch} {e : Env} {s : State} {m : MethodId} {below : List Frame} {meth : Method} {c : Code} {H : Heap} {locs : List Loc} {ls : Array Slot} {D : va_G} {cI cJ : ClassId} {b L : Nat} {xs : Nat → Int32} {zb : Nat} {zt : Nat} {zn : Nat} {zv : Nat} {zs : Nat} {zp : Nat} {zq : Nat → Nat} {zu : Nat → Nat} {zh : Nat} {zst : Nat} {zre : Nat} {zx : Nat} {zg : Nat → Int64} {za : Nat} {zr : Nat → Nat} {zj : Nat} {zv9 : Nat} (hst : l.stackTraces = false) (X : fb_Bx p s m #[Value.ref b] meth c cL_law RL 9 (some .boolean) D (fb_ty D cI cJ) (fun q : Nat => s.heap.size ≤ q)) (hX : va_X b L xs s s.heap) (hbl : b < s.heap.size) (hbA : ¬ (fun q : Nat => s.heap.size ≤ q) b) (hL6 : L = 6) (hz : xs 1 = nI zj) (hw : xs 2 = nI zv9) (hj : zj < 4096) (gA0 : f_X11_isNoAddress (nI zj) = (0 : Int32)) (gA2 : f_X11_isNoAddress (nI zv9) = (0 : Int32)) (h1 : (nI zv9) < (nI zj)) (h2 : ¬ (nI zj) ≤ (nI zv9)) (q1 : f_X12_isIn (nI zv9) (nI zj) (4095 : Int32) = (0 : Int32)) (z3 : ¬ xs 3 = 0) (z4 : xs 4 = 0) (I : fb_In D (fun q : Nat => s.heap.size ≤ q) s.heap (([fb_o11 zb zt zn zv zs zp (zq 0) (zu 0) zh zst zre, fb_jw cJ zx 1 zg, fb_o12 za zr fr_e0] : List va_W).flatten) H locs) (hl : lv_has ls 9 [(4, .int (0 : Int32)), (3, .ref zx), (2, .ref za), (1, .ref zb), (0, .ref b)]) : W p l e room_1 s m #[Value.ref b] below meth c H locs 209 179241 (lw_Z below #[Value.ref b] s) (F0 m 1152 ls []) := by
  obtain ⟨hx, hb, hr, hml, hown, hts, hlk, hA, hK, hF⟩ := id X
  refine lv_aload_n hx hb dL_law_1152 rfl (lv_at hl 3 rfl) ?_
  refine lv_aload_n hx hb dL_law_1153 rfl (lv_at hl 4 rfl) ?_
  refine lv_iload hx hb dL_law_1154 (lv_at hl 0 rfl) ?_
  refine lv_iconst (v := (1 : Int32)) hx hb dL_law_1156 (by decide) ?_
  refine lv_iadd hx hb dL_law_1157 ?_
  refine fb_tI (v := (1 : Int32)) (by decide) ?_
  refine va_sld (i := (1 : Int32)) hx hb hX hbl hbA I.2.2 (fb_inC (n := 1) (by decide) (by decide) (by omega)) dL_law_1158 ?_
  refine fb_tI (v := (xs 1)) rfl ?_
  refine fb_tI (v := (nI zj)) hz ?_
  refine lv_aload_n hx hb dL_law_1159 rfl (lv_at hl 4 rfl) ?_
  refine lv_iload hx hb dL_law_1160 (lv_at hl 0 rfl) ?_
  refine lv_iconst (v := (2 : Int32)) hx hb dL_law_1162 (by decide) ?_
  refine lv_iadd hx hb dL_law_1163 ?_
  refine fb_tI (v := (2 : Int32)) (by decide) ?_
  refine va_sld (i := (2 : Int32)) hx hb hX hbl hbA I.2.2 (fb_inC (n := 2) (by decide) (by decide) (by omega)) dL_law_1164 ?_
  refine fb_tI (v := (xs 2)) rfl ?_
  refine fb_tI (v := (nI zv9)) hw ?_
  refine lv_aload_n hx hb dL_law_1165 rfl (lv_at hl 4 rfl) ?_
  refine lv_iload hx hb dL_law_1166 (lv_at hl 0 rfl) ?_
  refine lv_iconst (v := (3 : Int32)) hx hb dL_law_1168 (by decide) ?_
  refine lv_iadd hx hb dL_law_1169 ?_
  refine fb_tI (v := (3 : Int32)) (by decide) ?_
  refine va_sld (i := (3 : Int32)) hx hb hX hbl hbA I.2.2 (fb_inC (n := 3) (by decide) (by decide) (by omega)) dL_law_1170 ?_
  refine fb_tI (v := (xs 3)) rfl ?_
  refine lv_if_eq (tgt := 1178) hx hb dL_law_1171 (by decide) (fun c1 => absurd c1 z3) (fun _ => ?_)
  refine lv_iconst (v := (1 : Int32)) hx hb dL_law_1174 (by decide) ?_
  refine lv_goto (tgt := 1179) hx hb dL_law_1175 (by decide) ?_
  refine lv_aload_n hx hb dL_law_1179 rfl (lv_at hl 4 rfl) ?_
  refine lv_iload hx hb dL_law_1180 (lv_at hl 0 rfl) ?_
  refine lv_iconst (v := (4 : Int32)) hx hb dL_law_1182 (by decide) ?_
  refine lv_iadd hx hb dL_law_1183 ?_
  refine fb_tI (v := (4 : Int32)) (by decide) ?_
  refine va_sld (i := (4 : Int32)) hx hb hX hbl hbA I.2.2 (fb_inC (n := 4) (by decide) (by decide) (by omega)) dL_law_1184 ?_
  refine fb_tI (v := (xs 4)) rfl ?_
  refine lv_if_eq (tgt := 1192) hx hb dL_law_1185 (by decide) (fun _ => ?_) (fun c2 => absurd z4 c2)
  refine lv_iconst (v := (0 : Int32)) hx hb dL_law_1192 (by decide) ?_
  refine lv_aload_n hx hb dL_law_1193 rfl (lv_at hl 1 rfl) ?_
  refine fb_gI (cs := [fb_o11 zb zt zn zv zs zp (zq 0) (zu 0) zh zst zre, fb_jw cJ zx 1 zg]) (rs := [fb_o12 za zr fr_e0]) (fun (t : Unit) => [fb_jw cJ zx 1 zg, fb_o12 za zr fr_e0]) (fun (t : Unit) => [fb_jw cJ zx 1 zg]) X I [0, 1, 2] 3 rfl (by decide +kernel) rfl rfl [0, 1] 2 (fun _ => rfl) (by decide +kernel) (fun _ => rfl) (fun _ => rfl) (fun I => fb_rSW (As := [.ref zb, .int (nI zj), .int (nI zv9), .int (1 : Int32), .int (0 : Int32), .ref zx]) (rest := []) X hl (fb_goodSW fw_1810 fw_1811 fw_190 fw_1812) (c_w_setWatch_b l D cI cJ zb zt zn zv zs zp zq zu zh zst zre zx zg (nI zj) (nI zv9) true false _ hst gA0 gA2 h1 h2) rfl rfl (by decide +kernel : fb_hd yL_setWatch 6) ⟨Nat.le_of_ble_eq_true rfl, Nat.le_of_ble_eq_true rfl⟩ rfl rfl (Nat.le_of_ble_eq_true rfl) ⟨Nat.le_of_ble_eq_true rfl, Nat.le_of_ble_eq_true rfl⟩ dL_law_1194 I) ?_
  intro r4 w3 H locs e0 I
  subst e0
  have I : fb_In D (fun q : Nat => s.heap.size ≤ q) s.heap (([fb_jw cJ zx 1 zg, fb_o12 za zr fr_e0] : List va_W).flatten) H locs := I
  refine lv_istore (lv' := [(5, .int (1 : Int32)), (4, .int (0 : Int32)), (3, .ref zx), (2, .ref za), (1, .ref zb), (0, .ref b)]) hx hb dL_law_1197 hl (by decide) rfl (fun ls hl => ?_)
  refine lv_aload_n hx hb dL_law_1199 rfl (lv_at hl 3 rfl) ?_
  refine lv_aload_n hx hb dL_law_1200 rfl (lv_at hl 5 rfl) ?_
  refine lv_iload hx hb dL_law_1201 (lv_at hl 1 rfl) ?_
  refine lv_iconst (v := (1 : Int32)) hx hb dL_law_1203 (by decide) ?_
  refine lv_iadd hx hb dL_law_1204 ?_
  refine fb_tI (v := (1 : Int32)) (by decide) ?_
  refine va_sld (i := (1 : Int32)) hx hb hX hbl hbA I.2.2 (fb_inC (n := 1) (by decide) (by decide) (by omega)) dL_law_1205 ?_
  refine fb_tI (v := (xs 1)) rfl ?_
  refine fb_tI (v := (nI zj)) hz ?_
  refine lv_aload_n hx hb dL_law_1206 rfl (lv_at hl 5 rfl) ?_
  refine lv_iload hx hb dL_law_1207 (lv_at hl 1 rfl) ?_
  refine lv_iconst (v := (2 : Int32)) hx hb dL_law_1209 (by decide) ?_
  refine lv_iadd hx hb dL_law_1210 ?_
  refine fb_tI (v := (2 : Int32)) (by decide) ?_
  refine va_sld (i := (2 : Int32)) hx hb hX hbl hbA I.2.2 (fb_inC (n := 2) (by decide) (by decide) (by omega)) dL_law_1211 ?_
  refine fb_tI (v := (xs 2)) rfl ?_
  refine fb_tI (v := (nI zv9)) hw ?_
  refine lv_aload_n hx hb dL_law_1212 rfl (lv_at hl 5 rfl) ?_
  refine lv_iload hx hb dL_law_1213 (lv_at hl 1 rfl) ?_
  refine lv_iconst (v := (3 : Int32)) hx hb dL_law_1215 (by decide) ?_
  refine lv_iadd hx hb dL_law_1216 ?_
  refine fb_tI (v := (3 : Int32)) (by decide) ?_
  refine va_sld (i := (3 : Int32)) hx hb hX hbl hbA I.2.2 (fb_inC (n := 3) (by decide) (by decide) (by omega)) dL_law_1217 ?_
  refine fb_tI (v := (xs 3)) rfl ?_
  refine lv_if_eq (tgt := 1225) hx hb dL_law_1218 (by decide) (fun c5 => absurd c5 z3) (fun _ => ?_)
  refine lv_iconst (v := (1 : Int32)) hx hb dL_law_1221 (by decide) ?_
  refine lv_goto (tgt := 1226) hx hb dL_law_1222 (by decide) ?_
  refine lv_aload_n hx hb dL_law_1226 rfl (lv_at hl 5 rfl) ?_
  refine lv_iload hx hb dL_law_1227 (lv_at hl 1 rfl) ?_
  refine lv_iconst (v := (4 : Int32)) hx hb dL_law_1229 (by decide) ?_
  refine lv_iadd hx hb dL_law_1230 ?_
  refine fb_tI (v := (4 : Int32)) (by decide) ?_
  refine va_sld (i := (4 : Int32)) hx hb hX hbl hbA I.2.2 (fb_inC (n := 4) (by decide) (by decide) (by omega)) dL_law_1231 ?_
  refine fb_tI (v := (xs 4)) rfl ?_
  refine lv_if_eq (tgt := 1239) hx hb dL_law_1232 (by decide) (fun _ => ?_) (fun c6 => absurd z4 c6)
  refine lv_iconst (v := (0 : Int32)) hx hb dL_law_1239 (by decide) ?_
  refine fb_gI (cs := [fb_o12 za zr fr_e0]) (rs := [fb_jw cJ zx 1 zg]) (fun (t : Unit) => [fb_jw cJ zx 1 zg, fb_o12 za zr (upd (upd fr_e0 19 (0 : Int32)) 19 (1 : Int32))]) (fun (t : Unit) => [fb_o12 za zr (upd (upd fr_e0 19 (0 : Int32)) 19 (1 : Int32))]) X I [1, 0] 2 rfl (by decide +kernel) rfl rfl [1, 0] 2 (fun _ => rfl) (by decide +kernel) (fun _ => rfl) (fun _ => rfl) (fun I => fb_rV (As := [.int (nI zj), .int (nI zv9), .int (1 : Int32), .int (0 : Int32)]) (rest := []) X hl (fb_goodV fw_2615 fw_2616 fw_2617 fw_204 fw_2618) (c_setWatch_bad l D cI cJ za zr zj (nI zv9) true false _ (by omega) q1) rfl rfl rfl (by decide +kernel : fb_hd yX12_setWatch 4) ⟨Nat.le_of_ble_eq_true rfl, Nat.le_of_ble_eq_true rfl⟩ rfl rfl rfl rfl rfl (Nat.le_of_ble_eq_true rfl) ⟨Nat.le_of_ble_eq_true rfl, Nat.le_of_ble_eq_true rfl⟩ dL_law_1240 I) ?_
  intro r8 w7 H locs e0 I
  subst e0
  have I : fb_In D (fun q : Nat => s.heap.size ≤ q) s.heap (([fb_jw cJ zx 1 zg, fb_o12 za zr (upd (upd fr_e0 19 (0 : Int32)) 19 (1 : Int32))] : List va_W).flatten) H locs := I
  refine lv_istore (lv' := [(6, .int (0 : Int32)), (5, .int (1 : Int32)), (4, .int (0 : Int32)), (3, .ref zx), (2, .ref za), (1, .ref zb), (0, .ref b)]) hx hb dL_law_1243 hl (by decide) rfl (fun ls hl => ?_)
  refine lv_aload_n hx hb dL_law_1245 rfl (lv_at hl 4 rfl) ?_
  refine fb_gO (cs := [fb_o12 za zr (upd (upd fr_e0 19 (0 : Int32)) 19 (1 : Int32))]) (rs := [fb_jw cJ zx 1 zg]) X I [1, 0] 2 rfl (by decide +kernel) rfl rfl (fun I => fb_rV (As := []) (rest := []) X hl (fb_goodV fw_2119 fw_2120 fw_2121 fw_204 fw_2122) (c_thrown l D cI cJ za zr (upd (upd fr_e0 19 (0 : Int32)) 19 (1 : Int32)) _ ) rfl rfl rfl (by decide +kernel : fb_hd yX12_thrown 0) ⟨Nat.le_of_ble_eq_true rfl, Nat.le_of_ble_eq_true rfl⟩ rfl rfl rfl rfl rfl (Nat.le_of_ble_eq_true rfl) ⟨Nat.le_of_ble_eq_true rfl, Nat.le_of_ble_eq_true rfl⟩ dL_law_1246 I) ?_
  refine fb_tI (v := (1 : Int32)) rfl ?_
  refine lv_iload hx hb dL_law_1249 (lv_at hl 1 rfl) ?_
  refine lv_icmp_eq (tgt := 1256) hx hb dL_law_1251 (by decide) (fun _ => ?_) (fun c9 => absurd rfl c9)
  refine lv_iload hx hb dL_law_1256 (lv_at hl 1 rfl) ?_
  refine lv_if_ne (tgt := 1273) hx hb dL_law_1258 (by decide) (fun _ => ?_) (fun c10 => absurd c10 (by decide))
  refine lv_goto (tgt := 2336) hx hb dL_law_1273 (by decide) ?_
  exact lw_end X hX hbl hbA (by omega) I (lv_sub hl [2, 6] rfl) (Nat.le_of_ble_eq_true rfl) (Nat.le_of_ble_eq_true rfl)

set_option maxHeartbeats 4000000 in
set_option maxRecDepth 100000 in
theorem lc_23_i10 {p : Program} {l : Launch} {e : Env} {s : State} {m : MethodId} {below : List Frame} {meth : Method} {c : Code} {H : Heap} {locs : List Loc} {ls : Array Slot} {D : va_G} {cI cJ : ClassId} {b L : Nat} {xs : Nat → Int32} {zb : Nat} {zt : Nat} {zn : Nat} {zv : Nat} {zs : Nat} {zp : Nat} {zq : Nat → Nat} {zu : Nat → Nat} {zh : Nat} {zst : Nat} {zre : Nat} {zb0 : Nat} {zb1 : Nat} {zb3 : Nat} {zb4 : Nat} {zb5 : Nat} {zx : Nat} {zg : Nat → Int64} {za : Nat} {zr : Nat → Nat} {zj : Nat} {zv9 : Nat} (hst : l.stackTraces = false) (X : fb_Bx p s m #[Value.ref b] meth c cL_law RL 9 (some .boolean) D (fb_ty D cI cJ) (fun q : Nat => s.heap.size ≤ q)) (hX : va_X b L xs s s.heap) (hbl : b < s.heap.size) (hbA : ¬ (fun q : Nat => s.heap.size ≤ q) b) (hL6 : L = 6) (hz : xs 1 = nI zj) (hw : xs 2 = nI zv9) (hj : zj < 4096) (hv : zj ≤ zv9 ∧ zv9 < 4096) (q1 : f_X12_isIn (nI zv9) (nI zj) (4095 : Int32) = (1 : Int32)) (z3 : ¬ xs 3 = 0) (z4 : xs 4 = 0) (I : fb_In D (fun q : Nat => s.heap.size ≤ q) s.heap (([fb_o11 zb zt zn zv zs zp (zq 0) (zu 0) zh zst zre, fb_o7 zst zb0 zb1 zb3 zb4 zb5 (fun _ => 0), fb_aw cI zb3 4 (fun _ => 0), fb_aw cI zb4 4 (fun _ => 0), fb_aw cI zb5 4 (fun _ => 0), fb_jw cJ zx 1 zg, fb_o12 za zr fr_e0, fb_aw cI (zr 14) 4 (fun _ => 0), fb_aw cI (zr 15) 4 (fun _ => 0), fb_aw (D.1 20) (zr 16) 4 (fun _ => 0), fb_aw (D.1 20) (zr 17) 4 (fun _ => 0)] : List va_W).flatten) H locs) (hl : lv_has ls 9 [(4, .int (0 : Int32)), (3, .ref zx), (2, .ref za), (1, .ref zb), (0, .ref b)]) : W p l e room_1 s m #[Value.ref b] below meth c H locs 209 179241 (lw_Z below #[Value.ref b] s) (F0 m 1152 ls []) := by
  obtain ⟨hx, hb, hr, hml, hown, hts, hlk, hA, hK, hF⟩ := id X
  refine lv_aload_n hx hb dL_law_1152 rfl (lv_at hl 3 rfl) ?_
  refine lv_aload_n hx hb dL_law_1153 rfl (lv_at hl 4 rfl) ?_
  refine lv_iload hx hb dL_law_1154 (lv_at hl 0 rfl) ?_
  refine lv_iconst (v := (1 : Int32)) hx hb dL_law_1156 (by decide) ?_
  refine lv_iadd hx hb dL_law_1157 ?_
  refine fb_tI (v := (1 : Int32)) (by decide) ?_
  refine va_sld (i := (1 : Int32)) hx hb hX hbl hbA I.2.2 (fb_inC (n := 1) (by decide) (by decide) (by omega)) dL_law_1158 ?_
  refine fb_tI (v := (xs 1)) rfl ?_
  refine fb_tI (v := (nI zj)) hz ?_
  refine lv_aload_n hx hb dL_law_1159 rfl (lv_at hl 4 rfl) ?_
  refine lv_iload hx hb dL_law_1160 (lv_at hl 0 rfl) ?_
  refine lv_iconst (v := (2 : Int32)) hx hb dL_law_1162 (by decide) ?_
  refine lv_iadd hx hb dL_law_1163 ?_
  refine fb_tI (v := (2 : Int32)) (by decide) ?_
  refine va_sld (i := (2 : Int32)) hx hb hX hbl hbA I.2.2 (fb_inC (n := 2) (by decide) (by decide) (by omega)) dL_law_1164 ?_
  refine fb_tI (v := (xs 2)) rfl ?_
  refine fb_tI (v := (nI zv9)) hw ?_
  refine lv_aload_n hx hb dL_law_1165 rfl (lv_at hl 4 rfl) ?_
  refine lv_iload hx hb dL_law_1166 (lv_at hl 0 rfl) ?_
  refine lv_iconst (v := (3 : Int32)) hx hb dL_law_1168 (by decide) ?_
  refine lv_iadd hx hb dL_law_1169 ?_
  refine fb_tI (v := (3 : Int32)) (by decide) ?_
  refine va_sld (i := (3 : Int32)) hx hb hX hbl hbA I.2.2 (fb_inC (n := 3) (by decide) (by decide) (by omega)) dL_law_1170 ?_
  refine fb_tI (v := (xs 3)) rfl ?_
  refine lv_if_eq (tgt := 1178) hx hb dL_law_1171 (by decide) (fun c1 => absurd c1 z3) (fun _ => ?_)
  refine lv_iconst (v := (1 : Int32)) hx hb dL_law_1174 (by decide) ?_
  refine lv_goto (tgt := 1179) hx hb dL_law_1175 (by decide) ?_
  refine lv_aload_n hx hb dL_law_1179 rfl (lv_at hl 4 rfl) ?_
  refine lv_iload hx hb dL_law_1180 (lv_at hl 0 rfl) ?_
  refine lv_iconst (v := (4 : Int32)) hx hb dL_law_1182 (by decide) ?_
  refine lv_iadd hx hb dL_law_1183 ?_
  refine fb_tI (v := (4 : Int32)) (by decide) ?_
  refine va_sld (i := (4 : Int32)) hx hb hX hbl hbA I.2.2 (fb_inC (n := 4) (by decide) (by decide) (by omega)) dL_law_1184 ?_
  refine fb_tI (v := (xs 4)) rfl ?_
  refine lv_if_eq (tgt := 1192) hx hb dL_law_1185 (by decide) (fun _ => ?_) (fun c2 => absurd z4 c2)
  refine lv_iconst (v := (0 : Int32)) hx hb dL_law_1192 (by decide) ?_
  refine lv_aload_n hx hb dL_law_1193 rfl (lv_at hl 1 rfl) ?_
  refine fb_gI (cs := [fb_o11 zb zt zn zv zs zp (zq 0) (zu 0) zh zst zre, fb_o7 zst zb0 zb1 zb3 zb4 zb5 (fun _ => 0), fb_aw cI zb3 4 (fun _ => 0), fb_aw cI zb4 4 (fun _ => 0), fb_aw cI zb5 4 (fun _ => 0), fb_jw cJ zx 1 zg]) (rs := [fb_o12 za zr fr_e0, fb_aw cI (zr 14) 4 (fun _ => 0), fb_aw cI (zr 15) 4 (fun _ => 0), fb_aw (D.1 20) (zr 16) 4 (fun _ => 0), fb_aw (D.1 20) (zr 17) 4 (fun _ => 0)]) (fun (t : Unit) => [fb_jw cJ zx 1 (vp_updL zg 0 (((1 : Int32)).toInt64)), fb_o12 za zr fr_e0, fb_aw cI (zr 14) 4 (fun _ => 0), fb_aw cI (zr 15) 4 (fun _ => 0), fb_aw (D.1 20) (zr 16) 4 (fun _ => 0), fb_aw (D.1 20) (zr 17) 4 (fun _ => 0)]) (fun (t : Unit) => [fb_jw cJ zx 1 (vp_updL zg 0 (((1 : Int32)).toInt64))]) X I [0, 1, 2, 3, 4, 5, 6, 7, 8, 9, 10] 11 rfl (by decide +kernel) rfl rfl [0, 1, 2, 3, 4, 5] 6 (fun _ => rfl) (by decide +kernel) (fun _ => rfl) (fun _ => rfl) (fun I => fb_rSW (As := [.ref zb, .int (nI zj), .int (nI zv9), .int (1 : Int32), .int (0 : Int32), .ref zx]) (rest := []) X hl (fb_goodSW fw_1810 fw_1811 fw_190 fw_1812) (c_w_setWatch_in l D cI cJ zb zt zn zv zs zp zq zu zh zst zre zb0 zb1 zb3 zb4 zb5 zx zg zj zv9 true false _ hst (by omega) (by omega)) rfl rfl (by decide +kernel : fb_hd yL_setWatch 6) ⟨Nat.le_of_ble_eq_true rfl, Nat.le_of_ble_eq_true rfl⟩ rfl rfl (Nat.le_of_ble_eq_true rfl) ⟨Nat.le_of_ble_eq_true rfl, Nat.le_of_ble_eq_true rfl⟩ dL_law_1194 I) ?_
  intro r4 w3 H locs e0 I
  subst e0
  have I : fb_In D (fun q : Nat => s.heap.size ≤ q) s.heap (([fb_jw cJ zx 1 (vp_updL zg 0 (((1 : Int32)).toInt64)), fb_o12 za zr fr_e0, fb_aw cI (zr 14) 4 (fun _ => 0), fb_aw cI (zr 15) 4 (fun _ => 0), fb_aw (D.1 20) (zr 16) 4 (fun _ => 0), fb_aw (D.1 20) (zr 17) 4 (fun _ => 0)] : List va_W).flatten) H locs := I
  refine lv_istore (lv' := [(5, .int (0 : Int32)), (4, .int (0 : Int32)), (3, .ref zx), (2, .ref za), (1, .ref zb), (0, .ref b)]) hx hb dL_law_1197 hl (by decide) rfl (fun ls hl => ?_)
  refine lv_aload_n hx hb dL_law_1199 rfl (lv_at hl 3 rfl) ?_
  refine lv_aload_n hx hb dL_law_1200 rfl (lv_at hl 5 rfl) ?_
  refine lv_iload hx hb dL_law_1201 (lv_at hl 1 rfl) ?_
  refine lv_iconst (v := (1 : Int32)) hx hb dL_law_1203 (by decide) ?_
  refine lv_iadd hx hb dL_law_1204 ?_
  refine fb_tI (v := (1 : Int32)) (by decide) ?_
  refine va_sld (i := (1 : Int32)) hx hb hX hbl hbA I.2.2 (fb_inC (n := 1) (by decide) (by decide) (by omega)) dL_law_1205 ?_
  refine fb_tI (v := (xs 1)) rfl ?_
  refine fb_tI (v := (nI zj)) hz ?_
  refine lv_aload_n hx hb dL_law_1206 rfl (lv_at hl 5 rfl) ?_
  refine lv_iload hx hb dL_law_1207 (lv_at hl 1 rfl) ?_
  refine lv_iconst (v := (2 : Int32)) hx hb dL_law_1209 (by decide) ?_
  refine lv_iadd hx hb dL_law_1210 ?_
  refine fb_tI (v := (2 : Int32)) (by decide) ?_
  refine va_sld (i := (2 : Int32)) hx hb hX hbl hbA I.2.2 (fb_inC (n := 2) (by decide) (by decide) (by omega)) dL_law_1211 ?_
  refine fb_tI (v := (xs 2)) rfl ?_
  refine fb_tI (v := (nI zv9)) hw ?_
  refine lv_aload_n hx hb dL_law_1212 rfl (lv_at hl 5 rfl) ?_
  refine lv_iload hx hb dL_law_1213 (lv_at hl 1 rfl) ?_
  refine lv_iconst (v := (3 : Int32)) hx hb dL_law_1215 (by decide) ?_
  refine lv_iadd hx hb dL_law_1216 ?_
  refine fb_tI (v := (3 : Int32)) (by decide) ?_
  refine va_sld (i := (3 : Int32)) hx hb hX hbl hbA I.2.2 (fb_inC (n := 3) (by decide) (by decide) (by omega)) dL_law_1217 ?_
  refine fb_tI (v := (xs 3)) rfl ?_
  refine lv_if_eq (tgt := 1225) hx hb dL_law_1218 (by decide) (fun c5 => absurd c5 z3) (fun _ => ?_)
  refine lv_iconst (v := (1 : Int32)) hx hb dL_law_1221 (by decide) ?_
  refine lv_goto (tgt := 1226) hx hb dL_law_1222 (by decide) ?_
  refine lv_aload_n hx hb dL_law_1226 rfl (lv_at hl 5 rfl) ?_
  refine lv_iload hx hb dL_law_1227 (lv_at hl 1 rfl) ?_
  refine lv_iconst (v := (4 : Int32)) hx hb dL_law_1229 (by decide) ?_
  refine lv_iadd hx hb dL_law_1230 ?_
  refine fb_tI (v := (4 : Int32)) (by decide) ?_
  refine va_sld (i := (4 : Int32)) hx hb hX hbl hbA I.2.2 (fb_inC (n := 4) (by decide) (by decide) (by omega)) dL_law_1231 ?_
  refine fb_tI (v := (xs 4)) rfl ?_
  refine lv_if_eq (tgt := 1239) hx hb dL_law_1232 (by decide) (fun _ => ?_) (fun c6 => absurd z4 c6)
  refine lv_iconst (v := (0 : Int32)) hx hb dL_law_1239 (by decide) ?_
  refine fb_gI (cs := [fb_o12 za zr fr_e0, fb_aw cI (zr 14) 4 (fun _ => 0), fb_aw cI (zr 15) 4 (fun _ => 0), fb_aw (D.1 20) (zr 16) 4 (fun _ => 0), fb_aw (D.1 20) (zr 17) 4 (fun _ => 0)]) (rs := [fb_jw cJ zx 1 (vp_updL zg 0 (((1 : Int32)).toInt64))]) (fun (t : Unit) => [fb_jw cJ zx 1 (vp_updL zg 0 (((1 : Int32)).toInt64)), fb_o12 za zr (upd (upd fr_e0 19 (0 : Int32)) 18 (1 : Int32)), fb_aw cI (zr 14) 4 (upd (fun _ => 0) 0 (nI zj)), fb_aw cI (zr 15) 4 (upd (fun _ => 0) 0 (nI zv9)), fb_aw (D.1 20) (zr 16) 4 (upd (fun _ => 0) 0 (fb_bI true)), fb_aw (D.1 20) (zr 17) 4 (upd (fun _ => 0) 0 (fb_bI false))]) (fun (t : Unit) => [fb_o12 za zr (upd (upd fr_e0 19 (0 : Int32)) 18 (1 : Int32)), fb_aw cI (zr 14) 4 (upd (fun _ => 0) 0 (nI zj)), fb_aw cI (zr 15) 4 (upd (fun _ => 0) 0 (nI zv9)), fb_aw (D.1 20) (zr 16) 4 (upd (fun _ => 0) 0 (fb_bI true)), fb_aw (D.1 20) (zr 17) 4 (upd (fun _ => 0) 0 (fb_bI false))]) X I [1, 2, 3, 4, 5, 0] 6 rfl (by decide +kernel) rfl rfl [1, 2, 3, 4, 5, 0] 6 (fun _ => rfl) (by decide +kernel) (fun _ => rfl) (fun _ => rfl) (fun I => fb_rV (As := [.int (nI zj), .int (nI zv9), .int (1 : Int32), .int (0 : Int32)]) (rest := []) X hl (fb_goodV fw_2615 fw_2616 fw_2617 fw_204 fw_2618) (c_setWatch_in l D cI cJ za zr zj (nI zv9) (fun _ => 0) (fun _ => 0) (fun _ => 0) (fun _ => 0) true false _ (by omega) q1) rfl rfl rfl (by decide +kernel : fb_hd yX12_setWatch 4) ⟨Nat.le_of_ble_eq_true rfl, Nat.le_of_ble_eq_true rfl⟩ rfl rfl rfl rfl rfl (Nat.le_of_ble_eq_true rfl) ⟨Nat.le_of_ble_eq_true rfl, Nat.le_of_ble_eq_true rfl⟩ dL_law_1240 I) ?_
  intro r8 w7 H locs e0 I
  subst e0
  have I : fb_In D (fun q : Nat => s.heap.size ≤ q) s.heap (([fb_jw cJ zx 1 (vp_updL zg 0 (((1 : Int32)).toInt64)), fb_o12 za zr (upd (upd fr_e0 19 (0 : Int32)) 18 (1 : Int32)), fb_aw cI (zr 14) 4 (upd (fun _ => 0) 0 (nI zj)), fb_aw cI (zr 15) 4 (upd (fun _ => 0) 0 (nI zv9)), fb_aw (D.1 20) (zr 16) 4 (upd (fun _ => 0) 0 (fb_bI true)), fb_aw (D.1 20) (zr 17) 4 (upd (fun _ => 0) 0 (fb_bI false))] : List va_W).flatten) H locs := I
  refine lv_istore (lv' := [(6, .int (1 : Int32)), (5, .int (0 : Int32)), (4, .int (0 : Int32)), (3, .ref zx), (2, .ref za), (1, .ref zb), (0, .ref b)]) hx hb dL_law_1243 hl (by decide) rfl (fun ls hl => ?_)
  refine lv_aload_n hx hb dL_law_1245 rfl (lv_at hl 4 rfl) ?_
  refine fb_gO (cs := [fb_o12 za zr (upd (upd fr_e0 19 (0 : Int32)) 18 (1 : Int32))]) (rs := [fb_jw cJ zx 1 (vp_updL zg 0 (((1 : Int32)).toInt64)), fb_aw cI (zr 14) 4 (upd (fun _ => 0) 0 (nI zj)), fb_aw cI (zr 15) 4 (upd (fun _ => 0) 0 (nI zv9)), fb_aw (D.1 20) (zr 16) 4 (upd (fun _ => 0) 0 (fb_bI true)), fb_aw (D.1 20) (zr 17) 4 (upd (fun _ => 0) 0 (fb_bI false))]) X I [1, 0, 2, 3, 4, 5] 6 rfl (by decide +kernel) rfl rfl (fun I => fb_rV (As := []) (rest := []) X hl (fb_goodV fw_2119 fw_2120 fw_2121 fw_204 fw_2122) (c_thrown l D cI cJ za zr (upd (upd fr_e0 19 (0 : Int32)) 18 (1 : Int32)) _ ) rfl rfl rfl (by decide +kernel : fb_hd yX12_thrown 0) ⟨Nat.le_of_ble_eq_true rfl, Nat.le_of_ble_eq_true rfl⟩ rfl rfl rfl rfl rfl (Nat.le_of_ble_eq_true rfl) ⟨Nat.le_of_ble_eq_true rfl, Nat.le_of_ble_eq_true rfl⟩ dL_law_1246 I) ?_
  refine fb_tI (v := (0 : Int32)) rfl ?_
  refine lv_iload hx hb dL_law_1249 (lv_at hl 1 rfl) ?_
  refine lv_icmp_eq (tgt := 1256) hx hb dL_law_1251 (by decide) (fun _ => ?_) (fun c9 => absurd rfl c9)
  refine lv_iload hx hb dL_law_1256 (lv_at hl 1 rfl) ?_
  refine lv_if_ne (tgt := 1273) hx hb dL_law_1258 (by decide) (fun c10 => absurd (by decide) c10) (fun _ => ?_)
  refine lv_aload_n hx hb dL_law_1261 rfl (lv_at hl 3 rfl) ?_
  refine lv_iconst (v := (0 : Int32)) hx hb dL_law_1262 (by decide) ?_
  refine va_lald (i := (0 : Int32)) hx hb hK.1 I.1 0 1 rfl rfl (fb_inC (n := 0) (by decide) (by decide) (Nat.le_of_ble_eq_true rfl)) dL_law_1263 ?_
  refine fb_tL (v := (((1 : Int32)).toInt64)) rfl ?_
  refine lv_iload hx hb dL_law_1264 (lv_at hl 0 rfl) ?_
  refine lv_i2l (v := (((1 : Int32)).toInt64)) hx hb dL_law_1266 rfl ?_
  refine W.lcmp hx hb dL_law_1267 ?_
  refine fb_tI (v := (0 : Int32)) (lw_cmp0 _) ?_
  refine lv_if_eq (tgt := 1273) hx hb dL_law_1268 (by decide) (fun _ => ?_) (fun c11 => absurd (by decide) c11)
  refine lv_goto (tgt := 2336) hx hb dL_law_1273 (by decide) ?_
  exact lw_end X hX hbl hbA (by omega) I (lv_sub hl [2, 6] rfl) (Nat.le_of_ble_eq_true rfl) (Nat.le_of_ble_eq_true rfl)

set_option maxHeartbeats 4000000 in
set_option maxRecDepth 100000 in
theorem lc_23_o11 {p : Program} {l : Launch} {e : Env} {s : State} {m : MethodId} {below : List Frame} {meth : Method} {c : Code} {H : Heap} {locs : List Loc} {ls : Array Slot} {D : va_G} {cI cJ : ClassId} {b L : Nat} {xs : Nat → Int32} {zb : Nat} {zt : Nat} {zn : Nat} {zv : Nat} {zs : Nat} {zp : Nat} {zq : Nat → Nat} {zu : Nat → Nat} {zh : Nat} {zst : Nat} {zre : Nat} {zx : Nat} {zg : Nat → Int64} {za : Nat} {zr : Nat → Nat} (hst : l.stackTraces = false) (X : fb_Bx p s m #[Value.ref b] meth c cL_law RL 9 (some .boolean) D (fb_ty D cI cJ) (fun q : Nat => s.heap.size ≤ q)) (hX : va_X b L xs s s.heap) (hbl : b < s.heap.size) (hbA : ¬ (fun q : Nat => s.heap.size ≤ q) b) (hL6 : L = 6) (gA : f_X11_isNoAddress (xs 1) = (1 : Int32)) (q1 : f_X12_isIn (xs 1) (0 : Int32) (4095 : Int32) = (0 : Int32)) (z3 : ¬ xs 3 = 0) (z4 : ¬ xs 4 = 0) (I : fb_In D (fun q : Nat => s.heap.size ≤ q) s.heap (([fb_o11 zb zt zn zv zs zp (zq 0) (zu 0) zh zst zre, fb_jw cJ zx 1 zg, fb_o12 za zr fr_e0] : List va_W).flatten) H locs) (hl : lv_has ls 9 [(4, .int (0 : Int32)), (3, .ref zx), (2, .ref za), (1, .ref zb), (0, .ref b)]) : W p l e room_1 s m #[Value.ref b] below meth c H locs 209 179241 (lw_Z below #[Value.ref b] s) (F0 m 1152 ls []) := by
  obtain ⟨hx, hb, hr, hml, hown, hts, hlk, hA, hK, hF⟩ := id X
  refine lv_aload_n hx hb dL_law_1152 rfl (lv_at hl 3 rfl) ?_
  refine lv_aload_n hx hb dL_law_1153 rfl (lv_at hl 4 rfl) ?_
  refine lv_iload hx hb dL_law_1154 (lv_at hl 0 rfl) ?_
  refine lv_iconst (v := (1 : Int32)) hx hb dL_law_1156 (by decide) ?_
  refine lv_iadd hx hb dL_law_1157 ?_
  refine fb_tI (v := (1 : Int32)) (by decide) ?_
  refine va_sld (i := (1 : Int32)) hx hb hX hbl hbA I.2.2 (fb_inC (n := 1) (by decide) (by decide) (by omega)) dL_law_1158 ?_
  refine fb_tI (v := (xs 1)) rfl ?_
  refine lv_aload_n hx hb dL_law_1159 rfl (lv_at hl 4 rfl) ?_
  refine lv_iload hx hb dL_law_1160 (lv_at hl 0 rfl) ?_
  refine lv_iconst (v := (2 : Int32)) hx hb dL_law_1162 (by decide) ?_
  refine lv_iadd hx hb dL_law_1163 ?_
  refine fb_tI (v := (2 : Int32)) (by decide) ?_
  refine va_sld (i := (2 : Int32)) hx hb hX hbl hbA I.2.2 (fb_inC (n := 2) (by decide) (by decide) (by omega)) dL_law_1164 ?_
  refine fb_tI (v := (xs 2)) rfl ?_
  refine lv_aload_n hx hb dL_law_1165 rfl (lv_at hl 4 rfl) ?_
  refine lv_iload hx hb dL_law_1166 (lv_at hl 0 rfl) ?_
  refine lv_iconst (v := (3 : Int32)) hx hb dL_law_1168 (by decide) ?_
  refine lv_iadd hx hb dL_law_1169 ?_
  refine fb_tI (v := (3 : Int32)) (by decide) ?_
  refine va_sld (i := (3 : Int32)) hx hb hX hbl hbA I.2.2 (fb_inC (n := 3) (by decide) (by decide) (by omega)) dL_law_1170 ?_
  refine fb_tI (v := (xs 3)) rfl ?_
  refine lv_if_eq (tgt := 1178) hx hb dL_law_1171 (by decide) (fun c1 => absurd c1 z3) (fun _ => ?_)
  refine lv_iconst (v := (1 : Int32)) hx hb dL_law_1174 (by decide) ?_
  refine lv_goto (tgt := 1179) hx hb dL_law_1175 (by decide) ?_
  refine lv_aload_n hx hb dL_law_1179 rfl (lv_at hl 4 rfl) ?_
  refine lv_iload hx hb dL_law_1180 (lv_at hl 0 rfl) ?_
  refine lv_iconst (v := (4 : Int32)) hx hb dL_law_1182 (by decide) ?_
  refine lv_iadd hx hb dL_law_1183 ?_
  refine fb_tI (v := (4 : Int32)) (by decide) ?_
  refine va_sld (i := (4 : Int32)) hx hb hX hbl hbA I.2.2 (fb_inC (n := 4) (by decide) (by decide) (by omega)) dL_law_1184 ?_
  refine fb_tI (v := (xs 4)) rfl ?_
  refine lv_if_eq (tgt := 1192) hx hb dL_law_1185 (by decide) (fun c2 => absurd c2 z4) (fun _ => ?_)
  refine lv_iconst (v := (1 : Int32)) hx hb dL_law_1188 (by decide) ?_
  refine lv_goto (tgt := 1193) hx hb dL_law_1189 (by decide) ?_
  refine lv_aload_n hx hb dL_law_1193 rfl (lv_at hl 1 rfl) ?_
  refine fb_gI (cs := [fb_o11 zb zt zn zv zs zp (zq 0) (zu 0) zh zst zre, fb_jw cJ zx 1 zg]) (rs := [fb_o12 za zr fr_e0]) (fun (t : Unit) => [fb_jw cJ zx 1 zg, fb_o12 za zr fr_e0]) (fun (t : Unit) => [fb_jw cJ zx 1 zg]) X I [0, 1, 2] 3 rfl (by decide +kernel) rfl rfl [0, 1] 2 (fun _ => rfl) (by decide +kernel) (fun _ => rfl) (fun _ => rfl) (fun I => fb_rSW (As := [.ref zb, .int (xs 1), .int (xs 2), .int (1 : Int32), .int (1 : Int32), .ref zx]) (rest := []) X hl (fb_goodSW fw_1810 fw_1811 fw_190 fw_1812) (c_w_setWatch_o l D cI cJ zb zt zn zv zs zp zq zu zh zst zre zx zg (xs 1) (xs 2) true true _ hst gA) rfl rfl (by decide +kernel : fb_hd yL_setWatch 6) ⟨Nat.le_of_ble_eq_true rfl, Nat.le_of_ble_eq_true rfl⟩ rfl rfl (Nat.le_of_ble_eq_true rfl) ⟨Nat.le_of_ble_eq_true rfl, Nat.le_of_ble_eq_true rfl⟩ dL_law_1194 I) ?_
  intro r4 w3 H locs e0 I
  subst e0
  have I : fb_In D (fun q : Nat => s.heap.size ≤ q) s.heap (([fb_jw cJ zx 1 zg, fb_o12 za zr fr_e0] : List va_W).flatten) H locs := I
  refine lv_istore (lv' := [(5, .int (1 : Int32)), (4, .int (0 : Int32)), (3, .ref zx), (2, .ref za), (1, .ref zb), (0, .ref b)]) hx hb dL_law_1197 hl (by decide) rfl (fun ls hl => ?_)
  refine lv_aload_n hx hb dL_law_1199 rfl (lv_at hl 3 rfl) ?_
  refine lv_aload_n hx hb dL_law_1200 rfl (lv_at hl 5 rfl) ?_
  refine lv_iload hx hb dL_law_1201 (lv_at hl 1 rfl) ?_
  refine lv_iconst (v := (1 : Int32)) hx hb dL_law_1203 (by decide) ?_
  refine lv_iadd hx hb dL_law_1204 ?_
  refine fb_tI (v := (1 : Int32)) (by decide) ?_
  refine va_sld (i := (1 : Int32)) hx hb hX hbl hbA I.2.2 (fb_inC (n := 1) (by decide) (by decide) (by omega)) dL_law_1205 ?_
  refine fb_tI (v := (xs 1)) rfl ?_
  refine lv_aload_n hx hb dL_law_1206 rfl (lv_at hl 5 rfl) ?_
  refine lv_iload hx hb dL_law_1207 (lv_at hl 1 rfl) ?_
  refine lv_iconst (v := (2 : Int32)) hx hb dL_law_1209 (by decide) ?_
  refine lv_iadd hx hb dL_law_1210 ?_
  refine fb_tI (v := (2 : Int32)) (by decide) ?_
  refine va_sld (i := (2 : Int32)) hx hb hX hbl hbA I.2.2 (fb_inC (n := 2) (by decide) (by decide) (by omega)) dL_law_1211 ?_
  refine fb_tI (v := (xs 2)) rfl ?_
  refine lv_aload_n hx hb dL_law_1212 rfl (lv_at hl 5 rfl) ?_
  refine lv_iload hx hb dL_law_1213 (lv_at hl 1 rfl) ?_
  refine lv_iconst (v := (3 : Int32)) hx hb dL_law_1215 (by decide) ?_
  refine lv_iadd hx hb dL_law_1216 ?_
  refine fb_tI (v := (3 : Int32)) (by decide) ?_
  refine va_sld (i := (3 : Int32)) hx hb hX hbl hbA I.2.2 (fb_inC (n := 3) (by decide) (by decide) (by omega)) dL_law_1217 ?_
  refine fb_tI (v := (xs 3)) rfl ?_
  refine lv_if_eq (tgt := 1225) hx hb dL_law_1218 (by decide) (fun c5 => absurd c5 z3) (fun _ => ?_)
  refine lv_iconst (v := (1 : Int32)) hx hb dL_law_1221 (by decide) ?_
  refine lv_goto (tgt := 1226) hx hb dL_law_1222 (by decide) ?_
  refine lv_aload_n hx hb dL_law_1226 rfl (lv_at hl 5 rfl) ?_
  refine lv_iload hx hb dL_law_1227 (lv_at hl 1 rfl) ?_
  refine lv_iconst (v := (4 : Int32)) hx hb dL_law_1229 (by decide) ?_
  refine lv_iadd hx hb dL_law_1230 ?_
  refine fb_tI (v := (4 : Int32)) (by decide) ?_
  refine va_sld (i := (4 : Int32)) hx hb hX hbl hbA I.2.2 (fb_inC (n := 4) (by decide) (by decide) (by omega)) dL_law_1231 ?_
  refine fb_tI (v := (xs 4)) rfl ?_
  refine lv_if_eq (tgt := 1239) hx hb dL_law_1232 (by decide) (fun c6 => absurd c6 z4) (fun _ => ?_)
  refine lv_iconst (v := (1 : Int32)) hx hb dL_law_1235 (by decide) ?_
  refine lv_goto (tgt := 1240) hx hb dL_law_1236 (by decide) ?_
  refine fb_gI (cs := [fb_o12 za zr fr_e0]) (rs := [fb_jw cJ zx 1 zg]) (fun (t : Unit) => [fb_jw cJ zx 1 zg, fb_o12 za zr (upd (upd fr_e0 19 (0 : Int32)) 19 (1 : Int32))]) (fun (t : Unit) => [fb_o12 za zr (upd (upd fr_e0 19 (0 : Int32)) 19 (1 : Int32))]) X I [1, 0] 2 rfl (by decide +kernel) rfl rfl [1, 0] 2 (fun _ => rfl) (by decide +kernel) (fun _ => rfl) (fun _ => rfl) (fun I => fb_rV (As := [.int (xs 1), .int (xs 2), .int (1 : Int32), .int (1 : Int32)]) (rest := []) X hl (fb_goodV fw_2615 fw_2616 fw_2617 fw_204 fw_2618) (c_setWatch_out l D cI cJ za zr (xs 1) (xs 2) true true _ q1) rfl rfl rfl (by decide +kernel : fb_hd yX12_setWatch 4) ⟨Nat.le_of_ble_eq_true rfl, Nat.le_of_ble_eq_true rfl⟩ rfl rfl rfl rfl rfl (Nat.le_of_ble_eq_true rfl) ⟨Nat.le_of_ble_eq_true rfl, Nat.le_of_ble_eq_true rfl⟩ dL_law_1240 I) ?_
  intro r8 w7 H locs e0 I
  subst e0
  have I : fb_In D (fun q : Nat => s.heap.size ≤ q) s.heap (([fb_jw cJ zx 1 zg, fb_o12 za zr (upd (upd fr_e0 19 (0 : Int32)) 19 (1 : Int32))] : List va_W).flatten) H locs := I
  refine lv_istore (lv' := [(6, .int (0 : Int32)), (5, .int (1 : Int32)), (4, .int (0 : Int32)), (3, .ref zx), (2, .ref za), (1, .ref zb), (0, .ref b)]) hx hb dL_law_1243 hl (by decide) rfl (fun ls hl => ?_)
  refine lv_aload_n hx hb dL_law_1245 rfl (lv_at hl 4 rfl) ?_
  refine fb_gO (cs := [fb_o12 za zr (upd (upd fr_e0 19 (0 : Int32)) 19 (1 : Int32))]) (rs := [fb_jw cJ zx 1 zg]) X I [1, 0] 2 rfl (by decide +kernel) rfl rfl (fun I => fb_rV (As := []) (rest := []) X hl (fb_goodV fw_2119 fw_2120 fw_2121 fw_204 fw_2122) (c_thrown l D cI cJ za zr (upd (upd fr_e0 19 (0 : Int32)) 19 (1 : Int32)) _ ) rfl rfl rfl (by decide +kernel : fb_hd yX12_thrown 0) ⟨Nat.le_of_ble_eq_true rfl, Nat.le_of_ble_eq_true rfl⟩ rfl rfl rfl rfl rfl (Nat.le_of_ble_eq_true rfl) ⟨Nat.le_of_ble_eq_true rfl, Nat.le_of_ble_eq_true rfl⟩ dL_law_1246 I) ?_
  refine fb_tI (v := (1 : Int32)) rfl ?_
  refine lv_iload hx hb dL_law_1249 (lv_at hl 1 rfl) ?_
  refine lv_icmp_eq (tgt := 1256) hx hb dL_law_1251 (by decide) (fun _ => ?_) (fun c9 => absurd rfl c9)
  refine lv_iload hx hb dL_law_1256 (lv_at hl 1 rfl) ?_
  refine lv_if_ne (tgt := 1273) hx hb dL_law_1258 (by decide) (fun _ => ?_) (fun c10 => absurd c10 (by decide))
  refine lv_goto (tgt := 2336) hx hb dL_law_1273 (by decide) ?_
  exact lw_end X hX hbl hbA (by omega) I (lv_sub hl [2, 6] rfl) (Nat.le_of_ble_eq_true rfl) (Nat.le_of_ble_eq_true rfl)

set_option maxHeartbeats 4000000 in
set_option maxRecDepth 100000 in
theorem lc_23_p11 {p : Program} {l : Launch} {e : Env} {s : State} {m : MethodId} {below : List Frame} {meth : Method} {c : Code} {H : Heap} {locs : List Loc} {ls : Array Slot} {D : va_G} {cI cJ : ClassId} {b L : Nat} {xs : Nat → Int32} {zb : Nat} {zt : Nat} {zn : Nat} {zv : Nat} {zs : Nat} {zp : Nat} {zq : Nat → Nat} {zu : Nat → Nat} {zh : Nat} {zst : Nat} {zre : Nat} {zx : Nat} {zg : Nat → Int64} {za : Nat} {zr : Nat → Nat} {zj : Nat} (hst : l.stackTraces = false) (X : fb_Bx p s m #[Value.ref b] meth c cL_law RL 9 (some .boolean) D (fb_ty D cI cJ) (fun q : Nat => s.heap.size ≤ q)) (hX : va_X b L xs s s.heap) (hbl : b < s.heap.size) (hbA : ¬ (fun q : Nat => s.heap.size ≤ q) b) (hL6 : L = 6) (hz : xs 1 = nI zj) (hj : zj < 4096) (gA0 : f_X11_isNoAddress (nI zj) = (0 : Int32)) (gA : f_X11_isNoAddress (xs 2) = (1 : Int32)) (q1 : f_X12_isIn (xs 2) (nI zj) (4095 : Int32) = (0 : Int32)) (z3 : ¬ xs 3 = 0) (z4 : ¬ xs 4 = 0) (I : fb_In D (fun q : Nat => s.heap.size ≤ q) s.heap (([fb_o11 zb zt zn zv zs zp (zq 0) (zu 0) zh zst zre, fb_jw cJ zx 1 zg, fb_o12 za zr fr_e0] : List va_W).flatten) H locs) (hl : lv_has ls 9 [(4, .int (0 : Int32)), (3, .ref zx), (2, .ref za), (1, .ref zb), (0, .ref b)]) : W p l e room_1 s m #[Value.ref b] below meth c H locs 209 179241 (lw_Z below #[Value.ref b] s) (F0 m 1152 ls []) := by
  obtain ⟨hx, hb, hr, hml, hown, hts, hlk, hA, hK, hF⟩ := id X
  refine lv_aload_n hx hb dL_law_1152 rfl (lv_at hl 3 rfl) ?_
  refine lv_aload_n hx hb dL_law_1153 rfl (lv_at hl 4 rfl) ?_
  refine lv_iload hx hb dL_law_1154 (lv_at hl 0 rfl) ?_
  refine lv_iconst (v := (1 : Int32)) hx hb dL_law_1156 (by decide) ?_
  refine lv_iadd hx hb dL_law_1157 ?_
  refine fb_tI (v := (1 : Int32)) (by decide) ?_
  refine va_sld (i := (1 : Int32)) hx hb hX hbl hbA I.2.2 (fb_inC (n := 1) (by decide) (by decide) (by omega)) dL_law_1158 ?_
  refine fb_tI (v := (xs 1)) rfl ?_
  refine fb_tI (v := (nI zj)) hz ?_
  refine lv_aload_n hx hb dL_law_1159 rfl (lv_at hl 4 rfl) ?_
  refine lv_iload hx hb dL_law_1160 (lv_at hl 0 rfl) ?_
  refine lv_iconst (v := (2 : Int32)) hx hb dL_law_1162 (by decide) ?_
  refine lv_iadd hx hb dL_law_1163 ?_
  refine fb_tI (v := (2 : Int32)) (by decide) ?_
  refine va_sld (i := (2 : Int32)) hx hb hX hbl hbA I.2.2 (fb_inC (n := 2) (by decide) (by decide) (by omega)) dL_law_1164 ?_
  refine fb_tI (v := (xs 2)) rfl ?_
  refine lv_aload_n hx hb dL_law_1165 rfl (lv_at hl 4 rfl) ?_
  refine lv_iload hx hb dL_law_1166 (lv_at hl 0 rfl) ?_
  refine lv_iconst (v := (3 : Int32)) hx hb dL_law_1168 (by decide) ?_
  refine lv_iadd hx hb dL_law_1169 ?_
  refine fb_tI (v := (3 : Int32)) (by decide) ?_
  refine va_sld (i := (3 : Int32)) hx hb hX hbl hbA I.2.2 (fb_inC (n := 3) (by decide) (by decide) (by omega)) dL_law_1170 ?_
  refine fb_tI (v := (xs 3)) rfl ?_
  refine lv_if_eq (tgt := 1178) hx hb dL_law_1171 (by decide) (fun c1 => absurd c1 z3) (fun _ => ?_)
  refine lv_iconst (v := (1 : Int32)) hx hb dL_law_1174 (by decide) ?_
  refine lv_goto (tgt := 1179) hx hb dL_law_1175 (by decide) ?_
  refine lv_aload_n hx hb dL_law_1179 rfl (lv_at hl 4 rfl) ?_
  refine lv_iload hx hb dL_law_1180 (lv_at hl 0 rfl) ?_
  refine lv_iconst (v := (4 : Int32)) hx hb dL_law_1182 (by decide) ?_
  refine lv_iadd hx hb dL_law_1183 ?_
  refine fb_tI (v := (4 : Int32)) (by decide) ?_
  refine va_sld (i := (4 : Int32)) hx hb hX hbl hbA I.2.2 (fb_inC (n := 4) (by decide) (by decide) (by omega)) dL_law_1184 ?_
  refine fb_tI (v := (xs 4)) rfl ?_
  refine lv_if_eq (tgt := 1192) hx hb dL_law_1185 (by decide) (fun c2 => absurd c2 z4) (fun _ => ?_)
  refine lv_iconst (v := (1 : Int32)) hx hb dL_law_1188 (by decide) ?_
  refine lv_goto (tgt := 1193) hx hb dL_law_1189 (by decide) ?_
  refine lv_aload_n hx hb dL_law_1193 rfl (lv_at hl 1 rfl) ?_
  refine fb_gI (cs := [fb_o11 zb zt zn zv zs zp (zq 0) (zu 0) zh zst zre, fb_jw cJ zx 1 zg]) (rs := [fb_o12 za zr fr_e0]) (fun (t : Unit) => [fb_jw cJ zx 1 zg, fb_o12 za zr fr_e0]) (fun (t : Unit) => [fb_jw cJ zx 1 zg]) X I [0, 1, 2] 3 rfl (by decide +kernel) rfl rfl [0, 1] 2 (fun _ => rfl) (by decide +kernel) (fun _ => rfl) (fun _ => rfl) (fun I => fb_rSW (As := [.ref zb, .int (nI zj), .int (xs 2), .int (1 : Int32), .int (1 : Int32), .ref zx]) (rest := []) X hl (fb_goodSW fw_1810 fw_1811 fw_190 fw_1812) (c_w_setWatch_p l D cI cJ zb zt zn zv zs zp zq zu zh zst zre zx zg (nI zj) (xs 2) true true _ hst gA0 gA) rfl rfl (by decide +kernel : fb_hd yL_setWatch 6) ⟨Nat.le_of_ble_eq_true rfl, Nat.le_of_ble_eq_true rfl⟩ rfl rfl (Nat.le_of_ble_eq_true rfl) ⟨Nat.le_of_ble_eq_true rfl, Nat.le_of_ble_eq_true rfl⟩ dL_law_1194 I) ?_
  intro r4 w3 H locs e0 I
  subst e0
  have I : fb_In D (fun q : Nat => s.heap.size ≤ q) s.heap (([fb_jw cJ zx 1 zg, fb_o12 za zr fr_e0] : List va_W).flatten) H locs := I
  refine lv_istore (lv' := [(5, .int (1 : Int32)), (4, .int (0 : Int32)), (3, .ref zx), (2, .ref za), (1, .ref zb), (0, .ref b)]) hx hb dL_law_1197 hl (by decide) rfl (fun ls hl => ?_)
  refine lv_aload_n hx hb dL_law_1199 rfl (lv_at hl 3 rfl) ?_
  refine lv_aload_n hx hb dL_law_1200 rfl (lv_at hl 5 rfl) ?_
  refine lv_iload hx hb dL_law_1201 (lv_at hl 1 rfl) ?_
  refine lv_iconst (v := (1 : Int32)) hx hb dL_law_1203 (by decide) ?_
  refine lv_iadd hx hb dL_law_1204 ?_
  refine fb_tI (v := (1 : Int32)) (by decide) ?_
  refine va_sld (i := (1 : Int32)) hx hb hX hbl hbA I.2.2 (fb_inC (n := 1) (by decide) (by decide) (by omega)) dL_law_1205 ?_
  refine fb_tI (v := (xs 1)) rfl ?_
  refine fb_tI (v := (nI zj)) hz ?_
  refine lv_aload_n hx hb dL_law_1206 rfl (lv_at hl 5 rfl) ?_
  refine lv_iload hx hb dL_law_1207 (lv_at hl 1 rfl) ?_
  refine lv_iconst (v := (2 : Int32)) hx hb dL_law_1209 (by decide) ?_
  refine lv_iadd hx hb dL_law_1210 ?_
  refine fb_tI (v := (2 : Int32)) (by decide) ?_
  refine va_sld (i := (2 : Int32)) hx hb hX hbl hbA I.2.2 (fb_inC (n := 2) (by decide) (by decide) (by omega)) dL_law_1211 ?_
  refine fb_tI (v := (xs 2)) rfl ?_
  refine lv_aload_n hx hb dL_law_1212 rfl (lv_at hl 5 rfl) ?_
  refine lv_iload hx hb dL_law_1213 (lv_at hl 1 rfl) ?_
  refine lv_iconst (v := (3 : Int32)) hx hb dL_law_1215 (by decide) ?_
  refine lv_iadd hx hb dL_law_1216 ?_
  refine fb_tI (v := (3 : Int32)) (by decide) ?_
  refine va_sld (i := (3 : Int32)) hx hb hX hbl hbA I.2.2 (fb_inC (n := 3) (by decide) (by decide) (by omega)) dL_law_1217 ?_
  refine fb_tI (v := (xs 3)) rfl ?_
  refine lv_if_eq (tgt := 1225) hx hb dL_law_1218 (by decide) (fun c5 => absurd c5 z3) (fun _ => ?_)
  refine lv_iconst (v := (1 : Int32)) hx hb dL_law_1221 (by decide) ?_
  refine lv_goto (tgt := 1226) hx hb dL_law_1222 (by decide) ?_
  refine lv_aload_n hx hb dL_law_1226 rfl (lv_at hl 5 rfl) ?_
  refine lv_iload hx hb dL_law_1227 (lv_at hl 1 rfl) ?_
  refine lv_iconst (v := (4 : Int32)) hx hb dL_law_1229 (by decide) ?_
  refine lv_iadd hx hb dL_law_1230 ?_
  refine fb_tI (v := (4 : Int32)) (by decide) ?_
  refine va_sld (i := (4 : Int32)) hx hb hX hbl hbA I.2.2 (fb_inC (n := 4) (by decide) (by decide) (by omega)) dL_law_1231 ?_
  refine fb_tI (v := (xs 4)) rfl ?_
  refine lv_if_eq (tgt := 1239) hx hb dL_law_1232 (by decide) (fun c6 => absurd c6 z4) (fun _ => ?_)
  refine lv_iconst (v := (1 : Int32)) hx hb dL_law_1235 (by decide) ?_
  refine lv_goto (tgt := 1240) hx hb dL_law_1236 (by decide) ?_
  refine fb_gI (cs := [fb_o12 za zr fr_e0]) (rs := [fb_jw cJ zx 1 zg]) (fun (t : Unit) => [fb_jw cJ zx 1 zg, fb_o12 za zr (upd (upd fr_e0 19 (0 : Int32)) 19 (1 : Int32))]) (fun (t : Unit) => [fb_o12 za zr (upd (upd fr_e0 19 (0 : Int32)) 19 (1 : Int32))]) X I [1, 0] 2 rfl (by decide +kernel) rfl rfl [1, 0] 2 (fun _ => rfl) (by decide +kernel) (fun _ => rfl) (fun _ => rfl) (fun I => fb_rV (As := [.int (nI zj), .int (xs 2), .int (1 : Int32), .int (1 : Int32)]) (rest := []) X hl (fb_goodV fw_2615 fw_2616 fw_2617 fw_204 fw_2618) (c_setWatch_bad l D cI cJ za zr zj (xs 2) true true _ (by omega) q1) rfl rfl rfl (by decide +kernel : fb_hd yX12_setWatch 4) ⟨Nat.le_of_ble_eq_true rfl, Nat.le_of_ble_eq_true rfl⟩ rfl rfl rfl rfl rfl (Nat.le_of_ble_eq_true rfl) ⟨Nat.le_of_ble_eq_true rfl, Nat.le_of_ble_eq_true rfl⟩ dL_law_1240 I) ?_
  intro r8 w7 H locs e0 I
  subst e0
  have I : fb_In D (fun q : Nat => s.heap.size ≤ q) s.heap (([fb_jw cJ zx 1 zg, fb_o12 za zr (upd (upd fr_e0 19 (0 : Int32)) 19 (1 : Int32))] : List va_W).flatten) H locs := I
  refine lv_istore (lv' := [(6, .int (0 : Int32)), (5, .int (1 : Int32)), (4, .int (0 : Int32)), (3, .ref zx), (2, .ref za), (1, .ref zb), (0, .ref b)]) hx hb dL_law_1243 hl (by decide) rfl (fun ls hl => ?_)
  refine lv_aload_n hx hb dL_law_1245 rfl (lv_at hl 4 rfl) ?_
  refine fb_gO (cs := [fb_o12 za zr (upd (upd fr_e0 19 (0 : Int32)) 19 (1 : Int32))]) (rs := [fb_jw cJ zx 1 zg]) X I [1, 0] 2 rfl (by decide +kernel) rfl rfl (fun I => fb_rV (As := []) (rest := []) X hl (fb_goodV fw_2119 fw_2120 fw_2121 fw_204 fw_2122) (c_thrown l D cI cJ za zr (upd (upd fr_e0 19 (0 : Int32)) 19 (1 : Int32)) _ ) rfl rfl rfl (by decide +kernel : fb_hd yX12_thrown 0) ⟨Nat.le_of_ble_eq_true rfl, Nat.le_of_ble_eq_true rfl⟩ rfl rfl rfl rfl rfl (Nat.le_of_ble_eq_true rfl) ⟨Nat.le_of_ble_eq_true rfl, Nat.le_of_ble_eq_true rfl⟩ dL_law_1246 I) ?_
  refine fb_tI (v := (1 : Int32)) rfl ?_
  refine lv_iload hx hb dL_law_1249 (lv_at hl 1 rfl) ?_
  refine lv_icmp_eq (tgt := 1256) hx hb dL_law_1251 (by decide) (fun _ => ?_) (fun c9 => absurd rfl c9)
  refine lv_iload hx hb dL_law_1256 (lv_at hl 1 rfl) ?_
  refine lv_if_ne (tgt := 1273) hx hb dL_law_1258 (by decide) (fun _ => ?_) (fun c10 => absurd c10 (by decide))
  refine lv_goto (tgt := 2336) hx hb dL_law_1273 (by decide) ?_
  exact lw_end X hX hbl hbA (by omega) I (lv_sub hl [2, 6] rfl) (Nat.le_of_ble_eq_true rfl) (Nat.le_of_ble_eq_true rfl)

set_option maxHeartbeats 4000000 in
set_option maxRecDepth 100000 in
theorem lc_23_b11 {p : Program} {l : Launch} {e : Env} {s : State} {m : MethodId} {below : List Frame} {meth : Method} {c : Code} {H : Heap} {locs : List Loc} {ls : Array Slot} {D : va_G} {cI cJ : ClassId} {b L : Nat} {xs : Nat → Int32} {zb : Nat} {zt : Nat} {zn : Nat} {zv : Nat} {zs : Nat} {zp : Nat} {zq : Nat → Nat} {zu : Nat → Nat} {zh : Nat} {zst : Nat} {zre : Nat} {zx : Nat} {zg : Nat → Int64} {za : Nat} {zr : Nat → Nat} {zj : Nat} {zv9 : Nat} (hst : l.stackTraces = false) (X : fb_Bx p s m #[Value.ref b] meth c cL_law RL 9 (some .boolean) D (fb_ty D cI cJ) (fun q : Nat => s.heap.size ≤ q)) (hX : va_X b L xs s s.heap) (hbl : b < s.heap.size) (hbA : ¬ (fun q : Nat => s.heap.size ≤ q) b) (hL6 : L = 6) (hz : xs 1 = nI zj) (hw : xs 2 = nI zv9) (hj : zj < 4096) (gA0 : f_X11_isNoAddress (nI zj) = (0 : Int32)) (gA2 : f_X11_isNoAddress (nI zv9) = (0 : Int32)) (h1 : (nI zv9) < (nI zj)) (h2 : ¬ (nI zj) ≤ (nI zv9)) (q1 : f_X12_isIn (nI zv9) (nI zj) (4095 : Int32) = (0 : Int32)) (z3 : ¬ xs 3 = 0) (z4 : ¬ xs 4 = 0) (I : fb_In D (fun q : Nat => s.heap.size ≤ q) s.heap (([fb_o11 zb zt zn zv zs zp (zq 0) (zu 0) zh zst zre, fb_jw cJ zx 1 zg, fb_o12 za zr fr_e0] : List va_W).flatten) H locs) (hl : lv_has ls 9 [(4, .int (0 : Int32)), (3, .ref zx), (2, .ref za), (1, .ref zb), (0, .ref b)]) : W p l e room_1 s m #[Value.ref b] below meth c H locs 209 179241 (lw_Z below #[Value.ref b] s) (F0 m 1152 ls []) := by
  obtain ⟨hx, hb, hr, hml, hown, hts, hlk, hA, hK, hF⟩ := id X
  refine lv_aload_n hx hb dL_law_1152 rfl (lv_at hl 3 rfl) ?_
  refine lv_aload_n hx hb dL_law_1153 rfl (lv_at hl 4 rfl) ?_
  refine lv_iload hx hb dL_law_1154 (lv_at hl 0 rfl) ?_
  refine lv_iconst (v := (1 : Int32)) hx hb dL_law_1156 (by decide) ?_
  refine lv_iadd hx hb dL_law_1157 ?_
  refine fb_tI (v := (1 : Int32)) (by decide) ?_
  refine va_sld (i := (1 : Int32)) hx hb hX hbl hbA I.2.2 (fb_inC (n := 1) (by decide) (by decide) (by omega)) dL_law_1158 ?_
  refine fb_tI (v := (xs 1)) rfl ?_
  refine fb_tI (v := (nI zj)) hz ?_
  refine lv_aload_n hx hb dL_law_1159 rfl (lv_at hl 4 rfl) ?_
  refine lv_iload hx hb dL_law_1160 (lv_at hl 0 rfl) ?_
  refine lv_iconst (v := (2 : Int32)) hx hb dL_law_1162 (by decide) ?_
  refine lv_iadd hx hb dL_law_1163 ?_
  refine fb_tI (v := (2 : Int32)) (by decide) ?_
  refine va_sld (i := (2 : Int32)) hx hb hX hbl hbA I.2.2 (fb_inC (n := 2) (by decide) (by decide) (by omega)) dL_law_1164 ?_
  refine fb_tI (v := (xs 2)) rfl ?_
  refine fb_tI (v := (nI zv9)) hw ?_
  refine lv_aload_n hx hb dL_law_1165 rfl (lv_at hl 4 rfl) ?_
  refine lv_iload hx hb dL_law_1166 (lv_at hl 0 rfl) ?_
  refine lv_iconst (v := (3 : Int32)) hx hb dL_law_1168 (by decide) ?_
  refine lv_iadd hx hb dL_law_1169 ?_
  refine fb_tI (v := (3 : Int32)) (by decide) ?_
  refine va_sld (i := (3 : Int32)) hx hb hX hbl hbA I.2.2 (fb_inC (n := 3) (by decide) (by decide) (by omega)) dL_law_1170 ?_
  refine fb_tI (v := (xs 3)) rfl ?_
  refine lv_if_eq (tgt := 1178) hx hb dL_law_1171 (by decide) (fun c1 => absurd c1 z3) (fun _ => ?_)
  refine lv_iconst (v := (1 : Int32)) hx hb dL_law_1174 (by decide) ?_
  refine lv_goto (tgt := 1179) hx hb dL_law_1175 (by decide) ?_
  refine lv_aload_n hx hb dL_law_1179 rfl (lv_at hl 4 rfl) ?_
  refine lv_iload hx hb dL_law_1180 (lv_at hl 0 rfl) ?_
  refine lv_iconst (v := (4 : Int32)) hx hb dL_law_1182 (by decide) ?_
  refine lv_iadd hx hb dL_law_1183 ?_
  refine fb_tI (v := (4 : Int32)) (by decide) ?_
  refine va_sld (i := (4 : Int32)) hx hb hX hbl hbA I.2.2 (fb_inC (n := 4) (by decide) (by decide) (by omega)) dL_law_1184 ?_
  refine fb_tI (v := (xs 4)) rfl ?_
  refine lv_if_eq (tgt := 1192) hx hb dL_law_1185 (by decide) (fun c2 => absurd c2 z4) (fun _ => ?_)
  refine lv_iconst (v := (1 : Int32)) hx hb dL_law_1188 (by decide) ?_
  refine lv_goto (tgt := 1193) hx hb dL_law_1189 (by decide) ?_
  refine lv_aload_n hx hb dL_law_1193 rfl (lv_at hl 1 rfl) ?_
  refine fb_gI (cs := [fb_o11 zb zt zn zv zs zp (zq 0) (zu 0) zh zst zre, fb_jw cJ zx 1 zg]) (rs := [fb_o12 za zr fr_e0]) (fun (t : Unit) => [fb_jw cJ zx 1 zg, fb_o12 za zr fr_e0]) (fun (t : Unit) => [fb_jw cJ zx 1 zg]) X I [0, 1, 2] 3 rfl (by decide +kernel) rfl rfl [0, 1] 2 (fun _ => rfl) (by decide +kernel) (fun _ => rfl) (fun _ => rfl) (fun I => fb_rSW (As := [.ref zb, .int (nI zj), .int (nI zv9), .int (1 : Int32), .int (1 : Int32), .ref zx]) (rest := []) X hl (fb_goodSW fw_1810 fw_1811 fw_190 fw_1812) (c_w_setWatch_b l D cI cJ zb zt zn zv zs zp zq zu zh zst zre zx zg (nI zj) (nI zv9) true true _ hst gA0 gA2 h1 h2) rfl rfl (by decide +kernel : fb_hd yL_setWatch 6) ⟨Nat.le_of_ble_eq_true rfl, Nat.le_of_ble_eq_true rfl⟩ rfl rfl (Nat.le_of_ble_eq_true rfl) ⟨Nat.le_of_ble_eq_true rfl, Nat.le_of_ble_eq_true rfl⟩ dL_law_1194 I) ?_
  intro r4 w3 H locs e0 I
  subst e0
  have I : fb_In D (fun q : Nat => s.heap.size ≤ q) s.heap (([fb_jw cJ zx 1 zg, fb_o12 za zr fr_e0] : List va_W).flatten) H locs := I
  refine lv_istore (lv' := [(5, .int (1 : Int32)), (4, .int (0 : Int32)), (3, .ref zx), (2, .ref za), (1, .ref zb), (0, .ref b)]) hx hb dL_law_1197 hl (by decide) rfl (fun ls hl => ?_)
  refine lv_aload_n hx hb dL_law_1199 rfl (lv_at hl 3 rfl) ?_
  refine lv_aload_n hx hb dL_law_1200 rfl (lv_at hl 5 rfl) ?_
  refine lv_iload hx hb dL_law_1201 (lv_at hl 1 rfl) ?_
  refine lv_iconst (v := (1 : Int32)) hx hb dL_law_1203 (by decide) ?_
  refine lv_iadd hx hb dL_law_1204 ?_
  refine fb_tI (v := (1 : Int32)) (by decide) ?_
  refine va_sld (i := (1 : Int32)) hx hb hX hbl hbA I.2.2 (fb_inC (n := 1) (by decide) (by decide) (by omega)) dL_law_1205 ?_
  refine fb_tI (v := (xs 1)) rfl ?_
  refine fb_tI (v := (nI zj)) hz ?_
  refine lv_aload_n hx hb dL_law_1206 rfl (lv_at hl 5 rfl) ?_
  refine lv_iload hx hb dL_law_1207 (lv_at hl 1 rfl) ?_
  refine lv_iconst (v := (2 : Int32)) hx hb dL_law_1209 (by decide) ?_
  refine lv_iadd hx hb dL_law_1210 ?_
  refine fb_tI (v := (2 : Int32)) (by decide) ?_
  refine va_sld (i := (2 : Int32)) hx hb hX hbl hbA I.2.2 (fb_inC (n := 2) (by decide) (by decide) (by omega)) dL_law_1211 ?_
  refine fb_tI (v := (xs 2)) rfl ?_
  refine fb_tI (v := (nI zv9)) hw ?_
  refine lv_aload_n hx hb dL_law_1212 rfl (lv_at hl 5 rfl) ?_
  refine lv_iload hx hb dL_law_1213 (lv_at hl 1 rfl) ?_
  refine lv_iconst (v := (3 : Int32)) hx hb dL_law_1215 (by decide) ?_
  refine lv_iadd hx hb dL_law_1216 ?_
  refine fb_tI (v := (3 : Int32)) (by decide) ?_
  refine va_sld (i := (3 : Int32)) hx hb hX hbl hbA I.2.2 (fb_inC (n := 3) (by decide) (by decide) (by omega)) dL_law_1217 ?_
  refine fb_tI (v := (xs 3)) rfl ?_
  refine lv_if_eq (tgt := 1225) hx hb dL_law_1218 (by decide) (fun c5 => absurd c5 z3) (fun _ => ?_)
  refine lv_iconst (v := (1 : Int32)) hx hb dL_law_1221 (by decide) ?_
  refine lv_goto (tgt := 1226) hx hb dL_law_1222 (by decide) ?_
  refine lv_aload_n hx hb dL_law_1226 rfl (lv_at hl 5 rfl) ?_
  refine lv_iload hx hb dL_law_1227 (lv_at hl 1 rfl) ?_
  refine lv_iconst (v := (4 : Int32)) hx hb dL_law_1229 (by decide) ?_
  refine lv_iadd hx hb dL_law_1230 ?_
  refine fb_tI (v := (4 : Int32)) (by decide) ?_
  refine va_sld (i := (4 : Int32)) hx hb hX hbl hbA I.2.2 (fb_inC (n := 4) (by decide) (by decide) (by omega)) dL_law_1231 ?_
  refine fb_tI (v := (xs 4)) rfl ?_
  refine lv_if_eq (tgt := 1239) hx hb dL_law_1232 (by decide) (fun c6 => absurd c6 z4) (fun _ => ?_)
  refine lv_iconst (v := (1 : Int32)) hx hb dL_law_1235 (by decide) ?_
  refine lv_goto (tgt := 1240) hx hb dL_law_1236 (by decide) ?_
  refine fb_gI (cs := [fb_o12 za zr fr_e0]) (rs := [fb_jw cJ zx 1 zg]) (fun (t : Unit) => [fb_jw cJ zx 1 zg, fb_o12 za zr (upd (upd fr_e0 19 (0 : Int32)) 19 (1 : Int32))]) (fun (t : Unit) => [fb_o12 za zr (upd (upd fr_e0 19 (0 : Int32)) 19 (1 : Int32))]) X I [1, 0] 2 rfl (by decide +kernel) rfl rfl [1, 0] 2 (fun _ => rfl) (by decide +kernel) (fun _ => rfl) (fun _ => rfl) (fun I => fb_rV (As := [.int (nI zj), .int (nI zv9), .int (1 : Int32), .int (1 : Int32)]) (rest := []) X hl (fb_goodV fw_2615 fw_2616 fw_2617 fw_204 fw_2618) (c_setWatch_bad l D cI cJ za zr zj (nI zv9) true true _ (by omega) q1) rfl rfl rfl (by decide +kernel : fb_hd yX12_setWatch 4) ⟨Nat.le_of_ble_eq_true rfl, Nat.le_of_ble_eq_true rfl⟩ rfl rfl rfl rfl rfl (Nat.le_of_ble_eq_true rfl) ⟨Nat.le_of_ble_eq_true rfl, Nat.le_of_ble_eq_true rfl⟩ dL_law_1240 I) ?_
  intro r8 w7 H locs e0 I
  subst e0
  have I : fb_In D (fun q : Nat => s.heap.size ≤ q) s.heap (([fb_jw cJ zx 1 zg, fb_o12 za zr (upd (upd fr_e0 19 (0 : Int32)) 19 (1 : Int32))] : List va_W).flatten) H locs := I
  refine lv_istore (lv' := [(6, .int (0 : Int32)), (5, .int (1 : Int32)), (4, .int (0 : Int32)), (3, .ref zx), (2, .ref za), (1, .ref zb), (0, .ref b)]) hx hb dL_law_1243 hl (by decide) rfl (fun ls hl => ?_)
  refine lv_aload_n hx hb dL_law_1245 rfl (lv_at hl 4 rfl) ?_
  refine fb_gO (cs := [fb_o12 za zr (upd (upd fr_e0 19 (0 : Int32)) 19 (1 : Int32))]) (rs := [fb_jw cJ zx 1 zg]) X I [1, 0] 2 rfl (by decide +kernel) rfl rfl (fun I => fb_rV (As := []) (rest := []) X hl (fb_goodV fw_2119 fw_2120 fw_2121 fw_204 fw_2122) (c_thrown l D cI cJ za zr (upd (upd fr_e0 19 (0 : Int32)) 19 (1 : Int32)) _ ) rfl rfl rfl (by decide +kernel : fb_hd yX12_thrown 0) ⟨Nat.le_of_ble_eq_true rfl, Nat.le_of_ble_eq_true rfl⟩ rfl rfl rfl rfl rfl (Nat.le_of_ble_eq_true rfl) ⟨Nat.le_of_ble_eq_true rfl, Nat.le_of_ble_eq_true rfl⟩ dL_law_1246 I) ?_
  refine fb_tI (v := (1 : Int32)) rfl ?_
  refine lv_iload hx hb dL_law_1249 (lv_at hl 1 rfl) ?_
  refine lv_icmp_eq (tgt := 1256) hx hb dL_law_1251 (by decide) (fun _ => ?_) (fun c9 => absurd rfl c9)
  refine lv_iload hx hb dL_law_1256 (lv_at hl 1 rfl) ?_
  refine lv_if_ne (tgt := 1273) hx hb dL_law_1258 (by decide) (fun _ => ?_) (fun c10 => absurd c10 (by decide))
  refine lv_goto (tgt := 2336) hx hb dL_law_1273 (by decide) ?_
  exact lw_end X hX hbl hbA (by omega) I (lv_sub hl [2, 6] rfl) (Nat.le_of_ble_eq_true rfl) (Nat.le_of_ble_eq_true rfl)

set_option maxHeartbeats 4000000 in
set_option maxRecDepth 100000 in
theorem lc_23_i11 {p : Program} {l : Launch} {e : Env} {s : State} {m : MethodId} {below : List Frame} {meth : Method} {c : Code} {H : Heap} {locs : List Loc} {ls : Array Slot} {D : va_G} {cI cJ : ClassId} {b L : Nat} {xs : Nat → Int32} {zb : Nat} {zt : Nat} {zn : Nat} {zv : Nat} {zs : Nat} {zp : Nat} {zq : Nat → Nat} {zu : Nat → Nat} {zh : Nat} {zst : Nat} {zre : Nat} {zb0 : Nat} {zb1 : Nat} {zb3 : Nat} {zb4 : Nat} {zb5 : Nat} {zx : Nat} {zg : Nat → Int64} {za : Nat} {zr : Nat → Nat} {zj : Nat} {zv9 : Nat} (hst : l.stackTraces = false) (X : fb_Bx p s m #[Value.ref b] meth c cL_law RL 9 (some .boolean) D (fb_ty D cI cJ) (fun q : Nat => s.heap.size ≤ q)) (hX : va_X b L xs s s.heap) (hbl : b < s.heap.size) (hbA : ¬ (fun q : Nat => s.heap.size ≤ q) b) (hL6 : L = 6) (hz : xs 1 = nI zj) (hw : xs 2 = nI zv9) (hj : zj < 4096) (hv : zj ≤ zv9 ∧ zv9 < 4096) (q1 : f_X12_isIn (nI zv9) (nI zj) (4095 : Int32) = (1 : Int32)) (z3 : ¬ xs 3 = 0) (z4 : ¬ xs 4 = 0) (I : fb_In D (fun q : Nat => s.heap.size ≤ q) s.heap (([fb_o11 zb zt zn zv zs zp (zq 0) (zu 0) zh zst zre, fb_o7 zst zb0 zb1 zb3 zb4 zb5 (fun _ => 0), fb_aw cI zb3 4 (fun _ => 0), fb_aw cI zb4 4 (fun _ => 0), fb_aw cI zb5 4 (fun _ => 0), fb_jw cJ zx 1 zg, fb_o12 za zr fr_e0, fb_aw cI (zr 14) 4 (fun _ => 0), fb_aw cI (zr 15) 4 (fun _ => 0), fb_aw (D.1 20) (zr 16) 4 (fun _ => 0), fb_aw (D.1 20) (zr 17) 4 (fun _ => 0)] : List va_W).flatten) H locs) (hl : lv_has ls 9 [(4, .int (0 : Int32)), (3, .ref zx), (2, .ref za), (1, .ref zb), (0, .ref b)]) : W p l e room_1 s m #[Value.ref b] below meth c H locs 209 179241 (lw_Z below #[Value.ref b] s) (F0 m 1152 ls []) := by
  obtain ⟨hx, hb, hr, hml, hown, hts, hlk, hA, hK, hF⟩ := id X
  refine lv_aload_n hx hb dL_law_1152 rfl (lv_at hl 3 rfl) ?_
  refine lv_aload_n hx hb dL_law_1153 rfl (lv_at hl 4 rfl) ?_
  refine lv_iload hx hb dL_law_1154 (lv_at hl 0 rfl) ?_
  refine lv_iconst (v := (1 : Int32)) hx hb dL_law_1156 (by decide) ?_
  refine lv_iadd hx hb dL_law_1157 ?_
  refine fb_tI (v := (1 : Int32)) (by decide) ?_
  refine va_sld (i := (1 : Int32)) hx hb hX hbl hbA I.2.2 (fb_inC (n := 1) (by decide) (by decide) (by omega)) dL_law_1158 ?_
  refine fb_tI (v := (xs 1)) rfl ?_
  refine fb_tI (v := (nI zj)) hz ?_
  refine lv_aload_n hx hb dL_law_1159 rfl (lv_at hl 4 rfl) ?_
  refine lv_iload hx hb dL_law_1160 (lv_at hl 0 rfl) ?_
  refine lv_iconst (v := (2 : Int32)) hx hb dL_law_1162 (by decide) ?_
  refine lv_iadd hx hb dL_law_1163 ?_
  refine fb_tI (v := (2 : Int32)) (by decide) ?_
  refine va_sld (i := (2 : Int32)) hx hb hX hbl hbA I.2.2 (fb_inC (n := 2) (by decide) (by decide) (by omega)) dL_law_1164 ?_
  refine fb_tI (v := (xs 2)) rfl ?_
  refine fb_tI (v := (nI zv9)) hw ?_
  refine lv_aload_n hx hb dL_law_1165 rfl (lv_at hl 4 rfl) ?_
  refine lv_iload hx hb dL_law_1166 (lv_at hl 0 rfl) ?_
  refine lv_iconst (v := (3 : Int32)) hx hb dL_law_1168 (by decide) ?_
  refine lv_iadd hx hb dL_law_1169 ?_
  refine fb_tI (v := (3 : Int32)) (by decide) ?_
  refine va_sld (i := (3 : Int32)) hx hb hX hbl hbA I.2.2 (fb_inC (n := 3) (by decide) (by decide) (by omega)) dL_law_1170 ?_
  refine fb_tI (v := (xs 3)) rfl ?_
  refine lv_if_eq (tgt := 1178) hx hb dL_law_1171 (by decide) (fun c1 => absurd c1 z3) (fun _ => ?_)
  refine lv_iconst (v := (1 : Int32)) hx hb dL_law_1174 (by decide) ?_
  refine lv_goto (tgt := 1179) hx hb dL_law_1175 (by decide) ?_
  refine lv_aload_n hx hb dL_law_1179 rfl (lv_at hl 4 rfl) ?_
  refine lv_iload hx hb dL_law_1180 (lv_at hl 0 rfl) ?_
  refine lv_iconst (v := (4 : Int32)) hx hb dL_law_1182 (by decide) ?_
  refine lv_iadd hx hb dL_law_1183 ?_
  refine fb_tI (v := (4 : Int32)) (by decide) ?_
  refine va_sld (i := (4 : Int32)) hx hb hX hbl hbA I.2.2 (fb_inC (n := 4) (by decide) (by decide) (by omega)) dL_law_1184 ?_
  refine fb_tI (v := (xs 4)) rfl ?_
  refine lv_if_eq (tgt := 1192) hx hb dL_law_1185 (by decide) (fun c2 => absurd c2 z4) (fun _ => ?_)
  refine lv_iconst (v := (1 : Int32)) hx hb dL_law_1188 (by decide) ?_
  refine lv_goto (tgt := 1193) hx hb dL_law_1189 (by decide) ?_
  refine lv_aload_n hx hb dL_law_1193 rfl (lv_at hl 1 rfl) ?_
  refine fb_gI (cs := [fb_o11 zb zt zn zv zs zp (zq 0) (zu 0) zh zst zre, fb_o7 zst zb0 zb1 zb3 zb4 zb5 (fun _ => 0), fb_aw cI zb3 4 (fun _ => 0), fb_aw cI zb4 4 (fun _ => 0), fb_aw cI zb5 4 (fun _ => 0), fb_jw cJ zx 1 zg]) (rs := [fb_o12 za zr fr_e0, fb_aw cI (zr 14) 4 (fun _ => 0), fb_aw cI (zr 15) 4 (fun _ => 0), fb_aw (D.1 20) (zr 16) 4 (fun _ => 0), fb_aw (D.1 20) (zr 17) 4 (fun _ => 0)]) (fun (t : Unit) => [fb_jw cJ zx 1 (vp_updL zg 0 (((1 : Int32)).toInt64)), fb_o12 za zr fr_e0, fb_aw cI (zr 14) 4 (fun _ => 0), fb_aw cI (zr 15) 4 (fun _ => 0), fb_aw (D.1 20) (zr 16) 4 (fun _ => 0), fb_aw (D.1 20) (zr 17) 4 (fun _ => 0)]) (fun (t : Unit) => [fb_jw cJ zx 1 (vp_updL zg 0 (((1 : Int32)).toInt64))]) X I [0, 1, 2, 3, 4, 5, 6, 7, 8, 9, 10] 11 rfl (by decide +kernel) rfl rfl [0, 1, 2, 3, 4, 5] 6 (fun _ => rfl) (by decide +kernel) (fun _ => rfl) (fun _ => rfl) (fun I => fb_rSW (As := [.ref zb, .int (nI zj), .int (nI zv9), .int (1 : Int32), .int (1 : Int32), .ref zx]) (rest := []) X hl (fb_goodSW fw_1810 fw_1811 fw_190 fw_1812) (c_w_setWatch_in l D cI cJ zb zt zn zv zs zp zq zu zh zst zre zb0 zb1 zb3 zb4 zb5 zx zg zj zv9 true true _ hst (by omega) (by omega)) rfl rfl (by decide +kernel : fb_hd yL_setWatch 6) ⟨Nat.le_of_ble_eq_true rfl, Nat.le_of_ble_eq_true rfl⟩ rfl rfl (Nat.le_of_ble_eq_true rfl) ⟨Nat.le_of_ble_eq_true rfl, Nat.le_of_ble_eq_true rfl⟩ dL_law_1194 I) ?_
  intro r4 w3 H locs e0 I
  subst e0
  have I : fb_In D (fun q : Nat => s.heap.size ≤ q) s.heap (([fb_jw cJ zx 1 (vp_updL zg 0 (((1 : Int32)).toInt64)), fb_o12 za zr fr_e0, fb_aw cI (zr 14) 4 (fun _ => 0), fb_aw cI (zr 15) 4 (fun _ => 0), fb_aw (D.1 20) (zr 16) 4 (fun _ => 0), fb_aw (D.1 20) (zr 17) 4 (fun _ => 0)] : List va_W).flatten) H locs := I
  refine lv_istore (lv' := [(5, .int (0 : Int32)), (4, .int (0 : Int32)), (3, .ref zx), (2, .ref za), (1, .ref zb), (0, .ref b)]) hx hb dL_law_1197 hl (by decide) rfl (fun ls hl => ?_)
  refine lv_aload_n hx hb dL_law_1199 rfl (lv_at hl 3 rfl) ?_
  refine lv_aload_n hx hb dL_law_1200 rfl (lv_at hl 5 rfl) ?_
  refine lv_iload hx hb dL_law_1201 (lv_at hl 1 rfl) ?_
  refine lv_iconst (v := (1 : Int32)) hx hb dL_law_1203 (by decide) ?_
  refine lv_iadd hx hb dL_law_1204 ?_
  refine fb_tI (v := (1 : Int32)) (by decide) ?_
  refine va_sld (i := (1 : Int32)) hx hb hX hbl hbA I.2.2 (fb_inC (n := 1) (by decide) (by decide) (by omega)) dL_law_1205 ?_
  refine fb_tI (v := (xs 1)) rfl ?_
  refine fb_tI (v := (nI zj)) hz ?_
  refine lv_aload_n hx hb dL_law_1206 rfl (lv_at hl 5 rfl) ?_
  refine lv_iload hx hb dL_law_1207 (lv_at hl 1 rfl) ?_
  refine lv_iconst (v := (2 : Int32)) hx hb dL_law_1209 (by decide) ?_
  refine lv_iadd hx hb dL_law_1210 ?_
  refine fb_tI (v := (2 : Int32)) (by decide) ?_
  refine va_sld (i := (2 : Int32)) hx hb hX hbl hbA I.2.2 (fb_inC (n := 2) (by decide) (by decide) (by omega)) dL_law_1211 ?_
  refine fb_tI (v := (xs 2)) rfl ?_
  refine fb_tI (v := (nI zv9)) hw ?_
  refine lv_aload_n hx hb dL_law_1212 rfl (lv_at hl 5 rfl) ?_
  refine lv_iload hx hb dL_law_1213 (lv_at hl 1 rfl) ?_
  refine lv_iconst (v := (3 : Int32)) hx hb dL_law_1215 (by decide) ?_
  refine lv_iadd hx hb dL_law_1216 ?_
  refine fb_tI (v := (3 : Int32)) (by decide) ?_
  refine va_sld (i := (3 : Int32)) hx hb hX hbl hbA I.2.2 (fb_inC (n := 3) (by decide) (by decide) (by omega)) dL_law_1217 ?_
  refine fb_tI (v := (xs 3)) rfl ?_
  refine lv_if_eq (tgt := 1225) hx hb dL_law_1218 (by decide) (fun c5 => absurd c5 z3) (fun _ => ?_)
  refine lv_iconst (v := (1 : Int32)) hx hb dL_law_1221 (by decide) ?_
  refine lv_goto (tgt := 1226) hx hb dL_law_1222 (by decide) ?_
  refine lv_aload_n hx hb dL_law_1226 rfl (lv_at hl 5 rfl) ?_
  refine lv_iload hx hb dL_law_1227 (lv_at hl 1 rfl) ?_
  refine lv_iconst (v := (4 : Int32)) hx hb dL_law_1229 (by decide) ?_
  refine lv_iadd hx hb dL_law_1230 ?_
  refine fb_tI (v := (4 : Int32)) (by decide) ?_
  refine va_sld (i := (4 : Int32)) hx hb hX hbl hbA I.2.2 (fb_inC (n := 4) (by decide) (by decide) (by omega)) dL_law_1231 ?_
  refine fb_tI (v := (xs 4)) rfl ?_
  refine lv_if_eq (tgt := 1239) hx hb dL_law_1232 (by decide) (fun c6 => absurd c6 z4) (fun _ => ?_)
  refine lv_iconst (v := (1 : Int32)) hx hb dL_law_1235 (by decide) ?_
  refine lv_goto (tgt := 1240) hx hb dL_law_1236 (by decide) ?_
  refine fb_gI (cs := [fb_o12 za zr fr_e0, fb_aw cI (zr 14) 4 (fun _ => 0), fb_aw cI (zr 15) 4 (fun _ => 0), fb_aw (D.1 20) (zr 16) 4 (fun _ => 0), fb_aw (D.1 20) (zr 17) 4 (fun _ => 0)]) (rs := [fb_jw cJ zx 1 (vp_updL zg 0 (((1 : Int32)).toInt64))]) (fun (t : Unit) => [fb_jw cJ zx 1 (vp_updL zg 0 (((1 : Int32)).toInt64)), fb_o12 za zr (upd (upd fr_e0 19 (0 : Int32)) 18 (1 : Int32)), fb_aw cI (zr 14) 4 (upd (fun _ => 0) 0 (nI zj)), fb_aw cI (zr 15) 4 (upd (fun _ => 0) 0 (nI zv9)), fb_aw (D.1 20) (zr 16) 4 (upd (fun _ => 0) 0 (fb_bI true)), fb_aw (D.1 20) (zr 17) 4 (upd (fun _ => 0) 0 (fb_bI true))]) (fun (t : Unit) => [fb_o12 za zr (upd (upd fr_e0 19 (0 : Int32)) 18 (1 : Int32)), fb_aw cI (zr 14) 4 (upd (fun _ => 0) 0 (nI zj)), fb_aw cI (zr 15) 4 (upd (fun _ => 0) 0 (nI zv9)), fb_aw (D.1 20) (zr 16) 4 (upd (fun _ => 0) 0 (fb_bI true)), fb_aw (D.1 20) (zr 17) 4 (upd (fun _ => 0) 0 (fb_bI true))]) X I [1, 2, 3, 4, 5, 0] 6 rfl (by decide +kernel) rfl rfl [1, 2, 3, 4, 5, 0] 6 (fun _ => rfl) (by decide +kernel) (fun _ => rfl) (fun _ => rfl) (fun I => fb_rV (As := [.int (nI zj), .int (nI zv9), .int (1 : Int32), .int (1 : Int32)]) (rest := []) X hl (fb_goodV fw_2615 fw_2616 fw_2617 fw_204 fw_2618) (c_setWatch_in l D cI cJ za zr zj (nI zv9) (fun _ => 0) (fun _ => 0) (fun _ => 0) (fun _ => 0) true true _ (by omega) q1) rfl rfl rfl (by decide +kernel : fb_hd yX12_setWatch 4) ⟨Nat.le_of_ble_eq_true rfl, Nat.le_of_ble_eq_true rfl⟩ rfl rfl rfl rfl rfl (Nat.le_of_ble_eq_true rfl) ⟨Nat.le_of_ble_eq_true rfl, Nat.le_of_ble_eq_true rfl⟩ dL_law_1240 I) ?_
  intro r8 w7 H locs e0 I
  subst e0
  have I : fb_In D (fun q : Nat => s.heap.size ≤ q) s.heap (([fb_jw cJ zx 1 (vp_updL zg 0 (((1 : Int32)).toInt64)), fb_o12 za zr (upd (upd fr_e0 19 (0 : Int32)) 18 (1 : Int32)), fb_aw cI (zr 14) 4 (upd (fun _ => 0) 0 (nI zj)), fb_aw cI (zr 15) 4 (upd (fun _ => 0) 0 (nI zv9)), fb_aw (D.1 20) (zr 16) 4 (upd (fun _ => 0) 0 (fb_bI true)), fb_aw (D.1 20) (zr 17) 4 (upd (fun _ => 0) 0 (fb_bI true))] : List va_W).flatten) H locs := I
  refine lv_istore (lv' := [(6, .int (1 : Int32)), (5, .int (0 : Int32)), (4, .int (0 : Int32)), (3, .ref zx), (2, .ref za), (1, .ref zb), (0, .ref b)]) hx hb dL_law_1243 hl (by decide) rfl (fun ls hl => ?_)
  refine lv_aload_n hx hb dL_law_1245 rfl (lv_at hl 4 rfl) ?_
  refine fb_gO (cs := [fb_o12 za zr (upd (upd fr_e0 19 (0 : Int32)) 18 (1 : Int32))]) (rs := [fb_jw cJ zx 1 (vp_updL zg 0 (((1 : Int32)).toInt64)), fb_aw cI (zr 14) 4 (upd (fun _ => 0) 0 (nI zj)), fb_aw cI (zr 15) 4 (upd (fun _ => 0) 0 (nI zv9)), fb_aw (D.1 20) (zr 16) 4 (upd (fun _ => 0) 0 (fb_bI true)), fb_aw (D.1 20) (zr 17) 4 (upd (fun _ => 0) 0 (fb_bI true))]) X I [1, 0, 2, 3, 4, 5] 6 rfl (by decide +kernel) rfl rfl (fun I => fb_rV (As := []) (rest := []) X hl (fb_goodV fw_2119 fw_2120 fw_2121 fw_204 fw_2122) (c_thrown l D cI cJ za zr (upd (upd fr_e0 19 (0 : Int32)) 18 (1 : Int32)) _ ) rfl rfl rfl (by decide +kernel : fb_hd yX12_thrown 0) ⟨Nat.le_of_ble_eq_true rfl, Nat.le_of_ble_eq_true rfl⟩ rfl rfl rfl rfl rfl (Nat.le_of_ble_eq_true rfl) ⟨Nat.le_of_ble_eq_true rfl, Nat.le_of_ble_eq_true rfl⟩ dL_law_1246 I) ?_
  refine fb_tI (v := (0 : Int32)) rfl ?_
  refine lv_iload hx hb dL_law_1249 (lv_at hl 1 rfl) ?_
  refine lv_icmp_eq (tgt := 1256) hx hb dL_law_1251 (by decide) (fun _ => ?_) (fun c9 => absurd rfl c9)
  refine lv_iload hx hb dL_law_1256 (lv_at hl 1 rfl) ?_
  refine lv_if_ne (tgt := 1273) hx hb dL_law_1258 (by decide) (fun c10 => absurd (by decide) c10) (fun _ => ?_)
  refine lv_aload_n hx hb dL_law_1261 rfl (lv_at hl 3 rfl) ?_
  refine lv_iconst (v := (0 : Int32)) hx hb dL_law_1262 (by decide) ?_
  refine va_lald (i := (0 : Int32)) hx hb hK.1 I.1 0 1 rfl rfl (fb_inC (n := 0) (by decide) (by decide) (Nat.le_of_ble_eq_true rfl)) dL_law_1263 ?_
  refine fb_tL (v := (((1 : Int32)).toInt64)) rfl ?_
  refine lv_iload hx hb dL_law_1264 (lv_at hl 0 rfl) ?_
  refine lv_i2l (v := (((1 : Int32)).toInt64)) hx hb dL_law_1266 rfl ?_
  refine W.lcmp hx hb dL_law_1267 ?_
  refine fb_tI (v := (0 : Int32)) (lw_cmp0 _) ?_
  refine lv_if_eq (tgt := 1273) hx hb dL_law_1268 (by decide) (fun _ => ?_) (fun c11 => absurd (by decide) c11)
  refine lv_goto (tgt := 2336) hx hb dL_law_1273 (by decide) ?_
  exact lw_end X hX hbl hbA (by omega) I (lv_sub hl [2, 6] rfl) (Nat.le_of_ble_eq_true rfl) (Nat.le_of_ble_eq_true rfl)

set_option maxHeartbeats 4000000 in
set_option maxRecDepth 100000 in
theorem lc_34_a {p : Program} {l : Launch} {e : Env} {s : State} {m : MethodId} {below : List Frame} {meth : Method} {c : Code} {H : Heap} {locs : List Loc} {ls : Array Slot} {D : va_G} {cI cJ : ClassId} {b L : Nat} {xs : Nat → Int32} {zb : Nat} {zt : Nat} {zn : Nat} {zv : Nat} {zs : Nat} {zp : Nat} {zq : Nat → Nat} {zu : Nat → Nat} {zh : Nat} {zst : Nat} {zre : Nat} {zx : Nat} {zg : Nat → Int64} {za : Nat} {zr : Nat → Nat} (hst : l.stackTraces = false) (X : fb_Bx p s m #[Value.ref b] meth c cL_law RL 9 (some .boolean) D (fb_ty D cI cJ) (fun q : Nat => s.heap.size ≤ q)) (hX : va_X b L xs s s.heap) (hbl : b < s.heap.size) (hbA : ¬ (fun q : Nat => s.heap.size ≤ q) b) (hL6 : L = 6) (h0 : (xs 1) < 0) (q1 : f_X12_isIn (xs 1) (0 : Int32) (7 : Int32) = (0 : Int32)) (I : fb_In D (fun q : Nat => s.heap.size ≤ q) s.heap (([fb_o11 zb zt zn zv zs zp (zq 0) (zu 0) zh zst zre, fb_jw cJ zx 1 zg, fb_o12 za zr fr_e0] : List va_W).flatten) H locs) (hl : lv_has ls 9 [(4, .int (0 : Int32)), (3, .ref zx), (2, .ref za), (1, .ref zb), (0, .ref b)]) : W p l e room_1 s m #[Value.ref b] below meth c H locs 209 179241 (lw_Z below #[Value.ref b] s) (F0 m 1449 ls []) := by
  obtain ⟨hx, hb, hr, hml, hown, hts, hlk, hA, hK, hF⟩ := id X
  refine lv_aload_n hx hb dL_law_1449 rfl (lv_at hl 3 rfl) ?_
  refine lv_aload_n hx hb dL_law_1450 rfl (lv_at hl 4 rfl) ?_
  refine lv_iload hx hb dL_law_1451 (lv_at hl 0 rfl) ?_
  refine lv_iconst (v := (1 : Int32)) hx hb dL_law_1453 (by decide) ?_
  refine lv_iadd hx hb dL_law_1454 ?_
  refine fb_tI (v := (1 : Int32)) (by decide) ?_
  refine va_sld (i := (1 : Int32)) hx hb hX hbl hbA I.2.2 (fb_inC (n := 1) (by decide) (by decide) (by omega)) dL_law_1455 ?_
  refine fb_tI (v := (xs 1)) rfl ?_
  refine lv_aload_n hx hb dL_law_1456 rfl (lv_at hl 4 rfl) ?_
  refine lv_iload hx hb dL_law_1457 (lv_at hl 0 rfl) ?_
  refine lv_iconst (v := (2 : Int32)) hx hb dL_law_1459 (by decide) ?_
  refine lv_iadd hx hb dL_law_1460 ?_
  refine fb_tI (v := (2 : Int32)) (by decide) ?_
  refine va_sld (i := (2 : Int32)) hx hb hX hbl hbA I.2.2 (fb_inC (n := 2) (by decide) (by decide) (by omega)) dL_law_1461 ?_
  refine fb_tI (v := (xs 2)) rfl ?_
  refine lv_aload_n hx hb dL_law_1462 rfl (lv_at hl 1 rfl) ?_
  refine fb_gI (cs := [fb_o11 zb zt zn zv zs zp (zq 0) (zu 0) zh zst zre, fb_jw cJ zx 1 zg]) (rs := [fb_o12 za zr fr_e0]) (fun (t : Unit) => [fb_jw cJ zx 1 zg, fb_o12 za zr fr_e0]) (fun (t : Unit) => [fb_jw cJ zx 1 zg]) X I [0, 1, 2] 3 rfl (by decide +kernel) rfl rfl [0, 1] 2 (fun _ => rfl) (by decide +kernel) (fun _ => rfl) (fun _ => rfl) (fun I => fb_rSW (As := [.ref zb, .int (xs 1), .int (xs 2), .ref zx]) (rest := []) X hl (fb_goodSW fw_1831 fw_1832 fw_190 fw_1833) (c_w_byteIn_a l D cI cJ zb zt zn zv zs zp zq zu zh zst zre zx zg (xs 1) (xs 2) _ hst h0) rfl rfl (by decide +kernel : fb_hd yL_byteIn 4) ⟨Nat.le_of_ble_eq_true rfl, Nat.le_of_ble_eq_true rfl⟩ rfl rfl (Nat.le_of_ble_eq_true rfl) ⟨Nat.le_of_ble_eq_true rfl, Nat.le_of_ble_eq_true rfl⟩ dL_law_1463 I) ?_
  intro r2 w1 H locs e0 I
  subst e0
  have I : fb_In D (fun q : Nat => s.heap.size ≤ q) s.heap (([fb_jw cJ zx 1 zg, fb_o12 za zr fr_e0] : List va_W).flatten) H locs := I
  refine lv_istore (lv' := [(5, .int (1 : Int32)), (4, .int (0 : Int32)), (3, .ref zx), (2, .ref za), (1, .ref zb), (0, .ref b)]) hx hb dL_law_1466 hl (by decide) rfl (fun ls hl => ?_)
  refine lv_aload_n hx hb dL_law_1468 rfl (lv_at hl 3 rfl) ?_
  refine lv_aload_n hx hb dL_law_1469 rfl (lv_at hl 5 rfl) ?_
  refine lv_iload hx hb dL_law_1470 (lv_at hl 1 rfl) ?_
  refine lv_iconst (v := (1 : Int32)) hx hb dL_law_1472 (by decide) ?_
  refine lv_iadd hx hb dL_law_1473 ?_
  refine fb_tI (v := (1 : Int32)) (by decide) ?_
  refine va_sld (i := (1 : Int32)) hx hb hX hbl hbA I.2.2 (fb_inC (n := 1) (by decide) (by decide) (by omega)) dL_law_1474 ?_
  refine fb_tI (v := (xs 1)) rfl ?_
  refine lv_aload_n hx hb dL_law_1475 rfl (lv_at hl 5 rfl) ?_
  refine lv_iload hx hb dL_law_1476 (lv_at hl 1 rfl) ?_
  refine lv_iconst (v := (2 : Int32)) hx hb dL_law_1478 (by decide) ?_
  refine lv_iadd hx hb dL_law_1479 ?_
  refine fb_tI (v := (2 : Int32)) (by decide) ?_
  refine va_sld (i := (2 : Int32)) hx hb hX hbl hbA I.2.2 (fb_inC (n := 2) (by decide) (by decide) (by omega)) dL_law_1480 ?_
  refine fb_tI (v := (xs 2)) rfl ?_
  refine fb_gI (cs := [fb_o12 za zr fr_e0]) (rs := [fb_jw cJ zx 1 zg]) (fun (t : Unit) => [fb_jw cJ zx 1 zg, fb_o12 za zr (upd (upd fr_e0 19 (0 : Int32)) 19 (1 : Int32))]) (fun (t : Unit) => [fb_o12 za zr (upd (upd fr_e0 19 (0 : Int32)) 19 (1 : Int32))]) X I [1, 0] 2 rfl (by decide +kernel) rfl rfl [1, 0] 2 (fun _ => rfl) (by decide +kernel) (fun _ => rfl) (fun _ => rfl) (fun I => fb_rV (As := [.int (xs 1), .int (xs 2)]) (rest := []) X hl (fb_goodV fw_2663 fw_2664 fw_2665 fw_204 fw_2666) (c_byteIn_out l D cI cJ za zr (xs 1) (xs 2) _ q1) rfl rfl rfl (by decide +kernel : fb_hd yX12_byteIn 2) ⟨Nat.le_of_ble_eq_true rfl, Nat.le_of_ble_eq_true rfl⟩ rfl rfl rfl rfl rfl (Nat.le_of_ble_eq_true rfl) ⟨Nat.le_of_ble_eq_true rfl, Nat.le_of_ble_eq_true rfl⟩ dL_law_1481 I) ?_
  intro r4 w3 H locs e0 I
  subst e0
  have I : fb_In D (fun q : Nat => s.heap.size ≤ q) s.heap (([fb_jw cJ zx 1 zg, fb_o12 za zr (upd (upd fr_e0 19 (0 : Int32)) 19 (1 : Int32))] : List va_W).flatten) H locs := I
  refine lv_istore (lv' := [(6, .int (0 : Int32)), (5, .int (1 : Int32)), (4, .int (0 : Int32)), (3, .ref zx), (2, .ref za), (1, .ref zb), (0, .ref b)]) hx hb dL_law_1484 hl (by decide) rfl (fun ls hl => ?_)
  refine lv_aload_n hx hb dL_law_1486 rfl (lv_at hl 4 rfl) ?_
  refine fb_gO (cs := [fb_o12 za zr (upd (upd fr_e0 19 (0 : Int32)) 19 (1 : Int32))]) (rs := [fb_jw cJ zx 1 zg]) X I [1, 0] 2 rfl (by decide +kernel) rfl rfl (fun I => fb_rV (As := []) (rest := []) X hl (fb_goodV fw_2119 fw_2120 fw_2121 fw_204 fw_2122) (c_thrown l D cI cJ za zr (upd (upd fr_e0 19 (0 : Int32)) 19 (1 : Int32)) _ ) rfl rfl rfl (by decide +kernel : fb_hd yX12_thrown 0) ⟨Nat.le_of_ble_eq_true rfl, Nat.le_of_ble_eq_true rfl⟩ rfl rfl rfl rfl rfl (Nat.le_of_ble_eq_true rfl) ⟨Nat.le_of_ble_eq_true rfl, Nat.le_of_ble_eq_true rfl⟩ dL_law_1487 I) ?_
  refine fb_tI (v := (1 : Int32)) rfl ?_
  refine lv_iload hx hb dL_law_1490 (lv_at hl 1 rfl) ?_
  refine lv_icmp_eq (tgt := 1497) hx hb dL_law_1492 (by decide) (fun _ => ?_) (fun c5 => absurd rfl c5)
  refine lv_iload hx hb dL_law_1497 (lv_at hl 1 rfl) ?_
  refine lv_if_ne (tgt := 1514) hx hb dL_law_1499 (by decide) (fun _ => ?_) (fun c6 => absurd c6 (by decide))
  refine lv_goto (tgt := 2336) hx hb dL_law_1514 (by decide) ?_
  exact lw_end X hX hbl hbA (by omega) I (lv_sub hl [2, 6] rfl) (Nat.le_of_ble_eq_true rfl) (Nat.le_of_ble_eq_true rfl)

set_option maxHeartbeats 4000000 in
set_option maxRecDepth 100000 in
theorem lc_34_b {p : Program} {l : Launch} {e : Env} {s : State} {m : MethodId} {below : List Frame} {meth : Method} {c : Code} {H : Heap} {locs : List Loc} {ls : Array Slot} {D : va_G} {cI cJ : ClassId} {b L : Nat} {xs : Nat → Int32} {zb : Nat} {zt : Nat} {zn : Nat} {zv : Nat} {zs : Nat} {zp : Nat} {zq : Nat → Nat} {zu : Nat → Nat} {zh : Nat} {zst : Nat} {zre : Nat} {zx : Nat} {zg : Nat → Int64} {za : Nat} {zr : Nat → Nat} (hst : l.stackTraces = false) (X : fb_Bx p s m #[Value.ref b] meth c cL_law RL 9 (some .boolean) D (fb_ty D cI cJ) (fun q : Nat => s.heap.size ≤ q)) (hX : va_X b L xs s s.heap) (hbl : b < s.heap.size) (hbA : ¬ (fun q : Nat => s.heap.size ≤ q) b) (hL6 : L = 6) (h0 : ¬ (xs 1) < 0) (h1 : ¬ (xs 1) < (8 : Int32)) (q1 : f_X12_isIn (xs 1) (0 : Int32) (7 : Int32) = (0 : Int32)) (I : fb_In D (fun q : Nat => s.heap.size ≤ q) s.heap (([fb_o11 zb zt zn zv zs zp (zq 0) (zu 0) zh zst zre, fb_jw cJ zx 1 zg, fb_o12 za zr fr_e0] : List va_W).flatten) H locs) (hl : lv_has ls 9 [(4, .int (0 : Int32)), (3, .ref zx), (2, .ref za), (1, .ref zb), (0, .ref b)]) : W p l e room_1 s m #[Value.ref b] below meth c H locs 209 179241 (lw_Z below #[Value.ref b] s) (F0 m 1449 ls []) := by
  obtain ⟨hx, hb, hr, hml, hown, hts, hlk, hA, hK, hF⟩ := id X
  refine lv_aload_n hx hb dL_law_1449 rfl (lv_at hl 3 rfl) ?_
  refine lv_aload_n hx hb dL_law_1450 rfl (lv_at hl 4 rfl) ?_
  refine lv_iload hx hb dL_law_1451 (lv_at hl 0 rfl) ?_
  refine lv_iconst (v := (1 : Int32)) hx hb dL_law_1453 (by decide) ?_
  refine lv_iadd hx hb dL_law_1454 ?_
  refine fb_tI (v := (1 : Int32)) (by decide) ?_
  refine va_sld (i := (1 : Int32)) hx hb hX hbl hbA I.2.2 (fb_inC (n := 1) (by decide) (by decide) (by omega)) dL_law_1455 ?_
  refine fb_tI (v := (xs 1)) rfl ?_
  refine lv_aload_n hx hb dL_law_1456 rfl (lv_at hl 4 rfl) ?_
  refine lv_iload hx hb dL_law_1457 (lv_at hl 0 rfl) ?_
  refine lv_iconst (v := (2 : Int32)) hx hb dL_law_1459 (by decide) ?_
  refine lv_iadd hx hb dL_law_1460 ?_
  refine fb_tI (v := (2 : Int32)) (by decide) ?_
  refine va_sld (i := (2 : Int32)) hx hb hX hbl hbA I.2.2 (fb_inC (n := 2) (by decide) (by decide) (by omega)) dL_law_1461 ?_
  refine fb_tI (v := (xs 2)) rfl ?_
  refine lv_aload_n hx hb dL_law_1462 rfl (lv_at hl 1 rfl) ?_
  refine fb_gI (cs := [fb_o11 zb zt zn zv zs zp (zq 0) (zu 0) zh zst zre, fb_jw cJ zx 1 zg]) (rs := [fb_o12 za zr fr_e0]) (fun (t : Unit) => [fb_jw cJ zx 1 zg, fb_o12 za zr fr_e0]) (fun (t : Unit) => [fb_jw cJ zx 1 zg]) X I [0, 1, 2] 3 rfl (by decide +kernel) rfl rfl [0, 1] 2 (fun _ => rfl) (by decide +kernel) (fun _ => rfl) (fun _ => rfl) (fun I => fb_rSW (As := [.ref zb, .int (xs 1), .int (xs 2), .ref zx]) (rest := []) X hl (fb_goodSW fw_1831 fw_1832 fw_190 fw_1833) (c_w_byteIn_b l D cI cJ zb zt zn zv zs zp zq zu zh zst zre zx zg (xs 1) (xs 2) _ hst h0 h1) rfl rfl (by decide +kernel : fb_hd yL_byteIn 4) ⟨Nat.le_of_ble_eq_true rfl, Nat.le_of_ble_eq_true rfl⟩ rfl rfl (Nat.le_of_ble_eq_true rfl) ⟨Nat.le_of_ble_eq_true rfl, Nat.le_of_ble_eq_true rfl⟩ dL_law_1463 I) ?_
  intro r2 w1 H locs e0 I
  subst e0
  have I : fb_In D (fun q : Nat => s.heap.size ≤ q) s.heap (([fb_jw cJ zx 1 zg, fb_o12 za zr fr_e0] : List va_W).flatten) H locs := I
  refine lv_istore (lv' := [(5, .int (1 : Int32)), (4, .int (0 : Int32)), (3, .ref zx), (2, .ref za), (1, .ref zb), (0, .ref b)]) hx hb dL_law_1466 hl (by decide) rfl (fun ls hl => ?_)
  refine lv_aload_n hx hb dL_law_1468 rfl (lv_at hl 3 rfl) ?_
  refine lv_aload_n hx hb dL_law_1469 rfl (lv_at hl 5 rfl) ?_
  refine lv_iload hx hb dL_law_1470 (lv_at hl 1 rfl) ?_
  refine lv_iconst (v := (1 : Int32)) hx hb dL_law_1472 (by decide) ?_
  refine lv_iadd hx hb dL_law_1473 ?_
  refine fb_tI (v := (1 : Int32)) (by decide) ?_
  refine va_sld (i := (1 : Int32)) hx hb hX hbl hbA I.2.2 (fb_inC (n := 1) (by decide) (by decide) (by omega)) dL_law_1474 ?_
  refine fb_tI (v := (xs 1)) rfl ?_
  refine lv_aload_n hx hb dL_law_1475 rfl (lv_at hl 5 rfl) ?_
  refine lv_iload hx hb dL_law_1476 (lv_at hl 1 rfl) ?_
  refine lv_iconst (v := (2 : Int32)) hx hb dL_law_1478 (by decide) ?_
  refine lv_iadd hx hb dL_law_1479 ?_
  refine fb_tI (v := (2 : Int32)) (by decide) ?_
  refine va_sld (i := (2 : Int32)) hx hb hX hbl hbA I.2.2 (fb_inC (n := 2) (by decide) (by decide) (by omega)) dL_law_1480 ?_
  refine fb_tI (v := (xs 2)) rfl ?_
  refine fb_gI (cs := [fb_o12 za zr fr_e0]) (rs := [fb_jw cJ zx 1 zg]) (fun (t : Unit) => [fb_jw cJ zx 1 zg, fb_o12 za zr (upd (upd fr_e0 19 (0 : Int32)) 19 (1 : Int32))]) (fun (t : Unit) => [fb_o12 za zr (upd (upd fr_e0 19 (0 : Int32)) 19 (1 : Int32))]) X I [1, 0] 2 rfl (by decide +kernel) rfl rfl [1, 0] 2 (fun _ => rfl) (by decide +kernel) (fun _ => rfl) (fun _ => rfl) (fun I => fb_rV (As := [.int (xs 1), .int (xs 2)]) (rest := []) X hl (fb_goodV fw_2663 fw_2664 fw_2665 fw_204 fw_2666) (c_byteIn_out l D cI cJ za zr (xs 1) (xs 2) _ q1) rfl rfl rfl (by decide +kernel : fb_hd yX12_byteIn 2) ⟨Nat.le_of_ble_eq_true rfl, Nat.le_of_ble_eq_true rfl⟩ rfl rfl rfl rfl rfl (Nat.le_of_ble_eq_true rfl) ⟨Nat.le_of_ble_eq_true rfl, Nat.le_of_ble_eq_true rfl⟩ dL_law_1481 I) ?_
  intro r4 w3 H locs e0 I
  subst e0
  have I : fb_In D (fun q : Nat => s.heap.size ≤ q) s.heap (([fb_jw cJ zx 1 zg, fb_o12 za zr (upd (upd fr_e0 19 (0 : Int32)) 19 (1 : Int32))] : List va_W).flatten) H locs := I
  refine lv_istore (lv' := [(6, .int (0 : Int32)), (5, .int (1 : Int32)), (4, .int (0 : Int32)), (3, .ref zx), (2, .ref za), (1, .ref zb), (0, .ref b)]) hx hb dL_law_1484 hl (by decide) rfl (fun ls hl => ?_)
  refine lv_aload_n hx hb dL_law_1486 rfl (lv_at hl 4 rfl) ?_
  refine fb_gO (cs := [fb_o12 za zr (upd (upd fr_e0 19 (0 : Int32)) 19 (1 : Int32))]) (rs := [fb_jw cJ zx 1 zg]) X I [1, 0] 2 rfl (by decide +kernel) rfl rfl (fun I => fb_rV (As := []) (rest := []) X hl (fb_goodV fw_2119 fw_2120 fw_2121 fw_204 fw_2122) (c_thrown l D cI cJ za zr (upd (upd fr_e0 19 (0 : Int32)) 19 (1 : Int32)) _ ) rfl rfl rfl (by decide +kernel : fb_hd yX12_thrown 0) ⟨Nat.le_of_ble_eq_true rfl, Nat.le_of_ble_eq_true rfl⟩ rfl rfl rfl rfl rfl (Nat.le_of_ble_eq_true rfl) ⟨Nat.le_of_ble_eq_true rfl, Nat.le_of_ble_eq_true rfl⟩ dL_law_1487 I) ?_
  refine fb_tI (v := (1 : Int32)) rfl ?_
  refine lv_iload hx hb dL_law_1490 (lv_at hl 1 rfl) ?_
  refine lv_icmp_eq (tgt := 1497) hx hb dL_law_1492 (by decide) (fun _ => ?_) (fun c5 => absurd rfl c5)
  refine lv_iload hx hb dL_law_1497 (lv_at hl 1 rfl) ?_
  refine lv_if_ne (tgt := 1514) hx hb dL_law_1499 (by decide) (fun _ => ?_) (fun c6 => absurd c6 (by decide))
  refine lv_goto (tgt := 2336) hx hb dL_law_1514 (by decide) ?_
  exact lw_end X hX hbl hbA (by omega) I (lv_sub hl [2, 6] rfl) (Nat.le_of_ble_eq_true rfl) (Nat.le_of_ble_eq_true rfl)

set_option maxHeartbeats 4000000 in
set_option maxRecDepth 100000 in
theorem lc_34_c {p : Program} {l : Launch} {e : Env} {s : State} {m : MethodId} {below : List Frame} {meth : Method} {c : Code} {H : Heap} {locs : List Loc} {ls : Array Slot} {D : va_G} {cI cJ : ClassId} {b L : Nat} {xs : Nat → Int32} {zb : Nat} {zt : Nat} {zn : Nat} {zv : Nat} {zs : Nat} {zp : Nat} {zq : Nat → Nat} {zu : Nat → Nat} {zh : Nat} {zst : Nat} {zre : Nat} {zx : Nat} {zg : Nat → Int64} {za : Nat} {zr : Nat → Nat} {zv9 : Nat} (hst : l.stackTraces = false) (X : fb_Bx p s m #[Value.ref b] meth c cL_law RL 9 (some .boolean) D (fb_ty D cI cJ) (fun q : Nat => s.heap.size ≤ q)) (hX : va_X b L xs s s.heap) (hbl : b < s.heap.size) (hbA : ¬ (fun q : Nat => s.heap.size ≤ q) b) (hL6 : L = 6) (hw : xs 1 = nI zv9) (hv : zv9 ≤ 7) (h0 : ¬ (nI zv9) < 0) (h1 : (nI zv9) < (8 : Int32)) (v0 : (xs 2) < 0) (q1 : f_X12_isIn (xs 2) (0 : Int32) (1023 : Int32) = (0 : Int32)) (I : fb_In D (fun q : Nat => s.heap.size ≤ q) s.heap (([fb_o11 zb zt zn zv zs zp (zq 0) (zu 0) zh zst zre, fb_jw cJ zx 1 zg, fb_o12 za zr fr_e0] : List va_W).flatten) H locs) (hl : lv_has ls 9 [(4, .int (0 : Int32)), (3, .ref zx), (2, .ref za), (1, .ref zb), (0, .ref b)]) : W p l e room_1 s m #[Value.ref b] below meth c H locs 209 179241 (lw_Z below #[Value.ref b] s) (F0 m 1449 ls []) := by
  obtain ⟨hx, hb, hr, hml, hown, hts, hlk, hA, hK, hF⟩ := id X
  refine lv_aload_n hx hb dL_law_1449 rfl (lv_at hl 3 rfl) ?_
  refine lv_aload_n hx hb dL_law_1450 rfl (lv_at hl 4 rfl) ?_
  refine lv_iload hx hb dL_law_1451 (lv_at hl 0 rfl) ?_
  refine lv_iconst (v := (1 : Int32)) hx hb dL_law_1453 (by decide) ?_
  refine lv_iadd hx hb dL_law_1454 ?_
  refine fb_tI (v := (1 : Int32)) (by decide) ?_
  refine va_sld (i := (1 : Int32)) hx hb hX hbl hbA I.2.2 (fb_inC (n := 1) (by decide) (by decide) (by omega)) dL_law_1455 ?_
  refine fb_tI (v := (xs 1)) rfl ?_
  refine fb_tI (v := (nI zv9)) hw ?_
  refine lv_aload_n hx hb dL_law_1456 rfl (lv_at hl 4 rfl) ?_
  refine lv_iload hx hb dL_law_1457 (lv_at hl 0 rfl) ?_
  refine lv_iconst (v := (2 : Int32)) hx hb dL_law_1459 (by decide) ?_
  refine lv_iadd hx hb dL_law_1460 ?_
  refine fb_tI (v := (2 : Int32)) (by decide) ?_
  refine va_sld (i := (2 : Int32)) hx hb hX hbl hbA I.2.2 (fb_inC (n := 2) (by decide) (by decide) (by omega)) dL_law_1461 ?_
  refine fb_tI (v := (xs 2)) rfl ?_
  refine lv_aload_n hx hb dL_law_1462 rfl (lv_at hl 1 rfl) ?_
  refine fb_gI (cs := [fb_o11 zb zt zn zv zs zp (zq 0) (zu 0) zh zst zre, fb_jw cJ zx 1 zg]) (rs := [fb_o12 za zr fr_e0]) (fun (t : Unit) => [fb_jw cJ zx 1 zg, fb_o12 za zr fr_e0]) (fun (t : Unit) => [fb_jw cJ zx 1 zg]) X I [0, 1, 2] 3 rfl (by decide +kernel) rfl rfl [0, 1] 2 (fun _ => rfl) (by decide +kernel) (fun _ => rfl) (fun _ => rfl) (fun I => fb_rSW (As := [.ref zb, .int (nI zv9), .int (xs 2), .ref zx]) (rest := []) X hl (fb_goodSW fw_1831 fw_1832 fw_190 fw_1833) (c_w_byteIn_c l D cI cJ zb zt zn zv zs zp zq zu zh zst zre zx zg (nI zv9) (xs 2) _ hst h0 h1 v0) rfl rfl (by decide +kernel : fb_hd yL_byteIn 4) ⟨Nat.le_of_ble_eq_true rfl, Nat.le_of_ble_eq_true rfl⟩ rfl rfl (Nat.le_of_ble_eq_true rfl) ⟨Nat.le_of_ble_eq_true rfl, Nat.le_of_ble_eq_true rfl⟩ dL_law_1463 I) ?_
  intro r2 w1 H locs e0 I
  subst e0
  have I : fb_In D (fun q : Nat => s.heap.size ≤ q) s.heap (([fb_jw cJ zx 1 zg, fb_o12 za zr fr_e0] : List va_W).flatten) H locs := I
  refine lv_istore (lv' := [(5, .int (2 : Int32)), (4, .int (0 : Int32)), (3, .ref zx), (2, .ref za), (1, .ref zb), (0, .ref b)]) hx hb dL_law_1466 hl (by decide) rfl (fun ls hl => ?_)
  refine lv_aload_n hx hb dL_law_1468 rfl (lv_at hl 3 rfl) ?_
  refine lv_aload_n hx hb dL_law_1469 rfl (lv_at hl 5 rfl) ?_
  refine lv_iload hx hb dL_law_1470 (lv_at hl 1 rfl) ?_
  refine lv_iconst (v := (1 : Int32)) hx hb dL_law_1472 (by decide) ?_
  refine lv_iadd hx hb dL_law_1473 ?_
  refine fb_tI (v := (1 : Int32)) (by decide) ?_
  refine va_sld (i := (1 : Int32)) hx hb hX hbl hbA I.2.2 (fb_inC (n := 1) (by decide) (by decide) (by omega)) dL_law_1474 ?_
  refine fb_tI (v := (xs 1)) rfl ?_
  refine fb_tI (v := (nI zv9)) hw ?_
  refine lv_aload_n hx hb dL_law_1475 rfl (lv_at hl 5 rfl) ?_
  refine lv_iload hx hb dL_law_1476 (lv_at hl 1 rfl) ?_
  refine lv_iconst (v := (2 : Int32)) hx hb dL_law_1478 (by decide) ?_
  refine lv_iadd hx hb dL_law_1479 ?_
  refine fb_tI (v := (2 : Int32)) (by decide) ?_
  refine va_sld (i := (2 : Int32)) hx hb hX hbl hbA I.2.2 (fb_inC (n := 2) (by decide) (by decide) (by omega)) dL_law_1480 ?_
  refine fb_tI (v := (xs 2)) rfl ?_
  refine fb_gI (cs := [fb_o12 za zr fr_e0]) (rs := [fb_jw cJ zx 1 zg]) (fun (t : Unit) => [fb_jw cJ zx 1 zg, fb_o12 za zr (upd (upd fr_e0 19 (0 : Int32)) 19 (2 : Int32))]) (fun (t : Unit) => [fb_o12 za zr (upd (upd fr_e0 19 (0 : Int32)) 19 (2 : Int32))]) X I [1, 0] 2 rfl (by decide +kernel) rfl rfl [1, 0] 2 (fun _ => rfl) (by decide +kernel) (fun _ => rfl) (fun _ => rfl) (fun I => fb_rV (As := [.int (nI zv9), .int (xs 2)]) (rest := []) X hl (fb_goodV fw_2663 fw_2664 fw_2665 fw_204 fw_2666) (c_byteIn_bad l D cI cJ za zr zv9 (xs 2) _ (by omega) q1) rfl rfl rfl (by decide +kernel : fb_hd yX12_byteIn 2) ⟨Nat.le_of_ble_eq_true rfl, Nat.le_of_ble_eq_true rfl⟩ rfl rfl rfl rfl rfl (Nat.le_of_ble_eq_true rfl) ⟨Nat.le_of_ble_eq_true rfl, Nat.le_of_ble_eq_true rfl⟩ dL_law_1481 I) ?_
  intro r4 w3 H locs e0 I
  subst e0
  have I : fb_In D (fun q : Nat => s.heap.size ≤ q) s.heap (([fb_jw cJ zx 1 zg, fb_o12 za zr (upd (upd fr_e0 19 (0 : Int32)) 19 (2 : Int32))] : List va_W).flatten) H locs := I
  refine lv_istore (lv' := [(6, .int (0 : Int32)), (5, .int (2 : Int32)), (4, .int (0 : Int32)), (3, .ref zx), (2, .ref za), (1, .ref zb), (0, .ref b)]) hx hb dL_law_1484 hl (by decide) rfl (fun ls hl => ?_)
  refine lv_aload_n hx hb dL_law_1486 rfl (lv_at hl 4 rfl) ?_
  refine fb_gO (cs := [fb_o12 za zr (upd (upd fr_e0 19 (0 : Int32)) 19 (2 : Int32))]) (rs := [fb_jw cJ zx 1 zg]) X I [1, 0] 2 rfl (by decide +kernel) rfl rfl (fun I => fb_rV (As := []) (rest := []) X hl (fb_goodV fw_2119 fw_2120 fw_2121 fw_204 fw_2122) (c_thrown l D cI cJ za zr (upd (upd fr_e0 19 (0 : Int32)) 19 (2 : Int32)) _ ) rfl rfl rfl (by decide +kernel : fb_hd yX12_thrown 0) ⟨Nat.le_of_ble_eq_true rfl, Nat.le_of_ble_eq_true rfl⟩ rfl rfl rfl rfl rfl (Nat.le_of_ble_eq_true rfl) ⟨Nat.le_of_ble_eq_true rfl, Nat.le_of_ble_eq_true rfl⟩ dL_law_1487 I) ?_
  refine fb_tI (v := (2 : Int32)) rfl ?_
  refine lv_iload hx hb dL_law_1490 (lv_at hl 1 rfl) ?_
  refine lv_icmp_eq (tgt := 1497) hx hb dL_law_1492 (by decide) (fun _ => ?_) (fun c5 => absurd rfl c5)
  refine lv_iload hx hb dL_law_1497 (lv_at hl 1 rfl) ?_
  refine lv_if_ne (tgt := 1514) hx hb dL_law_1499 (by decide) (fun _ => ?_) (fun c6 => absurd c6 (by decide))
  refine lv_goto (tgt := 2336) hx hb dL_law_1514 (by decide) ?_
  exact lw_end X hX hbl hbA (by omega) I (lv_sub hl [2, 6] rfl) (Nat.le_of_ble_eq_true rfl) (Nat.le_of_ble_eq_true rfl)

set_option maxHeartbeats 4000000 in
set_option maxRecDepth 100000 in
theorem lc_34_d {p : Program} {l : Launch} {e : Env} {s : State} {m : MethodId} {below : List Frame} {meth : Method} {c : Code} {H : Heap} {locs : List Loc} {ls : Array Slot} {D : va_G} {cI cJ : ClassId} {b L : Nat} {xs : Nat → Int32} {zb : Nat} {zt : Nat} {zn : Nat} {zv : Nat} {zs : Nat} {zp : Nat} {zq : Nat → Nat} {zu : Nat → Nat} {zh : Nat} {zst : Nat} {zre : Nat} {zx : Nat} {zg : Nat → Int64} {za : Nat} {zr : Nat → Nat} {zv9 : Nat} (hst : l.stackTraces = false) (X : fb_Bx p s m #[Value.ref b] meth c cL_law RL 9 (some .boolean) D (fb_ty D cI cJ) (fun q : Nat => s.heap.size ≤ q)) (hX : va_X b L xs s s.heap) (hbl : b < s.heap.size) (hbA : ¬ (fun q : Nat => s.heap.size ≤ q) b) (hL6 : L = 6) (hw : xs 1 = nI zv9) (hv : zv9 ≤ 7) (h0 : ¬ (nI zv9) < 0) (h1 : (nI zv9) < (8 : Int32)) (v0 : ¬ (xs 2) < 0) (v1 : ¬ (xs 2) < (1024 : Int32)) (q1 : f_X12_isIn (xs 2) (0 : Int32) (1023 : Int32) = (0 : Int32)) (I : fb_In D (fun q : Nat => s.heap.size ≤ q) s.heap (([fb_o11 zb zt zn zv zs zp (zq 0) (zu 0) zh zst zre, fb_jw cJ zx 1 zg, fb_o12 za zr fr_e0] : List va_W).flatten) H locs) (hl : lv_has ls 9 [(4, .int (0 : Int32)), (3, .ref zx), (2, .ref za), (1, .ref zb), (0, .ref b)]) : W p l e room_1 s m #[Value.ref b] below meth c H locs 209 179241 (lw_Z below #[Value.ref b] s) (F0 m 1449 ls []) := by
  obtain ⟨hx, hb, hr, hml, hown, hts, hlk, hA, hK, hF⟩ := id X
  refine lv_aload_n hx hb dL_law_1449 rfl (lv_at hl 3 rfl) ?_
  refine lv_aload_n hx hb dL_law_1450 rfl (lv_at hl 4 rfl) ?_
  refine lv_iload hx hb dL_law_1451 (lv_at hl 0 rfl) ?_
  refine lv_iconst (v := (1 : Int32)) hx hb dL_law_1453 (by decide) ?_
  refine lv_iadd hx hb dL_law_1454 ?_
  refine fb_tI (v := (1 : Int32)) (by decide) ?_
  refine va_sld (i := (1 : Int32)) hx hb hX hbl hbA I.2.2 (fb_inC (n := 1) (by decide) (by decide) (by omega)) dL_law_1455 ?_
  refine fb_tI (v := (xs 1)) rfl ?_
  refine fb_tI (v := (nI zv9)) hw ?_
  refine lv_aload_n hx hb dL_law_1456 rfl (lv_at hl 4 rfl) ?_
  refine lv_iload hx hb dL_law_1457 (lv_at hl 0 rfl) ?_
  refine lv_iconst (v := (2 : Int32)) hx hb dL_law_1459 (by decide) ?_
  refine lv_iadd hx hb dL_law_1460 ?_
  refine fb_tI (v := (2 : Int32)) (by decide) ?_
  refine va_sld (i := (2 : Int32)) hx hb hX hbl hbA I.2.2 (fb_inC (n := 2) (by decide) (by decide) (by omega)) dL_law_1461 ?_
  refine fb_tI (v := (xs 2)) rfl ?_
  refine lv_aload_n hx hb dL_law_1462 rfl (lv_at hl 1 rfl) ?_
  refine fb_gI (cs := [fb_o11 zb zt zn zv zs zp (zq 0) (zu 0) zh zst zre, fb_jw cJ zx 1 zg]) (rs := [fb_o12 za zr fr_e0]) (fun (t : Unit) => [fb_jw cJ zx 1 zg, fb_o12 za zr fr_e0]) (fun (t : Unit) => [fb_jw cJ zx 1 zg]) X I [0, 1, 2] 3 rfl (by decide +kernel) rfl rfl [0, 1] 2 (fun _ => rfl) (by decide +kernel) (fun _ => rfl) (fun _ => rfl) (fun I => fb_rSW (As := [.ref zb, .int (nI zv9), .int (xs 2), .ref zx]) (rest := []) X hl (fb_goodSW fw_1831 fw_1832 fw_190 fw_1833) (c_w_byteIn_d l D cI cJ zb zt zn zv zs zp zq zu zh zst zre zx zg (nI zv9) (xs 2) _ hst h0 h1 v0 v1) rfl rfl (by decide +kernel : fb_hd yL_byteIn 4) ⟨Nat.le_of_ble_eq_true rfl, Nat.le_of_ble_eq_true rfl⟩ rfl rfl (Nat.le_of_ble_eq_true rfl) ⟨Nat.le_of_ble_eq_true rfl, Nat.le_of_ble_eq_true rfl⟩ dL_law_1463 I) ?_
  intro r2 w1 H locs e0 I
  subst e0
  have I : fb_In D (fun q : Nat => s.heap.size ≤ q) s.heap (([fb_jw cJ zx 1 zg, fb_o12 za zr fr_e0] : List va_W).flatten) H locs := I
  refine lv_istore (lv' := [(5, .int (2 : Int32)), (4, .int (0 : Int32)), (3, .ref zx), (2, .ref za), (1, .ref zb), (0, .ref b)]) hx hb dL_law_1466 hl (by decide) rfl (fun ls hl => ?_)
  refine lv_aload_n hx hb dL_law_1468 rfl (lv_at hl 3 rfl) ?_
  refine lv_aload_n hx hb dL_law_1469 rfl (lv_at hl 5 rfl) ?_
  refine lv_iload hx hb dL_law_1470 (lv_at hl 1 rfl) ?_
  refine lv_iconst (v := (1 : Int32)) hx hb dL_law_1472 (by decide) ?_
  refine lv_iadd hx hb dL_law_1473 ?_
  refine fb_tI (v := (1 : Int32)) (by decide) ?_
  refine va_sld (i := (1 : Int32)) hx hb hX hbl hbA I.2.2 (fb_inC (n := 1) (by decide) (by decide) (by omega)) dL_law_1474 ?_
  refine fb_tI (v := (xs 1)) rfl ?_
  refine fb_tI (v := (nI zv9)) hw ?_
  refine lv_aload_n hx hb dL_law_1475 rfl (lv_at hl 5 rfl) ?_
  refine lv_iload hx hb dL_law_1476 (lv_at hl 1 rfl) ?_
  refine lv_iconst (v := (2 : Int32)) hx hb dL_law_1478 (by decide) ?_
  refine lv_iadd hx hb dL_law_1479 ?_
  refine fb_tI (v := (2 : Int32)) (by decide) ?_
  refine va_sld (i := (2 : Int32)) hx hb hX hbl hbA I.2.2 (fb_inC (n := 2) (by decide) (by decide) (by omega)) dL_law_1480 ?_
  refine fb_tI (v := (xs 2)) rfl ?_
  refine fb_gI (cs := [fb_o12 za zr fr_e0]) (rs := [fb_jw cJ zx 1 zg]) (fun (t : Unit) => [fb_jw cJ zx 1 zg, fb_o12 za zr (upd (upd fr_e0 19 (0 : Int32)) 19 (2 : Int32))]) (fun (t : Unit) => [fb_o12 za zr (upd (upd fr_e0 19 (0 : Int32)) 19 (2 : Int32))]) X I [1, 0] 2 rfl (by decide +kernel) rfl rfl [1, 0] 2 (fun _ => rfl) (by decide +kernel) (fun _ => rfl) (fun _ => rfl) (fun I => fb_rV (As := [.int (nI zv9), .int (xs 2)]) (rest := []) X hl (fb_goodV fw_2663 fw_2664 fw_2665 fw_204 fw_2666) (c_byteIn_bad l D cI cJ za zr zv9 (xs 2) _ (by omega) q1) rfl rfl rfl (by decide +kernel : fb_hd yX12_byteIn 2) ⟨Nat.le_of_ble_eq_true rfl, Nat.le_of_ble_eq_true rfl⟩ rfl rfl rfl rfl rfl (Nat.le_of_ble_eq_true rfl) ⟨Nat.le_of_ble_eq_true rfl, Nat.le_of_ble_eq_true rfl⟩ dL_law_1481 I) ?_
  intro r4 w3 H locs e0 I
  subst e0
  have I : fb_In D (fun q : Nat => s.heap.size ≤ q) s.heap (([fb_jw cJ zx 1 zg, fb_o12 za zr (upd (upd fr_e0 19 (0 : Int32)) 19 (2 : Int32))] : List va_W).flatten) H locs := I
  refine lv_istore (lv' := [(6, .int (0 : Int32)), (5, .int (2 : Int32)), (4, .int (0 : Int32)), (3, .ref zx), (2, .ref za), (1, .ref zb), (0, .ref b)]) hx hb dL_law_1484 hl (by decide) rfl (fun ls hl => ?_)
  refine lv_aload_n hx hb dL_law_1486 rfl (lv_at hl 4 rfl) ?_
  refine fb_gO (cs := [fb_o12 za zr (upd (upd fr_e0 19 (0 : Int32)) 19 (2 : Int32))]) (rs := [fb_jw cJ zx 1 zg]) X I [1, 0] 2 rfl (by decide +kernel) rfl rfl (fun I => fb_rV (As := []) (rest := []) X hl (fb_goodV fw_2119 fw_2120 fw_2121 fw_204 fw_2122) (c_thrown l D cI cJ za zr (upd (upd fr_e0 19 (0 : Int32)) 19 (2 : Int32)) _ ) rfl rfl rfl (by decide +kernel : fb_hd yX12_thrown 0) ⟨Nat.le_of_ble_eq_true rfl, Nat.le_of_ble_eq_true rfl⟩ rfl rfl rfl rfl rfl (Nat.le_of_ble_eq_true rfl) ⟨Nat.le_of_ble_eq_true rfl, Nat.le_of_ble_eq_true rfl⟩ dL_law_1487 I) ?_
  refine fb_tI (v := (2 : Int32)) rfl ?_
  refine lv_iload hx hb dL_law_1490 (lv_at hl 1 rfl) ?_
  refine lv_icmp_eq (tgt := 1497) hx hb dL_law_1492 (by decide) (fun _ => ?_) (fun c5 => absurd rfl c5)
  refine lv_iload hx hb dL_law_1497 (lv_at hl 1 rfl) ?_
  refine lv_if_ne (tgt := 1514) hx hb dL_law_1499 (by decide) (fun _ => ?_) (fun c6 => absurd c6 (by decide))
  refine lv_goto (tgt := 2336) hx hb dL_law_1514 (by decide) ?_
  exact lw_end X hX hbl hbA (by omega) I (lv_sub hl [2, 6] rfl) (Nat.le_of_ble_eq_true rfl) (Nat.le_of_ble_eq_true rfl)

set_option maxHeartbeats 4000000 in
set_option maxRecDepth 100000 in
theorem lc_34_i {p : Program} {l : Launch} {e : Env} {s : State} {m : MethodId} {below : List Frame} {meth : Method} {c : Code} {H : Heap} {locs : List Loc} {ls : Array Slot} {D : va_G} {cI cJ : ClassId} {b L : Nat} {xs : Nat → Int32} {zb : Nat} {zt : Nat} {zn : Nat} {zv : Nat} {zs : Nat} {zp : Nat} {zq : Nat → Nat} {zu : Nat → Nat} {zh : Nat} {zst : Nat} {zre : Nat} {zw : fb_AR} {zx : Nat} {zg : Nat → Int64} {za : Nat} {zr : Nat → Nat} {zj : Nat} {zv9 : Nat} (hst : l.stackTraces = false) (X : fb_Bx p s m #[Value.ref b] meth c cL_law RL 9 (some .boolean) D (fb_ty D cI cJ) (fun q : Nat => s.heap.size ≤ q)) (hX : va_X b L xs s s.heap) (hbl : b < s.heap.size) (hbA : ¬ (fun q : Nat => s.heap.size ≤ q) b) (hL6 : L = 6) (hw : xs 1 = nI zv9) (hz : xs 2 = nI zj) (hv : zv9 ≤ 7) (hj : zj ≤ 1023) (I : fb_In D (fun q : Nat => s.heap.size ≤ q) s.heap (([fb_o11 zb zt zn zv zs zp (zq 0) (zu 0) zh zst zre, fb_mw cI zq fb_s0 zw, fb_jw cJ zx 1 zg, fb_o12 za zr fr_e0, fb_aw cI (zr 0) 16205 (fr_m (fun _ => 0) 0)] : List va_W).flatten) H locs) (hl : lv_has ls 9 [(4, .int (0 : Int32)), (3, .ref zx), (2, .ref za), (1, .ref zb), (0, .ref b)]) : W p l e room_1 s m #[Value.ref b] below meth c H locs 209 179241 (lw_Z below #[Value.ref b] s) (F0 m 1449 ls []) := by
  obtain ⟨hx, hb, hr, hml, hown, hts, hlk, hA, hK, hF⟩ := id X
  refine lv_aload_n hx hb dL_law_1449 rfl (lv_at hl 3 rfl) ?_
  refine lv_aload_n hx hb dL_law_1450 rfl (lv_at hl 4 rfl) ?_
  refine lv_iload hx hb dL_law_1451 (lv_at hl 0 rfl) ?_
  refine lv_iconst (v := (1 : Int32)) hx hb dL_law_1453 (by decide) ?_
  refine lv_iadd hx hb dL_law_1454 ?_
  refine fb_tI (v := (1 : Int32)) (by decide) ?_
  refine va_sld (i := (1 : Int32)) hx hb hX hbl hbA I.2.2 (fb_inC (n := 1) (by decide) (by decide) (by omega)) dL_law_1455 ?_
  refine fb_tI (v := (xs 1)) rfl ?_
  refine fb_tI (v := (nI zv9)) hw ?_
  refine lv_aload_n hx hb dL_law_1456 rfl (lv_at hl 4 rfl) ?_
  refine lv_iload hx hb dL_law_1457 (lv_at hl 0 rfl) ?_
  refine lv_iconst (v := (2 : Int32)) hx hb dL_law_1459 (by decide) ?_
  refine lv_iadd hx hb dL_law_1460 ?_
  refine fb_tI (v := (2 : Int32)) (by decide) ?_
  refine va_sld (i := (2 : Int32)) hx hb hX hbl hbA I.2.2 (fb_inC (n := 2) (by decide) (by decide) (by omega)) dL_law_1461 ?_
  refine fb_tI (v := (xs 2)) rfl ?_
  refine fb_tI (v := (nI zj)) hz ?_
  refine lv_aload_n hx hb dL_law_1462 rfl (lv_at hl 1 rfl) ?_
  refine fb_gI (cs := [fb_o11 zb zt zn zv zs zp (zq 0) (zu 0) zh zst zre, fb_mw cI zq fb_s0 zw, fb_jw cJ zx 1 zg]) (rs := [fb_o12 za zr fr_e0, fb_aw cI (zr 0) 16205 (fr_m (fun _ => 0) 0)]) (fun (t : Unit) => [fb_jw cJ zx 1 (vp_updL zg 0 (((0 : Int32)).toInt64)), fb_o12 za zr fr_e0, fb_aw cI (zr 0) 16205 (fr_m (fun _ => 0) 0)]) (fun (t : Unit) => [fb_jw cJ zx 1 (vp_updL zg 0 (((0 : Int32)).toInt64))]) X I [0, 1, 2, 3, 4] 5 rfl (by decide +kernel) rfl rfl [0, 1, 2] 3 (fun _ => rfl) (by decide +kernel) (fun _ => rfl) (fun _ => rfl) (fun I => fb_rSW (As := [.ref zb, .int (nI zv9), .int (nI zj), .ref zx]) (rest := []) X hl (fb_goodSW fw_1831 fw_1832 fw_190 fw_1833) (c_w_byteIn_in l D cI cJ zb zt zn zv zs zp zq zu zh zst zre zw zx zg zv9 zj _ hst (by omega) (by omega)) rfl rfl (by decide +kernel : fb_hd yL_byteIn 4) ⟨Nat.le_of_ble_eq_true rfl, Nat.le_of_ble_eq_true rfl⟩ rfl rfl (Nat.le_of_ble_eq_true rfl) ⟨Nat.le_of_ble_eq_true rfl, Nat.le_of_ble_eq_true rfl⟩ dL_law_1463 I) ?_
  intro r2 w1 H locs e0 I
  subst e0
  have I : fb_In D (fun q : Nat => s.heap.size ≤ q) s.heap (([fb_jw cJ zx 1 (vp_updL zg 0 (((0 : Int32)).toInt64)), fb_o12 za zr fr_e0, fb_aw cI (zr 0) 16205 (fr_m (fun _ => 0) 0)] : List va_W).flatten) H locs := I
  refine lv_istore (lv' := [(5, .int (0 : Int32)), (4, .int (0 : Int32)), (3, .ref zx), (2, .ref za), (1, .ref zb), (0, .ref b)]) hx hb dL_law_1466 hl (by decide) rfl (fun ls hl => ?_)
  refine lv_aload_n hx hb dL_law_1468 rfl (lv_at hl 3 rfl) ?_
  refine lv_aload_n hx hb dL_law_1469 rfl (lv_at hl 5 rfl) ?_
  refine lv_iload hx hb dL_law_1470 (lv_at hl 1 rfl) ?_
  refine lv_iconst (v := (1 : Int32)) hx hb dL_law_1472 (by decide) ?_
  refine lv_iadd hx hb dL_law_1473 ?_
  refine fb_tI (v := (1 : Int32)) (by decide) ?_
  refine va_sld (i := (1 : Int32)) hx hb hX hbl hbA I.2.2 (fb_inC (n := 1) (by decide) (by decide) (by omega)) dL_law_1474 ?_
  refine fb_tI (v := (xs 1)) rfl ?_
  refine fb_tI (v := (nI zv9)) hw ?_
  refine lv_aload_n hx hb dL_law_1475 rfl (lv_at hl 5 rfl) ?_
  refine lv_iload hx hb dL_law_1476 (lv_at hl 1 rfl) ?_
  refine lv_iconst (v := (2 : Int32)) hx hb dL_law_1478 (by decide) ?_
  refine lv_iadd hx hb dL_law_1479 ?_
  refine fb_tI (v := (2 : Int32)) (by decide) ?_
  refine va_sld (i := (2 : Int32)) hx hb hX hbl hbA I.2.2 (fb_inC (n := 2) (by decide) (by decide) (by omega)) dL_law_1480 ?_
  refine fb_tI (v := (xs 2)) rfl ?_
  refine fb_tI (v := (nI zj)) hz ?_
  refine fb_gI (cs := [fb_o12 za zr fr_e0, fb_aw cI (zr 0) 16205 (fr_m (fun _ => 0) 0)]) (rs := [fb_jw cJ zx 1 (vp_updL zg 0 (((0 : Int32)).toInt64))]) (fun (t : Unit) => [fb_jw cJ zx 1 (vp_updL zg 0 (((0 : Int32)).toInt64)), fb_o12 za zr (upd fr_e0 19 (0 : Int32)), fb_aw cI (zr 0) 16205 (fr_m (fun _ => 0) 0)]) (fun (t : Unit) => [fb_o12 za zr (upd fr_e0 19 (0 : Int32)), fb_aw cI (zr 0) 16205 (fr_m (fun _ => 0) 0)]) X I [1, 2, 0] 3 rfl (by decide +kernel) rfl rfl [1, 2, 0] 3 (fun _ => rfl) (by decide +kernel) (fun _ => rfl) (fun _ => rfl) (fun I => fb_rV (As := [.int (nI zv9), .int (nI zj)]) (rest := []) X hl (fb_goodV fw_2663 fw_2664 fw_2665 fw_204 fw_2666) (c_byteIn_in l D cI cJ za zr zv9 zj _ (by omega) (by omega)) rfl rfl rfl (by decide +kernel : fb_hd yX12_byteIn 2) ⟨Nat.le_of_ble_eq_true rfl, Nat.le_of_ble_eq_true rfl⟩ rfl rfl rfl rfl rfl (Nat.le_of_ble_eq_true rfl) ⟨Nat.le_of_ble_eq_true rfl, Nat.le_of_ble_eq_true rfl⟩ dL_law_1481 I) ?_
  intro r4 w3 H locs e0 I
  subst e0
  have I : fb_In D (fun q : Nat => s.heap.size ≤ q) s.heap (([fb_jw cJ zx 1 (vp_updL zg 0 (((0 : Int32)).toInt64)), fb_o12 za zr (upd fr_e0 19 (0 : Int32)), fb_aw cI (zr 0) 16205 (fr_m (fun _ => 0) 0)] : List va_W).flatten) H locs := I
  refine lv_istore (lv' := [(6, .int (0 : Int32)), (5, .int (0 : Int32)), (4, .int (0 : Int32)), (3, .ref zx), (2, .ref za), (1, .ref zb), (0, .ref b)]) hx hb dL_law_1484 hl (by decide) rfl (fun ls hl => ?_)
  refine lv_aload_n hx hb dL_law_1486 rfl (lv_at hl 4 rfl) ?_
  refine fb_gO (cs := [fb_o12 za zr (upd fr_e0 19 (0 : Int32))]) (rs := [fb_jw cJ zx 1 (vp_updL zg 0 (((0 : Int32)).toInt64)), fb_aw cI (zr 0) 16205 (fr_m (fun _ => 0) 0)]) X I [1, 0, 2] 3 rfl (by decide +kernel) rfl rfl (fun I => fb_rV (As := []) (rest := []) X hl (fb_goodV fw_2119 fw_2120 fw_2121 fw_204 fw_2122) (c_thrown l D cI cJ za zr (upd fr_e0 19 (0 : Int32)) _ ) rfl rfl rfl (by decide +kernel : fb_hd yX12_thrown 0) ⟨Nat.le_of_ble_eq_true rfl, Nat.le_of_ble_eq_true rfl⟩ rfl rfl rfl rfl rfl (Nat.le_of_ble_eq_true rfl) ⟨Nat.le_of_ble_eq_true rfl, Nat.le_of_ble_eq_true rfl⟩ dL_law_1487 I) ?_
  refine fb_tI (v := (0 : Int32)) rfl ?_
  refine lv_iload hx hb dL_law_1490 (lv_at hl 1 rfl) ?_
  refine lv_icmp_eq (tgt := 1497) hx hb dL_law_1492 (by decide) (fun _ => ?_) (fun c5 => absurd rfl c5)
  refine lv_iload hx hb dL_law_1497 (lv_at hl 1 rfl) ?_
  refine lv_if_ne (tgt := 1514) hx hb dL_law_1499 (by decide) (fun c6 => absurd (by decide) c6) (fun _ => ?_)
  refine lv_aload_n hx hb dL_law_1502 rfl (lv_at hl 3 rfl) ?_
  refine lv_iconst (v := (0 : Int32)) hx hb dL_law_1503 (by decide) ?_
  refine va_lald (i := (0 : Int32)) hx hb hK.1 I.1 0 1 rfl rfl (fb_inC (n := 0) (by decide) (by decide) (Nat.le_of_ble_eq_true rfl)) dL_law_1504 ?_
  refine fb_tL (v := (((0 : Int32)).toInt64)) rfl ?_
  refine lv_iload hx hb dL_law_1505 (lv_at hl 0 rfl) ?_
  refine lv_i2l (v := (((0 : Int32)).toInt64)) hx hb dL_law_1507 rfl ?_
  refine W.lcmp hx hb dL_law_1508 ?_
  refine fb_tI (v := (0 : Int32)) (lw_cmp0 _) ?_
  refine lv_if_eq (tgt := 1514) hx hb dL_law_1509 (by decide) (fun _ => ?_) (fun c7 => absurd (by decide) c7)
  refine lv_goto (tgt := 2336) hx hb dL_law_1514 (by decide) ?_
  exact lw_end X hX hbl hbA (by omega) I (lv_sub hl [2, 6] rfl) (Nat.le_of_ble_eq_true rfl) (Nat.le_of_ble_eq_true rfl)

set_option maxHeartbeats 4000000 in
set_option maxRecDepth 100000 in
theorem lc_49_o {p : Program} {l : Launch} {e : Env} {s : State} {m : MethodId} {below : List Frame} {meth : Method} {c : Code} {H : Heap} {locs : List Loc} {ls : Array Slot} {D : va_G} {cI cJ : ClassId} {b L : Nat} {xs : Nat → Int32} {zb : Nat} {zt : Nat} {zn : Nat} {zv : Nat} {zs : Nat} {zp : Nat} {zq : Nat → Nat} {zu : Nat → Nat} {zh : Nat} {zst : Nat} {zre : Nat} {zx : Nat} {zg : Nat → Int64} {za : Nat} {zr : Nat → Nat} (hst : l.stackTraces = false) (X : fb_Bx p s m #[Value.ref b] meth c cL_law RL 9 (some .boolean) D (fb_ty D cI cJ) (fun q : Nat => s.heap.size ≤ q)) (hX : va_X b L xs s s.heap) (hbl : b < s.heap.size) (hbA : ¬ (fun q : Nat => s.heap.size ≤ q) b) (hL6 : L = 6) (gA : f_X11_isNoSpan (xs 1) = (1 : Int32)) (q1 : f_X12_isIn (xs 1) (1 : Int32) (5000 : Int32) = (0 : Int32)) (I : fb_In D (fun q : Nat => s.heap.size ≤ q) s.heap (([fb_o11 zb zt zn zv zs zp (zq 0) (zu 0) zh zst zre, fb_jw cJ zx 1 zg, fb_o12 za zr fr_e0] : List va_W).flatten) H locs) (hl : lv_has ls 9 [(4, .int (0 : Int32)), (3, .ref zx), (2, .ref za), (1, .ref zb), (0, .ref b)]) : W p l e room_1 s m #[Value.ref b] below meth c H locs 209 179241 (lw_Z below #[Value.ref b] s) (F0 m 1957 ls []) := by
  obtain ⟨hx, hb, hr, hml, hown, hts, hlk, hA, hK, hF⟩ := id X
  refine lv_aload_n hx hb dL_law_1957 rfl (lv_at hl 3 rfl) ?_
  refine lv_aload_n hx hb dL_law_1958 rfl (lv_at hl 4 rfl) ?_
  refine lv_iload hx hb dL_law_1959 (lv_at hl 0 rfl) ?_
  refine lv_iconst (v := (1 : Int32)) hx hb dL_law_1961 (by decide) ?_
  refine lv_iadd hx hb dL_law_1962 ?_
  refine fb_tI (v := (1 : Int32)) (by decide) ?_
  refine va_sld (i := (1 : Int32)) hx hb hX hbl hbA I.2.2 (fb_inC (n := 1) (by decide) (by decide) (by omega)) dL_law_1963 ?_
  refine fb_tI (v := (xs 1)) rfl ?_
  refine lv_aload_n hx hb dL_law_1964 rfl (lv_at hl 1 rfl) ?_
  refine fb_gI (cs := [fb_o11 zb zt zn zv zs zp (zq 0) (zu 0) zh zst zre, fb_jw cJ zx 1 zg]) (rs := [fb_o12 za zr fr_e0]) (fun (t : Unit) => [fb_jw cJ zx 1 zg, fb_o12 za zr fr_e0]) (fun (t : Unit) => [fb_jw cJ zx 1 zg]) X I [0, 1, 2] 3 rfl (by decide +kernel) rfl rfl [0, 1] 2 (fun _ => rfl) (by decide +kernel) (fun _ => rfl) (fun _ => rfl) (fun I => fb_rSW (As := [.ref zb, .int (xs 1), .ref zx]) (rest := []) X hl (fb_goodSW fw_1888 fw_1889 fw_190 fw_1890) (c_w_cyclesToHalt_o l D cI cJ zb zt zn zv zs zp zq zu zh zst zre zx zg (xs 1) _ hst gA) rfl rfl (by decide +kernel : fb_hd yL_cyclesToHalt 3) ⟨Nat.le_of_ble_eq_true rfl, Nat.le_of_ble_eq_true rfl⟩ rfl rfl (Nat.le_of_ble_eq_true rfl) ⟨Nat.le_of_ble_eq_true rfl, Nat.le_of_ble_eq_true rfl⟩ dL_law_1965 I) ?_
  intro r2 w1 H locs e0 I
  subst e0
  have I : fb_In D (fun q : Nat => s.heap.size ≤ q) s.heap (([fb_jw cJ zx 1 zg, fb_o12 za zr fr_e0] : List va_W).flatten) H locs := I
  refine lv_istore (lv' := [(5, .int (1 : Int32)), (4, .int (0 : Int32)), (3, .ref zx), (2, .ref za), (1, .ref zb), (0, .ref b)]) hx hb dL_law_1968 hl (by decide) rfl (fun ls hl => ?_)
  refine lv_aload_n hx hb dL_law_1970 rfl (lv_at hl 3 rfl) ?_
  refine lv_aload_n hx hb dL_law_1971 rfl (lv_at hl 5 rfl) ?_
  refine lv_iload hx hb dL_law_1972 (lv_at hl 1 rfl) ?_
  refine lv_iconst (v := (1 : Int32)) hx hb dL_law_1974 (by decide) ?_
  refine lv_iadd hx hb dL_law_1975 ?_
  refine fb_tI (v := (1 : Int32)) (by decide) ?_
  refine va_sld (i := (1 : Int32)) hx hb hX hbl hbA I.2.2 (fb_inC (n := 1) (by decide) (by decide) (by omega)) dL_law_1976 ?_
  refine fb_tI (v := (xs 1)) rfl ?_
  refine fb_gI (cs := [fb_o12 za zr fr_e0]) (rs := [fb_jw cJ zx 1 zg]) (fun (t : Unit) => [fb_jw cJ zx 1 zg, fb_o12 za zr (upd (upd fr_e0 19 (0 : Int32)) 19 (1 : Int32))]) (fun (t : Unit) => [fb_o12 za zr (upd (upd fr_e0 19 (0 : Int32)) 19 (1 : Int32))]) X I [1, 0] 2 rfl (by decide +kernel) rfl rfl [1, 0] 2 (fun _ => rfl) (by decide +kernel) (fun _ => rfl) (fun _ => rfl) (fun I => fb_rV (As := [.int (xs 1)]) (rest := []) X hl (fb_goodV fw_2735 fw_2736 fw_2737 fw_204 fw_2738) (c_cyclesToHalt_out l D cI cJ za zr (xs 1) _ q1) rfl rfl rfl (by decide +kernel : fb_hd yX12_cyclesToHalt 1) ⟨Nat.le_of_ble_eq_true rfl, Nat.le_of_ble_eq_true rfl⟩ rfl rfl rfl rfl rfl (Nat.le_of_ble_eq_true rfl) ⟨Nat.le_of_ble_eq_true rfl, Nat.le_of_ble_eq_true rfl⟩ dL_law_1977 I) ?_
  intro r4 w3 H locs e0 I
  subst e0
  have I : fb_In D (fun q : Nat => s.heap.size ≤ q) s.heap (([fb_jw cJ zx 1 zg, fb_o12 za zr (upd (upd fr_e0 19 (0 : Int32)) 19 (1 : Int32))] : List va_W).flatten) H locs := I
  refine lv_istore (lv' := [(6, .int (0 : Int32)), (5, .int (1 : Int32)), (4, .int (0 : Int32)), (3, .ref zx), (2, .ref za), (1, .ref zb), (0, .ref b)]) hx hb dL_law_1980 hl (by decide) rfl (fun ls hl => ?_)
  refine lv_aload_n hx hb dL_law_1982 rfl (lv_at hl 4 rfl) ?_
  refine fb_gO (cs := [fb_o12 za zr (upd (upd fr_e0 19 (0 : Int32)) 19 (1 : Int32))]) (rs := [fb_jw cJ zx 1 zg]) X I [1, 0] 2 rfl (by decide +kernel) rfl rfl (fun I => fb_rV (As := []) (rest := []) X hl (fb_goodV fw_2119 fw_2120 fw_2121 fw_204 fw_2122) (c_thrown l D cI cJ za zr (upd (upd fr_e0 19 (0 : Int32)) 19 (1 : Int32)) _ ) rfl rfl rfl (by decide +kernel : fb_hd yX12_thrown 0) ⟨Nat.le_of_ble_eq_true rfl, Nat.le_of_ble_eq_true rfl⟩ rfl rfl rfl rfl rfl (Nat.le_of_ble_eq_true rfl) ⟨Nat.le_of_ble_eq_true rfl, Nat.le_of_ble_eq_true rfl⟩ dL_law_1983 I) ?_
  refine fb_tI (v := (1 : Int32)) rfl ?_
  refine lv_iload hx hb dL_law_1986 (lv_at hl 1 rfl) ?_
  refine lv_icmp_eq (tgt := 1993) hx hb dL_law_1988 (by decide) (fun _ => ?_) (fun c5 => absurd rfl c5)
  refine lv_iload hx hb dL_law_1993 (lv_at hl 1 rfl) ?_
  refine lv_if_ne (tgt := 2010) hx hb dL_law_1995 (by decide) (fun _ => ?_) (fun c6 => absurd c6 (by decide))
  refine lv_goto (tgt := 2336) hx hb dL_law_2010 (by decide) ?_
  exact lw_end X hX hbl hbA (by omega) I (lv_sub hl [2, 6] rfl) (Nat.le_of_ble_eq_true rfl) (Nat.le_of_ble_eq_true rfl)

set_option maxHeartbeats 4000000 in
set_option maxRecDepth 100000 in
theorem lc_49_i {p : Program} {l : Launch} {e : Env} {s : State} {m : MethodId} {below : List Frame} {meth : Method} {c : Code} {H : Heap} {locs : List Loc} {ls : Array Slot} {D : va_G} {cI cJ : ClassId} {b L : Nat} {xs : Nat → Int32} {zb : Nat} {zt : Nat} {zn : Nat} {zv : Nat} {zs : Nat} {zp : Nat} {zq : Nat → Nat} {zu : Nat → Nat} {zh : Nat} {zst : Nat} {zre : Nat} {zw : fb_AR} {zx : Nat} {zg : Nat → Int64} {za : Nat} {zr : Nat → Nat} {zN : Nat} (hst : l.stackTraces = false) (X : fb_Bx p s m #[Value.ref b] meth c cL_law RL 9 (some .boolean) D (fb_ty D cI cJ) (fun q : Nat => s.heap.size ≤ q)) (hX : va_X b L xs s s.heap) (hbl : b < s.heap.size) (hbA : ¬ (fun q : Nat => s.heap.size ≤ q) b) (hL6 : L = 6) (hz : xs 1 = nI zN) (hN : 1 ≤ zN ∧ zN ≤ 5000) (I : fb_In D (fun q : Nat => s.heap.size ≤ q) s.heap (([fb_o11 zb zt zn zv zs zp (zq 0) (zu 0) zh zst zre, fb_mw cI zq fb_s0 zw, fb_mw cI zu fb_m0 (fun _ => 0), fb_jw cJ zx 1 zg, fb_o12 za zr fr_e0, fb_aw cI (zr 0) 16205 (fr_m (fun _ => 0) 0)] : List va_W).flatten) H locs) (hl : lv_has ls 9 [(4, .int (0 : Int32)), (3, .ref zx), (2, .ref za), (1, .ref zb), (0, .ref b)]) : W p l e room_1 s m #[Value.ref b] below meth c H locs 209 179241 (lw_Z below #[Value.ref b] s) (F0 m 1957 ls []) := by
  obtain ⟨hx, hb, hr, hml, hown, hts, hlk, hA, hK, hF⟩ := id X
  refine lv_aload_n hx hb dL_law_1957 rfl (lv_at hl 3 rfl) ?_
  refine lv_aload_n hx hb dL_law_1958 rfl (lv_at hl 4 rfl) ?_
  refine lv_iload hx hb dL_law_1959 (lv_at hl 0 rfl) ?_
  refine lv_iconst (v := (1 : Int32)) hx hb dL_law_1961 (by decide) ?_
  refine lv_iadd hx hb dL_law_1962 ?_
  refine fb_tI (v := (1 : Int32)) (by decide) ?_
  refine va_sld (i := (1 : Int32)) hx hb hX hbl hbA I.2.2 (fb_inC (n := 1) (by decide) (by decide) (by omega)) dL_law_1963 ?_
  refine fb_tI (v := (xs 1)) rfl ?_
  refine fb_tI (v := (nI zN)) hz ?_
  refine lv_aload_n hx hb dL_law_1964 rfl (lv_at hl 1 rfl) ?_
  refine fb_gI (cs := [fb_o11 zb zt zn zv zs zp (zq 0) (zu 0) zh zst zre, fb_mw cI zq fb_s0 zw, fb_mw cI zu fb_m0 (fun _ => 0), fb_jw cJ zx 1 zg]) (rs := [fb_o12 za zr fr_e0, fb_aw cI (zr 0) 16205 (fr_m (fun _ => 0) 0)]) (fun (t : Unit) => [fb_jw cJ zx 1 (vp_updL zg 0 (((-1 : Int32)).toInt64)), fb_o12 za zr fr_e0, fb_aw cI (zr 0) 16205 (fr_m (fun _ => 0) 0)]) (fun (t : Unit) => [fb_jw cJ zx 1 (vp_updL zg 0 (((-1 : Int32)).toInt64))]) X I [0, 1, 2, 3, 4, 5] 6 rfl (by decide +kernel) rfl rfl [0, 1, 2] 3 (fun _ => rfl) (by decide +kernel) (fun _ => rfl) (fun _ => rfl) (fun I => fb_rSW (As := [.ref zb, .int (nI zN), .ref zx]) (rest := []) X hl (fb_goodSW fw_1888 fw_1889 fw_190 fw_1890) (c_w_cyclesToHalt_in l D cI cJ zb zt zn zv zs zp zq zu zh zst zre zw zx zg zN _ hst (by omega)) rfl rfl (by decide +kernel : fb_hd yL_cyclesToHalt 3) ⟨Nat.le_of_ble_eq_true rfl, Nat.le_of_ble_eq_true rfl⟩ rfl rfl (Nat.le_of_ble_eq_true rfl) ⟨Nat.le_of_ble_eq_true rfl, Nat.le_of_ble_eq_true rfl⟩ dL_law_1965 I) ?_
  intro r2 w1 H locs e0 I
  subst e0
  have I : fb_In D (fun q : Nat => s.heap.size ≤ q) s.heap (([fb_jw cJ zx 1 (vp_updL zg 0 (((-1 : Int32)).toInt64)), fb_o12 za zr fr_e0, fb_aw cI (zr 0) 16205 (fr_m (fun _ => 0) 0)] : List va_W).flatten) H locs := I
  refine lv_istore (lv' := [(5, .int (0 : Int32)), (4, .int (0 : Int32)), (3, .ref zx), (2, .ref za), (1, .ref zb), (0, .ref b)]) hx hb dL_law_1968 hl (by decide) rfl (fun ls hl => ?_)
  refine lv_aload_n hx hb dL_law_1970 rfl (lv_at hl 3 rfl) ?_
  refine lv_aload_n hx hb dL_law_1971 rfl (lv_at hl 5 rfl) ?_
  refine lv_iload hx hb dL_law_1972 (lv_at hl 1 rfl) ?_
  refine lv_iconst (v := (1 : Int32)) hx hb dL_law_1974 (by decide) ?_
  refine lv_iadd hx hb dL_law_1975 ?_
  refine fb_tI (v := (1 : Int32)) (by decide) ?_
  refine va_sld (i := (1 : Int32)) hx hb hX hbl hbA I.2.2 (fb_inC (n := 1) (by decide) (by decide) (by omega)) dL_law_1976 ?_
  refine fb_tI (v := (xs 1)) rfl ?_
  refine fb_tI (v := (nI zN)) hz ?_
  refine fb_gI (cs := [fb_o12 za zr fr_e0, fb_aw cI (zr 0) 16205 (fr_m (fun _ => 0) 0)]) (rs := [fb_jw cJ zx 1 (vp_updL zg 0 (((-1 : Int32)).toInt64))]) (fun (t : Nat × Nat × fb_AR × fb_AR) => [fb_jw cJ zx 1 (vp_updL zg 0 (((-1 : Int32)).toInt64)), fb_o12 za (va_up (va_up zr 0 (t.1)) 0 (t.2.1)) (t.2.2.1), fb_aw cI (t.1) 16205 (fr_m (t.2.2.2) zN), fb_aw cI (t.2.1) 16205 (fr_m (fun _ => 0) 0)]) (fun (t : Nat × Nat × fb_AR × fb_AR) => [fb_o12 za (va_up (va_up zr 0 (t.1)) 0 (t.2.1)) (t.2.2.1), fb_aw cI (t.1) 16205 (fr_m (t.2.2.2) zN), fb_aw cI (t.2.1) 16205 (fr_m (fun _ => 0) 0)]) X I [1, 2, 0] 3 rfl (by decide +kernel) rfl rfl [1, 2, 3, 0] 4 (fun _ => rfl) (by decide +kernel) (fun _ => rfl) (fun _ => rfl) (fun I => fb_rV (As := [.int (nI zN)]) (rest := []) X hl (fb_goodV fw_2735 fw_2736 fw_2737 fw_204 fw_2738) (c_cyclesToHalt_in l D cI cJ za zr zN _ (by omega)) rfl rfl rfl (by decide +kernel : fb_hd yX12_cyclesToHalt 1) ⟨Nat.le_of_ble_eq_true rfl, Nat.le_of_ble_eq_true rfl⟩ rfl rfl rfl rfl rfl (Nat.le_of_ble_eq_true rfl) ⟨Nat.le_of_ble_eq_true rfl, Nat.le_of_ble_eq_true rfl⟩ dL_law_1977 I) ?_
  intro r4 w3 H locs e0 I
  obtain ⟨e9, e0⟩ := e0
  subst e9
  obtain ⟨w3_0, w3_1, w3_2, w3_3⟩ := w3
  have p5 : w3_2 19 = (0 : Int32) := e0
  have I : fb_In D (fun q : Nat => s.heap.size ≤ q) s.heap (([fb_jw cJ zx 1 (vp_updL zg 0 (((-1 : Int32)).toInt64)), fb_o12 za (va_up (va_up zr 0 w3_0) 0 w3_1) w3_2, fb_aw cI w3_0 16205 (fr_m w3_3 zN), fb_aw cI w3_1 16205 (fr_m (fun _ => 0) 0)] : List va_W).flatten) H locs := I
  refine lv_istore (lv' := [(6, .int (-1 : Int32)), (5, .int (0 : Int32)), (4, .int (0 : Int32)), (3, .ref zx), (2, .ref za), (1, .ref zb), (0, .ref b)]) hx hb dL_law_1980 hl (by decide) rfl (fun ls hl => ?_)
  refine lv_aload_n hx hb dL_law_1982 rfl (lv_at hl 4 rfl) ?_
  refine fb_gO (cs := [fb_o12 za (va_up (va_up zr 0 w3_0) 0 w3_1) w3_2]) (rs := [fb_jw cJ zx 1 (vp_updL zg 0 (((-1 : Int32)).toInt64)), fb_aw cI w3_0 16205 (fr_m w3_3 zN), fb_aw cI w3_1 16205 (fr_m (fun _ => 0) 0)]) X I [1, 0, 2, 3] 4 rfl (by decide +kernel) rfl rfl (fun I => fb_rV (As := []) (rest := []) X hl (fb_goodV fw_2119 fw_2120 fw_2121 fw_204 fw_2122) (c_thrown l D cI cJ za (va_up (va_up zr 0 w3_0) 0 w3_1) w3_2 _ ) rfl rfl rfl (by decide +kernel : fb_hd yX12_thrown 0) ⟨Nat.le_of_ble_eq_true rfl, Nat.le_of_ble_eq_true rfl⟩ rfl rfl rfl rfl rfl (Nat.le_of_ble_eq_true rfl) ⟨Nat.le_of_ble_eq_true rfl, Nat.le_of_ble_eq_true rfl⟩ dL_law_1983 I) ?_
  refine fb_tI (v := (0 : Int32)) p5 ?_
  refine lv_iload hx hb dL_law_1986 (lv_at hl 1 rfl) ?_
  refine lv_icmp_eq (tgt := 1993) hx hb dL_law_1988 (by decide) (fun _ => ?_) (fun c6 => absurd rfl c6)
  refine lv_iload hx hb dL_law_1993 (lv_at hl 1 rfl) ?_
  refine lv_if_ne (tgt := 2010) hx hb dL_law_1995 (by decide) (fun c7 => absurd (by decide) c7) (fun _ => ?_)
  refine lv_aload_n hx hb dL_law_1998 rfl (lv_at hl 3 rfl) ?_
  refine lv_iconst (v := (0 : Int32)) hx hb dL_law_1999 (by decide) ?_
  refine va_lald (i := (0 : Int32)) hx hb hK.1 I.1 0 1 rfl rfl (fb_inC (n := 0) (by decide) (by decide) (Nat.le_of_ble_eq_true rfl)) dL_law_2000 ?_
  refine fb_tL (v := (((-1 : Int32)).toInt64)) rfl ?_
  refine lv_iload hx hb dL_law_2001 (lv_at hl 0 rfl) ?_
  refine lv_i2l (v := (((-1 : Int32)).toInt64)) hx hb dL_law_2003 rfl ?_
  refine W.lcmp hx hb dL_law_2004 ?_
  refine fb_tI (v := (0 : Int32)) (lw_cmp0 _) ?_
  refine lv_if_eq (tgt := 2010) hx hb dL_law_2005 (by decide) (fun _ => ?_) (fun c8 => absurd (by decide) c8)
  refine lv_goto (tgt := 2336) hx hb dL_law_2010 (by decide) ?_
  exact lw_end X hX hbl hbA (by omega) I (lv_sub hl [2, 6] rfl) (Nat.le_of_ble_eq_true rfl) (Nat.le_of_ble_eq_true rfl)

set_option maxHeartbeats 4000000 in
set_option maxRecDepth 100000 in
theorem lc_51_o {p : Program} {l : Launch} {e : Env} {s : State} {m : MethodId} {below : List Frame} {meth : Method} {c : Code} {H : Heap} {locs : List Loc} {ls : Array Slot} {D : va_G} {cI cJ : ClassId} {b L : Nat} {xs : Nat → Int32} {zb : Nat} {zt : Nat} {zn : Nat} {zv : Nat} {zs : Nat} {zp : Nat} {zq : Nat → Nat} {zu : Nat → Nat} {zh : Nat} {zst : Nat} {zre : Nat} {zx : Nat} {zg : Nat → Int64} {za : Nat} {zr : Nat → Nat} (hst : l.stackTraces = false) (X : fb_Bx p s m #[Value.ref b] meth c cL_law RL 9 (some .boolean) D (fb_ty D cI cJ) (fun q : Nat => s.heap.size ≤ q)) (hX : va_X b L xs s s.heap) (hbl : b < s.heap.size) (hbA : ¬ (fun q : Nat => s.heap.size ≤ q) b) (hL6 : L = 6) (gA : f_X11_isNoSpan (xs 1) = (1 : Int32)) (q1 : f_X12_isIn (xs 1) (1 : Int32) (5000 : Int32) = (0 : Int32)) (I : fb_In D (fun q : Nat => s.heap.size ≤ q) s.heap (([fb_o11 zb zt zn zv zs zp (zq 0) (zu 0) zh zst zre, fb_jw cJ zx 1 zg, fb_o12 za zr fr_e0] : List va_W).flatten) H locs) (hl : lv_has ls 9 [(4, .int (0 : Int32)), (3, .ref zx), (2, .ref za), (1, .ref zb), (0, .ref b)]) : W p l e room_1 s m #[Value.ref b] below meth c H locs 209 179241 (lw_Z below #[Value.ref b] s) (F0 m 2081 ls []) := by
  obtain ⟨hx, hb, hr, hml, hown, hts, hlk, hA, hK, hF⟩ := id X
  refine lv_aload_n hx hb dL_law_2081 rfl (lv_at hl 3 rfl) ?_
  refine lv_aload_n hx hb dL_law_2082 rfl (lv_at hl 4 rfl) ?_
  refine lv_iload hx hb dL_law_2083 (lv_at hl 0 rfl) ?_
  refine lv_iconst (v := (1 : Int32)) hx hb dL_law_2085 (by decide) ?_
  refine lv_iadd hx hb dL_law_2086 ?_
  refine fb_tI (v := (1 : Int32)) (by decide) ?_
  refine va_sld (i := (1 : Int32)) hx hb hX hbl hbA I.2.2 (fb_inC (n := 1) (by decide) (by decide) (by omega)) dL_law_2087 ?_
  refine fb_tI (v := (xs 1)) rfl ?_
  refine lv_aload_n hx hb dL_law_2088 rfl (lv_at hl 1 rfl) ?_
  refine fb_gI (cs := [fb_o11 zb zt zn zv zs zp (zq 0) (zu 0) zh zst zre, fb_jw cJ zx 1 zg]) (rs := [fb_o12 za zr fr_e0]) (fun (t : Unit) => [fb_jw cJ zx 1 zg, fb_o12 za zr fr_e0]) (fun (t : Unit) => [fb_jw cJ zx 1 zg]) X I [0, 1, 2] 3 rfl (by decide +kernel) rfl rfl [0, 1] 2 (fun _ => rfl) (by decide +kernel) (fun _ => rfl) (fun _ => rfl) (fun I => fb_rSW (As := [.ref zb, .int (xs 1), .ref zx]) (rest := []) X hl (fb_goodSW fw_1908 fw_1909 fw_190 fw_1910) (c_w_outputsIn_o l D cI cJ zb zt zn zv zs zp zq zu zh zst zre zx zg (xs 1) _ hst gA) rfl rfl (by decide +kernel : fb_hd yL_outputsIn 3) ⟨Nat.le_of_ble_eq_true rfl, Nat.le_of_ble_eq_true rfl⟩ rfl rfl (Nat.le_of_ble_eq_true rfl) ⟨Nat.le_of_ble_eq_true rfl, Nat.le_of_ble_eq_true rfl⟩ dL_law_2089 I) ?_
  intro r2 w1 H locs e0 I
  subst e0
  have I : fb_In D (fun q : Nat => s.heap.size ≤ q) s.heap (([fb_jw cJ zx 1 zg, fb_o12 za zr fr_e0] : List va_W).flatten) H locs := I
  refine lv_istore (lv' := [(5, .int (1 : Int32)), (4, .int (0 : Int32)), (3, .ref zx), (2, .ref za), (1, .ref zb), (0, .ref b)]) hx hb dL_law_2092 hl (by decide) rfl (fun ls hl => ?_)
  refine lv_aload_n hx hb dL_law_2094 rfl (lv_at hl 3 rfl) ?_
  refine lv_aload_n hx hb dL_law_2095 rfl (lv_at hl 5 rfl) ?_
  refine lv_iload hx hb dL_law_2096 (lv_at hl 1 rfl) ?_
  refine lv_iconst (v := (1 : Int32)) hx hb dL_law_2098 (by decide) ?_
  refine lv_iadd hx hb dL_law_2099 ?_
  refine fb_tI (v := (1 : Int32)) (by decide) ?_
  refine va_sld (i := (1 : Int32)) hx hb hX hbl hbA I.2.2 (fb_inC (n := 1) (by decide) (by decide) (by omega)) dL_law_2100 ?_
  refine fb_tI (v := (xs 1)) rfl ?_
  refine fb_gI (cs := [fb_o12 za zr fr_e0]) (rs := [fb_jw cJ zx 1 zg]) (fun (t : Unit) => [fb_jw cJ zx 1 zg, fb_o12 za zr (upd (upd fr_e0 19 (0 : Int32)) 19 (1 : Int32))]) (fun (t : Unit) => [fb_o12 za zr (upd (upd fr_e0 19 (0 : Int32)) 19 (1 : Int32))]) X I [1, 0] 2 rfl (by decide +kernel) rfl rfl [1, 0] 2 (fun _ => rfl) (by decide +kernel) (fun _ => rfl) (fun _ => rfl) (fun I => fb_rV (As := [.int (xs 1)]) (rest := []) X hl (fb_goodV fw_2751 fw_2752 fw_2753 fw_204 fw_2754) (c_outputsIn_out l D cI cJ za zr (xs 1) _ q1) rfl rfl rfl (by decide +kernel : fb_hd yX12_outputsIn 1) ⟨Nat.le_of_ble_eq_true rfl, Nat.le_of_ble_eq_true rfl⟩ rfl rfl rfl rfl rfl (Nat.le_of_ble_eq_true rfl) ⟨Nat.le_of_ble_eq_true rfl, Nat.le_of_ble_eq_true rfl⟩ dL_law_2101 I) ?_
  intro r4 w3 H locs e0 I
  subst e0
  have I : fb_In D (fun q : Nat => s.heap.size ≤ q) s.heap (([fb_jw cJ zx 1 zg, fb_o12 za zr (upd (upd fr_e0 19 (0 : Int32)) 19 (1 : Int32))] : List va_W).flatten) H locs := I
  refine lv_istore (lv' := [(6, .int (0 : Int32)), (5, .int (1 : Int32)), (4, .int (0 : Int32)), (3, .ref zx), (2, .ref za), (1, .ref zb), (0, .ref b)]) hx hb dL_law_2104 hl (by decide) rfl (fun ls hl => ?_)
  refine lv_aload_n hx hb dL_law_2106 rfl (lv_at hl 4 rfl) ?_
  refine fb_gO (cs := [fb_o12 za zr (upd (upd fr_e0 19 (0 : Int32)) 19 (1 : Int32))]) (rs := [fb_jw cJ zx 1 zg]) X I [1, 0] 2 rfl (by decide +kernel) rfl rfl (fun I => fb_rV (As := []) (rest := []) X hl (fb_goodV fw_2119 fw_2120 fw_2121 fw_204 fw_2122) (c_thrown l D cI cJ za zr (upd (upd fr_e0 19 (0 : Int32)) 19 (1 : Int32)) _ ) rfl rfl rfl (by decide +kernel : fb_hd yX12_thrown 0) ⟨Nat.le_of_ble_eq_true rfl, Nat.le_of_ble_eq_true rfl⟩ rfl rfl rfl rfl rfl (Nat.le_of_ble_eq_true rfl) ⟨Nat.le_of_ble_eq_true rfl, Nat.le_of_ble_eq_true rfl⟩ dL_law_2107 I) ?_
  refine fb_tI (v := (1 : Int32)) rfl ?_
  refine lv_iload hx hb dL_law_2110 (lv_at hl 1 rfl) ?_
  refine lv_icmp_eq (tgt := 2117) hx hb dL_law_2112 (by decide) (fun _ => ?_) (fun c5 => absurd rfl c5)
  refine lv_iload hx hb dL_law_2117 (lv_at hl 1 rfl) ?_
  refine lv_if_ne (tgt := 2134) hx hb dL_law_2119 (by decide) (fun _ => ?_) (fun c6 => absurd c6 (by decide))
  refine lv_goto (tgt := 2336) hx hb dL_law_2134 (by decide) ?_
  exact lw_end X hX hbl hbA (by omega) I (lv_sub hl [2, 6] rfl) (Nat.le_of_ble_eq_true rfl) (Nat.le_of_ble_eq_true rfl)

set_option maxHeartbeats 4000000 in
set_option maxRecDepth 100000 in
theorem lc_51_i {p : Program} {l : Launch} {e : Env} {s : State} {m : MethodId} {below : List Frame} {meth : Method} {c : Code} {H : Heap} {locs : List Loc} {ls : Array Slot} {D : va_G} {cI cJ : ClassId} {b L : Nat} {xs : Nat → Int32} {zb : Nat} {zt : Nat} {zn : Nat} {zv : Nat} {zs : Nat} {zp : Nat} {zq : Nat → Nat} {zu : Nat → Nat} {zh : Nat} {zst : Nat} {zre : Nat} {zw : fb_AR} {zx : Nat} {zg : Nat → Int64} {za : Nat} {zr : Nat → Nat} {zN : Nat} (hst : l.stackTraces = false) (X : fb_Bx p s m #[Value.ref b] meth c cL_law RL 9 (some .boolean) D (fb_ty D cI cJ) (fun q : Nat => s.heap.size ≤ q)) (hX : va_X b L xs s s.heap) (hbl : b < s.heap.size) (hbA : ¬ (fun q : Nat => s.heap.size ≤ q) b) (hL6 : L = 6) (hz : xs 1 = nI zN) (hN : 1 ≤ zN ∧ zN ≤ 5000) (I : fb_In D (fun q : Nat => s.heap.size ≤ q) s.heap (([fb_o11 zb zt zn zv zs zp (zq 0) (zu 0) zh zst zre, fb_mw cI zq fb_s0 zw, fb_mw cI zu fb_m0 (fun _ => 0), fb_jw cJ zx 1 zg, fb_o12 za zr fr_e0, fb_aw cI (zr 0) 16205 (fr_m (fun _ => 0) 0)] : List va_W).flatten) H locs) (hl : lv_has ls 9 [(4, .int (0 : Int32)), (3, .ref zx), (2, .ref za), (1, .ref zb), (0, .ref b)]) : W p l e room_1 s m #[Value.ref b] below meth c H locs 209 179241 (lw_Z below #[Value.ref b] s) (F0 m 2081 ls []) := by
  obtain ⟨hx, hb, hr, hml, hown, hts, hlk, hA, hK, hF⟩ := id X
  refine lv_aload_n hx hb dL_law_2081 rfl (lv_at hl 3 rfl) ?_
  refine lv_aload_n hx hb dL_law_2082 rfl (lv_at hl 4 rfl) ?_
  refine lv_iload hx hb dL_law_2083 (lv_at hl 0 rfl) ?_
  refine lv_iconst (v := (1 : Int32)) hx hb dL_law_2085 (by decide) ?_
  refine lv_iadd hx hb dL_law_2086 ?_
  refine fb_tI (v := (1 : Int32)) (by decide) ?_
  refine va_sld (i := (1 : Int32)) hx hb hX hbl hbA I.2.2 (fb_inC (n := 1) (by decide) (by decide) (by omega)) dL_law_2087 ?_
  refine fb_tI (v := (xs 1)) rfl ?_
  refine fb_tI (v := (nI zN)) hz ?_
  refine lv_aload_n hx hb dL_law_2088 rfl (lv_at hl 1 rfl) ?_
  refine fb_gI (cs := [fb_o11 zb zt zn zv zs zp (zq 0) (zu 0) zh zst zre, fb_mw cI zq fb_s0 zw, fb_mw cI zu fb_m0 (fun _ => 0), fb_jw cJ zx 1 zg]) (rs := [fb_o12 za zr fr_e0, fb_aw cI (zr 0) 16205 (fr_m (fun _ => 0) 0)]) (fun (t : Unit) => [fb_jw cJ zx 1 (vp_updL zg 0 (((0 : Int32)).toInt64)), fb_o12 za zr fr_e0, fb_aw cI (zr 0) 16205 (fr_m (fun _ => 0) 0)]) (fun (t : Unit) => [fb_jw cJ zx 1 (vp_updL zg 0 (((0 : Int32)).toInt64))]) X I [0, 1, 2, 3, 4, 5] 6 rfl (by decide +kernel) rfl rfl [0, 1, 2] 3 (fun _ => rfl) (by decide +kernel) (fun _ => rfl) (fun _ => rfl) (fun I => fb_rSW (As := [.ref zb, .int (nI zN), .ref zx]) (rest := []) X hl (fb_goodSW fw_1908 fw_1909 fw_190 fw_1910) (c_w_outputsIn_in l D cI cJ zb zt zn zv zs zp zq zu zh zst zre zw zx zg zN _ hst (by omega)) rfl rfl (by decide +kernel : fb_hd yL_outputsIn 3) ⟨Nat.le_of_ble_eq_true rfl, Nat.le_of_ble_eq_true rfl⟩ rfl rfl (Nat.le_of_ble_eq_true rfl) ⟨Nat.le_of_ble_eq_true rfl, Nat.le_of_ble_eq_true rfl⟩ dL_law_2089 I) ?_
  intro r2 w1 H locs e0 I
  subst e0
  have I : fb_In D (fun q : Nat => s.heap.size ≤ q) s.heap (([fb_jw cJ zx 1 (vp_updL zg 0 (((0 : Int32)).toInt64)), fb_o12 za zr fr_e0, fb_aw cI (zr 0) 16205 (fr_m (fun _ => 0) 0)] : List va_W).flatten) H locs := I
  refine lv_istore (lv' := [(5, .int (0 : Int32)), (4, .int (0 : Int32)), (3, .ref zx), (2, .ref za), (1, .ref zb), (0, .ref b)]) hx hb dL_law_2092 hl (by decide) rfl (fun ls hl => ?_)
  refine lv_aload_n hx hb dL_law_2094 rfl (lv_at hl 3 rfl) ?_
  refine lv_aload_n hx hb dL_law_2095 rfl (lv_at hl 5 rfl) ?_
  refine lv_iload hx hb dL_law_2096 (lv_at hl 1 rfl) ?_
  refine lv_iconst (v := (1 : Int32)) hx hb dL_law_2098 (by decide) ?_
  refine lv_iadd hx hb dL_law_2099 ?_
  refine fb_tI (v := (1 : Int32)) (by decide) ?_
  refine va_sld (i := (1 : Int32)) hx hb hX hbl hbA I.2.2 (fb_inC (n := 1) (by decide) (by decide) (by omega)) dL_law_2100 ?_
  refine fb_tI (v := (xs 1)) rfl ?_
  refine fb_tI (v := (nI zN)) hz ?_
  refine fb_gI (cs := [fb_o12 za zr fr_e0, fb_aw cI (zr 0) 16205 (fr_m (fun _ => 0) 0)]) (rs := [fb_jw cJ zx 1 (vp_updL zg 0 (((0 : Int32)).toInt64))]) (fun (t : Nat × Nat × fb_AR × fb_AR) => [fb_jw cJ zx 1 (vp_updL zg 0 (((0 : Int32)).toInt64)), fb_o12 za (va_up (va_up zr 0 (t.1)) 0 (t.2.1)) (t.2.2.1), fb_aw cI (t.2.1) 16205 (fr_m (fun _ => 0) 0), fb_aw cI (t.1) 16205 (fr_m (t.2.2.2) zN)]) (fun (t : Nat × Nat × fb_AR × fb_AR) => [fb_o12 za (va_up (va_up zr 0 (t.1)) 0 (t.2.1)) (t.2.2.1), fb_aw cI (t.2.1) 16205 (fr_m (fun _ => 0) 0), fb_aw cI (t.1) 16205 (fr_m (t.2.2.2) zN)]) X I [1, 2, 0] 3 rfl (by decide +kernel) rfl rfl [1, 2, 3, 0] 4 (fun _ => rfl) (by decide +kernel) (fun _ => rfl) (fun _ => rfl) (fun I => fb_rV (As := [.int (nI zN)]) (rest := []) X hl (fb_goodV fw_2751 fw_2752 fw_2753 fw_204 fw_2754) (c_outputsIn_in l D cI cJ za zr zN _ (by omega)) rfl rfl rfl (by decide +kernel : fb_hd yX12_outputsIn 1) ⟨Nat.le_of_ble_eq_true rfl, Nat.le_of_ble_eq_true rfl⟩ rfl rfl rfl rfl rfl (Nat.le_of_ble_eq_true rfl) ⟨Nat.le_of_ble_eq_true rfl, Nat.le_of_ble_eq_true rfl⟩ dL_law_2101 I) ?_
  intro r4 w3 H locs e0 I
  obtain ⟨e9, e0⟩ := e0
  subst e9
  obtain ⟨w3_0, w3_1, w3_2, w3_3⟩ := w3
  have p5 : w3_2 19 = (0 : Int32) := e0
  have I : fb_In D (fun q : Nat => s.heap.size ≤ q) s.heap (([fb_jw cJ zx 1 (vp_updL zg 0 (((0 : Int32)).toInt64)), fb_o12 za (va_up (va_up zr 0 w3_0) 0 w3_1) w3_2, fb_aw cI w3_1 16205 (fr_m (fun _ => 0) 0), fb_aw cI w3_0 16205 (fr_m w3_3 zN)] : List va_W).flatten) H locs := I
  refine lv_istore (lv' := [(6, .int (0 : Int32)), (5, .int (0 : Int32)), (4, .int (0 : Int32)), (3, .ref zx), (2, .ref za), (1, .ref zb), (0, .ref b)]) hx hb dL_law_2104 hl (by decide) rfl (fun ls hl => ?_)
  refine lv_aload_n hx hb dL_law_2106 rfl (lv_at hl 4 rfl) ?_
  refine fb_gO (cs := [fb_o12 za (va_up (va_up zr 0 w3_0) 0 w3_1) w3_2]) (rs := [fb_jw cJ zx 1 (vp_updL zg 0 (((0 : Int32)).toInt64)), fb_aw cI w3_1 16205 (fr_m (fun _ => 0) 0), fb_aw cI w3_0 16205 (fr_m w3_3 zN)]) X I [1, 0, 2, 3] 4 rfl (by decide +kernel) rfl rfl (fun I => fb_rV (As := []) (rest := []) X hl (fb_goodV fw_2119 fw_2120 fw_2121 fw_204 fw_2122) (c_thrown l D cI cJ za (va_up (va_up zr 0 w3_0) 0 w3_1) w3_2 _ ) rfl rfl rfl (by decide +kernel : fb_hd yX12_thrown 0) ⟨Nat.le_of_ble_eq_true rfl, Nat.le_of_ble_eq_true rfl⟩ rfl rfl rfl rfl rfl (Nat.le_of_ble_eq_true rfl) ⟨Nat.le_of_ble_eq_true rfl, Nat.le_of_ble_eq_true rfl⟩ dL_law_2107 I) ?_
  refine fb_tI (v := (0 : Int32)) p5 ?_
  refine lv_iload hx hb dL_law_2110 (lv_at hl 1 rfl) ?_
  refine lv_icmp_eq (tgt := 2117) hx hb dL_law_2112 (by decide) (fun _ => ?_) (fun c6 => absurd rfl c6)
  refine lv_iload hx hb dL_law_2117 (lv_at hl 1 rfl) ?_
  refine lv_if_ne (tgt := 2134) hx hb dL_law_2119 (by decide) (fun c7 => absurd (by decide) c7) (fun _ => ?_)
  refine lv_aload_n hx hb dL_law_2122 rfl (lv_at hl 3 rfl) ?_
  refine lv_iconst (v := (0 : Int32)) hx hb dL_law_2123 (by decide) ?_
  refine va_lald (i := (0 : Int32)) hx hb hK.1 I.1 0 1 rfl rfl (fb_inC (n := 0) (by decide) (by decide) (Nat.le_of_ble_eq_true rfl)) dL_law_2124 ?_
  refine fb_tL (v := (((0 : Int32)).toInt64)) rfl ?_
  refine lv_iload hx hb dL_law_2125 (lv_at hl 0 rfl) ?_
  refine lv_i2l (v := (((0 : Int32)).toInt64)) hx hb dL_law_2127 rfl ?_
  refine W.lcmp hx hb dL_law_2128 ?_
  refine fb_tI (v := (0 : Int32)) (lw_cmp0 _) ?_
  refine lv_if_eq (tgt := 2134) hx hb dL_law_2129 (by decide) (fun _ => ?_) (fun c8 => absurd (by decide) c8)
  refine lv_goto (tgt := 2336) hx hb dL_law_2134 (by decide) ?_
  exact lw_end X hX hbl hbA (by omega) I (lv_sub hl [2, 6] rfl) (Nat.le_of_ble_eq_true rfl) (Nat.le_of_ble_eq_true rfl)

set_option maxHeartbeats 4000000 in
set_option maxRecDepth 100000 in
theorem lc_50_o {p : Program} {l : Launch} {e : Env} {s : State} {m : MethodId} {below : List Frame} {meth : Method} {c : Code} {H : Heap} {locs : List Loc} {ls : Array Slot} {D : va_G} {cI cJ : ClassId} {b L : Nat} {xs : Nat → Int32} {zb : Nat} {zt : Nat} {zn : Nat} {zv : Nat} {zs : Nat} {zp : Nat} {zq : Nat → Nat} {zu : Nat → Nat} {zh : Nat} {zst : Nat} {zre : Nat} {zx : Nat} {zg : Nat → Int64} {za : Nat} {zr : Nat → Nat} (hst : l.stackTraces = false) (X : fb_Bx p s m #[Value.ref b] meth c cL_law RL 9 (some .boolean) D (fb_ty D cI cJ) (fun q : Nat => s.heap.size ≤ q)) (hX : va_X b L xs s s.heap) (hbl : b < s.heap.size) (hbA : ¬ (fun q : Nat => s.heap.size ≤ q) b) (hL6 : L = 6) (gA : f_X11_isNoAddress (xs 1) = (1 : Int32)) (q1 : f_X12_isIn (xs 1) (0 : Int32) (4095 : Int32) = (0 : Int32)) (I : fb_In D (fun q : Nat => s.heap.size ≤ q) s.heap (([fb_o11 zb zt zn zv zs zp (zq 0) (zu 0) zh zst zre, fb_jw cJ zx 1 zg, fb_o12 za zr fr_e0] : List va_W).flatten) H locs) (hl : lv_has ls 9 [(4, .int (0 : Int32)), (3, .ref zx), (2, .ref za), (1, .ref zb), (0, .ref b)]) : W p l e room_1 s m #[Value.ref b] below meth c H locs 209 179241 (lw_Z below #[Value.ref b] s) (F0 m 2013 ls []) := by
  obtain ⟨hx, hb, hr, hml, hown, hts, hlk, hA, hK, hF⟩ := id X
  refine lv_aload_n hx hb dL_law_2013 rfl (lv_at hl 3 rfl) ?_
  refine lv_aload_n hx hb dL_law_2014 rfl (lv_at hl 4 rfl) ?_
  refine lv_iload hx hb dL_law_2015 (lv_at hl 0 rfl) ?_
  refine lv_iconst (v := (1 : Int32)) hx hb dL_law_2017 (by decide) ?_
  refine lv_iadd hx hb dL_law_2018 ?_
  refine fb_tI (v := (1 : Int32)) (by decide) ?_
  refine va_sld (i := (1 : Int32)) hx hb hX hbl hbA I.2.2 (fb_inC (n := 1) (by decide) (by decide) (by omega)) dL_law_2019 ?_
  refine fb_tI (v := (xs 1)) rfl ?_
  refine lv_aload_n hx hb dL_law_2020 rfl (lv_at hl 4 rfl) ?_
  refine lv_iload hx hb dL_law_2021 (lv_at hl 0 rfl) ?_
  refine lv_iconst (v := (2 : Int32)) hx hb dL_law_2023 (by decide) ?_
  refine lv_iadd hx hb dL_law_2024 ?_
  refine fb_tI (v := (2 : Int32)) (by decide) ?_
  refine va_sld (i := (2 : Int32)) hx hb hX hbl hbA I.2.2 (fb_inC (n := 2) (by decide) (by decide) (by omega)) dL_law_2025 ?_
  refine fb_tI (v := (xs 2)) rfl ?_
  refine lv_aload_n hx hb dL_law_2026 rfl (lv_at hl 1 rfl) ?_
  refine fb_gI (cs := [fb_o11 zb zt zn zv zs zp (zq 0) (zu 0) zh zst zre, fb_jw cJ zx 1 zg]) (rs := [fb_o12 za zr fr_e0]) (fun (t : Unit) => [fb_jw cJ zx 1 zg, fb_o12 za zr fr_e0]) (fun (t : Unit) => [fb_jw cJ zx 1 zg]) X I [0, 1, 2] 3 rfl (by decide +kernel) rfl rfl [0, 1] 2 (fun _ => rfl) (by decide +kernel) (fun _ => rfl) (fun _ => rfl) (fun I => fb_rSW (As := [.ref zb, .int (xs 1), .int (xs 2), .ref zx]) (rest := []) X hl (fb_goodSW fw_1896 fw_1897 fw_190 fw_1898) (c_w_cyclesToReach_o l D cI cJ zb zt zn zv zs zp zq zu zh zst zre zx zg (xs 1) (xs 2) _ hst gA) rfl rfl (by decide +kernel : fb_hd yL_cyclesToReach 4) ⟨Nat.le_of_ble_eq_true rfl, Nat.le_of_ble_eq_true rfl⟩ rfl rfl (Nat.le_of_ble_eq_true rfl) ⟨Nat.le_of_ble_eq_true rfl, Nat.le_of_ble_eq_true rfl⟩ dL_law_2027 I) ?_
  intro r2 w1 H locs e0 I
  subst e0
  have I : fb_In D (fun q : Nat => s.heap.size ≤ q) s.heap (([fb_jw cJ zx 1 zg, fb_o12 za zr fr_e0] : List va_W).flatten) H locs := I
  refine lv_istore (lv' := [(5, .int (1 : Int32)), (4, .int (0 : Int32)), (3, .ref zx), (2, .ref za), (1, .ref zb), (0, .ref b)]) hx hb dL_law_2030 hl (by decide) rfl (fun ls hl => ?_)
  refine lv_aload_n hx hb dL_law_2032 rfl (lv_at hl 3 rfl) ?_
  refine lv_aload_n hx hb dL_law_2033 rfl (lv_at hl 5 rfl) ?_
  refine lv_iload hx hb dL_law_2034 (lv_at hl 1 rfl) ?_
  refine lv_iconst (v := (1 : Int32)) hx hb dL_law_2036 (by decide) ?_
  refine lv_iadd hx hb dL_law_2037 ?_
  refine fb_tI (v := (1 : Int32)) (by decide) ?_
  refine va_sld (i := (1 : Int32)) hx hb hX hbl hbA I.2.2 (fb_inC (n := 1) (by decide) (by decide) (by omega)) dL_law_2038 ?_
  refine fb_tI (v := (xs 1)) rfl ?_
  refine lv_aload_n hx hb dL_law_2039 rfl (lv_at hl 5 rfl) ?_
  refine lv_iload hx hb dL_law_2040 (lv_at hl 1 rfl) ?_
  refine lv_iconst (v := (2 : Int32)) hx hb dL_law_2042 (by decide) ?_
  refine lv_iadd hx hb dL_law_2043 ?_
  refine fb_tI (v := (2 : Int32)) (by decide) ?_
  refine va_sld (i := (2 : Int32)) hx hb hX hbl hbA I.2.2 (fb_inC (n := 2) (by decide) (by decide) (by omega)) dL_law_2044 ?_
  refine fb_tI (v := (xs 2)) rfl ?_
  refine fb_gI (cs := [fb_o12 za zr fr_e0]) (rs := [fb_jw cJ zx 1 zg]) (fun (t : Unit) => [fb_jw cJ zx 1 zg, fb_o12 za zr (upd (upd fr_e0 19 (0 : Int32)) 19 (1 : Int32))]) (fun (t : Unit) => [fb_o12 za zr (upd (upd fr_e0 19 (0 : Int32)) 19 (1 : Int32))]) X I [1, 0] 2 rfl (by decide +kernel) rfl rfl [1, 0] 2 (fun _ => rfl) (by decide +kernel) (fun _ => rfl) (fun _ => rfl) (fun I => fb_rV (As := [.int (xs 1), .int (xs 2)]) (rest := []) X hl (fb_goodV fw_2743 fw_2744 fw_2745 fw_204 fw_2746) (c_cyclesToReach_out l D cI cJ za zr (xs 1) (xs 2) _ q1) rfl rfl rfl (by decide +kernel : fb_hd yX12_cyclesToReach 2) ⟨Nat.le_of_ble_eq_true rfl, Nat.le_of_ble_eq_true rfl⟩ rfl rfl rfl rfl rfl (Nat.le_of_ble_eq_true rfl) ⟨Nat.le_of_ble_eq_true rfl, Nat.le_of_ble_eq_true rfl⟩ dL_law_2045 I) ?_
  intro r4 w3 H locs e0 I
  subst e0
  have I : fb_In D (fun q : Nat => s.heap.size ≤ q) s.heap (([fb_jw cJ zx 1 zg, fb_o12 za zr (upd (upd fr_e0 19 (0 : Int32)) 19 (1 : Int32))] : List va_W).flatten) H locs := I
  refine lv_istore (lv' := [(6, .int (0 : Int32)), (5, .int (1 : Int32)), (4, .int (0 : Int32)), (3, .ref zx), (2, .ref za), (1, .ref zb), (0, .ref b)]) hx hb dL_law_2048 hl (by decide) rfl (fun ls hl => ?_)
  refine lv_aload_n hx hb dL_law_2050 rfl (lv_at hl 4 rfl) ?_
  refine fb_gO (cs := [fb_o12 za zr (upd (upd fr_e0 19 (0 : Int32)) 19 (1 : Int32))]) (rs := [fb_jw cJ zx 1 zg]) X I [1, 0] 2 rfl (by decide +kernel) rfl rfl (fun I => fb_rV (As := []) (rest := []) X hl (fb_goodV fw_2119 fw_2120 fw_2121 fw_204 fw_2122) (c_thrown l D cI cJ za zr (upd (upd fr_e0 19 (0 : Int32)) 19 (1 : Int32)) _ ) rfl rfl rfl (by decide +kernel : fb_hd yX12_thrown 0) ⟨Nat.le_of_ble_eq_true rfl, Nat.le_of_ble_eq_true rfl⟩ rfl rfl rfl rfl rfl (Nat.le_of_ble_eq_true rfl) ⟨Nat.le_of_ble_eq_true rfl, Nat.le_of_ble_eq_true rfl⟩ dL_law_2051 I) ?_
  refine fb_tI (v := (1 : Int32)) rfl ?_
  refine lv_iload hx hb dL_law_2054 (lv_at hl 1 rfl) ?_
  refine lv_icmp_eq (tgt := 2061) hx hb dL_law_2056 (by decide) (fun _ => ?_) (fun c5 => absurd rfl c5)
  refine lv_iload hx hb dL_law_2061 (lv_at hl 1 rfl) ?_
  refine lv_if_ne (tgt := 2078) hx hb dL_law_2063 (by decide) (fun _ => ?_) (fun c6 => absurd c6 (by decide))
  refine lv_goto (tgt := 2336) hx hb dL_law_2078 (by decide) ?_
  exact lw_end X hX hbl hbA (by omega) I (lv_sub hl [2, 6] rfl) (Nat.le_of_ble_eq_true rfl) (Nat.le_of_ble_eq_true rfl)

set_option maxHeartbeats 4000000 in
set_option maxRecDepth 100000 in
theorem lc_50_b {p : Program} {l : Launch} {e : Env} {s : State} {m : MethodId} {below : List Frame} {meth : Method} {c : Code} {H : Heap} {locs : List Loc} {ls : Array Slot} {D : va_G} {cI cJ : ClassId} {b L : Nat} {xs : Nat → Int32} {zb : Nat} {zt : Nat} {zn : Nat} {zv : Nat} {zs : Nat} {zp : Nat} {zq : Nat → Nat} {zu : Nat → Nat} {zh : Nat} {zst : Nat} {zre : Nat} {zx : Nat} {zg : Nat → Int64} {za : Nat} {zr : Nat → Nat} {zj : Nat} (hst : l.stackTraces = false) (X : fb_Bx p s m #[Value.ref b] meth c cL_law RL 9 (some .boolean) D (fb_ty D cI cJ) (fun q : Nat => s.heap.size ≤ q)) (hX : va_X b L xs s s.heap) (hbl : b < s.heap.size) (hbA : ¬ (fun q : Nat => s.heap.size ≤ q) b) (hL6 : L = 6) (hz : xs 1 = nI zj) (hj : zj < 4096) (gA0 : f_X11_isNoAddress (nI zj) = (0 : Int32)) (gA : f_X11_isNoSpan (xs 2) = (1 : Int32)) (q1 : f_X12_isIn (xs 2) (1 : Int32) (5000 : Int32) = (0 : Int32)) (I : fb_In D (fun q : Nat => s.heap.size ≤ q) s.heap (([fb_o11 zb zt zn zv zs zp (zq 0) (zu 0) zh zst zre, fb_jw cJ zx 1 zg, fb_o12 za zr fr_e0] : List va_W).flatten) H locs) (hl : lv_has ls 9 [(4, .int (0 : Int32)), (3, .ref zx), (2, .ref za), (1, .ref zb), (0, .ref b)]) : W p l e room_1 s m #[Value.ref b] below meth c H locs 209 179241 (lw_Z below #[Value.ref b] s) (F0 m 2013 ls []) := by
  obtain ⟨hx, hb, hr, hml, hown, hts, hlk, hA, hK, hF⟩ := id X
  refine lv_aload_n hx hb dL_law_2013 rfl (lv_at hl 3 rfl) ?_
  refine lv_aload_n hx hb dL_law_2014 rfl (lv_at hl 4 rfl) ?_
  refine lv_iload hx hb dL_law_2015 (lv_at hl 0 rfl) ?_
  refine lv_iconst (v := (1 : Int32)) hx hb dL_law_2017 (by decide) ?_
  refine lv_iadd hx hb dL_law_2018 ?_
  refine fb_tI (v := (1 : Int32)) (by decide) ?_
  refine va_sld (i := (1 : Int32)) hx hb hX hbl hbA I.2.2 (fb_inC (n := 1) (by decide) (by decide) (by omega)) dL_law_2019 ?_
  refine fb_tI (v := (xs 1)) rfl ?_
  refine fb_tI (v := (nI zj)) hz ?_
  refine lv_aload_n hx hb dL_law_2020 rfl (lv_at hl 4 rfl) ?_
  refine lv_iload hx hb dL_law_2021 (lv_at hl 0 rfl) ?_
  refine lv_iconst (v := (2 : Int32)) hx hb dL_law_2023 (by decide) ?_
  refine lv_iadd hx hb dL_law_2024 ?_
  refine fb_tI (v := (2 : Int32)) (by decide) ?_
  refine va_sld (i := (2 : Int32)) hx hb hX hbl hbA I.2.2 (fb_inC (n := 2) (by decide) (by decide) (by omega)) dL_law_2025 ?_
  refine fb_tI (v := (xs 2)) rfl ?_
  refine lv_aload_n hx hb dL_law_2026 rfl (lv_at hl 1 rfl) ?_
  refine fb_gI (cs := [fb_o11 zb zt zn zv zs zp (zq 0) (zu 0) zh zst zre, fb_jw cJ zx 1 zg]) (rs := [fb_o12 za zr fr_e0]) (fun (t : Unit) => [fb_jw cJ zx 1 zg, fb_o12 za zr fr_e0]) (fun (t : Unit) => [fb_jw cJ zx 1 zg]) X I [0, 1, 2] 3 rfl (by decide +kernel) rfl rfl [0, 1] 2 (fun _ => rfl) (by decide +kernel) (fun _ => rfl) (fun _ => rfl) (fun I => fb_rSW (As := [.ref zb, .int (nI zj), .int (xs 2), .ref zx]) (rest := []) X hl (fb_goodSW fw_1896 fw_1897 fw_190 fw_1898) (c_w_cyclesToReach_b l D cI cJ zb zt zn zv zs zp zq zu zh zst zre zx zg (nI zj) (xs 2) _ hst gA0 gA) rfl rfl (by decide +kernel : fb_hd yL_cyclesToReach 4) ⟨Nat.le_of_ble_eq_true rfl, Nat.le_of_ble_eq_true rfl⟩ rfl rfl (Nat.le_of_ble_eq_true rfl) ⟨Nat.le_of_ble_eq_true rfl, Nat.le_of_ble_eq_true rfl⟩ dL_law_2027 I) ?_
  intro r2 w1 H locs e0 I
  subst e0
  have I : fb_In D (fun q : Nat => s.heap.size ≤ q) s.heap (([fb_jw cJ zx 1 zg, fb_o12 za zr fr_e0] : List va_W).flatten) H locs := I
  refine lv_istore (lv' := [(5, .int (1 : Int32)), (4, .int (0 : Int32)), (3, .ref zx), (2, .ref za), (1, .ref zb), (0, .ref b)]) hx hb dL_law_2030 hl (by decide) rfl (fun ls hl => ?_)
  refine lv_aload_n hx hb dL_law_2032 rfl (lv_at hl 3 rfl) ?_
  refine lv_aload_n hx hb dL_law_2033 rfl (lv_at hl 5 rfl) ?_
  refine lv_iload hx hb dL_law_2034 (lv_at hl 1 rfl) ?_
  refine lv_iconst (v := (1 : Int32)) hx hb dL_law_2036 (by decide) ?_
  refine lv_iadd hx hb dL_law_2037 ?_
  refine fb_tI (v := (1 : Int32)) (by decide) ?_
  refine va_sld (i := (1 : Int32)) hx hb hX hbl hbA I.2.2 (fb_inC (n := 1) (by decide) (by decide) (by omega)) dL_law_2038 ?_
  refine fb_tI (v := (xs 1)) rfl ?_
  refine fb_tI (v := (nI zj)) hz ?_
  refine lv_aload_n hx hb dL_law_2039 rfl (lv_at hl 5 rfl) ?_
  refine lv_iload hx hb dL_law_2040 (lv_at hl 1 rfl) ?_
  refine lv_iconst (v := (2 : Int32)) hx hb dL_law_2042 (by decide) ?_
  refine lv_iadd hx hb dL_law_2043 ?_
  refine fb_tI (v := (2 : Int32)) (by decide) ?_
  refine va_sld (i := (2 : Int32)) hx hb hX hbl hbA I.2.2 (fb_inC (n := 2) (by decide) (by decide) (by omega)) dL_law_2044 ?_
  refine fb_tI (v := (xs 2)) rfl ?_
  refine fb_gI (cs := [fb_o12 za zr fr_e0]) (rs := [fb_jw cJ zx 1 zg]) (fun (t : Unit) => [fb_jw cJ zx 1 zg, fb_o12 za zr (upd (upd fr_e0 19 (0 : Int32)) 19 (1 : Int32))]) (fun (t : Unit) => [fb_o12 za zr (upd (upd fr_e0 19 (0 : Int32)) 19 (1 : Int32))]) X I [1, 0] 2 rfl (by decide +kernel) rfl rfl [1, 0] 2 (fun _ => rfl) (by decide +kernel) (fun _ => rfl) (fun _ => rfl) (fun I => fb_rV (As := [.int (nI zj), .int (xs 2)]) (rest := []) X hl (fb_goodV fw_2743 fw_2744 fw_2745 fw_204 fw_2746) (c_cyclesToReach_bad l D cI cJ za zr zj (xs 2) _ (by omega) q1) rfl rfl rfl (by decide +kernel : fb_hd yX12_cyclesToReach 2) ⟨Nat.le_of_ble_eq_true rfl, Nat.le_of_ble_eq_true rfl⟩ rfl rfl rfl rfl rfl (Nat.le_of_ble_eq_true rfl) ⟨Nat.le_of_ble_eq_true rfl, Nat.le_of_ble_eq_true rfl⟩ dL_law_2045 I) ?_
  intro r4 w3 H locs e0 I
  subst e0
  have I : fb_In D (fun q : Nat => s.heap.size ≤ q) s.heap (([fb_jw cJ zx 1 zg, fb_o12 za zr (upd (upd fr_e0 19 (0 : Int32)) 19 (1 : Int32))] : List va_W).flatten) H locs := I
  refine lv_istore (lv' := [(6, .int (0 : Int32)), (5, .int (1 : Int32)), (4, .int (0 : Int32)), (3, .ref zx), (2, .ref za), (1, .ref zb), (0, .ref b)]) hx hb dL_law_2048 hl (by decide) rfl (fun ls hl => ?_)
  refine lv_aload_n hx hb dL_law_2050 rfl (lv_at hl 4 rfl) ?_
  refine fb_gO (cs := [fb_o12 za zr (upd (upd fr_e0 19 (0 : Int32)) 19 (1 : Int32))]) (rs := [fb_jw cJ zx 1 zg]) X I [1, 0] 2 rfl (by decide +kernel) rfl rfl (fun I => fb_rV (As := []) (rest := []) X hl (fb_goodV fw_2119 fw_2120 fw_2121 fw_204 fw_2122) (c_thrown l D cI cJ za zr (upd (upd fr_e0 19 (0 : Int32)) 19 (1 : Int32)) _ ) rfl rfl rfl (by decide +kernel : fb_hd yX12_thrown 0) ⟨Nat.le_of_ble_eq_true rfl, Nat.le_of_ble_eq_true rfl⟩ rfl rfl rfl rfl rfl (Nat.le_of_ble_eq_true rfl) ⟨Nat.le_of_ble_eq_true rfl, Nat.le_of_ble_eq_true rfl⟩ dL_law_2051 I) ?_
  refine fb_tI (v := (1 : Int32)) rfl ?_
  refine lv_iload hx hb dL_law_2054 (lv_at hl 1 rfl) ?_
  refine lv_icmp_eq (tgt := 2061) hx hb dL_law_2056 (by decide) (fun _ => ?_) (fun c5 => absurd rfl c5)
  refine lv_iload hx hb dL_law_2061 (lv_at hl 1 rfl) ?_
  refine lv_if_ne (tgt := 2078) hx hb dL_law_2063 (by decide) (fun _ => ?_) (fun c6 => absurd c6 (by decide))
  refine lv_goto (tgt := 2336) hx hb dL_law_2078 (by decide) ?_
  exact lw_end X hX hbl hbA (by omega) I (lv_sub hl [2, 6] rfl) (Nat.le_of_ble_eq_true rfl) (Nat.le_of_ble_eq_true rfl)

set_option maxHeartbeats 4000000 in
set_option maxRecDepth 100000 in
theorem lc_52_o {p : Program} {l : Launch} {e : Env} {s : State} {m : MethodId} {below : List Frame} {meth : Method} {c : Code} {H : Heap} {locs : List Loc} {ls : Array Slot} {D : va_G} {cI cJ : ClassId} {b L : Nat} {xs : Nat → Int32} {zb : Nat} {zt : Nat} {zn : Nat} {zv : Nat} {zs : Nat} {zp : Nat} {zq : Nat → Nat} {zu : Nat → Nat} {zh : Nat} {zst : Nat} {zre : Nat} {zx : Nat} {zg : Nat → Int64} {za : Nat} {zr : Nat → Nat} (hst : l.stackTraces = false) (X : fb_Bx p s m #[Value.ref b] meth c cL_law RL 9 (some .boolean) D (fb_ty D cI cJ) (fun q : Nat => s.heap.size ≤ q)) (hX : va_X b L xs s s.heap) (hbl : b < s.heap.size) (hbA : ¬ (fun q : Nat => s.heap.size ≤ q) b) (hL6 : L = 6) (gA : f_X11_isNoAddress (xs 1) = (1 : Int32)) (q1 : f_X12_isIn (xs 1) (0 : Int32) (4095 : Int32) = (0 : Int32)) (I : fb_In D (fun q : Nat => s.heap.size ≤ q) s.heap (([fb_o11 zb zt zn zv zs zp (zq 0) (zu 0) zh zst zre, fb_jw cJ zx 1 zg, fb_o12 za zr fr_e0] : List va_W).flatten) H locs) (hl : lv_has ls 9 [(4, .int (0 : Int32)), (3, .ref zx), (2, .ref za), (1, .ref zb), (0, .ref b)]) : W p l e room_1 s m #[Value.ref b] below meth c H locs 209 179241 (lw_Z below #[Value.ref b] s) (F0 m 2137 ls []) := by
  obtain ⟨hx, hb, hr, hml, hown, hts, hlk, hA, hK, hF⟩ := id X
  refine lv_aload_n hx hb dL_law_2137 rfl (lv_at hl 3 rfl) ?_
  refine lv_aload_n hx hb dL_law_2138 rfl (lv_at hl 4 rfl) ?_
  refine lv_iload hx hb dL_law_2139 (lv_at hl 0 rfl) ?_
  refine lv_iconst (v := (1 : Int32)) hx hb dL_law_2141 (by decide) ?_
  refine lv_iadd hx hb dL_law_2142 ?_
  refine fb_tI (v := (1 : Int32)) (by decide) ?_
  refine va_sld (i := (1 : Int32)) hx hb hX hbl hbA I.2.2 (fb_inC (n := 1) (by decide) (by decide) (by omega)) dL_law_2143 ?_
  refine fb_tI (v := (xs 1)) rfl ?_
  refine lv_aload_n hx hb dL_law_2144 rfl (lv_at hl 4 rfl) ?_
  refine lv_iload hx hb dL_law_2145 (lv_at hl 0 rfl) ?_
  refine lv_iconst (v := (2 : Int32)) hx hb dL_law_2147 (by decide) ?_
  refine lv_iadd hx hb dL_law_2148 ?_
  refine fb_tI (v := (2 : Int32)) (by decide) ?_
  refine va_sld (i := (2 : Int32)) hx hb hX hbl hbA I.2.2 (fb_inC (n := 2) (by decide) (by decide) (by omega)) dL_law_2149 ?_
  refine fb_tI (v := (xs 2)) rfl ?_
  refine lv_aload_n hx hb dL_law_2150 rfl (lv_at hl 1 rfl) ?_
  refine fb_gI (cs := [fb_o11 zb zt zn zv zs zp (zq 0) (zu 0) zh zst zre, fb_jw cJ zx 1 zg]) (rs := [fb_o12 za zr fr_e0]) (fun (t : Unit) => [fb_jw cJ zx 1 zg, fb_o12 za zr fr_e0]) (fun (t : Unit) => [fb_jw cJ zx 1 zg]) X I [0, 1, 2] 3 rfl (by decide +kernel) rfl rfl [0, 1] 2 (fun _ => rfl) (by decide +kernel) (fun _ => rfl) (fun _ => rfl) (fun I => fb_rSW (As := [.ref zb, .int (xs 1), .int (xs 2), .ref zx]) (rest := []) X hl (fb_goodSW fw_1915 fw_1916 fw_190 fw_1917) (c_w_writesIn_o l D cI cJ zb zt zn zv zs zp zq zu zh zst zre zx zg (xs 1) (xs 2) _ hst gA) rfl rfl (by decide +kernel : fb_hd yL_writesIn 4) ⟨Nat.le_of_ble_eq_true rfl, Nat.le_of_ble_eq_true rfl⟩ rfl rfl (Nat.le_of_ble_eq_true rfl) ⟨Nat.le_of_ble_eq_true rfl, Nat.le_of_ble_eq_true rfl⟩ dL_law_2151 I) ?_
  intro r2 w1 H locs e0 I
  subst e0
  have I : fb_In D (fun q : Nat => s.heap.size ≤ q) s.heap (([fb_jw cJ zx 1 zg, fb_o12 za zr fr_e0] : List va_W).flatten) H locs := I
  refine lv_istore (lv' := [(5, .int (1 : Int32)), (4, .int (0 : Int32)), (3, .ref zx), (2, .ref za), (1, .ref zb), (0, .ref b)]) hx hb dL_law_2154 hl (by decide) rfl (fun ls hl => ?_)
  refine lv_aload_n hx hb dL_law_2156 rfl (lv_at hl 3 rfl) ?_
  refine lv_aload_n hx hb dL_law_2157 rfl (lv_at hl 5 rfl) ?_
  refine lv_iload hx hb dL_law_2158 (lv_at hl 1 rfl) ?_
  refine lv_iconst (v := (1 : Int32)) hx hb dL_law_2160 (by decide) ?_
  refine lv_iadd hx hb dL_law_2161 ?_
  refine fb_tI (v := (1 : Int32)) (by decide) ?_
  refine va_sld (i := (1 : Int32)) hx hb hX hbl hbA I.2.2 (fb_inC (n := 1) (by decide) (by decide) (by omega)) dL_law_2162 ?_
  refine fb_tI (v := (xs 1)) rfl ?_
  refine lv_aload_n hx hb dL_law_2163 rfl (lv_at hl 5 rfl) ?_
  refine lv_iload hx hb dL_law_2164 (lv_at hl 1 rfl) ?_
  refine lv_iconst (v := (2 : Int32)) hx hb dL_law_2166 (by decide) ?_
  refine lv_iadd hx hb dL_law_2167 ?_
  refine fb_tI (v := (2 : Int32)) (by decide) ?_
  refine va_sld (i := (2 : Int32)) hx hb hX hbl hbA I.2.2 (fb_inC (n := 2) (by decide) (by decide) (by omega)) dL_law_2168 ?_
  refine fb_tI (v := (xs 2)) rfl ?_
  refine fb_gI (cs := [fb_o12 za zr fr_e0]) (rs := [fb_jw cJ zx 1 zg]) (fun (t : Unit) => [fb_jw cJ zx 1 zg, fb_o12 za zr (upd (upd fr_e0 19 (0 : Int32)) 19 (1 : Int32))]) (fun (t : Unit) => [fb_o12 za zr (upd (upd fr_e0 19 (0 : Int32)) 19 (1 : Int32))]) X I [1, 0] 2 rfl (by decide +kernel) rfl rfl [1, 0] 2 (fun _ => rfl) (by decide +kernel) (fun _ => rfl) (fun _ => rfl) (fun I => fb_rV (As := [.int (xs 1), .int (xs 2)]) (rest := []) X hl (fb_goodV fw_2759 fw_2760 fw_2761 fw_204 fw_2762) (c_writesIn_out l D cI cJ za zr (xs 1) (xs 2) _ q1) rfl rfl rfl (by decide +kernel : fb_hd yX12_writesIn 2) ⟨Nat.le_of_ble_eq_true rfl, Nat.le_of_ble_eq_true rfl⟩ rfl rfl rfl rfl rfl (Nat.le_of_ble_eq_true rfl) ⟨Nat.le_of_ble_eq_true rfl, Nat.le_of_ble_eq_true rfl⟩ dL_law_2169 I) ?_
  intro r4 w3 H locs e0 I
  subst e0
  have I : fb_In D (fun q : Nat => s.heap.size ≤ q) s.heap (([fb_jw cJ zx 1 zg, fb_o12 za zr (upd (upd fr_e0 19 (0 : Int32)) 19 (1 : Int32))] : List va_W).flatten) H locs := I
  refine lv_istore (lv' := [(6, .int (0 : Int32)), (5, .int (1 : Int32)), (4, .int (0 : Int32)), (3, .ref zx), (2, .ref za), (1, .ref zb), (0, .ref b)]) hx hb dL_law_2172 hl (by decide) rfl (fun ls hl => ?_)
  refine lv_aload_n hx hb dL_law_2174 rfl (lv_at hl 4 rfl) ?_
  refine fb_gO (cs := [fb_o12 za zr (upd (upd fr_e0 19 (0 : Int32)) 19 (1 : Int32))]) (rs := [fb_jw cJ zx 1 zg]) X I [1, 0] 2 rfl (by decide +kernel) rfl rfl (fun I => fb_rV (As := []) (rest := []) X hl (fb_goodV fw_2119 fw_2120 fw_2121 fw_204 fw_2122) (c_thrown l D cI cJ za zr (upd (upd fr_e0 19 (0 : Int32)) 19 (1 : Int32)) _ ) rfl rfl rfl (by decide +kernel : fb_hd yX12_thrown 0) ⟨Nat.le_of_ble_eq_true rfl, Nat.le_of_ble_eq_true rfl⟩ rfl rfl rfl rfl rfl (Nat.le_of_ble_eq_true rfl) ⟨Nat.le_of_ble_eq_true rfl, Nat.le_of_ble_eq_true rfl⟩ dL_law_2175 I) ?_
  refine fb_tI (v := (1 : Int32)) rfl ?_
  refine lv_iload hx hb dL_law_2178 (lv_at hl 1 rfl) ?_
  refine lv_icmp_eq (tgt := 2185) hx hb dL_law_2180 (by decide) (fun _ => ?_) (fun c5 => absurd rfl c5)
  refine lv_iload hx hb dL_law_2185 (lv_at hl 1 rfl) ?_
  refine lv_if_ne (tgt := 2202) hx hb dL_law_2187 (by decide) (fun _ => ?_) (fun c6 => absurd c6 (by decide))
  refine lv_goto (tgt := 2336) hx hb dL_law_2202 (by decide) ?_
  exact lw_end X hX hbl hbA (by omega) I (lv_sub hl [2, 6] rfl) (Nat.le_of_ble_eq_true rfl) (Nat.le_of_ble_eq_true rfl)

set_option maxHeartbeats 4000000 in
set_option maxRecDepth 100000 in
theorem lc_52_b {p : Program} {l : Launch} {e : Env} {s : State} {m : MethodId} {below : List Frame} {meth : Method} {c : Code} {H : Heap} {locs : List Loc} {ls : Array Slot} {D : va_G} {cI cJ : ClassId} {b L : Nat} {xs : Nat → Int32} {zb : Nat} {zt : Nat} {zn : Nat} {zv : Nat} {zs : Nat} {zp : Nat} {zq : Nat → Nat} {zu : Nat → Nat} {zh : Nat} {zst : Nat} {zre : Nat} {zx : Nat} {zg : Nat → Int64} {za : Nat} {zr : Nat → Nat} {zj : Nat} (hst : l.stackTraces = false) (X : fb_Bx p s m #[Value.ref b] meth c cL_law RL 9 (some .boolean) D (fb_ty D cI cJ) (fun q : Nat => s.heap.size ≤ q)) (hX : va_X b L xs s s.heap) (hbl : b < s.heap.size) (hbA : ¬ (fun q : Nat => s.heap.size ≤ q) b) (hL6 : L = 6) (hz : xs 1 = nI zj) (hj : zj < 4096) (gA0 : f_X11_isNoAddress (nI zj) = (0 : Int32)) (gA : f_X11_isNoSpan (xs 2) = (1 : Int32)) (q1 : f_X12_isIn (xs 2) (1 : Int32) (5000 : Int32) = (0 : Int32)) (I : fb_In D (fun q : Nat => s.heap.size ≤ q) s.heap (([fb_o11 zb zt zn zv zs zp (zq 0) (zu 0) zh zst zre, fb_jw cJ zx 1 zg, fb_o12 za zr fr_e0] : List va_W).flatten) H locs) (hl : lv_has ls 9 [(4, .int (0 : Int32)), (3, .ref zx), (2, .ref za), (1, .ref zb), (0, .ref b)]) : W p l e room_1 s m #[Value.ref b] below meth c H locs 209 179241 (lw_Z below #[Value.ref b] s) (F0 m 2137 ls []) := by
  obtain ⟨hx, hb, hr, hml, hown, hts, hlk, hA, hK, hF⟩ := id X
  refine lv_aload_n hx hb dL_law_2137 rfl (lv_at hl 3 rfl) ?_
  refine lv_aload_n hx hb dL_law_2138 rfl (lv_at hl 4 rfl) ?_
  refine lv_iload hx hb dL_law_2139 (lv_at hl 0 rfl) ?_
  refine lv_iconst (v := (1 : Int32)) hx hb dL_law_2141 (by decide) ?_
  refine lv_iadd hx hb dL_law_2142 ?_
  refine fb_tI (v := (1 : Int32)) (by decide) ?_
  refine va_sld (i := (1 : Int32)) hx hb hX hbl hbA I.2.2 (fb_inC (n := 1) (by decide) (by decide) (by omega)) dL_law_2143 ?_
  refine fb_tI (v := (xs 1)) rfl ?_
  refine fb_tI (v := (nI zj)) hz ?_
  refine lv_aload_n hx hb dL_law_2144 rfl (lv_at hl 4 rfl) ?_
  refine lv_iload hx hb dL_law_2145 (lv_at hl 0 rfl) ?_
  refine lv_iconst (v := (2 : Int32)) hx hb dL_law_2147 (by decide) ?_
  refine lv_iadd hx hb dL_law_2148 ?_
  refine fb_tI (v := (2 : Int32)) (by decide) ?_
  refine va_sld (i := (2 : Int32)) hx hb hX hbl hbA I.2.2 (fb_inC (n := 2) (by decide) (by decide) (by omega)) dL_law_2149 ?_
  refine fb_tI (v := (xs 2)) rfl ?_
  refine lv_aload_n hx hb dL_law_2150 rfl (lv_at hl 1 rfl) ?_
  refine fb_gI (cs := [fb_o11 zb zt zn zv zs zp (zq 0) (zu 0) zh zst zre, fb_jw cJ zx 1 zg]) (rs := [fb_o12 za zr fr_e0]) (fun (t : Unit) => [fb_jw cJ zx 1 zg, fb_o12 za zr fr_e0]) (fun (t : Unit) => [fb_jw cJ zx 1 zg]) X I [0, 1, 2] 3 rfl (by decide +kernel) rfl rfl [0, 1] 2 (fun _ => rfl) (by decide +kernel) (fun _ => rfl) (fun _ => rfl) (fun I => fb_rSW (As := [.ref zb, .int (nI zj), .int (xs 2), .ref zx]) (rest := []) X hl (fb_goodSW fw_1915 fw_1916 fw_190 fw_1917) (c_w_writesIn_b l D cI cJ zb zt zn zv zs zp zq zu zh zst zre zx zg (nI zj) (xs 2) _ hst gA0 gA) rfl rfl (by decide +kernel : fb_hd yL_writesIn 4) ⟨Nat.le_of_ble_eq_true rfl, Nat.le_of_ble_eq_true rfl⟩ rfl rfl (Nat.le_of_ble_eq_true rfl) ⟨Nat.le_of_ble_eq_true rfl, Nat.le_of_ble_eq_true rfl⟩ dL_law_2151 I) ?_
  intro r2 w1 H locs e0 I
  subst e0
  have I : fb_In D (fun q : Nat => s.heap.size ≤ q) s.heap (([fb_jw cJ zx 1 zg, fb_o12 za zr fr_e0] : List va_W).flatten) H locs := I
  refine lv_istore (lv' := [(5, .int (1 : Int32)), (4, .int (0 : Int32)), (3, .ref zx), (2, .ref za), (1, .ref zb), (0, .ref b)]) hx hb dL_law_2154 hl (by decide) rfl (fun ls hl => ?_)
  refine lv_aload_n hx hb dL_law_2156 rfl (lv_at hl 3 rfl) ?_
  refine lv_aload_n hx hb dL_law_2157 rfl (lv_at hl 5 rfl) ?_
  refine lv_iload hx hb dL_law_2158 (lv_at hl 1 rfl) ?_
  refine lv_iconst (v := (1 : Int32)) hx hb dL_law_2160 (by decide) ?_
  refine lv_iadd hx hb dL_law_2161 ?_
  refine fb_tI (v := (1 : Int32)) (by decide) ?_
  refine va_sld (i := (1 : Int32)) hx hb hX hbl hbA I.2.2 (fb_inC (n := 1) (by decide) (by decide) (by omega)) dL_law_2162 ?_
  refine fb_tI (v := (xs 1)) rfl ?_
  refine fb_tI (v := (nI zj)) hz ?_
  refine lv_aload_n hx hb dL_law_2163 rfl (lv_at hl 5 rfl) ?_
  refine lv_iload hx hb dL_law_2164 (lv_at hl 1 rfl) ?_
  refine lv_iconst (v := (2 : Int32)) hx hb dL_law_2166 (by decide) ?_
  refine lv_iadd hx hb dL_law_2167 ?_
  refine fb_tI (v := (2 : Int32)) (by decide) ?_
  refine va_sld (i := (2 : Int32)) hx hb hX hbl hbA I.2.2 (fb_inC (n := 2) (by decide) (by decide) (by omega)) dL_law_2168 ?_
  refine fb_tI (v := (xs 2)) rfl ?_
  refine fb_gI (cs := [fb_o12 za zr fr_e0]) (rs := [fb_jw cJ zx 1 zg]) (fun (t : Unit) => [fb_jw cJ zx 1 zg, fb_o12 za zr (upd (upd fr_e0 19 (0 : Int32)) 19 (1 : Int32))]) (fun (t : Unit) => [fb_o12 za zr (upd (upd fr_e0 19 (0 : Int32)) 19 (1 : Int32))]) X I [1, 0] 2 rfl (by decide +kernel) rfl rfl [1, 0] 2 (fun _ => rfl) (by decide +kernel) (fun _ => rfl) (fun _ => rfl) (fun I => fb_rV (As := [.int (nI zj), .int (xs 2)]) (rest := []) X hl (fb_goodV fw_2759 fw_2760 fw_2761 fw_204 fw_2762) (c_writesIn_bad l D cI cJ za zr zj (xs 2) _ (by omega) q1) rfl rfl rfl (by decide +kernel : fb_hd yX12_writesIn 2) ⟨Nat.le_of_ble_eq_true rfl, Nat.le_of_ble_eq_true rfl⟩ rfl rfl rfl rfl rfl (Nat.le_of_ble_eq_true rfl) ⟨Nat.le_of_ble_eq_true rfl, Nat.le_of_ble_eq_true rfl⟩ dL_law_2169 I) ?_
  intro r4 w3 H locs e0 I
  subst e0
  have I : fb_In D (fun q : Nat => s.heap.size ≤ q) s.heap (([fb_jw cJ zx 1 zg, fb_o12 za zr (upd (upd fr_e0 19 (0 : Int32)) 19 (1 : Int32))] : List va_W).flatten) H locs := I
  refine lv_istore (lv' := [(6, .int (0 : Int32)), (5, .int (1 : Int32)), (4, .int (0 : Int32)), (3, .ref zx), (2, .ref za), (1, .ref zb), (0, .ref b)]) hx hb dL_law_2172 hl (by decide) rfl (fun ls hl => ?_)
  refine lv_aload_n hx hb dL_law_2174 rfl (lv_at hl 4 rfl) ?_
  refine fb_gO (cs := [fb_o12 za zr (upd (upd fr_e0 19 (0 : Int32)) 19 (1 : Int32))]) (rs := [fb_jw cJ zx 1 zg]) X I [1, 0] 2 rfl (by decide +kernel) rfl rfl (fun I => fb_rV (As := []) (rest := []) X hl (fb_goodV fw_2119 fw_2120 fw_2121 fw_204 fw_2122) (c_thrown l D cI cJ za zr (upd (upd fr_e0 19 (0 : Int32)) 19 (1 : Int32)) _ ) rfl rfl rfl (by decide +kernel : fb_hd yX12_thrown 0) ⟨Nat.le_of_ble_eq_true rfl, Nat.le_of_ble_eq_true rfl⟩ rfl rfl rfl rfl rfl (Nat.le_of_ble_eq_true rfl) ⟨Nat.le_of_ble_eq_true rfl, Nat.le_of_ble_eq_true rfl⟩ dL_law_2175 I) ?_
  refine fb_tI (v := (1 : Int32)) rfl ?_
  refine lv_iload hx hb dL_law_2178 (lv_at hl 1 rfl) ?_
  refine lv_icmp_eq (tgt := 2185) hx hb dL_law_2180 (by decide) (fun _ => ?_) (fun c5 => absurd rfl c5)
  refine lv_iload hx hb dL_law_2185 (lv_at hl 1 rfl) ?_
  refine lv_if_ne (tgt := 2202) hx hb dL_law_2187 (by decide) (fun _ => ?_) (fun c6 => absurd c6 (by decide))
  refine lv_goto (tgt := 2336) hx hb dL_law_2202 (by decide) ?_
  exact lw_end X hX hbl hbA (by omega) I (lv_sub hl [2, 6] rfl) (Nat.le_of_ble_eq_true rfl) (Nat.le_of_ble_eq_true rfl)

set_option maxHeartbeats 4000000 in
set_option maxRecDepth 100000 in
theorem lc_50_y {p : Program} {l : Launch} {e : Env} {s : State} {m : MethodId} {below : List Frame} {meth : Method} {c : Code} {H : Heap} {locs : List Loc} {ls : Array Slot} {D : va_G} {cI cJ : ClassId} {b L : Nat} {xs : Nat → Int32} {zb : Nat} {zt : Nat} {zn : Nat} {zv : Nat} {zs : Nat} {zp : Nat} {zq : Nat → Nat} {zu : Nat → Nat} {zh : Nat} {zst : Nat} {zre : Nat} {zw : fb_AR} {zx : Nat} {zg : Nat → Int64} {za : Nat} {zr : Nat → Nat} {zj : Nat} {zN : Nat} (hst : l.stackTraces = false) (X : fb_Bx p s m #[Value.ref b] meth c cL_law RL 9 (some .boolean) D (fb_ty D cI cJ) (fun q : Nat => s.heap.size ≤ q)) (hX : va_X b L xs s s.heap) (hbl : b < s.heap.size) (hbA : ¬ (fun q : Nat => s.heap.size ≤ q) b) (hL6 : L = 6) (hz : xs 1 = nI zj) (hn : xs 2 = nI zN) (hj : zj < 4096) (hN : 1 ≤ zN ∧ zN ≤ 5000) (hz9 : zj ≤ zN) (I : fb_In D (fun q : Nat => s.heap.size ≤ q) s.heap (([fb_o11 zb zt zn zv zs zp (zq 0) (zu 0) zh zst zre, fb_mw cI zq fb_s0 zw, fb_mw cI zu fb_m0 (fun _ => 0), fb_jw cJ zx 1 zg, fb_o12 za zr fr_e0, fb_aw cI (zr 0) 16205 (fr_m (fun _ => 0) 0)] : List va_W).flatten) H locs) (hl : lv_has ls 9 [(4, .int (0 : Int32)), (3, .ref zx), (2, .ref za), (1, .ref zb), (0, .ref b)]) : W p l e room_1 s m #[Value.ref b] below meth c H locs 209 179241 (lw_Z below #[Value.ref b] s) (F0 m 2013 ls []) := by
  obtain ⟨hx, hb, hr, hml, hown, hts, hlk, hA, hK, hF⟩ := id X
  refine lv_aload_n hx hb dL_law_2013 rfl (lv_at hl 3 rfl) ?_
  refine lv_aload_n hx hb dL_law_2014 rfl (lv_at hl 4 rfl) ?_
  refine lv_iload hx hb dL_law_2015 (lv_at hl 0 rfl) ?_
  refine lv_iconst (v := (1 : Int32)) hx hb dL_law_2017 (by decide) ?_
  refine lv_iadd hx hb dL_law_2018 ?_
  refine fb_tI (v := (1 : Int32)) (by decide) ?_
  refine va_sld (i := (1 : Int32)) hx hb hX hbl hbA I.2.2 (fb_inC (n := 1) (by decide) (by decide) (by omega)) dL_law_2019 ?_
  refine fb_tI (v := (xs 1)) rfl ?_
  refine fb_tI (v := (nI zj)) hz ?_
  refine lv_aload_n hx hb dL_law_2020 rfl (lv_at hl 4 rfl) ?_
  refine lv_iload hx hb dL_law_2021 (lv_at hl 0 rfl) ?_
  refine lv_iconst (v := (2 : Int32)) hx hb dL_law_2023 (by decide) ?_
  refine lv_iadd hx hb dL_law_2024 ?_
  refine fb_tI (v := (2 : Int32)) (by decide) ?_
  refine va_sld (i := (2 : Int32)) hx hb hX hbl hbA I.2.2 (fb_inC (n := 2) (by decide) (by decide) (by omega)) dL_law_2025 ?_
  refine fb_tI (v := (xs 2)) rfl ?_
  refine fb_tI (v := (nI zN)) hn ?_
  refine lv_aload_n hx hb dL_law_2026 rfl (lv_at hl 1 rfl) ?_
  refine fb_gI (cs := [fb_o11 zb zt zn zv zs zp (zq 0) (zu 0) zh zst zre, fb_mw cI zq fb_s0 zw, fb_mw cI zu fb_m0 (fun _ => 0), fb_jw cJ zx 1 zg]) (rs := [fb_o12 za zr fr_e0, fb_aw cI (zr 0) 16205 (fr_m (fun _ => 0) 0)]) (fun (t : Unit) => [fb_jw cJ zx 1 (vp_updL zg 0 (((nI zj)).toInt64)), fb_o12 za zr fr_e0, fb_aw cI (zr 0) 16205 (fr_m (fun _ => 0) 0)]) (fun (t : Unit) => [fb_jw cJ zx 1 (vp_updL zg 0 (((nI zj)).toInt64))]) X I [0, 1, 2, 3, 4, 5] 6 rfl (by decide +kernel) rfl rfl [0, 1, 2] 3 (fun _ => rfl) (by decide +kernel) (fun _ => rfl) (fun _ => rfl) (fun I => fb_rSW (As := [.ref zb, .int (nI zj), .int (nI zN), .ref zx]) (rest := []) X hl (fb_goodSW fw_1896 fw_1897 fw_190 fw_1898) (c_w_cyclesToReach_y l D cI cJ zb zt zn zv zs zp zq zu zh zst zre zw zx zg zj zN _ hst (by omega) (by omega) (by omega)) rfl rfl (by decide +kernel : fb_hd yL_cyclesToReach 4) ⟨Nat.le_of_ble_eq_true rfl, Nat.le_of_ble_eq_true rfl⟩ rfl rfl (Nat.le_of_ble_eq_true rfl) ⟨Nat.le_of_ble_eq_true rfl, Nat.le_of_ble_eq_true rfl⟩ dL_law_2027 I) ?_
  intro r2 w1 H locs e0 I
  subst e0
  have I : fb_In D (fun q : Nat => s.heap.size ≤ q) s.heap (([fb_jw cJ zx 1 (vp_updL zg 0 (((nI zj)).toInt64)), fb_o12 za zr fr_e0, fb_aw cI (zr 0) 16205 (fr_m (fun _ => 0) 0)] : List va_W).flatten) H locs := I
  refine lv_istore (lv' := [(5, .int (0 : Int32)), (4, .int (0 : Int32)), (3, .ref zx), (2, .ref za), (1, .ref zb), (0, .ref b)]) hx hb dL_law_2030 hl (by decide) rfl (fun ls hl => ?_)
  refine lv_aload_n hx hb dL_law_2032 rfl (lv_at hl 3 rfl) ?_
  refine lv_aload_n hx hb dL_law_2033 rfl (lv_at hl 5 rfl) ?_
  refine lv_iload hx hb dL_law_2034 (lv_at hl 1 rfl) ?_
  refine lv_iconst (v := (1 : Int32)) hx hb dL_law_2036 (by decide) ?_
  refine lv_iadd hx hb dL_law_2037 ?_
  refine fb_tI (v := (1 : Int32)) (by decide) ?_
  refine va_sld (i := (1 : Int32)) hx hb hX hbl hbA I.2.2 (fb_inC (n := 1) (by decide) (by decide) (by omega)) dL_law_2038 ?_
  refine fb_tI (v := (xs 1)) rfl ?_
  refine fb_tI (v := (nI zj)) hz ?_
  refine lv_aload_n hx hb dL_law_2039 rfl (lv_at hl 5 rfl) ?_
  refine lv_iload hx hb dL_law_2040 (lv_at hl 1 rfl) ?_
  refine lv_iconst (v := (2 : Int32)) hx hb dL_law_2042 (by decide) ?_
  refine lv_iadd hx hb dL_law_2043 ?_
  refine fb_tI (v := (2 : Int32)) (by decide) ?_
  refine va_sld (i := (2 : Int32)) hx hb hX hbl hbA I.2.2 (fb_inC (n := 2) (by decide) (by decide) (by omega)) dL_law_2044 ?_
  refine fb_tI (v := (xs 2)) rfl ?_
  refine fb_tI (v := (nI zN)) hn ?_
  refine fb_gI (cs := [fb_o12 za zr fr_e0, fb_aw cI (zr 0) 16205 (fr_m (fun _ => 0) 0)]) (rs := [fb_jw cJ zx 1 (vp_updL zg 0 (((nI zj)).toInt64))]) (fun (t : Nat × Nat × fb_AR × fb_AR) => [fb_jw cJ zx 1 (vp_updL zg 0 (((nI zj)).toInt64)), fb_o12 za (va_up (va_up zr 0 (t.1)) 0 (t.2.1)) (t.2.2.1), fb_aw cI (t.1) 16205 (fr_m (t.2.2.2) zj), fb_aw cI (t.2.1) 16205 (fr_m (fun _ => 0) 0)]) (fun (t : Nat × Nat × fb_AR × fb_AR) => [fb_o12 za (va_up (va_up zr 0 (t.1)) 0 (t.2.1)) (t.2.2.1), fb_aw cI (t.1) 16205 (fr_m (t.2.2.2) zj), fb_aw cI (t.2.1) 16205 (fr_m (fun _ => 0) 0)]) X I [1, 2, 0] 3 rfl (by decide +kernel) rfl rfl [1, 2, 3, 0] 4 (fun _ => rfl) (by decide +kernel) (fun _ => rfl) (fun _ => rfl) (fun I => fb_rV (As := [.int (nI zj), .int (nI zN)]) (rest := []) X hl (fb_goodV fw_2743 fw_2744 fw_2745 fw_204 fw_2746) (c_cyclesToReach_y l D cI cJ za zr zj zN _ (by omega) (by omega) (by omega)) rfl rfl rfl (by decide +kernel : fb_hd yX12_cyclesToReach 2) ⟨Nat.le_of_ble_eq_true rfl, Nat.le_of_ble_eq_true rfl⟩ rfl rfl rfl rfl rfl (Nat.le_of_ble_eq_true rfl) ⟨Nat.le_of_ble_eq_true rfl, Nat.le_of_ble_eq_true rfl⟩ dL_law_2045 I) ?_
  intro r4 w3 H locs e0 I
  obtain ⟨e9, e0⟩ := e0
  subst e9
  obtain ⟨w3_0, w3_1, w3_2, w3_3⟩ := w3
  have p5 : w3_2 19 = (0 : Int32) := e0
  have I : fb_In D (fun q : Nat => s.heap.size ≤ q) s.heap (([fb_jw cJ zx 1 (vp_updL zg 0 (((nI zj)).toInt64)), fb_o12 za (va_up (va_up zr 0 w3_0) 0 w3_1) w3_2, fb_aw cI w3_0 16205 (fr_m w3_3 zj), fb_aw cI w3_1 16205 (fr_m (fun _ => 0) 0)] : List va_W).flatten) H locs := I
  refine lv_istore (lv' := [(6, .int (nI zj)), (5, .int (0 : Int32)), (4, .int (0 : Int32)), (3, .ref zx), (2, .ref za), (1, .ref zb), (0, .ref b)]) hx hb dL_law_2048 hl (by decide) rfl (fun ls hl => ?_)
  refine lv_aload_n hx hb dL_law_2050 rfl (lv_at hl 4 rfl) ?_
  refine fb_gO (cs := [fb_o12 za (va_up (va_up zr 0 w3_0) 0 w3_1) w3_2]) (rs := [fb_jw cJ zx 1 (vp_updL zg 0 (((nI zj)).toInt64)), fb_aw cI w3_0 16205 (fr_m w3_3 zj), fb_aw cI w3_1 16205 (fr_m (fun _ => 0) 0)]) X I [1, 0, 2, 3] 4 rfl (by decide +kernel) rfl rfl (fun I => fb_rV (As := []) (rest := []) X hl (fb_goodV fw_2119 fw_2120 fw_2121 fw_204 fw_2122) (c_thrown l D cI cJ za (va_up (va_up zr 0 w3_0) 0 w3_1) w3_2 _ ) rfl rfl rfl (by decide +kernel : fb_hd yX12_thrown 0) ⟨Nat.le_of_ble_eq_true rfl, Nat.le_of_ble_eq_true rfl⟩ rfl rfl rfl rfl rfl (Nat.le_of_ble_eq_true rfl) ⟨Nat.le_of_ble_eq_true rfl, Nat.le_of_ble_eq_true rfl⟩ dL_law_2051 I) ?_
  refine fb_tI (v := (0 : Int32)) p5 ?_
  refine lv_iload hx hb dL_law_2054 (lv_at hl 1 rfl) ?_
  refine lv_icmp_eq (tgt := 2061) hx hb dL_law_2056 (by decide) (fun _ => ?_) (fun c6 => absurd rfl c6)
  refine lv_iload hx hb dL_law_2061 (lv_at hl 1 rfl) ?_
  refine lv_if_ne (tgt := 2078) hx hb dL_law_2063 (by decide) (fun c7 => absurd (by decide) c7) (fun _ => ?_)
  refine lv_aload_n hx hb dL_law_2066 rfl (lv_at hl 3 rfl) ?_
  refine lv_iconst (v := (0 : Int32)) hx hb dL_law_2067 (by decide) ?_
  refine va_lald (i := (0 : Int32)) hx hb hK.1 I.1 0 1 rfl rfl (fb_inC (n := 0) (by decide) (by decide) (Nat.le_of_ble_eq_true rfl)) dL_law_2068 ?_
  refine fb_tL (v := (((nI zj)).toInt64)) rfl ?_
  refine lv_iload hx hb dL_law_2069 (lv_at hl 0 rfl) ?_
  refine lv_i2l (v := (((nI zj)).toInt64)) hx hb dL_law_2071 rfl ?_
  refine W.lcmp hx hb dL_law_2072 ?_
  refine fb_tI (v := (0 : Int32)) (lw_cmp0 _) ?_
  refine lv_if_eq (tgt := 2078) hx hb dL_law_2073 (by decide) (fun _ => ?_) (fun c8 => absurd (by decide) c8)
  refine lv_goto (tgt := 2336) hx hb dL_law_2078 (by decide) ?_
  exact lw_end X hX hbl hbA (by omega) I (lv_sub hl [2, 6] rfl) (Nat.le_of_ble_eq_true rfl) (Nat.le_of_ble_eq_true rfl)

set_option maxHeartbeats 4000000 in
set_option maxRecDepth 100000 in
theorem lc_50_n {p : Program} {l : Launch} {e : Env} {s : State} {m : MethodId} {below : List Frame} {meth : Method} {c : Code} {H : Heap} {locs : List Loc} {ls : Array Slot} {D : va_G} {cI cJ : ClassId} {b L : Nat} {xs : Nat → Int32} {zb : Nat} {zt : Nat} {zn : Nat} {zv : Nat} {zs : Nat} {zp : Nat} {zq : Nat → Nat} {zu : Nat → Nat} {zh : Nat} {zst : Nat} {zre : Nat} {zw : fb_AR} {zx : Nat} {zg : Nat → Int64} {za : Nat} {zr : Nat → Nat} {zj : Nat} {zN : Nat} (hst : l.stackTraces = false) (X : fb_Bx p s m #[Value.ref b] meth c cL_law RL 9 (some .boolean) D (fb_ty D cI cJ) (fun q : Nat => s.heap.size ≤ q)) (hX : va_X b L xs s s.heap) (hbl : b < s.heap.size) (hbA : ¬ (fun q : Nat => s.heap.size ≤ q) b) (hL6 : L = 6) (hz : xs 1 = nI zj) (hn : xs 2 = nI zN) (hj : zj < 4096) (hN : 1 ≤ zN ∧ zN ≤ 5000) (hz9 : zN < zj) (I : fb_In D (fun q : Nat => s.heap.size ≤ q) s.heap (([fb_o11 zb zt zn zv zs zp (zq 0) (zu 0) zh zst zre, fb_mw cI zq fb_s0 zw, fb_mw cI zu fb_m0 (fun _ => 0), fb_jw cJ zx 1 zg, fb_o12 za zr fr_e0, fb_aw cI (zr 0) 16205 (fr_m (fun _ => 0) 0)] : List va_W).flatten) H locs) (hl : lv_has ls 9 [(4, .int (0 : Int32)), (3, .ref zx), (2, .ref za), (1, .ref zb), (0, .ref b)]) : W p l e room_1 s m #[Value.ref b] below meth c H locs 209 179241 (lw_Z below #[Value.ref b] s) (F0 m 2013 ls []) := by
  obtain ⟨hx, hb, hr, hml, hown, hts, hlk, hA, hK, hF⟩ := id X
  refine lv_aload_n hx hb dL_law_2013 rfl (lv_at hl 3 rfl) ?_
  refine lv_aload_n hx hb dL_law_2014 rfl (lv_at hl 4 rfl) ?_
  refine lv_iload hx hb dL_law_2015 (lv_at hl 0 rfl) ?_
  refine lv_iconst (v := (1 : Int32)) hx hb dL_law_2017 (by decide) ?_
  refine lv_iadd hx hb dL_law_2018 ?_
  refine fb_tI (v := (1 : Int32)) (by decide) ?_
  refine va_sld (i := (1 : Int32)) hx hb hX hbl hbA I.2.2 (fb_inC (n := 1) (by decide) (by decide) (by omega)) dL_law_2019 ?_
  refine fb_tI (v := (xs 1)) rfl ?_
  refine fb_tI (v := (nI zj)) hz ?_
  refine lv_aload_n hx hb dL_law_2020 rfl (lv_at hl 4 rfl) ?_
  refine lv_iload hx hb dL_law_2021 (lv_at hl 0 rfl) ?_
  refine lv_iconst (v := (2 : Int32)) hx hb dL_law_2023 (by decide) ?_
  refine lv_iadd hx hb dL_law_2024 ?_
  refine fb_tI (v := (2 : Int32)) (by decide) ?_
  refine va_sld (i := (2 : Int32)) hx hb hX hbl hbA I.2.2 (fb_inC (n := 2) (by decide) (by decide) (by omega)) dL_law_2025 ?_
  refine fb_tI (v := (xs 2)) rfl ?_
  refine fb_tI (v := (nI zN)) hn ?_
  refine lv_aload_n hx hb dL_law_2026 rfl (lv_at hl 1 rfl) ?_
  refine fb_gI (cs := [fb_o11 zb zt zn zv zs zp (zq 0) (zu 0) zh zst zre, fb_mw cI zq fb_s0 zw, fb_mw cI zu fb_m0 (fun _ => 0), fb_jw cJ zx 1 zg]) (rs := [fb_o12 za zr fr_e0, fb_aw cI (zr 0) 16205 (fr_m (fun _ => 0) 0)]) (fun (t : Unit) => [fb_jw cJ zx 1 (vp_updL zg 0 (((-1 : Int32)).toInt64)), fb_o12 za zr fr_e0, fb_aw cI (zr 0) 16205 (fr_m (fun _ => 0) 0)]) (fun (t : Unit) => [fb_jw cJ zx 1 (vp_updL zg 0 (((-1 : Int32)).toInt64))]) X I [0, 1, 2, 3, 4, 5] 6 rfl (by decide +kernel) rfl rfl [0, 1, 2] 3 (fun _ => rfl) (by decide +kernel) (fun _ => rfl) (fun _ => rfl) (fun I => fb_rSW (As := [.ref zb, .int (nI zj), .int (nI zN), .ref zx]) (rest := []) X hl (fb_goodSW fw_1896 fw_1897 fw_190 fw_1898) (c_w_cyclesToReach_n l D cI cJ zb zt zn zv zs zp zq zu zh zst zre zw zx zg zj zN _ hst (by omega) (by omega) (by omega)) rfl rfl (by decide +kernel : fb_hd yL_cyclesToReach 4) ⟨Nat.le_of_ble_eq_true rfl, Nat.le_of_ble_eq_true rfl⟩ rfl rfl (Nat.le_of_ble_eq_true rfl) ⟨Nat.le_of_ble_eq_true rfl, Nat.le_of_ble_eq_true rfl⟩ dL_law_2027 I) ?_
  intro r2 w1 H locs e0 I
  subst e0
  have I : fb_In D (fun q : Nat => s.heap.size ≤ q) s.heap (([fb_jw cJ zx 1 (vp_updL zg 0 (((-1 : Int32)).toInt64)), fb_o12 za zr fr_e0, fb_aw cI (zr 0) 16205 (fr_m (fun _ => 0) 0)] : List va_W).flatten) H locs := I
  refine lv_istore (lv' := [(5, .int (0 : Int32)), (4, .int (0 : Int32)), (3, .ref zx), (2, .ref za), (1, .ref zb), (0, .ref b)]) hx hb dL_law_2030 hl (by decide) rfl (fun ls hl => ?_)
  refine lv_aload_n hx hb dL_law_2032 rfl (lv_at hl 3 rfl) ?_
  refine lv_aload_n hx hb dL_law_2033 rfl (lv_at hl 5 rfl) ?_
  refine lv_iload hx hb dL_law_2034 (lv_at hl 1 rfl) ?_
  refine lv_iconst (v := (1 : Int32)) hx hb dL_law_2036 (by decide) ?_
  refine lv_iadd hx hb dL_law_2037 ?_
  refine fb_tI (v := (1 : Int32)) (by decide) ?_
  refine va_sld (i := (1 : Int32)) hx hb hX hbl hbA I.2.2 (fb_inC (n := 1) (by decide) (by decide) (by omega)) dL_law_2038 ?_
  refine fb_tI (v := (xs 1)) rfl ?_
  refine fb_tI (v := (nI zj)) hz ?_
  refine lv_aload_n hx hb dL_law_2039 rfl (lv_at hl 5 rfl) ?_
  refine lv_iload hx hb dL_law_2040 (lv_at hl 1 rfl) ?_
  refine lv_iconst (v := (2 : Int32)) hx hb dL_law_2042 (by decide) ?_
  refine lv_iadd hx hb dL_law_2043 ?_
  refine fb_tI (v := (2 : Int32)) (by decide) ?_
  refine va_sld (i := (2 : Int32)) hx hb hX hbl hbA I.2.2 (fb_inC (n := 2) (by decide) (by decide) (by omega)) dL_law_2044 ?_
  refine fb_tI (v := (xs 2)) rfl ?_
  refine fb_tI (v := (nI zN)) hn ?_
  refine fb_gI (cs := [fb_o12 za zr fr_e0, fb_aw cI (zr 0) 16205 (fr_m (fun _ => 0) 0)]) (rs := [fb_jw cJ zx 1 (vp_updL zg 0 (((-1 : Int32)).toInt64))]) (fun (t : Nat × Nat × fb_AR × fb_AR) => [fb_jw cJ zx 1 (vp_updL zg 0 (((-1 : Int32)).toInt64)), fb_o12 za (va_up (va_up zr 0 (t.1)) 0 (t.2.1)) (t.2.2.1), fb_aw cI (t.1) 16205 (fr_m (t.2.2.2) zN), fb_aw cI (t.2.1) 16205 (fr_m (fun _ => 0) 0)]) (fun (t : Nat × Nat × fb_AR × fb_AR) => [fb_o12 za (va_up (va_up zr 0 (t.1)) 0 (t.2.1)) (t.2.2.1), fb_aw cI (t.1) 16205 (fr_m (t.2.2.2) zN), fb_aw cI (t.2.1) 16205 (fr_m (fun _ => 0) 0)]) X I [1, 2, 0] 3 rfl (by decide +kernel) rfl rfl [1, 2, 3, 0] 4 (fun _ => rfl) (by decide +kernel) (fun _ => rfl) (fun _ => rfl) (fun I => fb_rV (As := [.int (nI zj), .int (nI zN)]) (rest := []) X hl (fb_goodV fw_2743 fw_2744 fw_2745 fw_204 fw_2746) (c_cyclesToReach_n l D cI cJ za zr zj zN _ (by omega) (by omega) (by omega)) rfl rfl rfl (by decide +kernel : fb_hd yX12_cyclesToReach 2) ⟨Nat.le_of_ble_eq_true rfl, Nat.le_of_ble_eq_true rfl⟩ rfl rfl rfl rfl rfl (Nat.le_of_ble_eq_true rfl) ⟨Nat.le_of_ble_eq_true rfl, Nat.le_of_ble_eq_true rfl⟩ dL_law_2045 I) ?_
  intro r4 w3 H locs e0 I
  obtain ⟨e9, e0⟩ := e0
  subst e9
  obtain ⟨w3_0, w3_1, w3_2, w3_3⟩ := w3
  have p5 : w3_2 19 = (0 : Int32) := e0
  have I : fb_In D (fun q : Nat => s.heap.size ≤ q) s.heap (([fb_jw cJ zx 1 (vp_updL zg 0 (((-1 : Int32)).toInt64)), fb_o12 za (va_up (va_up zr 0 w3_0) 0 w3_1) w3_2, fb_aw cI w3_0 16205 (fr_m w3_3 zN), fb_aw cI w3_1 16205 (fr_m (fun _ => 0) 0)] : List va_W).flatten) H locs := I
  refine lv_istore (lv' := [(6, .int (-1 : Int32)), (5, .int (0 : Int32)), (4, .int (0 : Int32)), (3, .ref zx), (2, .ref za), (1, .ref zb), (0, .ref b)]) hx hb dL_law_2048 hl (by decide) rfl (fun ls hl => ?_)
  refine lv_aload_n hx hb dL_law_2050 rfl (lv_at hl 4 rfl) ?_
  refine fb_gO (cs := [fb_o12 za (va_up (va_up zr 0 w3_0) 0 w3_1) w3_2]) (rs := [fb_jw cJ zx 1 (vp_updL zg 0 (((-1 : Int32)).toInt64)), fb_aw cI w3_0 16205 (fr_m w3_3 zN), fb_aw cI w3_1 16205 (fr_m (fun _ => 0) 0)]) X I [1, 0, 2, 3] 4 rfl (by decide +kernel) rfl rfl (fun I => fb_rV (As := []) (rest := []) X hl (fb_goodV fw_2119 fw_2120 fw_2121 fw_204 fw_2122) (c_thrown l D cI cJ za (va_up (va_up zr 0 w3_0) 0 w3_1) w3_2 _ ) rfl rfl rfl (by decide +kernel : fb_hd yX12_thrown 0) ⟨Nat.le_of_ble_eq_true rfl, Nat.le_of_ble_eq_true rfl⟩ rfl rfl rfl rfl rfl (Nat.le_of_ble_eq_true rfl) ⟨Nat.le_of_ble_eq_true rfl, Nat.le_of_ble_eq_true rfl⟩ dL_law_2051 I) ?_
  refine fb_tI (v := (0 : Int32)) p5 ?_
  refine lv_iload hx hb dL_law_2054 (lv_at hl 1 rfl) ?_
  refine lv_icmp_eq (tgt := 2061) hx hb dL_law_2056 (by decide) (fun _ => ?_) (fun c6 => absurd rfl c6)
  refine lv_iload hx hb dL_law_2061 (lv_at hl 1 rfl) ?_
  refine lv_if_ne (tgt := 2078) hx hb dL_law_2063 (by decide) (fun c7 => absurd (by decide) c7) (fun _ => ?_)
  refine lv_aload_n hx hb dL_law_2066 rfl (lv_at hl 3 rfl) ?_
  refine lv_iconst (v := (0 : Int32)) hx hb dL_law_2067 (by decide) ?_
  refine va_lald (i := (0 : Int32)) hx hb hK.1 I.1 0 1 rfl rfl (fb_inC (n := 0) (by decide) (by decide) (Nat.le_of_ble_eq_true rfl)) dL_law_2068 ?_
  refine fb_tL (v := (((-1 : Int32)).toInt64)) rfl ?_
  refine lv_iload hx hb dL_law_2069 (lv_at hl 0 rfl) ?_
  refine lv_i2l (v := (((-1 : Int32)).toInt64)) hx hb dL_law_2071 rfl ?_
  refine W.lcmp hx hb dL_law_2072 ?_
  refine fb_tI (v := (0 : Int32)) (lw_cmp0 _) ?_
  refine lv_if_eq (tgt := 2078) hx hb dL_law_2073 (by decide) (fun _ => ?_) (fun c8 => absurd (by decide) c8)
  refine lv_goto (tgt := 2336) hx hb dL_law_2078 (by decide) ?_
  exact lw_end X hX hbl hbA (by omega) I (lv_sub hl [2, 6] rfl) (Nat.le_of_ble_eq_true rfl) (Nat.le_of_ble_eq_true rfl)

set_option maxHeartbeats 4000000 in
set_option maxRecDepth 100000 in
theorem lc_52_i {p : Program} {l : Launch} {e : Env} {s : State} {m : MethodId} {below : List Frame} {meth : Method} {c : Code} {H : Heap} {locs : List Loc} {ls : Array Slot} {D : va_G} {cI cJ : ClassId} {b L : Nat} {xs : Nat → Int32} {zb : Nat} {zt : Nat} {zn : Nat} {zv : Nat} {zs : Nat} {zp : Nat} {zq : Nat → Nat} {zu : Nat → Nat} {zh : Nat} {zst : Nat} {zre : Nat} {zw : fb_AR} {zx : Nat} {zg : Nat → Int64} {za : Nat} {zr : Nat → Nat} {zj : Nat} {zN : Nat} (hst : l.stackTraces = false) (X : fb_Bx p s m #[Value.ref b] meth c cL_law RL 9 (some .boolean) D (fb_ty D cI cJ) (fun q : Nat => s.heap.size ≤ q)) (hX : va_X b L xs s s.heap) (hbl : b < s.heap.size) (hbA : ¬ (fun q : Nat => s.heap.size ≤ q) b) (hL6 : L = 6) (hz : xs 1 = nI zj) (hn : xs 2 = nI zN) (hj : zj < 4096) (hN : 1 ≤ zN ∧ zN ≤ 5000) (I : fb_In D (fun q : Nat => s.heap.size ≤ q) s.heap (([fb_o11 zb zt zn zv zs zp (zq 0) (zu 0) zh zst zre, fb_mw cI zq fb_s0 zw, fb_mw cI zu fb_m0 (fun _ => 0), fb_jw cJ zx 1 zg, fb_o12 za zr fr_e0, fb_aw cI (zr 0) 16205 (fr_m (fun _ => 0) 0)] : List va_W).flatten) H locs) (hl : lv_has ls 9 [(4, .int (0 : Int32)), (3, .ref zx), (2, .ref za), (1, .ref zb), (0, .ref b)]) : W p l e room_1 s m #[Value.ref b] below meth c H locs 209 179241 (lw_Z below #[Value.ref b] s) (F0 m 2137 ls []) := by
  obtain ⟨hx, hb, hr, hml, hown, hts, hlk, hA, hK, hF⟩ := id X
  refine lv_aload_n hx hb dL_law_2137 rfl (lv_at hl 3 rfl) ?_
  refine lv_aload_n hx hb dL_law_2138 rfl (lv_at hl 4 rfl) ?_
  refine lv_iload hx hb dL_law_2139 (lv_at hl 0 rfl) ?_
  refine lv_iconst (v := (1 : Int32)) hx hb dL_law_2141 (by decide) ?_
  refine lv_iadd hx hb dL_law_2142 ?_
  refine fb_tI (v := (1 : Int32)) (by decide) ?_
  refine va_sld (i := (1 : Int32)) hx hb hX hbl hbA I.2.2 (fb_inC (n := 1) (by decide) (by decide) (by omega)) dL_law_2143 ?_
  refine fb_tI (v := (xs 1)) rfl ?_
  refine fb_tI (v := (nI zj)) hz ?_
  refine lv_aload_n hx hb dL_law_2144 rfl (lv_at hl 4 rfl) ?_
  refine lv_iload hx hb dL_law_2145 (lv_at hl 0 rfl) ?_
  refine lv_iconst (v := (2 : Int32)) hx hb dL_law_2147 (by decide) ?_
  refine lv_iadd hx hb dL_law_2148 ?_
  refine fb_tI (v := (2 : Int32)) (by decide) ?_
  refine va_sld (i := (2 : Int32)) hx hb hX hbl hbA I.2.2 (fb_inC (n := 2) (by decide) (by decide) (by omega)) dL_law_2149 ?_
  refine fb_tI (v := (xs 2)) rfl ?_
  refine fb_tI (v := (nI zN)) hn ?_
  refine lv_aload_n hx hb dL_law_2150 rfl (lv_at hl 1 rfl) ?_
  refine fb_gI (cs := [fb_o11 zb zt zn zv zs zp (zq 0) (zu 0) zh zst zre, fb_mw cI zq fb_s0 zw, fb_mw cI zu fb_m0 (fun _ => 0), fb_jw cJ zx 1 zg]) (rs := [fb_o12 za zr fr_e0, fb_aw cI (zr 0) 16205 (fr_m (fun _ => 0) 0)]) (fun (t : Unit) => [fb_jw cJ zx 1 (vp_updL zg 0 (((0 : Int32)).toInt64)), fb_o12 za zr fr_e0, fb_aw cI (zr 0) 16205 (fr_m (fun _ => 0) 0)]) (fun (t : Unit) => [fb_jw cJ zx 1 (vp_updL zg 0 (((0 : Int32)).toInt64))]) X I [0, 1, 2, 3, 4, 5] 6 rfl (by decide +kernel) rfl rfl [0, 1, 2] 3 (fun _ => rfl) (by decide +kernel) (fun _ => rfl) (fun _ => rfl) (fun I => fb_rSW (As := [.ref zb, .int (nI zj), .int (nI zN), .ref zx]) (rest := []) X hl (fb_goodSW fw_1915 fw_1916 fw_190 fw_1917) (c_w_writesIn_in l D cI cJ zb zt zn zv zs zp zq zu zh zst zre zw zx zg zj zN _ hst (by omega) (by omega)) rfl rfl (by decide +kernel : fb_hd yL_writesIn 4) ⟨Nat.le_of_ble_eq_true rfl, Nat.le_of_ble_eq_true rfl⟩ rfl rfl (Nat.le_of_ble_eq_true rfl) ⟨Nat.le_of_ble_eq_true rfl, Nat.le_of_ble_eq_true rfl⟩ dL_law_2151 I) ?_
  intro r2 w1 H locs e0 I
  subst e0
  have I : fb_In D (fun q : Nat => s.heap.size ≤ q) s.heap (([fb_jw cJ zx 1 (vp_updL zg 0 (((0 : Int32)).toInt64)), fb_o12 za zr fr_e0, fb_aw cI (zr 0) 16205 (fr_m (fun _ => 0) 0)] : List va_W).flatten) H locs := I
  refine lv_istore (lv' := [(5, .int (0 : Int32)), (4, .int (0 : Int32)), (3, .ref zx), (2, .ref za), (1, .ref zb), (0, .ref b)]) hx hb dL_law_2154 hl (by decide) rfl (fun ls hl => ?_)
  refine lv_aload_n hx hb dL_law_2156 rfl (lv_at hl 3 rfl) ?_
  refine lv_aload_n hx hb dL_law_2157 rfl (lv_at hl 5 rfl) ?_
  refine lv_iload hx hb dL_law_2158 (lv_at hl 1 rfl) ?_
  refine lv_iconst (v := (1 : Int32)) hx hb dL_law_2160 (by decide) ?_
  refine lv_iadd hx hb dL_law_2161 ?_
  refine fb_tI (v := (1 : Int32)) (by decide) ?_
  refine va_sld (i := (1 : Int32)) hx hb hX hbl hbA I.2.2 (fb_inC (n := 1) (by decide) (by decide) (by omega)) dL_law_2162 ?_
  refine fb_tI (v := (xs 1)) rfl ?_
  refine fb_tI (v := (nI zj)) hz ?_
  refine lv_aload_n hx hb dL_law_2163 rfl (lv_at hl 5 rfl) ?_
  refine lv_iload hx hb dL_law_2164 (lv_at hl 1 rfl) ?_
  refine lv_iconst (v := (2 : Int32)) hx hb dL_law_2166 (by decide) ?_
  refine lv_iadd hx hb dL_law_2167 ?_
  refine fb_tI (v := (2 : Int32)) (by decide) ?_
  refine va_sld (i := (2 : Int32)) hx hb hX hbl hbA I.2.2 (fb_inC (n := 2) (by decide) (by decide) (by omega)) dL_law_2168 ?_
  refine fb_tI (v := (xs 2)) rfl ?_
  refine fb_tI (v := (nI zN)) hn ?_
  refine fb_gI (cs := [fb_o12 za zr fr_e0, fb_aw cI (zr 0) 16205 (fr_m (fun _ => 0) 0)]) (rs := [fb_jw cJ zx 1 (vp_updL zg 0 (((0 : Int32)).toInt64))]) (fun (t : Nat × Nat × fb_AR × fb_AR) => [fb_jw cJ zx 1 (vp_updL zg 0 (((0 : Int32)).toInt64)), fb_o12 za (va_up (va_up zr 0 (t.1)) 0 (t.2.1)) (upd (t.2.2.1) 8 (-1 : Int32)), fb_aw cI (t.2.1) 16205 (fr_m (fun _ => 0) 0), fb_aw cI (t.1) 16205 (fr_m (t.2.2.2) zN)]) (fun (t : Nat × Nat × fb_AR × fb_AR) => [fb_o12 za (va_up (va_up zr 0 (t.1)) 0 (t.2.1)) (upd (t.2.2.1) 8 (-1 : Int32)), fb_aw cI (t.2.1) 16205 (fr_m (fun _ => 0) 0), fb_aw cI (t.1) 16205 (fr_m (t.2.2.2) zN)]) X I [1, 2, 0] 3 rfl (by decide +kernel) rfl rfl [1, 2, 3, 0] 4 (fun _ => rfl) (by decide +kernel) (fun _ => rfl) (fun _ => rfl) (fun I => fb_rV (As := [.int (nI zj), .int (nI zN)]) (rest := []) X hl (fb_goodV fw_2759 fw_2760 fw_2761 fw_204 fw_2762) (c_writesIn_in l D cI cJ za zr zj zN _ (by omega) (by omega)) rfl rfl rfl (by decide +kernel : fb_hd yX12_writesIn 2) ⟨Nat.le_of_ble_eq_true rfl, Nat.le_of_ble_eq_true rfl⟩ rfl rfl rfl rfl rfl (Nat.le_of_ble_eq_true rfl) ⟨Nat.le_of_ble_eq_true rfl, Nat.le_of_ble_eq_true rfl⟩ dL_law_2169 I) ?_
  intro r4 w3 H locs e0 I
  obtain ⟨e9, e0⟩ := e0
  subst e9
  obtain ⟨w3_0, w3_1, w3_2, w3_3⟩ := w3
  have p5 : (upd w3_2 8 (-1 : Int32)) 19 = (0 : Int32) := e0
  have I : fb_In D (fun q : Nat => s.heap.size ≤ q) s.heap (([fb_jw cJ zx 1 (vp_updL zg 0 (((0 : Int32)).toInt64)), fb_o12 za (va_up (va_up zr 0 w3_0) 0 w3_1) (upd w3_2 8 (-1 : Int32)), fb_aw cI w3_1 16205 (fr_m (fun _ => 0) 0), fb_aw cI w3_0 16205 (fr_m w3_3 zN)] : List va_W).flatten) H locs := I
  refine lv_istore (lv' := [(6, .int (0 : Int32)), (5, .int (0 : Int32)), (4, .int (0 : Int32)), (3, .ref zx), (2, .ref za), (1, .ref zb), (0, .ref b)]) hx hb dL_law_2172 hl (by decide) rfl (fun ls hl => ?_)
  refine lv_aload_n hx hb dL_law_2174 rfl (lv_at hl 4 rfl) ?_
  refine fb_gO (cs := [fb_o12 za (va_up (va_up zr 0 w3_0) 0 w3_1) (upd w3_2 8 (-1 : Int32))]) (rs := [fb_jw cJ zx 1 (vp_updL zg 0 (((0 : Int32)).toInt64)), fb_aw cI w3_1 16205 (fr_m (fun _ => 0) 0), fb_aw cI w3_0 16205 (fr_m w3_3 zN)]) X I [1, 0, 2, 3] 4 rfl (by decide +kernel) rfl rfl (fun I => fb_rV (As := []) (rest := []) X hl (fb_goodV fw_2119 fw_2120 fw_2121 fw_204 fw_2122) (c_thrown l D cI cJ za (va_up (va_up zr 0 w3_0) 0 w3_1) (upd w3_2 8 (-1 : Int32)) _ ) rfl rfl rfl (by decide +kernel : fb_hd yX12_thrown 0) ⟨Nat.le_of_ble_eq_true rfl, Nat.le_of_ble_eq_true rfl⟩ rfl rfl rfl rfl rfl (Nat.le_of_ble_eq_true rfl) ⟨Nat.le_of_ble_eq_true rfl, Nat.le_of_ble_eq_true rfl⟩ dL_law_2175 I) ?_
  refine fb_tI (v := (0 : Int32)) p5 ?_
  refine lv_iload hx hb dL_law_2178 (lv_at hl 1 rfl) ?_
  refine lv_icmp_eq (tgt := 2185) hx hb dL_law_2180 (by decide) (fun _ => ?_) (fun c6 => absurd rfl c6)
  refine lv_iload hx hb dL_law_2185 (lv_at hl 1 rfl) ?_
  refine lv_if_ne (tgt := 2202) hx hb dL_law_2187 (by decide) (fun c7 => absurd (by decide) c7) (fun _ => ?_)
  refine lv_aload_n hx hb dL_law_2190 rfl (lv_at hl 3 rfl) ?_
  refine lv_iconst (v := (0 : Int32)) hx hb dL_law_2191 (by decide) ?_
  refine va_lald (i := (0 : Int32)) hx hb hK.1 I.1 0 1 rfl rfl (fb_inC (n := 0) (by decide) (by decide) (Nat.le_of_ble_eq_true rfl)) dL_law_2192 ?_
  refine fb_tL (v := (((0 : Int32)).toInt64)) rfl ?_
  refine lv_iload hx hb dL_law_2193 (lv_at hl 0 rfl) ?_
  refine lv_i2l (v := (((0 : Int32)).toInt64)) hx hb dL_law_2195 rfl ?_
  refine W.lcmp hx hb dL_law_2196 ?_
  refine fb_tI (v := (0 : Int32)) (lw_cmp0 _) ?_
  refine lv_if_eq (tgt := 2202) hx hb dL_law_2197 (by decide) (fun _ => ?_) (fun c8 => absurd (by decide) c8)
  refine lv_goto (tgt := 2336) hx hb dL_law_2202 (by decide) ?_
  exact lw_end X hX hbl hbA (by omega) I (lv_sub hl [2, 6] rfl) (Nat.le_of_ble_eq_true rfl) (Nat.le_of_ble_eq_true rfl)

