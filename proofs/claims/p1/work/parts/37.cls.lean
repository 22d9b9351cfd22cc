/-! the class on a fresh board, laid by cls.py -/
section ROWS
variable {p : Program} {l : Launch} {e : Env} {R : Room} {s : State} {m : MethodId} {args : Array Value} {below : List Frame} {meth : Method} {c : Code} {H : Heap} {locs : List Loc} {cells slots : Nat} {Q : State → Prop}
  {cc : ByteArray} {own : String} {nL : Nat} {ret : Option FieldType} {D : va_G} {tys : List (ClassId × FieldType)} {A : Nat → Prop} {ws : va_W} {pc : Nat} {ls : Array Slot} {rest : List Value} {a : Nat} {cA cI cJ : ClassId} {N n k : Nat} {wn : va_W} {i : Int32}
theorem fb_jsC {f : Nat → Int64} {x : Int64} (X : fb_Bx p s m args meth c cc own nL ret D tys A) (I : fb_In D A s.heap ws H locs) (q0 t0 : Nat) (ha : ws[q0]? = some (a, .inl (cA, N, .inr (.inl f)))) (ht : tys[t0]? = some (cA, .long)) (hn : i.toNatClampNeg = n) (h0 : ¬ i < 0) (hlt : n < N) (hwn : ws.set q0 (a, .inl (cA, N, .inr (.inl (vp_updL f n x)))) = wn) (hdg : decode cc pc = .ok (.lastore, 1))
    (kk : ∀ (H1 : Heap) (locs1 : List Loc), fb_In D A s.heap wn H1 locs1 → W p l e R s m args below meth c H1 locs1 cells slots Q (F0 m (pc + 1) ls rest)) : W p l e R s m args below meth c H locs cells slots Q (F0 m pc ls (.long x :: .int i :: .ref a :: rest)) := by
  obtain ⟨hx, hb, hr, hml, hown, hts, hlk, hA, hK, hF⟩ := X
  subst hn
  refine va_last hx hb hK.1 I.1 I.2.1 I.2.2 q0 t0 ha ht (fb_inC rfl h0 hlt) hdg ?_
  intro H1 locs1 h1 h2 h3
  rw [hwn] at h1 h2
  exact kk H1 locs1 ⟨h1, h2, h3⟩
theorem fb_ldL {tl : Nat → Nat} (X : fb_Bx p s m args meth c cc own nL ret D (fb_ty D cI cJ) A) (I : fb_In D A s.heap ws H locs) (q0 : Nat) (ha : ws[q0]? = some (a, .inl (D.1 23, N, .inr (.inr (.inr (.inr (fun j => some (tl j)))))))) (hn : i.toNatClampNeg = k) (h0 : ¬ i < 0) (hlt : k < N) (hdg : decode cc pc = .ok (.aaload, 1))
    (kk : W p l e R s m args below meth c H locs cells slots Q (F0 m (pc + 1) ls (.ref (tl k) :: rest))) : W p l e R s m args below meth c H locs cells slots Q (F0 m pc ls (.int i :: .ref a :: rest)) := by
  obtain ⟨hx, hb, hr, hml, hown, hts, hlk, hA, hK, hF⟩ := X
  refine va_aldq hx hb hK.1 I.1 q0 5 ha rfl (fb_inC hn h0 hlt) hdg ?_
  rw [hn]; exact kk
end ROWS
theorem fb_vup (f : Nat → Nat) (k : Nat) : f = va_up f k (f k) := by
  funext j
  unfold va_up
  by_cases h : j = k
  · rw [if_pos h, h]
  · rw [if_neg h]

set_option maxHeartbeats 4000000 in
set_option maxRecDepth 100000 in
theorem c_cput0 (l : Launch) (D : va_G) (cI cJ : ClassId) (zw : Nat) (zf : fb_AR) (l2 : Int32) (sz : Nat)  : Met l yX11_put (Cond.code yX11_put cX11_put 3 none :: fb_all) ({ frames := 1, cells := 0, slots := 0, locals := 30 } : Room) (fb_PP D (fb_ty D cI cJ) [.ref zw, .int (0 : Int32), .int l2] (([fb_aw cI zw 2001 zf] : List va_W).flatten) sz) (fb_QV D (va_A (([fb_aw cI zw 2001 zf] : List va_W).flatten) sz) (fun (_ : Unit) => True) (fun (t : Unit) => ([fb_aw cI zw 2001 (upd zf 0 l2)] : List va_W).flatten)) 0 0 (va_A (([fb_aw cI zw 2001 zf] : List va_W).flatten) sz) := by
  refine fb_ent (Qf := fun A => (fb_QV D A (fun (_ : Unit) => True) (fun (t : Unit) => ([fb_aw cI zw 2001 (upd zf 0 l2)] : List va_W).flatten))) (by decide +kernel) (Nat.le_of_ble_eq_true rfl) ?_
  intro p e s m args below meth c A ls X I hl hin
  obtain ⟨hx, hb, hr, hml, hown, hts, hlk, hA, hK, hF⟩ := id X
  have hl : lv_has ls 3 [(0, .ref zw), (1, .int (0 : Int32)), (2, .int l2)] := hl
  refine lv_iload_n hx hb dX11_put_0 rfl (lv_at hl 1 rfl) ?_
  refine lv_if_lt (tgt := 14) hx hb dX11_put_1 (by decide) (fun c1 => absurd c1 (by decide)) (fun _ => ?_)
  refine lv_iload_n hx hb dX11_put_4 rfl (lv_at hl 1 rfl) ?_
  refine lv_aload_n hx hb dX11_put_5 rfl (lv_at hl 0 rfl) ?_
  refine fb_alen (v := (2001 : Int32)) X I 0 0 rfl rfl rfl dX11_put_6 ?_
  refine lv_icmp_ge (tgt := 14) hx hb dX11_put_7 (by decide) (fun c2 => absurd c2 (by decide)) (fun _ => ?_)
  refine lv_aload_n hx hb dX11_put_10 rfl (lv_at hl 0 rfl) ?_
  refine lv_iload_n hx hb dX11_put_11 rfl (lv_at hl 1 rfl) ?_
  refine lv_iload_n hx hb dX11_put_12 rfl (lv_at hl 2 rfl) ?_
  refine fb_isC (n := 0) (wn := ([fb_aw cI zw 2001 (upd zf 0 l2)] : List va_W).flatten) X I 0 0 rfl rfl (by decide) (by decide) (Nat.le_of_ble_eq_true rfl) rfl dX11_put_13 (fun H locs I => ?_)
  exact fb_retV (u := ()) X I trivial dX11_put_14

set_option maxHeartbeats 4000000 in
set_option maxRecDepth 100000 in
theorem c_cputn (l : Launch) (D : va_G) (cI cJ : ClassId) (zw : Nat) (zf : fb_AR) (zj : Nat) (l2 : Int32) (sz : Nat) (hj : zj < 2000) : Met l yX11_put (Cond.code yX11_put cX11_put 3 none :: fb_all) ({ frames := 1, cells := 0, slots := 0, locals := 30 } : Room) (fb_PP D (fb_ty D cI cJ) [.ref zw, .int (nI zj), .int l2] (([fb_aw cI zw 2000 zf] : List va_W).flatten) sz) (fb_QV D (va_A (([fb_aw cI zw 2000 zf] : List va_W).flatten) sz) (fun (_ : Unit) => True) (fun (t : Unit) => ([fb_aw cI zw 2000 (upd zf zj l2)] : List va_W).flatten)) 0 0 (va_A (([fb_aw cI zw 2000 zf] : List va_W).flatten) sz) := by
  refine fb_ent (Qf := fun A => (fb_QV D A (fun (_ : Unit) => True) (fun (t : Unit) => ([fb_aw cI zw 2000 (upd zf zj l2)] : List va_W).flatten))) (by decide +kernel) (Nat.le_of_ble_eq_true rfl) ?_
  intro p e s m args below meth c A ls X I hl hin
  obtain ⟨hx, hb, hr, hml, hown, hts, hlk, hA, hK, hF⟩ := id X
  have hl : lv_has ls 3 [(0, .ref zw), (1, .int (nI zj)), (2, .int l2)] := hl
  refine lv_iload_n hx hb dX11_put_0 rfl (lv_at hl 1 rfl) ?_
  refine lv_if_lt (tgt := 14) hx hb dX11_put_1 (by decide) (fun c1 => absurd c1 (nI_nlt (a := zj) (b := 0) (by omega) (by omega))) (fun _ => ?_)
  refine lv_iload_n hx hb dX11_put_4 rfl (lv_at hl 1 rfl) ?_
  refine lv_aload_n hx hb dX11_put_5 rfl (lv_at hl 0 rfl) ?_
  refine fb_alen (v := (2000 : Int32)) X I 0 0 rfl rfl rfl dX11_put_6 ?_
  refine lv_icmp_ge (tgt := 14) hx hb dX11_put_7 (by decide) (fun c2 => absurd c2 (nI_ge (a := zj) (b := 2000) (by omega) (by omega))) (fun _ => ?_)
  refine lv_aload_n hx hb dX11_put_10 rfl (lv_at hl 0 rfl) ?_
  refine lv_iload_n hx hb dX11_put_11 rfl (lv_at hl 1 rfl) ?_
  refine lv_iload_n hx hb dX11_put_12 rfl (lv_at hl 2 rfl) ?_
  refine fb_isC (n := zj) (wn := ([fb_aw cI zw 2000 (upd zf zj l2)] : List va_W).flatten) X I 0 0 rfl rfl (nI_clamp (by omega)) (nI_pos (by omega)) (by omega) rfl dX11_put_13 (fun H locs I => ?_)
  exact fb_retV (u := ()) X I trivial dX11_put_14

set_option maxHeartbeats 4000000 in
set_option maxRecDepth 100000 in
theorem c_cputJ (l : Launch) (D : va_G) (cI cJ : ClassId) (zw : Nat) (zg : Nat → Int64) (l2 : Int64) (sz : Nat)  : Met l yX11_put_ (Cond.code yX11_put_ cX11_put_ 4 none :: fb_all) ({ frames := 1, cells := 0, slots := 0, locals := 30 } : Room) (fb_PP D (fb_ty D cI cJ) [.ref zw, .int (0 : Int32), .long l2] (([fb_jw cJ zw 2001 zg] : List va_W).flatten) sz) (fb_QV D (va_A (([fb_jw cJ zw 2001 zg] : List va_W).flatten) sz) (fun (_ : Unit) => True) (fun (t : Unit) => ([fb_jw cJ zw 2001 (vp_updL zg 0 l2)] : List va_W).flatten)) 0 0 (va_A (([fb_jw cJ zw 2001 zg] : List va_W).flatten) sz) := by
  refine fb_ent (Qf := fun A => (fb_QV D A (fun (_ : Unit) => True) (fun (t : Unit) => ([fb_jw cJ zw 2001 (vp_updL zg 0 l2)] : List va_W).flatten))) (by decide +kernel) (Nat.le_of_ble_eq_true rfl) ?_
  intro p e s m args below meth c A ls X I hl hin
  obtain ⟨hx, hb, hr, hml, hown, hts, hlk, hA, hK, hF⟩ := id X
  have hl : lv_has ls 4 [(0, .ref zw), (1, .int (0 : Int32)), (2, .long l2)] := hl
  refine lv_iload_n hx hb dX11_put__0 rfl (lv_at hl 1 rfl) ?_
  refine lv_if_lt (tgt := 14) hx hb dX11_put__1 (by decide) (fun c1 => absurd c1 (by decide)) (fun _ => ?_)
  refine lv_iload_n hx hb dX11_put__4 rfl (lv_at hl 1 rfl) ?_
  refine lv_aload_n hx hb dX11_put__5 rfl (lv_at hl 0 rfl) ?_
  refine fb_alen (v := (2001 : Int32)) X I 0 1 rfl rfl rfl dX11_put__6 ?_
  refine lv_icmp_ge (tgt := 14) hx hb dX11_put__7 (by decide) (fun c2 => absurd c2 (by decide)) (fun _ => ?_)
  refine lv_aload_n hx hb dX11_put__10 rfl (lv_at hl 0 rfl) ?_
  refine lv_iload_n hx hb dX11_put__11 rfl (lv_at hl 1 rfl) ?_
  refine lv_lload_n hx hb dX11_put__12 rfl (lv_at hl 2 rfl) ?_
  refine fb_jsC (n := 0) (wn := ([fb_jw cJ zw 2001 (vp_updL zg 0 l2)] : List va_W).flatten) X I 0 1 rfl rfl (by decide) (by decide) (Nat.le_of_ble_eq_true rfl) rfl dX11_put__13 (fun H locs I => ?_)
  exact fb_retV (u := ()) X I trivial dX11_put__14

set_option maxHeartbeats 4000000 in
set_option maxRecDepth 100000 in
theorem c_catN (l : Launch) (D : va_G) (cI cJ : ClassId) (zw : Nat) (zf : fb_AR) (sz : Nat)  : Met l yX11_at (Cond.code yX11_at cX11_at 2 (some .int) :: fb_all) ({ frames := 1, cells := 0, slots := 0, locals := 30 } : Room) (fb_PP D (fb_ty D cI cJ) [.ref zw, .int (-1 : Int32)] (([fb_aw cI zw 2001 zf] : List va_W).flatten) sz) (vp_Si (fun r => r = (0 : Int32))) 0 0 (fun _ => False) := by
  refine fb_entR (by decide +kernel) (Nat.le_of_ble_eq_true rfl) ?_
  intro p e s m args below meth c A ls X I hl hin
  obtain ⟨hx, hb, hr, hml, hown, hts, hlk, hA, hK, hF⟩ := id X
  have hl : lv_has ls 2 [(0, .ref zw), (1, .int (-1 : Int32))] := hl
  refine lv_iload_n hx hb dX11_at_0 rfl (lv_at hl 1 rfl) ?_
  refine lv_if_lt (tgt := 16) hx hb dX11_at_1 (by decide) (fun _ => ?_) (fun c1 => absurd (by decide) c1)
  refine lv_iconst (v := (0 : Int32)) hx hb dX11_at_16 (by decide) ?_
  exact fb_retRI X rfl rfl dX11_at_17

set_option maxHeartbeats 4000000 in
set_option maxRecDepth 100000 in
theorem c_add0 (l : Launch) (D : va_G) (cI cJ : ClassId) (zt : Nat) (zt0 : Nat) (zt2 : Nat) (zt3 : Nat) (zt4 : Nat) (z9 : fb_AR) (zk2 : fb_AR) (zk3 : fb_AR) (zg4 : Nat → Int64) (l1 : Int32) (l2 : Int32) (l3 : Int64) (sz : Nat) (z9k5 : z9 5 = (0 : Int32)) : Met l yX9_add (Cond.code yX9_add cX9_add 5 none :: fb_all) ({ frames := 2, cells := 0, slots := 0, locals := 53 } : Room) (fb_PP D (fb_ty D cI cJ) [.ref zt, .int l1, .int l2, .long l3] (([fb_o9 zt zt0 zt2 zt3 zt4 z9, fb_aw cI zt2 2001 zk2, fb_aw cI zt3 2001 zk3, fb_jw cJ zt4 2001 zg4] : List va_W).flatten) sz) (fb_QV D (va_A (([fb_o9 zt zt0 zt2 zt3 zt4 z9, fb_aw cI zt2 2001 zk2, fb_aw cI zt3 2001 zk3, fb_jw cJ zt4 2001 zg4] : List va_W).flatten) sz) (fun (_ : Unit) => True) (fun (t : Unit) => ([fb_o9 zt zt0 zt2 zt3 zt4 (upd z9 5 (1 : Int32)), fb_aw cI zt2 2001 (upd zk2 0 l1), fb_aw cI zt3 2001 (upd zk3 0 l2), fb_jw cJ zt4 2001 (vp_updL zg4 0 l3)] : List va_W).flatten)) 0 0 (va_A (([fb_o9 zt zt0 zt2 zt3 zt4 z9, fb_aw cI zt2 2001 zk2, fb_aw cI zt3 2001 zk3, fb_jw cJ zt4 2001 zg4] : List va_W).flatten) sz) := by
  refine fb_ent (Qf := fun A => (fb_QV D A (fun (_ : Unit) => True) (fun (t : Unit) => ([fb_o9 zt zt0 zt2 zt3 zt4 (upd z9 5 (1 : Int32)), fb_aw cI zt2 2001 (upd zk2 0 l1), fb_aw cI zt3 2001 (upd zk3 0 l2), fb_jw cJ zt4 2001 (vp_updL zg4 0 l3)] : List va_W).flatten))) (by decide +kernel) (Nat.le_of_ble_eq_true rfl) ?_
  intro p e s m args below meth c A ls X I hl hin
  obtain ⟨hx, hb, hr, hml, hown, hts, hlk, hA, hK, hF⟩ := id X
  have hl : lv_has ls 5 [(0, .ref zt), (1, .int l1), (2, .int l2), (3, .long l3)] := hl
  refine lv_aload_n hx hb dX9_add_0 rfl (lv_at hl 0 rfl) ?_
  refine fb_get X I (k := 2) (v := .ref zt2) fu_X9 0 rfl rfl (Nat.le_of_ble_eq_true rfl) fw_237 rfl rfl dX9_add_1 ?_
  refine lv_aload_n hx hb dX9_add_4 rfl (lv_at hl 0 rfl) ?_
  refine fb_get X I (k := 5) (v := .int (z9 5)) fu_X9 0 rfl rfl (Nat.le_of_ble_eq_true rfl) fw_247 rfl rfl dX9_add_5 ?_
  refine fb_tI (v := (0 : Int32)) z9k5 ?_
  refine lv_iload_n hx hb dX9_add_8 rfl (lv_at hl 1 rfl) ?_
  refine fb_gV (cs := [fb_aw cI zt2 2001 zk2]) (rs := [fb_o9 zt zt0 zt2 zt3 zt4 z9, fb_aw cI zt3 2001 zk3, fb_jw cJ zt4 2001 zg4]) (fun (t : Unit) => [fb_o9 zt zt0 zt2 zt3 zt4 z9, fb_aw cI zt2 2001 (upd zk2 0 l1), fb_aw cI zt3 2001 zk3, fb_jw cJ zt4 2001 zg4]) (fun (t : Unit) => [fb_aw cI zt2 2001 (upd zk2 0 l1)]) X I [1, 0, 2, 3] 4 rfl (by decide +kernel) rfl rfl [1, 0, 2, 3] 4 (fun _ => rfl) (by decide +kernel) (fun _ => rfl) (fun _ => rfl) (fun I => fb_rN (As := [.ref zt2, .int (0 : Int32), .int l1]) (rest := []) X hl fw_756 (List.mem_of_getElem? (i := 11) rfl) fw_191 fw_755 (c_cput0 l D cI cJ zt2 zk2 l1 _ ) rfl rfl (by decide +kernel : fb_hd yX11_put 3) ⟨Nat.le_of_ble_eq_true rfl, Nat.le_of_ble_eq_true rfl⟩ rfl rfl (Nat.le_of_ble_eq_true rfl) ⟨Nat.zero_le _, Nat.zero_le _⟩ dX9_add_9 I) ?_
  intro w1 H locs _ I
  have I : fb_In D A s.heap (([fb_o9 zt zt0 zt2 zt3 zt4 z9, fb_aw cI zt2 2001 (upd zk2 0 l1), fb_aw cI zt3 2001 zk3, fb_jw cJ zt4 2001 zg4] : List va_W).flatten) H locs := I
  refine lv_aload_n hx hb dX9_add_12 rfl (lv_at hl 0 rfl) ?_
  refine fb_get X I (k := 3) (v := .ref zt3) fu_X9 0 rfl rfl (Nat.le_of_ble_eq_true rfl) fw_239 rfl rfl dX9_add_13 ?_
  refine lv_aload_n hx hb dX9_add_16 rfl (lv_at hl 0 rfl) ?_
  refine fb_get X I (k := 5) (v := .int (z9 5)) fu_X9 0 rfl rfl (Nat.le_of_ble_eq_true rfl) fw_247 rfl rfl dX9_add_17 ?_
  refine fb_tI (v := (0 : Int32)) z9k5 ?_
  refine lv_iload_n hx hb dX9_add_20 rfl (lv_at hl 2 rfl) ?_
  refine fb_gV (cs := [fb_aw cI zt3 2001 zk3]) (rs := [fb_o9 zt zt0 zt2 zt3 zt4 z9, fb_aw cI zt2 2001 (upd zk2 0 l1), fb_jw cJ zt4 2001 zg4]) (fun (t : Unit) => [fb_o9 zt zt0 zt2 zt3 zt4 z9, fb_aw cI zt2 2001 (upd zk2 0 l1), fb_aw cI zt3 2001 (upd zk3 0 l2), fb_jw cJ zt4 2001 zg4]) (fun (t : Unit) => [fb_aw cI zt3 2001 (upd zk3 0 l2)]) X I [2, 0, 1, 3] 4 rfl (by decide +kernel) rfl rfl [2, 0, 1, 3] 4 (fun _ => rfl) (by decide +kernel) (fun _ => rfl) (fun _ => rfl) (fun I => fb_rN (As := [.ref zt3, .int (0 : Int32), .int l2]) (rest := []) X hl fw_756 (List.mem_of_getElem? (i := 11) rfl) fw_191 fw_755 (c_cput0 l D cI cJ zt3 zk3 l2 _ ) rfl rfl (by decide +kernel : fb_hd yX11_put 3) ⟨Nat.le_of_ble_eq_true rfl, Nat.le_of_ble_eq_true rfl⟩ rfl rfl (Nat.le_of_ble_eq_true rfl) ⟨Nat.zero_le _, Nat.zero_le _⟩ dX9_add_21 I) ?_
  intro w2 H locs _ I
  have I : fb_In D A s.heap (([fb_o9 zt zt0 zt2 zt3 zt4 z9, fb_aw cI zt2 2001 (upd zk2 0 l1), fb_aw cI zt3 2001 (upd zk3 0 l2), fb_jw cJ zt4 2001 zg4] : List va_W).flatten) H locs := I
  refine lv_aload_n hx hb dX9_add_24 rfl (lv_at hl 0 rfl) ?_
  refine fb_get X I (k := 4) (v := .ref zt4) fu_X9 0 rfl rfl (Nat.le_of_ble_eq_true rfl) fw_241 rfl rfl dX9_add_25 ?_
  refine lv_aload_n hx hb dX9_add_28 rfl (lv_at hl 0 rfl) ?_
  refine fb_get X I (k := 5) (v := .int (z9 5)) fu_X9 0 rfl rfl (Nat.le_of_ble_eq_true rfl) fw_247 rfl rfl dX9_add_29 ?_
  refine fb_tI (v := (0 : Int32)) z9k5 ?_
  refine lv_lload_n hx hb dX9_add_32 rfl (lv_at hl 3 rfl) ?_
  refine fb_gV (cs := [fb_jw cJ zt4 2001 zg4]) (rs := [fb_o9 zt zt0 zt2 zt3 zt4 z9, fb_aw cI zt2 2001 (upd zk2 0 l1), fb_aw cI zt3 2001 (upd zk3 0 l2)]) (fun (t : Unit) => [fb_o9 zt zt0 zt2 zt3 zt4 z9, fb_aw cI zt2 2001 (upd zk2 0 l1), fb_aw cI zt3 2001 (upd zk3 0 l2), fb_jw cJ zt4 2001 (vp_updL zg4 0 l3)]) (fun (t : Unit) => [fb_jw cJ zt4 2001 (vp_updL zg4 0 l3)]) X I [3, 0, 1, 2] 4 rfl (by decide +kernel) rfl rfl [3, 0, 1, 2] 4 (fun _ => rfl) (by decide +kernel) (fun _ => rfl) (fun _ => rfl) (fun I => fb_rN (As := [.ref zt4, .int (0 : Int32), .long l3]) (rest := []) X hl fw_759 (List.mem_of_getElem? (i := 12) rfl) fw_191 fw_758 (c_cputJ l D cI cJ zt4 zg4 l3 _ ) rfl rfl (by decide +kernel : fb_hd yX11_put_ 3) ⟨Nat.le_of_ble_eq_true rfl, Nat.le_of_ble_eq_true rfl⟩ rfl rfl (Nat.le_of_ble_eq_true rfl) ⟨Nat.zero_le _, Nat.zero_le _⟩ dX9_add_33 I) ?_
  intro w3 H locs _ I
  have I : fb_In D A s.heap (([fb_o9 zt zt0 zt2 zt3 zt4 z9, fb_aw cI zt2 2001 (upd zk2 0 l1), fb_aw cI zt3 2001 (upd zk3 0 l2), fb_jw cJ zt4 2001 (vp_updL zg4 0 l3)] : List va_W).flatten) H locs := I
  refine lv_aload_n hx hb dX9_add_36 rfl (lv_at hl 0 rfl) ?_
  refine lv_dup hx hb dX9_add_37 rfl ?_
  refine fb_get X I (k := 5) (v := .int (z9 5)) fu_X9 0 rfl rfl (Nat.le_of_ble_eq_true rfl) fw_247 rfl rfl dX9_add_38 ?_
  refine fb_tI (v := (0 : Int32)) z9k5 ?_
  refine lv_iconst (v := (1 : Int32)) hx hb dX9_add_41 (by decide) ?_
  refine lv_iadd hx hb dX9_add_42 ?_
  refine fb_tI (v := (1 : Int32)) (by decide) ?_
  refine fb_put X I (k := 5) (wn := ([fb_o9 zt zt0 zt2 zt3 zt4 (upd z9 5 (1 : Int32)), fb_aw cI zt2 2001 (upd zk2 0 l1), fb_aw cI zt3 2001 (upd zk3 0 l2), fb_jw cJ zt4 2001 (vp_updL zg4 0 l3)] : List va_W).flatten) fu_X9 tyX9 tyX9_ok nmX9 0 rfl rfl (Nat.le_of_ble_eq_true rfl) fw_247 rfl rfl rfl rfl rfl (Nat.le_of_ble_eq_true rfl) rfl dX9_add_43 (fun H locs I => ?_)
  exact fb_retV (u := ()) X I trivial dX9_add_46

set_option maxHeartbeats 4000000 in
set_option maxRecDepth 100000 in
theorem c_split0 (l : Launch) (D : va_G) (cI cJ : ClassId) (zt : Nat) (zt0 : Nat) (zt2 : Nat) (zt3 : Nat) (zt4 : Nat) (z9 : fb_AR) (zk2 : fb_AR) (zk3 : fb_AR) (zg4 : Nat → Int64) (sz : Nat) (z9k1 : z9 1 = (0 : Int32)) : Met l yX9_split (Cond.code yX9_split cX9_split 3 none :: fb_all) ({ frames := 3, cells := 0, slots := 0, locals := 77 } : Room) (fb_PP D (fb_ty D cI cJ) [.ref zt] (([fb_o9 zt zt0 zt2 zt3 zt4 z9, fb_aw cI zt2 2001 zk2, fb_aw cI zt3 2001 zk3, fb_jw cJ zt4 2001 zg4] : List va_W).flatten) sz) (fb_QV D (va_A (([fb_o9 zt zt0 zt2 zt3 zt4 z9, fb_aw cI zt2 2001 zk2, fb_aw cI zt3 2001 zk3, fb_jw cJ zt4 2001 zg4] : List va_W).flatten) sz) (fun (_ : Unit) => True) (fun (t : Unit) => ([fb_o9 zt zt0 zt2 zt3 zt4 (upd (upd z9 5 (0 : Int32)) 5 (1 : Int32)), fb_aw cI zt2 2001 (upd zk2 0 (10 : Int32)), fb_aw cI zt3 2001 (upd zk3 0 (0 : Int32)), fb_jw cJ zt4 2001 (vp_updL zg4 0 (0 : Int64))] : List va_W).flatten)) 0 0 (va_A (([fb_o9 zt zt0 zt2 zt3 zt4 z9, fb_aw cI zt2 2001 zk2, fb_aw cI zt3 2001 zk3, fb_jw cJ zt4 2001 zg4] : List va_W).flatten) sz) := by
  refine fb_ent (Qf := fun A => (fb_QV D A (fun (_ : Unit) => True) (fun (t : Unit) => ([fb_o9 zt zt0 zt2 zt3 zt4 (upd (upd z9 5 (0 : Int32)) 5 (1 : Int32)), fb_aw cI zt2 2001 (upd zk2 0 (10 : Int32)), fb_aw cI zt3 2001 (upd zk3 0 (0 : Int32)), fb_jw cJ zt4 2001 (vp_updL zg4 0 (0 : Int64))] : List va_W).flatten))) (by decide +kernel) (Nat.le_of_ble_eq_true rfl) ?_
  intro p e s m args below meth c A ls X I hl hin
  obtain ⟨hx, hb, hr, hml, hown, hts, hlk, hA, hK, hF⟩ := id X
  have hl : lv_has ls 3 [(0, .ref zt)] := hl
  refine lv_aload_n hx hb dX9_split_0 rfl (lv_at hl 0 rfl) ?_
  refine lv_iconst (v := (0 : Int32)) hx hb dX9_split_1 (by decide) ?_
  refine fb_put X I (k := 5) (wn := ([fb_o9 zt zt0 zt2 zt3 zt4 (upd z9 5 (0 : Int32)), fb_aw cI zt2 2001 zk2, fb_aw cI zt3 2001 zk3, fb_jw cJ zt4 2001 zg4] : List va_W).flatten) fu_X9 tyX9 tyX9_ok nmX9 0 rfl rfl (Nat.le_of_ble_eq_true rfl) fw_247 rfl rfl rfl rfl rfl (Nat.le_of_ble_eq_true rfl) rfl dX9_split_2 (fun H locs I => ?_)
  refine lv_iconst (v := (0 : Int32)) hx hb dX9_split_5 (by decide) ?_
  refine lv_istore_n (lv' := [(1, .int (0 : Int32)), (0, .ref zt)]) hx hb dX9_split_6 rfl hl (by decide) rfl (fun ls hl => ?_)
  refine lv_iconst (v := (0 : Int32)) hx hb dX9_split_7 (by decide) ?_
  refine lv_istore_n (lv' := [(2, .int (0 : Int32)), (1, .int (0 : Int32)), (0, .ref zt)]) hx hb dX9_split_8 rfl hl (by decide) rfl (fun ls hl => ?_)
  refine lv_iload_n hx hb dX9_split_9 rfl (lv_at hl 0 rfl) ?_
  refine lv_sipush (v := (2000 : Int32)) hx hb dX9_split_10 (by decide) ?_
  refine lv_icmp_ge (tgt := 36) hx hb dX9_split_13 (by decide) (fun c1 => absurd c1 (by decide)) (fun _ => ?_)
  refine lv_iload_n hx hb dX9_split_16 rfl (lv_at hl 1 rfl) ?_
  refine lv_aload_n hx hb dX9_split_17 rfl (lv_at hl 2 rfl) ?_
  refine fb_get X I (k := 1) (v := .int (z9 1)) fu_X9 0 rfl rfl (Nat.le_of_ble_eq_true rfl) fw_235 rfl rfl dX9_split_18 ?_
  refine fb_tI (v := (0 : Int32)) z9k1 ?_
  refine lv_icmp_ge (tgt := 36) hx hb dX9_split_21 (by decide) (fun _ => ?_) (fun c2 => absurd (by decide) c2)
  refine lv_aload_n hx hb dX9_split_36 rfl (lv_at hl 2 rfl) ?_
  refine fb_get X I (k := 1) (v := .int (z9 1)) fu_X9 0 rfl rfl (Nat.le_of_ble_eq_true rfl) fw_235 rfl rfl dX9_split_37 ?_
  refine fb_tI (v := (0 : Int32)) z9k1 ?_
  refine lv_if_eq (tgt := 61) hx hb dX9_split_40 (by decide) (fun _ => ?_) (fun c3 => absurd (by decide) c3)
  refine lv_aload_n hx hb dX9_split_61 rfl (lv_at hl 2 rfl) ?_
  refine lv_bipush (v := (10 : Int32)) hx hb dX9_split_62 (by decide) ?_
  refine lv_aload_n hx hb dX9_split_64 rfl (lv_at hl 2 rfl) ?_
  refine fb_get X I (k := 1) (v := .int (z9 1)) fu_X9 0 rfl rfl (Nat.le_of_ble_eq_true rfl) fw_235 rfl rfl dX9_split_65 ?_
  refine fb_tI (v := (0 : Int32)) z9k1 ?_
  refine lv_lconst (v := (0 : Int64)) hx hb dX9_split_68 (by decide) ?_
  refine fb_gV (cs := [fb_o9 zt zt0 zt2 zt3 zt4 (upd z9 5 (0 : Int32)), fb_aw cI zt2 2001 zk2, fb_aw cI zt3 2001 zk3, fb_jw cJ zt4 2001 zg4]) (rs := []) (fun (t : Unit) => [fb_o9 zt zt0 zt2 zt3 zt4 (upd (upd z9 5 (0 : Int32)) 5 (1 : Int32)), fb_aw cI zt2 2001 (upd zk2 0 (10 : Int32)), fb_aw cI zt3 2001 (upd zk3 0 (0 : Int32)), fb_jw cJ zt4 2001 (vp_updL zg4 0 (0 : Int64))]) (fun (t : Unit) => [fb_o9 zt zt0 zt2 zt3 zt4 (upd (upd z9 5 (0 : Int32)) 5 (1 : Int32)), fb_aw cI zt2 2001 (upd zk2 0 (10 : Int32)), fb_aw cI zt3 2001 (upd zk3 0 (0 : Int32)), fb_jw cJ zt4 2001 (vp_updL zg4 0 (0 : Int64))]) X I [0, 1, 2, 3] 4 rfl (by decide +kernel) rfl rfl [0, 1, 2, 3] 4 (fun _ => rfl) (by decide +kernel) (fun _ => rfl) (fun _ => rfl) (fun I => fb_rV (As := [.int (10 : Int32), .int (0 : Int32), .long (0 : Int64)]) (rest := []) X hl (fb_goodV fw_750 fw_752 fw_5 fw_192 fw_753) (c_add0 l D cI cJ zt zt0 zt2 zt3 zt4 (upd z9 5 (0 : Int32)) zk2 zk3 zg4 (10 : Int32) (0 : Int32) (0 : Int64) _ rfl) rfl rfl rfl (by decide +kernel : fb_hd yX9_add 3) ⟨Nat.le_of_ble_eq_true rfl, Nat.le_of_ble_eq_true rfl⟩ rfl rfl rfl rfl rfl (Nat.le_of_ble_eq_true rfl) ⟨Nat.zero_le _, Nat.zero_le _⟩ dX9_split_69 I) ?_
  intro w4 H locs _ I
  have I : fb_In D A s.heap (([fb_o9 zt zt0 zt2 zt3 zt4 (upd (upd z9 5 (0 : Int32)) 5 (1 : Int32)), fb_aw cI zt2 2001 (upd zk2 0 (10 : Int32)), fb_aw cI zt3 2001 (upd zk3 0 (0 : Int32)), fb_jw cJ zt4 2001 (vp_updL zg4 0 (0 : Int64))] : List va_W).flatten) H locs := I
  exact fb_retV (u := ()) X I trivial dX9_split_72

set_option maxHeartbeats 4000000 in
set_option maxRecDepth 100000 in
theorem c_append0 (l : Launch) (D : va_G) (cI cJ : ClassId) (zt : Nat) (zt0 : Nat) (zt2 : Nat) (zt3 : Nat) (zt4 : Nat) (z9 : fb_AR) (zk0 : fb_AR) (l1 : Int32) (sz : Nat) (z9k1 : z9 1 = (0 : Int32)) : Met l yX9_append (Cond.code yX9_append cX9_append 3 none :: fb_all) ({ frames := 2, cells := 0, slots := 0, locals := 52 } : Room) (fb_PP D (fb_ty D cI cJ) [.ref zt, .int l1] (([fb_o9 zt zt0 zt2 zt3 zt4 z9, fb_aw cI zt0 2000 zk0] : List va_W).flatten) sz) (fb_QV D (va_A (([fb_o9 zt zt0 zt2 zt3 zt4 z9, fb_aw cI zt0 2000 zk0] : List va_W).flatten) sz) (fun (_ : fb_AR) => True) (fun (t : fb_AR) => ([fb_o9 zt zt0 zt2 zt3 zt4 (upd (upd (upd (upd z9 1 (1 : Int32)) 1 (2 : Int32)) 1 (3 : Int32)) 1 (4 : Int32)), fb_aw cI zt0 2000 t] : List va_W).flatten)) 0 0 (va_A (([fb_o9 zt zt0 zt2 zt3 zt4 z9, fb_aw cI zt0 2000 zk0] : List va_W).flatten) sz) := by
  refine fb_ent (Qf := fun A => (fb_QV D A (fun (_ : fb_AR) => True) (fun (t : fb_AR) => ([fb_o9 zt zt0 zt2 zt3 zt4 (upd (upd (upd (upd z9 1 (1 : Int32)) 1 (2 : Int32)) 1 (3 : Int32)) 1 (4 : Int32)), fb_aw cI zt0 2000 t] : List va_W).flatten))) (by decide +kernel) (Nat.le_of_ble_eq_true rfl) ?_
  intro p e s m args below meth c A ls X I hl hin
  obtain ⟨hx, hb, hr, hml, hown, hts, hlk, hA, hK, hF⟩ := id X
  have hl : lv_has ls 3 [(0, .ref zt), (1, .int l1)] := hl
  refine lv_bipush (v := (24 : Int32)) hx hb dX9_append_0 (by decide) ?_
  refine lv_istore_n (lv' := [(2, .int (24 : Int32)), (0, .ref zt), (1, .int l1)]) hx hb dX9_append_2 rfl hl (by decide) rfl (fun ls hl => ?_)
  refine lv_iload_n hx hb dX9_append_3 rfl (lv_at hl 0 rfl) ?_
  refine lv_if_lt (tgt := 41) hx hb dX9_append_4 (by decide) (fun c1 => absurd c1 (by decide)) (fun _ => ?_)
  refine lv_aload_n hx hb dX9_append_7 rfl (lv_at hl 1 rfl) ?_
  refine fb_get X I (k := 0) (v := .ref zt0) fu_X9 0 rfl rfl (Nat.le_of_ble_eq_true rfl) fw_232 rfl rfl dX9_append_8 ?_
  refine lv_aload_n hx hb dX9_append_11 rfl (lv_at hl 1 rfl) ?_
  refine fb_get X I (k := 1) (v := .int (z9 1)) fu_X9 0 rfl rfl (Nat.le_of_ble_eq_true rfl) fw_235 rfl rfl dX9_append_12 ?_
  refine fb_tI (v := (0 : Int32)) z9k1 ?_
  refine lv_iload_n hx hb dX9_append_15 rfl (lv_at hl 2 rfl) ?_
  refine lv_iload_n hx hb dX9_append_16 rfl (lv_at hl 0 rfl) ?_
  refine lv_ishr hx hb dX9_append_17 ?_
  refine lv_sipush (v := (255 : Int32)) hx hb dX9_append_18 (by decide) ?_
  refine lv_iand hx hb dX9_append_21 ?_
  refine fb_gV (cs := [fb_aw cI zt0 2000 zk0]) (rs := [fb_o9 zt zt0 zt2 zt3 zt4 z9]) (fun (t : Unit) => [fb_o9 zt zt0 zt2 zt3 zt4 z9, fb_aw cI zt0 2000 (upd zk0 0 ((l1 >>> ((24 : Int32) &&& 31)) &&& (255 : Int32)))]) (fun (t : Unit) => [fb_aw cI zt0 2000 (upd zk0 0 ((l1 >>> ((24 : Int32) &&& 31)) &&& (255 : Int32)))]) X I [1, 0] 2 rfl (by decide +kernel) rfl rfl [1, 0] 2 (fun _ => rfl) (by decide +kernel) (fun _ => rfl) (fun _ => rfl) (fun I => fb_rN (As := [.ref zt0, .int (0 : Int32), .int ((l1 >>> ((24 : Int32) &&& 31)) &&& (255 : Int32))]) (rest := []) X hl fw_756 (List.mem_of_getElem? (i := 11) rfl) fw_191 fw_755 (c_cputn l D cI cJ zt0 zk0 0 ((l1 >>> ((24 : Int32) &&& 31)) &&& (255 : Int32)) _ (by omega)) rfl rfl (by decide +kernel : fb_hd yX11_put 3) ⟨Nat.le_of_ble_eq_true rfl, Nat.le_of_ble_eq_true rfl⟩ rfl rfl (Nat.le_of_ble_eq_true rfl) ⟨Nat.zero_le _, Nat.zero_le _⟩ dX9_append_22 I) ?_
  intro w2 H locs _ I
  have I : fb_In D A s.heap (([fb_o9 zt zt0 zt2 zt3 zt4 z9, fb_aw cI zt0 2000 (upd zk0 0 ((l1 >>> ((24 : Int32) &&& 31)) &&& (255 : Int32)))] : List va_W).flatten) H locs := I
  refine lv_aload_n hx hb dX9_append_25 rfl (lv_at hl 1 rfl) ?_
  refine lv_dup hx hb dX9_append_26 rfl ?_
  refine fb_get X I (k := 1) (v := .int (z9 1)) fu_X9 0 rfl rfl (Nat.le_of_ble_eq_true rfl) fw_235 rfl rfl dX9_append_27 ?_
  refine fb_tI (v := (0 : Int32)) z9k1 ?_
  refine lv_iconst (v := (1 : Int32)) hx hb dX9_append_30 (by decide) ?_
  refine lv_iadd hx hb dX9_append_31 ?_
  refine fb_tI (v := (1 : Int32)) (by decide) ?_
  refine fb_put X I (k := 1) (wn := ([fb_o9 zt zt0 zt2 zt3 zt4 (upd z9 1 (1 : Int32)), fb_aw cI zt0 2000 (upd zk0 0 ((l1 >>> ((24 : Int32) &&& 31)) &&& (255 : Int32)))] : List va_W).flatten) fu_X9 tyX9 tyX9_ok nmX9 0 rfl rfl (Nat.le_of_ble_eq_true rfl) fw_235 rfl rfl rfl rfl rfl (Nat.le_of_ble_eq_true rfl) rfl dX9_append_32 (fun H locs I => ?_)
  refine lv_iinc (v := (16 : Int32)) (lv' := [(2, .int (16 : Int32)), (0, .ref zt), (1, .int l1)]) hx hb dX9_append_35 hl (k := 0) rfl (by decide) (by decide) rfl (fun ls hl => ?_)
  refine lv_goto (tgt := 3) hx hb dX9_append_38 (by decide) ?_
  refine lv_iload_n hx hb dX9_append_3 rfl (lv_at hl 0 rfl) ?_
  refine lv_if_lt (tgt := 41) hx hb dX9_append_4 (by decide) (fun c3 => absurd c3 (by decide)) (fun _ => ?_)
  refine lv_aload_n hx hb dX9_append_7 rfl (lv_at hl 1 rfl) ?_
  refine fb_get X I (k := 0) (v := .ref zt0) fu_X9 0 rfl rfl (Nat.le_of_ble_eq_true rfl) fw_232 rfl rfl dX9_append_8 ?_
  refine lv_aload_n hx hb dX9_append_11 rfl (lv_at hl 1 rfl) ?_
  refine fb_get X I (k := 1) (v := .int (1 : Int32)) fu_X9 0 rfl rfl (Nat.le_of_ble_eq_true rfl) fw_235 rfl rfl dX9_append_12 ?_
  refine lv_iload_n hx hb dX9_append_15 rfl (lv_at hl 2 rfl) ?_
  refine lv_iload_n hx hb dX9_append_16 rfl (lv_at hl 0 rfl) ?_
  refine lv_ishr hx hb dX9_append_17 ?_
  refine lv_sipush (v := (255 : Int32)) hx hb dX9_append_18 (by decide) ?_
  refine lv_iand hx hb dX9_append_21 ?_
  refine fb_gV (cs := [fb_aw cI zt0 2000 (upd zk0 0 ((l1 >>> ((24 : Int32) &&& 31)) &&& (255 : Int32)))]) (rs := [fb_o9 zt zt0 zt2 zt3 zt4 (upd z9 1 (1 : Int32))]) (fun (t : Unit) => [fb_o9 zt zt0 zt2 zt3 zt4 (upd z9 1 (1 : Int32)), fb_aw cI zt0 2000 (upd (upd zk0 0 ((l1 >>> ((24 : Int32) &&& 31)) &&& (255 : Int32))) 1 ((l1 >>> ((16 : Int32) &&& 31)) &&& (255 : Int32)))]) (fun (t : Unit) => [fb_aw cI zt0 2000 (upd (upd zk0 0 ((l1 >>> ((24 : Int32) &&& 31)) &&& (255 : Int32))) 1 ((l1 >>> ((16 : Int32) &&& 31)) &&& (255 : Int32)))]) X I [1, 0] 2 rfl (by decide +kernel) rfl rfl [1, 0] 2 (fun _ => rfl) (by decide +kernel) (fun _ => rfl) (fun _ => rfl) (fun I => fb_rN (As := [.ref zt0, .int (1 : Int32), .int ((l1 >>> ((16 : Int32) &&& 31)) &&& (255 : Int32))]) (rest := []) X hl fw_756 (List.mem_of_getElem? (i := 11) rfl) fw_191 fw_755 (c_cputn l D cI cJ zt0 (upd zk0 0 ((l1 >>> ((24 : Int32) &&& 31)) &&& (255 : Int32))) 1 ((l1 >>> ((16 : Int32) &&& 31)) &&& (255 : Int32)) _ (by omega)) rfl rfl (by decide +kernel : fb_hd yX11_put 3) ⟨Nat.le_of_ble_eq_true rfl, Nat.le_of_ble_eq_true rfl⟩ rfl rfl (Nat.le_of_ble_eq_true rfl) ⟨Nat.zero_le _, Nat.zero_le _⟩ dX9_append_22 I) ?_
  intro w4 H locs _ I
  have I : fb_In D A s.heap (([fb_o9 zt zt0 zt2 zt3 zt4 (upd z9 1 (1 : Int32)), fb_aw cI zt0 2000 (upd (upd zk0 0 ((l1 >>> ((24 : Int32) &&& 31)) &&& (255 : Int32))) 1 ((l1 >>> ((16 : Int32) &&& 31)) &&& (255 : Int32)))] : List va_W).flatten) H locs := I
  refine lv_aload_n hx hb dX9_append_25 rfl (lv_at hl 1 rfl) ?_
  refine lv_dup hx hb dX9_append_26 rfl ?_
  refine fb_get X I (k := 1) (v := .int (1 : Int32)) fu_X9 0 rfl rfl (Nat.le_of_ble_eq_true rfl) fw_235 rfl rfl dX9_append_27 ?_
  refine lv_iconst (v := (1 : Int32)) hx hb dX9_append_30 (by decide) ?_
  refine lv_iadd hx hb dX9_append_31 ?_
  refine fb_tI (v := (2 : Int32)) (by decide) ?_
  refine fb_put X I (k := 1) (wn := ([fb_o9 zt zt0 zt2 zt3 zt4 (upd (upd z9 1 (1 : Int32)) 1 (2 : Int32)), fb_aw cI zt0 2000 (upd (upd zk0 0 ((l1 >>> ((24 : Int32) &&& 31)) &&& (255 : Int32))) 1 ((l1 >>> ((16 : Int32) &&& 31)) &&& (255 : Int32)))] : List va_W).flatten) fu_X9 tyX9 tyX9_ok nmX9 0 rfl rfl (Nat.le_of_ble_eq_true rfl) fw_235 rfl rfl rfl rfl rfl (Nat.le_of_ble_eq_true rfl) rfl dX9_append_32 (fun H locs I => ?_)
  refine lv_iinc (v := (8 : Int32)) (lv' := [(2, .int (8 : Int32)), (0, .ref zt), (1, .int l1)]) hx hb dX9_append_35 hl (k := 0) rfl (by decide) (by decide) rfl (fun ls hl => ?_)
  refine lv_goto (tgt := 3) hx hb dX9_append_38 (by decide) ?_
  refine lv_iload_n hx hb dX9_append_3 rfl (lv_at hl 0 rfl) ?_
  refine lv_if_lt (tgt := 41) hx hb dX9_append_4 (by decide) (fun c5 => absurd c5 (by decide)) (fun _ => ?_)
  refine lv_aload_n hx hb dX9_append_7 rfl (lv_at hl 1 rfl) ?_
  refine fb_get X I (k := 0) (v := .ref zt0) fu_X9 0 rfl rfl (Nat.le_of_ble_eq_true rfl) fw_232 rfl rfl dX9_append_8 ?_
  refine lv_aload_n hx hb dX9_append_11 rfl (lv_at hl 1 rfl) ?_
  refine fb_get X I (k := 1) (v := .int (2 : Int32)) fu_X9 0 rfl rfl (Nat.le_of_ble_eq_true rfl) fw_235 rfl rfl dX9_append_12 ?_
  refine lv_iload_n hx hb dX9_append_15 rfl (lv_at hl 2 rfl) ?_
  refine lv_iload_n hx hb dX9_append_16 rfl (lv_at hl 0 rfl) ?_
  refine lv_ishr hx hb dX9_append_17 ?_
  refine lv_sipush (v := (255 : Int32)) hx hb dX9_append_18 (by decide) ?_
  refine lv_iand hx hb dX9_append_21 ?_
  refine fb_gV (cs := [fb_aw cI zt0 2000 (upd (upd zk0 0 ((l1 >>> ((24 : Int32) &&& 31)) &&& (255 : Int32))) 1 ((l1 >>> ((16 : Int32) &&& 31)) &&& (255 : Int32)))]) (rs := [fb_o9 zt zt0 zt2 zt3 zt4 (upd (upd z9 1 (1 : Int32)) 1 (2 : Int32))]) (fun (t : Unit) => [fb_o9 zt zt0 zt2 zt3 zt4 (upd (upd z9 1 (1 : Int32)) 1 (2 : Int32)), fb_aw cI zt0 2000 (upd (upd (upd zk0 0 ((l1 >>> ((24 : Int32) &&& 31)) &&& (255 : Int32))) 1 ((l1 >>> ((16 : Int32) &&& 31)) &&& (255 : Int32))) 2 ((l1 >>> ((8 : Int32) &&& 31)) &&& (255 : Int32)))]) (fun (t : Unit) => [fb_aw cI zt0 2000 (upd (upd (upd zk0 0 ((l1 >>> ((24 : Int32) &&& 31)) &&& (255 : Int32))) 1 ((l1 >>> ((16 : Int32) &&& 31)) &&& (255 : Int32))) 2 ((l1 >>> ((8 : Int32) &&& 31)) &&& (255 : Int32)))]) X I [1, 0] 2 rfl (by decide +kernel) rfl rfl [1, 0] 2 (fun _ => rfl) (by decide +kernel) (fun _ => rfl) (fun _ => rfl) (fun I => fb_rN (As := [.ref zt0, .int (2 : Int32), .int ((l1 >>> ((8 : Int32) &&& 31)) &&& (255 : Int32))]) (rest := []) X hl fw_756 (List.mem_of_getElem? (i := 11) rfl) fw_191 fw_755 (c_cputn l D cI cJ zt0 (upd (upd zk0 0 ((l1 >>> ((24 : Int32) &&& 31)) &&& (255 : Int32))) 1 ((l1 >>> ((16 : Int32) &&& 31)) &&& (255 : Int32))) 2 ((l1 >>> ((8 : Int32) &&& 31)) &&& (255 : Int32)) _ (by omega)) rfl rfl (by decide +kernel : fb_hd yX11_put 3) ⟨Nat.le_of_ble_eq_true rfl, Nat.le_of_ble_eq_true rfl⟩ rfl rfl (Nat.le_of_ble_eq_true rfl) ⟨Nat.zero_le _, Nat.zero_le _⟩ dX9_append_22 I) ?_
  intro w6 H locs _ I
  have I : fb_In D A s.heap (([fb_o9 zt zt0 zt2 zt3 zt4 (upd (upd z9 1 (1 : Int32)) 1 (2 : Int32)), fb_aw cI zt0 2000 (upd (upd (upd zk0 0 ((l1 >>> ((24 : Int32) &&& 31)) &&& (255 : Int32))) 1 ((l1 >>> ((16 : Int32) &&& 31)) &&& (255 : Int32))) 2 ((l1 >>> ((8 : Int32) &&& 31)) &&& (255 : Int32)))] : List va_W).flatten) H locs := I
  refine lv_aload_n hx hb dX9_append_25 rfl (lv_at hl 1 rfl) ?_
  refine lv_dup hx hb dX9_append_26 rfl ?_
  refine fb_get X I (k := 1) (v := .int (2 : Int32)) fu_X9 0 rfl rfl (Nat.le_of_ble_eq_true rfl) fw_235 rfl rfl dX9_append_27 ?_
  refine lv_iconst (v := (1 : Int32)) hx hb dX9_append_30 (by decide) ?_
  refine lv_iadd hx hb dX9_append_31 ?_
  refine fb_tI (v := (3 : Int32)) (by decide) ?_
  refine fb_put X I (k := 1) (wn := ([fb_o9 zt zt0 zt2 zt3 zt4 (upd (upd (upd z9 1 (1 : Int32)) 1 (2 : Int32)) 1 (3 : Int32)), fb_aw cI zt0 2000 (upd (upd (upd zk0 0 ((l1 >>> ((24 : Int32) &&& 31)) &&& (255 : Int32))) 1 ((l1 >>> ((16 : Int32) &&& 31)) &&& (255 : Int32))) 2 ((l1 >>> ((8 : Int32) &&& 31)) &&& (255 : Int32)))] : List va_W).flatten) fu_X9 tyX9 tyX9_ok nmX9 0 rfl rfl (Nat.le_of_ble_eq_true rfl) fw_235 rfl rfl rfl rfl rfl (Nat.le_of_ble_eq_true rfl) rfl dX9_append_32 (fun H locs I => ?_)
  refine lv_iinc (v := (0 : Int32)) (lv' := [(2, .int (0 : Int32)), (0, .ref zt), (1, .int l1)]) hx hb dX9_append_35 hl (k := 0) rfl (by decide) (by decide) rfl (fun ls hl => ?_)
  refine lv_goto (tgt := 3) hx hb dX9_append_38 (by decide) ?_
  refine lv_iload_n hx hb dX9_append_3 rfl (lv_at hl 0 rfl) ?_
  refine lv_if_lt (tgt := 41) hx hb dX9_append_4 (by decide) (fun c7 => absurd c7 (by decide)) (fun _ => ?_)
  refine lv_aload_n hx hb dX9_append_7 rfl (lv_at hl 1 rfl) ?_
  refine fb_get X I (k := 0) (v := .ref zt0) fu_X9 0 rfl rfl (Nat.le_of_ble_eq_true rfl) fw_232 rfl rfl dX9_append_8 ?_
  refine lv_aload_n hx hb dX9_append_11 rfl (lv_at hl 1 rfl) ?_
  refine fb_get X I (k := 1) (v := .int (3 : Int32)) fu_X9 0 rfl rfl (Nat.le_of_ble_eq_true rfl) fw_235 rfl rfl dX9_append_12 ?_
  refine lv_iload_n hx hb dX9_append_15 rfl (lv_at hl 2 rfl) ?_
  refine lv_iload_n hx hb dX9_append_16 rfl (lv_at hl 0 rfl) ?_
  refine lv_ishr hx hb dX9_append_17 ?_
  refine lv_sipush (v := (255 : Int32)) hx hb dX9_append_18 (by decide) ?_
  refine lv_iand hx hb dX9_append_21 ?_
  refine fb_gV (cs := [fb_aw cI zt0 2000 (upd (upd (upd zk0 0 ((l1 >>> ((24 : Int32) &&& 31)) &&& (255 : Int32))) 1 ((l1 >>> ((16 : Int32) &&& 31)) &&& (255 : Int32))) 2 ((l1 >>> ((8 : Int32) &&& 31)) &&& (255 : Int32)))]) (rs := [fb_o9 zt zt0 zt2 zt3 zt4 (upd (upd (upd z9 1 (1 : Int32)) 1 (2 : Int32)) 1 (3 : Int32))]) (fun (t : Unit) => [fb_o9 zt zt0 zt2 zt3 zt4 (upd (upd (upd z9 1 (1 : Int32)) 1 (2 : Int32)) 1 (3 : Int32)), fb_aw cI zt0 2000 (upd (upd (upd (upd zk0 0 ((l1 >>> ((24 : Int32) &&& 31)) &&& (255 : Int32))) 1 ((l1 >>> ((16 : Int32) &&& 31)) &&& (255 : Int32))) 2 ((l1 >>> ((8 : Int32) &&& 31)) &&& (255 : Int32))) 3 ((l1 >>> ((0 : Int32) &&& 31)) &&& (255 : Int32)))]) (fun (t : Unit) => [fb_aw cI zt0 2000 (upd (upd (upd (upd zk0 0 ((l1 >>> ((24 : Int32) &&& 31)) &&& (255 : Int32))) 1 ((l1 >>> ((16 : Int32) &&& 31)) &&& (255 : Int32))) 2 ((l1 >>> ((8 : Int32) &&& 31)) &&& (255 : Int32))) 3 ((l1 >>> ((0 : Int32) &&& 31)) &&& (255 : Int32)))]) X I [1, 0] 2 rfl (by decide +kernel) rfl rfl [1, 0] 2 (fun _ => rfl) (by decide +kernel) (fun _ => rfl) (fun _ => rfl) (fun I => fb_rN (As := [.ref zt0, .int (3 : Int32), .int ((l1 >>> ((0 : Int32) &&& 31)) &&& (255 : Int32))]) (rest := []) X hl fw_756 (List.mem_of_getElem? (i := 11) rfl) fw_191 fw_755 (c_cputn l D cI cJ zt0 (upd (upd (upd zk0 0 ((l1 >>> ((24 : Int32) &&& 31)) &&& (255 : Int32))) 1 ((l1 >>> ((16 : Int32) &&& 31)) &&& (255 : Int32))) 2 ((l1 >>> ((8 : Int32) &&& 31)) &&& (255 : Int32))) 3 ((l1 >>> ((0 : Int32) &&& 31)) &&& (255 : Int32)) _ (by omega)) rfl rfl (by decide +kernel : fb_hd yX11_put 3) ⟨Nat.le_of_ble_eq_true rfl, Nat.le_of_ble_eq_true rfl⟩ rfl rfl (Nat.le_of_ble_eq_true rfl) ⟨Nat.zero_le _, Nat.zero_le _⟩ dX9_append_22 I) ?_
  intro w8 H locs _ I
  have I : fb_In D A s.heap (([fb_o9 zt zt0 zt2 zt3 zt4 (upd (upd (upd z9 1 (1 : Int32)) 1 (2 : Int32)) 1 (3 : Int32)), fb_aw cI zt0 2000 (upd (upd (upd (upd zk0 0 ((l1 >>> ((24 : Int32) &&& 31)) &&& (255 : Int32))) 1 ((l1 >>> ((16 : Int32) &&& 31)) &&& (255 : Int32))) 2 ((l1 >>> ((8 : Int32) &&& 31)) &&& (255 : Int32))) 3 ((l1 >>> ((0 : Int32) &&& 31)) &&& (255 : Int32)))] : List va_W).flatten) H locs := I
  refine lv_aload_n hx hb dX9_append_25 rfl (lv_at hl 1 rfl) ?_
  refine lv_dup hx hb dX9_append_26 rfl ?_
  refine fb_get X I (k := 1) (v := .int (3 : Int32)) fu_X9 0 rfl rfl (Nat.le_of_ble_eq_true rfl) fw_235 rfl rfl dX9_append_27 ?_
  refine lv_iconst (v := (1 : Int32)) hx hb dX9_append_30 (by decide) ?_
  refine lv_iadd hx hb dX9_append_31 ?_
  refine fb_tI (v := (4 : Int32)) (by decide) ?_
  refine fb_put X I (k := 1) (wn := ([fb_o9 zt zt0 zt2 zt3 zt4 (upd (upd (upd (upd z9 1 (1 : Int32)) 1 (2 : Int32)) 1 (3 : Int32)) 1 (4 : Int32)), fb_aw cI zt0 2000 (upd (upd (upd (upd zk0 0 ((l1 >>> ((24 : Int32) &&& 31)) &&& (255 : Int32))) 1 ((l1 >>> ((16 : Int32) &&& 31)) &&& (255 : Int32))) 2 ((l1 >>> ((8 : Int32) &&& 31)) &&& (255 : Int32))) 3 ((l1 >>> ((0 : Int32) &&& 31)) &&& (255 : Int32)))] : List va_W).flatten) fu_X9 tyX9 tyX9_ok nmX9 0 rfl rfl (Nat.le_of_ble_eq_true rfl) fw_235 rfl rfl rfl rfl rfl (Nat.le_of_ble_eq_true rfl) rfl dX9_append_32 (fun H locs I => ?_)
  refine lv_iinc (v := (-8 : Int32)) (lv' := [(2, .int (-8 : Int32)), (0, .ref zt), (1, .int l1)]) hx hb dX9_append_35 hl (k := 0) rfl (by decide) (by decide) rfl (fun ls hl => ?_)
  refine lv_goto (tgt := 3) hx hb dX9_append_38 (by decide) ?_
  refine lv_iload_n hx hb dX9_append_3 rfl (lv_at hl 0 rfl) ?_
  refine lv_if_lt (tgt := 41) hx hb dX9_append_4 (by decide) (fun _ => ?_) (fun c9 => absurd (by decide) c9)
  obtain ⟨w10, ew10⟩ : ∃ z : fb_AR, (upd (upd (upd (upd zk0 0 ((l1 >>> ((24 : Int32) &&& 31)) &&& (255 : Int32))) 1 ((l1 >>> ((16 : Int32) &&& 31)) &&& (255 : Int32))) 2 ((l1 >>> ((8 : Int32) &&& 31)) &&& (255 : Int32))) 3 ((l1 >>> ((0 : Int32) &&& 31)) &&& (255 : Int32))) = z := ⟨_, rfl⟩
  rw [ew10] at I
  exact fb_retV (u := (w10)) X I trivial dX9_append_41

set_option maxHeartbeats 4000000 in
set_option maxRecDepth 100000 in
theorem c_append4 (l : Launch) (D : va_G) (cI cJ : ClassId) (zt : Nat) (zt0 : Nat) (zt2 : Nat) (zt3 : Nat) (zt4 : Nat) (z9 : fb_AR) (zk0 : fb_AR) (l1 : Int32) (sz : Nat) (z9k1 : z9 1 = (4 : Int32)) : Met l yX9_append (Cond.code yX9_append cX9_append 3 none :: fb_all) ({ frames := 2, cells := 0, slots := 0, locals := 52 } : Room) (fb_PP D (fb_ty D cI cJ) [.ref zt, .int l1] (([fb_o9 zt zt0 zt2 zt3 zt4 z9, fb_aw cI zt0 2000 zk0] : List va_W).flatten) sz) (fb_QV D (va_A (([fb_o9 zt zt0 zt2 zt3 zt4 z9, fb_aw cI zt0 2000 zk0] : List va_W).flatten) sz) (fun (_ : fb_AR) => True) (fun (t : fb_AR) => ([fb_o9 zt zt0 zt2 zt3 zt4 (upd (upd (upd (upd z9 1 (5 : Int32)) 1 (6 : Int32)) 1 (7 : Int32)) 1 (8 : Int32)), fb_aw cI zt0 2000 t] : List va_W).flatten)) 0 0 (va_A (([fb_o9 zt zt0 zt2 zt3 zt4 z9, fb_aw cI zt0 2000 zk0] : List va_W).flatten) sz) := by
  refine fb_ent (Qf := fun A => (fb_QV D A (fun (_ : fb_AR) => True) (fun (t : fb_AR) => ([fb_o9 zt zt0 zt2 zt3 zt4 (upd (upd (upd (upd z9 1 (5 : Int32)) 1 (6 : Int32)) 1 (7 : Int32)) 1 (8 : Int32)), fb_aw cI zt0 2000 t] : List va_W).flatten))) (by decide +kernel) (Nat.le_of_ble_eq_true rfl) ?_
  intro p e s m args below meth c A ls X I hl hin
  obtain ⟨hx, hb, hr, hml, hown, hts, hlk, hA, hK, hF⟩ := id X
  have hl : lv_has ls 3 [(0, .ref zt), (1, .int l1)] := hl
  refine lv_bipush (v := (24 : Int32)) hx hb dX9_append_0 (by decide) ?_
  refine lv_istore_n (lv' := [(2, .int (24 : Int32)), (0, .ref zt), (1, .int l1)]) hx hb dX9_append_2 rfl hl (by decide) rfl (fun ls hl => ?_)
  refine lv_iload_n hx hb dX9_append_3 rfl (lv_at hl 0 rfl) ?_
  refine lv_if_lt (tgt := 41) hx hb dX9_append_4 (by decide) (fun c1 => absurd c1 (by decide)) (fun _ => ?_)
  refine lv_aload_n hx hb dX9_append_7 rfl (lv_at hl 1 rfl) ?_
  refine fb_get X I (k := 0) (v := .ref zt0) fu_X9 0 rfl rfl (Nat.le_of_ble_eq_true rfl) fw_232 rfl rfl dX9_append_8 ?_
  refine lv_aload_n hx hb dX9_append_11 rfl (lv_at hl 1 rfl) ?_
  refine fb_get X I (k := 1) (v := .int (z9 1)) fu_X9 0 rfl rfl (Nat.le_of_ble_eq_true rfl) fw_235 rfl rfl dX9_append_12 ?_
  refine fb_tI (v := (4 : Int32)) z9k1 ?_
  refine lv_iload_n hx hb dX9_append_15 rfl (lv_at hl 2 rfl) ?_
  refine lv_iload_n hx hb dX9_append_16 rfl (lv_at hl 0 rfl) ?_
  refine lv_ishr hx hb dX9_append_17 ?_
  refine lv_sipush (v := (255 : Int32)) hx hb dX9_append_18 (by decide) ?_
  refine lv_iand hx hb dX9_append_21 ?_
  refine fb_gV (cs := [fb_aw cI zt0 2000 zk0]) (rs := [fb_o9 zt zt0 zt2 zt3 zt4 z9]) (fun (t : Unit) => [fb_o9 zt zt0 zt2 zt3 zt4 z9, fb_aw cI zt0 2000 (upd zk0 4 ((l1 >>> ((24 : Int32) &&& 31)) &&& (255 : Int32)))]) (fun (t : Unit) => [fb_aw cI zt0 2000 (upd zk0 4 ((l1 >>> ((24 : Int32) &&& 31)) &&& (255 : Int32)))]) X I [1, 0] 2 rfl (by decide +kernel) rfl rfl [1, 0] 2 (fun _ => rfl) (by decide +kernel) (fun _ => rfl) (fun _ => rfl) (fun I => fb_rN (As := [.ref zt0, .int (4 : Int32), .int ((l1 >>> ((24 : Int32) &&& 31)) &&& (255 : Int32))]) (rest := []) X hl fw_756 (List.mem_of_getElem? (i := 11) rfl) fw_191 fw_755 (c_cputn l D cI cJ zt0 zk0 4 ((l1 >>> ((24 : Int32) &&& 31)) &&& (255 : Int32)) _ (by omega)) rfl rfl (by decide +kernel : fb_hd yX11_put 3) ⟨Nat.le_of_ble_eq_true rfl, Nat.le_of_ble_eq_true rfl⟩ rfl rfl (Nat.le_of_ble_eq_true rfl) ⟨Nat.zero_le _, Nat.zero_le _⟩ dX9_append_22 I) ?_
  intro w2 H locs _ I
  have I : fb_In D A s.heap (([fb_o9 zt zt0 zt2 zt3 zt4 z9, fb_aw cI zt0 2000 (upd zk0 4 ((l1 >>> ((24 : Int32) &&& 31)) &&& (255 : Int32)))] : List va_W).flatten) H locs := I
  refine lv_aload_n hx hb dX9_append_25 rfl (lv_at hl 1 rfl) ?_
  refine lv_dup hx hb dX9_append_26 rfl ?_
  refine fb_get X I (k := 1) (v := .int (z9 1)) fu_X9 0 rfl rfl (Nat.le_of_ble_eq_true rfl) fw_235 rfl rfl dX9_append_27 ?_
  refine fb_tI (v := (4 : Int32)) z9k1 ?_
  refine lv_iconst (v := (1 : Int32)) hx hb dX9_append_30 (by decide) ?_
  refine lv_iadd hx hb dX9_append_31 ?_
  refine fb_tI (v := (5 : Int32)) (by decide) ?_
  refine fb_put X I (k := 1) (wn := ([fb_o9 zt zt0 zt2 zt3 zt4 (upd z9 1 (5 : Int32)), fb_aw cI zt0 2000 (upd zk0 4 ((l1 >>> ((24 : Int32) &&& 31)) &&& (255 : Int32)))] : List va_W).flatten) fu_X9 tyX9 tyX9_ok nmX9 0 rfl rfl (Nat.le_of_ble_eq_true rfl) fw_235 rfl rfl rfl rfl rfl (Nat.le_of_ble_eq_true rfl) rfl dX9_append_32 (fun H locs I => ?_)
  refine lv_iinc (v := (16 : Int32)) (lv' := [(2, .int (16 : Int32)), (0, .ref zt), (1, .int l1)]) hx hb dX9_append_35 hl (k := 0) rfl (by decide) (by decide) rfl (fun ls hl => ?_)
  refine lv_goto (tgt := 3) hx hb dX9_append_38 (by decide) ?_
  refine lv_iload_n hx hb dX9_append_3 rfl (lv_at hl 0 rfl) ?_
  refine lv_if_lt (tgt := 41) hx hb dX9_append_4 (by decide) (fun c3 => absurd c3 (by decide)) (fun _ => ?_)
  refine lv_aload_n hx hb dX9_append_7 rfl (lv_at hl 1 rfl) ?_
  refine fb_get X I (k := 0) (v := .ref zt0) fu_X9 0 rfl rfl (Nat.le_of_ble_eq_true rfl) fw_232 rfl rfl dX9_append_8 ?_
  refine lv_aload_n hx hb dX9_append_11 rfl (lv_at hl 1 rfl) ?_
  refine fb_get X I (k := 1) (v := .int (5 : Int32)) fu_X9 0 rfl rfl (Nat.le_of_ble_eq_true rfl) fw_235 rfl rfl dX9_append_12 ?_
  refine lv_iload_n hx hb dX9_append_15 rfl (lv_at hl 2 rfl) ?_
  refine lv_iload_n hx hb dX9_append_16 rfl (lv_at hl 0 rfl) ?_
  refine lv_ishr hx hb dX9_append_17 ?_
  refine lv_sipush (v := (255 : Int32)) hx hb dX9_append_18 (by decide) ?_
  refine lv_iand hx hb dX9_append_21 ?_
  refine fb_gV (cs := [fb_aw cI zt0 2000 (upd zk0 4 ((l1 >>> ((24 : Int32) &&& 31)) &&& (255 : Int32)))]) (rs := [fb_o9 zt zt0 zt2 zt3 zt4 (upd z9 1 (5 : Int32))]) (fun (t : Unit) => [fb_o9 zt zt0 zt2 zt3 zt4 (upd z9 1 (5 : Int32)), fb_aw cI zt0 2000 (upd (upd zk0 4 ((l1 >>> ((24 : Int32) &&& 31)) &&& (255 : Int32))) 5 ((l1 >>> ((16 : Int32) &&& 31)) &&& (255 : Int32)))]) (fun (t : Unit) => [fb_aw cI zt0 2000 (upd (upd zk0 4 ((l1 >>> ((24 : Int32) &&& 31)) &&& (255 : Int32))) 5 ((l1 >>> ((16 : Int32) &&& 31)) &&& (255 : Int32)))]) X I [1, 0] 2 rfl (by decide +kernel) rfl rfl [1, 0] 2 (fun _ => rfl) (by decide +kernel) (fun _ => rfl) (fun _ => rfl) (fun I => fb_rN (As := [.ref zt0, .int (5 : Int32), .int ((l1 >>> ((16 : Int32) &&& 31)) &&& (255 : Int32))]) (rest := []) X hl fw_756 (List.mem_of_getElem? (i := 11) rfl) fw_191 fw_755 (c_cputn l D cI cJ zt0 (upd zk0 4 ((l1 >>> ((24 : Int32) &&& 31)) &&& (255 : Int32))) 5 ((l1 >>> ((16 : Int32) &&& 31)) &&& (255 : Int32)) _ (by omega)) rfl rfl (by decide +kernel : fb_hd yX11_put 3) ⟨Nat.le_of_ble_eq_true rfl, Nat.le_of_ble_eq_true rfl⟩ rfl rfl (Nat.le_of_ble_eq_true rfl) ⟨Nat.zero_le _, Nat.zero_le _⟩ dX9_append_22 I) ?_
  intro w4 H locs _ I
  have I : fb_In D A s.heap (([fb_o9 zt zt0 zt2 zt3 zt4 (upd z9 1 (5 : Int32)), fb_aw cI zt0 2000 (upd (upd zk0 4 ((l1 >>> ((24 : Int32) &&& 31)) &&& (255 : Int32))) 5 ((l1 >>> ((16 : Int32) &&& 31)) &&& (255 : Int32)))] : List va_W).flatten) H locs := I
  refine lv_aload_n hx hb dX9_append_25 rfl (lv_at hl 1 rfl) ?_
  refine lv_dup hx hb dX9_append_26 rfl ?_
  refine fb_get X I (k := 1) (v := .int (5 : Int32)) fu_X9 0 rfl rfl (Nat.le_of_ble_eq_true rfl) fw_235 rfl rfl dX9_append_27 ?_
  refine lv_iconst (v := (1 : Int32)) hx hb dX9_append_30 (by decide) ?_
  refine lv_iadd hx hb dX9_append_31 ?_
  refine fb_tI (v := (6 : Int32)) (by decide) ?_
  refine fb_put X I (k := 1) (wn := ([fb_o9 zt zt0 zt2 zt3 zt4 (upd (upd z9 1 (5 : Int32)) 1 (6 : Int32)), fb_aw cI zt0 2000 (upd (upd zk0 4 ((l1 >>> ((24 : Int32) &&& 31)) &&& (255 : Int32))) 5 ((l1 >>> ((16 : Int32) &&& 31)) &&& (255 : Int32)))] : List va_W).flatten) fu_X9 tyX9 tyX9_ok nmX9 0 rfl rfl (Nat.le_of_ble_eq_true rfl) fw_235 rfl rfl rfl rfl rfl (Nat.le_of_ble_eq_true rfl) rfl dX9_append_32 (fun H locs I => ?_)
  refine lv_iinc (v := (8 : Int32)) (lv' := [(2, .int (8 : Int32)), (0, .ref zt), (1, .int l1)]) hx hb dX9_append_35 hl (k := 0) rfl (by decide) (by decide) rfl (fun ls hl => ?_)
  refine lv_goto (tgt := 3) hx hb dX9_append_38 (by decide) ?_
  refine lv_iload_n hx hb dX9_append_3 rfl (lv_at hl 0 rfl) ?_
  refine lv_if_lt (tgt := 41) hx hb dX9_append_4 (by decide) (fun c5 => absurd c5 (by decide)) (fun _ => ?_)
  refine lv_aload_n hx hb dX9_append_7 rfl (lv_at hl 1 rfl) ?_
  refine fb_get X I (k := 0) (v := .ref zt0) fu_X9 0 rfl rfl (Nat.le_of_ble_eq_true rfl) fw_232 rfl rfl dX9_append_8 ?_
  refine lv_aload_n hx hb dX9_append_11 rfl (lv_at hl 1 rfl) ?_
  refine fb_get X I (k := 1) (v := .int (6 : Int32)) fu_X9 0 rfl rfl (Nat.le_of_ble_eq_true rfl) fw_235 rfl rfl dX9_append_12 ?_
  refine lv_iload_n hx hb dX9_append_15 rfl (lv_at hl 2 rfl) ?_
  refine lv_iload_n hx hb dX9_append_16 rfl (lv_at hl 0 rfl) ?_
  refine lv_ishr hx hb dX9_append_17 ?_
  refine lv_sipush (v := (255 : Int32)) hx hb dX9_append_18 (by decide) ?_
  refine lv_iand hx hb dX9_append_21 ?_
  refine fb_gV (cs := [fb_aw cI zt0 2000 (upd (upd zk0 4 ((l1 >>> ((24 : Int32) &&& 31)) &&& (255 : Int32))) 5 ((l1 >>> ((16 : Int32) &&& 31)) &&& (255 : Int32)))]) (rs := [fb_o9 zt zt0 zt2 zt3 zt4 (upd (upd z9 1 (5 : Int32)) 1 (6 : Int32))]) (fun (t : Unit) => [fb_o9 zt zt0 zt2 zt3 zt4 (upd (upd z9 1 (5 : Int32)) 1 (6 : Int32)), fb_aw cI zt0 2000 (upd (upd (upd zk0 4 ((l1 >>> ((24 : Int32) &&& 31)) &&& (255 : Int32))) 5 ((l1 >>> ((16 : Int32) &&& 31)) &&& (255 : Int32))) 6 ((l1 >>> ((8 : Int32) &&& 31)) &&& (255 : Int32)))]) (fun (t : Unit) => [fb_aw cI zt0 2000 (upd (upd (upd zk0 4 ((l1 >>> ((24 : Int32) &&& 31)) &&& (255 : Int32))) 5 ((l1 >>> ((16 : Int32) &&& 31)) &&& (255 : Int32))) 6 ((l1 >>> ((8 : Int32) &&& 31)) &&& (255 : Int32)))]) X I [1, 0] 2 rfl (by decide +kernel) rfl rfl [1, 0] 2 (fun _ => rfl) (by decide +kernel) (fun _ => rfl) (fun _ => rfl) (fun I => fb_rN (As := [.ref zt0, .int (6 : Int32), .int ((l1 >>> ((8 : Int32) &&& 31)) &&& (255 : Int32))]) (rest := []) X hl fw_756 (List.mem_of_getElem? (i := 11) rfl) fw_191 fw_755 (c_cputn l D cI cJ zt0 (upd (upd zk0 4 ((l1 >>> ((24 : Int32) &&& 31)) &&& (255 : Int32))) 5 ((l1 >>> ((16 : Int32) &&& 31)) &&& (255 : Int32))) 6 ((l1 >>> ((8 : Int32) &&& 31)) &&& (255 : Int32)) _ (by omega)) rfl rfl (by decide +kernel : fb_hd yX11_put 3) ⟨Nat.le_of_ble_eq_true rfl, Nat.le_of_ble_eq_true rfl⟩ rfl rfl (Nat.le_of_ble_eq_true rfl) ⟨Nat.zero_le _, Nat.zero_le _⟩ dX9_append_22 I) ?_
  intro w6 H locs _ I
  have I : fb_In D A s.heap (([fb_o9 zt zt0 zt2 zt3 zt4 (upd (upd z9 1 (5 : Int32)) 1 (6 : Int32)), fb_aw cI zt0 2000 (upd (upd (upd zk0 4 ((l1 >>> ((24 : Int32) &&& 31)) &&& (255 : Int32))) 5 ((l1 >>> ((16 : Int32) &&& 31)) &&& (255 : Int32))) 6 ((l1 >>> ((8 : Int32) &&& 31)) &&& (255 : Int32)))] : List va_W).flatten) H locs := I
  refine lv_aload_n hx hb dX9_append_25 rfl (lv_at hl 1 rfl) ?_
  refine lv_dup hx hb dX9_append_26 rfl ?_
  refine fb_get X I (k := 1) (v := .int (6 : Int32)) fu_X9 0 rfl rfl (Nat.le_of_ble_eq_true rfl) fw_235 rfl rfl dX9_append_27 ?_
  refine lv_iconst (v := (1 : Int32)) hx hb dX9_append_30 (by decide) ?_
  refine lv_iadd hx hb dX9_append_31 ?_
  refine fb_tI (v := (7 : Int32)) (by decide) ?_
  refine fb_put X I (k := 1) (wn := ([fb_o9 zt zt0 zt2 zt3 zt4 (upd (upd (upd z9 1 (5 : Int32)) 1 (6 : Int32)) 1 (7 : Int32)), fb_aw cI zt0 2000 (upd (upd (upd zk0 4 ((l1 >>> ((24 : Int32) &&& 31)) &&& (255 : Int32))) 5 ((l1 >>> ((16 : Int32) &&& 31)) &&& (255 : Int32))) 6 ((l1 >>> ((8 : Int32) &&& 31)) &&& (255 : Int32)))] : List va_W).flatten) fu_X9 tyX9 tyX9_ok nmX9 0 rfl rfl (Nat.le_of_ble_eq_true rfl) fw_235 rfl rfl rfl rfl rfl (Nat.le_of_ble_eq_true rfl) rfl dX9_append_32 (fun H locs I => ?_)
  refine lv_iinc (v := (0 : Int32)) (lv' := [(2, .int (0 : Int32)), (0, .ref zt), (1, .int l1)]) hx hb dX9_append_35 hl (k := 0) rfl (by decide) (by decide) rfl (fun ls hl => ?_)
  refine lv_goto (tgt := 3) hx hb dX9_append_38 (by decide) ?_
  refine lv_iload_n hx hb dX9_append_3 rfl (lv_at hl 0 rfl) ?_
  refine lv_if_lt (tgt := 41) hx hb dX9_append_4 (by decide) (fun c7 => absurd c7 (by decide)) (fun _ => ?_)
  refine lv_aload_n hx hb dX9_append_7 rfl (lv_at hl 1 rfl) ?_
  refine fb_get X I (k := 0) (v := .ref zt0) fu_X9 0 rfl rfl (Nat.le_of_ble_eq_true rfl) fw_232 rfl rfl dX9_append_8 ?_
  refine lv_aload_n hx hb dX9_append_11 rfl (lv_at hl 1 rfl) ?_
  refine fb_get X I (k := 1) (v := .int (7 : Int32)) fu_X9 0 rfl rfl (Nat.le_of_ble_eq_true rfl) fw_235 rfl rfl dX9_append_12 ?_
  refine lv_iload_n hx hb dX9_append_15 rfl (lv_at hl 2 rfl) ?_
  refine lv_iload_n hx hb dX9_append_16 rfl (lv_at hl 0 rfl) ?_
  refine lv_ishr hx hb dX9_append_17 ?_
  refine lv_sipush (v := (255 : Int32)) hx hb dX9_append_18 (by decide) ?_
  refine lv_iand hx hb dX9_append_21 ?_
  refine fb_gV (cs := [fb_aw cI zt0 2000 (upd (upd (upd zk0 4 ((l1 >>> ((24 : Int32) &&& 31)) &&& (255 : Int32))) 5 ((l1 >>> ((16 : Int32) &&& 31)) &&& (255 : Int32))) 6 ((l1 >>> ((8 : Int32) &&& 31)) &&& (255 : Int32)))]) (rs := [fb_o9 zt zt0 zt2 zt3 zt4 (upd (upd (upd z9 1 (5 : Int32)) 1 (6 : Int32)) 1 (7 : Int32))]) (fun (t : Unit) => [fb_o9 zt zt0 zt2 zt3 zt4 (upd (upd (upd z9 1 (5 : Int32)) 1 (6 : Int32)) 1 (7 : Int32)), fb_aw cI zt0 2000 (upd (upd (upd (upd zk0 4 ((l1 >>> ((24 : Int32) &&& 31)) &&& (255 : Int32))) 5 ((l1 >>> ((16 : Int32) &&& 31)) &&& (255 : Int32))) 6 ((l1 >>> ((8 : Int32) &&& 31)) &&& (255 : Int32))) 7 ((l1 >>> ((0 : Int32) &&& 31)) &&& (255 : Int32)))]) (fun (t : Unit) => [fb_aw cI zt0 2000 (upd (upd (upd (upd zk0 4 ((l1 >>> ((24 : Int32) &&& 31)) &&& (255 : Int32))) 5 ((l1 >>> ((16 : Int32) &&& 31)) &&& (255 : Int32))) 6 ((l1 >>> ((8 : Int32) &&& 31)) &&& (255 : Int32))) 7 ((l1 >>> ((0 : Int32) &&& 31)) &&& (255 : Int32)))]) X I [1, 0] 2 rfl (by decide +kernel) rfl rfl [1, 0] 2 (fun _ => rfl) (by decide +kernel) (fun _ => rfl) (fun _ => rfl) (fun I => fb_rN (As := [.ref zt0, .int (7 : Int32), .int ((l1 >>> ((0 : Int32) &&& 31)) &&& (255 : Int32))]) (rest := []) X hl fw_756 (List.mem_of_getElem? (i := 11) rfl) fw_191 fw_755 (c_cputn l D cI cJ zt0 (upd (upd (upd zk0 4 ((l1 >>> ((24 : Int32) &&& 31)) &&& (255 : Int32))) 5 ((l1 >>> ((16 : Int32) &&& 31)) &&& (255 : Int32))) 6 ((l1 >>> ((8 : Int32) &&& 31)) &&& (255 : Int32))) 7 ((l1 >>> ((0 : Int32) &&& 31)) &&& (255 : Int32)) _ (by omega)) rfl rfl (by decide +kernel : fb_hd yX11_put 3) ⟨Nat.le_of_ble_eq_true rfl, Nat.le_of_ble_eq_true rfl⟩ rfl rfl (Nat.le_of_ble_eq_true rfl) ⟨Nat.zero_le _, Nat.zero_le _⟩ dX9_append_22 I) ?_
  intro w8 H locs _ I
  have I : fb_In D A s.heap (([fb_o9 zt zt0 zt2 zt3 zt4 (upd (upd (upd z9 1 (5 : Int32)) 1 (6 : Int32)) 1 (7 : Int32)), fb_aw cI zt0 2000 (upd (upd (upd (upd zk0 4 ((l1 >>> ((24 : Int32) &&& 31)) &&& (255 : Int32))) 5 ((l1 >>> ((16 : Int32) &&& 31)) &&& (255 : Int32))) 6 ((l1 >>> ((8 : Int32) &&& 31)) &&& (255 : Int32))) 7 ((l1 >>> ((0 : Int32) &&& 31)) &&& (255 : Int32)))] : List va_W).flatten) H locs := I
  refine lv_aload_n hx hb dX9_append_25 rfl (lv_at hl 1 rfl) ?_
  refine lv_dup hx hb dX9_append_26 rfl ?_
  refine fb_get X I (k := 1) (v := .int (7 : Int32)) fu_X9 0 rfl rfl (Nat.le_of_ble_eq_true rfl) fw_235 rfl rfl dX9_append_27 ?_
  refine lv_iconst (v := (1 : Int32)) hx hb dX9_append_30 (by decide) ?_
  refine lv_iadd hx hb dX9_append_31 ?_
  refine fb_tI (v := (8 : Int32)) (by decide) ?_
  refine fb_put X I (k := 1) (wn := ([fb_o9 zt zt0 zt2 zt3 zt4 (upd (upd (upd (upd z9 1 (5 : Int32)) 1 (6 : Int32)) 1 (7 : Int32)) 1 (8 : Int32)), fb_aw cI zt0 2000 (upd (upd (upd (upd zk0 4 ((l1 >>> ((24 : Int32) &&& 31)) &&& (255 : Int32))) 5 ((l1 >>> ((16 : Int32) &&& 31)) &&& (255 : Int32))) 6 ((l1 >>> ((8 : Int32) &&& 31)) &&& (255 : Int32))) 7 ((l1 >>> ((0 : Int32) &&& 31)) &&& (255 : Int32)))] : List va_W).flatten) fu_X9 tyX9 tyX9_ok nmX9 0 rfl rfl (Nat.le_of_ble_eq_true rfl) fw_235 rfl rfl rfl rfl rfl (Nat.le_of_ble_eq_true rfl) rfl dX9_append_32 (fun H locs I => ?_)
  refine lv_iinc (v := (-8 : Int32)) (lv' := [(2, .int (-8 : Int32)), (0, .ref zt), (1, .int l1)]) hx hb dX9_append_35 hl (k := 0) rfl (by decide) (by decide) rfl (fun ls hl => ?_)
  refine lv_goto (tgt := 3) hx hb dX9_append_38 (by decide) ?_
  refine lv_iload_n hx hb dX9_append_3 rfl (lv_at hl 0 rfl) ?_
  refine lv_if_lt (tgt := 41) hx hb dX9_append_4 (by decide) (fun _ => ?_) (fun c9 => absurd (by decide) c9)
  obtain ⟨w10, ew10⟩ : ∃ z : fb_AR, (upd (upd (upd (upd zk0 4 ((l1 >>> ((24 : Int32) &&& 31)) &&& (255 : Int32))) 5 ((l1 >>> ((16 : Int32) &&& 31)) &&& (255 : Int32))) 6 ((l1 >>> ((8 : Int32) &&& 31)) &&& (255 : Int32))) 7 ((l1 >>> ((0 : Int32) &&& 31)) &&& (255 : Int32))) = z := ⟨_, rfl⟩
  rw [ew10] at I
  exact fb_retV (u := (w10)) X I trivial dX9_append_41

set_option maxHeartbeats 4000000 in
set_option maxRecDepth 100000 in
theorem c_append8 (l : Launch) (D : va_G) (cI cJ : ClassId) (zt : Nat) (zt0 : Nat) (zt2 : Nat) (zt3 : Nat) (zt4 : Nat) (z9 : fb_AR) (zk0 : fb_AR) (l1 : Int32) (sz : Nat) (z9k1 : z9 1 = (8 : Int32)) : Met l yX9_append (Cond.code yX9_append cX9_append 3 none :: fb_all) ({ frames := 2, cells := 0, slots := 0, locals := 52 } : Room) (fb_PP D (fb_ty D cI cJ) [.ref zt, .int l1] (([fb_o9 zt zt0 zt2 zt3 zt4 z9, fb_aw cI zt0 2000 zk0] : List va_W).flatten) sz) (fb_QV D (va_A (([fb_o9 zt zt0 zt2 zt3 zt4 z9, fb_aw cI zt0 2000 zk0] : List va_W).flatten) sz) (fun (_ : fb_AR) => True) (fun (t : fb_AR) => ([fb_o9 zt zt0 zt2 zt3 zt4 (upd (upd (upd (upd z9 1 (9 : Int32)) 1 (10 : Int32)) 1 (11 : Int32)) 1 (12 : Int32)), fb_aw cI zt0 2000 t] : List va_W).flatten)) 0 0 (va_A (([fb_o9 zt zt0 zt2 zt3 zt4 z9, fb_aw cI zt0 2000 zk0] : List va_W).flatten) sz) := by
  refine fb_ent (Qf := fun A => (fb_QV D A (fun (_ : fb_AR) => True) (fun (t : fb_AR) => ([fb_o9 zt zt0 zt2 zt3 zt4 (upd (upd (upd (upd z9 1 (9 : Int32)) 1 (10 : Int32)) 1 (11 : Int32)) 1 (12 : Int32)), fb_aw cI zt0 2000 t] : List va_W).flatten))) (by decide +kernel) (Nat.le_of_ble_eq_true rfl) ?_
  intro p e s m args below meth c A ls X I hl hin
  obtain ⟨hx, hb, hr, hml, hown, hts, hlk, hA, hK, hF⟩ := id X
  have hl : lv_has ls 3 [(0, .ref zt), (1, .int l1)] := hl
  refine lv_bipush (v := (24 : Int32)) hx hb dX9_append_0 (by decide) ?_
  refine lv_istore_n (lv' := [(2, .int (24 : Int32)), (0, .ref zt), (1, .int l1)]) hx hb dX9_append_2 rfl hl (by decide) rfl (fun ls hl => ?_)
  refine lv_iload_n hx hb dX9_append_3 rfl (lv_at hl 0 rfl) ?_
  refine lv_if_lt (tgt := 41) hx hb dX9_append_4 (by decide) (fun c1 => absurd c1 (by decide)) (fun _ => ?_)
  refine lv_aload_n hx hb dX9_append_7 rfl (lv_at hl 1 rfl) ?_
  refine fb_get X I (k := 0) (v := .ref zt0) fu_X9 0 rfl rfl (Nat.le_of_ble_eq_true rfl) fw_232 rfl rfl dX9_append_8 ?_
  refine lv_aload_n hx hb dX9_append_11 rfl (lv_at hl 1 rfl) ?_
  refine fb_get X I (k := 1) (v := .int (z9 1)) fu_X9 0 rfl rfl (Nat.le_of_ble_eq_true rfl) fw_235 rfl rfl dX9_append_12 ?_
  refine fb_tI (v := (8 : Int32)) z9k1 ?_
  refine lv_iload_n hx hb dX9_append_15 rfl (lv_at hl 2 rfl) ?_
  refine lv_iload_n hx hb dX9_append_16 rfl (lv_at hl 0 rfl) ?_
  refine lv_ishr hx hb dX9_append_17 ?_
  refine lv_sipush (v := (255 : Int32)) hx hb dX9_append_18 (by decide) ?_
  refine lv_iand hx hb dX9_append_21 ?_
  refine fb_gV (cs := [fb_aw cI zt0 2000 zk0]) (rs := [fb_o9 zt zt0 zt2 zt3 zt4 z9]) (fun (t : Unit) => [fb_o9 zt zt0 zt2 zt3 zt4 z9, fb_aw cI zt0 2000 (upd zk0 8 ((l1 >>> ((24 : Int32) &&& 31)) &&& (255 : Int32)))]) (fun (t : Unit) => [fb_aw cI zt0 2000 (upd zk0 8 ((l1 >>> ((24 : Int32) &&& 31)) &&& (255 : Int32)))]) X I [1, 0] 2 rfl (by decide +kernel) rfl rfl [1, 0] 2 (fun _ => rfl) (by decide +kernel) (fun _ => rfl) (fun _ => rfl) (fun I => fb_rN (As := [.ref zt0, .int (8 : Int32), .int ((l1 >>> ((24 : Int32) &&& 31)) &&& (255 : Int32))]) (rest := []) X hl fw_756 (List.mem_of_getElem? (i := 11) rfl) fw_191 fw_755 (c_cputn l D cI cJ zt0 zk0 8 ((l1 >>> ((24 : Int32) &&& 31)) &&& (255 : Int32)) _ (by omega)) rfl rfl (by decide +kernel : fb_hd yX11_put 3) ⟨Nat.le_of_ble_eq_true rfl, Nat.le_of_ble_eq_true rfl⟩ rfl rfl (Nat.le_of_ble_eq_true rfl) ⟨Nat.zero_le _, Nat.zero_le _⟩ dX9_append_22 I) ?_
  intro w2 H locs _ I
  have I : fb_In D A s.heap (([fb_o9 zt zt0 zt2 zt3 zt4 z9, fb_aw cI zt0 2000 (upd zk0 8 ((l1 >>> ((24 : Int32) &&& 31)) &&& (255 : Int32)))] : List va_W).flatten) H locs := I
  refine lv_aload_n hx hb dX9_append_25 rfl (lv_at hl 1 rfl) ?_
  refine lv_dup hx hb dX9_append_26 rfl ?_
  refine fb_get X I (k := 1) (v := .int (z9 1)) fu_X9 0 rfl rfl (Nat.le_of_ble_eq_true rfl) fw_235 rfl rfl dX9_append_27 ?_
  refine fb_tI (v := (8 : Int32)) z9k1 ?_
  refine lv_iconst (v := (1 : Int32)) hx hb dX9_append_30 (by decide) ?_
  refine lv_iadd hx hb dX9_append_31 ?_
  refine fb_tI (v := (9 : Int32)) (by decide) ?_
  refine fb_put X I (k := 1) (wn := ([fb_o9 zt zt0 zt2 zt3 zt4 (upd z9 1 (9 : Int32)), fb_aw cI zt0 2000 (upd zk0 8 ((l1 >>> ((24 : Int32) &&& 31)) &&& (255 : Int32)))] : List va_W).flatten) fu_X9 tyX9 tyX9_ok nmX9 0 rfl rfl (Nat.le_of_ble_eq_true rfl) fw_235 rfl rfl rfl rfl rfl (Nat.le_of_ble_eq_true rfl) rfl dX9_append_32 (fun H locs I => ?_)
  refine lv_iinc (v := (16 : Int32)) (lv' := [(2, .int (16 : Int32)), (0, .ref zt), (1, .int l1)]) hx hb dX9_append_35 hl (k := 0) rfl (by decide) (by decide) rfl (fun ls hl => ?_)
  refine lv_goto (tgt := 3) hx hb dX9_append_38 (by decide) ?_
  refine lv_iload_n hx hb dX9_append_3 rfl (lv_at hl 0 rfl) ?_
  refine lv_if_lt (tgt := 41) hx hb dX9_append_4 (by decide) (fun c3 => absurd c3 (by decide)) (fun _ => ?_)
  refine lv_aload_n hx hb dX9_append_7 rfl (lv_at hl 1 rfl) ?_
  refine fb_get X I (k := 0) (v := .ref zt0) fu_X9 0 rfl rfl (Nat.le_of_ble_eq_true rfl) fw_232 rfl rfl dX9_append_8 ?_
  refine lv_aload_n hx hb dX9_append_11 rfl (lv_at hl 1 rfl) ?_
  refine fb_get X I (k := 1) (v := .int (9 : Int32)) fu_X9 0 rfl rfl (Nat.le_of_ble_eq_true rfl) fw_235 rfl rfl dX9_append_12 ?_
  refine lv_iload_n hx hb dX9_append_15 rfl (lv_at hl 2 rfl) ?_
  refine lv_iload_n hx hb dX9_append_16 rfl (lv_at hl 0 rfl) ?_
  refine lv_ishr hx hb dX9_append_17 ?_
  refine lv_sipush (v := (255 : Int32)) hx hb dX9_append_18 (by decide) ?_
  refine lv_iand hx hb dX9_append_21 ?_
  refine fb_gV (cs := [fb_aw cI zt0 2000 (upd zk0 8 ((l1 >>> ((24 : Int32) &&& 31)) &&& (255 : Int32)))]) (rs := [fb_o9 zt zt0 zt2 zt3 zt4 (upd z9 1 (9 : Int32))]) (fun (t : Unit) => [fb_o9 zt zt0 zt2 zt3 zt4 (upd z9 1 (9 : Int32)), fb_aw cI zt0 2000 (upd (upd zk0 8 ((l1 >>> ((24 : Int32) &&& 31)) &&& (255 : Int32))) 9 ((l1 >>> ((16 : Int32) &&& 31)) &&& (255 : Int32)))]) (fun (t : Unit) => [fb_aw cI zt0 2000 (upd (upd zk0 8 ((l1 >>> ((24 : Int32) &&& 31)) &&& (255 : Int32))) 9 ((l1 >>> ((16 : Int32) &&& 31)) &&& (255 : Int32)))]) X I [1, 0] 2 rfl (by decide +kernel) rfl rfl [1, 0] 2 (fun _ => rfl) (by decide +kernel) (fun _ => rfl) (fun _ => rfl) (fun I => fb_rN (As := [.ref zt0, .int (9 : Int32), .int ((l1 >>> ((16 : Int32) &&& 31)) &&& (255 : Int32))]) (rest := []) X hl fw_756 (List.mem_of_getElem? (i := 11) rfl) fw_191 fw_755 (c_cputn l D cI cJ zt0 (upd zk0 8 ((l1 >>> ((24 : Int32) &&& 31)) &&& (255 : Int32))) 9 ((l1 >>> ((16 : Int32) &&& 31)) &&& (255 : Int32)) _ (by omega)) rfl rfl (by decide +kernel : fb_hd yX11_put 3) ⟨Nat.le_of_ble_eq_true rfl, Nat.le_of_ble_eq_true rfl⟩ rfl rfl (Nat.le_of_ble_eq_true rfl) ⟨Nat.zero_le _, Nat.zero_le _⟩ dX9_append_22 I) ?_
  intro w4 H locs _ I
  have I : fb_In D A s.heap (([fb_o9 zt zt0 zt2 zt3 zt4 (upd z9 1 (9 : Int32)), fb_aw cI zt0 2000 (upd (upd zk0 8 ((l1 >>> ((24 : Int32) &&& 31)) &&& (255 : Int32))) 9 ((l1 >>> ((16 : Int32) &&& 31)) &&& (255 : Int32)))] : List va_W).flatten) H locs := I
  refine lv_aload_n hx hb dX9_append_25 rfl (lv_at hl 1 rfl) ?_
  refine lv_dup hx hb dX9_append_26 rfl ?_
  refine fb_get X I (k := 1) (v := .int (9 : Int32)) fu_X9 0 rfl rfl (Nat.le_of_ble_eq_true rfl) fw_235 rfl rfl dX9_append_27 ?_
  refine lv_iconst (v := (1 : Int32)) hx hb dX9_append_30 (by decide) ?_
  refine lv_iadd hx hb dX9_append_31 ?_
  refine fb_tI (v := (10 : Int32)) (by decide) ?_
  refine fb_put X I (k := 1) (wn := ([fb_o9 zt zt0 zt2 zt3 zt4 (upd (upd z9 1 (9 : Int32)) 1 (10 : Int32)), fb_aw cI zt0 2000 (upd (upd zk0 8 ((l1 >>> ((24 : Int32) &&& 31)) &&& (255 : Int32))) 9 ((l1 >>> ((16 : Int32) &&& 31)) &&& (255 : Int32)))] : List va_W).flatten) fu_X9 tyX9 tyX9_ok nmX9 0 rfl rfl (Nat.le_of_ble_eq_true rfl) fw_235 rfl rfl rfl rfl rfl (Nat.le_of_ble_eq_true rfl) rfl dX9_append_32 (fun H locs I => ?_)
  refine lv_iinc (v := (8 : Int32)) (lv' := [(2, .int (8 : Int32)), (0, .ref zt), (1, .int l1)]) hx hb dX9_append_35 hl (k := 0) rfl (by decide) (by decide) rfl (fun ls hl => ?_)
  refine lv_goto (tgt := 3) hx hb dX9_append_38 (by decide) ?_
  refine lv_iload_n hx hb dX9_append_3 rfl (lv_at hl 0 rfl) ?_
  refine lv_if_lt (tgt := 41) hx hb dX9_append_4 (by decide) (fun c5 => absurd c5 (by decide)) (fun _ => ?_)
  refine lv_aload_n hx hb dX9_append_7 rfl (lv_at hl 1 rfl) ?_
  refine fb_get X I (k := 0) (v := .ref zt0) fu_X9 0 rfl rfl (Nat.le_of_ble_eq_true rfl) fw_232 rfl rfl dX9_append_8 ?_
  refine lv_aload_n hx hb dX9_append_11 rfl (lv_at hl 1 rfl) ?_
  refine fb_get X I (k := 1) (v := .int (10 : Int32)) fu_X9 0 rfl rfl (Nat.le_of_ble_eq_true rfl) fw_235 rfl rfl dX9_append_12 ?_
  refine lv_iload_n hx hb dX9_append_15 rfl (lv_at hl 2 rfl) ?_
  refine lv_iload_n hx hb dX9_append_16 rfl (lv_at hl 0 rfl) ?_
  refine lv_ishr hx hb dX9_append_17 ?_
  refine lv_sipush (v := (255 : Int32)) hx hb dX9_append_18 (by decide) ?_
  refine lv_iand hx hb dX9_append_21 ?_
  refine fb_gV (cs := [fb_aw cI zt0 2000 (upd (upd zk0 8 ((l1 >>> ((24 : Int32) &&& 31)) &&& (255 : Int32))) 9 ((l1 >>> ((16 : Int32) &&& 31)) &&& (255 : Int32)))]) (rs := [fb_o9 zt zt0 zt2 zt3 zt4 (upd (upd z9 1 (9 : Int32)) 1 (10 : Int32))]) (fun (t : Unit) => [fb_o9 zt zt0 zt2 zt3 zt4 (upd (upd z9 1 (9 : Int32)) 1 (10 : Int32)), fb_aw cI zt0 2000 (upd (upd (upd zk0 8 ((l1 >>> ((24 : Int32) &&& 31)) &&& (255 : Int32))) 9 ((l1 >>> ((16 : Int32) &&& 31)) &&& (255 : Int32))) 10 ((l1 >>> ((8 : Int32) &&& 31)) &&& (255 : Int32)))]) (fun (t : Unit) => [fb_aw cI zt0 2000 (upd (upd (upd zk0 8 ((l1 >>> ((24 : Int32) &&& 31)) &&& (255 : Int32))) 9 ((l1 >>> ((16 : Int32) &&& 31)) &&& (255 : Int32))) 10 ((l1 >>> ((8 : Int32) &&& 31)) &&& (255 : Int32)))]) X I [1, 0] 2 rfl (by decide +kernel) rfl rfl [1, 0] 2 (fun _ => rfl) (by decide +kernel) (fun _ => rfl) (fun _ => rfl) (fun I => fb_rN (As := [.ref zt0, .int (10 : Int32), .int ((l1 >>> ((8 : Int32) &&& 31)) &&& (255 : Int32))]) (rest := []) X hl fw_756 (List.mem_of_getElem? (i := 11) rfl) fw_191 fw_755 (c_cputn l D cI cJ zt0 (upd (upd zk0 8 ((l1 >>> ((24 : Int32) &&& 31)) &&& (255 : Int32))) 9 ((l1 >>> ((16 : Int32) &&& 31)) &&& (255 : Int32))) 10 ((l1 >>> ((8 : Int32) &&& 31)) &&& (255 : Int32)) _ (by omega)) rfl rfl (by decide +kernel : fb_hd yX11_put 3) ⟨Nat.le_of_ble_eq_true rfl, Nat.le_of_ble_eq_true rfl⟩ rfl rfl (Nat.le_of_ble_eq_true rfl) ⟨Nat.zero_le _, Nat.zero_le _⟩ dX9_append_22 I) ?_
  intro w6 H locs _ I
  have I : fb_In D A s.heap (([fb_o9 zt zt0 zt2 zt3 zt4 (upd (upd z9 1 (9 : Int32)) 1 (10 : Int32)), fb_aw cI zt0 2000 (upd (upd (upd zk0 8 ((l1 >>> ((24 : Int32) &&& 31)) &&& (255 : Int32))) 9 ((l1 >>> ((16 : Int32) &&& 31)) &&& (255 : Int32))) 10 ((l1 >>> ((8 : Int32) &&& 31)) &&& (255 : Int32)))] : List va_W).flatten) H locs := I
  refine lv_aload_n hx hb dX9_append_25 rfl (lv_at hl 1 rfl) ?_
  refine lv_dup hx hb dX9_append_26 rfl ?_
  refine fb_get X I (k := 1) (v := .int (10 : Int32)) fu_X9 0 rfl rfl (Nat.le_of_ble_eq_true rfl) fw_235 rfl rfl dX9_append_27 ?_
  refine lv_iconst (v := (1 : Int32)) hx hb dX9_append_30 (by decide) ?_
  refine lv_iadd hx hb dX9_append_31 ?_
  refine fb_tI (v := (11 : Int32)) (by decide) ?_
  refine fb_put X I (k := 1) (wn := ([fb_o9 zt zt0 zt2 zt3 zt4 (upd (upd (upd z9 1 (9 : Int32)) 1 (10 : Int32)) 1 (11 : Int32)), fb_aw cI zt0 2000 (upd (upd (upd zk0 8 ((l1 >>> ((24 : Int32) &&& 31)) &&& (255 : Int32))) 9 ((l1 >>> ((16 : Int32) &&& 31)) &&& (255 : Int32))) 10 ((l1 >>> ((8 : Int32) &&& 31)) &&& (255 : Int32)))] : List va_W).flatten) fu_X9 tyX9 tyX9_ok nmX9 0 rfl rfl (Nat.le_of_ble_eq_true rfl) fw_235 rfl rfl rfl rfl rfl (Nat.le_of_ble_eq_true rfl) rfl dX9_append_32 (fun H locs I => ?_)
  refine lv_iinc (v := (0 : Int32)) (lv' := [(2, .int (0 : Int32)), (0, .ref zt), (1, .int l1)]) hx hb dX9_append_35 hl (k := 0) rfl (by decide) (by decide) rfl (fun ls hl => ?_)
  refine lv_goto (tgt := 3) hx hb dX9_append_38 (by decide) ?_
  refine lv_iload_n hx hb dX9_append_3 rfl (lv_at hl 0 rfl) ?_
  refine lv_if_lt (tgt := 41) hx hb dX9_append_4 (by decide) (fun c7 => absurd c7 (by decide)) (fun _ => ?_)
  refine lv_aload_n hx hb dX9_append_7 rfl (lv_at hl 1 rfl) ?_
  refine fb_get X I (k := 0) (v := .ref zt0) fu_X9 0 rfl rfl (Nat.le_of_ble_eq_true rfl) fw_232 rfl rfl dX9_append_8 ?_
  refine lv_aload_n hx hb dX9_append_11 rfl (lv_at hl 1 rfl) ?_
  refine fb_get X I (k := 1) (v := .int (11 : Int32)) fu_X9 0 rfl rfl (Nat.le_of_ble_eq_true rfl) fw_235 rfl rfl dX9_append_12 ?_
  refine lv_iload_n hx hb dX9_append_15 rfl (lv_at hl 2 rfl) ?_
  refine lv_iload_n hx hb dX9_append_16 rfl (lv_at hl 0 rfl) ?_
  refine lv_ishr hx hb dX9_append_17 ?_
  refine lv_sipush (v := (255 : Int32)) hx hb dX9_append_18 (by decide) ?_
  refine lv_iand hx hb dX9_append_21 ?_
  refine fb_gV (cs := [fb_aw cI zt0 2000 (upd (upd (upd zk0 8 ((l1 >>> ((24 : Int32) &&& 31)) &&& (255 : Int32))) 9 ((l1 >>> ((16 : Int32) &&& 31)) &&& (255 : Int32))) 10 ((l1 >>> ((8 : Int32) &&& 31)) &&& (255 : Int32)))]) (rs := [fb_o9 zt zt0 zt2 zt3 zt4 (upd (upd (upd z9 1 (9 : Int32)) 1 (10 : Int32)) 1 (11 : Int32))]) (fun (t : Unit) => [fb_o9 zt zt0 zt2 zt3 zt4 (upd (upd (upd z9 1 (9 : Int32)) 1 (10 : Int32)) 1 (11 : Int32)), fb_aw cI zt0 2000 (upd (upd (upd (upd zk0 8 ((l1 >>> ((24 : Int32) &&& 31)) &&& (255 : Int32))) 9 ((l1 >>> ((16 : Int32) &&& 31)) &&& (255 : Int32))) 10 ((l1 >>> ((8 : Int32) &&& 31)) &&& (255 : Int32))) 11 ((l1 >>> ((0 : Int32) &&& 31)) &&& (255 : Int32)))]) (fun (t : Unit) => [fb_aw cI zt0 2000 (upd (upd (upd (upd zk0 8 ((l1 >>> ((24 : Int32) &&& 31)) &&& (255 : Int32))) 9 ((l1 >>> ((16 : Int32) &&& 31)) &&& (255 : Int32))) 10 ((l1 >>> ((8 : Int32) &&& 31)) &&& (255 : Int32))) 11 ((l1 >>> ((0 : Int32) &&& 31)) &&& (255 : Int32)))]) X I [1, 0] 2 rfl (by decide +kernel) rfl rfl [1, 0] 2 (fun _ => rfl) (by decide +kernel) (fun _ => rfl) (fun _ => rfl) (fun I => fb_rN (As := [.ref zt0, .int (11 : Int32), .int ((l1 >>> ((0 : Int32) &&& 31)) &&& (255 : Int32))]) (rest := []) X hl fw_756 (List.mem_of_getElem? (i := 11) rfl) fw_191 fw_755 (c_cputn l D cI cJ zt0 (upd (upd (upd zk0 8 ((l1 >>> ((24 : Int32) &&& 31)) &&& (255 : Int32))) 9 ((l1 >>> ((16 : Int32) &&& 31)) &&& (255 : Int32))) 10 ((l1 >>> ((8 : Int32) &&& 31)) &&& (255 : Int32))) 11 ((l1 >>> ((0 : Int32) &&& 31)) &&& (255 : Int32)) _ (by omega)) rfl rfl (by decide +kernel : fb_hd yX11_put 3) ⟨Nat.le_of_ble_eq_true rfl, Nat.le_of_ble_eq_true rfl⟩ rfl rfl (Nat.le_of_ble_eq_true rfl) ⟨Nat.zero_le _, Nat.zero_le _⟩ dX9_append_22 I) ?_
  intro w8 H locs _ I
  have I : fb_In D A s.heap (([fb_o9 zt zt0 zt2 zt3 zt4 (upd (upd (upd z9 1 (9 : Int32)) 1 (10 : Int32)) 1 (11 : Int32)), fb_aw cI zt0 2000 (upd (upd (upd (upd zk0 8 ((l1 >>> ((24 : Int32) &&& 31)) &&& (255 : Int32))) 9 ((l1 >>> ((16 : Int32) &&& 31)) &&& (255 : Int32))) 10 ((l1 >>> ((8 : Int32) &&& 31)) &&& (255 : Int32))) 11 ((l1 >>> ((0 : Int32) &&& 31)) &&& (255 : Int32)))] : List va_W).flatten) H locs := I
  refine lv_aload_n hx hb dX9_append_25 rfl (lv_at hl 1 rfl) ?_
  refine lv_dup hx hb dX9_append_26 rfl ?_
  refine fb_get X I (k := 1) (v := .int (11 : Int32)) fu_X9 0 rfl rfl (Nat.le_of_ble_eq_true rfl) fw_235 rfl rfl dX9_append_27 ?_
  refine lv_iconst (v := (1 : Int32)) hx hb dX9_append_30 (by decide) ?_
  refine lv_iadd hx hb dX9_append_31 ?_
  refine fb_tI (v := (12 : Int32)) (by decide) ?_
  refine fb_put X I (k := 1) (wn := ([fb_o9 zt zt0 zt2 zt3 zt4 (upd (upd (upd (upd z9 1 (9 : Int32)) 1 (10 : Int32)) 1 (11 : Int32)) 1 (12 : Int32)), fb_aw cI zt0 2000 (upd (upd (upd (upd zk0 8 ((l1 >>> ((24 : Int32) &&& 31)) &&& (255 : Int32))) 9 ((l1 >>> ((16 : Int32) &&& 31)) &&& (255 : Int32))) 10 ((l1 >>> ((8 : Int32) &&& 31)) &&& (255 : Int32))) 11 ((l1 >>> ((0 : Int32) &&& 31)) &&& (255 : Int32)))] : List va_W).flatten) fu_X9 tyX9 tyX9_ok nmX9 0 rfl rfl (Nat.le_of_ble_eq_true rfl) fw_235 rfl rfl rfl rfl rfl (Nat.le_of_ble_eq_true rfl) rfl dX9_append_32 (fun H locs I => ?_)
  refine lv_iinc (v := (-8 : Int32)) (lv' := [(2, .int (-8 : Int32)), (0, .ref zt), (1, .int l1)]) hx hb dX9_append_35 hl (k := 0) rfl (by decide) (by decide) rfl (fun ls hl => ?_)
  refine lv_goto (tgt := 3) hx hb dX9_append_38 (by decide) ?_
  refine lv_iload_n hx hb dX9_append_3 rfl (lv_at hl 0 rfl) ?_
  refine lv_if_lt (tgt := 41) hx hb dX9_append_4 (by decide) (fun _ => ?_) (fun c9 => absurd (by decide) c9)
  obtain ⟨w10, ew10⟩ : ∃ z : fb_AR, (upd (upd (upd (upd zk0 8 ((l1 >>> ((24 : Int32) &&& 31)) &&& (255 : Int32))) 9 ((l1 >>> ((16 : Int32) &&& 31)) &&& (255 : Int32))) 10 ((l1 >>> ((8 : Int32) &&& 31)) &&& (255 : Int32))) 11 ((l1 >>> ((0 : Int32) &&& 31)) &&& (255 : Int32))) = z := ⟨_, rfl⟩
  rw [ew10] at I
  exact fb_retV (u := (w10)) X I trivial dX9_append_41

set_option maxHeartbeats 4000000 in
set_option maxRecDepth 100000 in
theorem c_append12 (l : Launch) (D : va_G) (cI cJ : ClassId) (zt : Nat) (zt0 : Nat) (zt2 : Nat) (zt3 : Nat) (zt4 : Nat) (z9 : fb_AR) (zk0 : fb_AR) (l1 : Int32) (sz : Nat) (z9k1 : z9 1 = (12 : Int32)) : Met l yX9_append (Cond.code yX9_append cX9_append 3 none :: fb_all) ({ frames := 2, cells := 0, slots := 0, locals := 52 } : Room) (fb_PP D (fb_ty D cI cJ) [.ref zt, .int l1] (([fb_o9 zt zt0 zt2 zt3 zt4 z9, fb_aw cI zt0 2000 zk0] : List va_W).flatten) sz) (fb_QV D (va_A (([fb_o9 zt zt0 zt2 zt3 zt4 z9, fb_aw cI zt0 2000 zk0] : List va_W).flatten) sz) (fun (_ : fb_AR) => True) (fun (t : fb_AR) => ([fb_o9 zt zt0 zt2 zt3 zt4 (upd (upd (upd (upd z9 1 (13 : Int32)) 1 (14 : Int32)) 1 (15 : Int32)) 1 (16 : Int32)), fb_aw cI zt0 2000 t] : List va_W).flatten)) 0 0 (va_A (([fb_o9 zt zt0 zt2 zt3 zt4 z9, fb_aw cI zt0 2000 zk0] : List va_W).flatten) sz) := by
  refine fb_ent (Qf := fun A => (fb_QV D A (fun (_ : fb_AR) => True) (fun (t : fb_AR) => ([fb_o9 zt zt0 zt2 zt3 zt4 (upd (upd (upd (upd z9 1 (13 : Int32)) 1 (14 : Int32)) 1 (15 : Int32)) 1 (16 : Int32)), fb_aw cI zt0 2000 t] : List va_W).flatten))) (by decide +kernel) (Nat.le_of_ble_eq_true rfl) ?_
  intro p e s m args below meth c A ls X I hl hin
  obtain ⟨hx, hb, hr, hml, hown, hts, hlk, hA, hK, hF⟩ := id X
  have hl : lv_has ls 3 [(0, .ref zt), (1, .int l1)] := hl
  refine lv_bipush (v := (24 : Int32)) hx hb dX9_append_0 (by decide) ?_
  refine lv_istore_n (lv' := [(2, .int (24 : Int32)), (0, .ref zt), (1, .int l1)]) hx hb dX9_append_2 rfl hl (by decide) rfl (fun ls hl => ?_)
  refine lv_iload_n hx hb dX9_append_3 rfl (lv_at hl 0 rfl) ?_
  refine lv_if_lt (tgt := 41) hx hb dX9_append_4 (by decide) (fun c1 => absurd c1 (by decide)) (fun _ => ?_)
  refine lv_aload_n hx hb dX9_append_7 rfl (lv_at hl 1 rfl) ?_
  refine fb_get X I (k := 0) (v := .ref zt0) fu_X9 0 rfl rfl (Nat.le_of_ble_eq_true rfl) fw_232 rfl rfl dX9_append_8 ?_
  refine lv_aload_n hx hb dX9_append_11 rfl (lv_at hl 1 rfl) ?_
  refine fb_get X I (k := 1) (v := .int (z9 1)) fu_X9 0 rfl rfl (Nat.le_of_ble_eq_true rfl) fw_235 rfl rfl dX9_append_12 ?_
  refine fb_tI (v := (12 : Int32)) z9k1 ?_
  refine lv_iload_n hx hb dX9_append_15 rfl (lv_at hl 2 rfl) ?_
  refine lv_iload_n hx hb dX9_append_16 rfl (lv_at hl 0 rfl) ?_
  refine lv_ishr hx hb dX9_append_17 ?_
  refine lv_sipush (v := (255 : Int32)) hx hb dX9_append_18 (by decide) ?_
  refine lv_iand hx hb dX9_append_21 ?_
  refine fb_gV (cs := [fb_aw cI zt0 2000 zk0]) (rs := [fb_o9 zt zt0 zt2 zt3 zt4 z9]) (fun (t : Unit) => [fb_o9 zt zt0 zt2 zt3 zt4 z9, fb_aw cI zt0 2000 (upd zk0 12 ((l1 >>> ((24 : Int32) &&& 31)) &&& (255 : Int32)))]) (fun (t : Unit) => [fb_aw cI zt0 2000 (upd zk0 12 ((l1 >>> ((24 : Int32) &&& 31)) &&& (255 : Int32)))]) X I [1, 0] 2 rfl (by decide +kernel) rfl rfl [1, 0] 2 (fun _ => rfl) (by decide +kernel) (fun _ => rfl) (fun _ => rfl) (fun I => fb_rN (As := [.ref zt0, .int (12 : Int32), .int ((l1 >>> ((24 : Int32) &&& 31)) &&& (255 : Int32))]) (rest := []) X hl fw_756 (List.mem_of_getElem? (i := 11) rfl) fw_191 fw_755 (c_cputn l D cI cJ zt0 zk0 12 ((l1 >>> ((24 : Int32) &&& 31)) &&& (255 : Int32)) _ (by omega)) rfl rfl (by decide +kernel : fb_hd yX11_put 3) ⟨Nat.le_of_ble_eq_true rfl, Nat.le_of_ble_eq_true rfl⟩ rfl rfl (Nat.le_of_ble_eq_true rfl) ⟨Nat.zero_le _, Nat.zero_le _⟩ dX9_append_22 I) ?_
  intro w2 H locs _ I
  have I : fb_In D A s.heap (([fb_o9 zt zt0 zt2 zt3 zt4 z9, fb_aw cI zt0 2000 (upd zk0 12 ((l1 >>> ((24 : Int32) &&& 31)) &&& (255 : Int32)))] : List va_W).flatten) H locs := I
  refine lv_aload_n hx hb dX9_append_25 rfl (lv_at hl 1 rfl) ?_
  refine lv_dup hx hb dX9_append_26 rfl ?_
  refine fb_get X I (k := 1) (v := .int (z9 1)) fu_X9 0 rfl rfl (Nat.le_of_ble_eq_true rfl) fw_235 rfl rfl dX9_append_27 ?_
  refine fb_tI (v := (12 : Int32)) z9k1 ?_
  refine lv_iconst (v := (1 : Int32)) hx hb dX9_append_30 (by decide) ?_
  refine lv_iadd hx hb dX9_append_31 ?_
  refine fb_tI (v := (13 : Int32)) (by decide) ?_
  refine fb_put X I (k := 1) (wn := ([fb_o9 zt zt0 zt2 zt3 zt4 (upd z9 1 (13 : Int32)), fb_aw cI zt0 2000 (upd zk0 12 ((l1 >>> ((24 : Int32) &&& 31)) &&& (255 : Int32)))] : List va_W).flatten) fu_X9 tyX9 tyX9_ok nmX9 0 rfl rfl (Nat.le_of_ble_eq_true rfl) fw_235 rfl rfl rfl rfl rfl (Nat.le_of_ble_eq_true rfl) rfl dX9_append_32 (fun H locs I => ?_)
  refine lv_iinc (v := (16 : Int32)) (lv' := [(2, .int (16 : Int32)), (0, .ref zt), (1, .int l1)]) hx hb dX9_append_35 hl (k := 0) rfl (by decide) (by decide) rfl (fun ls hl => ?_)
  refine lv_goto (tgt := 3) hx hb dX9_append_38 (by decide) ?_
  refine lv_iload_n hx hb dX9_append_3 rfl (lv_at hl 0 rfl) ?_
  refine lv_if_lt (tgt := 41) hx hb dX9_append_4 (by decide) (fun c3 => absurd c3 (by decide)) (fun _ => ?_)
  refine lv_aload_n hx hb dX9_append_7 rfl (lv_at hl 1 rfl) ?_
  refine fb_get X I (k := 0) (v := .ref zt0) fu_X9 0 rfl rfl (Nat.le_of_ble_eq_true rfl) fw_232 rfl rfl dX9_append_8 ?_
  refine lv_aload_n hx hb dX9_append_11 rfl (lv_at hl 1 rfl) ?_
  refine fb_get X I (k := 1) (v := .int (13 : Int32)) fu_X9 0 rfl rfl (Nat.le_of_ble_eq_true rfl) fw_235 rfl rfl dX9_append_12 ?_
  refine lv_iload_n hx hb dX9_append_15 rfl (lv_at hl 2 rfl) ?_
  refine lv_iload_n hx hb dX9_append_16 rfl (lv_at hl 0 rfl) ?_
  refine lv_ishr hx hb dX9_append_17 ?_
  refine lv_sipush (v := (255 : Int32)) hx hb dX9_append_18 (by decide) ?_
  refine lv_iand hx hb dX9_append_21 ?_
  refine fb_gV (cs := [fb_aw cI zt0 2000 (upd zk0 12 ((l1 >>> ((24 : Int32) &&& 31)) &&& (255 : Int32)))]) (rs := [fb_o9 zt zt0 zt2 zt3 zt4 (upd z9 1 (13 : Int32))]) (fun (t : Unit) => [fb_o9 zt zt0 zt2 zt3 zt4 (upd z9 1 (13 : Int32)), fb_aw cI zt0 2000 (upd (upd zk0 12 ((l1 >>> ((24 : Int32) &&& 31)) &&& (255 : Int32))) 13 ((l1 >>> ((16 : Int32) &&& 31)) &&& (255 : Int32)))]) (fun (t : Unit) => [fb_aw cI zt0 2000 (upd (upd zk0 12 ((l1 >>> ((24 : Int32) &&& 31)) &&& (255 : Int32))) 13 ((l1 >>> ((16 : Int32) &&& 31)) &&& (255 : Int32)))]) X I [1, 0] 2 rfl (by decide +kernel) rfl rfl [1, 0] 2 (fun _ => rfl) (by decide +kernel) (fun _ => rfl) (fun _ => rfl) (fun I => fb_rN (As := [.ref zt0, .int (13 : Int32), .int ((l1 >>> ((16 : Int32) &&& 31)) &&& (255 : Int32))]) (rest := []) X hl fw_756 (List.mem_of_getElem? (i := 11) rfl) fw_191 fw_755 (c_cputn l D cI cJ zt0 (upd zk0 12 ((l1 >>> ((24 : Int32) &&& 31)) &&& (255 : Int32))) 13 ((l1 >>> ((16 : Int32) &&& 31)) &&& (255 : Int32)) _ (by omega)) rfl rfl (by decide +kernel : fb_hd yX11_put 3) ⟨Nat.le_of_ble_eq_true rfl, Nat.le_of_ble_eq_true rfl⟩ rfl rfl (Nat.le_of_ble_eq_true rfl) ⟨Nat.zero_le _, Nat.zero_le _⟩ dX9_append_22 I) ?_
  intro w4 H locs _ I
  have I : fb_In D A s.heap (([fb_o9 zt zt0 zt2 zt3 zt4 (upd z9 1 (13 : Int32)), fb_aw cI zt0 2000 (upd (upd zk0 12 ((l1 >>> ((24 : Int32) &&& 31)) &&& (255 : Int32))) 13 ((l1 >>> ((16 : Int32) &&& 31)) &&& (255 : Int32)))] : List va_W).flatten) H locs := I
  refine lv_aload_n hx hb dX9_append_25 rfl (lv_at hl 1 rfl) ?_
  refine lv_dup hx hb dX9_append_26 rfl ?_
  refine fb_get X I (k := 1) (v := .int (13 : Int32)) fu_X9 0 rfl rfl (Nat.le_of_ble_eq_true rfl) fw_235 rfl rfl dX9_append_27 ?_
  refine lv_iconst (v := (1 : Int32)) hx hb dX9_append_30 (by decide) ?_
  refine lv_iadd hx hb dX9_append_31 ?_
  refine fb_tI (v := (14 : Int32)) (by decide) ?_
  refine fb_put X I (k := 1) (wn := ([fb_o9 zt zt0 zt2 zt3 zt4 (upd (upd z9 1 (13 : Int32)) 1 (14 : Int32)), fb_aw cI zt0 2000 (upd (upd zk0 12 ((l1 >>> ((24 : Int32) &&& 31)) &&& (255 : Int32))) 13 ((l1 >>> ((16 : Int32) &&& 31)) &&& (255 : Int32)))] : List va_W).flatten) fu_X9 tyX9 tyX9_ok nmX9 0 rfl rfl (Nat.le_of_ble_eq_true rfl) fw_235 rfl rfl rfl rfl rfl (Nat.le_of_ble_eq_true rfl) rfl dX9_append_32 (fun H locs I => ?_)
  refine lv_iinc (v := (8 : Int32)) (lv' := [(2, .int (8 : Int32)), (0, .ref zt), (1, .int l1)]) hx hb dX9_append_35 hl (k := 0) rfl (by decide) (by decide) rfl (fun ls hl => ?_)
  refine lv_goto (tgt := 3) hx hb dX9_append_38 (by decide) ?_
  refine lv_iload_n hx hb dX9_append_3 rfl (lv_at hl 0 rfl) ?_
  refine lv_if_lt (tgt := 41) hx hb dX9_append_4 (by decide) (fun c5 => absurd c5 (by decide)) (fun _ => ?_)
  refine lv_aload_n hx hb dX9_append_7 rfl (lv_at hl 1 rfl) ?_
  refine fb_get X I (k := 0) (v := .ref zt0) fu_X9 0 rfl rfl (Nat.le_of_ble_eq_true rfl) fw_232 rfl rfl dX9_append_8 ?_
  refine lv_aload_n hx hb dX9_append_11 rfl (lv_at hl 1 rfl) ?_
  refine fb_get X I (k := 1) (v := .int (14 : Int32)) fu_X9 0 rfl rfl (Nat.le_of_ble_eq_true rfl) fw_235 rfl rfl dX9_append_12 ?_
  refine lv_iload_n hx hb dX9_append_15 rfl (lv_at hl 2 rfl) ?_
  refine lv_iload_n hx hb dX9_append_16 rfl (lv_at hl 0 rfl) ?_
  refine lv_ishr hx hb dX9_append_17 ?_
  refine lv_sipush (v := (255 : Int32)) hx hb dX9_append_18 (by decide) ?_
  refine lv_iand hx hb dX9_append_21 ?_
  refine fb_gV (cs := [fb_aw cI zt0 2000 (upd (upd zk0 12 ((l1 >>> ((24 : Int32) &&& 31)) &&& (255 : Int32))) 13 ((l1 >>> ((16 : Int32) &&& 31)) &&& (255 : Int32)))]) (rs := [fb_o9 zt zt0 zt2 zt3 zt4 (upd (upd z9 1 (13 : Int32)) 1 (14 : Int32))]) (fun (t : Unit) => [fb_o9 zt zt0 zt2 zt3 zt4 (upd (upd z9 1 (13 : Int32)) 1 (14 : Int32)), fb_aw cI zt0 2000 (upd (upd (upd zk0 12 ((l1 >>> ((24 : Int32) &&& 31)) &&& (255 : Int32))) 13 ((l1 >>> ((16 : Int32) &&& 31)) &&& (255 : Int32))) 14 ((l1 >>> ((8 : Int32) &&& 31)) &&& (255 : Int32)))]) (fun (t : Unit) => [fb_aw cI zt0 2000 (upd (upd (upd zk0 12 ((l1 >>> ((24 : Int32) &&& 31)) &&& (255 : Int32))) 13 ((l1 >>> ((16 : Int32) &&& 31)) &&& (255 : Int32))) 14 ((l1 >>> ((8 : Int32) &&& 31)) &&& (255 : Int32)))]) X I [1, 0] 2 rfl (by decide +kernel) rfl rfl [1, 0] 2 (fun _ => rfl) (by decide +kernel) (fun _ => rfl) (fun _ => rfl) (fun I => fb_rN (As := [.ref zt0, .int (14 : Int32), .int ((l1 >>> ((8 : Int32) &&& 31)) &&& (255 : Int32))]) (rest := []) X hl fw_756 (List.mem_of_getElem? (i := 11) rfl) fw_191 fw_755 (c_cputn l D cI cJ zt0 (upd (upd zk0 12 ((l1 >>> ((24 : Int32) &&& 31)) &&& (255 : Int32))) 13 ((l1 >>> ((16 : Int32) &&& 31)) &&& (255 : Int32))) 14 ((l1 >>> ((8 : Int32) &&& 31)) &&& (255 : Int32)) _ (by omega)) rfl rfl (by decide +kernel : fb_hd yX11_put 3) ⟨Nat.le_of_ble_eq_true rfl, Nat.le_of_ble_eq_true rfl⟩ rfl rfl (Nat.le_of_ble_eq_true rfl) ⟨Nat.zero_le _, Nat.zero_le _⟩ dX9_append_22 I) ?_
  intro w6 H locs _ I
  have I : fb_In D A s.heap (([fb_o9 zt zt0 zt2 zt3 zt4 (upd (upd z9 1 (13 : Int32)) 1 (14 : Int32)), fb_aw cI zt0 2000 (upd (upd (upd zk0 12 ((l1 >>> ((24 : Int32) &&& 31)) &&& (255 : Int32))) 13 ((l1 >>> ((16 : Int32) &&& 31)) &&& (255 : Int32))) 14 ((l1 >>> ((8 : Int32) &&& 31)) &&& (255 : Int32)))] : List va_W).flatten) H locs := I
  refine lv_aload_n hx hb dX9_append_25 rfl (lv_at hl 1 rfl) ?_
  refine lv_dup hx hb dX9_append_26 rfl ?_
  refine fb_get X I (k := 1) (v := .int (14 : Int32)) fu_X9 0 rfl rfl (Nat.le_of_ble_eq_true rfl) fw_235 rfl rfl dX9_append_27 ?_
  refine lv_iconst (v := (1 : Int32)) hx hb dX9_append_30 (by decide) ?_
  refine lv_iadd hx hb dX9_append_31 ?_
  refine fb_tI (v := (15 : Int32)) (by decide) ?_
  refine fb_put X I (k := 1) (wn := ([fb_o9 zt zt0 zt2 zt3 zt4 (upd (upd (upd z9 1 (13 : Int32)) 1 (14 : Int32)) 1 (15 : Int32)), fb_aw cI zt0 2000 (upd (upd (upd zk0 12 ((l1 >>> ((24 : Int32) &&& 31)) &&& (255 : Int32))) 13 ((l1 >>> ((16 : Int32) &&& 31)) &&& (255 : Int32))) 14 ((l1 >>> ((8 : Int32) &&& 31)) &&& (255 : Int32)))] : List va_W).flatten) fu_X9 tyX9 tyX9_ok nmX9 0 rfl rfl (Nat.le_of_ble_eq_true rfl) fw_235 rfl rfl rfl rfl rfl (Nat.le_of_ble_eq_true rfl) rfl dX9_append_32 (fun H locs I => ?_)
  refine lv_iinc (v := (0 : Int32)) (lv' := [(2, .int (0 : Int32)), (0, .ref zt), (1, .int l1)]) hx hb dX9_append_35 hl (k := 0) rfl (by decide) (by decide) rfl (fun ls hl => ?_)
  refine lv_goto (tgt := 3) hx hb dX9_append_38 (by decide) ?_
  refine lv_iload_n hx hb dX9_append_3 rfl (lv_at hl 0 rfl) ?_
  refine lv_if_lt (tgt := 41) hx hb dX9_append_4 (by decide) (fun c7 => absurd c7 (by decide)) (fun _ => ?_)
  refine lv_aload_n hx hb dX9_append_7 rfl (lv_at hl 1 rfl) ?_
  refine fb_get X I (k := 0) (v := .ref zt0) fu_X9 0 rfl rfl (Nat.le_of_ble_eq_true rfl) fw_232 rfl rfl dX9_append_8 ?_
  refine lv_aload_n hx hb dX9_append_11 rfl (lv_at hl 1 rfl) ?_
  refine fb_get X I (k := 1) (v := .int (15 : Int32)) fu_X9 0 rfl rfl (Nat.le_of_ble_eq_true rfl) fw_235 rfl rfl dX9_append_12 ?_
  refine lv_iload_n hx hb dX9_append_15 rfl (lv_at hl 2 rfl) ?_
  refine lv_iload_n hx hb dX9_append_16 rfl (lv_at hl 0 rfl) ?_
  refine lv_ishr hx hb dX9_append_17 ?_
  refine lv_sipush (v := (255 : Int32)) hx hb dX9_append_18 (by decide) ?_
  refine lv_iand hx hb dX9_append_21 ?_
  refine fb_gV (cs := [fb_aw cI zt0 2000 (upd (upd (upd zk0 12 ((l1 >>> ((24 : Int32) &&& 31)) &&& (255 : Int32))) 13 ((l1 >>> ((16 : Int32) &&& 31)) &&& (255 : Int32))) 14 ((l1 >>> ((8 : Int32) &&& 31)) &&& (255 : Int32)))]) (rs := [fb_o9 zt zt0 zt2 zt3 zt4 (upd (upd (upd z9 1 (13 : Int32)) 1 (14 : Int32)) 1 (15 : Int32))]) (fun (t : Unit) => [fb_o9 zt zt0 zt2 zt3 zt4 (upd (upd (upd z9 1 (13 : Int32)) 1 (14 : Int32)) 1 (15 : Int32)), fb_aw cI zt0 2000 (upd (upd (upd (upd zk0 12 ((l1 >>> ((24 : Int32) &&& 31)) &&& (255 : Int32))) 13 ((l1 >>> ((16 : Int32) &&& 31)) &&& (255 : Int32))) 14 ((l1 >>> ((8 : Int32) &&& 31)) &&& (255 : Int32))) 15 ((l1 >>> ((0 : Int32) &&& 31)) &&& (255 : Int32)))]) (fun (t : Unit) => [fb_aw cI zt0 2000 (upd (upd (upd (upd zk0 12 ((l1 >>> ((24 : Int32) &&& 31)) &&& (255 : Int32))) 13 ((l1 >>> ((16 : Int32) &&& 31)) &&& (255 : Int32))) 14 ((l1 >>> ((8 : Int32) &&& 31)) &&& (255 : Int32))) 15 ((l1 >>> ((0 : Int32) &&& 31)) &&& (255 : Int32)))]) X I [1, 0] 2 rfl (by decide +kernel) rfl rfl [1, 0] 2 (fun _ => rfl) (by decide +kernel) (fun _ => rfl) (fun _ => rfl) (fun I => fb_rN (As := [.ref zt0, .int (15 : Int32), .int ((l1 >>> ((0 : Int32) &&& 31)) &&& (255 : Int32))]) (rest := []) X hl fw_756 (List.mem_of_getElem? (i := 11) rfl) fw_191 fw_755 (c_cputn l D cI cJ zt0 (upd (upd (upd zk0 12 ((l1 >>> ((24 : Int32) &&& 31)) &&& (255 : Int32))) 13 ((l1 >>> ((16 : Int32) &&& 31)) &&& (255 : Int32))) 14 ((l1 >>> ((8 : Int32) &&& 31)) &&& (255 : Int32))) 15 ((l1 >>> ((0 : Int32) &&& 31)) &&& (255 : Int32)) _ (by omega)) rfl rfl (by decide +kernel : fb_hd yX11_put 3) ⟨Nat.le_of_ble_eq_true rfl, Nat.le_of_ble_eq_true rfl⟩ rfl rfl (Nat.le_of_ble_eq_true rfl) ⟨Nat.zero_le _, Nat.zero_le _⟩ dX9_append_22 I) ?_
  intro w8 H locs _ I
  have I : fb_In D A s.heap (([fb_o9 zt zt0 zt2 zt3 zt4 (upd (upd (upd z9 1 (13 : Int32)) 1 (14 : Int32)) 1 (15 : Int32)), fb_aw cI zt0 2000 (upd (upd (upd (upd zk0 12 ((l1 >>> ((24 : Int32) &&& 31)) &&& (255 : Int32))) 13 ((l1 >>> ((16 : Int32) &&& 31)) &&& (255 : Int32))) 14 ((l1 >>> ((8 : Int32) &&& 31)) &&& (255 : Int32))) 15 ((l1 >>> ((0 : Int32) &&& 31)) &&& (255 : Int32)))] : List va_W).flatten) H locs := I
  refine lv_aload_n hx hb dX9_append_25 rfl (lv_at hl 1 rfl) ?_
  refine lv_dup hx hb dX9_append_26 rfl ?_
  refine fb_get X I (k := 1) (v := .int (15 : Int32)) fu_X9 0 rfl rfl (Nat.le_of_ble_eq_true rfl) fw_235 rfl rfl dX9_append_27 ?_
  refine lv_iconst (v := (1 : Int32)) hx hb dX9_append_30 (by decide) ?_
  refine lv_iadd hx hb dX9_append_31 ?_
  refine fb_tI (v := (16 : Int32)) (by decide) ?_
  refine fb_put X I (k := 1) (wn := ([fb_o9 zt zt0 zt2 zt3 zt4 (upd (upd (upd (upd z9 1 (13 : Int32)) 1 (14 : Int32)) 1 (15 : Int32)) 1 (16 : Int32)), fb_aw cI zt0 2000 (upd (upd (upd (upd zk0 12 ((l1 >>> ((24 : Int32) &&& 31)) &&& (255 : Int32))) 13 ((l1 >>> ((16 : Int32) &&& 31)) &&& (255 : Int32))) 14 ((l1 >>> ((8 : Int32) &&& 31)) &&& (255 : Int32))) 15 ((l1 >>> ((0 : Int32) &&& 31)) &&& (255 : Int32)))] : List va_W).flatten) fu_X9 tyX9 tyX9_ok nmX9 0 rfl rfl (Nat.le_of_ble_eq_true rfl) fw_235 rfl rfl rfl rfl rfl (Nat.le_of_ble_eq_true rfl) rfl dX9_append_32 (fun H locs I => ?_)
  refine lv_iinc (v := (-8 : Int32)) (lv' := [(2, .int (-8 : Int32)), (0, .ref zt), (1, .int l1)]) hx hb dX9_append_35 hl (k := 0) rfl (by decide) (by decide) rfl (fun ls hl => ?_)
  refine lv_goto (tgt := 3) hx hb dX9_append_38 (by decide) ?_
  refine lv_iload_n hx hb dX9_append_3 rfl (lv_at hl 0 rfl) ?_
  refine lv_if_lt (tgt := 41) hx hb dX9_append_4 (by decide) (fun _ => ?_) (fun c9 => absurd (by decide) c9)
  obtain ⟨w10, ew10⟩ : ∃ z : fb_AR, (upd (upd (upd (upd zk0 12 ((l1 >>> ((24 : Int32) &&& 31)) &&& (255 : Int32))) 13 ((l1 >>> ((16 : Int32) &&& 31)) &&& (255 : Int32))) 14 ((l1 >>> ((8 : Int32) &&& 31)) &&& (255 : Int32))) 15 ((l1 >>> ((0 : Int32) &&& 31)) &&& (255 : Int32))) = z := ⟨_, rfl⟩
  rw [ew10] at I
  exact fb_retV (u := (w10)) X I trivial dX9_append_41

set_option maxHeartbeats 4000000 in
set_option maxRecDepth 100000 in
theorem c_append16 (l : Launch) (D : va_G) (cI cJ : ClassId) (zt : Nat) (zt0 : Nat) (zt2 : Nat) (zt3 : Nat) (zt4 : Nat) (z9 : fb_AR) (zk0 : fb_AR) (l1 : Int32) (sz : Nat) (z9k1 : z9 1 = (16 : Int32)) : Met l yX9_append (Cond.code yX9_append cX9_append 3 none :: fb_all) ({ frames := 2, cells := 0, slots := 0, locals := 52 } : Room) (fb_PP D (fb_ty D cI cJ) [.ref zt, .int l1] (([fb_o9 zt zt0 zt2 zt3 zt4 z9, fb_aw cI zt0 2000 zk0] : List va_W).flatten) sz) (fb_QV D (va_A (([fb_o9 zt zt0 zt2 zt3 zt4 z9, fb_aw cI zt0 2000 zk0] : List va_W).flatten) sz) (fun (_ : fb_AR) => True) (fun (t : fb_AR) => ([fb_o9 zt zt0 zt2 zt3 zt4 (upd (upd (upd (upd z9 1 (17 : Int32)) 1 (18 : Int32)) 1 (19 : Int32)) 1 (20 : Int32)), fb_aw cI zt0 2000 t] : List va_W).flatten)) 0 0 (va_A (([fb_o9 zt zt0 zt2 zt3 zt4 z9, fb_aw cI zt0 2000 zk0] : List va_W).flatten) sz) := by
  refine fb_ent (Qf := fun A => (fb_QV D A (fun (_ : fb_AR) => True) (fun (t : fb_AR) => ([fb_o9 zt zt0 zt2 zt3 zt4 (upd (upd (upd (upd z9 1 (17 : Int32)) 1 (18 : Int32)) 1 (19 : Int32)) 1 (20 : Int32)), fb_aw cI zt0 2000 t] : List va_W).flatten))) (by decide +kernel) (Nat.le_of_ble_eq_true rfl) ?_
  intro p e s m args below meth c A ls X I hl hin
  obtain ⟨hx, hb, hr, hml, hown, hts, hlk, hA, hK, hF⟩ := id X
  have hl : lv_has ls 3 [(0, .ref zt), (1, .int l1)] := hl
  refine lv_bipush (v := (24 : Int32)) hx hb dX9_append_0 (by decide) ?_
  refine lv_istore_n (lv' := [(2, .int (24 : Int32)), (0, .ref zt), (1, .int l1)]) hx hb dX9_append_2 rfl hl (by decide) rfl (fun ls hl => ?_)
  refine lv_iload_n hx hb dX9_append_3 rfl (lv_at hl 0 rfl) ?_
  refine lv_if_lt (tgt := 41) hx hb dX9_append_4 (by decide) (fun c1 => absurd c1 (by decide)) (fun _ => ?_)
  refine lv_aload_n hx hb dX9_append_7 rfl (lv_at hl 1 rfl) ?_
  refine fb_get X I (k := 0) (v := .ref zt0) fu_X9 0 rfl rfl (Nat.le_of_ble_eq_true rfl) fw_232 rfl rfl dX9_append_8 ?_
  refine lv_aload_n hx hb dX9_append_11 rfl (lv_at hl 1 rfl) ?_
  refine fb_get X I (k := 1) (v := .int (z9 1)) fu_X9 0 rfl rfl (Nat.le_of_ble_eq_true rfl) fw_235 rfl rfl dX9_append_12 ?_
  refine fb_tI (v := (16 : Int32)) z9k1 ?_
  refine lv_iload_n hx hb dX9_append_15 rfl (lv_at hl 2 rfl) ?_
  refine lv_iload_n hx hb dX9_append_16 rfl (lv_at hl 0 rfl) ?_
  refine lv_ishr hx hb dX9_append_17 ?_
  refine lv_sipush (v := (255 : Int32)) hx hb dX9_append_18 (by decide) ?_
  refine lv_iand hx hb dX9_append_21 ?_
  refine fb_gV (cs := [fb_aw cI zt0 2000 zk0]) (rs := [fb_o9 zt zt0 zt2 zt3 zt4 z9]) (fun (t : Unit) => [fb_o9 zt zt0 zt2 zt3 zt4 z9, fb_aw cI zt0 2000 (upd zk0 16 ((l1 >>> ((24 : Int32) &&& 31)) &&& (255 : Int32)))]) (fun (t : Unit) => [fb_aw cI zt0 2000 (upd zk0 16 ((l1 >>> ((24 : Int32) &&& 31)) &&& (255 : Int32)))]) X I [1, 0] 2 rfl (by decide +kernel) rfl rfl [1, 0] 2 (fun _ => rfl) (by decide +kernel) (fun _ => rfl) (fun _ => rfl) (fun I => fb_rN (As := [.ref zt0, .int (16 : Int32), .int ((l1 >>> ((24 : Int32) &&& 31)) &&& (255 : Int32))]) (rest := []) X hl fw_756 (List.mem_of_getElem? (i := 11) rfl) fw_191 fw_755 (c_cputn l D cI cJ zt0 zk0 16 ((l1 >>> ((24 : Int32) &&& 31)) &&& (255 : Int32)) _ (by omega)) rfl rfl (by decide +kernel : fb_hd yX11_put 3) ⟨Nat.le_of_ble_eq_true rfl, Nat.le_of_ble_eq_true rfl⟩ rfl rfl (Nat.le_of_ble_eq_true rfl) ⟨Nat.zero_le _, Nat.zero_le _⟩ dX9_append_22 I) ?_
  intro w2 H locs _ I
  have I : fb_In D A s.heap (([fb_o9 zt zt0 zt2 zt3 zt4 z9, fb_aw cI zt0 2000 (upd zk0 16 ((l1 >>> ((24 : Int32) &&& 31)) &&& (255 : Int32)))] : List va_W).flatten) H locs := I
  refine lv_aload_n hx hb dX9_append_25 rfl (lv_at hl 1 rfl) ?_
  refine lv_dup hx hb dX9_append_26 rfl ?_
  refine fb_get X I (k := 1) (v := .int (z9 1)) fu_X9 0 rfl rfl (Nat.le_of_ble_eq_true rfl) fw_235 rfl rfl dX9_append_27 ?_
  refine fb_tI (v := (16 : Int32)) z9k1 ?_
  refine lv_iconst (v := (1 : Int32)) hx hb dX9_append_30 (by decide) ?_
  refine lv_iadd hx hb dX9_append_31 ?_
  refine fb_tI (v := (17 : Int32)) (by decide) ?_
  refine fb_put X I (k := 1) (wn := ([fb_o9 zt zt0 zt2 zt3 zt4 (upd z9 1 (17 : Int32)), fb_aw cI zt0 2000 (upd zk0 16 ((l1 >>> ((24 : Int32) &&& 31)) &&& (255 : Int32)))] : List va_W).flatten) fu_X9 tyX9 tyX9_ok nmX9 0 rfl rfl (Nat.le_of_ble_eq_true rfl) fw_235 rfl rfl rfl rfl rfl (Nat.le_of_ble_eq_true rfl) rfl dX9_append_32 (fun H locs I => ?_)
  refine lv_iinc (v := (16 : Int32)) (lv' := [(2, .int (16 : Int32)), (0, .ref zt), (1, .int l1)]) hx hb dX9_append_35 hl (k := 0) rfl (by decide) (by decide) rfl (fun ls hl => ?_)
  refine lv_goto (tgt := 3) hx hb dX9_append_38 (by decide) ?_
  refine lv_iload_n hx hb dX9_append_3 rfl (lv_at hl 0 rfl) ?_
  refine lv_if_lt (tgt := 41) hx hb dX9_append_4 (by decide) (fun c3 => absurd c3 (by decide)) (fun _ => ?_)
  refine lv_aload_n hx hb dX9_append_7 rfl (lv_at hl 1 rfl) ?_
  refine fb_get X I (k := 0) (v := .ref zt0) fu_X9 0 rfl rfl (Nat.le_of_ble_eq_true rfl) fw_232 rfl rfl dX9_append_8 ?_
  refine lv_aload_n hx hb dX9_append_11 rfl (lv_at hl 1 rfl) ?_
  refine fb_get X I (k := 1) (v := .int (17 : Int32)) fu_X9 0 rfl rfl (Nat.le_of_ble_eq_true rfl) fw_235 rfl rfl dX9_append_12 ?_
  refine lv_iload_n hx hb dX9_append_15 rfl (lv_at hl 2 rfl) ?_
  refine lv_iload_n hx hb dX9_append_16 rfl (lv_at hl 0 rfl) ?_
  refine lv_ishr hx hb dX9_append_17 ?_
  refine lv_sipush (v := (255 : Int32)) hx hb dX9_append_18 (by decide) ?_
  refine lv_iand hx hb dX9_append_21 ?_
  refine fb_gV (cs := [fb_aw cI zt0 2000 (upd zk0 16 ((l1 >>> ((24 : Int32) &&& 31)) &&& (255 : Int32)))]) (rs := [fb_o9 zt zt0 zt2 zt3 zt4 (upd z9 1 (17 : Int32))]) (fun (t : Unit) => [fb_o9 zt zt0 zt2 zt3 zt4 (upd z9 1 (17 : Int32)), fb_aw cI zt0 2000 (upd (upd zk0 16 ((l1 >>> ((24 : Int32) &&& 31)) &&& (255 : Int32))) 17 ((l1 >>> ((16 : Int32) &&& 31)) &&& (255 : Int32)))]) (fun (t : Unit) => [fb_aw cI zt0 2000 (upd (upd zk0 16 ((l1 >>> ((24 : Int32) &&& 31)) &&& (255 : Int32))) 17 ((l1 >>> ((16 : Int32) &&& 31)) &&& (255 : Int32)))]) X I [1, 0] 2 rfl (by decide +kernel) rfl rfl [1, 0] 2 (fun _ => rfl) (by decide +kernel) (fun _ => rfl) (fun _ => rfl) (fun I => fb_rN (As := [.ref zt0, .int (17 : Int32), .int ((l1 >>> ((16 : Int32) &&& 31)) &&& (255 : Int32))]) (rest := []) X hl fw_756 (List.mem_of_getElem? (i := 11) rfl) fw_191 fw_755 (c_cputn l D cI cJ zt0 (upd zk0 16 ((l1 >>> ((24 : Int32) &&& 31)) &&& (255 : Int32))) 17 ((l1 >>> ((16 : Int32) &&& 31)) &&& (255 : Int32)) _ (by omega)) rfl rfl (by decide +kernel : fb_hd yX11_put 3) ⟨Nat.le_of_ble_eq_true rfl, Nat.le_of_ble_eq_true rfl⟩ rfl rfl (Nat.le_of_ble_eq_true rfl) ⟨Nat.zero_le _, Nat.zero_le _⟩ dX9_append_22 I) ?_
  intro w4 H locs _ I
  have I : fb_In D A s.heap (([fb_o9 zt zt0 zt2 zt3 zt4 (upd z9 1 (17 : Int32)), fb_aw cI zt0 2000 (upd (upd zk0 16 ((l1 >>> ((24 : Int32) &&& 31)) &&& (255 : Int32))) 17 ((l1 >>> ((16 : Int32) &&& 31)) &&& (255 : Int32)))] : List va_W).flatten) H locs := I
  refine lv_aload_n hx hb dX9_append_25 rfl (lv_at hl 1 rfl) ?_
  refine lv_dup hx hb dX9_append_26 rfl ?_
  refine fb_get X I (k := 1) (v := .int (17 : Int32)) fu_X9 0 rfl rfl (Nat.le_of_ble_eq_true rfl) fw_235 rfl rfl dX9_append_27 ?_
  refine lv_iconst (v := (1 : Int32)) hx hb dX9_append_30 (by decide) ?_
  refine lv_iadd hx hb dX9_append_31 ?_
  refine fb_tI (v := (18 : Int32)) (by decide) ?_
  refine fb_put X I (k := 1) (wn := ([fb_o9 zt zt0 zt2 zt3 zt4 (upd (upd z9 1 (17 : Int32)) 1 (18 : Int32)), fb_aw cI zt0 2000 (upd (upd zk0 16 ((l1 >>> ((24 : Int32) &&& 31)) &&& (255 : Int32))) 17 ((l1 >>> ((16 : Int32) &&& 31)) &&& (255 : Int32)))] : List va_W).flatten) fu_X9 tyX9 tyX9_ok nmX9 0 rfl rfl (Nat.le_of_ble_eq_true rfl) fw_235 rfl rfl rfl rfl rfl (Nat.le_of_ble_eq_true rfl) rfl dX9_append_32 (fun H locs I => ?_)
  refine lv_iinc (v := (8 : Int32)) (lv' := [(2, .int (8 : Int32)), (0, .ref zt), (1, .int l1)]) hx hb dX9_append_35 hl (k := 0) rfl (by decide) (by decide) rfl (fun ls hl => ?_)
  refine lv_goto (tgt := 3) hx hb dX9_append_38 (by decide) ?_
  refine lv_iload_n hx hb dX9_append_3 rfl (lv_at hl 0 rfl) ?_
  refine lv_if_lt (tgt := 41) hx hb dX9_append_4 (by decide) (fun c5 => absurd c5 (by decide)) (fun _ => ?_)
  refine lv_aload_n hx hb dX9_append_7 rfl (lv_at hl 1 rfl) ?_
  refine fb_get X I (k := 0) (v := .ref zt0) fu_X9 0 rfl rfl (Nat.le_of_ble_eq_true rfl) fw_232 rfl rfl dX9_append_8 ?_
  refine lv_aload_n hx hb dX9_append_11 rfl (lv_at hl 1 rfl) ?_
  refine fb_get X I (k := 1) (v := .int (18 : Int32)) fu_X9 0 rfl rfl (Nat.le_of_ble_eq_true rfl) fw_235 rfl rfl dX9_append_12 ?_
  refine lv_iload_n hx hb dX9_append_15 rfl (lv_at hl 2 rfl) ?_
  refine lv_iload_n hx hb dX9_append_16 rfl (lv_at hl 0 rfl) ?_
  refine lv_ishr hx hb dX9_append_17 ?_
  refine lv_sipush (v := (255 : Int32)) hx hb dX9_append_18 (by decide) ?_
  refine lv_iand hx hb dX9_append_21 ?_
  refine fb_gV (cs := [fb_aw cI zt0 2000 (upd (upd zk0 16 ((l1 >>> ((24 : Int32) &&& 31)) &&& (255 : Int32))) 17 ((l1 >>> ((16 : Int32) &&& 31)) &&& (255 : Int32)))]) (rs := [fb_o9 zt zt0 zt2 zt3 zt4 (upd (upd z9 1 (17 : Int32)) 1 (18 : Int32))]) (fun (t : Unit) => [fb_o9 zt zt0 zt2 zt3 zt4 (upd (upd z9 1 (17 : Int32)) 1 (18 : Int32)), fb_aw cI zt0 2000 (upd (upd (upd zk0 16 ((l1 >>> ((24 : Int32) &&& 31)) &&& (255 : Int32))) 17 ((l1 >>> ((16 : Int32) &&& 31)) &&& (255 : Int32))) 18 ((l1 >>> ((8 : Int32) &&& 31)) &&& (255 : Int32)))]) (fun (t : Unit) => [fb_aw cI zt0 2000 (upd (upd (upd zk0 16 ((l1 >>> ((24 : Int32) &&& 31)) &&& (255 : Int32))) 17 ((l1 >>> ((16 : Int32) &&& 31)) &&& (255 : Int32))) 18 ((l1 >>> ((8 : Int32) &&& 31)) &&& (255 : Int32)))]) X I [1, 0] 2 rfl (by decide +kernel) rfl rfl [1, 0] 2 (fun _ => rfl) (by decide +kernel) (fun _ => rfl) (fun _ => rfl) (fun I => fb_rN (As := [.ref zt0, .int (18 : Int32), .int ((l1 >>> ((8 : Int32) &&& 31)) &&& (255 : Int32))]) (rest := []) X hl fw_756 (List.mem_of_getElem? (i := 11) rfl) fw_191 fw_755 (c_cputn l D cI cJ zt0 (upd (upd zk0 16 ((l1 >>> ((24 : Int32) &&& 31)) &&& (255 : Int32))) 17 ((l1 >>> ((16 : Int32) &&& 31)) &&& (255 : Int32))) 18 ((l1 >>> ((8 : Int32) &&& 31)) &&& (255 : Int32)) _ (by omega)) rfl rfl (by decide +kernel : fb_hd yX11_put 3) ⟨Nat.le_of_ble_eq_true rfl, Nat.le_of_ble_eq_true rfl⟩ rfl rfl (Nat.le_of_ble_eq_true rfl) ⟨Nat.zero_le _, Nat.zero_le _⟩ dX9_append_22 I) ?_
  intro w6 H locs _ I
  have I : fb_In D A s.heap (([fb_o9 zt zt0 zt2 zt3 zt4 (upd (upd z9 1 (17 : Int32)) 1 (18 : Int32)), fb_aw cI zt0 2000 (upd (upd (upd zk0 16 ((l1 >>> ((24 : Int32) &&& 31)) &&& (255 : Int32))) 17 ((l1 >>> ((16 : Int32) &&& 31)) &&& (255 : Int32))) 18 ((l1 >>> ((8 : Int32) &&& 31)) &&& (255 : Int32)))] : List va_W).flatten) H locs := I
  refine lv_aload_n hx hb dX9_append_25 rfl (lv_at hl 1 rfl) ?_
  refine lv_dup hx hb dX9_append_26 rfl ?_
  refine fb_get X I (k := 1) (v := .int (18 : Int32)) fu_X9 0 rfl rfl (Nat.le_of_ble_eq_true rfl) fw_235 rfl rfl dX9_append_27 ?_
  refine lv_iconst (v := (1 : Int32)) hx hb dX9_append_30 (by decide) ?_
  refine lv_iadd hx hb dX9_append_31 ?_
  refine fb_tI (v := (19 : Int32)) (by decide) ?_
  refine fb_put X I (k := 1) (wn := ([fb_o9 zt zt0 zt2 zt3 zt4 (upd (upd (upd z9 1 (17 : Int32)) 1 (18 : Int32)) 1 (19 : Int32)), fb_aw cI zt0 2000 (upd (upd (upd zk0 16 ((l1 >>> ((24 : Int32) &&& 31)) &&& (255 : Int32))) 17 ((l1 >>> ((16 : Int32) &&& 31)) &&& (255 : Int32))) 18 ((l1 >>> ((8 : Int32) &&& 31)) &&& (255 : Int32)))] : List va_W).flatten) fu_X9 tyX9 tyX9_ok nmX9 0 rfl rfl (Nat.le_of_ble_eq_true rfl) fw_235 rfl rfl rfl rfl rfl (Nat.le_of_ble_eq_true rfl) rfl dX9_append_32 (fun H locs I => ?_)
  refine lv_iinc (v := (0 : Int32)) (lv' := [(2, .int (0 : Int32)), (0, .ref zt), (1, .int l1)]) hx hb dX9_append_35 hl (k := 0) rfl (by decide) (by decide) rfl (fun ls hl => ?_)
  refine lv_goto (tgt := 3) hx hb dX9_append_38 (by decide) ?_
  refine lv_iload_n hx hb dX9_append_3 rfl (lv_at hl 0 rfl) ?_
  refine lv_if_lt (tgt := 41) hx hb dX9_append_4 (by decide) (fun c7 => absurd c7 (by decide)) (fun _ => ?_)
  refine lv_aload_n hx hb dX9_append_7 rfl (lv_at hl 1 rfl) ?_
  refine fb_get X I (k := 0) (v := .ref zt0) fu_X9 0 rfl rfl (Nat.le_of_ble_eq_true rfl) fw_232 rfl rfl dX9_append_8 ?_
  refine lv_aload_n hx hb dX9_append_11 rfl (lv_at hl 1 rfl) ?_
  refine fb_get X I (k := 1) (v := .int (19 : Int32)) fu_X9 0 rfl rfl (Nat.le_of_ble_eq_true rfl) fw_235 rfl rfl dX9_append_12 ?_
  refine lv_iload_n hx hb dX9_append_15 rfl (lv_at hl 2 rfl) ?_
  refine lv_iload_n hx hb dX9_append_16 rfl (lv_at hl 0 rfl) ?_
  refine lv_ishr hx hb dX9_append_17 ?_
  refine lv_sipush (v := (255 : Int32)) hx hb dX9_append_18 (by decide) ?_
  refine lv_iand hx hb dX9_append_21 ?_
  refine fb_gV (cs := [fb_aw cI zt0 2000 (upd (upd (upd zk0 16 ((l1 >>> ((24 : Int32) &&& 31)) &&& (255 : Int32))) 17 ((l1 >>> ((16 : Int32) &&& 31)) &&& (255 : Int32))) 18 ((l1 >>> ((8 : Int32) &&& 31)) &&& (255 : Int32)))]) (rs := [fb_o9 zt zt0 zt2 zt3 zt4 (upd (upd (upd z9 1 (17 : Int32)) 1 (18 : Int32)) 1 (19 : Int32))]) (fun (t : Unit) => [fb_o9 zt zt0 zt2 zt3 zt4 (upd (upd (upd z9 1 (17 : Int32)) 1 (18 : Int32)) 1 (19 : Int32)), fb_aw cI zt0 2000 (upd (upd (upd (upd zk0 16 ((l1 >>> ((24 : Int32) &&& 31)) &&& (255 : Int32))) 17 ((l1 >>> ((16 : Int32) &&& 31)) &&& (255 : Int32))) 18 ((l1 >>> ((8 : Int32) &&& 31)) &&& (255 : Int32))) 19 ((l1 >>> ((0 : Int32) &&& 31)) &&& (255 : Int32)))]) (fun (t : Unit) => [fb_aw cI zt0 2000 (upd (upd (upd (upd zk0 16 ((l1 >>> ((24 : Int32) &&& 31)) &&& (255 : Int32))) 17 ((l1 >>> ((16 : Int32) &&& 31)) &&& (255 : Int32))) 18 ((l1 >>> ((8 : Int32) &&& 31)) &&& (255 : Int32))) 19 ((l1 >>> ((0 : Int32) &&& 31)) &&& (255 : Int32)))]) X I [1, 0] 2 rfl (by decide +kernel) rfl rfl [1, 0] 2 (fun _ => rfl) (by decide +kernel) (fun _ => rfl) (fun _ => rfl) (fun I => fb_rN (As := [.ref zt0, .int (19 : Int32), .int ((l1 >>> ((0 : Int32) &&& 31)) &&& (255 : Int32))]) (rest := []) X hl fw_756 (List.mem_of_getElem? (i := 11) rfl) fw_191 fw_755 (c_cputn l D cI cJ zt0 (upd (upd (upd zk0 16 ((l1 >>> ((24 : Int32) &&& 31)) &&& (255 : Int32))) 17 ((l1 >>> ((16 : Int32) &&& 31)) &&& (255 : Int32))) 18 ((l1 >>> ((8 : Int32) &&& 31)) &&& (255 : Int32))) 19 ((l1 >>> ((0 : Int32) &&& 31)) &&& (255 : Int32)) _ (by omega)) rfl rfl (by decide +kernel : fb_hd yX11_put 3) ⟨Nat.le_of_ble_eq_true rfl, Nat.le_of_ble_eq_true rfl⟩ rfl rfl (Nat.le_of_ble_eq_true rfl) ⟨Nat.zero_le _, Nat.zero_le _⟩ dX9_append_22 I) ?_
  intro w8 H locs _ I
  have I : fb_In D A s.heap (([fb_o9 zt zt0 zt2 zt3 zt4 (upd (upd (upd z9 1 (17 : Int32)) 1 (18 : Int32)) 1 (19 : Int32)), fb_aw cI zt0 2000 (upd (upd (upd (upd zk0 16 ((l1 >>> ((24 : Int32) &&& 31)) &&& (255 : Int32))) 17 ((l1 >>> ((16 : Int32) &&& 31)) &&& (255 : Int32))) 18 ((l1 >>> ((8 : Int32) &&& 31)) &&& (255 : Int32))) 19 ((l1 >>> ((0 : Int32) &&& 31)) &&& (255 : Int32)))] : List va_W).flatten) H locs := I
  refine lv_aload_n hx hb dX9_append_25 rfl (lv_at hl 1 rfl) ?_
  refine lv_dup hx hb dX9_append_26 rfl ?_
  refine fb_get X I (k := 1) (v := .int (19 : Int32)) fu_X9 0 rfl rfl (Nat.le_of_ble_eq_true rfl) fw_235 rfl rfl dX9_append_27 ?_
  refine lv_iconst (v := (1 : Int32)) hx hb dX9_append_30 (by decide) ?_
  refine lv_iadd hx hb dX9_append_31 ?_
  refine fb_tI (v := (20 : Int32)) (by decide) ?_
  refine fb_put X I (k := 1) (wn := ([fb_o9 zt zt0 zt2 zt3 zt4 (upd (upd (upd (upd z9 1 (17 : Int32)) 1 (18 : Int32)) 1 (19 : Int32)) 1 (20 : Int32)), fb_aw cI zt0 2000 (upd (upd (upd (upd zk0 16 ((l1 >>> ((24 : Int32) &&& 31)) &&& (255 : Int32))) 17 ((l1 >>> ((16 : Int32) &&& 31)) &&& (255 : Int32))) 18 ((l1 >>> ((8 : Int32) &&& 31)) &&& (255 : Int32))) 19 ((l1 >>> ((0 : Int32) &&& 31)) &&& (255 : Int32)))] : List va_W).flatten) fu_X9 tyX9 tyX9_ok nmX9 0 rfl rfl (Nat.le_of_ble_eq_true rfl) fw_235 rfl rfl rfl rfl rfl (Nat.le_of_ble_eq_true rfl) rfl dX9_append_32 (fun H locs I => ?_)
  refine lv_iinc (v := (-8 : Int32)) (lv' := [(2, .int (-8 : Int32)), (0, .ref zt), (1, .int l1)]) hx hb dX9_append_35 hl (k := 0) rfl (by decide) (by decide) rfl (fun ls hl => ?_)
  refine lv_goto (tgt := 3) hx hb dX9_append_38 (by decide) ?_
  refine lv_iload_n hx hb dX9_append_3 rfl (lv_at hl 0 rfl) ?_
  refine lv_if_lt (tgt := 41) hx hb dX9_append_4 (by decide) (fun _ => ?_) (fun c9 => absurd (by decide) c9)
  obtain ⟨w10, ew10⟩ : ∃ z : fb_AR, (upd (upd (upd (upd zk0 16 ((l1 >>> ((24 : Int32) &&& 31)) &&& (255 : Int32))) 17 ((l1 >>> ((16 : Int32) &&& 31)) &&& (255 : Int32))) 18 ((l1 >>> ((8 : Int32) &&& 31)) &&& (255 : Int32))) 19 ((l1 >>> ((0 : Int32) &&& 31)) &&& (255 : Int32))) = z := ⟨_, rfl⟩
  rw [ew10] at I
  exact fb_retV (u := (w10)) X I trivial dX9_append_41

set_option maxHeartbeats 4000000 in
set_option maxRecDepth 100000 in
theorem c_forget0 (l : Launch) (D : va_G) (cI cJ : ClassId) (zh : Nat) (zh0 : Nat) (zh1 : Nat) (z0 : fb_AR) (sz : Nat)  : Met l yX0_forget (Cond.code yX0_forget cX0_forget 1 none :: fb_all) ({ frames := 1, cells := 0, slots := 0, locals := 30 } : Room) (fb_PP D (fb_ty D cI cJ) [.ref zh] (([fb_o0 zh zh0 zh1 z0] : List va_W).flatten) sz) (fb_QV D (va_A (([fb_o0 zh zh0 zh1 z0] : List va_W).flatten) sz) (fun (_ : Unit) => True) (fun (t : Unit) => ([fb_o0 zh zh0 zh1 (upd (upd (upd (upd z0 2 (-1 : Int32)) 3 (-1 : Int32)) 4 (0 : Int32)) 5 (0 : Int32))] : List va_W).flatten)) 0 0 (va_A (([fb_o0 zh zh0 zh1 z0] : List va_W).flatten) sz) := by
  refine fb_ent (Qf := fun A => (fb_QV D A (fun (_ : Unit) => True) (fun (t : Unit) => ([fb_o0 zh zh0 zh1 (upd (upd (upd (upd z0 2 (-1 : Int32)) 3 (-1 : Int32)) 4 (0 : Int32)) 5 (0 : Int32))] : List va_W).flatten))) (by decide +kernel) (Nat.le_of_ble_eq_true rfl) ?_
  intro p e s m args below meth c A ls X I hl hin
  obtain ⟨hx, hb, hr, hml, hown, hts, hlk, hA, hK, hF⟩ := id X
  have hl : lv_has ls 1 [(0, .ref zh)] := hl
  refine lv_aload_n hx hb dX0_forget_0 rfl (lv_at hl 0 rfl) ?_
  refine lv_iconst (v := (-1 : Int32)) hx hb dX0_forget_1 (by decide) ?_
  refine fb_put X I (k := 2) (wn := ([fb_o0 zh zh0 zh1 (upd z0 2 (-1 : Int32))] : List va_W).flatten) fu_X0 tyX0 tyX0_ok nmX0 0 rfl rfl (Nat.le_of_ble_eq_true rfl) fw_593 rfl rfl rfl rfl rfl (Nat.le_of_ble_eq_true rfl) rfl dX0_forget_2 (fun H locs I => ?_)
  refine lv_aload_n hx hb dX0_forget_5 rfl (lv_at hl 0 rfl) ?_
  refine lv_iconst (v := (-1 : Int32)) hx hb dX0_forget_6 (by decide) ?_
  refine fb_put X I (k := 3) (wn := ([fb_o0 zh zh0 zh1 (upd (upd z0 2 (-1 : Int32)) 3 (-1 : Int32))] : List va_W).flatten) fu_X0 tyX0 tyX0_ok nmX0 0 rfl rfl (Nat.le_of_ble_eq_true rfl) fw_594 rfl rfl rfl rfl rfl (Nat.le_of_ble_eq_true rfl) rfl dX0_forget_7 (fun H locs I => ?_)
  refine lv_aload_n hx hb dX0_forget_10 rfl (lv_at hl 0 rfl) ?_
  refine lv_iconst (v := (0 : Int32)) hx hb dX0_forget_11 (by decide) ?_
  refine fb_put X I (k := 4) (wn := ([fb_o0 zh zh0 zh1 (upd (upd (upd z0 2 (-1 : Int32)) 3 (-1 : Int32)) 4 (0 : Int32))] : List va_W).flatten) fu_X0 tyX0 tyX0_ok nmX0 0 rfl rfl (Nat.le_of_ble_eq_true rfl) fw_595 rfl rfl rfl rfl rfl (Nat.le_of_ble_eq_true rfl) rfl dX0_forget_12 (fun H locs I => ?_)
  refine lv_aload_n hx hb dX0_forget_15 rfl (lv_at hl 0 rfl) ?_
  refine lv_iconst (v := (0 : Int32)) hx hb dX0_forget_16 (by decide) ?_
  refine fb_put X I (k := 5) (wn := ([fb_o0 zh zh0 zh1 (upd (upd (upd (upd z0 2 (-1 : Int32)) 3 (-1 : Int32)) 4 (0 : Int32)) 5 (0 : Int32))] : List va_W).flatten) fu_X0 tyX0 tyX0_ok nmX0 0 rfl rfl (Nat.le_of_ble_eq_true rfl) fw_596 rfl rfl rfl rfl rfl (Nat.le_of_ble_eq_true rfl) rfl dX0_forget_17 (fun H locs I => ?_)
  exact fb_retV (u := ()) X I trivial dX0_forget_20

set_option maxHeartbeats 4000000 in
set_option maxRecDepth 100000 in
theorem c_feed0 (l : Launch) (D : va_G) (cI cJ : ClassId) (zb : Nat) (zr1 : Nat) (zr2 : Nat) (zr3 : Nat) (zr4 : Nat) (zr5 : Nat) (zr6 : Nat) (zr8 : Nat) (zr9 : Nat) (zt : Nat) (zt0 : Nat) (zt2 : Nat) (zt3 : Nat) (zt4 : Nat) (z9 : fb_AR) (zk0 : fb_AR) (zh : Nat) (zh0 : Nat) (zh1 : Nat) (z0 : fb_AR) (l1 : Int32) (l2 : Int32) (l3 : Int32) (l4 : Int32) (l5 : Int32) (sz : Nat) (z9k1 : z9 1 = (0 : Int32)) : Met l yX11_feed (Cond.code yX11_feed cX11_feed 6 (some .int) :: fb_all) ({ frames := 3, cells := 0, slots := 0, locals := 74 } : Room) (fb_PP D (fb_ty D cI cJ) [.ref zb, .int l1, .int l2, .int l3, .int l4, .int l5] (([fb_o11 zb zt zr1 zr2 zr3 zr4 zr5 zr6 zh zr8 zr9, fb_o9 zt zt0 zt2 zt3 zt4 z9, fb_aw cI zt0 2000 zk0, fb_o0 zh zh0 zh1 z0] : List va_W).flatten) sz) (fb_QI D (va_A (([fb_o11 zb zt zr1 zr2 zr3 zr4 zr5 zr6 zh zr8 zr9, fb_o9 zt zt0 zt2 zt3 zt4 z9, fb_aw cI zt0 2000 zk0, fb_o0 zh zh0 zh1 z0] : List va_W).flatten) sz) (fun (r : Int32) (_ : fb_AR) => r = (20 : Int32)) (fun (t : fb_AR) => ([fb_o11 zb zt zr1 zr2 zr3 zr4 zr5 zr6 zh zr8 zr9, fb_o9 zt zt0 zt2 zt3 zt4 (upd (upd (upd (upd (upd (upd (upd (upd (upd (upd (upd (upd (upd (upd (upd (upd (upd (upd (upd (upd z9 1 (1 : Int32)) 1 (2 : Int32)) 1 (3 : Int32)) 1 (4 : Int32)) 1 (5 : Int32)) 1 (6 : Int32)) 1 (7 : Int32)) 1 (8 : Int32)) 1 (9 : Int32)) 1 (10 : Int32)) 1 (11 : Int32)) 1 (12 : Int32)) 1 (13 : Int32)) 1 (14 : Int32)) 1 (15 : Int32)) 1 (16 : Int32)) 1 (17 : Int32)) 1 (18 : Int32)) 1 (19 : Int32)) 1 (20 : Int32)), fb_aw cI zt0 2000 t, fb_o0 zh zh0 zh1 (upd (upd (upd (upd z0 2 (-1 : Int32)) 3 (-1 : Int32)) 4 (0 : Int32)) 5 (0 : Int32))] : List va_W).flatten)) 0 0 (va_A (([fb_o11 zb zt zr1 zr2 zr3 zr4 zr5 zr6 zh zr8 zr9, fb_o9 zt zt0 zt2 zt3 zt4 z9, fb_aw cI zt0 2000 zk0, fb_o0 zh zh0 zh1 z0] : List va_W).flatten) sz) := by
  refine fb_ent (Qf := fun A => (fb_QI D A (fun (r : Int32) (_ : fb_AR) => r = (20 : Int32)) (fun (t : fb_AR) => ([fb_o11 zb zt zr1 zr2 zr3 zr4 zr5 zr6 zh zr8 zr9, fb_o9 zt zt0 zt2 zt3 zt4 (upd (upd (upd (upd (upd (upd (upd (upd (upd (upd (upd (upd (upd (upd (upd (upd (upd (upd (upd (upd z9 1 (1 : Int32)) 1 (2 : Int32)) 1 (3 : Int32)) 1 (4 : Int32)) 1 (5 : Int32)) 1 (6 : Int32)) 1 (7 : Int32)) 1 (8 : Int32)) 1 (9 : Int32)) 1 (10 : Int32)) 1 (11 : Int32)) 1 (12 : Int32)) 1 (13 : Int32)) 1 (14 : Int32)) 1 (15 : Int32)) 1 (16 : Int32)) 1 (17 : Int32)) 1 (18 : Int32)) 1 (19 : Int32)) 1 (20 : Int32)), fb_aw cI zt0 2000 t, fb_o0 zh zh0 zh1 (upd (upd (upd (upd z0 2 (-1 : Int32)) 3 (-1 : Int32)) 4 (0 : Int32)) 5 (0 : Int32))] : List va_W).flatten))) (by decide +kernel) (Nat.le_of_ble_eq_true rfl) ?_
  intro p e s m args below meth c A ls X I hl hin
  obtain ⟨hx, hb, hr, hml, hown, hts, hlk, hA, hK, hF⟩ := id X
  have hl : lv_has ls 6 [(0, .ref zb), (1, .int l1), (2, .int l2), (3, .int l3), (4, .int l4), (5, .int l5)] := hl
  refine lv_aload_n hx hb dX11_feed_0 rfl (lv_at hl 0 rfl) ?_
  refine fb_get X I (k := 0) (v := .ref zt) fu_X11 0 rfl rfl (Nat.le_of_ble_eq_true rfl) fw_687 rfl rfl dX11_feed_1 ?_
  refine fb_get X I (k := 1) (v := .int (z9 1)) fu_X9 1 rfl rfl (Nat.le_of_ble_eq_true rfl) fw_234 rfl rfl dX11_feed_4 ?_
  refine fb_tI (v := (0 : Int32)) z9k1 ?_
  refine lv_bipush (v := (20 : Int32)) hx hb dX11_feed_7 (by decide) ?_
  refine lv_iadd hx hb dX11_feed_9 ?_
  refine fb_tI (v := (20 : Int32)) (by decide) ?_
  refine lv_sipush (v := (2000 : Int32)) hx hb dX11_feed_10 (by decide) ?_
  refine lv_icmp_le (tgt := 26) hx hb dX11_feed_13 (by decide) (fun _ => ?_) (fun c1 => absurd (by decide) c1)
  refine lv_aload_n hx hb dX11_feed_26 rfl (lv_at hl 0 rfl) ?_
  refine fb_get X I (k := 0) (v := .ref zt) fu_X11 0 rfl rfl (Nat.le_of_ble_eq_true rfl) fw_687 rfl rfl dX11_feed_27 ?_
  refine lv_iload_n hx hb dX11_feed_30 rfl (lv_at hl 1 rfl) ?_
  refine fb_gV (cs := [fb_o9 zt zt0 zt2 zt3 zt4 z9, fb_aw cI zt0 2000 zk0]) (rs := [fb_o11 zb zt zr1 zr2 zr3 zr4 zr5 zr6 zh zr8 zr9, fb_o0 zh zh0 zh1 z0]) (fun (t : fb_AR) => [fb_o11 zb zt zr1 zr2 zr3 zr4 zr5 zr6 zh zr8 zr9, fb_o9 zt zt0 zt2 zt3 zt4 (upd (upd (upd (upd z9 1 (1 : Int32)) 1 (2 : Int32)) 1 (3 : Int32)) 1 (4 : Int32)), fb_aw cI zt0 2000 t, fb_o0 zh zh0 zh1 z0]) (fun (t : fb_AR) => [fb_o9 zt zt0 zt2 zt3 zt4 (upd (upd (upd (upd z9 1 (1 : Int32)) 1 (2 : Int32)) 1 (3 : Int32)) 1 (4 : Int32)), fb_aw cI zt0 2000 t]) X I [1, 2, 0, 3] 4 rfl (by decide +kernel) rfl rfl [1, 2, 0, 3] 4 (fun _ => rfl) (by decide +kernel) (fun _ => rfl) (fun _ => rfl) (fun I => fb_rV (As := [.int l1]) (rest := []) X hl (fb_goodV fw_1658 fw_1659 fw_1660 fw_192 fw_1661) (c_append0 l D cI cJ zt zt0 zt2 zt3 zt4 z9 zk0 l1 _ z9k1) rfl rfl rfl (by decide +kernel : fb_hd yX9_append 1) ⟨Nat.le_of_ble_eq_true rfl, Nat.le_of_ble_eq_true rfl⟩ rfl rfl rfl rfl rfl (Nat.le_of_ble_eq_true rfl) ⟨Nat.zero_le _, Nat.zero_le _⟩ dX11_feed_31 I) ?_
  intro w2 H locs _ I
  have I : fb_In D A s.heap (([fb_o11 zb zt zr1 zr2 zr3 zr4 zr5 zr6 zh zr8 zr9, fb_o9 zt zt0 zt2 zt3 zt4 (upd (upd (upd (upd z9 1 (1 : Int32)) 1 (2 : Int32)) 1 (3 : Int32)) 1 (4 : Int32)), fb_aw cI zt0 2000 w2, fb_o0 zh zh0 zh1 z0] : List va_W).flatten) H locs := I
  refine lv_aload_n hx hb dX11_feed_34 rfl (lv_at hl 0 rfl) ?_
  refine fb_get X I (k := 0) (v := .ref zt) fu_X11 0 rfl rfl (Nat.le_of_ble_eq_true rfl) fw_687 rfl rfl dX11_feed_35 ?_
  refine lv_iload_n hx hb dX11_feed_38 rfl (lv_at hl 2 rfl) ?_
  refine fb_gV (cs := [fb_o9 zt zt0 zt2 zt3 zt4 (upd (upd (upd (upd z9 1 (1 : Int32)) 1 (2 : Int32)) 1 (3 : Int32)) 1 (4 : Int32)), fb_aw cI zt0 2000 w2]) (rs := [fb_o11 zb zt zr1 zr2 zr3 zr4 zr5 zr6 zh zr8 zr9, fb_o0 zh zh0 zh1 z0]) (fun (t : fb_AR) => [fb_o11 zb zt zr1 zr2 zr3 zr4 zr5 zr6 zh zr8 zr9, fb_o9 zt zt0 zt2 zt3 zt4 (upd (upd (upd (upd (upd (upd (upd (upd z9 1 (1 : Int32)) 1 (2 : Int32)) 1 (3 : Int32)) 1 (4 : Int32)) 1 (5 : Int32)) 1 (6 : Int32)) 1 (7 : Int32)) 1 (8 : Int32)), fb_aw cI zt0 2000 t, fb_o0 zh zh0 zh1 z0]) (fun (t : fb_AR) => [fb_o9 zt zt0 zt2 zt3 zt4 (upd (upd (upd (upd (upd (upd (upd (upd z9 1 (1 : Int32)) 1 (2 : Int32)) 1 (3 : Int32)) 1 (4 : Int32)) 1 (5 : Int32)) 1 (6 : Int32)) 1 (7 : Int32)) 1 (8 : Int32)), fb_aw cI zt0 2000 t]) X I [1, 2, 0, 3] 4 rfl (by decide +kernel) rfl rfl [1, 2, 0, 3] 4 (fun _ => rfl) (by decide +kernel) (fun _ => rfl) (fun _ => rfl) (fun I => fb_rV (As := [.int l2]) (rest := []) X hl (fb_goodV fw_1658 fw_1659 fw_1660 fw_192 fw_1661) (c_append4 l D cI cJ zt zt0 zt2 zt3 zt4 (upd (upd (upd (upd z9 1 (1 : Int32)) 1 (2 : Int32)) 1 (3 : Int32)) 1 (4 : Int32)) w2 l2 _ rfl) rfl rfl rfl (by decide +kernel : fb_hd yX9_append 1) ⟨Nat.le_of_ble_eq_true rfl, Nat.le_of_ble_eq_true rfl⟩ rfl rfl rfl rfl rfl (Nat.le_of_ble_eq_true rfl) ⟨Nat.zero_le _, Nat.zero_le _⟩ dX11_feed_39 I) ?_
  intro w3 H locs _ I
  have I : fb_In D A s.heap (([fb_o11 zb zt zr1 zr2 zr3 zr4 zr5 zr6 zh zr8 zr9, fb_o9 zt zt0 zt2 zt3 zt4 (upd (upd (upd (upd (upd (upd (upd (upd z9 1 (1 : Int32)) 1 (2 : Int32)) 1 (3 : Int32)) 1 (4 : Int32)) 1 (5 : Int32)) 1 (6 : Int32)) 1 (7 : Int32)) 1 (8 : Int32)), fb_aw cI zt0 2000 w3, fb_o0 zh zh0 zh1 z0] : List va_W).flatten) H locs := I
  refine lv_aload_n hx hb dX11_feed_42 rfl (lv_at hl 0 rfl) ?_
  refine fb_get X I (k := 0) (v := .ref zt) fu_X11 0 rfl rfl (Nat.le_of_ble_eq_true rfl) fw_687 rfl rfl dX11_feed_43 ?_
  refine lv_iload_n hx hb dX11_feed_46 rfl (lv_at hl 3 rfl) ?_
  refine fb_gV (cs := [fb_o9 zt zt0 zt2 zt3 zt4 (upd (upd (upd (upd (upd (upd (upd (upd z9 1 (1 : Int32)) 1 (2 : Int32)) 1 (3 : Int32)) 1 (4 : Int32)) 1 (5 : Int32)) 1 (6 : Int32)) 1 (7 : Int32)) 1 (8 : Int32)), fb_aw cI zt0 2000 w3]) (rs := [fb_o11 zb zt zr1 zr2 zr3 zr4 zr5 zr6 zh zr8 zr9, fb_o0 zh zh0 zh1 z0]) (fun (t : fb_AR) => [fb_o11 zb zt zr1 zr2 zr3 zr4 zr5 zr6 zh zr8 zr9, fb_o9 zt zt0 zt2 zt3 zt4 (upd (upd (upd (upd (upd (upd (upd (upd (upd (upd (upd (upd z9 1 (1 : Int32)) 1 (2 : Int32)) 1 (3 : Int32)) 1 (4 : Int32)) 1 (5 : Int32)) 1 (6 : Int32)) 1 (7 : Int32)) 1 (8 : Int32)) 1 (9 : Int32)) 1 (10 : Int32)) 1 (11 : Int32)) 1 (12 : Int32)), fb_aw cI zt0 2000 t, fb_o0 zh zh0 zh1 z0]) (fun (t : fb_AR) => [fb_o9 zt zt0 zt2 zt3 zt4 (upd (upd (upd (upd (upd (upd (upd (upd (upd (upd (upd (upd z9 1 (1 : Int32)) 1 (2 : Int32)) 1 (3 : Int32)) 1 (4 : Int32)) 1 (5 : Int32)) 1 (6 : Int32)) 1 (7 : Int32)) 1 (8 : Int32)) 1 (9 : Int32)) 1 (10 : Int32)) 1 (11 : Int32)) 1 (12 : Int32)), fb_aw cI zt0 2000 t]) X I [1, 2, 0, 3] 4 rfl (by decide +kernel) rfl rfl [1, 2, 0, 3] 4 (fun _ => rfl) (by decide +kernel) (fun _ => rfl) (fun _ => rfl) (fun I => fb_rV (As := [.int l3]) (rest := []) X hl (fb_goodV fw_1658 fw_1659 fw_1660 fw_192 fw_1661) (c_append8 l D cI cJ zt zt0 zt2 zt3 zt4 (upd (upd (upd (upd (upd (upd (upd (upd z9 1 (1 : Int32)) 1 (2 : Int32)) 1 (3 : Int32)) 1 (4 : Int32)) 1 (5 : Int32)) 1 (6 : Int32)) 1 (7 : Int32)) 1 (8 : Int32)) w3 l3 _ rfl) rfl rfl rfl (by decide +kernel : fb_hd yX9_append 1) ⟨Nat.le_of_ble_eq_true rfl, Nat.le_of_ble_eq_true rfl⟩ rfl rfl rfl rfl rfl (Nat.le_of_ble_eq_true rfl) ⟨Nat.zero_le _, Nat.zero_le _⟩ dX11_feed_47 I) ?_
  intro w4 H locs _ I
  have I : fb_In D A s.heap (([fb_o11 zb zt zr1 zr2 zr3 zr4 zr5 zr6 zh zr8 zr9, fb_o9 zt zt0 zt2 zt3 zt4 (upd (upd (upd (upd (upd (upd (upd (upd (upd (upd (upd (upd z9 1 (1 : Int32)) 1 (2 : Int32)) 1 (3 : Int32)) 1 (4 : Int32)) 1 (5 : Int32)) 1 (6 : Int32)) 1 (7 : Int32)) 1 (8 : Int32)) 1 (9 : Int32)) 1 (10 : Int32)) 1 (11 : Int32)) 1 (12 : Int32)), fb_aw cI zt0 2000 w4, fb_o0 zh zh0 zh1 z0] : List va_W).flatten) H locs := I
  refine lv_aload_n hx hb dX11_feed_50 rfl (lv_at hl 0 rfl) ?_
  refine fb_get X I (k := 0) (v := .ref zt) fu_X11 0 rfl rfl (Nat.le_of_ble_eq_true rfl) fw_687 rfl rfl dX11_feed_51 ?_
  refine lv_iload hx hb dX11_feed_54 (lv_at hl 4 rfl) ?_
  refine fb_gV (cs := [fb_o9 zt zt0 zt2 zt3 zt4 (upd (upd (upd (upd (upd (upd (upd (upd (upd (upd (upd (upd z9 1 (1 : Int32)) 1 (2 : Int32)) 1 (3 : Int32)) 1 (4 : Int32)) 1 (5 : Int32)) 1 (6 : Int32)) 1 (7 : Int32)) 1 (8 : Int32)) 1 (9 : Int32)) 1 (10 : Int32)) 1 (11 : Int32)) 1 (12 : Int32)), fb_aw cI zt0 2000 w4]) (rs := [fb_o11 zb zt zr1 zr2 zr3 zr4 zr5 zr6 zh zr8 zr9, fb_o0 zh zh0 zh1 z0]) (fun (t : fb_AR) => [fb_o11 zb zt zr1 zr2 zr3 zr4 zr5 zr6 zh zr8 zr9, fb_o9 zt zt0 zt2 zt3 zt4 (upd (upd (upd (upd (upd (upd (upd (upd (upd (upd (upd (upd (upd (upd (upd (upd z9 1 (1 : Int32)) 1 (2 : Int32)) 1 (3 : Int32)) 1 (4 : Int32)) 1 (5 : Int32)) 1 (6 : Int32)) 1 (7 : Int32)) 1 (8 : Int32)) 1 (9 : Int32)) 1 (10 : Int32)) 1 (11 : Int32)) 1 (12 : Int32)) 1 (13 : Int32)) 1 (14 : Int32)) 1 (15 : Int32)) 1 (16 : Int32)), fb_aw cI zt0 2000 t, fb_o0 zh zh0 zh1 z0]) (fun (t : fb_AR) => [fb_o9 zt zt0 zt2 zt3 zt4 (upd (upd (upd (upd (upd (upd (upd (upd (upd (upd (upd (upd (upd (upd (upd (upd z9 1 (1 : Int32)) 1 (2 : Int32)) 1 (3 : Int32)) 1 (4 : Int32)) 1 (5 : Int32)) 1 (6 : Int32)) 1 (7 : Int32)) 1 (8 : Int32)) 1 (9 : Int32)) 1 (10 : Int32)) 1 (11 : Int32)) 1 (12 : Int32)) 1 (13 : Int32)) 1 (14 : Int32)) 1 (15 : Int32)) 1 (16 : Int32)), fb_aw cI zt0 2000 t]) X I [1, 2, 0, 3] 4 rfl (by decide +kernel) rfl rfl [1, 2, 0, 3] 4 (fun _ => rfl) (by decide +kernel) (fun _ => rfl) (fun _ => rfl) (fun I => fb_rV (As := [.int l4]) (rest := []) X hl (fb_goodV fw_1658 fw_1659 fw_1660 fw_192 fw_1661) (c_append12 l D cI cJ zt zt0 zt2 zt3 zt4 (upd (upd (upd (upd (upd (upd (upd (upd (upd (upd (upd (upd z9 1 (1 : Int32)) 1 (2 : Int32)) 1 (3 : Int32)) 1 (4 : Int32)) 1 (5 : Int32)) 1 (6 : Int32)) 1 (7 : Int32)) 1 (8 : Int32)) 1 (9 : Int32)) 1 (10 : Int32)) 1 (11 : Int32)) 1 (12 : Int32)) w4 l4 _ rfl) rfl rfl rfl (by decide +kernel : fb_hd yX9_append 1) ⟨Nat.le_of_ble_eq_true rfl, Nat.le_of_ble_eq_true rfl⟩ rfl rfl rfl rfl rfl (Nat.le_of_ble_eq_true rfl) ⟨Nat.zero_le _, Nat.zero_le _⟩ dX11_feed_56 I) ?_
  intro w5 H locs _ I
  have I : fb_In D A s.heap (([fb_o11 zb zt zr1 zr2 zr3 zr4 zr5 zr6 zh zr8 zr9, fb_o9 zt zt0 zt2 zt3 zt4 (upd (upd (upd (upd (upd (upd (upd (upd (upd (upd (upd (upd (upd (upd (upd (upd z9 1 (1 : Int32)) 1 (2 : Int32)) 1 (3 : Int32)) 1 (4 : Int32)) 1 (5 : Int32)) 1 (6 : Int32)) 1 (7 : Int32)) 1 (8 : Int32)) 1 (9 : Int32)) 1 (10 : Int32)) 1 (11 : Int32)) 1 (12 : Int32)) 1 (13 : Int32)) 1 (14 : Int32)) 1 (15 : Int32)) 1 (16 : Int32)), fb_aw cI zt0 2000 w5, fb_o0 zh zh0 zh1 z0] : List va_W).flatten) H locs := I
  refine lv_aload_n hx hb dX11_feed_59 rfl (lv_at hl 0 rfl) ?_
  refine fb_get X I (k := 0) (v := .ref zt) fu_X11 0 rfl rfl (Nat.le_of_ble_eq_true rfl) fw_687 rfl rfl dX11_feed_60 ?_
  refine lv_iload hx hb dX11_feed_63 (lv_at hl 5 rfl) ?_
  refine fb_gV (cs := [fb_o9 zt zt0 zt2 zt3 zt4 (upd (upd (upd (upd (upd (upd (upd (upd (upd (upd (upd (upd (upd (upd (upd (upd z9 1 (1 : Int32)) 1 (2 : Int32)) 1 (3 : Int32)) 1 (4 : Int32)) 1 (5 : Int32)) 1 (6 : Int32)) 1 (7 : Int32)) 1 (8 : Int32)) 1 (9 : Int32)) 1 (10 : Int32)) 1 (11 : Int32)) 1 (12 : Int32)) 1 (13 : Int32)) 1 (14 : Int32)) 1 (15 : Int32)) 1 (16 : Int32)), fb_aw cI zt0 2000 w5]) (rs := [fb_o11 zb zt zr1 zr2 zr3 zr4 zr5 zr6 zh zr8 zr9, fb_o0 zh zh0 zh1 z0]) (fun (t : fb_AR) => [fb_o11 zb zt zr1 zr2 zr3 zr4 zr5 zr6 zh zr8 zr9, fb_o9 zt zt0 zt2 zt3 zt4 (upd (upd (upd (upd (upd (upd (upd (upd (upd (upd (upd (upd (upd (upd (upd (upd (upd (upd (upd (upd z9 1 (1 : Int32)) 1 (2 : Int32)) 1 (3 : Int32)) 1 (4 : Int32)) 1 (5 : Int32)) 1 (6 : Int32)) 1 (7 : Int32)) 1 (8 : Int32)) 1 (9 : Int32)) 1 (10 : Int32)) 1 (11 : Int32)) 1 (12 : Int32)) 1 (13 : Int32)) 1 (14 : Int32)) 1 (15 : Int32)) 1 (16 : Int32)) 1 (17 : Int32)) 1 (18 : Int32)) 1 (19 : Int32)) 1 (20 : Int32)), fb_aw cI zt0 2000 t, fb_o0 zh zh0 zh1 z0]) (fun (t : fb_AR) => [fb_o9 zt zt0 zt2 zt3 zt4 (upd (upd (upd (upd (upd (upd (upd (upd (upd (upd (upd (upd (upd (upd (upd (upd (upd (upd (upd (upd z9 1 (1 : Int32)) 1 (2 : Int32)) 1 (3 : Int32)) 1 (4 : Int32)) 1 (5 : Int32)) 1 (6 : Int32)) 1 (7 : Int32)) 1 (8 : Int32)) 1 (9 : Int32)) 1 (10 : Int32)) 1 (11 : Int32)) 1 (12 : Int32)) 1 (13 : Int32)) 1 (14 : Int32)) 1 (15 : Int32)) 1 (16 : Int32)) 1 (17 : Int32)) 1 (18 : Int32)) 1 (19 : Int32)) 1 (20 : Int32)), fb_aw cI zt0 2000 t]) X I [1, 2, 0, 3] 4 rfl (by decide +kernel) rfl rfl [1, 2, 0, 3] 4 (fun _ => rfl) (by decide +kernel) (fun _ => rfl) (fun _ => rfl) (fun I => fb_rV (As := [.int l5]) (rest := []) X hl (fb_goodV fw_1658 fw_1659 fw_1660 fw_192 fw_1661) (c_append16 l D cI cJ zt zt0 zt2 zt3 zt4 (upd (upd (upd (upd (upd (upd (upd (upd (upd (upd (upd (upd (upd (upd (upd (upd z9 1 (1 : Int32)) 1 (2 : Int32)) 1 (3 : Int32)) 1 (4 : Int32)) 1 (5 : Int32)) 1 (6 : Int32)) 1 (7 : Int32)) 1 (8 : Int32)) 1 (9 : Int32)) 1 (10 : Int32)) 1 (11 : Int32)) 1 (12 : Int32)) 1 (13 : Int32)) 1 (14 : Int32)) 1 (15 : Int32)) 1 (16 : Int32)) w5 l5 _ rfl) rfl rfl rfl (by decide +kernel : fb_hd yX9_append 1) ⟨Nat.le_of_ble_eq_true rfl, Nat.le_of_ble_eq_true rfl⟩ rfl rfl rfl rfl rfl (Nat.le_of_ble_eq_true rfl) ⟨Nat.zero_le _, Nat.zero_le _⟩ dX11_feed_65 I) ?_
  intro w6 H locs _ I
  have I : fb_In D A s.heap (([fb_o11 zb zt zr1 zr2 zr3 zr4 zr5 zr6 zh zr8 zr9, fb_o9 zt zt0 zt2 zt3 zt4 (upd (upd (upd (upd (upd (upd (upd (upd (upd (upd (upd (upd (upd (upd (upd (upd (upd (upd (upd (upd z9 1 (1 : Int32)) 1 (2 : Int32)) 1 (3 : Int32)) 1 (4 : Int32)) 1 (5 : Int32)) 1 (6 : Int32)) 1 (7 : Int32)) 1 (8 : Int32)) 1 (9 : Int32)) 1 (10 : Int32)) 1 (11 : Int32)) 1 (12 : Int32)) 1 (13 : Int32)) 1 (14 : Int32)) 1 (15 : Int32)) 1 (16 : Int32)) 1 (17 : Int32)) 1 (18 : Int32)) 1 (19 : Int32)) 1 (20 : Int32)), fb_aw cI zt0 2000 w6, fb_o0 zh zh0 zh1 z0] : List va_W).flatten) H locs := I
  refine lv_aload_n hx hb dX11_feed_68 rfl (lv_at hl 0 rfl) ?_
  refine fb_get X I (k := 7) (v := .ref zh) fu_X11 0 rfl rfl (Nat.le_of_ble_eq_true rfl) fw_694 rfl rfl dX11_feed_69 ?_
  refine fb_gV (cs := [fb_o0 zh zh0 zh1 z0]) (rs := [fb_o11 zb zt zr1 zr2 zr3 zr4 zr5 zr6 zh zr8 zr9, fb_o9 zt zt0 zt2 zt3 zt4 (upd (upd (upd (upd (upd (upd (upd (upd (upd (upd (upd (upd (upd (upd (upd (upd (upd (upd (upd (upd z9 1 (1 : Int32)) 1 (2 : Int32)) 1 (3 : Int32)) 1 (4 : Int32)) 1 (5 : Int32)) 1 (6 : Int32)) 1 (7 : Int32)) 1 (8 : Int32)) 1 (9 : Int32)) 1 (10 : Int32)) 1 (11 : Int32)) 1 (12 : Int32)) 1 (13 : Int32)) 1 (14 : Int32)) 1 (15 : Int32)) 1 (16 : Int32)) 1 (17 : Int32)) 1 (18 : Int32)) 1 (19 : Int32)) 1 (20 : Int32)), fb_aw cI zt0 2000 w6]) (fun (t : Unit) => [fb_o11 zb zt zr1 zr2 zr3 zr4 zr5 zr6 zh zr8 zr9, fb_o9 zt zt0 zt2 zt3 zt4 (upd (upd (upd (upd (upd (upd (upd (upd (upd (upd (upd (upd (upd (upd (upd (upd (upd (upd (upd (upd z9 1 (1 : Int32)) 1 (2 : Int32)) 1 (3 : Int32)) 1 (4 : Int32)) 1 (5 : Int32)) 1 (6 : Int32)) 1 (7 : Int32)) 1 (8 : Int32)) 1 (9 : Int32)) 1 (10 : Int32)) 1 (11 : Int32)) 1 (12 : Int32)) 1 (13 : Int32)) 1 (14 : Int32)) 1 (15 : Int32)) 1 (16 : Int32)) 1 (17 : Int32)) 1 (18 : Int32)) 1 (19 : Int32)) 1 (20 : Int32)), fb_aw cI zt0 2000 w6, fb_o0 zh zh0 zh1 (upd (upd (upd (upd z0 2 (-1 : Int32)) 3 (-1 : Int32)) 4 (0 : Int32)) 5 (0 : Int32))]) (fun (t : Unit) => [fb_o0 zh zh0 zh1 (upd (upd (upd (upd z0 2 (-1 : Int32)) 3 (-1 : Int32)) 4 (0 : Int32)) 5 (0 : Int32))]) X I [3, 0, 1, 2] 4 rfl (by decide +kernel) rfl rfl [3, 0, 1, 2] 4 (fun _ => rfl) (by decide +kernel) (fun _ => rfl) (fun _ => rfl) (fun I => fb_rV (As := []) (rest := []) X hl (fb_goodV fw_1117 fw_1118 fw_1119 fw_200 fw_1120) (c_forget0 l D cI cJ zh zh0 zh1 z0 _ ) rfl rfl rfl (by decide +kernel : fb_hd yX0_forget 0) ⟨Nat.le_of_ble_eq_true rfl, Nat.le_of_ble_eq_true rfl⟩ rfl rfl rfl rfl rfl (Nat.le_of_ble_eq_true rfl) ⟨Nat.zero_le _, Nat.zero_le _⟩ dX11_feed_72 I) ?_
  intro w7 H locs _ I
  have I : fb_In D A s.heap (([fb_o11 zb zt zr1 zr2 zr3 zr4 zr5 zr6 zh zr8 zr9, fb_o9 zt zt0 zt2 zt3 zt4 (upd (upd (upd (upd (upd (upd (upd (upd (upd (upd (upd (upd (upd (upd (upd (upd (upd (upd (upd (upd z9 1 (1 : Int32)) 1 (2 : Int32)) 1 (3 : Int32)) 1 (4 : Int32)) 1 (5 : Int32)) 1 (6 : Int32)) 1 (7 : Int32)) 1 (8 : Int32)) 1 (9 : Int32)) 1 (10 : Int32)) 1 (11 : Int32)) 1 (12 : Int32)) 1 (13 : Int32)) 1 (14 : Int32)) 1 (15 : Int32)) 1 (16 : Int32)) 1 (17 : Int32)) 1 (18 : Int32)) 1 (19 : Int32)) 1 (20 : Int32)), fb_aw cI zt0 2000 w6, fb_o0 zh zh0 zh1 (upd (upd (upd (upd z0 2 (-1 : Int32)) 3 (-1 : Int32)) 4 (0 : Int32)) 5 (0 : Int32))] : List va_W).flatten) H locs := I
  refine lv_aload_n hx hb dX11_feed_75 rfl (lv_at hl 0 rfl) ?_
  refine fb_get X I (k := 0) (v := .ref zt) fu_X11 0 rfl rfl (Nat.le_of_ble_eq_true rfl) fw_687 rfl rfl dX11_feed_76 ?_
  refine fb_get X I (k := 1) (v := .int (20 : Int32)) fu_X9 1 rfl rfl (Nat.le_of_ble_eq_true rfl) fw_234 rfl rfl dX11_feed_79 ?_
  exact fb_retI (u := (w6)) X I rfl rfl dX11_feed_82

set_option maxHeartbeats 4000000 in
set_option maxRecDepth 100000 in
theorem c_begin3 (l : Launch) (D : va_G) (cI cJ : ClassId) (zn : Nat) (zn0 : Nat) (zn1 : Nat) (zn3 : Nat) (z3 : fb_AR) (sz : Nat)  : Met l yX3_begin (Cond.code yX3_begin cX3_begin 1 none :: fb_all) ({ frames := 1, cells := 0, slots := 0, locals := 30 } : Room) (fb_PP D (fb_ty D cI cJ) [.ref zn] (([fb_o3 zn zn0 zn1 zn3 z3] : List va_W).flatten) sz) (fb_QV D (va_A (([fb_o3 zn zn0 zn1 zn3 z3] : List va_W).flatten) sz) (fun (_ : Unit) => True) (fun (t : Unit) => ([fb_o3 zn zn0 zn1 zn3 (upd z3 2 (0 : Int32))] : List va_W).flatten)) 0 0 (va_A (([fb_o3 zn zn0 zn1 zn3 z3] : List va_W).flatten) sz) := by
  refine fb_ent (Qf := fun A => (fb_QV D A (fun (_ : Unit) => True) (fun (t : Unit) => ([fb_o3 zn zn0 zn1 zn3 (upd z3 2 (0 : Int32))] : List va_W).flatten))) (by decide +kernel) (Nat.le_of_ble_eq_true rfl) ?_
  intro p e s m args below meth c A ls X I hl hin
  obtain ⟨hx, hb, hr, hml, hown, hts, hlk, hA, hK, hF⟩ := id X
  have hl : lv_has ls 1 [(0, .ref zn)] := hl
  refine lv_aload_n hx hb dX3_begin_0 rfl (lv_at hl 0 rfl) ?_
  refine lv_iconst (v := (0 : Int32)) hx hb dX3_begin_1 (by decide) ?_
  refine fb_put X I (k := 2) (wn := ([fb_o3 zn zn0 zn1 zn3 (upd z3 2 (0 : Int32))] : List va_W).flatten) fu_X3 tyX3 tyX3_ok nmX3 0 rfl rfl (Nat.le_of_ble_eq_true rfl) fw_272 rfl rfl rfl rfl rfl (Nat.le_of_ble_eq_true rfl) rfl dX3_begin_2 (fun H locs I => ?_)
  exact fb_retV (u := ()) X I trivial dX3_begin_5

set_option maxHeartbeats 4000000 in
set_option maxRecDepth 100000 in
theorem c_begin4 (l : Launch) (D : va_G) (cI cJ : ClassId) (zp : Nat) (zp0 : Nat) (zp1 : Nat) (zp2 : Nat) (zp3 : Nat) (zp4 : Nat) (zp5 : Nat) (zp6 : Nat) (zp7 : Nat) (zp9 : Nat) (z4 : fb_AR) (sz : Nat)  : Met l yX4_begin (Cond.code yX4_begin cX4_begin 1 none :: fb_all) ({ frames := 1, cells := 0, slots := 0, locals := 30 } : Room) (fb_PP D (fb_ty D cI cJ) [.ref zp] (([fb_o4 zp zp0 zp1 zp2 zp3 zp4 zp5 zp6 zp7 zp9 z4] : List va_W).flatten) sz) (fb_QV D (va_A (([fb_o4 zp zp0 zp1 zp2 zp3 zp4 zp5 zp6 zp7 zp9 z4] : List va_W).flatten) sz) (fun (_ : Unit) => True) (fun (t : Unit) => ([fb_o4 zp zp0 zp1 zp2 zp3 zp4 zp5 zp6 zp7 zp9 (upd (upd (upd (upd (upd z4 13 (0 : Int32)) 14 (-1 : Int32)) 10 (0 : Int32)) 11 (3072 : Int32)) 12 (0 : Int32))] : List va_W).flatten)) 0 0 (va_A (([fb_o4 zp zp0 zp1 zp2 zp3 zp4 zp5 zp6 zp7 zp9 z4] : List va_W).flatten) sz) := by
  refine fb_ent (Qf := fun A => (fb_QV D A (fun (_ : Unit) => True) (fun (t : Unit) => ([fb_o4 zp zp0 zp1 zp2 zp3 zp4 zp5 zp6 zp7 zp9 (upd (upd (upd (upd (upd z4 13 (0 : Int32)) 14 (-1 : Int32)) 10 (0 : Int32)) 11 (3072 : Int32)) 12 (0 : Int32))] : List va_W).flatten))) (by decide +kernel) (Nat.le_of_ble_eq_true rfl) ?_
  intro p e s m args below meth c A ls X I hl hin
  obtain ⟨hx, hb, hr, hml, hown, hts, hlk, hA, hK, hF⟩ := id X
  have hl : lv_has ls 1 [(0, .ref zp)] := hl
  refine lv_aload_n hx hb dX4_begin_0 rfl (lv_at hl 0 rfl) ?_
  refine lv_iconst (v := (0 : Int32)) hx hb dX4_begin_1 (by decide) ?_
  refine fb_put X I (k := 13) (wn := ([fb_o4 zp zp0 zp1 zp2 zp3 zp4 zp5 zp6 zp7 zp9 (upd z4 13 (0 : Int32))] : List va_W).flatten) fu_X4 tyX4 tyX4_ok nmX4 0 rfl rfl (Nat.le_of_ble_eq_true rfl) fw_413 rfl rfl rfl rfl rfl (Nat.le_of_ble_eq_true rfl) rfl dX4_begin_2 (fun H locs I => ?_)
  refine lv_aload_n hx hb dX4_begin_5 rfl (lv_at hl 0 rfl) ?_
  refine lv_iconst (v := (-1 : Int32)) hx hb dX4_begin_6 (by decide) ?_
  refine fb_put X I (k := 14) (wn := ([fb_o4 zp zp0 zp1 zp2 zp3 zp4 zp5 zp6 zp7 zp9 (upd (upd z4 13 (0 : Int32)) 14 (-1 : Int32))] : List va_W).flatten) fu_X4 tyX4 tyX4_ok nmX4 0 rfl rfl (Nat.le_of_ble_eq_true rfl) fw_415 rfl rfl rfl rfl rfl (Nat.le_of_ble_eq_true rfl) rfl dX4_begin_7 (fun H locs I => ?_)
  refine lv_aload_n hx hb dX4_begin_10 rfl (lv_at hl 0 rfl) ?_
  refine lv_iconst (v := (0 : Int32)) hx hb dX4_begin_11 (by decide) ?_
  refine fb_put X I (k := 10) (wn := ([fb_o4 zp zp0 zp1 zp2 zp3 zp4 zp5 zp6 zp7 zp9 (upd (upd (upd z4 13 (0 : Int32)) 14 (-1 : Int32)) 10 (0 : Int32))] : List va_W).flatten) fu_X4 tyX4 tyX4_ok nmX4 0 rfl rfl (Nat.le_of_ble_eq_true rfl) fw_410 rfl rfl rfl rfl rfl (Nat.le_of_ble_eq_true rfl) rfl dX4_begin_12 (fun H locs I => ?_)
  refine lv_aload_n hx hb dX4_begin_15 rfl (lv_at hl 0 rfl) ?_
  refine lv_sipush (v := (3072 : Int32)) hx hb dX4_begin_16 (by decide) ?_
  refine fb_put X I (k := 11) (wn := ([fb_o4 zp zp0 zp1 zp2 zp3 zp4 zp5 zp6 zp7 zp9 (upd (upd (upd (upd z4 13 (0 : Int32)) 14 (-1 : Int32)) 10 (0 : Int32)) 11 (3072 : Int32))] : List va_W).flatten) fu_X4 tyX4 tyX4_ok nmX4 0 rfl rfl (Nat.le_of_ble_eq_true rfl) fw_411 rfl rfl rfl rfl rfl (Nat.le_of_ble_eq_true rfl) rfl dX4_begin_19 (fun H locs I => ?_)
  refine lv_aload_n hx hb dX4_begin_22 rfl (lv_at hl 0 rfl) ?_
  refine lv_iconst (v := (0 : Int32)) hx hb dX4_begin_23 (by decide) ?_
  refine fb_put X I (k := 12) (wn := ([fb_o4 zp zp0 zp1 zp2 zp3 zp4 zp5 zp6 zp7 zp9 (upd (upd (upd (upd (upd z4 13 (0 : Int32)) 14 (-1 : Int32)) 10 (0 : Int32)) 11 (3072 : Int32)) 12 (0 : Int32))] : List va_W).flatten) fu_X4 tyX4 tyX4_ok nmX4 0 rfl rfl (Nat.le_of_ble_eq_true rfl) fw_412 rfl rfl rfl rfl rfl (Nat.le_of_ble_eq_true rfl) rfl dX4_begin_24 (fun H locs I => ?_)
  exact fb_retV (u := ()) X I trivial dX4_begin_27

set_option maxHeartbeats 4000000 in
set_option maxRecDepth 100000 in
theorem c_clear1 (l : Launch) (D : va_G) (cI cJ : ClassId) (zl : Nat) (z1 : fb_AR) (sz : Nat)  : Met l yX1_clear (Cond.code yX1_clear cX1_clear 1 none :: fb_all) ({ frames := 1, cells := 0, slots := 0, locals := 30 } : Room) (fb_PP D (fb_ty D cI cJ) [.ref zl] (([fb_o1 zl  z1] : List va_W).flatten) sz) (fb_QV D (va_A (([fb_o1 zl  z1] : List va_W).flatten) sz) (fun (_ : Unit) => True) (fun (t : Unit) => ([fb_o1 zl  (upd (upd (upd (upd (upd (upd (upd (upd (upd z1 0 (-1 : Int32)) 1 (-1 : Int32)) 2 (-1 : Int32)) 3 (0 : Int32)) 4 (0 : Int32)) 5 (0 : Int32)) 6 (-1 : Int32)) 7 (0 : Int32)) 8 (0 : Int32))] : List va_W).flatten)) 0 0 (va_A (([fb_o1 zl  z1] : List va_W).flatten) sz) := by
  refine fb_ent (Qf := fun A => (fb_QV D A (fun (_ : Unit) => True) (fun (t : Unit) => ([fb_o1 zl  (upd (upd (upd (upd (upd (upd (upd (upd (upd z1 0 (-1 : Int32)) 1 (-1 : Int32)) 2 (-1 : Int32)) 3 (0 : Int32)) 4 (0 : Int32)) 5 (0 : Int32)) 6 (-1 : Int32)) 7 (0 : Int32)) 8 (0 : Int32))] : List va_W).flatten))) (by decide +kernel) (Nat.le_of_ble_eq_true rfl) ?_
  intro p e s m args below meth c A ls X I hl hin
  obtain ⟨hx, hb, hr, hml, hown, hts, hlk, hA, hK, hF⟩ := id X
  have hl : lv_has ls 1 [(0, .ref zl)] := hl
  refine lv_aload_n hx hb dX1_clear_0 rfl (lv_at hl 0 rfl) ?_
  refine lv_iconst (v := (-1 : Int32)) hx hb dX1_clear_1 (by decide) ?_
  refine fb_put X I (k := 0) (wn := ([fb_o1 zl  (upd z1 0 (-1 : Int32))] : List va_W).flatten) fu_X1 tyX1 tyX1_ok nmX1 0 rfl rfl (Nat.le_of_ble_eq_true rfl) fw_333 rfl rfl rfl rfl rfl (Nat.le_of_ble_eq_true rfl) rfl dX1_clear_2 (fun H locs I => ?_)
  refine lv_aload_n hx hb dX1_clear_5 rfl (lv_at hl 0 rfl) ?_
  refine lv_iconst (v := (-1 : Int32)) hx hb dX1_clear_6 (by decide) ?_
  refine fb_put X I (k := 1) (wn := ([fb_o1 zl  (upd (upd z1 0 (-1 : Int32)) 1 (-1 : Int32))] : List va_W).flatten) fu_X1 tyX1 tyX1_ok nmX1 0 rfl rfl (Nat.le_of_ble_eq_true rfl) fw_336 rfl rfl rfl rfl rfl (Nat.le_of_ble_eq_true rfl) rfl dX1_clear_7 (fun H locs I => ?_)
  refine lv_aload_n hx hb dX1_clear_10 rfl (lv_at hl 0 rfl) ?_
  refine lv_iconst (v := (-1 : Int32)) hx hb dX1_clear_11 (by decide) ?_
  refine fb_put X I (k := 2) (wn := ([fb_o1 zl  (upd (upd (upd z1 0 (-1 : Int32)) 1 (-1 : Int32)) 2 (-1 : Int32))] : List va_W).flatten) fu_X1 tyX1 tyX1_ok nmX1 0 rfl rfl (Nat.le_of_ble_eq_true rfl) fw_339 rfl rfl rfl rfl rfl (Nat.le_of_ble_eq_true rfl) rfl dX1_clear_12 (fun H locs I => ?_)
  refine lv_aload_n hx hb dX1_clear_15 rfl (lv_at hl 0 rfl) ?_
  refine lv_iconst (v := (0 : Int32)) hx hb dX1_clear_16 (by decide) ?_
  refine fb_put X I (k := 3) (wn := ([fb_o1 zl  (upd (upd (upd (upd z1 0 (-1 : Int32)) 1 (-1 : Int32)) 2 (-1 : Int32)) 3 (0 : Int32))] : List va_W).flatten) fu_X1 tyX1 tyX1_ok nmX1 0 rfl rfl (Nat.le_of_ble_eq_true rfl) fw_342 rfl rfl rfl rfl rfl (Nat.le_of_ble_eq_true rfl) rfl dX1_clear_17 (fun H locs I => ?_)
  refine lv_aload_n hx hb dX1_clear_20 rfl (lv_at hl 0 rfl) ?_
  refine lv_iconst (v := (0 : Int32)) hx hb dX1_clear_21 (by decide) ?_
  refine fb_put X I (k := 4) (wn := ([fb_o1 zl  (upd (upd (upd (upd (upd z1 0 (-1 : Int32)) 1 (-1 : Int32)) 2 (-1 : Int32)) 3 (0 : Int32)) 4 (0 : Int32))] : List va_W).flatten) fu_X1 tyX1 tyX1_ok nmX1 0 rfl rfl (Nat.le_of_ble_eq_true rfl) fw_345 rfl rfl rfl rfl rfl (Nat.le_of_ble_eq_true rfl) rfl dX1_clear_22 (fun H locs I => ?_)
  refine lv_aload_n hx hb dX1_clear_25 rfl (lv_at hl 0 rfl) ?_
  refine lv_iconst (v := (0 : Int32)) hx hb dX1_clear_26 (by decide) ?_
  refine fb_put X I (k := 5) (wn := ([fb_o1 zl  (upd (upd (upd (upd (upd (upd z1 0 (-1 : Int32)) 1 (-1 : Int32)) 2 (-1 : Int32)) 3 (0 : Int32)) 4 (0 : Int32)) 5 (0 : Int32))] : List va_W).flatten) fu_X1 tyX1 tyX1_ok nmX1 0 rfl rfl (Nat.le_of_ble_eq_true rfl) fw_348 rfl rfl rfl rfl rfl (Nat.le_of_ble_eq_true rfl) rfl dX1_clear_27 (fun H locs I => ?_)
  refine lv_aload_n hx hb dX1_clear_30 rfl (lv_at hl 0 rfl) ?_
  refine lv_iconst (v := (-1 : Int32)) hx hb dX1_clear_31 (by decide) ?_
  refine fb_put X I (k := 6) (wn := ([fb_o1 zl  (upd (upd (upd (upd (upd (upd (upd z1 0 (-1 : Int32)) 1 (-1 : Int32)) 2 (-1 : Int32)) 3 (0 : Int32)) 4 (0 : Int32)) 5 (0 : Int32)) 6 (-1 : Int32))] : List va_W).flatten) fu_X1 tyX1 tyX1_ok nmX1 0 rfl rfl (Nat.le_of_ble_eq_true rfl) fw_350 rfl rfl rfl rfl rfl (Nat.le_of_ble_eq_true rfl) rfl dX1_clear_32 (fun H locs I => ?_)
  refine lv_aload_n hx hb dX1_clear_35 rfl (lv_at hl 0 rfl) ?_
  refine lv_iconst (v := (0 : Int32)) hx hb dX1_clear_36 (by decide) ?_
  refine fb_put X I (k := 7) (wn := ([fb_o1 zl  (upd (upd (upd (upd (upd (upd (upd (upd z1 0 (-1 : Int32)) 1 (-1 : Int32)) 2 (-1 : Int32)) 3 (0 : Int32)) 4 (0 : Int32)) 5 (0 : Int32)) 6 (-1 : Int32)) 7 (0 : Int32))] : List va_W).flatten) fu_X1 tyX1 tyX1_ok nmX1 0 rfl rfl (Nat.le_of_ble_eq_true rfl) fw_352 rfl rfl rfl rfl rfl (Nat.le_of_ble_eq_true rfl) rfl dX1_clear_37 (fun H locs I => ?_)
  refine lv_aload_n hx hb dX1_clear_40 rfl (lv_at hl 0 rfl) ?_
  refine lv_iconst (v := (0 : Int32)) hx hb dX1_clear_41 (by decide) ?_
  refine fb_put X I (k := 8) (wn := ([fb_o1 zl  (upd (upd (upd (upd (upd (upd (upd (upd (upd z1 0 (-1 : Int32)) 1 (-1 : Int32)) 2 (-1 : Int32)) 3 (0 : Int32)) 4 (0 : Int32)) 5 (0 : Int32)) 6 (-1 : Int32)) 7 (0 : Int32)) 8 (0 : Int32))] : List va_W).flatten) fu_X1 tyX1 tyX1_ok nmX1 0 rfl rfl (Nat.le_of_ble_eq_true rfl) fw_354 rfl rfl rfl rfl rfl (Nat.le_of_ble_eq_true rfl) rfl dX1_clear_42 (fun H locs I => ?_)
  exact fb_retV (u := ()) X I trivial dX1_clear_45

set_option maxHeartbeats 4000000 in
set_option maxRecDepth 100000 in
theorem c_kind0 (l : Launch) (D : va_G) (cI cJ : ClassId) (zv : Nat) (zv1 : Nat) (zz : fb_AR) (zt : Nat) (zt0 : Nat) (zt2 : Nat) (zt3 : Nat) (zt4 : Nat) (z9 : fb_AR) (zk2 : fb_AR) (sz : Nat) (zzk2 : zz 2 = (0 : Int32)) (z9k5 : z9 5 = (1 : Int32)) (a0 : zk2 0 = (10 : Int32)) : Met l yX10_kind (Cond.code yX10_kind cX10_kind 2 (some .int) :: fb_all) ({ frames := 1, cells := 0, slots := 0, locals := 30 } : Room) (fb_PP D (fb_ty D cI cJ) [.ref zv] (([fb_o10 zv zt zv1 zz, fb_o9 zt zt0 zt2 zt3 zt4 z9, fb_aw cI zt2 2001 zk2] : List va_W).flatten) sz) (vp_Si (fun r => r = (10 : Int32))) 0 0 (fun _ => False) := by
  refine fb_entR (by decide +kernel) (Nat.le_of_ble_eq_true rfl) ?_
  intro p e s m args below meth c A ls X I hl hin
  obtain ⟨hx, hb, hr, hml, hown, hts, hlk, hA, hK, hF⟩ := id X
  have hl : lv_has ls 2 [(0, .ref zv)] := hl
  refine lv_aload_n hx hb dX10_kind_0 rfl (lv_at hl 0 rfl) ?_
  refine fb_get X I (k := 2) (v := .int (zz 2)) fu_X10 0 rfl rfl (Nat.le_of_ble_eq_true rfl) fw_296 rfl rfl dX10_kind_1 ?_
  refine fb_tI (v := (0 : Int32)) zzk2 ?_
  refine lv_if_lt (tgt := 40) hx hb dX10_kind_4 (by decide) (fun c1 => absurd c1 (by decide)) (fun _ => ?_)
  refine lv_aload_n hx hb dX10_kind_7 rfl (lv_at hl 0 rfl) ?_
  refine fb_get X I (k := 2) (v := .int (zz 2)) fu_X10 0 rfl rfl (Nat.le_of_ble_eq_true rfl) fw_296 rfl rfl dX10_kind_8 ?_
  refine fb_tI (v := (0 : Int32)) zzk2 ?_
  refine lv_aload_n hx hb dX10_kind_11 rfl (lv_at hl 0 rfl) ?_
  refine fb_get X I (k := 0) (v := .ref zt) fu_X10 0 rfl rfl (Nat.le_of_ble_eq_true rfl) fw_294 rfl rfl dX10_kind_12 ?_
  refine fb_get X I (k := 5) (v := .int (z9 5)) fu_X9 1 rfl rfl (Nat.le_of_ble_eq_true rfl) fw_245 rfl rfl dX10_kind_15 ?_
  refine fb_tI (v := (1 : Int32)) z9k5 ?_
  refine lv_icmp_ge (tgt := 40) hx hb dX10_kind_18 (by decide) (fun c2 => absurd c2 (by decide)) (fun _ => ?_)
  refine lv_aload_n hx hb dX10_kind_21 rfl (lv_at hl 0 rfl) ?_
  refine fb_get X I (k := 2) (v := .int (zz 2)) fu_X10 0 rfl rfl (Nat.le_of_ble_eq_true rfl) fw_296 rfl rfl dX10_kind_22 ?_
  refine fb_tI (v := (0 : Int32)) zzk2 ?_
  refine lv_aload_n hx hb dX10_kind_25 rfl (lv_at hl 0 rfl) ?_
  refine fb_get X I (k := 0) (v := .ref zt) fu_X10 0 rfl rfl (Nat.le_of_ble_eq_true rfl) fw_294 rfl rfl dX10_kind_26 ?_
  refine fb_get X I (k := 2) (v := .ref zt2) fu_X9 1 rfl rfl (Nat.le_of_ble_eq_true rfl) fw_238 rfl rfl dX10_kind_29 ?_
  refine fb_alen (v := (2001 : Int32)) X I 2 0 rfl rfl rfl dX10_kind_32 ?_
  refine lv_icmp_ge (tgt := 40) hx hb dX10_kind_33 (by decide) (fun c3 => absurd c3 (by decide)) (fun _ => ?_)
  refine lv_iconst (v := (1 : Int32)) hx hb dX10_kind_36 (by decide) ?_
  refine lv_goto (tgt := 41) hx hb dX10_kind_37 (by decide) ?_
  refine lv_istore_n (lv' := [(1, .int (1 : Int32)), (0, .ref zv)]) hx hb dX10_kind_41 rfl hl (by decide) rfl (fun ls hl => ?_)
  refine lv_iload_n hx hb dX10_kind_42 rfl (lv_at hl 0 rfl) ?_
  refine lv_if_eq (tgt := 61) hx hb dX10_kind_43 (by decide) (fun c4 => absurd c4 (by decide)) (fun _ => ?_)
  refine lv_aload_n hx hb dX10_kind_46 rfl (lv_at hl 1 rfl) ?_
  refine fb_get X I (k := 0) (v := .ref zt) fu_X10 0 rfl rfl (Nat.le_of_ble_eq_true rfl) fw_294 rfl rfl dX10_kind_47 ?_
  refine fb_get X I (k := 2) (v := .ref zt2) fu_X9 1 rfl rfl (Nat.le_of_ble_eq_true rfl) fw_238 rfl rfl dX10_kind_50 ?_
  refine lv_aload_n hx hb dX10_kind_53 rfl (lv_at hl 1 rfl) ?_
  refine fb_get X I (k := 2) (v := .int (zz 2)) fu_X10 0 rfl rfl (Nat.le_of_ble_eq_true rfl) fw_296 rfl rfl dX10_kind_54 ?_
  refine fb_tI (v := (0 : Int32)) zzk2 ?_
  refine fb_iaC (n := 0) (v := (10 : Int32)) X I 2 0 rfl rfl (by decide) (by decide) (Nat.le_of_ble_eq_true rfl) a0 dX10_kind_57 ?_
  refine lv_goto (tgt := 62) hx hb dX10_kind_58 (by decide) ?_
  exact fb_retRI X rfl rfl dX10_kind_62

set_option maxHeartbeats 4000000 in
set_option maxRecDepth 100000 in
theorem c_take_n (l : Launch) (D : va_G) (cI cJ : ClassId) (zv : Nat) (zv1 : Nat) (zz : fb_AR) (zt : Nat) (zt0 : Nat) (zt2 : Nat) (zt3 : Nat) (zt4 : Nat) (z9 : fb_AR) (zk2 : fb_AR) (sz : Nat) (zzk2 : zz 2 = (0 : Int32)) (z9k5 : z9 5 = (1 : Int32)) (a0 : zk2 0 = (10 : Int32)) : Met l yX10_take (Cond.code yX10_take cX10_take 2 (some .boolean) :: fb_all) ({ frames := 2, cells := 0, slots := 0, locals := 51 } : Room) (fb_PP D (fb_ty D cI cJ) [.ref zv, .int (97 : Int32)] (([fb_o10 zv zt zv1 zz, fb_o9 zt zt0 zt2 zt3 zt4 z9, fb_aw cI zt2 2001 zk2] : List va_W).flatten) sz) (vp_Si (fun r => r = (0 : Int32))) 0 0 (fun _ => False) := by
  refine fb_entR (by decide +kernel) (Nat.le_of_ble_eq_true rfl) ?_
  intro p e s m args below meth c A ls X I hl hin
  obtain ⟨hx, hb, hr, hml, hown, hts, hlk, hA, hK, hF⟩ := id X
  have hl : lv_has ls 2 [(0, .ref zv), (1, .int (97 : Int32))] := hl
  refine lv_aload_n hx hb dX10_take_0 rfl (lv_at hl 0 rfl) ?_
  refine fb_gO (cs := [fb_o10 zv zt zv1 zz, fb_o9 zt zt0 zt2 zt3 zt4 z9, fb_aw cI zt2 2001 zk2]) (rs := []) X I [0, 1, 2] 3 rfl (by decide +kernel) rfl rfl (fun I => fb_rV (As := []) (rest := []) X hl (fb_goodV fw_932 fw_933 fw_934 fw_194 fw_935) (c_kind0 l D cI cJ zv zv1 zz zt zt0 zt2 zt3 zt4 z9 zk2 _ zzk2 z9k5 a0) rfl rfl rfl (by decide +kernel : fb_hd yX10_kind 0) ⟨Nat.le_of_ble_eq_true rfl, Nat.le_of_ble_eq_true rfl⟩ rfl rfl rfl rfl rfl (Nat.le_of_ble_eq_true rfl) ⟨Nat.zero_le _, Nat.zero_le _⟩ dX10_take_1 I) ?_
  refine lv_iload_n hx hb dX10_take_4 rfl (lv_at hl 1 rfl) ?_
  refine lv_icmp_eq (tgt := 10) hx hb dX10_take_5 (by decide) (fun c1 => absurd c1 (by decide)) (fun _ => ?_)
  refine lv_iconst (v := (0 : Int32)) hx hb dX10_take_8 (by decide) ?_
  exact fb_retRI X rfl rfl dX10_take_9

set_option maxHeartbeats 4000000 in
set_option maxRecDepth 100000 in
theorem c_take_c (l : Launch) (D : va_G) (cI cJ : ClassId) (zv : Nat) (zv1 : Nat) (zz : fb_AR) (zt : Nat) (zt0 : Nat) (zt2 : Nat) (zt3 : Nat) (zt4 : Nat) (z9 : fb_AR) (zk2 : fb_AR) (sz : Nat) (zzk2 : zz 2 = (0 : Int32)) (z9k5 : z9 5 = (1 : Int32)) (a0 : zk2 0 = (10 : Int32)) : Met l yX10_take (Cond.code yX10_take cX10_take 2 (some .boolean) :: fb_all) ({ frames := 2, cells := 0, slots := 0, locals := 51 } : Room) (fb_PP D (fb_ty D cI cJ) [.ref zv, .int (65 : Int32)] (([fb_o10 zv zt zv1 zz, fb_o9 zt zt0 zt2 zt3 zt4 z9, fb_aw cI zt2 2001 zk2] : List va_W).flatten) sz) (vp_Si (fun r => r = (0 : Int32))) 0 0 (fun _ => False) := by
  refine fb_entR (by decide +kernel) (Nat.le_of_ble_eq_true rfl) ?_
  intro p e s m args below meth c A ls X I hl hin
  obtain ⟨hx, hb, hr, hml, hown, hts, hlk, hA, hK, hF⟩ := id X
  have hl : lv_has ls 2 [(0, .ref zv), (1, .int (65 : Int32))] := hl
  refine lv_aload_n hx hb dX10_take_0 rfl (lv_at hl 0 rfl) ?_
  refine fb_gO (cs := [fb_o10 zv zt zv1 zz, fb_o9 zt zt0 zt2 zt3 zt4 z9, fb_aw cI zt2 2001 zk2]) (rs := []) X I [0, 1, 2] 3 rfl (by decide +kernel) rfl rfl (fun I => fb_rV (As := []) (rest := []) X hl (fb_goodV fw_932 fw_933 fw_934 fw_194 fw_935) (c_kind0 l D cI cJ zv zv1 zz zt zt0 zt2 zt3 zt4 z9 zk2 _ zzk2 z9k5 a0) rfl rfl rfl (by decide +kernel : fb_hd yX10_kind 0) ⟨Nat.le_of_ble_eq_true rfl, Nat.le_of_ble_eq_true rfl⟩ rfl rfl rfl rfl rfl (Nat.le_of_ble_eq_true rfl) ⟨Nat.zero_le _, Nat.zero_le _⟩ dX10_take_1 I) ?_
  refine lv_iload_n hx hb dX10_take_4 rfl (lv_at hl 1 rfl) ?_
  refine lv_icmp_eq (tgt := 10) hx hb dX10_take_5 (by decide) (fun c1 => absurd c1 (by decide)) (fun _ => ?_)
  refine lv_iconst (v := (0 : Int32)) hx hb dX10_take_8 (by decide) ?_
  exact fb_retRI X rfl rfl dX10_take_9

set_option maxHeartbeats 4000000 in
set_option maxRecDepth 100000 in
theorem c_take_w (l : Launch) (D : va_G) (cI cJ : ClassId) (zv : Nat) (zv1 : Nat) (zz : fb_AR) (zt : Nat) (zt0 : Nat) (zt2 : Nat) (zt3 : Nat) (zt4 : Nat) (z9 : fb_AR) (zk2 : fb_AR) (sz : Nat) (zzk2 : zz 2 = (0 : Int32)) (z9k5 : z9 5 = (1 : Int32)) (a0 : zk2 0 = (10 : Int32)) : Met l yX10_take (Cond.code yX10_take cX10_take 2 (some .boolean) :: fb_all) ({ frames := 2, cells := 0, slots := 0, locals := 51 } : Room) (fb_PP D (fb_ty D cI cJ) [.ref zv, .int (46 : Int32)] (([fb_o10 zv zt zv1 zz, fb_o9 zt zt0 zt2 zt3 zt4 z9, fb_aw cI zt2 2001 zk2] : List va_W).flatten) sz) (vp_Si (fun r => r = (0 : Int32))) 0 0 (fun _ => False) := by
  refine fb_entR (by decide +kernel) (Nat.le_of_ble_eq_true rfl) ?_
  intro p e s m args below meth c A ls X I hl hin
  obtain ⟨hx, hb, hr, hml, hown, hts, hlk, hA, hK, hF⟩ := id X
  have hl : lv_has ls 2 [(0, .ref zv), (1, .int (46 : Int32))] := hl
  refine lv_aload_n hx hb dX10_take_0 rfl (lv_at hl 0 rfl) ?_
  refine fb_gO (cs := [fb_o10 zv zt zv1 zz, fb_o9 zt zt0 zt2 zt3 zt4 z9, fb_aw cI zt2 2001 zk2]) (rs := []) X I [0, 1, 2] 3 rfl (by decide +kernel) rfl rfl (fun I => fb_rV (As := []) (rest := []) X hl (fb_goodV fw_932 fw_933 fw_934 fw_194 fw_935) (c_kind0 l D cI cJ zv zv1 zz zt zt0 zt2 zt3 zt4 z9 zk2 _ zzk2 z9k5 a0) rfl rfl rfl (by decide +kernel : fb_hd yX10_kind 0) ⟨Nat.le_of_ble_eq_true rfl, Nat.le_of_ble_eq_true rfl⟩ rfl rfl rfl rfl rfl (Nat.le_of_ble_eq_true rfl) ⟨Nat.zero_le _, Nat.zero_le _⟩ dX10_take_1 I) ?_
  refine lv_iload_n hx hb dX10_take_4 rfl (lv_at hl 1 rfl) ?_
  refine lv_icmp_eq (tgt := 10) hx hb dX10_take_5 (by decide) (fun c1 => absurd c1 (by decide)) (fun _ => ?_)
  refine lv_iconst (v := (0 : Int32)) hx hb dX10_take_8 (by decide) ?_
  exact fb_retRI X rfl rfl dX10_take_9

set_option maxHeartbeats 4000000 in
set_option maxRecDepth 100000 in
theorem c_take_e (l : Launch) (D : va_G) (cI cJ : ClassId) (zv : Nat) (zv1 : Nat) (zz : fb_AR) (zt : Nat) (zt0 : Nat) (zt2 : Nat) (zt3 : Nat) (zt4 : Nat) (z9 : fb_AR) (zk2 : fb_AR) (sz : Nat) (zzk2 : zz 2 = (0 : Int32)) (z9k5 : z9 5 = (1 : Int32)) (a0 : zk2 0 = (10 : Int32)) : Met l yX10_take (Cond.code yX10_take cX10_take 2 (some .boolean) :: fb_all) ({ frames := 2, cells := 0, slots := 0, locals := 51 } : Room) (fb_PP D (fb_ty D cI cJ) [.ref zv, .int (10 : Int32)] (([fb_o10 zv zt zv1 zz, fb_o9 zt zt0 zt2 zt3 zt4 z9, fb_aw cI zt2 2001 zk2] : List va_W).flatten) sz) (fb_QI D (va_A (([fb_o10 zv zt zv1 zz, fb_o9 zt zt0 zt2 zt3 zt4 z9, fb_aw cI zt2 2001 zk2] : List va_W).flatten) sz) (fun (r : Int32) (_ : Unit) => r = (1 : Int32)) (fun (t : Unit) => ([fb_o10 zv zt zv1 (upd zz 2 (1 : Int32)), fb_o9 zt zt0 zt2 zt3 zt4 z9, fb_aw cI zt2 2001 zk2] : List va_W).flatten)) 0 0 (va_A (([fb_o10 zv zt zv1 zz, fb_o9 zt zt0 zt2 zt3 zt4 z9, fb_aw cI zt2 2001 zk2] : List va_W).flatten) sz) := by
  refine fb_ent (Qf := fun A => (fb_QI D A (fun (r : Int32) (_ : Unit) => r = (1 : Int32)) (fun (t : Unit) => ([fb_o10 zv zt zv1 (upd zz 2 (1 : Int32)), fb_o9 zt zt0 zt2 zt3 zt4 z9, fb_aw cI zt2 2001 zk2] : List va_W).flatten))) (by decide +kernel) (Nat.le_of_ble_eq_true rfl) ?_
  intro p e s m args below meth c A ls X I hl hin
  obtain ⟨hx, hb, hr, hml, hown, hts, hlk, hA, hK, hF⟩ := id X
  have hl : lv_has ls 2 [(0, .ref zv), (1, .int (10 : Int32))] := hl
  refine lv_aload_n hx hb dX10_take_0 rfl (lv_at hl 0 rfl) ?_
  refine fb_gO (cs := [fb_o10 zv zt zv1 zz, fb_o9 zt zt0 zt2 zt3 zt4 z9, fb_aw cI zt2 2001 zk2]) (rs := []) X I [0, 1, 2] 3 rfl (by decide +kernel) rfl rfl (fun I => fb_rV (As := []) (rest := []) X hl (fb_goodV fw_932 fw_933 fw_934 fw_194 fw_935) (c_kind0 l D cI cJ zv zv1 zz zt zt0 zt2 zt3 zt4 z9 zk2 _ zzk2 z9k5 a0) rfl rfl rfl (by decide +kernel : fb_hd yX10_kind 0) ⟨Nat.le_of_ble_eq_true rfl, Nat.le_of_ble_eq_true rfl⟩ rfl rfl rfl rfl rfl (Nat.le_of_ble_eq_true rfl) ⟨Nat.zero_le _, Nat.zero_le _⟩ dX10_take_1 I) ?_
  refine lv_iload_n hx hb dX10_take_4 rfl (lv_at hl 1 rfl) ?_
  refine lv_icmp_eq (tgt := 10) hx hb dX10_take_5 (by decide) (fun _ => ?_) (fun c1 => absurd (by decide) c1)
  refine lv_aload_n hx hb dX10_take_10 rfl (lv_at hl 0 rfl) ?_
  refine lv_dup hx hb dX10_take_11 rfl ?_
  refine fb_get X I (k := 2) (v := .int (zz 2)) fu_X10 0 rfl rfl (Nat.le_of_ble_eq_true rfl) fw_296 rfl rfl dX10_take_12 ?_
  refine fb_tI (v := (0 : Int32)) zzk2 ?_
  refine lv_iconst (v := (1 : Int32)) hx hb dX10_take_15 (by decide) ?_
  refine lv_iadd hx hb dX10_take_16 ?_
  refine fb_tI (v := (1 : Int32)) (by decide) ?_
  refine fb_put X I (k := 2) (wn := ([fb_o10 zv zt zv1 (upd zz 2 (1 : Int32)), fb_o9 zt zt0 zt2 zt3 zt4 z9, fb_aw cI zt2 2001 zk2] : List va_W).flatten) fu_X10 tyX10 tyX10_ok nmX10 0 rfl rfl (Nat.le_of_ble_eq_true rfl) fw_296 rfl rfl rfl rfl rfl (Nat.le_of_ble_eq_true rfl) rfl dX10_take_17 (fun H locs I => ?_)
  refine lv_iconst (v := (1 : Int32)) hx hb dX10_take_20 (by decide) ?_
  exact fb_retI (u := ()) X I rfl rfl dX10_take_21

set_option maxHeartbeats 4000000 in
set_option maxRecDepth 100000 in
theorem c_line0 (l : Launch) (D : va_G) (cI cJ : ClassId) (zs : Nat) (zs0 : Nat) (zs1 : Nat) (zs2 : Nat) (zs3 : Nat) (z8 : fb_AR) (zl : Nat → Nat) (z1 : fb_AR) (sz : Nat)  : Met l yX8_line (Cond.code yX8_line cX8_line 3 (some (.object "FerriteBoard$Line")) :: fb_all) ({ frames := 1, cells := 0, slots := 0, locals := 30 } : Room) (fb_PP D (fb_ty D cI cJ) [.ref zs, .int (0 : Int32)] (([fb_o8 zs zs0 zs1 zs2 zs3 z8, fb_qw (D.1 23) zs2 120 zl, fb_o1 (zl 0)  z1] : List va_W).flatten) sz) (fb_QR D (va_A (([fb_o8 zs zs0 zs1 zs2 zs3 z8, fb_qw (D.1 23) zs2 120 zl, fb_o1 (zl 0)  z1] : List va_W).flatten) sz) (fun (_ : Unit) => True) (fun (t : Unit) (rr : Nat) => ([fb_o8 zs zs0 zs1 zs2 zs3 z8, fb_qw (D.1 23) zs2 120 (va_up zl 0 rr), fb_o1 rr  z1] : List va_W).flatten)) 0 0 (va_A (([fb_o8 zs zs0 zs1 zs2 zs3 z8, fb_qw (D.1 23) zs2 120 zl, fb_o1 (zl 0)  z1] : List va_W).flatten) sz) := by
  refine fb_ent (Qf := fun A => (fb_QR D A (fun (_ : Unit) => True) (fun (t : Unit) (rr : Nat) => ([fb_o8 zs zs0 zs1 zs2 zs3 z8, fb_qw (D.1 23) zs2 120 (va_up zl 0 rr), fb_o1 rr  z1] : List va_W).flatten))) (by decide +kernel) (Nat.le_of_ble_eq_true rfl) ?_
  intro p e s m args below meth c A ls X I hl hin
  obtain ⟨hx, hb, hr, hml, hown, hts, hlk, hA, hK, hF⟩ := id X
  have hl : lv_has ls 3 [(0, .ref zs), (1, .int (0 : Int32))] := hl
  refine lv_iload_n hx hb dX8_line_0 rfl (lv_at hl 1 rfl) ?_
  refine lv_if_lt (tgt := 26) hx hb dX8_line_1 (by decide) (fun c1 => absurd c1 (by decide)) (fun _ => ?_)
  refine lv_iload_n hx hb dX8_line_4 rfl (lv_at hl 1 rfl) ?_
  refine lv_aload_n hx hb dX8_line_5 rfl (lv_at hl 0 rfl) ?_
  refine fb_get X I (k := 2) (v := .ref zs2) fu_X8 0 rfl rfl (Nat.le_of_ble_eq_true rfl) fw_377 rfl rfl dX8_line_6 ?_
  refine fb_alen (v := (120 : Int32)) X I 1 5 rfl rfl rfl dX8_line_9 ?_
  refine lv_icmp_ge (tgt := 26) hx hb dX8_line_10 (by decide) (fun c2 => absurd c2 (by decide)) (fun _ => ?_)
  refine lv_aload_n hx hb dX8_line_13 rfl (lv_at hl 0 rfl) ?_
  refine fb_get X I (k := 2) (v := .ref zs2) fu_X8 0 rfl rfl (Nat.le_of_ble_eq_true rfl) fw_377 rfl rfl dX8_line_14 ?_
  refine lv_iload_n hx hb dX8_line_17 rfl (lv_at hl 1 rfl) ?_
  refine fb_ldL (k := 0) X I 1 rfl (by decide) (by decide) (Nat.le_of_ble_eq_true rfl) dX8_line_18 ?_
  refine lv_ifnull hx hb dX8_line_19 ?_
  refine lv_iconst (v := (1 : Int32)) hx hb dX8_line_22 (by decide) ?_
  refine lv_goto (tgt := 27) hx hb dX8_line_23 (by decide) ?_
  refine lv_istore_n (lv' := [(2, .int (1 : Int32)), (0, .ref zs), (1, .int (0 : Int32))]) hx hb dX8_line_27 rfl hl (by decide) rfl (fun ls hl => ?_)
  refine lv_iload_n hx hb dX8_line_28 rfl (lv_at hl 0 rfl) ?_
  refine lv_if_eq (tgt := 41) hx hb dX8_line_29 (by decide) (fun c3 => absurd c3 (by decide)) (fun _ => ?_)
  refine lv_aload_n hx hb dX8_line_32 rfl (lv_at hl 1 rfl) ?_
  refine fb_get X I (k := 2) (v := .ref zs2) fu_X8 0 rfl rfl (Nat.le_of_ble_eq_true rfl) fw_377 rfl rfl dX8_line_33 ?_
  refine lv_iload_n hx hb dX8_line_36 rfl (lv_at hl 2 rfl) ?_
  refine fb_ldL (k := 0) X I 1 rfl (by decide) (by decide) (Nat.le_of_ble_eq_true rfl) dX8_line_37 ?_
  refine lv_goto (tgt := 45) hx hb dX8_line_38 (by decide) ?_
  have I : fb_In D A s.heap (([fb_o8 zs zs0 zs1 zs2 zs3 z8, fb_qw (D.1 23) zs2 120 (va_up zl 0 (zl 0)), fb_o1 (zl 0)  z1] : List va_W).flatten) s.heap [] := by rw [← fb_vup zl 0]; exact I
  exact fb_retR (u := ()) X I trivial (by first | exact Or.inl ⟨_, rfl⟩ | exact Or.inr ⟨_, rfl⟩) dX8_line_45

set_option maxHeartbeats 4000000 in
set_option maxRecDepth 100000 in
theorem c_readLine0 (l : Launch) (D : va_G) (cI cJ : ClassId) (zs : Nat) (zs2 : Nat) (zs3 : Nat) (z8 : fb_AR) (zv : Nat) (zv1 : Nat) (zz : fb_AR) (zt : Nat) (zt0 : Nat) (zt2 : Nat) (zt3 : Nat) (zt4 : Nat) (z9 : fb_AR) (zk2 : fb_AR) (zc : Nat) (z1 : fb_AR) (sz : Nat) (zzk2 : zz 2 = (0 : Int32)) (z9k5 : z9 5 = (1 : Int32)) (a0 : zk2 0 = (10 : Int32)) : Met l yX8_readLine (Cond.code yX8_readLine cX8_readLine 5 (some .boolean) :: fb_all) ({ frames := 3, cells := 0, slots := 0, locals := 72 } : Room) (fb_PP D (fb_ty D cI cJ) [.ref zs, .ref zc] (([fb_o8 zs zt zv zs2 zs3 z8, fb_o10 zv zt zv1 zz, fb_o9 zt zt0 zt2 zt3 zt4 z9, fb_aw cI zt2 2001 zk2, fb_o1 zc  z1] : List va_W).flatten) sz) (fb_QI D (va_A (([fb_o8 zs zt zv zs2 zs3 z8, fb_o10 zv zt zv1 zz, fb_o9 zt zt0 zt2 zt3 zt4 z9, fb_aw cI zt2 2001 zk2, fb_o1 zc  z1] : List va_W).flatten) sz) (fun (r : Int32) (_ : Unit) => r = (1 : Int32)) (fun (t : Unit) => ([fb_o8 zs zt zv zs2 zs3 z8, fb_o10 zv zt zv1 (upd zz 2 (1 : Int32)), fb_o9 zt zt0 zt2 zt3 zt4 z9, fb_aw cI zt2 2001 zk2, fb_o1 zc  (upd (upd (upd (upd (upd (upd (upd (upd (upd z1 0 (-1 : Int32)) 1 (-1 : Int32)) 2 (-1 : Int32)) 3 (0 : Int32)) 4 (0 : Int32)) 5 (0 : Int32)) 6 (-1 : Int32)) 7 (0 : Int32)) 8 (0 : Int32))] : List va_W).flatten)) 0 0 (va_A (([fb_o8 zs zt zv zs2 zs3 z8, fb_o10 zv zt zv1 zz, fb_o9 zt zt0 zt2 zt3 zt4 z9, fb_aw cI zt2 2001 zk2, fb_o1 zc  z1] : List va_W).flatten) sz) := by
  refine fb_ent (Qf := fun A => (fb_QI D A (fun (r : Int32) (_ : Unit) => r = (1 : Int32)) (fun (t : Unit) => ([fb_o8 zs zt zv zs2 zs3 z8, fb_o10 zv zt zv1 (upd zz 2 (1 : Int32)), fb_o9 zt zt0 zt2 zt3 zt4 z9, fb_aw cI zt2 2001 zk2, fb_o1 zc  (upd (upd (upd (upd (upd (upd (upd (upd (upd z1 0 (-1 : Int32)) 1 (-1 : Int32)) 2 (-1 : Int32)) 3 (0 : Int32)) 4 (0 : Int32)) 5 (0 : Int32)) 6 (-1 : Int32)) 7 (0 : Int32)) 8 (0 : Int32))] : List va_W).flatten))) (by decide +kernel) (Nat.le_of_ble_eq_true rfl) ?_
  intro p e s m args below meth c A ls X I hl hin
  obtain ⟨hx, hb, hr, hml, hown, hts, hlk, hA, hK, hF⟩ := id X
  have hl : lv_has ls 5 [(0, .ref zs), (1, .ref zc)] := hl
  refine lv_aload_n hx hb dX8_readLine_0 rfl (lv_at hl 1 rfl) ?_
  refine fb_gV (cs := [fb_o1 zc  z1]) (rs := [fb_o8 zs zt zv zs2 zs3 z8, fb_o10 zv zt zv1 zz, fb_o9 zt zt0 zt2 zt3 zt4 z9, fb_aw cI zt2 2001 zk2]) (fun (t : Unit) => [fb_o8 zs zt zv zs2 zs3 z8, fb_o10 zv zt zv1 zz, fb_o9 zt zt0 zt2 zt3 zt4 z9, fb_aw cI zt2 2001 zk2, fb_o1 zc  (upd (upd (upd (upd (upd (upd (upd (upd (upd z1 0 (-1 : Int32)) 1 (-1 : Int32)) 2 (-1 : Int32)) 3 (0 : Int32)) 4 (0 : Int32)) 5 (0 : Int32)) 6 (-1 : Int32)) 7 (0 : Int32)) 8 (0 : Int32))]) (fun (t : Unit) => [fb_o1 zc  (upd (upd (upd (upd (upd (upd (upd (upd (upd z1 0 (-1 : Int32)) 1 (-1 : Int32)) 2 (-1 : Int32)) 3 (0 : Int32)) 4 (0 : Int32)) 5 (0 : Int32)) 6 (-1 : Int32)) 7 (0 : Int32)) 8 (0 : Int32))]) X I [4, 0, 1, 2, 3] 5 rfl (by decide +kernel) rfl rfl [4, 0, 1, 2, 3] 5 (fun _ => rfl) (by decide +kernel) (fun _ => rfl) (fun _ => rfl) (fun I => fb_rV (As := []) (rest := []) X hl (fb_goodV fw_924 fw_925 fw_926 fw_196 fw_927) (c_clear1 l D cI cJ zc z1 _ ) rfl rfl rfl (by decide +kernel : fb_hd yX1_clear 0) ⟨Nat.le_of_ble_eq_true rfl, Nat.le_of_ble_eq_true rfl⟩ rfl rfl rfl rfl rfl (Nat.le_of_ble_eq_true rfl) ⟨Nat.zero_le _, Nat.zero_le _⟩ dX8_readLine_1 I) ?_
  intro w1 H locs _ I
  have I : fb_In D A s.heap (([fb_o8 zs zt zv zs2 zs3 z8, fb_o10 zv zt zv1 zz, fb_o9 zt zt0 zt2 zt3 zt4 z9, fb_aw cI zt2 2001 zk2, fb_o1 zc  (upd (upd (upd (upd (upd (upd (upd (upd (upd z1 0 (-1 : Int32)) 1 (-1 : Int32)) 2 (-1 : Int32)) 3 (0 : Int32)) 4 (0 : Int32)) 5 (0 : Int32)) 6 (-1 : Int32)) 7 (0 : Int32)) 8 (0 : Int32))] : List va_W).flatten) H locs := I
  refine lv_aload_n hx hb dX8_readLine_4 rfl (lv_at hl 0 rfl) ?_
  refine fb_get X I (k := 1) (v := .ref zv) fu_X8 0 rfl rfl (Nat.le_of_ble_eq_true rfl) fw_376 rfl rfl dX8_readLine_5 ?_
  refine fb_get X I (k := 2) (v := .int (zz 2)) fu_X10 1 rfl rfl (Nat.le_of_ble_eq_true rfl) fw_297 rfl rfl dX8_readLine_8 ?_
  refine fb_tI (v := (0 : Int32)) zzk2 ?_
  refine lv_istore_n (lv' := [(2, .int (0 : Int32)), (0, .ref zs), (1, .ref zc)]) hx hb dX8_readLine_11 rfl hl (by decide) rfl (fun ls hl => ?_)
  refine lv_aload_n hx hb dX8_readLine_12 rfl (lv_at hl 1 rfl) ?_
  refine fb_get X I (k := 1) (v := .ref zv) fu_X8 0 rfl rfl (Nat.le_of_ble_eq_true rfl) fw_376 rfl rfl dX8_readLine_13 ?_
  refine lv_bipush (v := (97 : Int32)) hx hb dX8_readLine_16 (by decide) ?_
  refine fb_gO (cs := [fb_o10 zv zt zv1 zz, fb_o9 zt zt0 zt2 zt3 zt4 z9, fb_aw cI zt2 2001 zk2]) (rs := [fb_o8 zs zt zv zs2 zs3 z8, fb_o1 zc  (upd (upd (upd (upd (upd (upd (upd (upd (upd z1 0 (-1 : Int32)) 1 (-1 : Int32)) 2 (-1 : Int32)) 3 (0 : Int32)) 4 (0 : Int32)) 5 (0 : Int32)) 6 (-1 : Int32)) 7 (0 : Int32)) 8 (0 : Int32))]) X I [1, 2, 3, 0, 4] 5 rfl (by decide +kernel) rfl rfl (fun I => fb_rV (As := [.int (97 : Int32)]) (rest := []) X hl (fb_goodV fw_928 fw_929 fw_930 fw_194 fw_931) (c_take_n l D cI cJ zv zv1 zz zt zt0 zt2 zt3 zt4 z9 zk2 _ zzk2 z9k5 a0) rfl rfl rfl (by decide +kernel : fb_hd yX10_take 1) ⟨Nat.le_of_ble_eq_true rfl, Nat.le_of_ble_eq_true rfl⟩ rfl rfl rfl rfl rfl (Nat.le_of_ble_eq_true rfl) ⟨Nat.zero_le _, Nat.zero_le _⟩ dX8_readLine_18 I) ?_
  refine lv_if_eq (tgt := 63) hx hb dX8_readLine_21 (by decide) (fun _ => ?_) (fun c2 => absurd (by decide) c2)
  refine lv_aload_n hx hb dX8_readLine_63 rfl (lv_at hl 1 rfl) ?_
  refine fb_get X I (k := 1) (v := .ref zv) fu_X8 0 rfl rfl (Nat.le_of_ble_eq_true rfl) fw_376 rfl rfl dX8_readLine_64 ?_
  refine fb_get X I (k := 2) (v := .int (zz 2)) fu_X10 1 rfl rfl (Nat.le_of_ble_eq_true rfl) fw_297 rfl rfl dX8_readLine_67 ?_
  refine fb_tI (v := (0 : Int32)) zzk2 ?_
  refine lv_istore_n (lv' := [(3, .int (0 : Int32)), (2, .int (0 : Int32)), (0, .ref zs), (1, .ref zc)]) hx hb dX8_readLine_70 rfl hl (by decide) rfl (fun ls hl => ?_)
  refine lv_iconst (v := (1 : Int32)) hx hb dX8_readLine_71 (by decide) ?_
  refine lv_istore (lv' := [(4, .int (1 : Int32)), (3, .int (0 : Int32)), (2, .int (0 : Int32)), (0, .ref zs), (1, .ref zc)]) hx hb dX8_readLine_72 hl (by decide) rfl (fun ls hl => ?_)
  refine lv_aload_n hx hb dX8_readLine_74 rfl (lv_at hl 4 rfl) ?_
  refine fb_get X I (k := 3) (v := .int (0 : Int32)) fu_X1 4 rfl rfl (Nat.le_of_ble_eq_true rfl) fw_343 rfl rfl dX8_readLine_75 ?_
  refine lv_if_eq (tgt := 99) hx hb dX8_readLine_78 (by decide) (fun _ => ?_) (fun c3 => absurd (by decide) c3)
  refine lv_aload_n hx hb dX8_readLine_99 rfl (lv_at hl 3 rfl) ?_
  refine fb_get X I (k := 1) (v := .ref zv) fu_X8 0 rfl rfl (Nat.le_of_ble_eq_true rfl) fw_376 rfl rfl dX8_readLine_100 ?_
  refine lv_bipush (v := (65 : Int32)) hx hb dX8_readLine_103 (by decide) ?_
  refine fb_gO (cs := [fb_o10 zv zt zv1 zz, fb_o9 zt zt0 zt2 zt3 zt4 z9, fb_aw cI zt2 2001 zk2]) (rs := [fb_o8 zs zt zv zs2 zs3 z8, fb_o1 zc  (upd (upd (upd (upd (upd (upd (upd (upd (upd z1 0 (-1 : Int32)) 1 (-1 : Int32)) 2 (-1 : Int32)) 3 (0 : Int32)) 4 (0 : Int32)) 5 (0 : Int32)) 6 (-1 : Int32)) 7 (0 : Int32)) 8 (0 : Int32))]) X I [1, 2, 3, 0, 4] 5 rfl (by decide +kernel) rfl rfl (fun I => fb_rV (As := [.int (65 : Int32)]) (rest := []) X hl (fb_goodV fw_928 fw_929 fw_930 fw_194 fw_931) (c_take_c l D cI cJ zv zv1 zz zt zt0 zt2 zt3 zt4 z9 zk2 _ zzk2 z9k5 a0) rfl rfl rfl (by decide +kernel : fb_hd yX10_take 1) ⟨Nat.le_of_ble_eq_true rfl, Nat.le_of_ble_eq_true rfl⟩ rfl rfl rfl rfl rfl (Nat.le_of_ble_eq_true rfl) ⟨Nat.zero_le _, Nat.zero_le _⟩ dX8_readLine_105 I) ?_
  refine lv_if_eq (tgt := 126) hx hb dX8_readLine_108 (by decide) (fun _ => ?_) (fun c4 => absurd (by decide) c4)
  refine lv_aload_n hx hb dX8_readLine_126 rfl (lv_at hl 3 rfl) ?_
  refine fb_get X I (k := 1) (v := .ref zv) fu_X8 0 rfl rfl (Nat.le_of_ble_eq_true rfl) fw_376 rfl rfl dX8_readLine_127 ?_
  refine lv_bipush (v := (46 : Int32)) hx hb dX8_readLine_130 (by decide) ?_
  refine fb_gO (cs := [fb_o10 zv zt zv1 zz, fb_o9 zt zt0 zt2 zt3 zt4 z9, fb_aw cI zt2 2001 zk2]) (rs := [fb_o8 zs zt zv zs2 zs3 z8, fb_o1 zc  (upd (upd (upd (upd (upd (upd (upd (upd (upd z1 0 (-1 : Int32)) 1 (-1 : Int32)) 2 (-1 : Int32)) 3 (0 : Int32)) 4 (0 : Int32)) 5 (0 : Int32)) 6 (-1 : Int32)) 7 (0 : Int32)) 8 (0 : Int32))]) X I [1, 2, 3, 0, 4] 5 rfl (by decide +kernel) rfl rfl (fun I => fb_rV (As := [.int (46 : Int32)]) (rest := []) X hl (fb_goodV fw_928 fw_929 fw_930 fw_194 fw_931) (c_take_w l D cI cJ zv zv1 zz zt zt0 zt2 zt3 zt4 z9 zk2 _ zzk2 z9k5 a0) rfl rfl rfl (by decide +kernel : fb_hd yX10_take 1) ⟨Nat.le_of_ble_eq_true rfl, Nat.le_of_ble_eq_true rfl⟩ rfl rfl rfl rfl rfl (Nat.le_of_ble_eq_true rfl) ⟨Nat.zero_le _, Nat.zero_le _⟩ dX8_readLine_132 I) ?_
  refine lv_if_eq (tgt := 158) hx hb dX8_readLine_135 (by decide) (fun _ => ?_) (fun c5 => absurd (by decide) c5)
  refine lv_iload hx hb dX8_readLine_158 (lv_at hl 0 rfl) ?_
  refine lv_if_eq (tgt := 179) hx hb dX8_readLine_160 (by decide) (fun c6 => absurd c6 (by decide)) (fun _ => ?_)
  refine lv_aload_n hx hb dX8_readLine_163 rfl (lv_at hl 3 rfl) ?_
  refine fb_get X I (k := 1) (v := .ref zv) fu_X8 0 rfl rfl (Nat.le_of_ble_eq_true rfl) fw_376 rfl rfl dX8_readLine_164 ?_
  refine lv_bipush (v := (10 : Int32)) hx hb dX8_readLine_167 (by decide) ?_
  refine fb_gI (cs := [fb_o10 zv zt zv1 zz, fb_o9 zt zt0 zt2 zt3 zt4 z9, fb_aw cI zt2 2001 zk2]) (rs := [fb_o8 zs zt zv zs2 zs3 z8, fb_o1 zc  (upd (upd (upd (upd (upd (upd (upd (upd (upd z1 0 (-1 : Int32)) 1 (-1 : Int32)) 2 (-1 : Int32)) 3 (0 : Int32)) 4 (0 : Int32)) 5 (0 : Int32)) 6 (-1 : Int32)) 7 (0 : Int32)) 8 (0 : Int32))]) (fun (t : Unit) => [fb_o8 zs zt zv zs2 zs3 z8, fb_o10 zv zt zv1 (upd zz 2 (1 : Int32)), fb_o9 zt zt0 zt2 zt3 zt4 z9, fb_aw cI zt2 2001 zk2, fb_o1 zc  (upd (upd (upd (upd (upd (upd (upd (upd (upd z1 0 (-1 : Int32)) 1 (-1 : Int32)) 2 (-1 : Int32)) 3 (0 : Int32)) 4 (0 : Int32)) 5 (0 : Int32)) 6 (-1 : Int32)) 7 (0 : Int32)) 8 (0 : Int32))]) (fun (t : Unit) => [fb_o10 zv zt zv1 (upd zz 2 (1 : Int32)), fb_o9 zt zt0 zt2 zt3 zt4 z9, fb_aw cI zt2 2001 zk2]) X I [1, 2, 3, 0, 4] 5 rfl (by decide +kernel) rfl rfl [1, 2, 3, 0, 4] 5 (fun _ => rfl) (by decide +kernel) (fun _ => rfl) (fun _ => rfl) (fun I => fb_rV (As := [.int (10 : Int32)]) (rest := []) X hl (fb_goodV fw_928 fw_929 fw_930 fw_194 fw_931) (c_take_e l D cI cJ zv zv1 zz zt zt0 zt2 zt3 zt4 z9 zk2 _ zzk2 z9k5 a0) rfl rfl rfl (by decide +kernel : fb_hd yX10_take 1) ⟨Nat.le_of_ble_eq_true rfl, Nat.le_of_ble_eq_true rfl⟩ rfl rfl rfl rfl rfl (Nat.le_of_ble_eq_true rfl) ⟨Nat.zero_le _, Nat.zero_le _⟩ dX8_readLine_169 I) ?_
  intro r8 w7 H locs e0 I
  subst e0
  have I : fb_In D A s.heap (([fb_o8 zs zt zv zs2 zs3 z8, fb_o10 zv zt zv1 (upd zz 2 (1 : Int32)), fb_o9 zt zt0 zt2 zt3 zt4 z9, fb_aw cI zt2 2001 zk2, fb_o1 zc  (upd (upd (upd (upd (upd (upd (upd (upd (upd z1 0 (-1 : Int32)) 1 (-1 : Int32)) 2 (-1 : Int32)) 3 (0 : Int32)) 4 (0 : Int32)) 5 (0 : Int32)) 6 (-1 : Int32)) 7 (0 : Int32)) 8 (0 : Int32))] : List va_W).flatten) H locs := I
  refine lv_if_eq (tgt := 179) hx hb dX8_readLine_172 (by decide) (fun c9 => absurd c9 (by decide)) (fun _ => ?_)
  refine lv_iconst (v := (1 : Int32)) hx hb dX8_readLine_175 (by decide) ?_
  refine lv_goto (tgt := 180) hx hb dX8_readLine_176 (by decide) ?_
  exact fb_retI (u := ()) X I rfl rfl dX8_readLine_180

set_option maxHeartbeats 4000000 in
set_option maxRecDepth 100000 in
theorem c_firstFault0 (l : Launch) (D : va_G) (cI cJ : ClassId) (zs : Nat) (zs2 : Nat) (zs3 : Nat) (z8 : fb_AR) (zv : Nat) (zv1 : Nat) (zz : fb_AR) (zt : Nat) (zt0 : Nat) (zt2 : Nat) (zt3 : Nat) (zt4 : Nat) (z9 : fb_AR) (zk2 : fb_AR) (zl : Nat → Nat) (z1 : fb_AR) (sz : Nat) (z9k5 : z9 5 = (1 : Int32)) (a0 : zk2 0 = (10 : Int32)) : Met l yX8_firstFault (Cond.code yX8_firstFault cX8_firstFault 2 (some .int) :: fb_all) ({ frames := 4, cells := 0, slots := 0, locals := 96 } : Room) (fb_PP D (fb_ty D cI cJ) [.ref zs] (([fb_o8 zs zt zv zs2 zs3 z8, fb_qw (D.1 23) zs2 120 zl, fb_o1 (zl 0)  z1, fb_o10 zv zt zv1 zz, fb_o9 zt zt0 zt2 zt3 zt4 z9, fb_aw cI zt2 2001 zk2] : List va_W).flatten) sz) (fb_QI D (va_A (([fb_o8 zs zt zv zs2 zs3 z8, fb_qw (D.1 23) zs2 120 zl, fb_o1 (zl 0)  z1, fb_o10 zv zt zv1 zz, fb_o9 zt zt0 zt2 zt3 zt4 z9, fb_aw cI zt2 2001 zk2] : List va_W).flatten) sz) (fun (r : Int32) (_ : Nat) => r = (-1 : Int32)) (fun (t : Nat) => ([fb_o8 zs zt zv zs2 zs3 (upd (upd z8 4 (0 : Int32)) 4 (1 : Int32)), fb_qw (D.1 23) zs2 120 (va_up zl 0 t), fb_o1 t  (upd (upd (upd (upd (upd (upd (upd (upd (upd z1 0 (-1 : Int32)) 1 (-1 : Int32)) 2 (-1 : Int32)) 3 (0 : Int32)) 4 (0 : Int32)) 5 (0 : Int32)) 6 (-1 : Int32)) 7 (0 : Int32)) 8 (0 : Int32)), fb_o10 zv zt zv1 (upd (upd zz 2 (0 : Int32)) 2 (1 : Int32)), fb_o9 zt zt0 zt2 zt3 zt4 z9, fb_aw cI zt2 2001 zk2] : List va_W).flatten)) 0 0 (va_A (([fb_o8 zs zt zv zs2 zs3 z8, fb_qw (D.1 23) zs2 120 zl, fb_o1 (zl 0)  z1, fb_o10 zv zt zv1 zz, fb_o9 zt zt0 zt2 zt3 zt4 z9, fb_aw cI zt2 2001 zk2] : List va_W).flatten) sz) := by
  refine fb_ent (Qf := fun A => (fb_QI D A (fun (r : Int32) (_ : Nat) => r = (-1 : Int32)) (fun (t : Nat) => ([fb_o8 zs zt zv zs2 zs3 (upd (upd z8 4 (0 : Int32)) 4 (1 : Int32)), fb_qw (D.1 23) zs2 120 (va_up zl 0 t), fb_o1 t  (upd (upd (upd (upd (upd (upd (upd (upd (upd z1 0 (-1 : Int32)) 1 (-1 : Int32)) 2 (-1 : Int32)) 3 (0 : Int32)) 4 (0 : Int32)) 5 (0 : Int32)) 6 (-1 : Int32)) 7 (0 : Int32)) 8 (0 : Int32)), fb_o10 zv zt zv1 (upd (upd zz 2 (0 : Int32)) 2 (1 : Int32)), fb_o9 zt zt0 zt2 zt3 zt4 z9, fb_aw cI zt2 2001 zk2] : List va_W).flatten))) (by decide +kernel) (Nat.le_of_ble_eq_true rfl) ?_
  intro p e s m args below meth c A ls X I hl hin
  obtain ⟨hx, hb, hr, hml, hown, hts, hlk, hA, hK, hF⟩ := id X
  have hl : lv_has ls 2 [(0, .ref zs)] := hl
  refine lv_aload_n hx hb dX8_firstFault_0 rfl (lv_at hl 0 rfl) ?_
  refine lv_iconst (v := (0 : Int32)) hx hb dX8_firstFault_1 (by decide) ?_
  refine fb_put X I (k := 4) (wn := ([fb_o8 zs zt zv zs2 zs3 (upd z8 4 (0 : Int32)), fb_qw (D.1 23) zs2 120 zl, fb_o1 (zl 0)  z1, fb_o10 zv zt zv1 zz, fb_o9 zt zt0 zt2 zt3 zt4 z9, fb_aw cI zt2 2001 zk2] : List va_W).flatten) fu_X8 tyX8 tyX8_ok nmX8 0 rfl rfl (Nat.le_of_ble_eq_true rfl) fw_379 rfl rfl rfl rfl rfl (Nat.le_of_ble_eq_true rfl) rfl dX8_firstFault_2 (fun H locs I => ?_)
  refine lv_aload_n hx hb dX8_firstFault_5 rfl (lv_at hl 0 rfl) ?_
  refine fb_get X I (k := 1) (v := .ref zv) fu_X8 0 rfl rfl (Nat.le_of_ble_eq_true rfl) fw_376 rfl rfl dX8_firstFault_6 ?_
  refine lv_iconst (v := (0 : Int32)) hx hb dX8_firstFault_9 (by decide) ?_
  refine fb_put X I (k := 2) (wn := ([fb_o8 zs zt zv zs2 zs3 (upd z8 4 (0 : Int32)), fb_qw (D.1 23) zs2 120 zl, fb_o1 (zl 0)  z1, fb_o10 zv zt zv1 (upd zz 2 (0 : Int32)), fb_o9 zt zt0 zt2 zt3 zt4 z9, fb_aw cI zt2 2001 zk2] : List va_W).flatten) fu_X10 tyX10 tyX10_ok nmX10 3 rfl rfl (Nat.le_of_ble_eq_true rfl) fw_297 rfl rfl rfl rfl rfl (Nat.le_of_ble_eq_true rfl) rfl dX8_firstFault_10 (fun H locs I => ?_)
  refine lv_iconst (v := (0 : Int32)) hx hb dX8_firstFault_13 (by decide) ?_
  refine lv_istore_n (lv' := [(1, .int (0 : Int32)), (0, .ref zs)]) hx hb dX8_firstFault_14 rfl hl (by decide) rfl (fun ls hl => ?_)
  refine lv_iload_n hx hb dX8_firstFault_15 rfl (lv_at hl 0 rfl) ?_
  refine lv_bipush (v := (120 : Int32)) hx hb dX8_firstFault_16 (by decide) ?_
  refine lv_icmp_gt (tgt := 106) hx hb dX8_firstFault_18 (by decide) (fun c1 => absurd c1 (by decide)) (fun _ => ?_)
  refine lv_aload_n hx hb dX8_firstFault_21 rfl (lv_at hl 1 rfl) ?_
  refine fb_get X I (k := 1) (v := .ref zv) fu_X8 0 rfl rfl (Nat.le_of_ble_eq_true rfl) fw_376 rfl rfl dX8_firstFault_22 ?_
  refine fb_get X I (k := 2) (v := .int (0 : Int32)) fu_X10 3 rfl rfl (Nat.le_of_ble_eq_true rfl) fw_297 rfl rfl dX8_firstFault_25 ?_
  refine lv_aload_n hx hb dX8_firstFault_28 rfl (lv_at hl 1 rfl) ?_
  refine fb_get X I (k := 0) (v := .ref zt) fu_X8 0 rfl rfl (Nat.le_of_ble_eq_true rfl) fw_375 rfl rfl dX8_firstFault_29 ?_
  refine fb_get X I (k := 5) (v := .int (z9 5)) fu_X9 4 rfl rfl (Nat.le_of_ble_eq_true rfl) fw_246 rfl rfl dX8_firstFault_32 ?_
  refine fb_tI (v := (1 : Int32)) z9k5 ?_
  refine lv_icmp_ge (tgt := 106) hx hb dX8_firstFault_35 (by decide) (fun c2 => absurd c2 (by decide)) (fun _ => ?_)
  refine lv_iload_n hx hb dX8_firstFault_38 rfl (lv_at hl 0 rfl) ?_
  refine lv_bipush (v := (120 : Int32)) hx hb dX8_firstFault_39 (by decide) ?_
  refine lv_icmp_ne (tgt := 63) hx hb dX8_firstFault_41 (by decide) (fun _ => ?_) (fun c3 => absurd c3 (by decide))
  refine lv_aload_n hx hb dX8_firstFault_63 rfl (lv_at hl 1 rfl) ?_
  refine lv_dup hx hb dX8_firstFault_64 rfl ?_
  refine fb_get X I (k := 4) (v := .int (0 : Int32)) fu_X8 0 rfl rfl (Nat.le_of_ble_eq_true rfl) fw_379 rfl rfl dX8_firstFault_65 ?_
  refine lv_iconst (v := (1 : Int32)) hx hb dX8_firstFault_68 (by decide) ?_
  refine lv_iadd hx hb dX8_firstFault_69 ?_
  refine fb_tI (v := (1 : Int32)) (by decide) ?_
  refine fb_put X I (k := 4) (wn := ([fb_o8 zs zt zv zs2 zs3 (upd (upd z8 4 (0 : Int32)) 4 (1 : Int32)), fb_qw (D.1 23) zs2 120 zl, fb_o1 (zl 0)  z1, fb_o10 zv zt zv1 (upd zz 2 (0 : Int32)), fb_o9 zt zt0 zt2 zt3 zt4 z9, fb_aw cI zt2 2001 zk2] : List va_W).flatten) fu_X8 tyX8 tyX8_ok nmX8 0 rfl rfl (Nat.le_of_ble_eq_true rfl) fw_379 rfl rfl rfl rfl rfl (Nat.le_of_ble_eq_true rfl) rfl dX8_firstFault_70 (fun H locs I => ?_)
  refine lv_aload_n hx hb dX8_firstFault_73 rfl (lv_at hl 1 rfl) ?_
  refine lv_aload_n hx hb dX8_firstFault_74 rfl (lv_at hl 1 rfl) ?_
  refine lv_iload_n hx hb dX8_firstFault_75 rfl (lv_at hl 0 rfl) ?_
  refine fb_gR (cs := [fb_o8 zs zt zv zs2 zs3 (upd (upd z8 4 (0 : Int32)) 4 (1 : Int32)), fb_qw (D.1 23) zs2 120 zl, fb_o1 (zl 0)  z1]) (rs := [fb_o10 zv zt zv1 (upd zz 2 (0 : Int32)), fb_o9 zt zt0 zt2 zt3 zt4 z9, fb_aw cI zt2 2001 zk2]) (fun (t : Unit) (rr : Nat) => [fb_o8 zs zt zv zs2 zs3 (upd (upd z8 4 (0 : Int32)) 4 (1 : Int32)), fb_qw (D.1 23) zs2 120 (va_up zl 0 rr), fb_o1 rr  z1, fb_o10 zv zt zv1 (upd zz 2 (0 : Int32)), fb_o9 zt zt0 zt2 zt3 zt4 z9, fb_aw cI zt2 2001 zk2]) (fun (t : Unit) (rr : Nat) => [fb_o8 zs zt zv zs2 zs3 (upd (upd z8 4 (0 : Int32)) 4 (1 : Int32)), fb_qw (D.1 23) zs2 120 (va_up zl 0 rr), fb_o1 rr  z1]) X I [0, 1, 2, 3, 4, 5] 6 rfl (by decide +kernel) rfl rfl [0, 1, 2, 3, 4, 5] 6 (fun _ _ => rfl) (by decide +kernel) (fun _ _ => rfl) (fun _ _ => rfl) (fun I => fb_rV (As := [.int (0 : Int32)]) (rest := [.ref zs]) X hl (fb_goodV fw_916 fw_917 fw_918 fw_195 fw_919) (c_line0 l D cI cJ zs zt zv zs2 zs3 (upd (upd z8 4 (0 : Int32)) 4 (1 : Int32)) zl z1 _ ) rfl rfl rfl (by decide +kernel : fb_hd yX8_line 1) ⟨Nat.le_of_ble_eq_true rfl, Nat.le_of_ble_eq_true rfl⟩ rfl rfl rfl rfl rfl (Nat.le_of_ble_eq_true rfl) ⟨Nat.zero_le _, Nat.zero_le _⟩ dX8_firstFault_76 I) ?_
  intro w4 x5 H locs _ I
  have I : fb_In D A s.heap (([fb_o8 zs zt zv zs2 zs3 (upd (upd z8 4 (0 : Int32)) 4 (1 : Int32)), fb_qw (D.1 23) zs2 120 (va_up zl 0 x5), fb_o1 x5  z1, fb_o10 zv zt zv1 (upd zz 2 (0 : Int32)), fb_o9 zt zt0 zt2 zt3 zt4 z9, fb_aw cI zt2 2001 zk2] : List va_W).flatten) H locs := I
  refine fb_gI (cs := [fb_o8 zs zt zv zs2 zs3 (upd (upd z8 4 (0 : Int32)) 4 (1 : Int32)), fb_o10 zv zt zv1 (upd zz 2 (0 : Int32)), fb_o9 zt zt0 zt2 zt3 zt4 z9, fb_aw cI zt2 2001 zk2, fb_o1 x5  z1]) (rs := [fb_qw (D.1 23) zs2 120 (va_up zl 0 x5)]) (fun (t : Unit) => [fb_o8 zs zt zv zs2 zs3 (upd (upd z8 4 (0 : Int32)) 4 (1 : Int32)), fb_qw (D.1 23) zs2 120 (va_up zl 0 x5), fb_o1 x5  (upd (upd (upd (upd (upd (upd (upd (upd (upd z1 0 (-1 : Int32)) 1 (-1 : Int32)) 2 (-1 : Int32)) 3 (0 : Int32)) 4 (0 : Int32)) 5 (0 : Int32)) 6 (-1 : Int32)) 7 (0 : Int32)) 8 (0 : Int32)), fb_o10 zv zt zv1 (upd (upd zz 2 (0 : Int32)) 2 (1 : Int32)), fb_o9 zt zt0 zt2 zt3 zt4 z9, fb_aw cI zt2 2001 zk2]) (fun (t : Unit) => [fb_o8 zs zt zv zs2 zs3 (upd (upd z8 4 (0 : Int32)) 4 (1 : Int32)), fb_o10 zv zt zv1 (upd (upd zz 2 (0 : Int32)) 2 (1 : Int32)), fb_o9 zt zt0 zt2 zt3 zt4 z9, fb_aw cI zt2 2001 zk2, fb_o1 x5  (upd (upd (upd (upd (upd (upd (upd (upd (upd z1 0 (-1 : Int32)) 1 (-1 : Int32)) 2 (-1 : Int32)) 3 (0 : Int32)) 4 (0 : Int32)) 5 (0 : Int32)) 6 (-1 : Int32)) 7 (0 : Int32)) 8 (0 : Int32))]) X I [0, 3, 4, 5, 2, 1] 6 rfl (by decide +kernel) rfl rfl [0, 3, 4, 5, 2, 1] 6 (fun _ => rfl) (by decide +kernel) (fun _ => rfl) (fun _ => rfl) (fun I => fb_rV (As := [.ref x5]) (rest := []) X hl (fb_goodV fw_920 fw_922 fw_12 fw_195 fw_923) (c_readLine0 l D cI cJ zs zs2 zs3 (upd (upd z8 4 (0 : Int32)) 4 (1 : Int32)) zv zv1 (upd zz 2 (0 : Int32)) zt zt0 zt2 zt3 zt4 z9 zk2 x5 z1 _ rfl z9k5 a0) rfl rfl rfl (by decide +kernel : fb_hd yX8_readLine 1) ⟨Nat.le_of_ble_eq_true rfl, Nat.le_of_ble_eq_true rfl⟩ rfl rfl rfl rfl rfl (Nat.le_of_ble_eq_true rfl) ⟨Nat.zero_le _, Nat.zero_le _⟩ dX8_firstFault_79 I) ?_
  intro r7 w6 H locs e0 I
  subst e0
  have I : fb_In D A s.heap (([fb_o8 zs zt zv zs2 zs3 (upd (upd z8 4 (0 : Int32)) 4 (1 : Int32)), fb_qw (D.1 23) zs2 120 (va_up zl 0 x5), fb_o1 x5  (upd (upd (upd (upd (upd (upd (upd (upd (upd z1 0 (-1 : Int32)) 1 (-1 : Int32)) 2 (-1 : Int32)) 3 (0 : Int32)) 4 (0 : Int32)) 5 (0 : Int32)) 6 (-1 : Int32)) 7 (0 : Int32)) 8 (0 : Int32)), fb_o10 zv zt zv1 (upd (upd zz 2 (0 : Int32)) 2 (1 : Int32)), fb_o9 zt zt0 zt2 zt3 zt4 z9, fb_aw cI zt2 2001 zk2] : List va_W).flatten) H locs := I
  refine lv_if_ne (tgt := 100) hx hb dX8_firstFault_82 (by decide) (fun _ => ?_) (fun c8 => absurd c8 (by decide))
  refine lv_iinc (v := (1 : Int32)) (lv' := [(1, .int (1 : Int32)), (0, .ref zs)]) hx hb dX8_firstFault_100 hl (k := 0) rfl (by decide) (by decide) rfl (fun ls hl => ?_)
  refine lv_goto (tgt := 15) hx hb dX8_firstFault_103 (by decide) ?_
  refine lv_iload_n hx hb dX8_firstFault_15 rfl (lv_at hl 0 rfl) ?_
  refine lv_bipush (v := (120 : Int32)) hx hb dX8_firstFault_16 (by decide) ?_
  refine lv_icmp_gt (tgt := 106) hx hb dX8_firstFault_18 (by decide) (fun c9 => absurd c9 (by decide)) (fun _ => ?_)
  refine lv_aload_n hx hb dX8_firstFault_21 rfl (lv_at hl 1 rfl) ?_
  refine fb_get X I (k := 1) (v := .ref zv) fu_X8 0 rfl rfl (Nat.le_of_ble_eq_true rfl) fw_376 rfl rfl dX8_firstFault_22 ?_
  refine fb_get X I (k := 2) (v := .int (1 : Int32)) fu_X10 3 rfl rfl (Nat.le_of_ble_eq_true rfl) fw_297 rfl rfl dX8_firstFault_25 ?_
  refine lv_aload_n hx hb dX8_firstFault_28 rfl (lv_at hl 1 rfl) ?_
  refine fb_get X I (k := 0) (v := .ref zt) fu_X8 0 rfl rfl (Nat.le_of_ble_eq_true rfl) fw_375 rfl rfl dX8_firstFault_29 ?_
  refine fb_get X I (k := 5) (v := .int (z9 5)) fu_X9 4 rfl rfl (Nat.le_of_ble_eq_true rfl) fw_246 rfl rfl dX8_firstFault_32 ?_
  refine fb_tI (v := (1 : Int32)) z9k5 ?_
  refine lv_icmp_ge (tgt := 106) hx hb dX8_firstFault_35 (by decide) (fun _ => ?_) (fun c10 => absurd (by decide) c10)
  refine lv_iconst (v := (-1 : Int32)) hx hb dX8_firstFault_106 (by decide) ?_
  exact fb_retI (u := (x5)) X I rfl rfl dX8_firstFault_107

set_option maxHeartbeats 4000000 in
set_option maxRecDepth 100000 in
theorem c_word0 (l : Launch) (D : va_G) (cI cJ : ClassId) (zt : Nat) (zt0 : Nat) (zt2 : Nat) (zt3 : Nat) (zt4 : Nat) (z9 : fb_AR) (zk2 : fb_AR) (sz : Nat)  : Met l yX9_word (Cond.code yX9_word cX9_word 2 (some .int) :: fb_all) ({ frames := 2, cells := 0, slots := 0, locals := 51 } : Room) (fb_PP D (fb_ty D cI cJ) [.ref zt, .int (-1 : Int32)] (([fb_o9 zt zt0 zt2 zt3 zt4 z9, fb_aw cI zt2 2001 zk2] : List va_W).flatten) sz) (vp_Si (fun r => r = (-1 : Int32))) 0 0 (fun _ => False) := by
  refine fb_entR (by decide +kernel) (Nat.le_of_ble_eq_true rfl) ?_
  intro p e s m args below meth c A ls X I hl hin
  obtain ⟨hx, hb, hr, hml, hown, hts, hlk, hA, hK, hF⟩ := id X
  have hl : lv_has ls 2 [(0, .ref zt), (1, .int (-1 : Int32))] := hl
  refine lv_aload_n hx hb dX9_word_0 rfl (lv_at hl 0 rfl) ?_
  refine fb_get X I (k := 2) (v := .ref zt2) fu_X9 0 rfl rfl (Nat.le_of_ble_eq_true rfl) fw_237 rfl rfl dX9_word_1 ?_
  refine lv_iload_n hx hb dX9_word_4 rfl (lv_at hl 1 rfl) ?_
  refine fb_gO (cs := [fb_aw cI zt2 2001 zk2]) (rs := [fb_o9 zt zt0 zt2 zt3 zt4 z9]) X I [1, 0] 2 rfl (by decide +kernel) rfl rfl (fun I => fb_rN (As := [.ref zt2, .int (-1 : Int32)]) (rest := []) X hl fw_686 (List.mem_of_getElem? (i := 10) rfl) fw_191 fw_685 (c_catN l D cI cJ zt2 zk2 _ ) rfl rfl (by decide +kernel : fb_hd yX11_at 2) ⟨Nat.le_of_ble_eq_true rfl, Nat.le_of_ble_eq_true rfl⟩ rfl rfl (Nat.le_of_ble_eq_true rfl) ⟨Nat.zero_le _, Nat.zero_le _⟩ dX9_word_5 I) ?_
  refine lv_bipush (v := (46 : Int32)) hx hb dX9_word_8 (by decide) ?_
  refine lv_icmp_ne (tgt := 29) hx hb dX9_word_10 (by decide) (fun _ => ?_) (fun c1 => absurd c1 (by decide))
  refine lv_iconst (v := (-1 : Int32)) hx hb dX9_word_29 (by decide) ?_
  exact fb_retRI X rfl rfl dX9_word_30

set_option maxHeartbeats 4000000 in
set_option maxRecDepth 100000 in
theorem c_leavesOut0 (l : Launch) (D : va_G) (cI cJ : ClassId) (zp : Nat) (zp0 : Nat) (zp1 : Nat) (zp2 : Nat) (zp3 : Nat) (zp4 : Nat) (zp5 : Nat) (zp6 : Nat) (zp7 : Nat) (zp9 : Nat) (z4 : fb_AR) (sz : Nat) (z4k10 : z4 10 = (0 : Int32)) : Met l yX4_leavesOut (Cond.code yX4_leavesOut cX4_leavesOut 3 (some .boolean) :: fb_all) ({ frames := 1, cells := 0, slots := 0, locals := 30 } : Room) (fb_PP D (fb_ty D cI cJ) [.ref zp, .int (-1 : Int32)] (([fb_o4 zp zp0 zp1 zp2 zp3 zp4 zp5 zp6 zp7 zp9 z4] : List va_W).flatten) sz) (vp_Si (fun r => r = (0 : Int32))) 0 0 (fun _ => False) := by
  refine fb_entR (by decide +kernel) (Nat.le_of_ble_eq_true rfl) ?_
  intro p e s m args below meth c A ls X I hl hin
  obtain ⟨hx, hb, hr, hml, hown, hts, hlk, hA, hK, hF⟩ := id X
  have hl : lv_has ls 3 [(0, .ref zp), (1, .int (-1 : Int32))] := hl
  refine lv_aload_n hx hb dX4_leavesOut_0 rfl (lv_at hl 0 rfl) ?_
  refine fb_get X I (k := 10) (v := .int (z4 10)) fu_X4 0 rfl rfl (Nat.le_of_ble_eq_true rfl) fw_410 rfl rfl dX4_leavesOut_1 ?_
  refine fb_tI (v := (0 : Int32)) z4k10 ?_
  refine lv_if_le (tgt := 26) hx hb dX4_leavesOut_4 (by decide) (fun _ => ?_) (fun c1 => absurd (by decide) c1)
  refine lv_iconst (v := (0 : Int32)) hx hb dX4_leavesOut_26 (by decide) ?_
  refine lv_istore_n (lv' := [(2, .int (0 : Int32)), (0, .ref zp), (1, .int (-1 : Int32))]) hx hb dX4_leavesOut_27 rfl hl (by decide) rfl (fun ls hl => ?_)
  refine lv_iload_n hx hb dX4_leavesOut_28 rfl (lv_at hl 0 rfl) ?_
  refine lv_iconst (v := (2 : Int32)) hx hb dX4_leavesOut_29 (by decide) ?_
  refine lv_icmp_eq (tgt := 50) hx hb dX4_leavesOut_30 (by decide) (fun c2 => absurd c2 (by decide)) (fun _ => ?_)
  refine lv_iload_n hx hb dX4_leavesOut_33 rfl (lv_at hl 0 rfl) ?_
  refine lv_iconst (v := (1 : Int32)) hx hb dX4_leavesOut_34 (by decide) ?_
  refine lv_icmp_ne (tgt := 54) hx hb dX4_leavesOut_35 (by decide) (fun _ => ?_) (fun c3 => absurd c3 (by decide))
  refine lv_iconst (v := (0 : Int32)) hx hb dX4_leavesOut_54 (by decide) ?_
  exact fb_retRI X rfl rfl dX4_leavesOut_55

set_option maxHeartbeats 4000000 in
set_option maxRecDepth 100000 in
theorem c_firstTime0 (l : Launch) (D : va_G) (cI cJ : ClassId) (zp : Nat) (zp1 : Nat) (zp2 : Nat) (zp3 : Nat) (zp4 : Nat) (zp5 : Nat) (zp6 : Nat) (zp7 : Nat) (zp9 : Nat) (z4 : fb_AR) (zt : Nat) (zt0 : Nat) (zt2 : Nat) (zt3 : Nat) (zt4 : Nat) (z9 : fb_AR) (zk2 : fb_AR) (zq0 : Nat) (zq1 : Nat) (zs2 : Nat) (zs3 : Nat) (z8 : fb_AR) (zl : Nat → Nat) (z1 : fb_AR) (sz : Nat) (z8k4 : z8 4 = (1 : Int32)) (z4k13 : z4 13 = (0 : Int32)) (z1k0 : z1 0 = (-1 : Int32)) (z1k1 : z1 1 = (-1 : Int32)) (z4k10 : z4 10 = (0 : Int32)) : Met l yX4_firstTime (Cond.code yX4_firstTime cX4_firstTime 4 none :: fb_all) ({ frames := 3, cells := 0, slots := 0, locals := 72 } : Room) (fb_PP D (fb_ty D cI cJ) [.ref zp] (([fb_o4 zp zt zp1 zp2 zp3 zp4 zp5 zp6 zp7 zp9 z4, fb_o9 zt zt0 zt2 zt3 zt4 z9, fb_aw cI zt2 2001 zk2, fb_o8 zp3 zq0 zq1 zs2 zs3 z8, fb_qw (D.1 23) zs2 120 zl, fb_o1 (zl 0)  z1] : List va_W).flatten) sz) (fb_QV D (va_A (([fb_o4 zp zt zp1 zp2 zp3 zp4 zp5 zp6 zp7 zp9 z4, fb_o9 zt zt0 zt2 zt3 zt4 z9, fb_aw cI zt2 2001 zk2, fb_o8 zp3 zq0 zq1 zs2 zs3 z8, fb_qw (D.1 23) zs2 120 zl, fb_o1 (zl 0)  z1] : List va_W).flatten) sz) (fun (_ : Nat) => True) (fun (t : Nat) => ([fb_o4 zp zt zp1 zp2 zp3 zp4 zp5 zp6 zp7 zp9 z4, fb_o9 zt zt0 zt2 zt3 zt4 z9, fb_aw cI zt2 2001 zk2, fb_o8 zp3 zq0 zq1 zs2 zs3 z8, fb_qw (D.1 23) zs2 120 (va_up zl 0 t), fb_o1 t  (upd (upd (upd z1 5 (0 : Int32)) 7 (z4 11)) 8 (z4 12))] : List va_W).flatten)) 0 0 (va_A (([fb_o4 zp zt zp1 zp2 zp3 zp4 zp5 zp6 zp7 zp9 z4, fb_o9 zt zt0 zt2 zt3 zt4 z9, fb_aw cI zt2 2001 zk2, fb_o8 zp3 zq0 zq1 zs2 zs3 z8, fb_qw (D.1 23) zs2 120 zl, fb_o1 (zl 0)  z1] : List va_W).flatten) sz) := by
  refine fb_ent (Qf := fun A => (fb_QV D A (fun (_ : Nat) => True) (fun (t : Nat) => ([fb_o4 zp zt zp1 zp2 zp3 zp4 zp5 zp6 zp7 zp9 z4, fb_o9 zt zt0 zt2 zt3 zt4 z9, fb_aw cI zt2 2001 zk2, fb_o8 zp3 zq0 zq1 zs2 zs3 z8, fb_qw (D.1 23) zs2 120 (va_up zl 0 t), fb_o1 t  (upd (upd (upd z1 5 (0 : Int32)) 7 (z4 11)) 8 (z4 12))] : List va_W).flatten))) (by decide +kernel) (Nat.le_of_ble_eq_true rfl) ?_
  intro p e s m args below meth c A ls X I hl hin
  obtain ⟨hx, hb, hr, hml, hown, hts, hlk, hA, hK, hF⟩ := id X
  have hl : lv_has ls 4 [(0, .ref zp)] := hl
  refine lv_iconst (v := (0 : Int32)) hx hb dX4_firstTime_0 (by decide) ?_
  refine lv_istore_n (lv' := [(1, .int (0 : Int32)), (0, .ref zp)]) hx hb dX4_firstTime_1 rfl hl (by decide) rfl (fun ls hl => ?_)
  refine lv_iload_n hx hb dX4_firstTime_2 rfl (lv_at hl 0 rfl) ?_
  refine lv_aload_n hx hb dX4_firstTime_3 rfl (lv_at hl 1 rfl) ?_
  refine fb_get X I (k := 3) (v := .ref zp3) fu_X4 0 rfl rfl (Nat.le_of_ble_eq_true rfl) fw_401 rfl rfl dX4_firstTime_4 ?_
  refine fb_get X I (k := 4) (v := .int (z8 4)) fu_X8 3 rfl rfl (Nat.le_of_ble_eq_true rfl) fw_380 rfl rfl dX4_firstTime_7 ?_
  refine fb_tI (v := (1 : Int32)) z8k4 ?_
  refine lv_icmp_ge (tgt := 140) hx hb dX4_firstTime_10 (by decide) (fun c1 => absurd c1 (by decide)) (fun _ => ?_)
  refine lv_aload_n hx hb dX4_firstTime_13 rfl (lv_at hl 1 rfl) ?_
  refine fb_get X I (k := 13) (v := .int (z4 13)) fu_X4 0 rfl rfl (Nat.le_of_ble_eq_true rfl) fw_413 rfl rfl dX4_firstTime_14 ?_
  refine fb_tI (v := (0 : Int32)) z4k13 ?_
  refine lv_if_ne (tgt := 140) hx hb dX4_firstTime_17 (by decide) (fun c2 => absurd (by decide) c2) (fun _ => ?_)
  refine lv_aload_n hx hb dX4_firstTime_20 rfl (lv_at hl 1 rfl) ?_
  refine fb_get X I (k := 3) (v := .ref zp3) fu_X4 0 rfl rfl (Nat.le_of_ble_eq_true rfl) fw_401 rfl rfl dX4_firstTime_21 ?_
  refine lv_iload_n hx hb dX4_firstTime_24 rfl (lv_at hl 0 rfl) ?_
  refine fb_gR (cs := [fb_o8 zp3 zq0 zq1 zs2 zs3 z8, fb_qw (D.1 23) zs2 120 zl, fb_o1 (zl 0)  z1]) (rs := [fb_o4 zp zt zp1 zp2 zp3 zp4 zp5 zp6 zp7 zp9 z4, fb_o9 zt zt0 zt2 zt3 zt4 z9, fb_aw cI zt2 2001 zk2]) (fun (t : Unit) (rr : Nat) => [fb_o4 zp zt zp1 zp2 zp3 zp4 zp5 zp6 zp7 zp9 z4, fb_o9 zt zt0 zt2 zt3 zt4 z9, fb_aw cI zt2 2001 zk2, fb_o8 zp3 zq0 zq1 zs2 zs3 z8, fb_qw (D.1 23) zs2 120 (va_up zl 0 rr), fb_o1 rr  z1]) (fun (t : Unit) (rr : Nat) => [fb_o8 zp3 zq0 zq1 zs2 zs3 z8, fb_qw (D.1 23) zs2 120 (va_up zl 0 rr), fb_o1 rr  z1]) X I [3, 4, 5, 0, 1, 2] 6 rfl (by decide +kernel) rfl rfl [3, 4, 5, 0, 1, 2] 6 (fun _ _ => rfl) (by decide +kernel) (fun _ _ => rfl) (fun _ _ => rfl) (fun I => fb_rV (As := [.int (0 : Int32)]) (rest := []) X hl (fb_goodV fw_990 fw_917 fw_918 fw_195 fw_919) (c_line0 l D cI cJ zp3 zq0 zq1 zs2 zs3 z8 zl z1 _ ) rfl rfl rfl (by decide +kernel : fb_hd yX8_line 1) ⟨Nat.le_of_ble_eq_true rfl, Nat.le_of_ble_eq_true rfl⟩ rfl rfl rfl rfl rfl (Nat.le_of_ble_eq_true rfl) ⟨Nat.zero_le _, Nat.zero_le _⟩ dX4_firstTime_25 I) ?_
  intro w3 x4 H locs _ I
  have I : fb_In D A s.heap (([fb_o4 zp zt zp1 zp2 zp3 zp4 zp5 zp6 zp7 zp9 z4, fb_o9 zt zt0 zt2 zt3 zt4 z9, fb_aw cI zt2 2001 zk2, fb_o8 zp3 zq0 zq1 zs2 zs3 z8, fb_qw (D.1 23) zs2 120 (va_up zl 0 x4), fb_o1 x4  z1] : List va_W).flatten) H locs := I
  refine lv_astore_n (lv' := [(2, .ref x4), (1, .int (0 : Int32)), (0, .ref zp)]) hx hb dX4_firstTime_28 rfl hl (by decide) rfl (fun ls hl => ?_)
  refine lv_aload_n hx hb dX4_firstTime_29 rfl (lv_at hl 2 rfl) ?_
  refine fb_get X I (k := 0) (v := .ref zt) fu_X4 0 rfl rfl (Nat.le_of_ble_eq_true rfl) fw_398 rfl rfl dX4_firstTime_30 ?_
  refine lv_aload_n hx hb dX4_firstTime_33 rfl (lv_at hl 0 rfl) ?_
  refine fb_get X I (k := 1) (v := .int (z1 1)) fu_X1 5 rfl rfl (Nat.le_of_ble_eq_true rfl) fw_338 rfl rfl dX4_firstTime_34 ?_
  refine fb_tI (v := (-1 : Int32)) z1k1 ?_
  refine fb_gO (cs := [fb_o9 zt zt0 zt2 zt3 zt4 z9, fb_aw cI zt2 2001 zk2]) (rs := [fb_o4 zp zt zp1 zp2 zp3 zp4 zp5 zp6 zp7 zp9 z4, fb_o8 zp3 zq0 zq1 zs2 zs3 z8, fb_qw (D.1 23) zs2 120 (va_up zl 0 x4), fb_o1 x4  z1]) X I [1, 2, 0, 3, 4, 5] 6 rfl (by decide +kernel) rfl rfl (fun I => fb_rV (As := [.int (-1 : Int32)]) (rest := []) X hl (fb_goodV fw_991 fw_974 fw_975 fw_192 fw_976) (c_word0 l D cI cJ zt zt0 zt2 zt3 zt4 z9 zk2 _ ) rfl rfl rfl (by decide +kernel : fb_hd yX9_word 1) ⟨Nat.le_of_ble_eq_true rfl, Nat.le_of_ble_eq_true rfl⟩ rfl rfl rfl rfl rfl (Nat.le_of_ble_eq_true rfl) ⟨Nat.zero_le _, Nat.zero_le _⟩ dX4_firstTime_37 I) ?_
  refine lv_istore_n (lv' := [(3, .int (-1 : Int32)), (2, .ref x4), (1, .int (0 : Int32)), (0, .ref zp)]) hx hb dX4_firstTime_40 rfl hl (by decide) rfl (fun ls hl => ?_)
  refine lv_aload_n hx hb dX4_firstTime_41 rfl (lv_at hl 1 rfl) ?_
  refine lv_aload_n hx hb dX4_firstTime_42 rfl (lv_at hl 3 rfl) ?_
  refine lv_iload_n hx hb dX4_firstTime_43 rfl (lv_at hl 0 rfl) ?_
  refine fb_gO (cs := [fb_o4 zp zt zp1 zp2 zp3 zp4 zp5 zp6 zp7 zp9 z4]) (rs := [fb_o9 zt zt0 zt2 zt3 zt4 z9, fb_aw cI zt2 2001 zk2, fb_o8 zp3 zq0 zq1 zs2 zs3 z8, fb_qw (D.1 23) zs2 120 (va_up zl 0 x4), fb_o1 x4  z1]) X I [0, 1, 2, 3, 4, 5] 6 rfl (by decide +kernel) rfl rfl (fun I => fb_rV (As := [.int (-1 : Int32)]) (rest := [.ref x4]) X hl (fb_goodV fw_992 fw_994 fw_18 fw_197 fw_995) (c_leavesOut0 l D cI cJ zp zt zp1 zp2 zp3 zp4 zp5 zp6 zp7 zp9 z4 _ z4k10) rfl rfl rfl (by decide +kernel : fb_hd yX4_leavesOut 1) ⟨Nat.le_of_ble_eq_true rfl, Nat.le_of_ble_eq_true rfl⟩ rfl rfl rfl rfl rfl (Nat.le_of_ble_eq_true rfl) ⟨Nat.zero_le _, Nat.zero_le _⟩ dX4_firstTime_44 I) ?_
  refine fb_put X I (k := 5) (wn := ([fb_o4 zp zt zp1 zp2 zp3 zp4 zp5 zp6 zp7 zp9 z4, fb_o9 zt zt0 zt2 zt3 zt4 z9, fb_aw cI zt2 2001 zk2, fb_o8 zp3 zq0 zq1 zs2 zs3 z8, fb_qw (D.1 23) zs2 120 (va_up zl 0 x4), fb_o1 x4  (upd z1 5 (0 : Int32))] : List va_W).flatten) fu_X1 tyX1 tyX1_ok nmX1 5 rfl rfl (Nat.le_of_ble_eq_true rfl) fw_349 rfl rfl rfl rfl rfl (Nat.le_of_ble_eq_true rfl) rfl dX4_firstTime_47 (fun H locs I => ?_)
  refine lv_aload_n hx hb dX4_firstTime_50 rfl (lv_at hl 1 rfl) ?_
  refine lv_aload_n hx hb dX4_firstTime_51 rfl (lv_at hl 3 rfl) ?_
  refine fb_get X I (k := 11) (v := .int (z4 11)) fu_X4 0 rfl rfl (Nat.le_of_ble_eq_true rfl) fw_411 rfl rfl dX4_firstTime_52 ?_
  refine fb_put X I (k := 7) (wn := ([fb_o4 zp zt zp1 zp2 zp3 zp4 zp5 zp6 zp7 zp9 z4, fb_o9 zt zt0 zt2 zt3 zt4 z9, fb_aw cI zt2 2001 zk2, fb_o8 zp3 zq0 zq1 zs2 zs3 z8, fb_qw (D.1 23) zs2 120 (va_up zl 0 x4), fb_o1 x4  (upd (upd z1 5 (0 : Int32)) 7 (z4 11))] : List va_W).flatten) fu_X1 tyX1 tyX1_ok nmX1 5 rfl rfl (Nat.le_of_ble_eq_true rfl) fw_353 rfl rfl rfl rfl rfl (Nat.le_of_ble_eq_true rfl) rfl dX4_firstTime_55 (fun H locs I => ?_)
  refine lv_aload_n hx hb dX4_firstTime_58 rfl (lv_at hl 1 rfl) ?_
  refine lv_aload_n hx hb dX4_firstTime_59 rfl (lv_at hl 3 rfl) ?_
  refine fb_get X I (k := 12) (v := .int (z4 12)) fu_X4 0 rfl rfl (Nat.le_of_ble_eq_true rfl) fw_412 rfl rfl dX4_firstTime_60 ?_
  refine fb_put X I (k := 8) (wn := ([fb_o4 zp zt zp1 zp2 zp3 zp4 zp5 zp6 zp7 zp9 z4, fb_o9 zt zt0 zt2 zt3 zt4 z9, fb_aw cI zt2 2001 zk2, fb_o8 zp3 zq0 zq1 zs2 zs3 z8, fb_qw (D.1 23) zs2 120 (va_up zl 0 x4), fb_o1 x4  (upd (upd (upd z1 5 (0 : Int32)) 7 (z4 11)) 8 (z4 12))] : List va_W).flatten) fu_X1 tyX1 tyX1_ok nmX1 5 rfl rfl (Nat.le_of_ble_eq_true rfl) fw_355 rfl rfl rfl rfl rfl (Nat.le_of_ble_eq_true rfl) rfl dX4_firstTime_63 (fun H locs I => ?_)
  refine lv_aload_n hx hb dX4_firstTime_66 rfl (lv_at hl 1 rfl) ?_
  refine fb_get X I (k := 5) (v := .int (0 : Int32)) fu_X1 5 rfl rfl (Nat.le_of_ble_eq_true rfl) fw_349 rfl rfl dX4_firstTime_67 ?_
  refine lv_if_ne (tgt := 85) hx hb dX4_firstTime_70 (by decide) (fun c5 => absurd (by decide) c5) (fun _ => ?_)
  refine lv_aload_n hx hb dX4_firstTime_73 rfl (lv_at hl 1 rfl) ?_
  refine fb_get X I (k := 0) (v := .int (z1 0)) fu_X1 5 rfl rfl (Nat.le_of_ble_eq_true rfl) fw_335 rfl rfl dX4_firstTime_74 ?_
  refine fb_tI (v := (-1 : Int32)) z1k0 ?_
  refine lv_if_lt (tgt := 85) hx hb dX4_firstTime_77 (by decide) (fun _ => ?_) (fun c6 => absurd (by decide) c6)
  refine lv_aload_n hx hb dX4_firstTime_85 rfl (lv_at hl 3 rfl) ?_
  refine fb_get X I (k := 13) (v := .int (z4 13)) fu_X4 0 rfl rfl (Nat.le_of_ble_eq_true rfl) fw_413 rfl rfl dX4_firstTime_86 ?_
  refine fb_tI (v := (0 : Int32)) z4k13 ?_
  refine lv_if_ne (tgt := 107) hx hb dX4_firstTime_89 (by decide) (fun c7 => absurd (by decide) c7) (fun _ => ?_)
  refine lv_iload_n hx hb dX4_firstTime_92 rfl (lv_at hl 0 rfl) ?_
  refine lv_bipush (v := (6 : Int32)) hx hb dX4_firstTime_93 (by decide) ?_
  refine lv_icmp_lt (tgt := 107) hx hb dX4_firstTime_95 (by decide) (fun _ => ?_) (fun c8 => absurd (by decide) c8)
  refine lv_aload_n hx hb dX4_firstTime_107 rfl (lv_at hl 3 rfl) ?_
  refine fb_get X I (k := 13) (v := .int (z4 13)) fu_X4 0 rfl rfl (Nat.le_of_ble_eq_true rfl) fw_413 rfl rfl dX4_firstTime_108 ?_
  refine fb_tI (v := (0 : Int32)) z4k13 ?_
  refine lv_if_ne (tgt := 134) hx hb dX4_firstTime_111 (by decide) (fun c9 => absurd (by decide) c9) (fun _ => ?_)
  refine lv_aload_n hx hb dX4_firstTime_114 rfl (lv_at hl 1 rfl) ?_
  refine fb_get X I (k := 5) (v := .int (0 : Int32)) fu_X1 5 rfl rfl (Nat.le_of_ble_eq_true rfl) fw_349 rfl rfl dX4_firstTime_115 ?_
  refine lv_if_ne (tgt := 134) hx hb dX4_firstTime_118 (by decide) (fun c10 => absurd (by decide) c10) (fun _ => ?_)
  refine lv_aload_n hx hb dX4_firstTime_121 rfl (lv_at hl 1 rfl) ?_
  refine fb_get X I (k := 1) (v := .int (z1 1)) fu_X1 5 rfl rfl (Nat.le_of_ble_eq_true rfl) fw_338 rfl rfl dX4_firstTime_122 ?_
  refine fb_tI (v := (-1 : Int32)) z1k1 ?_
  refine lv_if_lt (tgt := 134) hx hb dX4_firstTime_125 (by decide) (fun _ => ?_) (fun c11 => absurd (by decide) c11)
  refine lv_iinc (v := (1 : Int32)) (lv' := [(1, .int (1 : Int32)), (3, .int (-1 : Int32)), (2, .ref x4), (0, .ref zp)]) hx hb dX4_firstTime_134 hl (k := 2) rfl (by decide) (by decide) rfl (fun ls hl => ?_)
  refine lv_goto (tgt := 2) hx hb dX4_firstTime_137 (by decide) ?_
  refine lv_iload_n hx hb dX4_firstTime_2 rfl (lv_at hl 0 rfl) ?_
  refine lv_aload_n hx hb dX4_firstTime_3 rfl (lv_at hl 3 rfl) ?_
  refine fb_get X I (k := 3) (v := .ref zp3) fu_X4 0 rfl rfl (Nat.le_of_ble_eq_true rfl) fw_401 rfl rfl dX4_firstTime_4 ?_
  refine fb_get X I (k := 4) (v := .int (z8 4)) fu_X8 3 rfl rfl (Nat.le_of_ble_eq_true rfl) fw_380 rfl rfl dX4_firstTime_7 ?_
  refine fb_tI (v := (1 : Int32)) z8k4 ?_
  refine lv_icmp_ge (tgt := 140) hx hb dX4_firstTime_10 (by decide) (fun _ => ?_) (fun c12 => absurd (by decide) c12)
  refine lv_aload_n hx hb dX4_firstTime_140 rfl (lv_at hl 3 rfl) ?_
  refine fb_get X I (k := 13) (v := .int (z4 13)) fu_X4 0 rfl rfl (Nat.le_of_ble_eq_true rfl) fw_413 rfl rfl dX4_firstTime_141 ?_
  refine fb_tI (v := (0 : Int32)) z4k13 ?_
  refine lv_if_ne (tgt := 166) hx hb dX4_firstTime_144 (by decide) (fun c13 => absurd (by decide) c13) (fun _ => ?_)
  refine lv_aload_n hx hb dX4_firstTime_147 rfl (lv_at hl 3 rfl) ?_
  refine fb_get X I (k := 10) (v := .int (z4 10)) fu_X4 0 rfl rfl (Nat.le_of_ble_eq_true rfl) fw_410 rfl rfl dX4_firstTime_148 ?_
  refine fb_tI (v := (0 : Int32)) z4k10 ?_
  refine lv_if_le (tgt := 166) hx hb dX4_firstTime_151 (by decide) (fun _ => ?_) (fun c14 => absurd (by decide) c14)
  exact fb_retV (u := (x4)) X I trivial dX4_firstTime_166

theorem c_fill0 (l : Launch) (D : va_G) (cI cJ : ClassId) (zw : Nat) (zf : fb_AR) (sz : Nat)  : Met l yJ7_fill_53178 (Cond.code yJ7_fill_53178 cJ7_fill_53178 4 none :: fb_all) ({ frames := 0, cells := 0, slots := 0, locals := 0 } : Room) (fb_PP D (fb_ty D cI cJ) [.ref zw, .int (0 : Int32)] (([fb_aw cI zw 11008 zf] : List va_W).flatten) sz) (fb_QV D (va_A (([fb_aw cI zw 11008 zf] : List va_W).flatten) sz) (fun (_ : Unit) => True) (fun (t : Unit) => ([fb_aw cI zw 11008 (f_J7_fill_53178 11008 zf 0)] : List va_W).flatten)) 0 0 (va_A (([fb_aw cI zw 11008 zf] : List va_W).flatten) sz) := c_J7_fill_53178 l D cI cJ zw 11008 zf 0 sz (by decide)

theorem c_restart0 (l : Launch) (D : va_G) (cI cJ : ClassId) (zq : Nat → Nat) (zs9 : fb_MS) (zw : fb_AR) (sz : Nat)  : Met l yX2_restart (Cond.code yX2_restart cX2_restart 1 none :: fb_all) ({ frames := 2, cells := 0, slots := 0, locals := 43 } : Room) (fb_PP D (fb_ty D cI cJ) [.ref (zq 0)] (([fb_mw cI zq zs9 zw] : List va_W).flatten) sz) (fb_QV D (va_A (([fb_mw cI zq zs9 zw] : List va_W).flatten) sz) (fun (_ : fb_AR) => True) (fun (t : fb_AR) => ([fb_mw cI zq (f_X2_restart zs9) t] : List va_W).flatten)) 0 0 (va_A (([fb_mw cI zq zs9 zw] : List va_W).flatten) sz) := c_X2_restart l D cI cJ zq zs9 zw sz

set_option maxHeartbeats 4000000 in
set_option maxRecDepth 100000 in
theorem c_secondTime0 (l : Launch) (D : va_G) (cI cJ : ClassId) (zp : Nat) (zp0 : Nat) (zp1 : Nat) (zp2 : Nat) (zp3 : Nat) (zp4 : Nat) (zp5 : Nat) (zp6 : Nat) (zp7 : Nat) (zp9 : Nat) (z4 : fb_AR) (zk4 : fb_AR) (zk5 : fb_AR) (zq0 : Nat) (zq1 : Nat) (zs2 : Nat) (zs3 : Nat) (z8 : fb_AR) (zl : Nat → Nat) (z1 : fb_AR) (sz : Nat) (z8k4 : z8 4 = (1 : Int32)) (z4k13 : z4 13 = (0 : Int32)) (z1k0 : z1 0 = (-1 : Int32)) (z1k1 : z1 1 = (-1 : Int32)) (z1k5 : z1 5 = (0 : Int32)) : Met l yX4_secondTime (Cond.code yX4_secondTime cX4_secondTime 4 none :: fb_all) ({ frames := 2, cells := 0, slots := 0, locals := 52 } : Room) (fb_PP D (fb_ty D cI cJ) [.ref zp] (([fb_o4 zp zp0 zp1 zp2 zp3 zp4 zp5 zp6 zp7 zp9 z4, fb_aw cI zp4 11008 zk4, fb_aw cI zp5 11008 zk5, fb_o8 zp3 zq0 zq1 zs2 zs3 z8, fb_qw (D.1 23) zs2 120 zl, fb_o1 (zl 0)  z1] : List va_W).flatten) sz) (fb_QV D (va_A (([fb_o4 zp zp0 zp1 zp2 zp3 zp4 zp5 zp6 zp7 zp9 z4, fb_aw cI zp4 11008 zk4, fb_aw cI zp5 11008 zk5, fb_o8 zp3 zq0 zq1 zs2 zs3 z8, fb_qw (D.1 23) zs2 120 zl, fb_o1 (zl 0)  z1] : List va_W).flatten) sz) (fun (_ : Nat) => True) (fun (t : Nat) => ([fb_o4 zp zp0 zp1 zp2 zp3 zp4 zp5 zp6 zp7 zp9 z4, fb_aw cI zp4 11008 (f_J7_fill_53178 11008 zk4 0), fb_aw cI zp5 11008 (f_J7_fill_53178 11008 zk5 0), fb_o8 zp3 zq0 zq1 zs2 zs3 z8, fb_qw (D.1 23) zs2 120 (va_up zl 0 t), fb_o1 t  z1] : List va_W).flatten)) 0 0 (va_A (([fb_o4 zp zp0 zp1 zp2 zp3 zp4 zp5 zp6 zp7 zp9 z4, fb_aw cI zp4 11008 zk4, fb_aw cI zp5 11008 zk5, fb_o8 zp3 zq0 zq1 zs2 zs3 z8, fb_qw (D.1 23) zs2 120 zl, fb_o1 (zl 0)  z1] : List va_W).flatten) sz) := by
  refine fb_ent (Qf := fun A => (fb_QV D A (fun (_ : Nat) => True) (fun (t : Nat) => ([fb_o4 zp zp0 zp1 zp2 zp3 zp4 zp5 zp6 zp7 zp9 z4, fb_aw cI zp4 11008 (f_J7_fill_53178 11008 zk4 0), fb_aw cI zp5 11008 (f_J7_fill_53178 11008 zk5 0), fb_o8 zp3 zq0 zq1 zs2 zs3 z8, fb_qw (D.1 23) zs2 120 (va_up zl 0 t), fb_o1 t  z1] : List va_W).flatten))) (by decide +kernel) (Nat.le_of_ble_eq_true rfl) ?_
  intro p e s m args below meth c A ls X I hl hin
  obtain ⟨hx, hb, hr, hml, hown, hts, hlk, hA, hK, hF⟩ := id X
  have hl : lv_has ls 4 [(0, .ref zp)] := hl
  refine lv_aload_n hx hb dX4_secondTime_0 rfl (lv_at hl 0 rfl) ?_
  refine fb_get X I (k := 4) (v := .ref zp4) fu_X4 0 rfl rfl (Nat.le_of_ble_eq_true rfl) fw_402 rfl rfl dX4_secondTime_1 ?_
  refine lv_iconst (v := (0 : Int32)) hx hb dX4_secondTime_4 (by decide) ?_
  refine fb_gV (cs := [fb_aw cI zp4 11008 zk4]) (rs := [fb_o4 zp zp0 zp1 zp2 zp3 zp4 zp5 zp6 zp7 zp9 z4, fb_aw cI zp5 11008 zk5, fb_o8 zp3 zq0 zq1 zs2 zs3 z8, fb_qw (D.1 23) zs2 120 zl, fb_o1 (zl 0)  z1]) (fun (t : Unit) => [fb_o4 zp zp0 zp1 zp2 zp3 zp4 zp5 zp6 zp7 zp9 z4, fb_aw cI zp4 11008 (f_J7_fill_53178 11008 zk4 0), fb_aw cI zp5 11008 zk5, fb_o8 zp3 zq0 zq1 zs2 zs3 z8, fb_qw (D.1 23) zs2 120 zl, fb_o1 (zl 0)  z1]) (fun (t : Unit) => [fb_aw cI zp4 11008 (f_J7_fill_53178 11008 zk4 0)]) X I [1, 0, 2, 3, 4, 5] 6 rfl (by decide +kernel) rfl rfl [1, 0, 2, 3, 4, 5] 6 (fun _ => rfl) (by decide +kernel) (fun _ => rfl) (fun _ => rfl) (fun I => fb_rS (As := [.ref zp4, .int (0 : Int32)]) (rest := []) X hl (fb_goodS fw_1075 fw_674 fw_203 fw_675) (c_fill0 l D cI cJ zp4 zk4 _ ) rfl rfl (by decide +kernel : fb_hd yJ7_fill_53178 2) ⟨Nat.le_of_ble_eq_true rfl, Nat.le_of_ble_eq_true rfl⟩ rfl rfl (Nat.le_of_ble_eq_true rfl) ⟨Nat.zero_le _, Nat.zero_le _⟩ dX4_secondTime_5 I) ?_
  intro w1 H locs _ I
  have I : fb_In D A s.heap (([fb_o4 zp zp0 zp1 zp2 zp3 zp4 zp5 zp6 zp7 zp9 z4, fb_aw cI zp4 11008 (f_J7_fill_53178 11008 zk4 0), fb_aw cI zp5 11008 zk5, fb_o8 zp3 zq0 zq1 zs2 zs3 z8, fb_qw (D.1 23) zs2 120 zl, fb_o1 (zl 0)  z1] : List va_W).flatten) H locs := I
  refine lv_aload_n hx hb dX4_secondTime_8 rfl (lv_at hl 0 rfl) ?_
  refine fb_get X I (k := 5) (v := .ref zp5) fu_X4 0 rfl rfl (Nat.le_of_ble_eq_true rfl) fw_404 rfl rfl dX4_secondTime_9 ?_
  refine lv_iconst (v := (0 : Int32)) hx hb dX4_secondTime_12 (by decide) ?_
  refine fb_gV (cs := [fb_aw cI zp5 11008 zk5]) (rs := [fb_o4 zp zp0 zp1 zp2 zp3 zp4 zp5 zp6 zp7 zp9 z4, fb_aw cI zp4 11008 (f_J7_fill_53178 11008 zk4 0), fb_o8 zp3 zq0 zq1 zs2 zs3 z8, fb_qw (D.1 23) zs2 120 zl, fb_o1 (zl 0)  z1]) (fun (t : Unit) => [fb_o4 zp zp0 zp1 zp2 zp3 zp4 zp5 zp6 zp7 zp9 z4, fb_aw cI zp4 11008 (f_J7_fill_53178 11008 zk4 0), fb_aw cI zp5 11008 (f_J7_fill_53178 11008 zk5 0), fb_o8 zp3 zq0 zq1 zs2 zs3 z8, fb_qw (D.1 23) zs2 120 zl, fb_o1 (zl 0)  z1]) (fun (t : Unit) => [fb_aw cI zp5 11008 (f_J7_fill_53178 11008 zk5 0)]) X I [2, 0, 1, 3, 4, 5] 6 rfl (by decide +kernel) rfl rfl [2, 0, 1, 3, 4, 5] 6 (fun _ => rfl) (by decide +kernel) (fun _ => rfl) (fun _ => rfl) (fun I => fb_rS (As := [.ref zp5, .int (0 : Int32)]) (rest := []) X hl (fb_goodS fw_1075 fw_674 fw_203 fw_675) (c_fill0 l D cI cJ zp5 zk5 _ ) rfl rfl (by decide +kernel : fb_hd yJ7_fill_53178 2) ⟨Nat.le_of_ble_eq_true rfl, Nat.le_of_ble_eq_true rfl⟩ rfl rfl (Nat.le_of_ble_eq_true rfl) ⟨Nat.zero_le _, Nat.zero_le _⟩ dX4_secondTime_13 I) ?_
  intro w2 H locs _ I
  have I : fb_In D A s.heap (([fb_o4 zp zp0 zp1 zp2 zp3 zp4 zp5 zp6 zp7 zp9 z4, fb_aw cI zp4 11008 (f_J7_fill_53178 11008 zk4 0), fb_aw cI zp5 11008 (f_J7_fill_53178 11008 zk5 0), fb_o8 zp3 zq0 zq1 zs2 zs3 z8, fb_qw (D.1 23) zs2 120 zl, fb_o1 (zl 0)  z1] : List va_W).flatten) H locs := I
  refine lv_iconst (v := (0 : Int32)) hx hb dX4_secondTime_16 (by decide) ?_
  refine lv_istore_n (lv' := [(1, .int (0 : Int32)), (0, .ref zp)]) hx hb dX4_secondTime_17 rfl hl (by decide) rfl (fun ls hl => ?_)
  refine lv_iload_n hx hb dX4_secondTime_18 rfl (lv_at hl 0 rfl) ?_
  refine lv_aload_n hx hb dX4_secondTime_19 rfl (lv_at hl 1 rfl) ?_
  refine fb_get X I (k := 3) (v := .ref zp3) fu_X4 0 rfl rfl (Nat.le_of_ble_eq_true rfl) fw_401 rfl rfl dX4_secondTime_20 ?_
  refine fb_get X I (k := 4) (v := .int (z8 4)) fu_X8 3 rfl rfl (Nat.le_of_ble_eq_true rfl) fw_380 rfl rfl dX4_secondTime_23 ?_
  refine fb_tI (v := (1 : Int32)) z8k4 ?_
  refine lv_icmp_ge (tgt := 91) hx hb dX4_secondTime_26 (by decide) (fun c3 => absurd c3 (by decide)) (fun _ => ?_)
  refine lv_aload_n hx hb dX4_secondTime_29 rfl (lv_at hl 1 rfl) ?_
  refine fb_get X I (k := 13) (v := .int (z4 13)) fu_X4 0 rfl rfl (Nat.le_of_ble_eq_true rfl) fw_413 rfl rfl dX4_secondTime_30 ?_
  refine fb_tI (v := (0 : Int32)) z4k13 ?_
  refine lv_if_ne (tgt := 91) hx hb dX4_secondTime_33 (by decide) (fun c4 => absurd (by decide) c4) (fun _ => ?_)
  refine lv_aload_n hx hb dX4_secondTime_36 rfl (lv_at hl 1 rfl) ?_
  refine fb_get X I (k := 3) (v := .ref zp3) fu_X4 0 rfl rfl (Nat.le_of_ble_eq_true rfl) fw_401 rfl rfl dX4_secondTime_37 ?_
  refine lv_iload_n hx hb dX4_secondTime_40 rfl (lv_at hl 0 rfl) ?_
  refine fb_gR (cs := [fb_o8 zp3 zq0 zq1 zs2 zs3 z8, fb_qw (D.1 23) zs2 120 zl, fb_o1 (zl 0)  z1]) (rs := [fb_o4 zp zp0 zp1 zp2 zp3 zp4 zp5 zp6 zp7 zp9 z4, fb_aw cI zp4 11008 (f_J7_fill_53178 11008 zk4 0), fb_aw cI zp5 11008 (f_J7_fill_53178 11008 zk5 0)]) (fun (t : Unit) (rr : Nat) => [fb_o4 zp zp0 zp1 zp2 zp3 zp4 zp5 zp6 zp7 zp9 z4, fb_aw cI zp4 11008 (f_J7_fill_53178 11008 zk4 0), fb_aw cI zp5 11008 (f_J7_fill_53178 11008 zk5 0), fb_o8 zp3 zq0 zq1 zs2 zs3 z8, fb_qw (D.1 23) zs2 120 (va_up zl 0 rr), fb_o1 rr  z1]) (fun (t : Unit) (rr : Nat) => [fb_o8 zp3 zq0 zq1 zs2 zs3 z8, fb_qw (D.1 23) zs2 120 (va_up zl 0 rr), fb_o1 rr  z1]) X I [3, 4, 5, 0, 1, 2] 6 rfl (by decide +kernel) rfl rfl [3, 4, 5, 0, 1, 2] 6 (fun _ _ => rfl) (by decide +kernel) (fun _ _ => rfl) (fun _ _ => rfl) (fun I => fb_rV (As := [.int (0 : Int32)]) (rest := []) X hl (fb_goodV fw_990 fw_917 fw_918 fw_195 fw_919) (c_line0 l D cI cJ zp3 zq0 zq1 zs2 zs3 z8 zl z1 _ ) rfl rfl rfl (by decide +kernel : fb_hd yX8_line 1) ⟨Nat.le_of_ble_eq_true rfl, Nat.le_of_ble_eq_true rfl⟩ rfl rfl rfl rfl rfl (Nat.le_of_ble_eq_true rfl) ⟨Nat.zero_le _, Nat.zero_le _⟩ dX4_secondTime_41 I) ?_
  intro w5 x6 H locs _ I
  have I : fb_In D A s.heap (([fb_o4 zp zp0 zp1 zp2 zp3 zp4 zp5 zp6 zp7 zp9 z4, fb_aw cI zp4 11008 (f_J7_fill_53178 11008 zk4 0), fb_aw cI zp5 11008 (f_J7_fill_53178 11008 zk5 0), fb_o8 zp3 zq0 zq1 zs2 zs3 z8, fb_qw (D.1 23) zs2 120 (va_up zl 0 x6), fb_o1 x6  z1] : List va_W).flatten) H locs := I
  refine lv_astore_n (lv' := [(2, .ref x6), (1, .int (0 : Int32)), (0, .ref zp)]) hx hb dX4_secondTime_44 rfl hl (by decide) rfl (fun ls hl => ?_)
  refine lv_aload_n hx hb dX4_secondTime_45 rfl (lv_at hl 0 rfl) ?_
  refine fb_get X I (k := 5) (v := .int (z1 5)) fu_X1 5 rfl rfl (Nat.le_of_ble_eq_true rfl) fw_349 rfl rfl dX4_secondTime_46 ?_
  refine fb_tI (v := (0 : Int32)) z1k5 ?_
  refine lv_if_ne (tgt := 63) hx hb dX4_secondTime_49 (by decide) (fun c7 => absurd (by decide) c7) (fun _ => ?_)
  refine lv_aload_n hx hb dX4_secondTime_52 rfl (lv_at hl 0 rfl) ?_
  refine fb_get X I (k := 1) (v := .int (z1 1)) fu_X1 5 rfl rfl (Nat.le_of_ble_eq_true rfl) fw_338 rfl rfl dX4_secondTime_53 ?_
  refine fb_tI (v := (-1 : Int32)) z1k1 ?_
  refine lv_if_lt (tgt := 63) hx hb dX4_secondTime_56 (by decide) (fun _ => ?_) (fun c8 => absurd (by decide) c8)
  refine lv_iconst (v := (0 : Int32)) hx hb dX4_secondTime_63 (by decide) ?_
  refine lv_istore_n (lv' := [(3, .int (0 : Int32)), (2, .ref x6), (1, .int (0 : Int32)), (0, .ref zp)]) hx hb dX4_secondTime_64 rfl hl (by decide) rfl (fun ls hl => ?_)
  refine lv_iload_n hx hb dX4_secondTime_65 rfl (lv_at hl 0 rfl) ?_
  refine lv_if_eq (tgt := 85) hx hb dX4_secondTime_66 (by decide) (fun _ => ?_) (fun c9 => absurd (by decide) c9)
  refine lv_iinc (v := (1 : Int32)) (lv' := [(1, .int (1 : Int32)), (3, .int (0 : Int32)), (2, .ref x6), (0, .ref zp)]) hx hb dX4_secondTime_85 hl (k := 2) rfl (by decide) (by decide) rfl (fun ls hl => ?_)
  refine lv_goto (tgt := 18) hx hb dX4_secondTime_88 (by decide) ?_
  refine lv_iload_n hx hb dX4_secondTime_18 rfl (lv_at hl 0 rfl) ?_
  refine lv_aload_n hx hb dX4_secondTime_19 rfl (lv_at hl 3 rfl) ?_
  refine fb_get X I (k := 3) (v := .ref zp3) fu_X4 0 rfl rfl (Nat.le_of_ble_eq_true rfl) fw_401 rfl rfl dX4_secondTime_20 ?_
  refine fb_get X I (k := 4) (v := .int (z8 4)) fu_X8 3 rfl rfl (Nat.le_of_ble_eq_true rfl) fw_380 rfl rfl dX4_secondTime_23 ?_
  refine fb_tI (v := (1 : Int32)) z8k4 ?_
  refine lv_icmp_ge (tgt := 91) hx hb dX4_secondTime_26 (by decide) (fun _ => ?_) (fun c10 => absurd (by decide) c10)
  exact fb_retV (u := (x6)) X I trivial dX4_secondTime_91

set_option maxHeartbeats 4000000 in
set_option maxRecDepth 100000 in
theorem c_keepLines0 (l : Launch) (D : va_G) (cI cJ : ClassId) (zp : Nat) (zp0 : Nat) (zp1 : Nat) (zp2 : Nat) (zp3 : Nat) (zp4 : Nat) (zp5 : Nat) (zp6 : Nat) (zp7 : Nat) (zp9 : Nat) (z4 : fb_AR) (zk5 : fb_AR) (zk6 : fb_AR) (sz : Nat)  : Met l yX4_keepLines (Cond.code yX4_keepLines cX4_keepLines 1 none :: fb_all) ({ frames := 1, cells := 0, slots := 0, locals := 60 } : Room) (fb_PP D (fb_ty D cI cJ) [.ref zp] (([fb_o4 zp zp0 zp1 zp2 zp3 zp4 zp5 zp6 zp7 zp9 z4, fb_aw cI zp5 11008 zk5, fb_aw cI zp6 11008 zk6] : List va_W).flatten) sz) (fb_QV D (va_A (([fb_o4 zp zp0 zp1 zp2 zp3 zp4 zp5 zp6 zp7 zp9 z4, fb_aw cI zp5 11008 zk5, fb_aw cI zp6 11008 zk6] : List va_W).flatten) sz) (fun (_ : Unit) => True) (fun (t : Unit) => ([fb_o4 zp zp0 zp1 zp2 zp3 zp4 zp5 zp6 zp7 zp9 z4, fb_aw cI zp5 11008 zk5, fb_aw cI zp6 11008 zk5] : List va_W).flatten)) 0 0 (va_A (([fb_o4 zp zp0 zp1 zp2 zp3 zp4 zp5 zp6 zp7 zp9 z4, fb_aw cI zp5 11008 zk5, fb_aw cI zp6 11008 zk6] : List va_W).flatten) sz) := by
  refine fb_ent (Qf := fun A => (fb_QV D A (fun (_ : Unit) => True) (fun (t : Unit) => ([fb_o4 zp zp0 zp1 zp2 zp3 zp4 zp5 zp6 zp7 zp9 z4, fb_aw cI zp5 11008 zk5, fb_aw cI zp6 11008 zk5] : List va_W).flatten))) (by decide +kernel) (Nat.le_of_ble_eq_true rfl) ?_
  intro p e s m args below meth c A ls X I hl hin
  obtain ⟨hx, hb, hr, hml, hown, hts, hlk, hA, hK, hF⟩ := id X
  have hl : lv_has ls 1 [(0, .ref zp)] := hl
  refine lv_aload_n hx hb dX4_keepLines_0 rfl (lv_at hl 0 rfl) ?_
  refine fb_get X I (k := 5) (v := .ref zp5) fu_X4 0 rfl rfl (Nat.le_of_ble_eq_true rfl) fw_404 rfl rfl dX4_keepLines_1 ?_
  refine lv_iconst (v := (0 : Int32)) hx hb dX4_keepLines_4 (by decide) ?_
  refine lv_aload_n hx hb dX4_keepLines_5 rfl (lv_at hl 0 rfl) ?_
  refine fb_get X I (k := 6) (v := .ref zp6) fu_X4 0 rfl rfl (Nat.le_of_ble_eq_true rfl) fw_405 rfl rfl dX4_keepLines_6 ?_
  refine lv_iconst (v := (0 : Int32)) hx hb dX4_keepLines_9 (by decide) ?_
  refine lv_sipush (v := (11008 : Int32)) hx hb dX4_keepLines_10 (by decide) ?_
  refine fb_copyA (wn := ([fb_o4 zp zp0 zp1 zp2 zp3 zp4 zp5 zp6 zp7 zp9 z4, fb_aw cI zp5 11008 zk5, fb_aw cI zp6 11008 zk5] : List va_W).flatten) X I hl fw_1129 fw_1131 fw_1130 fw_216 1 2 0 0 rfl rfl rfl rfl (by decide) rfl (Nat.le_of_ble_eq_true rfl) (Nat.le_of_ble_eq_true rfl) dX4_keepLines_13 (fun H locs I => ?_)
  exact fb_retV (u := ()) X I trivial dX4_keepLines_16

set_option maxHeartbeats 4000000 in
set_option maxRecDepth 100000 in
theorem c_keep0 (l : Launch) (D : va_G) (cI cJ : ClassId) (zn : Nat) (zn0 : Nat) (zn1 : Nat) (zn3 : Nat) (z3 : fb_AR) (zk1 : fb_AR) (zk7 : fb_AR) (sz : Nat)  : Met l yX3_keep (Cond.code yX3_keep cX3_keep 1 none :: fb_all) ({ frames := 1, cells := 0, slots := 0, locals := 60 } : Room) (fb_PP D (fb_ty D cI cJ) [.ref zn] (([fb_o3 zn zn0 zn1 zn3 z3, fb_aw cI zn1 120 zk1, fb_aw cI zn3 120 zk7] : List va_W).flatten) sz) (fb_QV D (va_A (([fb_o3 zn zn0 zn1 zn3 z3, fb_aw cI zn1 120 zk1, fb_aw cI zn3 120 zk7] : List va_W).flatten) sz) (fun (_ : Unit) => True) (fun (t : Unit) => ([fb_o3 zn zn0 zn1 zn3 (upd z3 4 (z3 2)), fb_aw cI zn1 120 zk1, fb_aw cI zn3 120 zk1] : List va_W).flatten)) 0 0 (va_A (([fb_o3 zn zn0 zn1 zn3 z3, fb_aw cI zn1 120 zk1, fb_aw cI zn3 120 zk7] : List va_W).flatten) sz) := by
  refine fb_ent (Qf := fun A => (fb_QV D A (fun (_ : Unit) => True) (fun (t : Unit) => ([fb_o3 zn zn0 zn1 zn3 (upd z3 4 (z3 2)), fb_aw cI zn1 120 zk1, fb_aw cI zn3 120 zk1] : List va_W).flatten))) (by decide +kernel) (Nat.le_of_ble_eq_true rfl) ?_
  intro p e s m args below meth c A ls X I hl hin
  obtain ⟨hx, hb, hr, hml, hown, hts, hlk, hA, hK, hF⟩ := id X
  have hl : lv_has ls 1 [(0, .ref zn)] := hl
  refine lv_aload_n hx hb dX3_keep_0 rfl (lv_at hl 0 rfl) ?_
  refine fb_get X I (k := 1) (v := .ref zn1) fu_X3 0 rfl rfl (Nat.le_of_ble_eq_true rfl) fw_270 rfl rfl dX3_keep_1 ?_
  refine lv_iconst (v := (0 : Int32)) hx hb dX3_keep_4 (by decide) ?_
  refine lv_aload_n hx hb dX3_keep_5 rfl (lv_at hl 0 rfl) ?_
  refine fb_get X I (k := 3) (v := .ref zn3) fu_X3 0 rfl rfl (Nat.le_of_ble_eq_true rfl) fw_273 rfl rfl dX3_keep_6 ?_
  refine lv_iconst (v := (0 : Int32)) hx hb dX3_keep_9 (by decide) ?_
  refine lv_bipush (v := (120 : Int32)) hx hb dX3_keep_10 (by decide) ?_
  refine fb_copyA (wn := ([fb_o3 zn zn0 zn1 zn3 z3, fb_aw cI zn1 120 zk1, fb_aw cI zn3 120 zk1] : List va_W).flatten) X I hl fw_1136 fw_1131 fw_1130 fw_216 1 2 0 0 rfl rfl rfl rfl (by decide) rfl (Nat.le_of_ble_eq_true rfl) (Nat.le_of_ble_eq_true rfl) dX3_keep_12 (fun H locs I => ?_)
  refine lv_aload_n hx hb dX3_keep_15 rfl (lv_at hl 0 rfl) ?_
  refine lv_aload_n hx hb dX3_keep_16 rfl (lv_at hl 0 rfl) ?_
  refine fb_get X I (k := 2) (v := .int (z3 2)) fu_X3 0 rfl rfl (Nat.le_of_ble_eq_true rfl) fw_272 rfl rfl dX3_keep_17 ?_
  refine fb_put X I (k := 4) (wn := ([fb_o3 zn zn0 zn1 zn3 (upd z3 4 (z3 2)), fb_aw cI zn1 120 zk1, fb_aw cI zn3 120 zk1] : List va_W).flatten) fu_X3 tyX3 tyX3_ok nmX3 0 rfl rfl (Nat.le_of_ble_eq_true rfl) fw_275 rfl rfl rfl rfl rfl (Nat.le_of_ble_eq_true rfl) rfl dX3_keep_20 (fun H locs I => ?_)
  exact fb_retV (u := ()) X I trivial dX3_keep_23

set_option maxHeartbeats 4000000 in
set_option maxRecDepth 100000 in
theorem c_forget7 (l : Launch) (D : va_G) (cI cJ : ClassId) (zst : Nat) (zb0 : Nat) (zb1 : Nat) (zb3 : Nat) (zb4 : Nat) (zb5 : Nat) (z7 : fb_AR) (sz : Nat)  : Met l yX7_forget (Cond.code yX7_forget cX7_forget 1 none :: fb_all) ({ frames := 1, cells := 0, slots := 0, locals := 30 } : Room) (fb_PP D (fb_ty D cI cJ) [.ref zst] (([fb_o7 zst zb0 zb1 zb3 zb4 zb5 z7] : List va_W).flatten) sz) (fb_QV D (va_A (([fb_o7 zst zb0 zb1 zb3 zb4 zb5 z7] : List va_W).flatten) sz) (fun (_ : Unit) => True) (fun (t : Unit) => ([fb_o7 zst zb0 zb1 zb3 zb4 zb5 (upd (upd (upd z7 2 (0 : Int32)) 6 (0 : Int32)) 7 (0 : Int32))] : List va_W).flatten)) 0 0 (va_A (([fb_o7 zst zb0 zb1 zb3 zb4 zb5 z7] : List va_W).flatten) sz) := by
  refine fb_ent (Qf := fun A => (fb_QV D A (fun (_ : Unit) => True) (fun (t : Unit) => ([fb_o7 zst zb0 zb1 zb3 zb4 zb5 (upd (upd (upd z7 2 (0 : Int32)) 6 (0 : Int32)) 7 (0 : Int32))] : List va_W).flatten))) (by decide +kernel) (Nat.le_of_ble_eq_true rfl) ?_
  intro p e s m args below meth c A ls X I hl hin
  obtain ⟨hx, hb, hr, hml, hown, hts, hlk, hA, hK, hF⟩ := id X
  have hl : lv_has ls 1 [(0, .ref zst)] := hl
  refine lv_aload_n hx hb dX7_forget_0 rfl (lv_at hl 0 rfl) ?_
  refine lv_iconst (v := (0 : Int32)) hx hb dX7_forget_1 (by decide) ?_
  refine fb_put X I (k := 2) (wn := ([fb_o7 zst zb0 zb1 zb3 zb4 zb5 (upd z7 2 (0 : Int32))] : List va_W).flatten) fu_X7 tyX7 tyX7_ok nmX7 0 rfl rfl (Nat.le_of_ble_eq_true rfl) fw_619 rfl rfl rfl rfl rfl (Nat.le_of_ble_eq_true rfl) rfl dX7_forget_2 (fun H locs I => ?_)
  refine lv_aload_n hx hb dX7_forget_5 rfl (lv_at hl 0 rfl) ?_
  refine lv_iconst (v := (0 : Int32)) hx hb dX7_forget_6 (by decide) ?_
  refine fb_put X I (k := 6) (wn := ([fb_o7 zst zb0 zb1 zb3 zb4 zb5 (upd (upd z7 2 (0 : Int32)) 6 (0 : Int32))] : List va_W).flatten) fu_X7 tyX7 tyX7_ok nmX7 0 rfl rfl (Nat.le_of_ble_eq_true rfl) fw_624 rfl rfl rfl rfl rfl (Nat.le_of_ble_eq_true rfl) rfl dX7_forget_7 (fun H locs I => ?_)
  refine lv_aload_n hx hb dX7_forget_10 rfl (lv_at hl 0 rfl) ?_
  refine lv_iconst (v := (0 : Int32)) hx hb dX7_forget_11 (by decide) ?_
  refine fb_put X I (k := 7) (wn := ([fb_o7 zst zb0 zb1 zb3 zb4 zb5 (upd (upd (upd z7 2 (0 : Int32)) 6 (0 : Int32)) 7 (0 : Int32))] : List va_W).flatten) fu_X7 tyX7 tyX7_ok nmX7 0 rfl rfl (Nat.le_of_ble_eq_true rfl) fw_626 rfl rfl rfl rfl rfl (Nat.le_of_ble_eq_true rfl) rfl dX7_forget_12 (fun H locs I => ?_)
  exact fb_retV (u := ()) X I trivial dX7_forget_15

set_option maxHeartbeats 4000000 in
set_option maxRecDepth 100000 in
theorem c_takeOver0 (l : Launch) (D : va_G) (cI cJ : ClassId) (zb : Nat) (zr0 : Nat) (zr2 : Nat) (zr3 : Nat) (zr6 : Nat) (zr7 : Nat) (zr9 : Nat) (zp : Nat) (zp0 : Nat) (zp1 : Nat) (zp2 : Nat) (zp3 : Nat) (zp4 : Nat) (zp5 : Nat) (zp6 : Nat) (zp7 : Nat) (zp9 : Nat) (z4 : fb_AR) (zk4 : fb_AR) (zk5 : fb_AR) (zk6 : fb_AR) (zn : Nat) (zn0 : Nat) (zn1 : Nat) (zn3 : Nat) (z3 : fb_AR) (zk1 : fb_AR) (zk7 : fb_AR) (zst : Nat) (zb0 : Nat) (zb1 : Nat) (zb3 : Nat) (zb4 : Nat) (zb5 : Nat) (z7 : fb_AR) (zq : Nat → Nat) (zs9 : fb_MS) (zw : fb_AR) (sz : Nat)  : Met l yX11_takeOver (Cond.code yX11_takeOver cX11_takeOver 1 none :: fb_all) ({ frames := 3, cells := 0, slots := 0, locals := 80 } : Room) (fb_PP D (fb_ty D cI cJ) [.ref zb] (([fb_o11 zb zr0 zn zr2 zr3 zp (zq 0) zr6 zr7 zst zr9, fb_o4 zp zp0 zp1 zp2 zp3 zp4 zp5 zp6 zp7 zp9 z4, fb_aw cI zp4 11008 zk4, fb_aw cI zp5 11008 zk5, fb_aw cI zp6 11008 zk6, fb_o3 zn zn0 zn1 zn3 z3, fb_aw cI zn1 120 zk1, fb_aw cI zn3 120 zk7, fb_o7 zst zb0 zb1 zb3 zb4 zb5 z7, fb_mw cI zq zs9 zw] : List va_W).flatten) sz) (fb_QV D (va_A (([fb_o11 zb zr0 zn zr2 zr3 zp (zq 0) zr6 zr7 zst zr9, fb_o4 zp zp0 zp1 zp2 zp3 zp4 zp5 zp6 zp7 zp9 z4, fb_aw cI zp4 11008 zk4, fb_aw cI zp5 11008 zk5, fb_aw cI zp6 11008 zk6, fb_o3 zn zn0 zn1 zn3 z3, fb_aw cI zn1 120 zk1, fb_aw cI zn3 120 zk7, fb_o7 zst zb0 zb1 zb3 zb4 zb5 z7, fb_mw cI zq zs9 zw] : List va_W).flatten) sz) (fun (_ : fb_AR) => True) (fun (t : fb_AR) => ([fb_o11 zb zr0 zn zr2 zr3 zp (zq 0) zr6 zr7 zst zr9, fb_o4 zp zp0 zp1 zp2 zp3 zp4 zp5 zp6 zp7 zp9 z4, fb_aw cI zp4 11008 zk4, fb_aw cI zp5 11008 zk5, fb_aw cI zp6 11008 zk5, fb_o3 zn zn0 zn1 zn3 (upd z3 4 (z3 2)), fb_aw cI zn1 120 zk1, fb_aw cI zn3 120 zk1, fb_o7 zst zb0 zb1 zb3 zb4 zb5 (upd (upd (upd z7 2 (0 : Int32)) 6 (0 : Int32)) 7 (0 : Int32)), fb_mw cI zq (f_X2_restart (fb_sM zs9 zk4)) t] : List va_W).flatten)) 0 0 (va_A (([fb_o11 zb zr0 zn zr2 zr3 zp (zq 0) zr6 zr7 zst zr9, fb_o4 zp zp0 zp1 zp2 zp3 zp4 zp5 zp6 zp7 zp9 z4, fb_aw cI zp4 11008 zk4, fb_aw cI zp5 11008 zk5, fb_aw cI zp6 11008 zk6, fb_o3 zn zn0 zn1 zn3 z3, fb_aw cI zn1 120 zk1, fb_aw cI zn3 120 zk7, fb_o7 zst zb0 zb1 zb3 zb4 zb5 z7, fb_mw cI zq zs9 zw] : List va_W).flatten) sz) := by
  refine fb_ent (Qf := fun A => (fb_QV D A (fun (_ : fb_AR) => True) (fun (t : fb_AR) => ([fb_o11 zb zr0 zn zr2 zr3 zp (zq 0) zr6 zr7 zst zr9, fb_o4 zp zp0 zp1 zp2 zp3 zp4 zp5 zp6 zp7 zp9 z4, fb_aw cI zp4 11008 zk4, fb_aw cI zp5 11008 zk5, fb_aw cI zp6 11008 zk5, fb_o3 zn zn0 zn1 zn3 (upd z3 4 (z3 2)), fb_aw cI zn1 120 zk1, fb_aw cI zn3 120 zk1, fb_o7 zst zb0 zb1 zb3 zb4 zb5 (upd (upd (upd z7 2 (0 : Int32)) 6 (0 : Int32)) 7 (0 : Int32)), fb_mw cI zq (f_X2_restart (fb_sM zs9 zk4)) t] : List va_W).flatten))) (by decide +kernel) (Nat.le_of_ble_eq_true rfl) ?_
  intro p e s m args below meth c A ls X I hl hin
  obtain ⟨hx, hb, hr, hml, hown, hts, hlk, hA, hK, hF⟩ := id X
  have hl : lv_has ls 1 [(0, .ref zb)] := hl
  refine lv_aload_n hx hb dX11_takeOver_0 rfl (lv_at hl 0 rfl) ?_
  refine fb_get X I (k := 4) (v := .ref zp) fu_X11 0 rfl rfl (Nat.le_of_ble_eq_true rfl) fw_691 rfl rfl dX11_takeOver_1 ?_
  refine fb_gV (cs := [fb_o4 zp zp0 zp1 zp2 zp3 zp4 zp5 zp6 zp7 zp9 z4, fb_aw cI zp5 11008 zk5, fb_aw cI zp6 11008 zk6]) (rs := [fb_o11 zb zr0 zn zr2 zr3 zp (zq 0) zr6 zr7 zst zr9, fb_aw cI zp4 11008 zk4, fb_o3 zn zn0 zn1 zn3 z3, fb_aw cI zn1 120 zk1, fb_aw cI zn3 120 zk7, fb_o7 zst zb0 zb1 zb3 zb4 zb5 z7, fb_mw cI zq zs9 zw]) (fun (t : Unit) => [fb_o11 zb zr0 zn zr2 zr3 zp (zq 0) zr6 zr7 zst zr9, fb_o4 zp zp0 zp1 zp2 zp3 zp4 zp5 zp6 zp7 zp9 z4, fb_aw cI zp4 11008 zk4, fb_aw cI zp5 11008 zk5, fb_aw cI zp6 11008 zk5, fb_o3 zn zn0 zn1 zn3 z3, fb_aw cI zn1 120 zk1, fb_aw cI zn3 120 zk7, fb_o7 zst zb0 zb1 zb3 zb4 zb5 z7, fb_mw cI zq zs9 zw]) (fun (t : Unit) => [fb_o4 zp zp0 zp1 zp2 zp3 zp4 zp5 zp6 zp7 zp9 z4, fb_aw cI zp5 11008 zk5, fb_aw cI zp6 11008 zk5]) X I [1, 3, 4, 0, 2, 5, 6, 7, 8, 9] 10 rfl (by decide +kernel) rfl rfl [1, 3, 4, 0, 2, 5, 6, 7, 8, 9] 10 (fun _ => rfl) (by decide +kernel) (fun _ => rfl) (fun _ => rfl) (fun I => fb_rV (As := []) (rest := []) X hl (fb_goodV fw_1125 fw_1126 fw_1127 fw_197 fw_1128) (c_keepLines0 l D cI cJ zp zp0 zp1 zp2 zp3 zp4 zp5 zp6 zp7 zp9 z4 zk5 zk6 _ ) rfl rfl rfl (by decide +kernel : fb_hd yX4_keepLines 0) ⟨Nat.le_of_ble_eq_true rfl, Nat.le_of_ble_eq_true rfl⟩ rfl rfl rfl rfl rfl (Nat.le_of_ble_eq_true rfl) ⟨Nat.zero_le _, Nat.zero_le _⟩ dX11_takeOver_4 I) ?_
  intro w1 H locs _ I
  have I : fb_In D A s.heap (([fb_o11 zb zr0 zn zr2 zr3 zp (zq 0) zr6 zr7 zst zr9, fb_o4 zp zp0 zp1 zp2 zp3 zp4 zp5 zp6 zp7 zp9 z4, fb_aw cI zp4 11008 zk4, fb_aw cI zp5 11008 zk5, fb_aw cI zp6 11008 zk5, fb_o3 zn zn0 zn1 zn3 z3, fb_aw cI zn1 120 zk1, fb_aw cI zn3 120 zk7, fb_o7 zst zb0 zb1 zb3 zb4 zb5 z7, fb_mw cI zq zs9 zw] : List va_W).flatten) H locs := I
  refine lv_aload_n hx hb dX11_takeOver_7 rfl (lv_at hl 0 rfl) ?_
  refine fb_get X I (k := 1) (v := .ref zn) fu_X11 0 rfl rfl (Nat.le_of_ble_eq_true rfl) fw_688 rfl rfl dX11_takeOver_8 ?_
  refine fb_gV (cs := [fb_o3 zn zn0 zn1 zn3 z3, fb_aw cI zn1 120 zk1, fb_aw cI zn3 120 zk7]) (rs := [fb_o11 zb zr0 zn zr2 zr3 zp (zq 0) zr6 zr7 zst zr9, fb_o4 zp zp0 zp1 zp2 zp3 zp4 zp5 zp6 zp7 zp9 z4, fb_aw cI zp4 11008 zk4, fb_aw cI zp5 11008 zk5, fb_aw cI zp6 11008 zk5, fb_o7 zst zb0 zb1 zb3 zb4 zb5 z7, fb_mw cI zq zs9 zw]) (fun (t : Unit) => [fb_o11 zb zr0 zn zr2 zr3 zp (zq 0) zr6 zr7 zst zr9, fb_o4 zp zp0 zp1 zp2 zp3 zp4 zp5 zp6 zp7 zp9 z4, fb_aw cI zp4 11008 zk4, fb_aw cI zp5 11008 zk5, fb_aw cI zp6 11008 zk5, fb_o3 zn zn0 zn1 zn3 (upd z3 4 (z3 2)), fb_aw cI zn1 120 zk1, fb_aw cI zn3 120 zk1, fb_o7 zst zb0 zb1 zb3 zb4 zb5 z7, fb_mw cI zq zs9 zw]) (fun (t : Unit) => [fb_o3 zn zn0 zn1 zn3 (upd z3 4 (z3 2)), fb_aw cI zn1 120 zk1, fb_aw cI zn3 120 zk1]) X I [5, 6, 7, 0, 1, 2, 3, 4, 8, 9] 10 rfl (by decide +kernel) rfl rfl [5, 6, 7, 0, 1, 2, 3, 4, 8, 9] 10 (fun _ => rfl) (by decide +kernel) (fun _ => rfl) (fun _ => rfl) (fun I => fb_rV (As := []) (rest := []) X hl (fb_goodV fw_1132 fw_1133 fw_1134 fw_193 fw_1135) (c_keep0 l D cI cJ zn zn0 zn1 zn3 z3 zk1 zk7 _ ) rfl rfl rfl (by decide +kernel : fb_hd yX3_keep 0) ⟨Nat.le_of_ble_eq_true rfl, Nat.le_of_ble_eq_true rfl⟩ rfl rfl rfl rfl rfl (Nat.le_of_ble_eq_true rfl) ⟨Nat.zero_le _, Nat.zero_le _⟩ dX11_takeOver_11 I) ?_
  intro w2 H locs _ I
  have I : fb_In D A s.heap (([fb_o11 zb zr0 zn zr2 zr3 zp (zq 0) zr6 zr7 zst zr9, fb_o4 zp zp0 zp1 zp2 zp3 zp4 zp5 zp6 zp7 zp9 z4, fb_aw cI zp4 11008 zk4, fb_aw cI zp5 11008 zk5, fb_aw cI zp6 11008 zk5, fb_o3 zn zn0 zn1 zn3 (upd z3 4 (z3 2)), fb_aw cI zn1 120 zk1, fb_aw cI zn3 120 zk1, fb_o7 zst zb0 zb1 zb3 zb4 zb5 z7, fb_mw cI zq zs9 zw] : List va_W).flatten) H locs := I
  refine lv_aload_n hx hb dX11_takeOver_14 rfl (lv_at hl 0 rfl) ?_
  refine fb_get X I (k := 4) (v := .ref zp) fu_X11 0 rfl rfl (Nat.le_of_ble_eq_true rfl) fw_691 rfl rfl dX11_takeOver_15 ?_
  refine fb_get X I (k := 4) (v := .ref zp4) fu_X4 1 rfl rfl (Nat.le_of_ble_eq_true rfl) fw_403 rfl rfl dX11_takeOver_18 ?_
  refine lv_iconst (v := (0 : Int32)) hx hb dX11_takeOver_21 (by decide) ?_
  refine lv_aload_n hx hb dX11_takeOver_22 rfl (lv_at hl 0 rfl) ?_
  refine fb_get X I (k := 5) (v := .ref (zq 0)) fu_X11 0 rfl rfl (Nat.le_of_ble_eq_true rfl) fw_692 rfl rfl dX11_takeOver_23 ?_
  refine fb_get X I (k := 0) (v := .ref (zq 1)) fu_X2 9 rfl rfl (Nat.le_of_ble_eq_true rfl) fw_515 rfl rfl dX11_takeOver_26 ?_
  refine lv_iconst (v := (0 : Int32)) hx hb dX11_takeOver_29 (by decide) ?_
  refine lv_sipush (v := (11008 : Int32)) hx hb dX11_takeOver_30 (by decide) ?_
  refine fb_copyA (wn := ([fb_o11 zb zr0 zn zr2 zr3 zp (zq 0) zr6 zr7 zst zr9, fb_o4 zp zp0 zp1 zp2 zp3 zp4 zp5 zp6 zp7 zp9 z4, fb_aw cI zp4 11008 zk4, fb_aw cI zp5 11008 zk5, fb_aw cI zp6 11008 zk5, fb_o3 zn zn0 zn1 zn3 (upd z3 4 (z3 2)), fb_aw cI zn1 120 zk1, fb_aw cI zn3 120 zk1, fb_o7 zst zb0 zb1 zb3 zb4 zb5 z7, fb_mw cI zq (fb_sM zs9 zk4) zw] : List va_W).flatten) X I hl fw_1137 fw_1131 fw_1130 fw_216 2 10 0 0 rfl rfl rfl rfl (by decide) rfl (Nat.le_of_ble_eq_true rfl) (Nat.le_of_ble_eq_true rfl) dX11_takeOver_33 (fun H locs I => ?_)
  refine lv_aload_n hx hb dX11_takeOver_36 rfl (lv_at hl 0 rfl) ?_
  refine fb_get X I (k := 8) (v := .ref zst) fu_X11 0 rfl rfl (Nat.le_of_ble_eq_true rfl) fw_695 rfl rfl dX11_takeOver_37 ?_
  refine fb_gV (cs := [fb_o7 zst zb0 zb1 zb3 zb4 zb5 z7]) (rs := [fb_o11 zb zr0 zn zr2 zr3 zp (zq 0) zr6 zr7 zst zr9, fb_o4 zp zp0 zp1 zp2 zp3 zp4 zp5 zp6 zp7 zp9 z4, fb_aw cI zp4 11008 zk4, fb_aw cI zp5 11008 zk5, fb_aw cI zp6 11008 zk5, fb_o3 zn zn0 zn1 zn3 (upd z3 4 (z3 2)), fb_aw cI zn1 120 zk1, fb_aw cI zn3 120 zk1, fb_mw cI zq (fb_sM zs9 zk4) zw]) (fun (t : Unit) => [fb_o11 zb zr0 zn zr2 zr3 zp (zq 0) zr6 zr7 zst zr9, fb_o4 zp zp0 zp1 zp2 zp3 zp4 zp5 zp6 zp7 zp9 z4, fb_aw cI zp4 11008 zk4, fb_aw cI zp5 11008 zk5, fb_aw cI zp6 11008 zk5, fb_o3 zn zn0 zn1 zn3 (upd z3 4 (z3 2)), fb_aw cI zn1 120 zk1, fb_aw cI zn3 120 zk1, fb_o7 zst zb0 zb1 zb3 zb4 zb5 (upd (upd (upd z7 2 (0 : Int32)) 6 (0 : Int32)) 7 (0 : Int32)), fb_mw cI zq (fb_sM zs9 zk4) zw]) (fun (t : Unit) => [fb_o7 zst zb0 zb1 zb3 zb4 zb5 (upd (upd (upd z7 2 (0 : Int32)) 6 (0 : Int32)) 7 (0 : Int32))]) X I [8, 0, 1, 2, 3, 4, 5, 6, 7, 9] 10 rfl (by decide +kernel) rfl rfl [8, 0, 1, 2, 3, 4, 5, 6, 7, 9] 10 (fun _ => rfl) (by decide +kernel) (fun _ => rfl) (fun _ => rfl) (fun I => fb_rV (As := []) (rest := []) X hl (fb_goodV fw_1138 fw_1139 fw_1140 fw_201 fw_1141) (c_forget7 l D cI cJ zst zb0 zb1 zb3 zb4 zb5 z7 _ ) rfl rfl rfl (by decide +kernel : fb_hd yX7_forget 0) ⟨Nat.le_of_ble_eq_true rfl, Nat.le_of_ble_eq_true rfl⟩ rfl rfl rfl rfl rfl (Nat.le_of_ble_eq_true rfl) ⟨Nat.zero_le _, Nat.zero_le _⟩ dX11_takeOver_40 I) ?_
  intro w3 H locs _ I
  have I : fb_In D A s.heap (([fb_o11 zb zr0 zn zr2 zr3 zp (zq 0) zr6 zr7 zst zr9, fb_o4 zp zp0 zp1 zp2 zp3 zp4 zp5 zp6 zp7 zp9 z4, fb_aw cI zp4 11008 zk4, fb_aw cI zp5 11008 zk5, fb_aw cI zp6 11008 zk5, fb_o3 zn zn0 zn1 zn3 (upd z3 4 (z3 2)), fb_aw cI zn1 120 zk1, fb_aw cI zn3 120 zk1, fb_o7 zst zb0 zb1 zb3 zb4 zb5 (upd (upd (upd z7 2 (0 : Int32)) 6 (0 : Int32)) 7 (0 : Int32)), fb_mw cI zq (fb_sM zs9 zk4) zw] : List va_W).flatten) H locs := I
  refine lv_aload_n hx hb dX11_takeOver_43 rfl (lv_at hl 0 rfl) ?_
  refine fb_get X I (k := 5) (v := .ref (zq 0)) fu_X11 0 rfl rfl (Nat.le_of_ble_eq_true rfl) fw_692 rfl rfl dX11_takeOver_44 ?_
  refine fb_gV (cs := [fb_mw cI zq (fb_sM zs9 zk4) zw]) (rs := [fb_o11 zb zr0 zn zr2 zr3 zp (zq 0) zr6 zr7 zst zr9, fb_o4 zp zp0 zp1 zp2 zp3 zp4 zp5 zp6 zp7 zp9 z4, fb_aw cI zp4 11008 zk4, fb_aw cI zp5 11008 zk5, fb_aw cI zp6 11008 zk5, fb_o3 zn zn0 zn1 zn3 (upd z3 4 (z3 2)), fb_aw cI zn1 120 zk1, fb_aw cI zn3 120 zk1, fb_o7 zst zb0 zb1 zb3 zb4 zb5 (upd (upd (upd z7 2 (0 : Int32)) 6 (0 : Int32)) 7 (0 : Int32))]) (fun (t : fb_AR) => [fb_o11 zb zr0 zn zr2 zr3 zp (zq 0) zr6 zr7 zst zr9, fb_o4 zp zp0 zp1 zp2 zp3 zp4 zp5 zp6 zp7 zp9 z4, fb_aw cI zp4 11008 zk4, fb_aw cI zp5 11008 zk5, fb_aw cI zp6 11008 zk5, fb_o3 zn zn0 zn1 zn3 (upd z3 4 (z3 2)), fb_aw cI zn1 120 zk1, fb_aw cI zn3 120 zk1, fb_o7 zst zb0 zb1 zb3 zb4 zb5 (upd (upd (upd z7 2 (0 : Int32)) 6 (0 : Int32)) 7 (0 : Int32)), fb_mw cI zq (f_X2_restart (fb_sM zs9 zk4)) t]) (fun (t : fb_AR) => [fb_mw cI zq (f_X2_restart (fb_sM zs9 zk4)) t]) X I [9, 0, 1, 2, 3, 4, 5, 6, 7, 8] 10 rfl (by decide +kernel) rfl rfl [9, 0, 1, 2, 3, 4, 5, 6, 7, 8] 10 (fun _ => rfl) (by decide +kernel) (fun _ => rfl) (fun _ => rfl) (fun I => fb_rV (As := []) (rest := []) X hl (fb_goodV fw_669 fw_670 fw_671 fw_198 fw_672) (c_restart0 l D cI cJ zq (fb_sM zs9 zk4) zw _ ) rfl rfl rfl (by decide +kernel : fb_hd yX2_restart 0) ⟨Nat.le_of_ble_eq_true rfl, Nat.le_of_ble_eq_true rfl⟩ rfl rfl rfl rfl rfl (Nat.le_of_ble_eq_true rfl) ⟨Nat.zero_le _, Nat.zero_le _⟩ dX11_takeOver_47 I) ?_
  intro w4 H locs _ I
  have I : fb_In D A s.heap (([fb_o11 zb zr0 zn zr2 zr3 zp (zq 0) zr6 zr7 zst zr9, fb_o4 zp zp0 zp1 zp2 zp3 zp4 zp5 zp6 zp7 zp9 z4, fb_aw cI zp4 11008 zk4, fb_aw cI zp5 11008 zk5, fb_aw cI zp6 11008 zk5, fb_o3 zn zn0 zn1 zn3 (upd z3 4 (z3 2)), fb_aw cI zn1 120 zk1, fb_aw cI zn3 120 zk1, fb_o7 zst zb0 zb1 zb3 zb4 zb5 (upd (upd (upd z7 2 (0 : Int32)) 6 (0 : Int32)) 7 (0 : Int32)), fb_mw cI zq (f_X2_restart (fb_sM zs9 zk4)) w4] : List va_W).flatten) H locs := I
  exact fb_retV (u := (w4)) X I trivial dX11_takeOver_50

set_option maxHeartbeats 4000000 in
set_option maxRecDepth 100000 in
theorem c_assemble0 (l : Launch) (D : va_G) (cI cJ : ClassId) (zb : Nat) (zr2 : Nat) (zr6 : Nat) (zr9 : Nat) (zt : Nat) (zt0 : Nat) (zt2 : Nat) (zt3 : Nat) (zt4 : Nat) (z9 : fb_AR) (zk2 : fb_AR) (zk3 : fb_AR) (zg4 : Nat → Int64) (zp : Nat) (zp1 : Nat) (zp2 : Nat) (zp4 : Nat) (zp5 : Nat) (zp6 : Nat) (zp7 : Nat) (zp9 : Nat) (z4 : fb_AR) (zk4 : fb_AR) (zk5 : fb_AR) (zk6 : fb_AR) (zn : Nat) (zn0 : Nat) (zn1 : Nat) (zn3 : Nat) (z3 : fb_AR) (zk1 : fb_AR) (zk7 : fb_AR) (zst : Nat) (zb0 : Nat) (zb1 : Nat) (zb3 : Nat) (zb4 : Nat) (zb5 : Nat) (z7 : fb_AR) (zq : Nat → Nat) (zs9 : fb_MS) (zw : fb_AR) (zv : Nat) (zv1 : Nat) (zz : fb_AR) (zs : Nat) (zs2 : Nat) (zs3 : Nat) (z8 : fb_AR) (zl : Nat → Nat) (z1 : fb_AR) (zh : Nat) (zh0 : Nat) (zh1 : Nat) (z0 : fb_AR) (sz : Nat) (z9k1 : z9 1 = (0 : Int32)) : Met l yX11_assemble (Cond.code yX11_assemble cX11_assemble 2 (some .int) :: fb_all) ({ frames := 5, cells := 0, slots := 0, locals := 117 } : Room) (fb_PP D (fb_ty D cI cJ) [.ref zb] (([fb_o11 zb zt zn zr2 zs zp (zq 0) zr6 zh zst zr9, fb_o9 zt zt0 zt2 zt3 zt4 z9, fb_aw cI zt2 2001 zk2, fb_aw cI zt3 2001 zk3, fb_jw cJ zt4 2001 zg4, fb_o4 zp zt zp1 zp2 zs zp4 zp5 zp6 zp7 zp9 z4, fb_aw cI zp4 11008 zk4, fb_aw cI zp5 11008 zk5, fb_aw cI zp6 11008 zk6, fb_o3 zn zn0 zn1 zn3 z3, fb_aw cI zn1 120 zk1, fb_aw cI zn3 120 zk7, fb_o7 zst zb0 zb1 zb3 zb4 zb5 z7, fb_mw cI zq zs9 zw, fb_o10 zv zt zv1 zz, fb_o8 zs zt zv zs2 zs3 z8, fb_qw (D.1 23) zs2 120 zl, fb_o1 (zl 0)  z1, fb_o0 zh zh0 zh1 z0] : List va_W).flatten) sz) (fb_QI D (va_A (([fb_o11 zb zt zn zr2 zs zp (zq 0) zr6 zh zst zr9, fb_o9 zt zt0 zt2 zt3 zt4 z9, fb_aw cI zt2 2001 zk2, fb_aw cI zt3 2001 zk3, fb_jw cJ zt4 2001 zg4, fb_o4 zp zt zp1 zp2 zs zp4 zp5 zp6 zp7 zp9 z4, fb_aw cI zp4 11008 zk4, fb_aw cI zp5 11008 zk5, fb_aw cI zp6 11008 zk6, fb_o3 zn zn0 zn1 zn3 z3, fb_aw cI zn1 120 zk1, fb_aw cI zn3 120 zk7, fb_o7 zst zb0 zb1 zb3 zb4 zb5 z7, fb_mw cI zq zs9 zw, fb_o10 zv zt zv1 zz, fb_o8 zs zt zv zs2 zs3 z8, fb_qw (D.1 23) zs2 120 zl, fb_o1 (zl 0)  z1, fb_o0 zh zh0 zh1 z0] : List va_W).flatten) sz) (fun (r : Int32) (_ : fb_AR × Nat × Nat × Nat) => r = (0 : Int32)) (fun (t : fb_AR × Nat × Nat × Nat) => ([fb_o11 zb zt zn zr2 zs zp (zq 0) zr6 zh zst zr9, fb_o9 zt zt0 zt2 zt3 zt4 (upd (upd (upd z9 5 (0 : Int32)) 5 (1 : Int32)) 1 (0 : Int32)), fb_aw cI zt2 2001 (upd zk2 0 (10 : Int32)), fb_aw cI zt3 2001 (upd zk3 0 (0 : Int32)), fb_jw cJ zt4 2001 (vp_updL zg4 0 (0 : Int64)), fb_o4 zp zt zp1 zp2 zs zp4 zp5 zp6 zp7 zp9 (upd (upd (upd (upd (upd z4 13 (0 : Int32)) 14 (-1 : Int32)) 10 (0 : Int32)) 11 (3072 : Int32)) 12 (0 : Int32)), fb_aw cI zp4 11008 (f_J7_fill_53178 11008 zk4 0), fb_aw cI zp5 11008 (f_J7_fill_53178 11008 zk5 0), fb_aw cI zp6 11008 (f_J7_fill_53178 11008 zk5 0), fb_o3 zn zn0 zn1 zn3 (upd (upd z3 2 (0 : Int32)) 4 ((upd z3 2 (0 : Int32)) 2)), fb_aw cI zn1 120 zk1, fb_aw cI zn3 120 zk1, fb_o7 zst zb0 zb1 zb3 zb4 zb5 (upd (upd (upd z7 2 (0 : Int32)) 6 (0 : Int32)) 7 (0 : Int32)), fb_mw cI zq (f_X2_restart (fb_sM zs9 (f_J7_fill_53178 11008 zk4 0))) (t.1), fb_o10 zv zt zv1 (upd (upd zz 2 (0 : Int32)) 2 (1 : Int32)), fb_o8 zs zt zv zs2 zs3 (upd (upd z8 4 (0 : Int32)) 4 (1 : Int32)), fb_qw (D.1 23) zs2 120 (va_up (va_up (va_up zl 0 (t.2.1)) 0 (t.2.2.1)) 0 (t.2.2.2)), fb_o1 (t.2.2.2)  (upd (upd (upd (upd (upd (upd (upd (upd (upd (upd (upd (upd z1 0 (-1 : Int32)) 1 (-1 : Int32)) 2 (-1 : Int32)) 3 (0 : Int32)) 4 (0 : Int32)) 5 (0 : Int32)) 6 (-1 : Int32)) 7 (0 : Int32)) 8 (0 : Int32)) 5 (0 : Int32)) 7 ((upd (upd (upd (upd (upd z4 13 (0 : Int32)) 14 (-1 : Int32)) 10 (0 : Int32)) 11 (3072 : Int32)) 12 (0 : Int32)) 11)) 8 ((upd (upd (upd (upd (upd z4 13 (0 : Int32)) 14 (-1 : Int32)) 10 (0 : Int32)) 11 (3072 : Int32)) 12 (0 : Int32)) 12)), fb_o0 zh zh0 zh1 (upd (upd (upd (upd z0 2 (-1 : Int32)) 3 (-1 : Int32)) 4 (0 : Int32)) 5 (0 : Int32))] : List va_W).flatten)) 0 0 (va_A (([fb_o11 zb zt zn zr2 zs zp (zq 0) zr6 zh zst zr9, fb_o9 zt zt0 zt2 zt3 zt4 z9, fb_aw cI zt2 2001 zk2, fb_aw cI zt3 2001 zk3, fb_jw cJ zt4 2001 zg4, fb_o4 zp zt zp1 zp2 zs zp4 zp5 zp6 zp7 zp9 z4, fb_aw cI zp4 11008 zk4, fb_aw cI zp5 11008 zk5, fb_aw cI zp6 11008 zk6, fb_o3 zn zn0 zn1 zn3 z3, fb_aw cI zn1 120 zk1, fb_aw cI zn3 120 zk7, fb_o7 zst zb0 zb1 zb3 zb4 zb5 z7, fb_mw cI zq zs9 zw, fb_o10 zv zt zv1 zz, fb_o8 zs zt zv zs2 zs3 z8, fb_qw (D.1 23) zs2 120 zl, fb_o1 (zl 0)  z1, fb_o0 zh zh0 zh1 z0] : List va_W).flatten) sz) := by
  refine fb_ent (Qf := fun A => (fb_QI D A (fun (r : Int32) (_ : fb_AR × Nat × Nat × Nat) => r = (0 : Int32)) (fun (t : fb_AR × Nat × Nat × Nat) => ([fb_o11 zb zt zn zr2 zs zp (zq 0) zr6 zh zst zr9, fb_o9 zt zt0 zt2 zt3 zt4 (upd (upd (upd z9 5 (0 : Int32)) 5 (1 : Int32)) 1 (0 : Int32)), fb_aw cI zt2 2001 (upd zk2 0 (10 : Int32)), fb_aw cI zt3 2001 (upd zk3 0 (0 : Int32)), fb_jw cJ zt4 2001 (vp_updL zg4 0 (0 : Int64)), fb_o4 zp zt zp1 zp2 zs zp4 zp5 zp6 zp7 zp9 (upd (upd (upd (upd (upd z4 13 (0 : Int32)) 14 (-1 : Int32)) 10 (0 : Int32)) 11 (3072 : Int32)) 12 (0 : Int32)), fb_aw cI zp4 11008 (f_J7_fill_53178 11008 zk4 0), fb_aw cI zp5 11008 (f_J7_fill_53178 11008 zk5 0), fb_aw cI zp6 11008 (f_J7_fill_53178 11008 zk5 0), fb_o3 zn zn0 zn1 zn3 (upd (upd z3 2 (0 : Int32)) 4 ((upd z3 2 (0 : Int32)) 2)), fb_aw cI zn1 120 zk1, fb_aw cI zn3 120 zk1, fb_o7 zst zb0 zb1 zb3 zb4 zb5 (upd (upd (upd z7 2 (0 : Int32)) 6 (0 : Int32)) 7 (0 : Int32)), fb_mw cI zq (f_X2_restart (fb_sM zs9 (f_J7_fill_53178 11008 zk4 0))) (t.1), fb_o10 zv zt zv1 (upd (upd zz 2 (0 : Int32)) 2 (1 : Int32)), fb_o8 zs zt zv zs2 zs3 (upd (upd z8 4 (0 : Int32)) 4 (1 : Int32)), fb_qw (D.1 23) zs2 120 (va_up (va_up (va_up zl 0 (t.2.1)) 0 (t.2.2.1)) 0 (t.2.2.2)), fb_o1 (t.2.2.2)  (upd (upd (upd (upd (upd (upd (upd (upd (upd (upd (upd (upd z1 0 (-1 : Int32)) 1 (-1 : Int32)) 2 (-1 : Int32)) 3 (0 : Int32)) 4 (0 : Int32)) 5 (0 : Int32)) 6 (-1 : Int32)) 7 (0 : Int32)) 8 (0 : Int32)) 5 (0 : Int32)) 7 ((upd (upd (upd (upd (upd z4 13 (0 : Int32)) 14 (-1 : Int32)) 10 (0 : Int32)) 11 (3072 : Int32)) 12 (0 : Int32)) 11)) 8 ((upd (upd (upd (upd (upd z4 13 (0 : Int32)) 14 (-1 : Int32)) 10 (0 : Int32)) 11 (3072 : Int32)) 12 (0 : Int32)) 12)), fb_o0 zh zh0 zh1 (upd (upd (upd (upd z0 2 (-1 : Int32)) 3 (-1 : Int32)) 4 (0 : Int32)) 5 (0 : Int32))] : List va_W).flatten))) (by decide +kernel) (Nat.le_of_ble_eq_true rfl) ?_
  intro p e s m args below meth c A ls X I hl hin
  obtain ⟨hx, hb, hr, hml, hown, hts, hlk, hA, hK, hF⟩ := id X
  have hl : lv_has ls 2 [(0, .ref zb)] := hl
  refine lv_aload_n hx hb dX11_assemble_0 rfl (lv_at hl 0 rfl) ?_
  refine fb_get X I (k := 0) (v := .ref zt) fu_X11 0 rfl rfl (Nat.le_of_ble_eq_true rfl) fw_687 rfl rfl dX11_assemble_1 ?_
  refine fb_gV (cs := [fb_o9 zt zt0 zt2 zt3 zt4 z9, fb_aw cI zt2 2001 zk2, fb_aw cI zt3 2001 zk3, fb_jw cJ zt4 2001 zg4]) (rs := [fb_o11 zb zt zn zr2 zs zp (zq 0) zr6 zh zst zr9, fb_o4 zp zt zp1 zp2 zs zp4 zp5 zp6 zp7 zp9 z4, fb_aw cI zp4 11008 zk4, fb_aw cI zp5 11008 zk5, fb_aw cI zp6 11008 zk6, fb_o3 zn zn0 zn1 zn3 z3, fb_aw cI zn1 120 zk1, fb_aw cI zn3 120 zk7, fb_o7 zst zb0 zb1 zb3 zb4 zb5 z7, fb_mw cI zq zs9 zw, fb_o10 zv zt zv1 zz, fb_o8 zs zt zv zs2 zs3 z8, fb_qw (D.1 23) zs2 120 zl, fb_o1 (zl 0)  z1, fb_o0 zh zh0 zh1 z0]) (fun (t : Unit) => [fb_o11 zb zt zn zr2 zs zp (zq 0) zr6 zh zst zr9, fb_o9 zt zt0 zt2 zt3 zt4 (upd (upd z9 5 (0 : Int32)) 5 (1 : Int32)), fb_aw cI zt2 2001 (upd zk2 0 (10 : Int32)), fb_aw cI zt3 2001 (upd zk3 0 (0 : Int32)), fb_jw cJ zt4 2001 (vp_updL zg4 0 (0 : Int64)), fb_o4 zp zt zp1 zp2 zs zp4 zp5 zp6 zp7 zp9 z4, fb_aw cI zp4 11008 zk4, fb_aw cI zp5 11008 zk5, fb_aw cI zp6 11008 zk6, fb_o3 zn zn0 zn1 zn3 z3, fb_aw cI zn1 120 zk1, fb_aw cI zn3 120 zk7, fb_o7 zst zb0 zb1 zb3 zb4 zb5 z7, fb_mw cI zq zs9 zw, fb_o10 zv zt zv1 zz, fb_o8 zs zt zv zs2 zs3 z8, fb_qw (D.1 23) zs2 120 zl, fb_o1 (zl 0)  z1, fb_o0 zh zh0 zh1 z0]) (fun (t : Unit) => [fb_o9 zt zt0 zt2 zt3 zt4 (upd (upd z9 5 (0 : Int32)) 5 (1 : Int32)), fb_aw cI zt2 2001 (upd zk2 0 (10 : Int32)), fb_aw cI zt3 2001 (upd zk3 0 (0 : Int32)), fb_jw cJ zt4 2001 (vp_updL zg4 0 (0 : Int64))]) X I [1, 2, 3, 4, 0, 5, 6, 7, 8, 9, 10, 11, 12, 13, 14, 15, 16, 17, 18] 19 rfl (by decide +kernel) rfl rfl [1, 2, 3, 4, 0, 5, 6, 7, 8, 9, 10, 11, 12, 13, 14, 15, 16, 17, 18] 19 (fun _ => rfl) (by decide +kernel) (fun _ => rfl) (fun _ => rfl) (fun I => fb_rV (As := []) (rest := []) X hl (fb_goodV fw_722 fw_723 fw_724 fw_192 fw_725) (c_split0 l D cI cJ zt zt0 zt2 zt3 zt4 z9 zk2 zk3 zg4 _ z9k1) rfl rfl rfl (by decide +kernel : fb_hd yX9_split 0) ⟨Nat.le_of_ble_eq_true rfl, Nat.le_of_ble_eq_true rfl⟩ rfl rfl rfl rfl rfl (Nat.le_of_ble_eq_true rfl) ⟨Nat.zero_le _, Nat.zero_le _⟩ dX11_assemble_4 I) ?_
  intro w1 H locs _ I
  have I : fb_In D A s.heap (([fb_o11 zb zt zn zr2 zs zp (zq 0) zr6 zh zst zr9, fb_o9 zt zt0 zt2 zt3 zt4 (upd (upd z9 5 (0 : Int32)) 5 (1 : Int32)), fb_aw cI zt2 2001 (upd zk2 0 (10 : Int32)), fb_aw cI zt3 2001 (upd zk3 0 (0 : Int32)), fb_jw cJ zt4 2001 (vp_updL zg4 0 (0 : Int64)), fb_o4 zp zt zp1 zp2 zs zp4 zp5 zp6 zp7 zp9 z4, fb_aw cI zp4 11008 zk4, fb_aw cI zp5 11008 zk5, fb_aw cI zp6 11008 zk6, fb_o3 zn zn0 zn1 zn3 z3, fb_aw cI zn1 120 zk1, fb_aw cI zn3 120 zk7, fb_o7 zst zb0 zb1 zb3 zb4 zb5 z7, fb_mw cI zq zs9 zw, fb_o10 zv zt zv1 zz, fb_o8 zs zt zv zs2 zs3 z8, fb_qw (D.1 23) zs2 120 zl, fb_o1 (zl 0)  z1, fb_o0 zh zh0 zh1 z0] : List va_W).flatten) H locs := I
  refine lv_aload_n hx hb dX11_assemble_7 rfl (lv_at hl 0 rfl) ?_
  refine fb_get X I (k := 1) (v := .ref zn) fu_X11 0 rfl rfl (Nat.le_of_ble_eq_true rfl) fw_688 rfl rfl dX11_assemble_8 ?_
  refine fb_gV (cs := [fb_o3 zn zn0 zn1 zn3 z3]) (rs := [fb_o11 zb zt zn zr2 zs zp (zq 0) zr6 zh zst zr9, fb_o9 zt zt0 zt2 zt3 zt4 (upd (upd z9 5 (0 : Int32)) 5 (1 : Int32)), fb_aw cI zt2 2001 (upd zk2 0 (10 : Int32)), fb_aw cI zt3 2001 (upd zk3 0 (0 : Int32)), fb_jw cJ zt4 2001 (vp_updL zg4 0 (0 : Int64)), fb_o4 zp zt zp1 zp2 zs zp4 zp5 zp6 zp7 zp9 z4, fb_aw cI zp4 11008 zk4, fb_aw cI zp5 11008 zk5, fb_aw cI zp6 11008 zk6, fb_aw cI zn1 120 zk1, fb_aw cI zn3 120 zk7, fb_o7 zst zb0 zb1 zb3 zb4 zb5 z7, fb_mw cI zq zs9 zw, fb_o10 zv zt zv1 zz, fb_o8 zs zt zv zs2 zs3 z8, fb_qw (D.1 23) zs2 120 zl, fb_o1 (zl 0)  z1, fb_o0 zh zh0 zh1 z0]) (fun (t : Unit) => [fb_o11 zb zt zn zr2 zs zp (zq 0) zr6 zh zst zr9, fb_o9 zt zt0 zt2 zt3 zt4 (upd (upd z9 5 (0 : Int32)) 5 (1 : Int32)), fb_aw cI zt2 2001 (upd zk2 0 (10 : Int32)), fb_aw cI zt3 2001 (upd zk3 0 (0 : Int32)), fb_jw cJ zt4 2001 (vp_updL zg4 0 (0 : Int64)), fb_o4 zp zt zp1 zp2 zs zp4 zp5 zp6 zp7 zp9 z4, fb_aw cI zp4 11008 zk4, fb_aw cI zp5 11008 zk5, fb_aw cI zp6 11008 zk6, fb_o3 zn zn0 zn1 zn3 (upd z3 2 (0 : Int32)), fb_aw cI zn1 120 zk1, fb_aw cI zn3 120 zk7, fb_o7 zst zb0 zb1 zb3 zb4 zb5 z7, fb_mw cI zq zs9 zw, fb_o10 zv zt zv1 zz, fb_o8 zs zt zv zs2 zs3 z8, fb_qw (D.1 23) zs2 120 zl, fb_o1 (zl 0)  z1, fb_o0 zh zh0 zh1 z0]) (fun (t : Unit) => [fb_o3 zn zn0 zn1 zn3 (upd z3 2 (0 : Int32))]) X I [9, 0, 1, 2, 3, 4, 5, 6, 7, 8, 10, 11, 12, 13, 14, 15, 16, 17, 18] 19 rfl (by decide +kernel) rfl rfl [9, 0, 1, 2, 3, 4, 5, 6, 7, 8, 10, 11, 12, 13, 14, 15, 16, 17, 18] 19 (fun _ => rfl) (by decide +kernel) (fun _ => rfl) (fun _ => rfl) (fun I => fb_rV (As := []) (rest := []) X hl (fb_goodV fw_900 fw_901 fw_902 fw_193 fw_903) (c_begin3 l D cI cJ zn zn0 zn1 zn3 z3 _ ) rfl rfl rfl (by decide +kernel : fb_hd yX3_begin 0) ⟨Nat.le_of_ble_eq_true rfl, Nat.le_of_ble_eq_true rfl⟩ rfl rfl rfl rfl rfl (Nat.le_of_ble_eq_true rfl) ⟨Nat.zero_le _, Nat.zero_le _⟩ dX11_assemble_11 I) ?_
  intro w2 H locs _ I
  have I : fb_In D A s.heap (([fb_o11 zb zt zn zr2 zs zp (zq 0) zr6 zh zst zr9, fb_o9 zt zt0 zt2 zt3 zt4 (upd (upd z9 5 (0 : Int32)) 5 (1 : Int32)), fb_aw cI zt2 2001 (upd zk2 0 (10 : Int32)), fb_aw cI zt3 2001 (upd zk3 0 (0 : Int32)), fb_jw cJ zt4 2001 (vp_updL zg4 0 (0 : Int64)), fb_o4 zp zt zp1 zp2 zs zp4 zp5 zp6 zp7 zp9 z4, fb_aw cI zp4 11008 zk4, fb_aw cI zp5 11008 zk5, fb_aw cI zp6 11008 zk6, fb_o3 zn zn0 zn1 zn3 (upd z3 2 (0 : Int32)), fb_aw cI zn1 120 zk1, fb_aw cI zn3 120 zk7, fb_o7 zst zb0 zb1 zb3 zb4 zb5 z7, fb_mw cI zq zs9 zw, fb_o10 zv zt zv1 zz, fb_o8 zs zt zv zs2 zs3 z8, fb_qw (D.1 23) zs2 120 zl, fb_o1 (zl 0)  z1, fb_o0 zh zh0 zh1 z0] : List va_W).flatten) H locs := I
  refine lv_aload_n hx hb dX11_assemble_14 rfl (lv_at hl 0 rfl) ?_
  refine fb_get X I (k := 4) (v := .ref zp) fu_X11 0 rfl rfl (Nat.le_of_ble_eq_true rfl) fw_691 rfl rfl dX11_assemble_15 ?_
  refine fb_gV (cs := [fb_o4 zp zt zp1 zp2 zs zp4 zp5 zp6 zp7 zp9 z4]) (rs := [fb_o11 zb zt zn zr2 zs zp (zq 0) zr6 zh zst zr9, fb_o9 zt zt0 zt2 zt3 zt4 (upd (upd z9 5 (0 : Int32)) 5 (1 : Int32)), fb_aw cI zt2 2001 (upd zk2 0 (10 : Int32)), fb_aw cI zt3 2001 (upd zk3 0 (0 : Int32)), fb_jw cJ zt4 2001 (vp_updL zg4 0 (0 : Int64)), fb_aw cI zp4 11008 zk4, fb_aw cI zp5 11008 zk5, fb_aw cI zp6 11008 zk6, fb_o3 zn zn0 zn1 zn3 (upd z3 2 (0 : Int32)), fb_aw cI zn1 120 zk1, fb_aw cI zn3 120 zk7, fb_o7 zst zb0 zb1 zb3 zb4 zb5 z7, fb_mw cI zq zs9 zw, fb_o10 zv zt zv1 zz, fb_o8 zs zt zv zs2 zs3 z8, fb_qw (D.1 23) zs2 120 zl, fb_o1 (zl 0)  z1, fb_o0 zh zh0 zh1 z0]) (fun (t : Unit) => [fb_o11 zb zt zn zr2 zs zp (zq 0) zr6 zh zst zr9, fb_o9 zt zt0 zt2 zt3 zt4 (upd (upd z9 5 (0 : Int32)) 5 (1 : Int32)), fb_aw cI zt2 2001 (upd zk2 0 (10 : Int32)), fb_aw cI zt3 2001 (upd zk3 0 (0 : Int32)), fb_jw cJ zt4 2001 (vp_updL zg4 0 (0 : Int64)), fb_o4 zp zt zp1 zp2 zs zp4 zp5 zp6 zp7 zp9 (upd (upd (upd (upd (upd z4 13 (0 : Int32)) 14 (-1 : Int32)) 10 (0 : Int32)) 11 (3072 : Int32)) 12 (0 : Int32)), fb_aw cI zp4 11008 zk4, fb_aw cI zp5 11008 zk5, fb_aw cI zp6 11008 zk6, fb_o3 zn zn0 zn1 zn3 (upd z3 2 (0 : Int32)), fb_aw cI zn1 120 zk1, fb_aw cI zn3 120 zk7, fb_o7 zst zb0 zb1 zb3 zb4 zb5 z7, fb_mw cI zq zs9 zw, fb_o10 zv zt zv1 zz, fb_o8 zs zt zv zs2 zs3 z8, fb_qw (D.1 23) zs2 120 zl, fb_o1 (zl 0)  z1, fb_o0 zh zh0 zh1 z0]) (fun (t : Unit) => [fb_o4 zp zt zp1 zp2 zs zp4 zp5 zp6 zp7 zp9 (upd (upd (upd (upd (upd z4 13 (0 : Int32)) 14 (-1 : Int32)) 10 (0 : Int32)) 11 (3072 : Int32)) 12 (0 : Int32))]) X I [5, 0, 1, 2, 3, 4, 6, 7, 8, 9, 10, 11, 12, 13, 14, 15, 16, 17, 18] 19 rfl (by decide +kernel) rfl rfl [5, 0, 1, 2, 3, 4, 6, 7, 8, 9, 10, 11, 12, 13, 14, 15, 16, 17, 18] 19 (fun _ => rfl) (by decide +kernel) (fun _ => rfl) (fun _ => rfl) (fun I => fb_rV (As := []) (rest := []) X hl (fb_goodV fw_904 fw_905 fw_906 fw_197 fw_907) (c_begin4 l D cI cJ zp zt zp1 zp2 zs zp4 zp5 zp6 zp7 zp9 z4 _ ) rfl rfl rfl (by decide +kernel : fb_hd yX4_begin 0) ⟨Nat.le_of_ble_eq_true rfl, Nat.le_of_ble_eq_true rfl⟩ rfl rfl rfl rfl rfl (Nat.le_of_ble_eq_true rfl) ⟨Nat.zero_le _, Nat.zero_le _⟩ dX11_assemble_18 I) ?_
  intro w3 H locs _ I
  have I : fb_In D A s.heap (([fb_o11 zb zt zn zr2 zs zp (zq 0) zr6 zh zst zr9, fb_o9 zt zt0 zt2 zt3 zt4 (upd (upd z9 5 (0 : Int32)) 5 (1 : Int32)), fb_aw cI zt2 2001 (upd zk2 0 (10 : Int32)), fb_aw cI zt3 2001 (upd zk3 0 (0 : Int32)), fb_jw cJ zt4 2001 (vp_updL zg4 0 (0 : Int64)), fb_o4 zp zt zp1 zp2 zs zp4 zp5 zp6 zp7 zp9 (upd (upd (upd (upd (upd z4 13 (0 : Int32)) 14 (-1 : Int32)) 10 (0 : Int32)) 11 (3072 : Int32)) 12 (0 : Int32)), fb_aw cI zp4 11008 zk4, fb_aw cI zp5 11008 zk5, fb_aw cI zp6 11008 zk6, fb_o3 zn zn0 zn1 zn3 (upd z3 2 (0 : Int32)), fb_aw cI zn1 120 zk1, fb_aw cI zn3 120 zk7, fb_o7 zst zb0 zb1 zb3 zb4 zb5 z7, fb_mw cI zq zs9 zw, fb_o10 zv zt zv1 zz, fb_o8 zs zt zv zs2 zs3 z8, fb_qw (D.1 23) zs2 120 zl, fb_o1 (zl 0)  z1, fb_o0 zh zh0 zh1 z0] : List va_W).flatten) H locs := I
  refine lv_aload_n hx hb dX11_assemble_21 rfl (lv_at hl 0 rfl) ?_
  refine fb_get X I (k := 3) (v := .ref zs) fu_X11 0 rfl rfl (Nat.le_of_ble_eq_true rfl) fw_690 rfl rfl dX11_assemble_22 ?_
  refine fb_gI (cs := [fb_o8 zs zt zv zs2 zs3 z8, fb_qw (D.1 23) zs2 120 zl, fb_o1 (zl 0)  z1, fb_o10 zv zt zv1 zz, fb_o9 zt zt0 zt2 zt3 zt4 (upd (upd z9 5 (0 : Int32)) 5 (1 : Int32)), fb_aw cI zt2 2001 (upd zk2 0 (10 : Int32))]) (rs := [fb_o11 zb zt zn zr2 zs zp (zq 0) zr6 zh zst zr9, fb_aw cI zt3 2001 (upd zk3 0 (0 : Int32)), fb_jw cJ zt4 2001 (vp_updL zg4 0 (0 : Int64)), fb_o4 zp zt zp1 zp2 zs zp4 zp5 zp6 zp7 zp9 (upd (upd (upd (upd (upd z4 13 (0 : Int32)) 14 (-1 : Int32)) 10 (0 : Int32)) 11 (3072 : Int32)) 12 (0 : Int32)), fb_aw cI zp4 11008 zk4, fb_aw cI zp5 11008 zk5, fb_aw cI zp6 11008 zk6, fb_o3 zn zn0 zn1 zn3 (upd z3 2 (0 : Int32)), fb_aw cI zn1 120 zk1, fb_aw cI zn3 120 zk7, fb_o7 zst zb0 zb1 zb3 zb4 zb5 z7, fb_mw cI zq zs9 zw, fb_o0 zh zh0 zh1 z0]) (fun (t : Nat) => [fb_o11 zb zt zn zr2 zs zp (zq 0) zr6 zh zst zr9, fb_o9 zt zt0 zt2 zt3 zt4 (upd (upd z9 5 (0 : Int32)) 5 (1 : Int32)), fb_aw cI zt2 2001 (upd zk2 0 (10 : Int32)), fb_aw cI zt3 2001 (upd zk3 0 (0 : Int32)), fb_jw cJ zt4 2001 (vp_updL zg4 0 (0 : Int64)), fb_o4 zp zt zp1 zp2 zs zp4 zp5 zp6 zp7 zp9 (upd (upd (upd (upd (upd z4 13 (0 : Int32)) 14 (-1 : Int32)) 10 (0 : Int32)) 11 (3072 : Int32)) 12 (0 : Int32)), fb_aw cI zp4 11008 zk4, fb_aw cI zp5 11008 zk5, fb_aw cI zp6 11008 zk6, fb_o3 zn zn0 zn1 zn3 (upd z3 2 (0 : Int32)), fb_aw cI zn1 120 zk1, fb_aw cI zn3 120 zk7, fb_o7 zst zb0 zb1 zb3 zb4 zb5 z7, fb_mw cI zq zs9 zw, fb_o10 zv zt zv1 (upd (upd zz 2 (0 : Int32)) 2 (1 : Int32)), fb_o8 zs zt zv zs2 zs3 (upd (upd z8 4 (0 : Int32)) 4 (1 : Int32)), fb_qw (D.1 23) zs2 120 (va_up zl 0 t), fb_o1 t  (upd (upd (upd (upd (upd (upd (upd (upd (upd z1 0 (-1 : Int32)) 1 (-1 : Int32)) 2 (-1 : Int32)) 3 (0 : Int32)) 4 (0 : Int32)) 5 (0 : Int32)) 6 (-1 : Int32)) 7 (0 : Int32)) 8 (0 : Int32)), fb_o0 zh zh0 zh1 z0]) (fun (t : Nat) => [fb_o8 zs zt zv zs2 zs3 (upd (upd z8 4 (0 : Int32)) 4 (1 : Int32)), fb_qw (D.1 23) zs2 120 (va_up zl 0 t), fb_o1 t  (upd (upd (upd (upd (upd (upd (upd (upd (upd z1 0 (-1 : Int32)) 1 (-1 : Int32)) 2 (-1 : Int32)) 3 (0 : Int32)) 4 (0 : Int32)) 5 (0 : Int32)) 6 (-1 : Int32)) 7 (0 : Int32)) 8 (0 : Int32)), fb_o10 zv zt zv1 (upd (upd zz 2 (0 : Int32)) 2 (1 : Int32)), fb_o9 zt zt0 zt2 zt3 zt4 (upd (upd z9 5 (0 : Int32)) 5 (1 : Int32)), fb_aw cI zt2 2001 (upd zk2 0 (10 : Int32))]) X I [15, 16, 17, 14, 1, 2, 0, 3, 4, 5, 6, 7, 8, 9, 10, 11, 12, 13, 18] 19 rfl (by decide +kernel) rfl rfl [15, 16, 17, 14, 1, 2, 0, 3, 4, 5, 6, 7, 8, 9, 10, 11, 12, 13, 18] 19 (fun _ => rfl) (by decide +kernel) (fun _ => rfl) (fun _ => rfl) (fun I => fb_rV (As := []) (rest := []) X hl (fb_goodV fw_908 fw_909 fw_910 fw_195 fw_911) (c_firstFault0 l D cI cJ zs zs2 zs3 z8 zv zv1 zz zt zt0 zt2 zt3 zt4 (upd (upd z9 5 (0 : Int32)) 5 (1 : Int32)) (upd zk2 0 (10 : Int32)) zl z1 _ rfl pk_us) rfl rfl rfl (by decide +kernel : fb_hd yX8_firstFault 0) ⟨Nat.le_of_ble_eq_true rfl, Nat.le_of_ble_eq_true rfl⟩ rfl rfl rfl rfl rfl (Nat.le_of_ble_eq_true rfl) ⟨Nat.zero_le _, Nat.zero_le _⟩ dX11_assemble_25 I) ?_
  intro r5 w4 H locs e0 I
  subst e0
  have I : fb_In D A s.heap (([fb_o11 zb zt zn zr2 zs zp (zq 0) zr6 zh zst zr9, fb_o9 zt zt0 zt2 zt3 zt4 (upd (upd z9 5 (0 : Int32)) 5 (1 : Int32)), fb_aw cI zt2 2001 (upd zk2 0 (10 : Int32)), fb_aw cI zt3 2001 (upd zk3 0 (0 : Int32)), fb_jw cJ zt4 2001 (vp_updL zg4 0 (0 : Int64)), fb_o4 zp zt zp1 zp2 zs zp4 zp5 zp6 zp7 zp9 (upd (upd (upd (upd (upd z4 13 (0 : Int32)) 14 (-1 : Int32)) 10 (0 : Int32)) 11 (3072 : Int32)) 12 (0 : Int32)), fb_aw cI zp4 11008 zk4, fb_aw cI zp5 11008 zk5, fb_aw cI zp6 11008 zk6, fb_o3 zn zn0 zn1 zn3 (upd z3 2 (0 : Int32)), fb_aw cI zn1 120 zk1, fb_aw cI zn3 120 zk7, fb_o7 zst zb0 zb1 zb3 zb4 zb5 z7, fb_mw cI zq zs9 zw, fb_o10 zv zt zv1 (upd (upd zz 2 (0 : Int32)) 2 (1 : Int32)), fb_o8 zs zt zv zs2 zs3 (upd (upd z8 4 (0 : Int32)) 4 (1 : Int32)), fb_qw (D.1 23) zs2 120 (va_up zl 0 w4), fb_o1 w4  (upd (upd (upd (upd (upd (upd (upd (upd (upd z1 0 (-1 : Int32)) 1 (-1 : Int32)) 2 (-1 : Int32)) 3 (0 : Int32)) 4 (0 : Int32)) 5 (0 : Int32)) 6 (-1 : Int32)) 7 (0 : Int32)) 8 (0 : Int32)), fb_o0 zh zh0 zh1 z0] : List va_W).flatten) H locs := I
  refine lv_istore_n (lv' := [(1, .int (-1 : Int32)), (0, .ref zb)]) hx hb dX11_assemble_28 rfl hl (by decide) rfl (fun ls hl => ?_)
  refine lv_iload_n hx hb dX11_assemble_29 rfl (lv_at hl 0 rfl) ?_
  refine lv_if_lt (tgt := 45) hx hb dX11_assemble_30 (by decide) (fun _ => ?_) (fun c6 => absurd (by decide) c6)
  refine lv_aload_n hx hb dX11_assemble_45 rfl (lv_at hl 1 rfl) ?_
  refine fb_get X I (k := 4) (v := .ref zp) fu_X11 0 rfl rfl (Nat.le_of_ble_eq_true rfl) fw_691 rfl rfl dX11_assemble_46 ?_
  refine fb_gV (cs := [fb_o4 zp zt zp1 zp2 zs zp4 zp5 zp6 zp7 zp9 (upd (upd (upd (upd (upd z4 13 (0 : Int32)) 14 (-1 : Int32)) 10 (0 : Int32)) 11 (3072 : Int32)) 12 (0 : Int32)), fb_o9 zt zt0 zt2 zt3 zt4 (upd (upd z9 5 (0 : Int32)) 5 (1 : Int32)), fb_aw cI zt2 2001 (upd zk2 0 (10 : Int32)), fb_o8 zs zt zv zs2 zs3 (upd (upd z8 4 (0 : Int32)) 4 (1 : Int32)), fb_qw (D.1 23) zs2 120 (va_up zl 0 w4), fb_o1 w4  (upd (upd (upd (upd (upd (upd (upd (upd (upd z1 0 (-1 : Int32)) 1 (-1 : Int32)) 2 (-1 : Int32)) 3 (0 : Int32)) 4 (0 : Int32)) 5 (0 : Int32)) 6 (-1 : Int32)) 7 (0 : Int32)) 8 (0 : Int32))]) (rs := [fb_o11 zb zt zn zr2 zs zp (zq 0) zr6 zh zst zr9, fb_aw cI zt3 2001 (upd zk3 0 (0 : Int32)), fb_jw cJ zt4 2001 (vp_updL zg4 0 (0 : Int64)), fb_aw cI zp4 11008 zk4, fb_aw cI zp5 11008 zk5, fb_aw cI zp6 11008 zk6, fb_o3 zn zn0 zn1 zn3 (upd z3 2 (0 : Int32)), fb_aw cI zn1 120 zk1, fb_aw cI zn3 120 zk7, fb_o7 zst zb0 zb1 zb3 zb4 zb5 z7, fb_mw cI zq zs9 zw, fb_o10 zv zt zv1 (upd (upd zz 2 (0 : Int32)) 2 (1 : Int32)), fb_o0 zh zh0 zh1 z0]) (fun (t : Nat) => [fb_o11 zb zt zn zr2 zs zp (zq 0) zr6 zh zst zr9, fb_o9 zt zt0 zt2 zt3 zt4 (upd (upd z9 5 (0 : Int32)) 5 (1 : Int32)), fb_aw cI zt2 2001 (upd zk2 0 (10 : Int32)), fb_aw cI zt3 2001 (upd zk3 0 (0 : Int32)), fb_jw cJ zt4 2001 (vp_updL zg4 0 (0 : Int64)), fb_o4 zp zt zp1 zp2 zs zp4 zp5 zp6 zp7 zp9 (upd (upd (upd (upd (upd z4 13 (0 : Int32)) 14 (-1 : Int32)) 10 (0 : Int32)) 11 (3072 : Int32)) 12 (0 : Int32)), fb_aw cI zp4 11008 zk4, fb_aw cI zp5 11008 zk5, fb_aw cI zp6 11008 zk6, fb_o3 zn zn0 zn1 zn3 (upd z3 2 (0 : Int32)), fb_aw cI zn1 120 zk1, fb_aw cI zn3 120 zk7, fb_o7 zst zb0 zb1 zb3 zb4 zb5 z7, fb_mw cI zq zs9 zw, fb_o10 zv zt zv1 (upd (upd zz 2 (0 : Int32)) 2 (1 : Int32)), fb_o8 zs zt zv zs2 zs3 (upd (upd z8 4 (0 : Int32)) 4 (1 : Int32)), fb_qw (D.1 23) zs2 120 (va_up (va_up zl 0 w4) 0 t), fb_o1 t  (upd (upd (upd (upd (upd (upd (upd (upd (upd (upd (upd (upd z1 0 (-1 : Int32)) 1 (-1 : Int32)) 2 (-1 : Int32)) 3 (0 : Int32)) 4 (0 : Int32)) 5 (0 : Int32)) 6 (-1 : Int32)) 7 (0 : Int32)) 8 (0 : Int32)) 5 (0 : Int32)) 7 ((upd (upd (upd (upd (upd z4 13 (0 : Int32)) 14 (-1 : Int32)) 10 (0 : Int32)) 11 (3072 : Int32)) 12 (0 : Int32)) 11)) 8 ((upd (upd (upd (upd (upd z4 13 (0 : Int32)) 14 (-1 : Int32)) 10 (0 : Int32)) 11 (3072 : Int32)) 12 (0 : Int32)) 12)), fb_o0 zh zh0 zh1 z0]) (fun (t : Nat) => [fb_o4 zp zt zp1 zp2 zs zp4 zp5 zp6 zp7 zp9 (upd (upd (upd (upd (upd z4 13 (0 : Int32)) 14 (-1 : Int32)) 10 (0 : Int32)) 11 (3072 : Int32)) 12 (0 : Int32)), fb_o9 zt zt0 zt2 zt3 zt4 (upd (upd z9 5 (0 : Int32)) 5 (1 : Int32)), fb_aw cI zt2 2001 (upd zk2 0 (10 : Int32)), fb_o8 zs zt zv zs2 zs3 (upd (upd z8 4 (0 : Int32)) 4 (1 : Int32)), fb_qw (D.1 23) zs2 120 (va_up (va_up zl 0 w4) 0 t), fb_o1 t  (upd (upd (upd (upd (upd (upd (upd (upd (upd (upd (upd (upd z1 0 (-1 : Int32)) 1 (-1 : Int32)) 2 (-1 : Int32)) 3 (0 : Int32)) 4 (0 : Int32)) 5 (0 : Int32)) 6 (-1 : Int32)) 7 (0 : Int32)) 8 (0 : Int32)) 5 (0 : Int32)) 7 ((upd (upd (upd (upd (upd z4 13 (0 : Int32)) 14 (-1 : Int32)) 10 (0 : Int32)) 11 (3072 : Int32)) 12 (0 : Int32)) 11)) 8 ((upd (upd (upd (upd (upd z4 13 (0 : Int32)) 14 (-1 : Int32)) 10 (0 : Int32)) 11 (3072 : Int32)) 12 (0 : Int32)) 12))]) X I [5, 1, 2, 15, 16, 17, 0, 3, 4, 6, 7, 8, 9, 10, 11, 12, 13, 14, 18] 19 rfl (by decide +kernel) rfl rfl [5, 1, 2, 15, 16, 17, 0, 3, 4, 6, 7, 8, 9, 10, 11, 12, 13, 14, 18] 19 (fun _ => rfl) (by decide +kernel) (fun _ => rfl) (fun _ => rfl) (fun I => fb_rV (As := []) (rest := []) X hl (fb_goodV fw_986 fw_987 fw_988 fw_197 fw_989) (c_firstTime0 l D cI cJ zp zp1 zp2 zs zp4 zp5 zp6 zp7 zp9 (upd (upd (upd (upd (upd z4 13 (0 : Int32)) 14 (-1 : Int32)) 10 (0 : Int32)) 11 (3072 : Int32)) 12 (0 : Int32)) zt zt0 zt2 zt3 zt4 (upd (upd z9 5 (0 : Int32)) 5 (1 : Int32)) (upd zk2 0 (10 : Int32)) zt zv zs2 zs3 (upd (upd z8 4 (0 : Int32)) 4 (1 : Int32)) (va_up zl 0 w4) (upd (upd (upd (upd (upd (upd (upd (upd (upd z1 0 (-1 : Int32)) 1 (-1 : Int32)) 2 (-1 : Int32)) 3 (0 : Int32)) 4 (0 : Int32)) 5 (0 : Int32)) 6 (-1 : Int32)) 7 (0 : Int32)) 8 (0 : Int32)) _ rfl rfl rfl rfl rfl) rfl rfl rfl (by decide +kernel : fb_hd yX4_firstTime 0) ⟨Nat.le_of_ble_eq_true rfl, Nat.le_of_ble_eq_true rfl⟩ rfl rfl rfl rfl rfl (Nat.le_of_ble_eq_true rfl) ⟨Nat.zero_le _, Nat.zero_le _⟩ dX11_assemble_49 I) ?_
  intro w7 H locs _ I
  have I : fb_In D A s.heap (([fb_o11 zb zt zn zr2 zs zp (zq 0) zr6 zh zst zr9, fb_o9 zt zt0 zt2 zt3 zt4 (upd (upd z9 5 (0 : Int32)) 5 (1 : Int32)), fb_aw cI zt2 2001 (upd zk2 0 (10 : Int32)), fb_aw cI zt3 2001 (upd zk3 0 (0 : Int32)), fb_jw cJ zt4 2001 (vp_updL zg4 0 (0 : Int64)), fb_o4 zp zt zp1 zp2 zs zp4 zp5 zp6 zp7 zp9 (upd (upd (upd (upd (upd z4 13 (0 : Int32)) 14 (-1 : Int32)) 10 (0 : Int32)) 11 (3072 : Int32)) 12 (0 : Int32)), fb_aw cI zp4 11008 zk4, fb_aw cI zp5 11008 zk5, fb_aw cI zp6 11008 zk6, fb_o3 zn zn0 zn1 zn3 (upd z3 2 (0 : Int32)), fb_aw cI zn1 120 zk1, fb_aw cI zn3 120 zk7, fb_o7 zst zb0 zb1 zb3 zb4 zb5 z7, fb_mw cI zq zs9 zw, fb_o10 zv zt zv1 (upd (upd zz 2 (0 : Int32)) 2 (1 : Int32)), fb_o8 zs zt zv zs2 zs3 (upd (upd z8 4 (0 : Int32)) 4 (1 : Int32)), fb_qw (D.1 23) zs2 120 (va_up (va_up zl 0 w4) 0 w7), fb_o1 w7  (upd (upd (upd (upd (upd (upd (upd (upd (upd (upd (upd (upd z1 0 (-1 : Int32)) 1 (-1 : Int32)) 2 (-1 : Int32)) 3 (0 : Int32)) 4 (0 : Int32)) 5 (0 : Int32)) 6 (-1 : Int32)) 7 (0 : Int32)) 8 (0 : Int32)) 5 (0 : Int32)) 7 ((upd (upd (upd (upd (upd z4 13 (0 : Int32)) 14 (-1 : Int32)) 10 (0 : Int32)) 11 (3072 : Int32)) 12 (0 : Int32)) 11)) 8 ((upd (upd (upd (upd (upd z4 13 (0 : Int32)) 14 (-1 : Int32)) 10 (0 : Int32)) 11 (3072 : Int32)) 12 (0 : Int32)) 12)), fb_o0 zh zh0 zh1 z0] : List va_W).flatten) H locs := I
  refine lv_aload_n hx hb dX11_assemble_52 rfl (lv_at hl 1 rfl) ?_
  refine fb_get X I (k := 4) (v := .ref zp) fu_X11 0 rfl rfl (Nat.le_of_ble_eq_true rfl) fw_691 rfl rfl dX11_assemble_53 ?_
  refine fb_get X I (k := 13) (v := .int (0 : Int32)) fu_X4 5 rfl rfl (Nat.le_of_ble_eq_true rfl) fw_414 rfl rfl dX11_assemble_56 ?_
  refine lv_if_ne (tgt := 69) hx hb dX11_assemble_59 (by decide) (fun c8 => absurd (by decide) c8) (fun _ => ?_)
  refine lv_aload_n hx hb dX11_assemble_62 rfl (lv_at hl 1 rfl) ?_
  refine fb_get X I (k := 4) (v := .ref zp) fu_X11 0 rfl rfl (Nat.le_of_ble_eq_true rfl) fw_691 rfl rfl dX11_assemble_63 ?_
  refine fb_gV (cs := [fb_o4 zp zt zp1 zp2 zs zp4 zp5 zp6 zp7 zp9 (upd (upd (upd (upd (upd z4 13 (0 : Int32)) 14 (-1 : Int32)) 10 (0 : Int32)) 11 (3072 : Int32)) 12 (0 : Int32)), fb_aw cI zp4 11008 zk4, fb_aw cI zp5 11008 zk5, fb_o8 zs zt zv zs2 zs3 (upd (upd z8 4 (0 : Int32)) 4 (1 : Int32)), fb_qw (D.1 23) zs2 120 (va_up (va_up zl 0 w4) 0 w7), fb_o1 w7  (upd (upd (upd (upd (upd (upd (upd (upd (upd (upd (upd (upd z1 0 (-1 : Int32)) 1 (-1 : Int32)) 2 (-1 : Int32)) 3 (0 : Int32)) 4 (0 : Int32)) 5 (0 : Int32)) 6 (-1 : Int32)) 7 (0 : Int32)) 8 (0 : Int32)) 5 (0 : Int32)) 7 ((upd (upd (upd (upd (upd z4 13 (0 : Int32)) 14 (-1 : Int32)) 10 (0 : Int32)) 11 (3072 : Int32)) 12 (0 : Int32)) 11)) 8 ((upd (upd (upd (upd (upd z4 13 (0 : Int32)) 14 (-1 : Int32)) 10 (0 : Int32)) 11 (3072 : Int32)) 12 (0 : Int32)) 12))]) (rs := [fb_o11 zb zt zn zr2 zs zp (zq 0) zr6 zh zst zr9, fb_o9 zt zt0 zt2 zt3 zt4 (upd (upd z9 5 (0 : Int32)) 5 (1 : Int32)), fb_aw cI zt2 2001 (upd zk2 0 (10 : Int32)), fb_aw cI zt3 2001 (upd zk3 0 (0 : Int32)), fb_jw cJ zt4 2001 (vp_updL zg4 0 (0 : Int64)), fb_aw cI zp6 11008 zk6, fb_o3 zn zn0 zn1 zn3 (upd z3 2 (0 : Int32)), fb_aw cI zn1 120 zk1, fb_aw cI zn3 120 zk7, fb_o7 zst zb0 zb1 zb3 zb4 zb5 z7, fb_mw cI zq zs9 zw, fb_o10 zv zt zv1 (upd (upd zz 2 (0 : Int32)) 2 (1 : Int32)), fb_o0 zh zh0 zh1 z0]) (fun (t : Nat) => [fb_o11 zb zt zn zr2 zs zp (zq 0) zr6 zh zst zr9, fb_o9 zt zt0 zt2 zt3 zt4 (upd (upd z9 5 (0 : Int32)) 5 (1 : Int32)), fb_aw cI zt2 2001 (upd zk2 0 (10 : Int32)), fb_aw cI zt3 2001 (upd zk3 0 (0 : Int32)), fb_jw cJ zt4 2001 (vp_updL zg4 0 (0 : Int64)), fb_o4 zp zt zp1 zp2 zs zp4 zp5 zp6 zp7 zp9 (upd (upd (upd (upd (upd z4 13 (0 : Int32)) 14 (-1 : Int32)) 10 (0 : Int32)) 11 (3072 : Int32)) 12 (0 : Int32)), fb_aw cI zp4 11008 (f_J7_fill_53178 11008 zk4 0), fb_aw cI zp5 11008 (f_J7_fill_53178 11008 zk5 0), fb_aw cI zp6 11008 zk6, fb_o3 zn zn0 zn1 zn3 (upd z3 2 (0 : Int32)), fb_aw cI zn1 120 zk1, fb_aw cI zn3 120 zk7, fb_o7 zst zb0 zb1 zb3 zb4 zb5 z7, fb_mw cI zq zs9 zw, fb_o10 zv zt zv1 (upd (upd zz 2 (0 : Int32)) 2 (1 : Int32)), fb_o8 zs zt zv zs2 zs3 (upd (upd z8 4 (0 : Int32)) 4 (1 : Int32)), fb_qw (D.1 23) zs2 120 (va_up (va_up (va_up zl 0 w4) 0 w7) 0 t), fb_o1 t  (upd (upd (upd (upd (upd (upd (upd (upd (upd (upd (upd (upd z1 0 (-1 : Int32)) 1 (-1 : Int32)) 2 (-1 : Int32)) 3 (0 : Int32)) 4 (0 : Int32)) 5 (0 : Int32)) 6 (-1 : Int32)) 7 (0 : Int32)) 8 (0 : Int32)) 5 (0 : Int32)) 7 ((upd (upd (upd (upd (upd z4 13 (0 : Int32)) 14 (-1 : Int32)) 10 (0 : Int32)) 11 (3072 : Int32)) 12 (0 : Int32)) 11)) 8 ((upd (upd (upd (upd (upd z4 13 (0 : Int32)) 14 (-1 : Int32)) 10 (0 : Int32)) 11 (3072 : Int32)) 12 (0 : Int32)) 12)), fb_o0 zh zh0 zh1 z0]) (fun (t : Nat) => [fb_o4 zp zt zp1 zp2 zs zp4 zp5 zp6 zp7 zp9 (upd (upd (upd (upd (upd z4 13 (0 : Int32)) 14 (-1 : Int32)) 10 (0 : Int32)) 11 (3072 : Int32)) 12 (0 : Int32)), fb_aw cI zp4 11008 (f_J7_fill_53178 11008 zk4 0), fb_aw cI zp5 11008 (f_J7_fill_53178 11008 zk5 0), fb_o8 zs zt zv zs2 zs3 (upd (upd z8 4 (0 : Int32)) 4 (1 : Int32)), fb_qw (D.1 23) zs2 120 (va_up (va_up (va_up zl 0 w4) 0 w7) 0 t), fb_o1 t  (upd (upd (upd (upd (upd (upd (upd (upd (upd (upd (upd (upd z1 0 (-1 : Int32)) 1 (-1 : Int32)) 2 (-1 : Int32)) 3 (0 : Int32)) 4 (0 : Int32)) 5 (0 : Int32)) 6 (-1 : Int32)) 7 (0 : Int32)) 8 (0 : Int32)) 5 (0 : Int32)) 7 ((upd (upd (upd (upd (upd z4 13 (0 : Int32)) 14 (-1 : Int32)) 10 (0 : Int32)) 11 (3072 : Int32)) 12 (0 : Int32)) 11)) 8 ((upd (upd (upd (upd (upd z4 13 (0 : Int32)) 14 (-1 : Int32)) 10 (0 : Int32)) 11 (3072 : Int32)) 12 (0 : Int32)) 12))]) X I [5, 6, 7, 15, 16, 17, 0, 1, 2, 3, 4, 8, 9, 10, 11, 12, 13, 14, 18] 19 rfl (by decide +kernel) rfl rfl [5, 6, 7, 15, 16, 17, 0, 1, 2, 3, 4, 8, 9, 10, 11, 12, 13, 14, 18] 19 (fun _ => rfl) (by decide +kernel) (fun _ => rfl) (fun _ => rfl) (fun I => fb_rV (As := []) (rest := []) X hl (fb_goodV fw_1071 fw_1072 fw_1073 fw_197 fw_1074) (c_secondTime0 l D cI cJ zp zt zp1 zp2 zs zp4 zp5 zp6 zp7 zp9 (upd (upd (upd (upd (upd z4 13 (0 : Int32)) 14 (-1 : Int32)) 10 (0 : Int32)) 11 (3072 : Int32)) 12 (0 : Int32)) zk4 zk5 zt zv zs2 zs3 (upd (upd z8 4 (0 : Int32)) 4 (1 : Int32)) (va_up (va_up zl 0 w4) 0 w7) (upd (upd (upd (upd (upd (upd (upd (upd (upd (upd (upd (upd z1 0 (-1 : Int32)) 1 (-1 : Int32)) 2 (-1 : Int32)) 3 (0 : Int32)) 4 (0 : Int32)) 5 (0 : Int32)) 6 (-1 : Int32)) 7 (0 : Int32)) 8 (0 : Int32)) 5 (0 : Int32)) 7 ((upd (upd (upd (upd (upd z4 13 (0 : Int32)) 14 (-1 : Int32)) 10 (0 : Int32)) 11 (3072 : Int32)) 12 (0 : Int32)) 11)) 8 ((upd (upd (upd (upd (upd z4 13 (0 : Int32)) 14 (-1 : Int32)) 10 (0 : Int32)) 11 (3072 : Int32)) 12 (0 : Int32)) 12)) _ rfl rfl rfl rfl rfl) rfl rfl rfl (by decide +kernel : fb_hd yX4_secondTime 0) ⟨Nat.le_of_ble_eq_true rfl, Nat.le_of_ble_eq_true rfl⟩ rfl rfl rfl rfl rfl (Nat.le_of_ble_eq_true rfl) ⟨Nat.zero_le _, Nat.zero_le _⟩ dX11_assemble_66 I) ?_
  intro w9 H locs _ I
  have I : fb_In D A s.heap (([fb_o11 zb zt zn zr2 zs zp (zq 0) zr6 zh zst zr9, fb_o9 zt zt0 zt2 zt3 zt4 (upd (upd z9 5 (0 : Int32)) 5 (1 : Int32)), fb_aw cI zt2 2001 (upd zk2 0 (10 : Int32)), fb_aw cI zt3 2001 (upd zk3 0 (0 : Int32)), fb_jw cJ zt4 2001 (vp_updL zg4 0 (0 : Int64)), fb_o4 zp zt zp1 zp2 zs zp4 zp5 zp6 zp7 zp9 (upd (upd (upd (upd (upd z4 13 (0 : Int32)) 14 (-1 : Int32)) 10 (0 : Int32)) 11 (3072 : Int32)) 12 (0 : Int32)), fb_aw cI zp4 11008 (f_J7_fill_53178 11008 zk4 0), fb_aw cI zp5 11008 (f_J7_fill_53178 11008 zk5 0), fb_aw cI zp6 11008 zk6, fb_o3 zn zn0 zn1 zn3 (upd z3 2 (0 : Int32)), fb_aw cI zn1 120 zk1, fb_aw cI zn3 120 zk7, fb_o7 zst zb0 zb1 zb3 zb4 zb5 z7, fb_mw cI zq zs9 zw, fb_o10 zv zt zv1 (upd (upd zz 2 (0 : Int32)) 2 (1 : Int32)), fb_o8 zs zt zv zs2 zs3 (upd (upd z8 4 (0 : Int32)) 4 (1 : Int32)), fb_qw (D.1 23) zs2 120 (va_up (va_up (va_up zl 0 w4) 0 w7) 0 w9), fb_o1 w9  (upd (upd (upd (upd (upd (upd (upd (upd (upd (upd (upd (upd z1 0 (-1 : Int32)) 1 (-1 : Int32)) 2 (-1 : Int32)) 3 (0 : Int32)) 4 (0 : Int32)) 5 (0 : Int32)) 6 (-1 : Int32)) 7 (0 : Int32)) 8 (0 : Int32)) 5 (0 : Int32)) 7 ((upd (upd (upd (upd (upd z4 13 (0 : Int32)) 14 (-1 : Int32)) 10 (0 : Int32)) 11 (3072 : Int32)) 12 (0 : Int32)) 11)) 8 ((upd (upd (upd (upd (upd z4 13 (0 : Int32)) 14 (-1 : Int32)) 10 (0 : Int32)) 11 (3072 : Int32)) 12 (0 : Int32)) 12)), fb_o0 zh zh0 zh1 z0] : List va_W).flatten) H locs := I
  refine lv_aload_n hx hb dX11_assemble_69 rfl (lv_at hl 1 rfl) ?_
  refine fb_get X I (k := 0) (v := .ref zt) fu_X11 0 rfl rfl (Nat.le_of_ble_eq_true rfl) fw_687 rfl rfl dX11_assemble_70 ?_
  refine lv_iconst (v := (0 : Int32)) hx hb dX11_assemble_73 (by decide) ?_
  refine fb_put X I (k := 1) (wn := ([fb_o11 zb zt zn zr2 zs zp (zq 0) zr6 zh zst zr9, fb_o9 zt zt0 zt2 zt3 zt4 (upd (upd (upd z9 5 (0 : Int32)) 5 (1 : Int32)) 1 (0 : Int32)), fb_aw cI zt2 2001 (upd zk2 0 (10 : Int32)), fb_aw cI zt3 2001 (upd zk3 0 (0 : Int32)), fb_jw cJ zt4 2001 (vp_updL zg4 0 (0 : Int64)), fb_o4 zp zt zp1 zp2 zs zp4 zp5 zp6 zp7 zp9 (upd (upd (upd (upd (upd z4 13 (0 : Int32)) 14 (-1 : Int32)) 10 (0 : Int32)) 11 (3072 : Int32)) 12 (0 : Int32)), fb_aw cI zp4 11008 (f_J7_fill_53178 11008 zk4 0), fb_aw cI zp5 11008 (f_J7_fill_53178 11008 zk5 0), fb_aw cI zp6 11008 zk6, fb_o3 zn zn0 zn1 zn3 (upd z3 2 (0 : Int32)), fb_aw cI zn1 120 zk1, fb_aw cI zn3 120 zk7, fb_o7 zst zb0 zb1 zb3 zb4 zb5 z7, fb_mw cI zq zs9 zw, fb_o10 zv zt zv1 (upd (upd zz 2 (0 : Int32)) 2 (1 : Int32)), fb_o8 zs zt zv zs2 zs3 (upd (upd z8 4 (0 : Int32)) 4 (1 : Int32)), fb_qw (D.1 23) zs2 120 (va_up (va_up (va_up zl 0 w4) 0 w7) 0 w9), fb_o1 w9  (upd (upd (upd (upd (upd (upd (upd (upd (upd (upd (upd (upd z1 0 (-1 : Int32)) 1 (-1 : Int32)) 2 (-1 : Int32)) 3 (0 : Int32)) 4 (0 : Int32)) 5 (0 : Int32)) 6 (-1 : Int32)) 7 (0 : Int32)) 8 (0 : Int32)) 5 (0 : Int32)) 7 ((upd (upd (upd (upd (upd z4 13 (0 : Int32)) 14 (-1 : Int32)) 10 (0 : Int32)) 11 (3072 : Int32)) 12 (0 : Int32)) 11)) 8 ((upd (upd (upd (upd (upd z4 13 (0 : Int32)) 14 (-1 : Int32)) 10 (0 : Int32)) 11 (3072 : Int32)) 12 (0 : Int32)) 12)), fb_o0 zh zh0 zh1 z0] : List va_W).flatten) fu_X9 tyX9 tyX9_ok nmX9 1 rfl rfl (Nat.le_of_ble_eq_true rfl) fw_234 rfl rfl rfl rfl rfl (Nat.le_of_ble_eq_true rfl) rfl dX11_assemble_74 (fun H locs I => ?_)
  refine lv_aload_n hx hb dX11_assemble_77 rfl (lv_at hl 1 rfl) ?_
  refine fb_get X I (k := 7) (v := .ref zh) fu_X11 0 rfl rfl (Nat.le_of_ble_eq_true rfl) fw_694 rfl rfl dX11_assemble_78 ?_
  refine fb_gV (cs := [fb_o0 zh zh0 zh1 z0]) (rs := [fb_o11 zb zt zn zr2 zs zp (zq 0) zr6 zh zst zr9, fb_o9 zt zt0 zt2 zt3 zt4 (upd (upd (upd z9 5 (0 : Int32)) 5 (1 : Int32)) 1 (0 : Int32)), fb_aw cI zt2 2001 (upd zk2 0 (10 : Int32)), fb_aw cI zt3 2001 (upd zk3 0 (0 : Int32)), fb_jw cJ zt4 2001 (vp_updL zg4 0 (0 : Int64)), fb_o4 zp zt zp1 zp2 zs zp4 zp5 zp6 zp7 zp9 (upd (upd (upd (upd (upd z4 13 (0 : Int32)) 14 (-1 : Int32)) 10 (0 : Int32)) 11 (3072 : Int32)) 12 (0 : Int32)), fb_aw cI zp4 11008 (f_J7_fill_53178 11008 zk4 0), fb_aw cI zp5 11008 (f_J7_fill_53178 11008 zk5 0), fb_aw cI zp6 11008 zk6, fb_o3 zn zn0 zn1 zn3 (upd z3 2 (0 : Int32)), fb_aw cI zn1 120 zk1, fb_aw cI zn3 120 zk7, fb_o7 zst zb0 zb1 zb3 zb4 zb5 z7, fb_mw cI zq zs9 zw, fb_o10 zv zt zv1 (upd (upd zz 2 (0 : Int32)) 2 (1 : Int32)), fb_o8 zs zt zv zs2 zs3 (upd (upd z8 4 (0 : Int32)) 4 (1 : Int32)), fb_qw (D.1 23) zs2 120 (va_up (va_up (va_up zl 0 w4) 0 w7) 0 w9), fb_o1 w9  (upd (upd (upd (upd (upd (upd (upd (upd (upd (upd (upd (upd z1 0 (-1 : Int32)) 1 (-1 : Int32)) 2 (-1 : Int32)) 3 (0 : Int32)) 4 (0 : Int32)) 5 (0 : Int32)) 6 (-1 : Int32)) 7 (0 : Int32)) 8 (0 : Int32)) 5 (0 : Int32)) 7 ((upd (upd (upd (upd (upd z4 13 (0 : Int32)) 14 (-1 : Int32)) 10 (0 : Int32)) 11 (3072 : Int32)) 12 (0 : Int32)) 11)) 8 ((upd (upd (upd (upd (upd z4 13 (0 : Int32)) 14 (-1 : Int32)) 10 (0 : Int32)) 11 (3072 : Int32)) 12 (0 : Int32)) 12))]) (fun (t : Unit) => [fb_o11 zb zt zn zr2 zs zp (zq 0) zr6 zh zst zr9, fb_o9 zt zt0 zt2 zt3 zt4 (upd (upd (upd z9 5 (0 : Int32)) 5 (1 : Int32)) 1 (0 : Int32)), fb_aw cI zt2 2001 (upd zk2 0 (10 : Int32)), fb_aw cI zt3 2001 (upd zk3 0 (0 : Int32)), fb_jw cJ zt4 2001 (vp_updL zg4 0 (0 : Int64)), fb_o4 zp zt zp1 zp2 zs zp4 zp5 zp6 zp7 zp9 (upd (upd (upd (upd (upd z4 13 (0 : Int32)) 14 (-1 : Int32)) 10 (0 : Int32)) 11 (3072 : Int32)) 12 (0 : Int32)), fb_aw cI zp4 11008 (f_J7_fill_53178 11008 zk4 0), fb_aw cI zp5 11008 (f_J7_fill_53178 11008 zk5 0), fb_aw cI zp6 11008 zk6, fb_o3 zn zn0 zn1 zn3 (upd z3 2 (0 : Int32)), fb_aw cI zn1 120 zk1, fb_aw cI zn3 120 zk7, fb_o7 zst zb0 zb1 zb3 zb4 zb5 z7, fb_mw cI zq zs9 zw, fb_o10 zv zt zv1 (upd (upd zz 2 (0 : Int32)) 2 (1 : Int32)), fb_o8 zs zt zv zs2 zs3 (upd (upd z8 4 (0 : Int32)) 4 (1 : Int32)), fb_qw (D.1 23) zs2 120 (va_up (va_up (va_up zl 0 w4) 0 w7) 0 w9), fb_o1 w9  (upd (upd (upd (upd (upd (upd (upd (upd (upd (upd (upd (upd z1 0 (-1 : Int32)) 1 (-1 : Int32)) 2 (-1 : Int32)) 3 (0 : Int32)) 4 (0 : Int32)) 5 (0 : Int32)) 6 (-1 : Int32)) 7 (0 : Int32)) 8 (0 : Int32)) 5 (0 : Int32)) 7 ((upd (upd (upd (upd (upd z4 13 (0 : Int32)) 14 (-1 : Int32)) 10 (0 : Int32)) 11 (3072 : Int32)) 12 (0 : Int32)) 11)) 8 ((upd (upd (upd (upd (upd z4 13 (0 : Int32)) 14 (-1 : Int32)) 10 (0 : Int32)) 11 (3072 : Int32)) 12 (0 : Int32)) 12)), fb_o0 zh zh0 zh1 (upd (upd (upd (upd z0 2 (-1 : Int32)) 3 (-1 : Int32)) 4 (0 : Int32)) 5 (0 : Int32))]) (fun (t : Unit) => [fb_o0 zh zh0 zh1 (upd (upd (upd (upd z0 2 (-1 : Int32)) 3 (-1 : Int32)) 4 (0 : Int32)) 5 (0 : Int32))]) X I [18, 0, 1, 2, 3, 4, 5, 6, 7, 8, 9, 10, 11, 12, 13, 14, 15, 16, 17] 19 rfl (by decide +kernel) rfl rfl [18, 0, 1, 2, 3, 4, 5, 6, 7, 8, 9, 10, 11, 12, 13, 14, 15, 16, 17] 19 (fun _ => rfl) (by decide +kernel) (fun _ => rfl) (fun _ => rfl) (fun I => fb_rV (As := []) (rest := []) X hl (fb_goodV fw_1117 fw_1118 fw_1119 fw_200 fw_1120) (c_forget0 l D cI cJ zh zh0 zh1 z0 _ ) rfl rfl rfl (by decide +kernel : fb_hd yX0_forget 0) ⟨Nat.le_of_ble_eq_true rfl, Nat.le_of_ble_eq_true rfl⟩ rfl rfl rfl rfl rfl (Nat.le_of_ble_eq_true rfl) ⟨Nat.zero_le _, Nat.zero_le _⟩ dX11_assemble_81 I) ?_
  intro w10 H locs _ I
  have I : fb_In D A s.heap (([fb_o11 zb zt zn zr2 zs zp (zq 0) zr6 zh zst zr9, fb_o9 zt zt0 zt2 zt3 zt4 (upd (upd (upd z9 5 (0 : Int32)) 5 (1 : Int32)) 1 (0 : Int32)), fb_aw cI zt2 2001 (upd zk2 0 (10 : Int32)), fb_aw cI zt3 2001 (upd zk3 0 (0 : Int32)), fb_jw cJ zt4 2001 (vp_updL zg4 0 (0 : Int64)), fb_o4 zp zt zp1 zp2 zs zp4 zp5 zp6 zp7 zp9 (upd (upd (upd (upd (upd z4 13 (0 : Int32)) 14 (-1 : Int32)) 10 (0 : Int32)) 11 (3072 : Int32)) 12 (0 : Int32)), fb_aw cI zp4 11008 (f_J7_fill_53178 11008 zk4 0), fb_aw cI zp5 11008 (f_J7_fill_53178 11008 zk5 0), fb_aw cI zp6 11008 zk6, fb_o3 zn zn0 zn1 zn3 (upd z3 2 (0 : Int32)), fb_aw cI zn1 120 zk1, fb_aw cI zn3 120 zk7, fb_o7 zst zb0 zb1 zb3 zb4 zb5 z7, fb_mw cI zq zs9 zw, fb_o10 zv zt zv1 (upd (upd zz 2 (0 : Int32)) 2 (1 : Int32)), fb_o8 zs zt zv zs2 zs3 (upd (upd z8 4 (0 : Int32)) 4 (1 : Int32)), fb_qw (D.1 23) zs2 120 (va_up (va_up (va_up zl 0 w4) 0 w7) 0 w9), fb_o1 w9  (upd (upd (upd (upd (upd (upd (upd (upd (upd (upd (upd (upd z1 0 (-1 : Int32)) 1 (-1 : Int32)) 2 (-1 : Int32)) 3 (0 : Int32)) 4 (0 : Int32)) 5 (0 : Int32)) 6 (-1 : Int32)) 7 (0 : Int32)) 8 (0 : Int32)) 5 (0 : Int32)) 7 ((upd (upd (upd (upd (upd z4 13 (0 : Int32)) 14 (-1 : Int32)) 10 (0 : Int32)) 11 (3072 : Int32)) 12 (0 : Int32)) 11)) 8 ((upd (upd (upd (upd (upd z4 13 (0 : Int32)) 14 (-1 : Int32)) 10 (0 : Int32)) 11 (3072 : Int32)) 12 (0 : Int32)) 12)), fb_o0 zh zh0 zh1 (upd (upd (upd (upd z0 2 (-1 : Int32)) 3 (-1 : Int32)) 4 (0 : Int32)) 5 (0 : Int32))] : List va_W).flatten) H locs := I
  refine lv_aload_n hx hb dX11_assemble_84 rfl (lv_at hl 1 rfl) ?_
  refine fb_get X I (k := 4) (v := .ref zp) fu_X11 0 rfl rfl (Nat.le_of_ble_eq_true rfl) fw_691 rfl rfl dX11_assemble_85 ?_
  refine fb_get X I (k := 13) (v := .int (0 : Int32)) fu_X4 5 rfl rfl (Nat.le_of_ble_eq_true rfl) fw_414 rfl rfl dX11_assemble_88 ?_
  refine lv_if_ne (tgt := 98) hx hb dX11_assemble_91 (by decide) (fun c11 => absurd (by decide) c11) (fun _ => ?_)
  refine lv_aload_n hx hb dX11_assemble_94 rfl (lv_at hl 1 rfl) ?_
  refine fb_gV (cs := [fb_o11 zb zt zn zr2 zs zp (zq 0) zr6 zh zst zr9, fb_o4 zp zt zp1 zp2 zs zp4 zp5 zp6 zp7 zp9 (upd (upd (upd (upd (upd z4 13 (0 : Int32)) 14 (-1 : Int32)) 10 (0 : Int32)) 11 (3072 : Int32)) 12 (0 : Int32)), fb_aw cI zp4 11008 (f_J7_fill_53178 11008 zk4 0), fb_aw cI zp5 11008 (f_J7_fill_53178 11008 zk5 0), fb_aw cI zp6 11008 zk6, fb_o3 zn zn0 zn1 zn3 (upd z3 2 (0 : Int32)), fb_aw cI zn1 120 zk1, fb_aw cI zn3 120 zk7, fb_o7 zst zb0 zb1 zb3 zb4 zb5 z7, fb_mw cI zq zs9 zw]) (rs := [fb_o9 zt zt0 zt2 zt3 zt4 (upd (upd (upd z9 5 (0 : Int32)) 5 (1 : Int32)) 1 (0 : Int32)), fb_aw cI zt2 2001 (upd zk2 0 (10 : Int32)), fb_aw cI zt3 2001 (upd zk3 0 (0 : Int32)), fb_jw cJ zt4 2001 (vp_updL zg4 0 (0 : Int64)), fb_o10 zv zt zv1 (upd (upd zz 2 (0 : Int32)) 2 (1 : Int32)), fb_o8 zs zt zv zs2 zs3 (upd (upd z8 4 (0 : Int32)) 4 (1 : Int32)), fb_qw (D.1 23) zs2 120 (va_up (va_up (va_up zl 0 w4) 0 w7) 0 w9), fb_o1 w9  (upd (upd (upd (upd (upd (upd (upd (upd (upd (upd (upd (upd z1 0 (-1 : Int32)) 1 (-1 : Int32)) 2 (-1 : Int32)) 3 (0 : Int32)) 4 (0 : Int32)) 5 (0 : Int32)) 6 (-1 : Int32)) 7 (0 : Int32)) 8 (0 : Int32)) 5 (0 : Int32)) 7 ((upd (upd (upd (upd (upd z4 13 (0 : Int32)) 14 (-1 : Int32)) 10 (0 : Int32)) 11 (3072 : Int32)) 12 (0 : Int32)) 11)) 8 ((upd (upd (upd (upd (upd z4 13 (0 : Int32)) 14 (-1 : Int32)) 10 (0 : Int32)) 11 (3072 : Int32)) 12 (0 : Int32)) 12)), fb_o0 zh zh0 zh1 (upd (upd (upd (upd z0 2 (-1 : Int32)) 3 (-1 : Int32)) 4 (0 : Int32)) 5 (0 : Int32))]) (fun (t : fb_AR) => [fb_o11 zb zt zn zr2 zs zp (zq 0) zr6 zh zst zr9, fb_o9 zt zt0 zt2 zt3 zt4 (upd (upd (upd z9 5 (0 : Int32)) 5 (1 : Int32)) 1 (0 : Int32)), fb_aw cI zt2 2001 (upd zk2 0 (10 : Int32)), fb_aw cI zt3 2001 (upd zk3 0 (0 : Int32)), fb_jw cJ zt4 2001 (vp_updL zg4 0 (0 : Int64)), fb_o4 zp zt zp1 zp2 zs zp4 zp5 zp6 zp7 zp9 (upd (upd (upd (upd (upd z4 13 (0 : Int32)) 14 (-1 : Int32)) 10 (0 : Int32)) 11 (3072 : Int32)) 12 (0 : Int32)), fb_aw cI zp4 11008 (f_J7_fill_53178 11008 zk4 0), fb_aw cI zp5 11008 (f_J7_fill_53178 11008 zk5 0), fb_aw cI zp6 11008 (f_J7_fill_53178 11008 zk5 0), fb_o3 zn zn0 zn1 zn3 (upd (upd z3 2 (0 : Int32)) 4 ((upd z3 2 (0 : Int32)) 2)), fb_aw cI zn1 120 zk1, fb_aw cI zn3 120 zk1, fb_o7 zst zb0 zb1 zb3 zb4 zb5 (upd (upd (upd z7 2 (0 : Int32)) 6 (0 : Int32)) 7 (0 : Int32)), fb_mw cI zq (f_X2_restart (fb_sM zs9 (f_J7_fill_53178 11008 zk4 0))) t, fb_o10 zv zt zv1 (upd (upd zz 2 (0 : Int32)) 2 (1 : Int32)), fb_o8 zs zt zv zs2 zs3 (upd (upd z8 4 (0 : Int32)) 4 (1 : Int32)), fb_qw (D.1 23) zs2 120 (va_up (va_up (va_up zl 0 w4) 0 w7) 0 w9), fb_o1 w9  (upd (upd (upd (upd (upd (upd (upd (upd (upd (upd (upd (upd z1 0 (-1 : Int32)) 1 (-1 : Int32)) 2 (-1 : Int32)) 3 (0 : Int32)) 4 (0 : Int32)) 5 (0 : Int32)) 6 (-1 : Int32)) 7 (0 : Int32)) 8 (0 : Int32)) 5 (0 : Int32)) 7 ((upd (upd (upd (upd (upd z4 13 (0 : Int32)) 14 (-1 : Int32)) 10 (0 : Int32)) 11 (3072 : Int32)) 12 (0 : Int32)) 11)) 8 ((upd (upd (upd (upd (upd z4 13 (0 : Int32)) 14 (-1 : Int32)) 10 (0 : Int32)) 11 (3072 : Int32)) 12 (0 : Int32)) 12)), fb_o0 zh zh0 zh1 (upd (upd (upd (upd z0 2 (-1 : Int32)) 3 (-1 : Int32)) 4 (0 : Int32)) 5 (0 : Int32))]) (fun (t : fb_AR) => [fb_o11 zb zt zn zr2 zs zp (zq 0) zr6 zh zst zr9, fb_o4 zp zt zp1 zp2 zs zp4 zp5 zp6 zp7 zp9 (upd (upd (upd (upd (upd z4 13 (0 : Int32)) 14 (-1 : Int32)) 10 (0 : Int32)) 11 (3072 : Int32)) 12 (0 : Int32)), fb_aw cI zp4 11008 (f_J7_fill_53178 11008 zk4 0), fb_aw cI zp5 11008 (f_J7_fill_53178 11008 zk5 0), fb_aw cI zp6 11008 (f_J7_fill_53178 11008 zk5 0), fb_o3 zn zn0 zn1 zn3 (upd (upd z3 2 (0 : Int32)) 4 ((upd z3 2 (0 : Int32)) 2)), fb_aw cI zn1 120 zk1, fb_aw cI zn3 120 zk1, fb_o7 zst zb0 zb1 zb3 zb4 zb5 (upd (upd (upd z7 2 (0 : Int32)) 6 (0 : Int32)) 7 (0 : Int32)), fb_mw cI zq (f_X2_restart (fb_sM zs9 (f_J7_fill_53178 11008 zk4 0))) t]) X I [0, 5, 6, 7, 8, 9, 10, 11, 12, 13, 1, 2, 3, 4, 14, 15, 16, 17, 18] 19 rfl (by decide +kernel) rfl rfl [0, 5, 6, 7, 8, 9, 10, 11, 12, 13, 1, 2, 3, 4, 14, 15, 16, 17, 18] 19 (fun _ => rfl) (by decide +kernel) (fun _ => rfl) (fun _ => rfl) (fun I => fb_rV (As := []) (rest := []) X hl (fb_goodV fw_1121 fw_1123 fw_40 fw_191 fw_1124) (c_takeOver0 l D cI cJ zb zt zr2 zs zr6 zh zr9 zp zt zp1 zp2 zs zp4 zp5 zp6 zp7 zp9 (upd (upd (upd (upd (upd z4 13 (0 : Int32)) 14 (-1 : Int32)) 10 (0 : Int32)) 11 (3072 : Int32)) 12 (0 : Int32)) (f_J7_fill_53178 11008 zk4 0) (f_J7_fill_53178 11008 zk5 0) zk6 zn zn0 zn1 zn3 (upd z3 2 (0 : Int32)) zk1 zk7 zst zb0 zb1 zb3 zb4 zb5 z7 zq zs9 zw _ ) rfl rfl rfl (by decide +kernel : fb_hd yX11_takeOver 0) ⟨Nat.le_of_ble_eq_true rfl, Nat.le_of_ble_eq_true rfl⟩ rfl rfl rfl rfl rfl (Nat.le_of_ble_eq_true rfl) ⟨Nat.zero_le _, Nat.zero_le _⟩ dX11_assemble_95 I) ?_
  intro w12 H locs _ I
  have I : fb_In D A s.heap (([fb_o11 zb zt zn zr2 zs zp (zq 0) zr6 zh zst zr9, fb_o9 zt zt0 zt2 zt3 zt4 (upd (upd (upd z9 5 (0 : Int32)) 5 (1 : Int32)) 1 (0 : Int32)), fb_aw cI zt2 2001 (upd zk2 0 (10 : Int32)), fb_aw cI zt3 2001 (upd zk3 0 (0 : Int32)), fb_jw cJ zt4 2001 (vp_updL zg4 0 (0 : Int64)), fb_o4 zp zt zp1 zp2 zs zp4 zp5 zp6 zp7 zp9 (upd (upd (upd (upd (upd z4 13 (0 : Int32)) 14 (-1 : Int32)) 10 (0 : Int32)) 11 (3072 : Int32)) 12 (0 : Int32)), fb_aw cI zp4 11008 (f_J7_fill_53178 11008 zk4 0), fb_aw cI zp5 11008 (f_J7_fill_53178 11008 zk5 0), fb_aw cI zp6 11008 (f_J7_fill_53178 11008 zk5 0), fb_o3 zn zn0 zn1 zn3 (upd (upd z3 2 (0 : Int32)) 4 ((upd z3 2 (0 : Int32)) 2)), fb_aw cI zn1 120 zk1, fb_aw cI zn3 120 zk1, fb_o7 zst zb0 zb1 zb3 zb4 zb5 (upd (upd (upd z7 2 (0 : Int32)) 6 (0 : Int32)) 7 (0 : Int32)), fb_mw cI zq (f_X2_restart (fb_sM zs9 (f_J7_fill_53178 11008 zk4 0))) w12, fb_o10 zv zt zv1 (upd (upd zz 2 (0 : Int32)) 2 (1 : Int32)), fb_o8 zs zt zv zs2 zs3 (upd (upd z8 4 (0 : Int32)) 4 (1 : Int32)), fb_qw (D.1 23) zs2 120 (va_up (va_up (va_up zl 0 w4) 0 w7) 0 w9), fb_o1 w9  (upd (upd (upd (upd (upd (upd (upd (upd (upd (upd (upd (upd z1 0 (-1 : Int32)) 1 (-1 : Int32)) 2 (-1 : Int32)) 3 (0 : Int32)) 4 (0 : Int32)) 5 (0 : Int32)) 6 (-1 : Int32)) 7 (0 : Int32)) 8 (0 : Int32)) 5 (0 : Int32)) 7 ((upd (upd (upd (upd (upd z4 13 (0 : Int32)) 14 (-1 : Int32)) 10 (0 : Int32)) 11 (3072 : Int32)) 12 (0 : Int32)) 11)) 8 ((upd (upd (upd (upd (upd z4 13 (0 : Int32)) 14 (-1 : Int32)) 10 (0 : Int32)) 11 (3072 : Int32)) 12 (0 : Int32)) 12)), fb_o0 zh zh0 zh1 (upd (upd (upd (upd z0 2 (-1 : Int32)) 3 (-1 : Int32)) 4 (0 : Int32)) 5 (0 : Int32))] : List va_W).flatten) H locs := I
  refine lv_aload_n hx hb dX11_assemble_98 rfl (lv_at hl 1 rfl) ?_
  refine fb_get X I (k := 4) (v := .ref zp) fu_X11 0 rfl rfl (Nat.le_of_ble_eq_true rfl) fw_691 rfl rfl dX11_assemble_99 ?_
  refine fb_get X I (k := 13) (v := .int (0 : Int32)) fu_X4 5 rfl rfl (Nat.le_of_ble_eq_true rfl) fw_414 rfl rfl dX11_assemble_102 ?_
  exact fb_retI (u := (w12, w4, w7, w9)) X I rfl rfl dX11_assemble_105

set_option maxHeartbeats 4000000 in
set_option maxRecDepth 100000 in
theorem c_meanCycles0 (l : Launch) (D : va_G) (cI cJ : ClassId) (zb : Nat) (zr0 : Nat) (zr1 : Nat) (zr2 : Nat) (zr3 : Nat) (zr4 : Nat) (zr6 : Nat) (zr7 : Nat) (zr8 : Nat) (zr9 : Nat) (zq : Nat → Nat) (zs9 : fb_MS) (zw : fb_AR) (sz : Nat) (h12 : ((zs9).1 12) = (0 : Int32)) : Met l yX11_meanCycles (Cond.code yX11_meanCycles cX11_meanCycles 1 (some .double) :: fb_all) ({ frames := 1, cells := 0, slots := 0, locals := 30 } : Room) (fb_PP D (fb_ty D cI cJ) [.ref zb] (([fb_o11 zb zr0 zr1 zr2 zr3 zr4 (zq 0) zr6 zr7 zr8 zr9, fb_mw cI zq zs9 zw] : List va_W).flatten) sz) (fb_QD D (va_A (([fb_o11 zb zr0 zr1 zr2 zr3 zr4 (zq 0) zr6 zr7 zr8 zr9, fb_mw cI zq zs9 zw] : List va_W).flatten) sz) (fun (r : UInt64) (_ : Unit) => r = (0 : UInt64)) (fun (t : Unit) => ([fb_o11 zb zr0 zr1 zr2 zr3 zr4 (zq 0) zr6 zr7 zr8 zr9, fb_mw cI zq zs9 zw] : List va_W).flatten)) 0 0 (va_A (([fb_o11 zb zr0 zr1 zr2 zr3 zr4 (zq 0) zr6 zr7 zr8 zr9, fb_mw cI zq zs9 zw] : List va_W).flatten) sz) := by
  refine fb_ent (Qf := fun A => (fb_QD D A (fun (r : UInt64) (_ : Unit) => r = (0 : UInt64)) (fun (t : Unit) => ([fb_o11 zb zr0 zr1 zr2 zr3 zr4 (zq 0) zr6 zr7 zr8 zr9, fb_mw cI zq zs9 zw] : List va_W).flatten))) (by decide +kernel) (Nat.le_of_ble_eq_true rfl) ?_
  intro p e s m args below meth c A ls X I hl hin
  obtain ⟨hx, hb, hr, hml, hown, hts, hlk, hA, hK, hF⟩ := id X
  have hl : lv_has ls 1 [(0, .ref zb)] := hl
  refine lv_aload_n hx hb dX11_meanCycles_0 rfl (lv_at hl 0 rfl) ?_
  refine fb_get X I (k := 5) (v := .ref (zq 0)) fu_X11 0 rfl rfl (Nat.le_of_ble_eq_true rfl) fw_692 rfl rfl dX11_meanCycles_1 ?_
  refine fb_get X I (k := 12) (v := .int ((zs9).1 12)) fu_X2 1 rfl rfl (Nat.le_of_ble_eq_true rfl) fw_540 rfl rfl dX11_meanCycles_4 ?_
  refine lv_if_ne (tgt := 12) hx hb dX11_meanCycles_7 (by decide) (fun c1 => absurd h12 c1) (fun _ => ?_)
  refine lv_dconst0 hx hb dX11_meanCycles_10 ?_
  exact fb_retD (u := ()) X I rfl dX11_meanCycles_11

