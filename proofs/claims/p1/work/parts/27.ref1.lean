/-! the reference along a fresh object's road, laid by ref.py -/
set_option maxHeartbeats 4000000 in
set_option maxRecDepth 100000 in
theorem c_thrown (l : Launch) (D : va_G) (cI cJ : ClassId) (za : Nat) (zr : Nat → Nat) (ze : fb_AR) (sz : Nat)  : Met l yX12_thrown (Cond.code yX12_thrown cX12_thrown 1 (some .int) :: fb_all) ({ frames := 1, cells := 0, slots := 0, locals := 30 } : Room) (fb_PP D (fb_ty D cI cJ) [.ref za] (([fb_o12 za zr ze] : List va_W).flatten) sz) (vp_Si (fun r => r = (ze 19))) 0 0 (fun _ => False) := by
  refine fb_entR (by decide +kernel) (Nat.le_of_ble_eq_true rfl) ?_
  intro p e s m args below meth c A ls X I hl hin
  obtain ⟨hx, hb, hr, hml, hown, hts, hlk, hA, hK, hF⟩ := id X
  have hl : lv_has ls 1 [(0, .ref za)] := hl
  refine lv_aload_n hx hb dX12_thrown_0 rfl (lv_at hl 0 rfl) ?_
  refine fb_get X I (k := 19) (v := .int (ze 19)) fu_X12 0 fb_h12 rfl (Nat.le_of_ble_eq_true rfl) fw_1983 rfl rfl dX12_thrown_1 ?_
  exact fb_retRI X rfl rfl dX12_thrown_4

set_option maxHeartbeats 4000000 in
set_option maxRecDepth 100000 in
theorem c_refuse_f (l : Launch) (D : va_G) (cI cJ : ClassId) (za : Nat) (zr : Nat → Nat) (ze : fb_AR) (l2 : Int32) (sz : Nat)  : Met l yX12_refuse (Cond.code yX12_refuse cX12_refuse 3 (some .boolean) :: fb_all) ({ frames := 1, cells := 0, slots := 0, locals := 30 } : Room) (fb_PP D (fb_ty D cI cJ) [.ref za, .int (0 : Int32), .int l2] (([fb_o12 za zr ze] : List va_W).flatten) sz) (vp_Si (fun r => r = (0 : Int32))) 0 0 (fun _ => False) := by
  refine fb_entR (by decide +kernel) (Nat.le_of_ble_eq_true rfl) ?_
  intro p e s m args below meth c A ls X I hl hin
  obtain ⟨hx, hb, hr, hml, hown, hts, hlk, hA, hK, hF⟩ := id X
  have hl : lv_has ls 3 [(0, .ref za), (1, .int (0 : Int32)), (2, .int l2)] := hl
  refine lv_iload_n hx hb dX12_refuse_0 rfl (lv_at hl 1 rfl) ?_
  refine lv_if_eq (tgt := 16) hx hb dX12_refuse_1 (by decide) (fun _ => ?_) (fun c1 => absurd (by decide) c1)
  refine lv_iload_n hx hb dX12_refuse_16 rfl (lv_at hl 1 rfl) ?_
  exact fb_retRI X rfl rfl dX12_refuse_17

set_option maxHeartbeats 4000000 in
set_option maxRecDepth 100000 in
theorem c_refuse_t (l : Launch) (D : va_G) (cI cJ : ClassId) (za : Nat) (zr : Nat → Nat) (ze : fb_AR) (l2 : Int32) (sz : Nat) (h19 : ze 19 = (0 : Int32)) : Met l yX12_refuse (Cond.code yX12_refuse cX12_refuse 3 (some .boolean) :: fb_all) ({ frames := 1, cells := 0, slots := 0, locals := 30 } : Room) (fb_PP D (fb_ty D cI cJ) [.ref za, .int (1 : Int32), .int l2] (([fb_o12 za zr ze] : List va_W).flatten) sz) (fb_QI D (va_A (([fb_o12 za zr ze] : List va_W).flatten) sz) (fun (r : Int32) (_ : Unit) => r = (1 : Int32)) (fun (t : Unit) => ([fb_o12 za zr (upd ze 19 l2)] : List va_W).flatten)) 0 0 (va_A (([fb_o12 za zr ze] : List va_W).flatten) sz) := by
  refine fb_ent (Qf := fun A => (fb_QI D A (fun (r : Int32) (_ : Unit) => r = (1 : Int32)) (fun (t : Unit) => ([fb_o12 za zr (upd ze 19 l2)] : List va_W).flatten))) (by decide +kernel) (Nat.le_of_ble_eq_true rfl) ?_
  intro p e s m args below meth c A ls X I hl hin
  obtain ⟨hx, hb, hr, hml, hown, hts, hlk, hA, hK, hF⟩ := id X
  have hl : lv_has ls 3 [(0, .ref za), (1, .int (1 : Int32)), (2, .int l2)] := hl
  refine lv_iload_n hx hb dX12_refuse_0 rfl (lv_at hl 1 rfl) ?_
  refine lv_if_eq (tgt := 16) hx hb dX12_refuse_1 (by decide) (fun c1 => absurd c1 (by decide)) (fun _ => ?_)
  refine lv_aload_n hx hb dX12_refuse_4 rfl (lv_at hl 0 rfl) ?_
  refine fb_get X I (k := 19) (v := .int (ze 19)) fu_X12 0 fb_h12 rfl (Nat.le_of_ble_eq_true rfl) fw_1983 rfl rfl dX12_refuse_5 ?_
  refine fb_tI (v := (0 : Int32)) h19 ?_
  refine lv_if_ne (tgt := 16) hx hb dX12_refuse_8 (by decide) (fun c2 => absurd (by decide) c2) (fun _ => ?_)
  refine lv_aload_n hx hb dX12_refuse_11 rfl (lv_at hl 0 rfl) ?_
  refine lv_iload_n hx hb dX12_refuse_12 rfl (lv_at hl 2 rfl) ?_
  refine fb_put X I (k := 19) (wn := ([fb_o12 za zr (upd ze 19 l2)] : List va_W).flatten) fu_X12 tyX12 tyX12_ok nmX12 0 fb_h12 rfl (Nat.le_of_ble_eq_true rfl) fw_1983 rfl rfl rfl rfl rfl (Nat.le_of_ble_eq_true rfl) fb_r12_19 dX12_refuse_13 (fun H locs I => ?_)
  refine lv_iload_n hx hb dX12_refuse_16 rfl (lv_at hl 1 rfl) ?_
  exact fb_retI (u := ()) X I rfl rfl dX12_refuse_17

set_option maxHeartbeats 4000000 in
set_option maxRecDepth 100000 in
theorem c_isNot_in (l : Launch) (D : va_G) (cI cJ : ClassId) (za : Nat) (zr : Nat → Nat) (ze : fb_AR) (l1 : Int32) (l2 : Int32) (l3 : Int32) (sz : Nat) (hq : f_X12_isIn l1 l2 l3 = (1 : Int32)) : Met l yX12_isNot (Cond.code yX12_isNot cX12_isNot 4 (some .boolean) :: fb_all) ({ frames := 2, cells := 0, slots := 0, locals := 52 } : Room) (fb_PP D (fb_ty D cI cJ) [.ref za, .int l1, .int l2, .int l3] (([fb_o12 za zr ze] : List va_W).flatten) sz) (fb_QI D (va_A (([fb_o12 za zr ze] : List va_W).flatten) sz) (fun (r : Int32) (_ : Unit) => r = (0 : Int32)) (fun (t : Unit) => ([fb_o12 za zr (upd ze 19 (0 : Int32))] : List va_W).flatten)) 0 0 (va_A (([fb_o12 za zr ze] : List va_W).flatten) sz) := by
  refine fb_ent (Qf := fun A => (fb_QI D A (fun (r : Int32) (_ : Unit) => r = (0 : Int32)) (fun (t : Unit) => ([fb_o12 za zr (upd ze 19 (0 : Int32))] : List va_W).flatten))) (by decide +kernel) (Nat.le_of_ble_eq_true rfl) ?_
  intro p e s m args below meth c A ls X I hl hin
  obtain ⟨hx, hb, hr, hml, hown, hts, hlk, hA, hK, hF⟩ := id X
  have hl : lv_has ls 4 [(0, .ref za), (1, .int l1), (2, .int l2), (3, .int l3)] := hl
  refine lv_aload_n hx hb dX12_isNot_0 rfl (lv_at hl 0 rfl) ?_
  refine lv_iconst (v := (0 : Int32)) hx hb dX12_isNot_1 (by decide) ?_
  refine fb_put X I (k := 19) (wn := ([fb_o12 za zr (upd ze 19 (0 : Int32))] : List va_W).flatten) fu_X12 tyX12 tyX12_ok nmX12 0 fb_h12 rfl (Nat.le_of_ble_eq_true rfl) fw_1983 rfl rfl rfl rfl rfl (Nat.le_of_ble_eq_true rfl) fb_r12_19 dX12_isNot_2 (fun H locs I => ?_)
  refine lv_aload_n hx hb dX12_isNot_5 rfl (lv_at hl 0 rfl) ?_
  refine lv_iload_n hx hb dX12_isNot_6 rfl (lv_at hl 1 rfl) ?_
  refine lv_iload_n hx hb dX12_isNot_7 rfl (lv_at hl 2 rfl) ?_
  refine lv_iload_n hx hb dX12_isNot_8 rfl (lv_at hl 3 rfl) ?_
  refine fb_gO (cs := []) (rs := [fb_o12 za zr (upd ze 19 (0 : Int32))]) X I [0] 1 rfl (by decide +kernel) rfl rfl (fun I => fb_rS (As := [.int l1, .int l2, .int l3]) (rest := [.ref za]) X hl (fb_goodS fw_2147 fw_2148 fw_204 fw_2149) (c_X12_isIn l D cI cJ l1 l2 l3 _) rfl rfl (by decide +kernel : fb_hd yX12_isIn 3) ⟨Nat.le_of_ble_eq_true rfl, Nat.le_of_ble_eq_true rfl⟩ rfl rfl (Nat.le_of_ble_eq_true rfl) ⟨Nat.le_of_ble_eq_true rfl, Nat.le_of_ble_eq_true rfl⟩ dX12_isNot_9 I) ?_
  refine fb_tI (v := (1 : Int32)) hq ?_
  refine lv_if_ne (tgt := 19) hx hb dX12_isNot_12 (by decide) (fun _ => ?_) (fun c1 => absurd c1 (by decide))
  refine lv_iconst (v := (0 : Int32)) hx hb dX12_isNot_19 (by decide) ?_
  refine lv_iconst (v := (1 : Int32)) hx hb dX12_isNot_20 (by decide) ?_
  refine fb_gO (cs := [fb_o12 za zr (upd ze 19 (0 : Int32))]) (rs := []) X I [0] 1 rfl (by decide +kernel) rfl rfl (fun I => fb_rV (As := [.int (0 : Int32), .int (1 : Int32)]) (rest := []) X hl (fb_goodV fw_2350 fw_2352 fw_137 fw_204 fw_2353) (c_refuse_f l D cI cJ za zr (upd ze 19 (0 : Int32)) (1 : Int32) _ ) rfl rfl rfl (by decide +kernel : fb_hd yX12_refuse 2) ⟨Nat.le_of_ble_eq_true rfl, Nat.le_of_ble_eq_true rfl⟩ rfl rfl rfl rfl rfl (Nat.le_of_ble_eq_true rfl) ⟨Nat.zero_le _, Nat.zero_le _⟩ dX12_isNot_21 I) ?_
  exact fb_retI (u := ()) X I rfl rfl dX12_isNot_24

set_option maxHeartbeats 4000000 in
set_option maxRecDepth 100000 in
theorem c_isNot_out (l : Launch) (D : va_G) (cI cJ : ClassId) (za : Nat) (zr : Nat → Nat) (ze : fb_AR) (l1 : Int32) (l2 : Int32) (l3 : Int32) (sz : Nat) (hq : f_X12_isIn l1 l2 l3 = (0 : Int32)) : Met l yX12_isNot (Cond.code yX12_isNot cX12_isNot 4 (some .boolean) :: fb_all) ({ frames := 2, cells := 0, slots := 0, locals := 52 } : Room) (fb_PP D (fb_ty D cI cJ) [.ref za, .int l1, .int l2, .int l3] (([fb_o12 za zr ze] : List va_W).flatten) sz) (fb_QI D (va_A (([fb_o12 za zr ze] : List va_W).flatten) sz) (fun (r : Int32) (_ : Unit) => r = (1 : Int32)) (fun (t : Unit) => ([fb_o12 za zr (upd (upd ze 19 (0 : Int32)) 19 (1 : Int32))] : List va_W).flatten)) 0 0 (va_A (([fb_o12 za zr ze] : List va_W).flatten) sz) := by
  refine fb_ent (Qf := fun A => (fb_QI D A (fun (r : Int32) (_ : Unit) => r = (1 : Int32)) (fun (t : Unit) => ([fb_o12 za zr (upd (upd ze 19 (0 : Int32)) 19 (1 : Int32))] : List va_W).flatten))) (by decide +kernel) (Nat.le_of_ble_eq_true rfl) ?_
  intro p e s m args below meth c A ls X I hl hin
  obtain ⟨hx, hb, hr, hml, hown, hts, hlk, hA, hK, hF⟩ := id X
  have hl : lv_has ls 4 [(0, .ref za), (1, .int l1), (2, .int l2), (3, .int l3)] := hl
  refine lv_aload_n hx hb dX12_isNot_0 rfl (lv_at hl 0 rfl) ?_
  refine lv_iconst (v := (0 : Int32)) hx hb dX12_isNot_1 (by decide) ?_
  refine fb_put X I (k := 19) (wn := ([fb_o12 za zr (upd ze 19 (0 : Int32))] : List va_W).flatten) fu_X12 tyX12 tyX12_ok nmX12 0 fb_h12 rfl (Nat.le_of_ble_eq_true rfl) fw_1983 rfl rfl rfl rfl rfl (Nat.le_of_ble_eq_true rfl) fb_r12_19 dX12_isNot_2 (fun H locs I => ?_)
  refine lv_aload_n hx hb dX12_isNot_5 rfl (lv_at hl 0 rfl) ?_
  refine lv_iload_n hx hb dX12_isNot_6 rfl (lv_at hl 1 rfl) ?_
  refine lv_iload_n hx hb dX12_isNot_7 rfl (lv_at hl 2 rfl) ?_
  refine lv_iload_n hx hb dX12_isNot_8 rfl (lv_at hl 3 rfl) ?_
  refine fb_gO (cs := []) (rs := [fb_o12 za zr (upd ze 19 (0 : Int32))]) X I [0] 1 rfl (by decide +kernel) rfl rfl (fun I => fb_rS (As := [.int l1, .int l2, .int l3]) (rest := [.ref za]) X hl (fb_goodS fw_2147 fw_2148 fw_204 fw_2149) (c_X12_isIn l D cI cJ l1 l2 l3 _) rfl rfl (by decide +kernel : fb_hd yX12_isIn 3) ⟨Nat.le_of_ble_eq_true rfl, Nat.le_of_ble_eq_true rfl⟩ rfl rfl (Nat.le_of_ble_eq_true rfl) ⟨Nat.le_of_ble_eq_true rfl, Nat.le_of_ble_eq_true rfl⟩ dX12_isNot_9 I) ?_
  refine fb_tI (v := (0 : Int32)) hq ?_
  refine lv_if_ne (tgt := 19) hx hb dX12_isNot_12 (by decide) (fun c1 => absurd (by decide) c1) (fun _ => ?_)
  refine lv_iconst (v := (1 : Int32)) hx hb dX12_isNot_15 (by decide) ?_
  refine lv_goto (tgt := 20) hx hb dX12_isNot_16 (by decide) ?_
  refine lv_iconst (v := (1 : Int32)) hx hb dX12_isNot_20 (by decide) ?_
  refine fb_gI (cs := [fb_o12 za zr (upd ze 19 (0 : Int32))]) (rs := []) (fun (t : Unit) => [fb_o12 za zr (upd (upd ze 19 (0 : Int32)) 19 (1 : Int32))]) (fun (t : Unit) => [fb_o12 za zr (upd (upd ze 19 (0 : Int32)) 19 (1 : Int32))]) X I [0] 1 rfl (by decide +kernel) rfl rfl [0] 1 (fun _ => rfl) (by decide +kernel) (fun _ => rfl) (fun _ => rfl) (fun I => fb_rV (As := [.int (1 : Int32), .int (1 : Int32)]) (rest := []) X hl (fb_goodV fw_2350 fw_2352 fw_137 fw_204 fw_2353) (c_refuse_t l D cI cJ za zr (upd ze 19 (0 : Int32)) (1 : Int32) _ rfl) rfl rfl rfl (by decide +kernel : fb_hd yX12_refuse 2) ⟨Nat.le_of_ble_eq_true rfl, Nat.le_of_ble_eq_true rfl⟩ rfl rfl rfl rfl rfl (Nat.le_of_ble_eq_true rfl) ⟨Nat.zero_le _, Nat.zero_le _⟩ dX12_isNot_21 I) ?_
  intro r3 w2 H locs e0 I
  subst e0
  have I : fb_In D A s.heap (([fb_o12 za zr (upd (upd ze 19 (0 : Int32)) 19 (1 : Int32))] : List va_W).flatten) H locs := I
  exact fb_retI (u := ()) X I rfl rfl dX12_isNot_24

set_option maxHeartbeats 4000000 in
set_option maxRecDepth 100000 in
theorem c_forget (l : Launch) (D : va_G) (cI cJ : ClassId) (za : Nat) (zr : Nat → Nat) (ze : fb_AR) (sz : Nat)  : Met l yX12_forget (Cond.code yX12_forget cX12_forget 1 none :: fb_all) ({ frames := 1, cells := 0, slots := 0, locals := 30 } : Room) (fb_PP D (fb_ty D cI cJ) [.ref za] (([fb_o12 za zr ze] : List va_W).flatten) sz) (fb_QV D (va_A (([fb_o12 za zr ze] : List va_W).flatten) sz) (fun (_ : Unit) => True) (fun (t : Unit) => ([fb_o12 za zr (upd ze 2 (0 : Int32))] : List va_W).flatten)) 0 0 (va_A (([fb_o12 za zr ze] : List va_W).flatten) sz) := by
  refine fb_ent (Qf := fun A => (fb_QV D A (fun (_ : Unit) => True) (fun (t : Unit) => ([fb_o12 za zr (upd ze 2 (0 : Int32))] : List va_W).flatten))) (by decide +kernel) (Nat.le_of_ble_eq_true rfl) ?_
  intro p e s m args below meth c A ls X I hl hin
  obtain ⟨hx, hb, hr, hml, hown, hts, hlk, hA, hK, hF⟩ := id X
  have hl : lv_has ls 1 [(0, .ref za)] := hl
  refine lv_aload_n hx hb dX12_forget_0 rfl (lv_at hl 0 rfl) ?_
  refine lv_iconst (v := (0 : Int32)) hx hb dX12_forget_1 (by decide) ?_
  refine fb_put X I (k := 2) (wn := ([fb_o12 za zr (upd ze 2 (0 : Int32))] : List va_W).flatten) fu_X12 tyX12 tyX12_ok nmX12 0 fb_h12 rfl (Nat.le_of_ble_eq_true rfl) fw_1966 rfl rfl rfl rfl rfl (Nat.le_of_ble_eq_true rfl) fb_r12_2 dX12_forget_2 (fun H locs I => ?_)
  exact fb_retV (u := ()) X I trivial dX12_forget_5

set_option maxHeartbeats 4000000 in
set_option maxRecDepth 100000 in
theorem c_place_1 (l : Launch) (D : va_G) (cI cJ : ClassId) (za : Nat) (zr : Nat → Nat) (ze : fb_AR) (zm : fb_AR) (zj : Nat) (sz : Nat) (hj : zj < 1792) : Met l yX12_place (Cond.code yX12_place cX12_place 2 (some .int) :: fb_all) ({ frames := 1, cells := 0, slots := 0, locals := 30 } : Room) (fb_PP D (fb_ty D cI cJ) [.ref za, .int (nI zj)] (([fb_o12 za zr ze, fb_aw cI (zr 0) 16205 zm] : List va_W).flatten) sz) (vp_Si (fun r => r = (nI (1101 + zj)))) 0 0 (fun _ => False) := by
  refine fb_entR (by decide +kernel) (Nat.le_of_ble_eq_true rfl) ?_
  intro p e s m args below meth c A ls X I hl hin
  obtain ⟨hx, hb, hr, hml, hown, hts, hlk, hA, hK, hF⟩ := id X
  have hl : lv_has ls 2 [(0, .ref za), (1, .int (nI zj))] := hl
  refine lv_iload_n hx hb dX12_place_0 rfl (lv_at hl 1 rfl) ?_
  refine lv_sipush (v := (1792 : Int32)) hx hb dX12_place_1 (by decide) ?_
  refine lv_icmp_ge (tgt := 15) hx hb dX12_place_4 (by decide) (fun c1 => absurd c1 (nI_ge (a := zj) (b := 1792) (by omega) (by omega))) (fun _ => ?_)
  refine lv_sipush (v := (1101 : Int32)) hx hb dX12_place_7 (by decide) ?_
  refine lv_iload_n hx hb dX12_place_10 rfl (lv_at hl 1 rfl) ?_
  refine lv_iadd hx hb dX12_place_11 ?_
  refine fb_tI (v := (nI (1101 + zj))) (nI_add 1101 zj) ?_
  refine lv_goto (tgt := 55) hx hb dX12_place_12 (by decide) ?_
  exact fb_retRI X rfl rfl dX12_place_55

set_option maxHeartbeats 4000000 in
set_option maxRecDepth 100000 in
theorem c_place_2 (l : Launch) (D : va_G) (cI cJ : ClassId) (za : Nat) (zr : Nat → Nat) (ze : fb_AR) (zm : fb_AR) (zj : Nat) (sz : Nat) (hj : 2048 ≤ zj ∧ zj < 3072) (a9 : zm 9 = (0 : Int32)) : Met l yX12_place (Cond.code yX12_place cX12_place 2 (some .int) :: fb_all) ({ frames := 1, cells := 0, slots := 0, locals := 30 } : Room) (fb_PP D (fb_ty D cI cJ) [.ref za, .int (nI zj)] (([fb_o12 za zr ze, fb_aw cI (zr 0) 16205 zm] : List va_W).flatten) sz) (vp_Si (fun r => r = (nI (2893 + zj - 2048)))) 0 0 (fun _ => False) := by
  refine fb_entR (by decide +kernel) (Nat.le_of_ble_eq_true rfl) ?_
  intro p e s m args below meth c A ls X I hl hin
  obtain ⟨hx, hb, hr, hml, hown, hts, hlk, hA, hK, hF⟩ := id X
  have hl : lv_has ls 2 [(0, .ref za), (1, .int (nI zj))] := hl
  refine lv_iload_n hx hb dX12_place_0 rfl (lv_at hl 1 rfl) ?_
  refine lv_sipush (v := (1792 : Int32)) hx hb dX12_place_1 (by decide) ?_
  refine lv_icmp_ge (tgt := 15) hx hb dX12_place_4 (by decide) (fun _ => ?_) (fun c1 => absurd (nI_le (a := 1792) (b := zj) (by omega) (by omega)) c1)
  refine lv_iload_n hx hb dX12_place_15 rfl (lv_at hl 1 rfl) ?_
  refine lv_sipush (v := (3072 : Int32)) hx hb dX12_place_16 (by decide) ?_
  refine lv_icmp_ge (tgt := 46) hx hb dX12_place_19 (by decide) (fun c2 => absurd c2 (nI_ge (a := zj) (b := 3072) (by omega) (by omega))) (fun _ => ?_)
  refine lv_sipush (v := (2893 : Int32)) hx hb dX12_place_22 (by decide) ?_
  refine lv_sipush (v := (1024 : Int32)) hx hb dX12_place_25 (by decide) ?_
  refine lv_aload_n hx hb dX12_place_28 rfl (lv_at hl 0 rfl) ?_
  refine fb_get X I (k := 0) (v := .ref (zr 0)) fu_X12 0 fb_h12 rfl (Nat.le_of_ble_eq_true rfl) fw_1964 rfl rfl dX12_place_29 ?_
  refine lv_bipush (v := (9 : Int32)) hx hb dX12_place_32 (by decide) ?_
  refine fb_iaC (n := 9) (v := (0 : Int32)) X I 1 0 rfl rfl (by decide) (by decide) (Nat.le_of_ble_eq_true rfl) a9 dX12_place_34 ?_
  refine lv_imul hx hb dX12_place_35 ?_
  refine fb_tI (v := (0 : Int32)) (by decide) ?_
  refine lv_iadd hx hb dX12_place_36 ?_
  refine fb_tI (v := (2893 : Int32)) (by decide) ?_
  refine lv_iload_n hx hb dX12_place_37 rfl (lv_at hl 1 rfl) ?_
  refine lv_iadd hx hb dX12_place_38 ?_
  refine fb_tI (v := (nI (2893 + zj))) (nI_add 2893 zj) ?_
  refine lv_sipush (v := (2048 : Int32)) hx hb dX12_place_39 (by decide) ?_
  refine lv_isub hx hb dX12_place_42 ?_
  refine fb_tI (v := (nI (2893 + zj - 2048))) (pk_sub (a := 2893 + zj) (b := 2048) (by omega)) ?_
  refine lv_goto (tgt := 55) hx hb dX12_place_43 (by decide) ?_
  exact fb_retRI X rfl rfl dX12_place_55

set_option maxHeartbeats 4000000 in
set_option maxRecDepth 100000 in
theorem c_place_3 (l : Launch) (D : va_G) (cI cJ : ClassId) (za : Nat) (zr : Nat → Nat) (ze : fb_AR) (zm : fb_AR) (zj : Nat) (sz : Nat) (hj : 3072 ≤ zj ∧ zj < 4096) : Met l yX12_place (Cond.code yX12_place cX12_place 2 (some .int) :: fb_all) ({ frames := 1, cells := 0, slots := 0, locals := 30 } : Room) (fb_PP D (fb_ty D cI cJ) [.ref za, .int (nI zj)] (([fb_o12 za zr ze, fb_aw cI (zr 0) 16205 zm] : List va_W).flatten) sz) (vp_Si (fun r => r = (nI (11085 + zj - 3072)))) 0 0 (fun _ => False) := by
  refine fb_entR (by decide +kernel) (Nat.le_of_ble_eq_true rfl) ?_
  intro p e s m args below meth c A ls X I hl hin
  obtain ⟨hx, hb, hr, hml, hown, hts, hlk, hA, hK, hF⟩ := id X
  have hl : lv_has ls 2 [(0, .ref za), (1, .int (nI zj))] := hl
  refine lv_iload_n hx hb dX12_place_0 rfl (lv_at hl 1 rfl) ?_
  refine lv_sipush (v := (1792 : Int32)) hx hb dX12_place_1 (by decide) ?_
  refine lv_icmp_ge (tgt := 15) hx hb dX12_place_4 (by decide) (fun _ => ?_) (fun c1 => absurd (nI_le (a := 1792) (b := zj) (by omega) (by omega)) c1)
  refine lv_iload_n hx hb dX12_place_15 rfl (lv_at hl 1 rfl) ?_
  refine lv_sipush (v := (3072 : Int32)) hx hb dX12_place_16 (by decide) ?_
  refine lv_icmp_ge (tgt := 46) hx hb dX12_place_19 (by decide) (fun _ => ?_) (fun c2 => absurd (nI_le (a := 3072) (b := zj) (by omega) (by omega)) c2)
  refine lv_sipush (v := (11085 : Int32)) hx hb dX12_place_46 (by decide) ?_
  refine lv_iload_n hx hb dX12_place_49 rfl (lv_at hl 1 rfl) ?_
  refine lv_iadd hx hb dX12_place_50 ?_
  refine fb_tI (v := (nI (11085 + zj))) (nI_add 11085 zj) ?_
  refine lv_sipush (v := (3072 : Int32)) hx hb dX12_place_51 (by decide) ?_
  refine lv_isub hx hb dX12_place_54 ?_
  refine fb_tI (v := (nI (11085 + zj - 3072))) (pk_sub (a := 11085 + zj) (b := 3072) (by omega)) ?_
  exact fb_retRI X rfl rfl dX12_place_55

theorem fr_np {zj : Nat} (h : zj < 1792 ∨ (2048 ≤ zj ∧ zj < 4096)) : f_X12_isPort (nI zj) = 0 := by
  unfold f_X12_isPort
  rcases h with h | h
  · rw [if_pos (show nI zj < (1792 : Int32) from nI_lt (b := 1792) h (by decide))]
  · rw [if_neg (show ¬ nI zj < (1792 : Int32) from nI_nlt (a := zj) (b := 1792) (by omega) (by omega)), if_pos (show (2048 : Int32) ≤ nI zj from nI_le (a := 2048) (b := zj) (by omega) (by omega))]
theorem fr_yp {zj : Nat} (h : 1792 ≤ zj ∧ zj < 2048) : f_X12_isPort (nI zj) = 1 := by
  unfold f_X12_isPort
  rw [if_neg (show ¬ nI zj < (1792 : Int32) from nI_nlt (a := zj) (b := 1792) (by omega) (by omega)), if_neg (show ¬ (2048 : Int32) ≤ nI zj from nI_ge (a := zj) (b := 2048) (by omega) (by omega))]

set_option maxHeartbeats 4000000 in
set_option maxRecDepth 100000 in
theorem c_code_0 (l : Launch) (D : va_G) (cI cJ : ClassId) (za : Nat) (zr : Nat → Nat) (ze : fb_AR) (zm : fb_AR) (l1 : Int32) (zj : Nat) (sz : Nat) (hm : ∀ j, 1101 ≤ j → j < 12109 → zm j = 0) (a9 : zm 9 = (0 : Int32)) (he : (l1 &&& (4095 : Int32)) = nI zj) (hj : 1792 ≤ zj ∧ zj < 2048) : Met l yX12_code (Cond.code yX12_code cX12_code 2 (some .int) :: fb_all) ({ frames := 3, cells := 0, slots := 0, locals := 80 } : Room) (fb_PP D (fb_ty D cI cJ) [.ref za, .int l1] (([fb_o12 za zr ze, fb_aw cI (zr 0) 16205 zm] : List va_W).flatten) sz) (vp_Si (fun r => r = (0 : Int32))) 0 0 (fun _ => False) := by
  refine fb_entR (by decide +kernel) (Nat.le_of_ble_eq_true rfl) ?_
  intro p e s m args below meth c A ls X I hl hin
  obtain ⟨hx, hb, hr, hml, hown, hts, hlk, hA, hK, hF⟩ := id X
  have hl : lv_has ls 2 [(0, .ref za), (1, .int l1)] := hl
  refine lv_iload_n hx hb dX12_code_0 rfl (lv_at hl 1 rfl) ?_
  refine lv_sipush (v := (4095 : Int32)) hx hb dX12_code_1 (by decide) ?_
  refine lv_iand hx hb dX12_code_4 ?_
  refine fb_tI (v := (nI zj)) he ?_
  refine fb_gO (cs := []) (rs := [fb_o12 za zr ze, fb_aw cI (zr 0) 16205 zm]) X I [0, 1] 2 rfl (by decide +kernel) rfl rfl (fun I => fb_rS (As := [.int (nI zj)]) (rest := []) X hl (fb_goodS fw_1953 fw_1954 fw_204 fw_1955) (c_X12_isPort l D cI cJ (nI zj) _) rfl rfl (by decide +kernel : fb_hd yX12_isPort 1) ⟨Nat.le_of_ble_eq_true rfl, Nat.le_of_ble_eq_true rfl⟩ rfl rfl (Nat.le_of_ble_eq_true rfl) ⟨Nat.le_of_ble_eq_true rfl, Nat.le_of_ble_eq_true rfl⟩ dX12_code_5 I) ?_
  refine fb_tI (v := (1 : Int32)) (fr_yp hj) ?_
  refine lv_if_eq (tgt := 15) hx hb dX12_code_8 (by decide) (fun c1 => absurd c1 (by decide)) (fun _ => ?_)
  refine lv_iconst (v := (0 : Int32)) hx hb dX12_code_11 (by decide) ?_
  refine lv_goto (tgt := 29) hx hb dX12_code_12 (by decide) ?_
  exact fb_retRI X rfl rfl dX12_code_29

set_option maxHeartbeats 4000000 in
set_option maxRecDepth 100000 in
theorem c_code_1 (l : Launch) (D : va_G) (cI cJ : ClassId) (za : Nat) (zr : Nat → Nat) (ze : fb_AR) (zm : fb_AR) (l1 : Int32) (zj : Nat) (sz : Nat) (hm : ∀ j, 1101 ≤ j → j < 12109 → zm j = 0) (a9 : zm 9 = (0 : Int32)) (he : (l1 &&& (4095 : Int32)) = nI zj) (hj : zj < 1792) : Met l yX12_code (Cond.code yX12_code cX12_code 2 (some .int) :: fb_all) ({ frames := 3, cells := 0, slots := 0, locals := 80 } : Room) (fb_PP D (fb_ty D cI cJ) [.ref za, .int l1] (([fb_o12 za zr ze, fb_aw cI (zr 0) 16205 zm] : List va_W).flatten) sz) (vp_Si (fun r => r = (0 : Int32))) 0 0 (fun _ => False) := by
  refine fb_entR (by decide +kernel) (Nat.le_of_ble_eq_true rfl) ?_
  intro p e s m args below meth c A ls X I hl hin
  obtain ⟨hx, hb, hr, hml, hown, hts, hlk, hA, hK, hF⟩ := id X
  have hl : lv_has ls 2 [(0, .ref za), (1, .int l1)] := hl
  refine lv_iload_n hx hb dX12_code_0 rfl (lv_at hl 1 rfl) ?_
  refine lv_sipush (v := (4095 : Int32)) hx hb dX12_code_1 (by decide) ?_
  refine lv_iand hx hb dX12_code_4 ?_
  refine fb_tI (v := (nI zj)) he ?_
  refine fb_gO (cs := []) (rs := [fb_o12 za zr ze, fb_aw cI (zr 0) 16205 zm]) X I [0, 1] 2 rfl (by decide +kernel) rfl rfl (fun I => fb_rS (As := [.int (nI zj)]) (rest := []) X hl (fb_goodS fw_1953 fw_1954 fw_204 fw_1955) (c_X12_isPort l D cI cJ (nI zj) _) rfl rfl (by decide +kernel : fb_hd yX12_isPort 1) ⟨Nat.le_of_ble_eq_true rfl, Nat.le_of_ble_eq_true rfl⟩ rfl rfl (Nat.le_of_ble_eq_true rfl) ⟨Nat.le_of_ble_eq_true rfl, Nat.le_of_ble_eq_true rfl⟩ dX12_code_5 I) ?_
  refine fb_tI (v := (0 : Int32)) (fr_np (Or.inl hj)) ?_
  refine lv_if_eq (tgt := 15) hx hb dX12_code_8 (by decide) (fun _ => ?_) (fun c1 => absurd (by decide) c1)
  refine lv_aload_n hx hb dX12_code_15 rfl (lv_at hl 0 rfl) ?_
  refine fb_get X I (k := 0) (v := .ref (zr 0)) fu_X12 0 fb_h12 rfl (Nat.le_of_ble_eq_true rfl) fw_1964 rfl rfl dX12_code_16 ?_
  refine lv_aload_n hx hb dX12_code_19 rfl (lv_at hl 0 rfl) ?_
  refine lv_iload_n hx hb dX12_code_20 rfl (lv_at hl 1 rfl) ?_
  refine lv_sipush (v := (4095 : Int32)) hx hb dX12_code_21 (by decide) ?_
  refine lv_iand hx hb dX12_code_24 ?_
  refine fb_tI (v := (nI zj)) he ?_
  refine fb_gO (cs := [fb_o12 za zr ze, fb_aw cI (zr 0) 16205 zm]) (rs := []) X I [0, 1] 2 rfl (by decide +kernel) rfl rfl (fun I => fb_rV (As := [.int (nI zj)]) (rest := [.ref (zr 0)]) X hl (fb_goodV fw_1956 fw_1958 fw_87 fw_204 fw_1959) (c_place_1 l D cI cJ za zr ze zm zj _ (by omega)) rfl rfl rfl (by decide +kernel : fb_hd yX12_place 1) ⟨Nat.le_of_ble_eq_true rfl, Nat.le_of_ble_eq_true rfl⟩ rfl rfl rfl rfl rfl (Nat.le_of_ble_eq_true rfl) ⟨Nat.zero_le _, Nat.zero_le _⟩ dX12_code_25 I) ?_
  refine fb_iaC (n := (1101 + zj)) (v := (0 : Int32)) X I 1 0 rfl rfl (nI_clamp (by omega)) (nI_pos (by omega)) (by omega) (hm (1101 + zj) (by omega) (by omega)) dX12_code_28 ?_
  exact fb_retRI X rfl rfl dX12_code_29

set_option maxHeartbeats 4000000 in
set_option maxRecDepth 100000 in
theorem c_code_2 (l : Launch) (D : va_G) (cI cJ : ClassId) (za : Nat) (zr : Nat → Nat) (ze : fb_AR) (zm : fb_AR) (l1 : Int32) (zj : Nat) (sz : Nat) (hm : ∀ j, 1101 ≤ j → j < 12109 → zm j = 0) (a9 : zm 9 = (0 : Int32)) (he : (l1 &&& (4095 : Int32)) = nI zj) (hj : 2048 ≤ zj ∧ zj < 3072) : Met l yX12_code (Cond.code yX12_code cX12_code 2 (some .int) :: fb_all) ({ frames := 3, cells := 0, slots := 0, locals := 80 } : Room) (fb_PP D (fb_ty D cI cJ) [.ref za, .int l1] (([fb_o12 za zr ze, fb_aw cI (zr 0) 16205 zm] : List va_W).flatten) sz) (vp_Si (fun r => r = (0 : Int32))) 0 0 (fun _ => False) := by
  refine fb_entR (by decide +kernel) (Nat.le_of_ble_eq_true rfl) ?_
  intro p e s m args below meth c A ls X I hl hin
  obtain ⟨hx, hb, hr, hml, hown, hts, hlk, hA, hK, hF⟩ := id X
  have hl : lv_has ls 2 [(0, .ref za), (1, .int l1)] := hl
  refine lv_iload_n hx hb dX12_code_0 rfl (lv_at hl 1 rfl) ?_
  refine lv_sipush (v := (4095 : Int32)) hx hb dX12_code_1 (by decide) ?_
  refine lv_iand hx hb dX12_code_4 ?_
  refine fb_tI (v := (nI zj)) he ?_
  refine fb_gO (cs := []) (rs := [fb_o12 za zr ze, fb_aw cI (zr 0) 16205 zm]) X I [0, 1] 2 rfl (by decide +kernel) rfl rfl (fun I => fb_rS (As := [.int (nI zj)]) (rest := []) X hl (fb_goodS fw_1953 fw_1954 fw_204 fw_1955) (c_X12_isPort l D cI cJ (nI zj) _) rfl rfl (by decide +kernel : fb_hd yX12_isPort 1) ⟨Nat.le_of_ble_eq_true rfl, Nat.le_of_ble_eq_true rfl⟩ rfl rfl (Nat.le_of_ble_eq_true rfl) ⟨Nat.le_of_ble_eq_true rfl, Nat.le_of_ble_eq_true rfl⟩ dX12_code_5 I) ?_
  refine fb_tI (v := (0 : Int32)) (fr_np (Or.inr ⟨hj.1, by omega⟩)) ?_
  refine lv_if_eq (tgt := 15) hx hb dX12_code_8 (by decide) (fun _ => ?_) (fun c1 => absurd (by decide) c1)
  refine lv_aload_n hx hb dX12_code_15 rfl (lv_at hl 0 rfl) ?_
  refine fb_get X I (k := 0) (v := .ref (zr 0)) fu_X12 0 fb_h12 rfl (Nat.le_of_ble_eq_true rfl) fw_1964 rfl rfl dX12_code_16 ?_
  refine lv_aload_n hx hb dX12_code_19 rfl (lv_at hl 0 rfl) ?_
  refine lv_iload_n hx hb dX12_code_20 rfl (lv_at hl 1 rfl) ?_
  refine lv_sipush (v := (4095 : Int32)) hx hb dX12_code_21 (by decide) ?_
  refine lv_iand hx hb dX12_code_24 ?_
  refine fb_tI (v := (nI zj)) he ?_
  refine fb_gO (cs := [fb_o12 za zr ze, fb_aw cI (zr 0) 16205 zm]) (rs := []) X I [0, 1] 2 rfl (by decide +kernel) rfl rfl (fun I => fb_rV (As := [.int (nI zj)]) (rest := [.ref (zr 0)]) X hl (fb_goodV fw_1956 fw_1958 fw_87 fw_204 fw_1959) (c_place_2 l D cI cJ za zr ze zm zj _ (by omega) a9) rfl rfl rfl (by decide +kernel : fb_hd yX12_place 1) ⟨Nat.le_of_ble_eq_true rfl, Nat.le_of_ble_eq_true rfl⟩ rfl rfl rfl rfl rfl (Nat.le_of_ble_eq_true rfl) ⟨Nat.zero_le _, Nat.zero_le _⟩ dX12_code_25 I) ?_
  refine fb_iaC (n := (2893 + zj - 2048)) (v := (0 : Int32)) X I 1 0 rfl rfl (nI_clamp (by omega)) (nI_pos (by omega)) (by omega) (hm (2893 + zj - 2048) (by omega) (by omega)) dX12_code_28 ?_
  exact fb_retRI X rfl rfl dX12_code_29

set_option maxHeartbeats 4000000 in
set_option maxRecDepth 100000 in
theorem c_code_3 (l : Launch) (D : va_G) (cI cJ : ClassId) (za : Nat) (zr : Nat → Nat) (ze : fb_AR) (zm : fb_AR) (l1 : Int32) (zj : Nat) (sz : Nat) (hm : ∀ j, 1101 ≤ j → j < 12109 → zm j = 0) (a9 : zm 9 = (0 : Int32)) (he : (l1 &&& (4095 : Int32)) = nI zj) (hj : 3072 ≤ zj ∧ zj < 4096) : Met l yX12_code (Cond.code yX12_code cX12_code 2 (some .int) :: fb_all) ({ frames := 3, cells := 0, slots := 0, locals := 80 } : Room) (fb_PP D (fb_ty D cI cJ) [.ref za, .int l1] (([fb_o12 za zr ze, fb_aw cI (zr 0) 16205 zm] : List va_W).flatten) sz) (vp_Si (fun r => r = (0 : Int32))) 0 0 (fun _ => False) := by
  refine fb_entR (by decide +kernel) (Nat.le_of_ble_eq_true rfl) ?_
  intro p e s m args below meth c A ls X I hl hin
  obtain ⟨hx, hb, hr, hml, hown, hts, hlk, hA, hK, hF⟩ := id X
  have hl : lv_has ls 2 [(0, .ref za), (1, .int l1)] := hl
  refine lv_iload_n hx hb dX12_code_0 rfl (lv_at hl 1 rfl) ?_
  refine lv_sipush (v := (4095 : Int32)) hx hb dX12_code_1 (by decide) ?_
  refine lv_iand hx hb dX12_code_4 ?_
  refine fb_tI (v := (nI zj)) he ?_
  refine fb_gO (cs := []) (rs := [fb_o12 za zr ze, fb_aw cI (zr 0) 16205 zm]) X I [0, 1] 2 rfl (by decide +kernel) rfl rfl (fun I => fb_rS (As := [.int (nI zj)]) (rest := []) X hl (fb_goodS fw_1953 fw_1954 fw_204 fw_1955) (c_X12_isPort l D cI cJ (nI zj) _) rfl rfl (by decide +kernel : fb_hd yX12_isPort 1) ⟨Nat.le_of_ble_eq_true rfl, Nat.le_of_ble_eq_true rfl⟩ rfl rfl (Nat.le_of_ble_eq_true rfl) ⟨Nat.le_of_ble_eq_true rfl, Nat.le_of_ble_eq_true rfl⟩ dX12_code_5 I) ?_
  refine fb_tI (v := (0 : Int32)) (fr_np (Or.inr ⟨by omega, hj.2⟩)) ?_
  refine lv_if_eq (tgt := 15) hx hb dX12_code_8 (by decide) (fun _ => ?_) (fun c1 => absurd (by decide) c1)
  refine lv_aload_n hx hb dX12_code_15 rfl (lv_at hl 0 rfl) ?_
  refine fb_get X I (k := 0) (v := .ref (zr 0)) fu_X12 0 fb_h12 rfl (Nat.le_of_ble_eq_true rfl) fw_1964 rfl rfl dX12_code_16 ?_
  refine lv_aload_n hx hb dX12_code_19 rfl (lv_at hl 0 rfl) ?_
  refine lv_iload_n hx hb dX12_code_20 rfl (lv_at hl 1 rfl) ?_
  refine lv_sipush (v := (4095 : Int32)) hx hb dX12_code_21 (by decide) ?_
  refine lv_iand hx hb dX12_code_24 ?_
  refine fb_tI (v := (nI zj)) he ?_
  refine fb_gO (cs := [fb_o12 za zr ze, fb_aw cI (zr 0) 16205 zm]) (rs := []) X I [0, 1] 2 rfl (by decide +kernel) rfl rfl (fun I => fb_rV (As := [.int (nI zj)]) (rest := [.ref (zr 0)]) X hl (fb_goodV fw_1956 fw_1958 fw_87 fw_204 fw_1959) (c_place_3 l D cI cJ za zr ze zm zj _ (by omega)) rfl rfl rfl (by decide +kernel : fb_hd yX12_place 1) ⟨Nat.le_of_ble_eq_true rfl, Nat.le_of_ble_eq_true rfl⟩ rfl rfl rfl rfl rfl (Nat.le_of_ble_eq_true rfl) ⟨Nat.zero_le _, Nat.zero_le _⟩ dX12_code_25 I) ?_
  refine fb_iaC (n := (11085 + zj - 3072)) (v := (0 : Int32)) X I 1 0 rfl rfl (nI_clamp (by omega)) (nI_pos (by omega)) (by omega) (hm (11085 + zj - 3072) (by omega) (by omega)) dX12_code_28 ?_
  exact fb_retRI X rfl rfl dX12_code_29

theorem c_code (l : Launch) (D : va_G) (cI cJ : ClassId) (za : Nat) (zr : Nat → Nat) (ze : fb_AR) (zm : fb_AR) (l1 : Int32) (sz : Nat) (hm : ∀ j, 1101 ≤ j → j < 12109 → zm j = 0) (a9 : zm 9 = (0 : Int32)) : Met l yX12_code (Cond.code yX12_code cX12_code 2 (some .int) :: fb_all) ({ frames := 3, cells := 0, slots := 0, locals := 80 } : Room) (fb_PP D (fb_ty D cI cJ) [.ref za, .int l1] (([fb_o12 za zr ze, fb_aw cI (zr 0) 16205 zm] : List va_W).flatten) sz) (vp_Si (fun r => r = (0 : Int32))) 0 0 (fun _ => False) := by
  obtain ⟨zj, hz, he⟩ := pk_andE l1 (m := 4095) 12 (by decide)
  by_cases h1 : zj < 1792
  · exact c_code_1 l D cI cJ za zr ze zm l1 zj sz hm a9 he h1
  · by_cases h2 : zj < 2048
    · exact c_code_0 l D cI cJ za zr ze zm l1 zj sz hm a9 he ⟨by omega, h2⟩
    · by_cases h3 : zj < 3072
      · exact c_code_2 l D cI cJ za zr ze zm l1 zj sz hm a9 he ⟨by omega, h3⟩
      · exact c_code_3 l D cI cJ za zr ze zm l1 zj sz hm a9 he ⟨by omega, by omega⟩

set_option maxHeartbeats 4000000 in
set_option maxRecDepth 100000 in
theorem c_vector (l : Launch) (D : va_G) (cI cJ : ClassId) (za : Nat) (zr : Nat → Nat) (ze : fb_AR) (zm : fb_AR) (l1 : Int32) (sz : Nat) (hm : ∀ j, 1101 ≤ j → j < 12109 → zm j = 0) (a9 : zm 9 = (0 : Int32)) : Met l yX12_vector (Cond.code yX12_vector cX12_vector 2 (some .int) :: fb_all) ({ frames := 4, cells := 0, slots := 0, locals := 101 } : Room) (fb_PP D (fb_ty D cI cJ) [.ref za, .int l1] (([fb_o12 za zr ze, fb_aw cI (zr 0) 16205 zm] : List va_W).flatten) sz) (vp_Si (fun r => r = (0 : Int32))) 0 0 (fun _ => False) := by
  refine fb_entR (by decide +kernel) (Nat.le_of_ble_eq_true rfl) ?_
  intro p e s m args below meth c A ls X I hl hin
  obtain ⟨hx, hb, hr, hml, hown, hts, hlk, hA, hK, hF⟩ := id X
  have hl : lv_has ls 2 [(0, .ref za), (1, .int l1)] := hl
  refine lv_aload_n hx hb dX12_vector_0 rfl (lv_at hl 0 rfl) ?_
  refine lv_sipush (v := (4080 : Int32)) hx hb dX12_vector_1 (by decide) ?_
  refine lv_iconst (v := (2 : Int32)) hx hb dX12_vector_4 (by decide) ?_
  refine lv_iload_n hx hb dX12_vector_5 rfl (lv_at hl 1 rfl) ?_
  refine lv_imul hx hb dX12_vector_6 ?_
  refine lv_iadd hx hb dX12_vector_7 ?_
  refine fb_gO (cs := [fb_o12 za zr ze, fb_aw cI (zr 0) 16205 zm]) (rs := []) X I [0, 1] 2 rfl (by decide +kernel) rfl rfl (fun I => fb_rV (As := [.int ((4080 : Int32) + ((2 : Int32) * l1))]) (rest := []) X hl (fb_goodV fw_1949 fw_1951 fw_86 fw_204 fw_1952) (c_code l D cI cJ za zr ze zm ((4080 : Int32) + ((2 : Int32) * l1)) _ hm a9) rfl rfl rfl (by decide +kernel : fb_hd yX12_code 1) ⟨Nat.le_of_ble_eq_true rfl, Nat.le_of_ble_eq_true rfl⟩ rfl rfl rfl rfl rfl (Nat.le_of_ble_eq_true rfl) ⟨Nat.zero_le _, Nat.zero_le _⟩ dX12_vector_8 I) ?_
  refine lv_sipush (v := (256 : Int32)) hx hb dX12_vector_11 (by decide) ?_
  refine lv_aload_n hx hb dX12_vector_14 rfl (lv_at hl 0 rfl) ?_
  refine lv_sipush (v := (4081 : Int32)) hx hb dX12_vector_15 (by decide) ?_
  refine lv_iconst (v := (2 : Int32)) hx hb dX12_vector_18 (by decide) ?_
  refine lv_iload_n hx hb dX12_vector_19 rfl (lv_at hl 1 rfl) ?_
  refine lv_imul hx hb dX12_vector_20 ?_
  refine lv_iadd hx hb dX12_vector_21 ?_
  refine fb_gO (cs := [fb_o12 za zr ze, fb_aw cI (zr 0) 16205 zm]) (rs := []) X I [0, 1] 2 rfl (by decide +kernel) rfl rfl (fun I => fb_rV (As := [.int ((4081 : Int32) + ((2 : Int32) * l1))]) (rest := [.int (256 : Int32), .int (0 : Int32)]) X hl (fb_goodV fw_1949 fw_1951 fw_86 fw_204 fw_1952) (c_code l D cI cJ za zr ze zm ((4081 : Int32) + ((2 : Int32) * l1)) _ hm a9) rfl rfl rfl (by decide +kernel : fb_hd yX12_code 1) ⟨Nat.le_of_ble_eq_true rfl, Nat.le_of_ble_eq_true rfl⟩ rfl rfl rfl rfl rfl (Nat.le_of_ble_eq_true rfl) ⟨Nat.zero_le _, Nat.zero_le _⟩ dX12_vector_22 I) ?_
  refine lv_imul hx hb dX12_vector_25 ?_
  refine fb_tI (v := (0 : Int32)) (by decide) ?_
  refine lv_iadd hx hb dX12_vector_26 ?_
  refine fb_tI (v := (0 : Int32)) (by decide) ?_
  refine lv_sipush (v := (4095 : Int32)) hx hb dX12_vector_27 (by decide) ?_
  refine lv_iand hx hb dX12_vector_30 ?_
  refine fb_tI (v := (0 : Int32)) (by decide) ?_
  exact fb_retRI X rfl rfl dX12_vector_31

set_option maxHeartbeats 4000000 in
set_option maxRecDepth 100000 in
theorem c_lines (l : Launch) (D : va_G) (cI cJ : ClassId) (za : Nat) (zr : Nat → Nat) (ze : fb_AR) (zm : fb_AR) (sz : Nat) (a11 : zm 11 = (0 : Int32)) (a10 : zm 10 = (0 : Int32)) : Met l yX12_lines (Cond.code yX12_lines cX12_lines 1 (some .int) :: fb_all) ({ frames := 1, cells := 0, slots := 0, locals := 30 } : Room) (fb_PP D (fb_ty D cI cJ) [.ref za] (([fb_o12 za zr ze, fb_aw cI (zr 0) 16205 zm] : List va_W).flatten) sz) (vp_Si (fun r => r = (0 : Int32))) 0 0 (fun _ => False) := by
  refine fb_entR (by decide +kernel) (Nat.le_of_ble_eq_true rfl) ?_
  intro p e s m args below meth c A ls X I hl hin
  obtain ⟨hx, hb, hr, hml, hown, hts, hlk, hA, hK, hF⟩ := id X
  have hl : lv_has ls 1 [(0, .ref za)] := hl
  refine lv_aload_n hx hb dX12_lines_0 rfl (lv_at hl 0 rfl) ?_
  refine fb_get X I (k := 0) (v := .ref (zr 0)) fu_X12 0 fb_h12 rfl (Nat.le_of_ble_eq_true rfl) fw_1964 rfl rfl dX12_lines_1 ?_
  refine lv_bipush (v := (11 : Int32)) hx hb dX12_lines_4 (by decide) ?_
  refine fb_iaC (n := 11) (v := (0 : Int32)) X I 1 0 rfl rfl (by decide) (by decide) (Nat.le_of_ble_eq_true rfl) a11 dX12_lines_6 ?_
  refine lv_aload_n hx hb dX12_lines_7 rfl (lv_at hl 0 rfl) ?_
  refine fb_get X I (k := 0) (v := .ref (zr 0)) fu_X12 0 fb_h12 rfl (Nat.le_of_ble_eq_true rfl) fw_1964 rfl rfl dX12_lines_8 ?_
  refine lv_bipush (v := (10 : Int32)) hx hb dX12_lines_11 (by decide) ?_
  refine fb_iaC (n := 10) (v := (0 : Int32)) X I 1 0 rfl rfl (by decide) (by decide) (Nat.le_of_ble_eq_true rfl) a10 dX12_lines_13 ?_
  refine lv_iand hx hb dX12_lines_14 ?_
  refine fb_tI (v := (0 : Int32)) (by decide) ?_
  refine lv_bipush (v := (15 : Int32)) hx hb dX12_lines_15 (by decide) ?_
  refine lv_iand hx hb dX12_lines_17 ?_
  refine fb_tI (v := (0 : Int32)) (by decide) ?_
  exact fb_retRI X rfl rfl dX12_lines_18

set_option maxHeartbeats 4000000 in
set_option maxRecDepth 100000 in
theorem c_is_I (l : Launch) (D : va_G) (cI cJ : ClassId) (za : Nat) (zr : Nat → Nat) (ze : fb_AR) (zm : fb_AR) (sz : Nat) (a3 : zm 3 = (4 : Int32)) : Met l yX12_is (Cond.code yX12_is cX12_is 2 (some .boolean) :: fb_all) ({ frames := 1, cells := 0, slots := 0, locals := 30 } : Room) (fb_PP D (fb_ty D cI cJ) [.ref za, .int (4 : Int32)] (([fb_o12 za zr ze, fb_aw cI (zr 0) 16205 zm] : List va_W).flatten) sz) (vp_Si (fun r => r = (1 : Int32))) 0 0 (fun _ => False) := by
  refine fb_entR (by decide +kernel) (Nat.le_of_ble_eq_true rfl) ?_
  intro p e s m args below meth c A ls X I hl hin
  obtain ⟨hx, hb, hr, hml, hown, hts, hlk, hA, hK, hF⟩ := id X
  have hl : lv_has ls 2 [(0, .ref za), (1, .int (4 : Int32))] := hl
  refine lv_aload_n hx hb dX12_is_0 rfl (lv_at hl 0 rfl) ?_
  refine fb_get X I (k := 0) (v := .ref (zr 0)) fu_X12 0 fb_h12 rfl (Nat.le_of_ble_eq_true rfl) fw_1964 rfl rfl dX12_is_1 ?_
  refine lv_iconst (v := (3 : Int32)) hx hb dX12_is_4 (by decide) ?_
  refine fb_iaC (n := 3) (v := (4 : Int32)) X I 1 0 rfl rfl (by decide) (by decide) (Nat.le_of_ble_eq_true rfl) a3 dX12_is_5 ?_
  refine lv_iload_n hx hb dX12_is_6 rfl (lv_at hl 1 rfl) ?_
  refine lv_iand hx hb dX12_is_7 ?_
  refine fb_tI (v := (4 : Int32)) (by decide) ?_
  refine lv_if_eq (tgt := 15) hx hb dX12_is_8 (by decide) (fun c1 => absurd c1 (by decide)) (fun _ => ?_)
  refine lv_iconst (v := (1 : Int32)) hx hb dX12_is_11 (by decide) ?_
  refine lv_goto (tgt := 16) hx hb dX12_is_12 (by decide) ?_
  exact fb_retRI X rfl rfl dX12_is_16

set_option maxHeartbeats 4000000 in
set_option maxRecDepth 100000 in
theorem c_isVectorNext (l : Launch) (D : va_G) (cI cJ : ClassId) (za : Nat) (zr : Nat → Nat) (ze : fb_AR) (zm : fb_AR) (sz : Nat) (a6 : zm 6 = (0 : Int32)) (a3 : zm 3 = (4 : Int32)) : Met l yX12_isVectorNext (Cond.code yX12_isVectorNext cX12_isVectorNext 1 (some .boolean) :: fb_all) ({ frames := 2, cells := 0, slots := 0, locals := 51 } : Room) (fb_PP D (fb_ty D cI cJ) [.ref za] (([fb_o12 za zr ze, fb_aw cI (zr 0) 16205 zm] : List va_W).flatten) sz) (vp_Si (fun r => r = (0 : Int32))) 0 0 (fun _ => False) := by
  refine fb_entR (by decide +kernel) (Nat.le_of_ble_eq_true rfl) ?_
  intro p e s m args below meth c A ls X I hl hin
  obtain ⟨hx, hb, hr, hml, hown, hts, hlk, hA, hK, hF⟩ := id X
  have hl : lv_has ls 1 [(0, .ref za)] := hl
  refine lv_aload_n hx hb dX12_isVectorNext_0 rfl (lv_at hl 0 rfl) ?_
  refine fb_get X I (k := 0) (v := .ref (zr 0)) fu_X12 0 fb_h12 rfl (Nat.le_of_ble_eq_true rfl) fw_1964 rfl rfl dX12_isVectorNext_1 ?_
  refine lv_bipush (v := (6 : Int32)) hx hb dX12_isVectorNext_4 (by decide) ?_
  refine fb_iaC (n := 6) (v := (0 : Int32)) X I 1 0 rfl rfl (by decide) (by decide) (Nat.le_of_ble_eq_true rfl) a6 dX12_isVectorNext_6 ?_
  refine lv_iconst (v := (1 : Int32)) hx hb dX12_isVectorNext_7 (by decide) ?_
  refine lv_icmp_eq (tgt := 26) hx hb dX12_isVectorNext_8 (by decide) (fun c1 => absurd c1 (by decide)) (fun _ => ?_)
  refine lv_aload_n hx hb dX12_isVectorNext_11 rfl (lv_at hl 0 rfl) ?_
  refine lv_iconst (v := (4 : Int32)) hx hb dX12_isVectorNext_12 (by decide) ?_
  refine fb_gO (cs := [fb_o12 za zr ze, fb_aw cI (zr 0) 16205 zm]) (rs := []) X I [0, 1] 2 rfl (by decide +kernel) rfl rfl (fun I => fb_rV (As := [.int (4 : Int32)]) (rest := []) X hl (fb_goodV fw_2488 fw_2490 fw_159 fw_204 fw_2491) (c_is_I l D cI cJ za zr ze zm _ a3) rfl rfl rfl (by decide +kernel : fb_hd yX12_is 1) ⟨Nat.le_of_ble_eq_true rfl, Nat.le_of_ble_eq_true rfl⟩ rfl rfl rfl rfl rfl (Nat.le_of_ble_eq_true rfl) ⟨Nat.zero_le _, Nat.zero_le _⟩ dX12_isVectorNext_13 I) ?_
  refine lv_if_ne (tgt := 30) hx hb dX12_isVectorNext_16 (by decide) (fun _ => ?_) (fun c2 => absurd c2 (by decide))
  refine lv_iconst (v := (0 : Int32)) hx hb dX12_isVectorNext_30 (by decide) ?_
  exact fb_retRI X rfl rfl dX12_isVectorNext_31

set_option maxHeartbeats 4000000 in
set_option maxRecDepth 100000 in
theorem c_isOver (l : Launch) (D : va_G) (cI cJ : ClassId) (za : Nat) (zr : Nat → Nat) (ze : fb_AR) (zm : fb_AR) (sz : Nat) (a5 : zm 5 = (0 : Int32)) : Met l yX12_isOver (Cond.code yX12_isOver cX12_isOver 1 (some .boolean) :: fb_all) ({ frames := 1, cells := 0, slots := 0, locals := 30 } : Room) (fb_PP D (fb_ty D cI cJ) [.ref za] (([fb_o12 za zr ze, fb_aw cI (zr 0) 16205 zm] : List va_W).flatten) sz) (vp_Si (fun r => r = (0 : Int32))) 0 0 (fun _ => False) := by
  refine fb_entR (by decide +kernel) (Nat.le_of_ble_eq_true rfl) ?_
  intro p e s m args below meth c A ls X I hl hin
  obtain ⟨hx, hb, hr, hml, hown, hts, hlk, hA, hK, hF⟩ := id X
  have hl : lv_has ls 1 [(0, .ref za)] := hl
  refine lv_aload_n hx hb dX12_isOver_0 rfl (lv_at hl 0 rfl) ?_
  refine fb_get X I (k := 0) (v := .ref (zr 0)) fu_X12 0 fb_h12 rfl (Nat.le_of_ble_eq_true rfl) fw_1964 rfl rfl dX12_isOver_1 ?_
  refine lv_iconst (v := (5 : Int32)) hx hb dX12_isOver_4 (by decide) ?_
  refine fb_iaC (n := 5) (v := (0 : Int32)) X I 1 0 rfl rfl (by decide) (by decide) (Nat.le_of_ble_eq_true rfl) a5 dX12_isOver_5 ?_
  refine lv_iconst (v := (2 : Int32)) hx hb dX12_isOver_6 (by decide) ?_
  refine lv_icmp_lt (tgt := 14) hx hb dX12_isOver_7 (by decide) (fun _ => ?_) (fun c1 => absurd (by decide) c1)
  refine lv_iconst (v := (0 : Int32)) hx hb dX12_isOver_14 (by decide) ?_
  exact fb_retRI X rfl rfl dX12_isOver_15

set_option maxHeartbeats 4000000 in
set_option maxRecDepth 100000 in
theorem c_over (l : Launch) (D : va_G) (cI cJ : ClassId) (za : Nat) (zr : Nat → Nat) (ze : fb_AR) (zm : fb_AR) (sz : Nat) (a5 : zm 5 = (0 : Int32)) : Met l yX12_over (Cond.code yX12_over cX12_over 1 (some .int) :: fb_all) ({ frames := 1, cells := 0, slots := 0, locals := 30 } : Room) (fb_PP D (fb_ty D cI cJ) [.ref za] (([fb_o12 za zr ze, fb_aw cI (zr 0) 16205 zm] : List va_W).flatten) sz) (vp_Si (fun r => r = (0 : Int32))) 0 0 (fun _ => False) := by
  refine fb_entR (by decide +kernel) (Nat.le_of_ble_eq_true rfl) ?_
  intro p e s m args below meth c A ls X I hl hin
  obtain ⟨hx, hb, hr, hml, hown, hts, hlk, hA, hK, hF⟩ := id X
  have hl : lv_has ls 1 [(0, .ref za)] := hl
  refine lv_aload_n hx hb dX12_over_0 rfl (lv_at hl 0 rfl) ?_
  refine fb_get X I (k := 0) (v := .ref (zr 0)) fu_X12 0 fb_h12 rfl (Nat.le_of_ble_eq_true rfl) fw_1964 rfl rfl dX12_over_1 ?_
  refine lv_iconst (v := (5 : Int32)) hx hb dX12_over_4 (by decide) ?_
  refine fb_iaC (n := 5) (v := (0 : Int32)) X I 1 0 rfl rfl (by decide) (by decide) (Nat.le_of_ble_eq_true rfl) a5 dX12_over_5 ?_
  refine lv_iconst (v := (2 : Int32)) hx hb dX12_over_6 (by decide) ?_
  refine lv_icmp_ne (tgt := 14) hx hb dX12_over_7 (by decide) (fun _ => ?_) (fun c1 => absurd c1 (by decide))
  refine lv_aload_n hx hb dX12_over_14 rfl (lv_at hl 0 rfl) ?_
  refine fb_get X I (k := 0) (v := .ref (zr 0)) fu_X12 0 fb_h12 rfl (Nat.le_of_ble_eq_true rfl) fw_1964 rfl rfl dX12_over_15 ?_
  refine lv_iconst (v := (5 : Int32)) hx hb dX12_over_18 (by decide) ?_
  refine fb_iaC (n := 5) (v := (0 : Int32)) X I 1 0 rfl rfl (by decide) (by decide) (Nat.le_of_ble_eq_true rfl) a5 dX12_over_19 ?_
  refine lv_iconst (v := (3 : Int32)) hx hb dX12_over_20 (by decide) ?_
  refine lv_icmp_ne (tgt := 28) hx hb dX12_over_21 (by decide) (fun _ => ?_) (fun c2 => absurd c2 (by decide))
  refine lv_iconst (v := (0 : Int32)) hx hb dX12_over_28 (by decide) ?_
  exact fb_retRI X rfl rfl dX12_over_29

set_option maxHeartbeats 4000000 in
set_option maxRecDepth 100000 in
theorem c_tick (l : Launch) (D : va_G) (cI cJ : ClassId) (za : Nat) (zr : Nat → Nat) (ze : fb_AR) (zm : fb_AR) (sz : Nat) (a14 : zm 14 = (0 : Int32)) : Met l yX12_tick (Cond.code yX12_tick cX12_tick 1 none :: fb_all) ({ frames := 1, cells := 0, slots := 0, locals := 30 } : Room) (fb_PP D (fb_ty D cI cJ) [.ref za] (([fb_o12 za zr ze, fb_aw cI (zr 0) 16205 zm] : List va_W).flatten) sz) (fb_QV D (va_A (([fb_o12 za zr ze, fb_aw cI (zr 0) 16205 zm] : List va_W).flatten) sz) (fun (_ : Unit) => True) (fun (t : Unit) => ([fb_o12 za zr ze, fb_aw cI (zr 0) 16205 zm] : List va_W).flatten)) 0 0 (va_A (([fb_o12 za zr ze, fb_aw cI (zr 0) 16205 zm] : List va_W).flatten) sz) := by
  refine fb_ent (Qf := fun A => (fb_QV D A (fun (_ : Unit) => True) (fun (t : Unit) => ([fb_o12 za zr ze, fb_aw cI (zr 0) 16205 zm] : List va_W).flatten))) (by decide +kernel) (Nat.le_of_ble_eq_true rfl) ?_
  intro p e s m args below meth c A ls X I hl hin
  obtain ⟨hx, hb, hr, hml, hown, hts, hlk, hA, hK, hF⟩ := id X
  have hl : lv_has ls 1 [(0, .ref za)] := hl
  refine lv_aload_n hx hb dX12_tick_0 rfl (lv_at hl 0 rfl) ?_
  refine fb_get X I (k := 0) (v := .ref (zr 0)) fu_X12 0 fb_h12 rfl (Nat.le_of_ble_eq_true rfl) fw_1964 rfl rfl dX12_tick_1 ?_
  refine lv_bipush (v := (14 : Int32)) hx hb dX12_tick_4 (by decide) ?_
  refine fb_iaC (n := 14) (v := (0 : Int32)) X I 1 0 rfl rfl (by decide) (by decide) (Nat.le_of_ble_eq_true rfl) a14 dX12_tick_6 ?_
  refine lv_iconst (v := (2 : Int32)) hx hb dX12_tick_7 (by decide) ?_
  refine lv_irem hx hb dX12_tick_8 (by decide) ?_
  refine fb_tI (v := (0 : Int32)) (by decide) ?_
  refine lv_if_ne (tgt := 13) hx hb dX12_tick_9 (by decide) (fun c1 => absurd (by decide) c1) (fun _ => ?_)
  exact fb_retV (u := ()) X I trivial dX12_tick_12

set_option maxHeartbeats 4000000 in
set_option maxRecDepth 100000 in
theorem c_breakAt (l : Launch) (D : va_G) (cI cJ : ClassId) (za : Nat) (zr : Nat → Nat) (ze : fb_AR) (l1 : Int32) (sz : Nat) (h13 : ze 13 = (0 : Int32)) : Met l yX12_breakAt (Cond.code yX12_breakAt cX12_breakAt 3 (some .int) :: fb_all) ({ frames := 1, cells := 0, slots := 0, locals := 30 } : Room) (fb_PP D (fb_ty D cI cJ) [.ref za, .int l1] (([fb_o12 za zr ze] : List va_W).flatten) sz) (vp_Si (fun r => r = (-1 : Int32))) 0 0 (fun _ => False) := by
  refine fb_entR (by decide +kernel) (Nat.le_of_ble_eq_true rfl) ?_
  intro p e s m args below meth c A ls X I hl hin
  obtain ⟨hx, hb, hr, hml, hown, hts, hlk, hA, hK, hF⟩ := id X
  have hl : lv_has ls 3 [(0, .ref za), (1, .int l1)] := hl
  refine lv_iconst (v := (0 : Int32)) hx hb dX12_breakAt_0 (by decide) ?_
  refine lv_istore_n (lv' := [(2, .int (0 : Int32)), (0, .ref za), (1, .int l1)]) hx hb dX12_breakAt_1 rfl hl (by decide) rfl (fun ls hl => ?_)
  refine lv_iload_n hx hb dX12_breakAt_2 rfl (lv_at hl 0 rfl) ?_
  refine lv_aload_n hx hb dX12_breakAt_3 rfl (lv_at hl 1 rfl) ?_
  refine fb_get X I (k := 13) (v := .int (ze 13)) fu_X12 0 fb_h12 rfl (Nat.le_of_ble_eq_true rfl) fw_1977 rfl rfl dX12_breakAt_4 ?_
  refine fb_tI (v := (0 : Int32)) h13 ?_
  refine lv_icmp_ge (tgt := 28) hx hb dX12_breakAt_7 (by decide) (fun _ => ?_) (fun c1 => absurd (by decide) c1)
  refine lv_iconst (v := (-1 : Int32)) hx hb dX12_breakAt_28 (by decide) ?_
  exact fb_retRI X rfl rfl dX12_breakAt_29

set_option maxHeartbeats 4000000 in
set_option maxRecDepth 100000 in
theorem c_isStopped (l : Launch) (D : va_G) (cI cJ : ClassId) (za : Nat) (zr : Nat → Nat) (ze : fb_AR) (zm : fb_AR) (sz : Nat) (a5 : zm 5 = (0 : Int32)) (a6 : zm 6 = (0 : Int32)) (a3 : zm 3 = (4 : Int32)) (h13 : ze 13 = (0 : Int32)) : Met l yX12_isStoppedByBreak (Cond.code yX12_isStoppedByBreak cX12_isStoppedByBreak 2 (some .boolean) :: fb_all) ({ frames := 3, cells := 0, slots := 0, locals := 71 } : Room) (fb_PP D (fb_ty D cI cJ) [.ref za] (([fb_o12 za zr ze, fb_aw cI (zr 0) 16205 zm] : List va_W).flatten) sz) (vp_Si (fun r => r = (0 : Int32))) 0 0 (fun _ => False) := by
  refine fb_entR (by decide +kernel) (Nat.le_of_ble_eq_true rfl) ?_
  intro p e s m args below meth c A ls X I hl hin
  obtain ⟨hx, hb, hr, hml, hown, hts, hlk, hA, hK, hF⟩ := id X
  have hl : lv_has ls 2 [(0, .ref za)] := hl
  refine lv_aload_n hx hb dX12_isStoppedByBreak_0 rfl (lv_at hl 0 rfl) ?_
  refine fb_get X I (k := 0) (v := .ref (zr 0)) fu_X12 0 fb_h12 rfl (Nat.le_of_ble_eq_true rfl) fw_1964 rfl rfl dX12_isStoppedByBreak_1 ?_
  refine lv_iconst (v := (5 : Int32)) hx hb dX12_isStoppedByBreak_4 (by decide) ?_
  refine fb_iaC (n := 5) (v := (0 : Int32)) X I 1 0 rfl rfl (by decide) (by decide) (Nat.le_of_ble_eq_true rfl) a5 dX12_isStoppedByBreak_5 ?_
  refine lv_if_ne (tgt := 16) hx hb dX12_isStoppedByBreak_6 (by decide) (fun c1 => absurd (by decide) c1) (fun _ => ?_)
  refine lv_aload_n hx hb dX12_isStoppedByBreak_9 rfl (lv_at hl 0 rfl) ?_
  refine fb_gO (cs := [fb_o12 za zr ze, fb_aw cI (zr 0) 16205 zm]) (rs := []) X I [0, 1] 2 rfl (by decide +kernel) rfl rfl (fun I => fb_rV (As := []) (rest := []) X hl (fb_goodV fw_2578 fw_2580 fw_179 fw_204 fw_2581) (c_isVectorNext l D cI cJ za zr ze zm _ a6 a3) rfl rfl rfl (by decide +kernel : fb_hd yX12_isVectorNext 0) ⟨Nat.le_of_ble_eq_true rfl, Nat.le_of_ble_eq_true rfl⟩ rfl rfl rfl rfl rfl (Nat.le_of_ble_eq_true rfl) ⟨Nat.zero_le _, Nat.zero_le _⟩ dX12_isStoppedByBreak_10 I) ?_
  refine lv_if_eq (tgt := 18) hx hb dX12_isStoppedByBreak_13 (by decide) (fun _ => ?_) (fun c2 => absurd (by decide) c2)
  refine lv_aload_n hx hb dX12_isStoppedByBreak_18 rfl (lv_at hl 0 rfl) ?_
  refine lv_aload_n hx hb dX12_isStoppedByBreak_19 rfl (lv_at hl 0 rfl) ?_
  refine fb_get X I (k := 0) (v := .ref (zr 0)) fu_X12 0 fb_h12 rfl (Nat.le_of_ble_eq_true rfl) fw_1964 rfl rfl dX12_isStoppedByBreak_20 ?_
  refine lv_iconst (v := (4 : Int32)) hx hb dX12_isStoppedByBreak_23 (by decide) ?_
  refine fb_iaC (n := 4) (v := (zm 4)) X I 1 0 rfl rfl (by decide) (by decide) (Nat.le_of_ble_eq_true rfl) rfl dX12_isStoppedByBreak_24 ?_
  refine fb_gO (cs := [fb_o12 za zr ze]) (rs := [fb_aw cI (zr 0) 16205 zm]) X I [0, 1] 2 rfl (by decide +kernel) rfl rfl (fun I => fb_rV (As := [.int (zm 4)]) (rest := []) X hl (fb_goodV fw_2582 fw_2584 fw_180 fw_204 fw_2585) (c_breakAt l D cI cJ za zr ze (zm 4) _ h13) rfl rfl rfl (by decide +kernel : fb_hd yX12_breakAt 1) ⟨Nat.le_of_ble_eq_true rfl, Nat.le_of_ble_eq_true rfl⟩ rfl rfl rfl rfl rfl (Nat.le_of_ble_eq_true rfl) ⟨Nat.zero_le _, Nat.zero_le _⟩ dX12_isStoppedByBreak_25 I) ?_
  refine lv_istore_n (lv' := [(1, .int (-1 : Int32)), (0, .ref za)]) hx hb dX12_isStoppedByBreak_28 rfl hl (by decide) rfl (fun ls hl => ?_)
  refine lv_iload_n hx hb dX12_isStoppedByBreak_29 rfl (lv_at hl 0 rfl) ?_
  refine lv_if_ge (tgt := 35) hx hb dX12_isStoppedByBreak_30 (by decide) (fun c3 => absurd c3 (by decide)) (fun _ => ?_)
  refine lv_iconst (v := (0 : Int32)) hx hb dX12_isStoppedByBreak_33 (by decide) ?_
  exact fb_retRI X rfl rfl dX12_isStoppedByBreak_34

theorem hm_up {f : fb_AR} {n : Nat} {v : Int32} (h : n < 1101 ∨ 12109 ≤ n) (H : ∀ j, 1101 ≤ j → j < 12109 → f j = 0) : ∀ j, 1101 ≤ j → j < 12109 → upd f n v j = 0 := fun j a b => (pk_un (by omega)).trans (H j a b)

set_option maxHeartbeats 4000000 in
set_option maxRecDepth 100000 in
theorem c_put_n (l : Launch) (D : va_G) (cI cJ : ClassId) (za : Nat) (zr : Nat → Nat) (ze : fb_AR) (zm : fb_AR) (zj : Nat) (l2 : Int32) (sz : Nat) (hj : zj < 16205) (h5 : ze 5 = (0 : Int32)) : Met l yX12_put (Cond.code yX12_put cX12_put 4 none :: fb_all) ({ frames := 1, cells := 0, slots := 0, locals := 30 } : Room) (fb_PP D (fb_ty D cI cJ) [.ref za, .int (nI zj), .int l2] (([fb_o12 za zr ze, fb_aw cI (zr 0) 16205 zm] : List va_W).flatten) sz) (fb_QV D (va_A (([fb_o12 za zr ze, fb_aw cI (zr 0) 16205 zm] : List va_W).flatten) sz) (fun (_ : Unit) => True) (fun (t : Unit) => ([fb_o12 za zr ze, fb_aw cI (zr 0) 16205 (upd zm zj l2)] : List va_W).flatten)) 0 0 (va_A (([fb_o12 za zr ze, fb_aw cI (zr 0) 16205 zm] : List va_W).flatten) sz) := by
  refine fb_ent (Qf := fun A => (fb_QV D A (fun (_ : Unit) => True) (fun (t : Unit) => ([fb_o12 za zr ze, fb_aw cI (zr 0) 16205 (upd zm zj l2)] : List va_W).flatten))) (by decide +kernel) (Nat.le_of_ble_eq_true rfl) ?_
  intro p e s m args below meth c A ls X I hl hin
  obtain ⟨hx, hb, hr, hml, hown, hts, hlk, hA, hK, hF⟩ := id X
  have hl : lv_has ls 4 [(0, .ref za), (1, .int (nI zj)), (2, .int l2)] := hl
  refine lv_aload_n hx hb dX12_put_0 rfl (lv_at hl 0 rfl) ?_
  refine fb_get X I (k := 5) (v := .int (ze 5)) fu_X12 0 fb_h12 rfl (Nat.le_of_ble_eq_true rfl) fw_1969 rfl rfl dX12_put_1 ?_
  refine fb_tI (v := (0 : Int32)) h5 ?_
  refine lv_if_eq (tgt := 87) hx hb dX12_put_4 (by decide) (fun _ => ?_) (fun c1 => absurd (by decide) c1)
  refine lv_aload_n hx hb dX12_put_87 rfl (lv_at hl 0 rfl) ?_
  refine fb_get X I (k := 0) (v := .ref (zr 0)) fu_X12 0 fb_h12 rfl (Nat.le_of_ble_eq_true rfl) fw_1964 rfl rfl dX12_put_88 ?_
  refine lv_iload_n hx hb dX12_put_91 rfl (lv_at hl 1 rfl) ?_
  refine lv_iload_n hx hb dX12_put_92 rfl (lv_at hl 2 rfl) ?_
  refine fb_isC (n := zj) (wn := ([fb_o12 za zr ze, fb_aw cI (zr 0) 16205 (upd zm zj l2)] : List va_W).flatten) X I 1 0 rfl rfl (nI_clamp (by omega)) (nI_pos (by omega)) (by omega) rfl dX12_put_93 (fun H locs I => ?_)
  exact fb_retV (u := ()) X I trivial dX12_put_94

set_option maxHeartbeats 4000000 in
set_option maxRecDepth 100000 in
theorem c_put_l (l : Launch) (D : va_G) (cI cJ : ClassId) (za : Nat) (zr : Nat → Nat) (ze : fb_AR) (zm : fb_AR) (zj : Nat) (l2 : Int32) (zl : fb_AR) (zg : Nat) (sz : Nat) (hj : zj < 16205) (h5 : ze 5 = (1 : Int32)) (h4 : ze 4 = nI zg) (hg : zg + 2 ≤ 64) : Met l yX12_put (Cond.code yX12_put cX12_put 4 none :: fb_all) ({ frames := 1, cells := 0, slots := 0, locals := 30 } : Room) (fb_PP D (fb_ty D cI cJ) [.ref za, .int (nI zj), .int l2] (([fb_o12 za zr ze, fb_aw cI (zr 0) 16205 zm, fb_aw cI (zr 3) 64 zl] : List va_W).flatten) sz) (fb_QV D (va_A (([fb_o12 za zr ze, fb_aw cI (zr 0) 16205 zm, fb_aw cI (zr 3) 64 zl] : List va_W).flatten) sz) (fun (_ : fb_AR) => True) (fun (t : fb_AR) => ([fb_o12 za zr (upd ze 4 (nI (zg + 2))), fb_aw cI (zr 0) 16205 (upd zm zj l2), fb_aw cI (zr 3) 64 t] : List va_W).flatten)) 0 0 (va_A (([fb_o12 za zr ze, fb_aw cI (zr 0) 16205 zm, fb_aw cI (zr 3) 64 zl] : List va_W).flatten) sz) := by
  refine fb_ent (Qf := fun A => (fb_QV D A (fun (_ : fb_AR) => True) (fun (t : fb_AR) => ([fb_o12 za zr (upd ze 4 (nI (zg + 2))), fb_aw cI (zr 0) 16205 (upd zm zj l2), fb_aw cI (zr 3) 64 t] : List va_W).flatten))) (by decide +kernel) (Nat.le_of_ble_eq_true rfl) ?_
  intro p e s m args below meth c A ls X I hl hin
  obtain ⟨hx, hb, hr, hml, hown, hts, hlk, hA, hK, hF⟩ := id X
  have hl : lv_has ls 4 [(0, .ref za), (1, .int (nI zj)), (2, .int l2)] := hl
  refine lv_aload_n hx hb dX12_put_0 rfl (lv_at hl 0 rfl) ?_
  refine fb_get X I (k := 5) (v := .int (ze 5)) fu_X12 0 fb_h12 rfl (Nat.le_of_ble_eq_true rfl) fw_1969 rfl rfl dX12_put_1 ?_
  refine fb_tI (v := (1 : Int32)) h5 ?_
  refine lv_if_eq (tgt := 87) hx hb dX12_put_4 (by decide) (fun c1 => absurd c1 (by decide)) (fun _ => ?_)
  refine lv_aload_n hx hb dX12_put_7 rfl (lv_at hl 0 rfl) ?_
  refine fb_get X I (k := 4) (v := .int (ze 4)) fu_X12 0 fb_h12 rfl (Nat.le_of_ble_eq_true rfl) fw_1968 rfl rfl dX12_put_8 ?_
  refine fb_tI (v := (nI zg)) h4 ?_
  refine lv_iconst (v := (2 : Int32)) hx hb dX12_put_11 (by decide) ?_
  refine lv_iadd hx hb dX12_put_12 ?_
  refine fb_tI (v := (nI (zg + 2))) (nI_add zg 2) ?_
  refine lv_aload_n hx hb dX12_put_13 rfl (lv_at hl 0 rfl) ?_
  refine fb_get X I (k := 3) (v := .ref (zr 3)) fu_X12 0 fb_h12 rfl (Nat.le_of_ble_eq_true rfl) fw_1967 rfl rfl dX12_put_14 ?_
  refine fb_alen (v := (64 : Int32)) X I 2 0 rfl rfl rfl dX12_put_17 ?_
  refine lv_icmp_le (tgt := 50) hx hb dX12_put_18 (by decide) (fun _ => ?_) (fun c2 => absurd (nI_le (a := (zg + 2)) (b := 64) (by omega) (by omega)) c2)
  refine lv_aload_n hx hb dX12_put_50 rfl (lv_at hl 0 rfl) ?_
  refine fb_get X I (k := 3) (v := .ref (zr 3)) fu_X12 0 fb_h12 rfl (Nat.le_of_ble_eq_true rfl) fw_1967 rfl rfl dX12_put_51 ?_
  refine lv_aload_n hx hb dX12_put_54 rfl (lv_at hl 0 rfl) ?_
  refine fb_get X I (k := 4) (v := .int (ze 4)) fu_X12 0 fb_h12 rfl (Nat.le_of_ble_eq_true rfl) fw_1968 rfl rfl dX12_put_55 ?_
  refine fb_tI (v := (nI zg)) h4 ?_
  refine lv_iload_n hx hb dX12_put_58 rfl (lv_at hl 1 rfl) ?_
  refine fb_isC (n := zg) (wn := ([fb_o12 za zr ze, fb_aw cI (zr 0) 16205 zm, fb_aw cI (zr 3) 64 (upd zl zg (nI zj))] : List va_W).flatten) X I 2 0 rfl rfl (nI_clamp (by omega)) (nI_pos (by omega)) (by omega) rfl dX12_put_59 (fun H locs I => ?_)
  refine lv_aload_n hx hb dX12_put_60 rfl (lv_at hl 0 rfl) ?_
  refine fb_get X I (k := 3) (v := .ref (zr 3)) fu_X12 0 fb_h12 rfl (Nat.le_of_ble_eq_true rfl) fw_1967 rfl rfl dX12_put_61 ?_
  refine lv_aload_n hx hb dX12_put_64 rfl (lv_at hl 0 rfl) ?_
  refine fb_get X I (k := 4) (v := .int (ze 4)) fu_X12 0 fb_h12 rfl (Nat.le_of_ble_eq_true rfl) fw_1968 rfl rfl dX12_put_65 ?_
  refine fb_tI (v := (nI zg)) h4 ?_
  refine lv_iconst (v := (1 : Int32)) hx hb dX12_put_68 (by decide) ?_
  refine lv_iadd hx hb dX12_put_69 ?_
  refine fb_tI (v := (nI (zg + 1))) (nI_add zg 1) ?_
  refine lv_aload_n hx hb dX12_put_70 rfl (lv_at hl 0 rfl) ?_
  refine fb_get X I (k := 0) (v := .ref (zr 0)) fu_X12 0 fb_h12 rfl (Nat.le_of_ble_eq_true rfl) fw_1964 rfl rfl dX12_put_71 ?_
  refine lv_iload_n hx hb dX12_put_74 rfl (lv_at hl 1 rfl) ?_
  refine fb_iaC (n := zj) (v := (zm zj)) X I 1 0 rfl rfl (nI_clamp (by omega)) (nI_pos (by omega)) (by omega) rfl dX12_put_75 ?_
  refine fb_isC (n := (zg + 1)) (wn := ([fb_o12 za zr ze, fb_aw cI (zr 0) 16205 zm, fb_aw cI (zr 3) 64 (upd (upd zl zg (nI zj)) (zg + 1) (zm zj))] : List va_W).flatten) X I 2 0 rfl rfl (nI_clamp (by omega)) (nI_pos (by omega)) (by omega) rfl dX12_put_76 (fun H locs I => ?_)
  refine lv_aload_n hx hb dX12_put_77 rfl (lv_at hl 0 rfl) ?_
  refine lv_dup hx hb dX12_put_78 rfl ?_
  refine fb_get X I (k := 4) (v := .int (ze 4)) fu_X12 0 fb_h12 rfl (Nat.le_of_ble_eq_true rfl) fw_1968 rfl rfl dX12_put_79 ?_
  refine fb_tI (v := (nI zg)) h4 ?_
  refine lv_iconst (v := (2 : Int32)) hx hb dX12_put_82 (by decide) ?_
  refine lv_iadd hx hb dX12_put_83 ?_
  refine fb_tI (v := (nI (zg + 2))) (nI_add zg 2) ?_
  refine fb_put X I (k := 4) (wn := ([fb_o12 za zr (upd ze 4 (nI (zg + 2))), fb_aw cI (zr 0) 16205 zm, fb_aw cI (zr 3) 64 (upd (upd zl zg (nI zj)) (zg + 1) (zm zj))] : List va_W).flatten) fu_X12 tyX12 tyX12_ok nmX12 0 fb_h12 rfl (Nat.le_of_ble_eq_true rfl) fw_1968 rfl rfl rfl rfl rfl (Nat.le_of_ble_eq_true rfl) fb_r12_4 dX12_put_84 (fun H locs I => ?_)
  refine lv_aload_n hx hb dX12_put_87 rfl (lv_at hl 0 rfl) ?_
  refine fb_get X I (k := 0) (v := .ref (zr 0)) fu_X12 0 fb_h12 rfl (Nat.le_of_ble_eq_true rfl) fw_1964 rfl rfl dX12_put_88 ?_
  refine lv_iload_n hx hb dX12_put_91 rfl (lv_at hl 1 rfl) ?_
  refine lv_iload_n hx hb dX12_put_92 rfl (lv_at hl 2 rfl) ?_
  refine fb_isC (n := zj) (wn := ([fb_o12 za zr (upd ze 4 (nI (zg + 2))), fb_aw cI (zr 0) 16205 (upd zm zj l2), fb_aw cI (zr 3) 64 (upd (upd zl zg (nI zj)) (zg + 1) (zm zj))] : List va_W).flatten) X I 1 0 rfl rfl (nI_clamp (by omega)) (nI_pos (by omega)) (by omega) rfl dX12_put_93 (fun H locs I => ?_)
  obtain ⟨w3, ew3⟩ : ∃ z : fb_AR, (upd (upd zl zg (nI zj)) (zg + 1) (zm zj)) = z := ⟨_, rfl⟩
  rw [ew3] at I
  exact fb_retV (u := (w3)) X I trivial dX12_put_94

