/-! the reference along a fresh object's road, laid by ref.py -/
set_option maxHeartbeats 4000000 in
set_option maxRecDepth 100000 in
theorem c_poke_out (l : Launch) (D : va_G) (cI cJ : ClassId) (za : Nat) (zr : Nat → Nat) (l1 : Int32) (l2 : Int32) (sz : Nat) (q1 : f_X12_isIn l1 (0 : Int32) (4095 : Int32) = (0 : Int32)) : Met l yX12_poke (Cond.code yX12_poke cX12_poke 4 (some .int) :: fb_all) ({ frames := 3, cells := 0, slots := 0, locals := 75 } : Room) (fb_PP D (fb_ty D cI cJ) [.ref za, .int l1, .int l2] (([fb_o12 za zr fr_e0] : List va_W).flatten) sz) (fb_QI D (va_A (([fb_o12 za zr fr_e0] : List va_W).flatten) sz) (fun (r : Int32) (_ : Unit) => r = (0 : Int32)) (fun (t : Unit) => ([fb_o12 za zr (upd (upd fr_e0 19 (0 : Int32)) 19 (1 : Int32))] : List va_W).flatten)) 0 0 (va_A (([fb_o12 za zr fr_e0] : List va_W).flatten) sz) := by
  refine fb_ent (Qf := fun A => (fb_QI D A (fun (r : Int32) (_ : Unit) => r = (0 : Int32)) (fun (t : Unit) => ([fb_o12 za zr (upd (upd fr_e0 19 (0 : Int32)) 19 (1 : Int32))] : List va_W).flatten))) (by decide +kernel) (Nat.le_of_ble_eq_true rfl) ?_
  intro p e s m args below meth c A ls X I hl hin
  obtain ⟨hx, hb, hr, hml, hown, hts, hlk, hA, hK, hF⟩ := id X
  have hl : lv_has ls 4 [(0, .ref za), (1, .int l1), (2, .int l2)] := hl
  refine lv_aload_n hx hb dX12_poke_0 rfl (lv_at hl 0 rfl) ?_
  refine lv_iload_n hx hb dX12_poke_1 rfl (lv_at hl 1 rfl) ?_
  refine lv_iconst (v := (0 : Int32)) hx hb dX12_poke_2 (by decide) ?_
  refine lv_sipush (v := (4095 : Int32)) hx hb dX12_poke_3 (by decide) ?_
  refine fb_gI (cs := [fb_o12 za zr fr_e0]) (rs := []) (fun (t : Unit) => [fb_o12 za zr (upd (upd fr_e0 19 (0 : Int32)) 19 (1 : Int32))]) (fun (t : Unit) => [fb_o12 za zr (upd (upd fr_e0 19 (0 : Int32)) 19 (1 : Int32))]) X I [0] 1 rfl (by decide +kernel) rfl rfl [0] 1 (fun _ => rfl) (by decide +kernel) (fun _ => rfl) (fun _ => rfl) (fun I => fb_rV (As := [.int l1, .int (0 : Int32), .int (4095 : Int32)]) (rest := []) X hl (fb_goodV fw_2346 fw_2348 fw_136 fw_204 fw_2349) (c_isNot_out l D cI cJ za zr fr_e0 l1 (0 : Int32) (4095 : Int32) _ q1) rfl rfl rfl (by decide +kernel : fb_hd yX12_isNot 3) ⟨Nat.le_of_ble_eq_true rfl, Nat.le_of_ble_eq_true rfl⟩ rfl rfl rfl rfl rfl (Nat.le_of_ble_eq_true rfl) ⟨Nat.zero_le _, Nat.zero_le _⟩ dX12_poke_6 I) ?_
  intro r2 w1 H locs e0 I
  subst e0
  have I : fb_In D A s.heap (([fb_o12 za zr (upd (upd fr_e0 19 (0 : Int32)) 19 (1 : Int32))] : List va_W).flatten) H locs := I
  refine lv_if_ne (tgt := 43) hx hb dX12_poke_9 (by decide) (fun _ => ?_) (fun c3 => absurd c3 (by decide))
  refine lv_iconst (v := (0 : Int32)) hx hb dX12_poke_43 (by decide) ?_
  exact fb_retI (u := ()) X I rfl rfl dX12_poke_44

set_option maxHeartbeats 4000000 in
set_option maxRecDepth 100000 in
theorem c_poke_port (l : Launch) (D : va_G) (cI cJ : ClassId) (za : Nat) (zr : Nat → Nat) (zj : Nat) (l2 : Int32) (sz : Nat) (hj : 1792 ≤ zj ∧ zj < 2048) : Met l yX12_poke (Cond.code yX12_poke cX12_poke 4 (some .int) :: fb_all) ({ frames := 3, cells := 0, slots := 0, locals := 75 } : Room) (fb_PP D (fb_ty D cI cJ) [.ref za, .int (nI zj), .int l2] (([fb_o12 za zr fr_e0] : List va_W).flatten) sz) (fb_QI D (va_A (([fb_o12 za zr fr_e0] : List va_W).flatten) sz) (fun (r : Int32) (_ : Unit) => r = (0 : Int32)) (fun (t : Unit) => ([fb_o12 za zr (upd (upd fr_e0 19 (0 : Int32)) 19 (1 : Int32))] : List va_W).flatten)) 0 0 (va_A (([fb_o12 za zr fr_e0] : List va_W).flatten) sz) := by
  refine fb_ent (Qf := fun A => (fb_QI D A (fun (r : Int32) (_ : Unit) => r = (0 : Int32)) (fun (t : Unit) => ([fb_o12 za zr (upd (upd fr_e0 19 (0 : Int32)) 19 (1 : Int32))] : List va_W).flatten))) (by decide +kernel) (Nat.le_of_ble_eq_true rfl) ?_
  intro p e s m args below meth c A ls X I hl hin
  obtain ⟨hx, hb, hr, hml, hown, hts, hlk, hA, hK, hF⟩ := id X
  have hl : lv_has ls 4 [(0, .ref za), (1, .int (nI zj)), (2, .int l2)] := hl
  refine lv_aload_n hx hb dX12_poke_0 rfl (lv_at hl 0 rfl) ?_
  refine lv_iload_n hx hb dX12_poke_1 rfl (lv_at hl 1 rfl) ?_
  refine lv_iconst (v := (0 : Int32)) hx hb dX12_poke_2 (by decide) ?_
  refine lv_sipush (v := (4095 : Int32)) hx hb dX12_poke_3 (by decide) ?_
  refine fb_gI (cs := [fb_o12 za zr fr_e0]) (rs := []) (fun (t : Unit) => [fb_o12 za zr (upd fr_e0 19 (0 : Int32))]) (fun (t : Unit) => [fb_o12 za zr (upd fr_e0 19 (0 : Int32))]) X I [0] 1 rfl (by decide +kernel) rfl rfl [0] 1 (fun _ => rfl) (by decide +kernel) (fun _ => rfl) (fun _ => rfl) (fun I => fb_rV (As := [.int (nI zj), .int (0 : Int32), .int (4095 : Int32)]) (rest := []) X hl (fb_goodV fw_2346 fw_2348 fw_136 fw_204 fw_2349) (c_isNot_in l D cI cJ za zr fr_e0 (nI zj) (0 : Int32) (4095 : Int32) _ (fr_inN (z := zj) (a := 0) (b := 4095) (by omega) (by omega) (by omega))) rfl rfl rfl (by decide +kernel : fb_hd yX12_isNot 3) ⟨Nat.le_of_ble_eq_true rfl, Nat.le_of_ble_eq_true rfl⟩ rfl rfl rfl rfl rfl (Nat.le_of_ble_eq_true rfl) ⟨Nat.zero_le _, Nat.zero_le _⟩ dX12_poke_6 I) ?_
  intro r2 w1 H locs e0 I
  subst e0
  have I : fb_In D A s.heap (([fb_o12 za zr (upd fr_e0 19 (0 : Int32))] : List va_W).flatten) H locs := I
  refine lv_if_ne (tgt := 43) hx hb dX12_poke_9 (by decide) (fun c3 => absurd (by decide) c3) (fun _ => ?_)
  refine lv_aload_n hx hb dX12_poke_12 rfl (lv_at hl 0 rfl) ?_
  refine lv_iload_n hx hb dX12_poke_13 rfl (lv_at hl 1 rfl) ?_
  refine fb_gO (cs := []) (rs := [fb_o12 za zr (upd fr_e0 19 (0 : Int32))]) X I [0] 1 rfl (by decide +kernel) rfl rfl (fun I => fb_rS (As := [.int (nI zj)]) (rest := [.ref za]) X hl (fb_goodS fw_1953 fw_1954 fw_204 fw_1955) (c_X12_isPort l D cI cJ (nI zj) _) rfl rfl (by decide +kernel : fb_hd yX12_isPort 1) ⟨Nat.le_of_ble_eq_true rfl, Nat.le_of_ble_eq_true rfl⟩ rfl rfl (Nat.le_of_ble_eq_true rfl) ⟨Nat.le_of_ble_eq_true rfl, Nat.le_of_ble_eq_true rfl⟩ dX12_poke_14 I) ?_
  refine fb_tI (v := (1 : Int32)) (fr_yp hj) ?_
  refine lv_if_ne (tgt := 31) hx hb dX12_poke_17 (by decide) (fun _ => ?_) (fun c4 => absurd c4 (by decide))
  refine lv_iconst (v := (1 : Int32)) hx hb dX12_poke_31 (by decide) ?_
  refine lv_goto (tgt := 36) hx hb dX12_poke_32 (by decide) ?_
  refine lv_iconst (v := (1 : Int32)) hx hb dX12_poke_36 (by decide) ?_
  refine fb_gI (cs := [fb_o12 za zr (upd fr_e0 19 (0 : Int32))]) (rs := []) (fun (t : Unit) => [fb_o12 za zr (upd (upd fr_e0 19 (0 : Int32)) 19 (1 : Int32))]) (fun (t : Unit) => [fb_o12 za zr (upd (upd fr_e0 19 (0 : Int32)) 19 (1 : Int32))]) X I [0] 1 rfl (by decide +kernel) rfl rfl [0] 1 (fun _ => rfl) (by decide +kernel) (fun _ => rfl) (fun _ => rfl) (fun I => fb_rV (As := [.int (1 : Int32), .int (1 : Int32)]) (rest := []) X hl (fb_goodV fw_2350 fw_2352 fw_137 fw_204 fw_2353) (c_refuse_t l D cI cJ za zr (upd fr_e0 19 (0 : Int32)) (1 : Int32) _ rfl) rfl rfl rfl (by decide +kernel : fb_hd yX12_refuse 2) ⟨Nat.le_of_ble_eq_true rfl, Nat.le_of_ble_eq_true rfl⟩ rfl rfl rfl rfl rfl (Nat.le_of_ble_eq_true rfl) ⟨Nat.zero_le _, Nat.zero_le _⟩ dX12_poke_37 I) ?_
  intro r6 w5 H locs e0 I
  subst e0
  have I : fb_In D A s.heap (([fb_o12 za zr (upd (upd fr_e0 19 (0 : Int32)) 19 (1 : Int32))] : List va_W).flatten) H locs := I
  refine lv_if_eq (tgt := 45) hx hb dX12_poke_40 (by decide) (fun c7 => absurd c7 (by decide)) (fun _ => ?_)
  refine lv_iconst (v := (0 : Int32)) hx hb dX12_poke_43 (by decide) ?_
  exact fb_retI (u := ()) X I rfl rfl dX12_poke_44

set_option maxHeartbeats 4000000 in
set_option maxRecDepth 100000 in
theorem c_poke_bad (l : Launch) (D : va_G) (cI cJ : ClassId) (za : Nat) (zr : Nat → Nat) (zj : Nat) (l2 : Int32) (sz : Nat) (hj : zj < 1792 ∨ (2048 ≤ zj ∧ zj < 4096)) (q1 : f_X12_isIn l2 (0 : Int32) (255 : Int32) = (0 : Int32)) : Met l yX12_poke (Cond.code yX12_poke cX12_poke 4 (some .int) :: fb_all) ({ frames := 3, cells := 0, slots := 0, locals := 75 } : Room) (fb_PP D (fb_ty D cI cJ) [.ref za, .int (nI zj), .int l2] (([fb_o12 za zr fr_e0] : List va_W).flatten) sz) (fb_QI D (va_A (([fb_o12 za zr fr_e0] : List va_W).flatten) sz) (fun (r : Int32) (_ : Unit) => r = (0 : Int32)) (fun (t : Unit) => ([fb_o12 za zr (upd (upd fr_e0 19 (0 : Int32)) 19 (1 : Int32))] : List va_W).flatten)) 0 0 (va_A (([fb_o12 za zr fr_e0] : List va_W).flatten) sz) := by
  refine fb_ent (Qf := fun A => (fb_QI D A (fun (r : Int32) (_ : Unit) => r = (0 : Int32)) (fun (t : Unit) => ([fb_o12 za zr (upd (upd fr_e0 19 (0 : Int32)) 19 (1 : Int32))] : List va_W).flatten))) (by decide +kernel) (Nat.le_of_ble_eq_true rfl) ?_
  intro p e s m args below meth c A ls X I hl hin
  obtain ⟨hx, hb, hr, hml, hown, hts, hlk, hA, hK, hF⟩ := id X
  have hl : lv_has ls 4 [(0, .ref za), (1, .int (nI zj)), (2, .int l2)] := hl
  refine lv_aload_n hx hb dX12_poke_0 rfl (lv_at hl 0 rfl) ?_
  refine lv_iload_n hx hb dX12_poke_1 rfl (lv_at hl 1 rfl) ?_
  refine lv_iconst (v := (0 : Int32)) hx hb dX12_poke_2 (by decide) ?_
  refine lv_sipush (v := (4095 : Int32)) hx hb dX12_poke_3 (by decide) ?_
  refine fb_gI (cs := [fb_o12 za zr fr_e0]) (rs := []) (fun (t : Unit) => [fb_o12 za zr (upd fr_e0 19 (0 : Int32))]) (fun (t : Unit) => [fb_o12 za zr (upd fr_e0 19 (0 : Int32))]) X I [0] 1 rfl (by decide +kernel) rfl rfl [0] 1 (fun _ => rfl) (by decide +kernel) (fun _ => rfl) (fun _ => rfl) (fun I => fb_rV (As := [.int (nI zj), .int (0 : Int32), .int (4095 : Int32)]) (rest := []) X hl (fb_goodV fw_2346 fw_2348 fw_136 fw_204 fw_2349) (c_isNot_in l D cI cJ za zr fr_e0 (nI zj) (0 : Int32) (4095 : Int32) _ (fr_inN (z := zj) (a := 0) (b := 4095) (by omega) (by omega) (by omega))) rfl rfl rfl (by decide +kernel : fb_hd yX12_isNot 3) ⟨Nat.le_of_ble_eq_true rfl, Nat.le_of_ble_eq_true rfl⟩ rfl rfl rfl rfl rfl (Nat.le_of_ble_eq_true rfl) ⟨Nat.zero_le _, Nat.zero_le _⟩ dX12_poke_6 I) ?_
  intro r2 w1 H locs e0 I
  subst e0
  have I : fb_In D A s.heap (([fb_o12 za zr (upd fr_e0 19 (0 : Int32))] : List va_W).flatten) H locs := I
  refine lv_if_ne (tgt := 43) hx hb dX12_poke_9 (by decide) (fun c3 => absurd (by decide) c3) (fun _ => ?_)
  refine lv_aload_n hx hb dX12_poke_12 rfl (lv_at hl 0 rfl) ?_
  refine lv_iload_n hx hb dX12_poke_13 rfl (lv_at hl 1 rfl) ?_
  refine fb_gO (cs := []) (rs := [fb_o12 za zr (upd fr_e0 19 (0 : Int32))]) X I [0] 1 rfl (by decide +kernel) rfl rfl (fun I => fb_rS (As := [.int (nI zj)]) (rest := [.ref za]) X hl (fb_goodS fw_1953 fw_1954 fw_204 fw_1955) (c_X12_isPort l D cI cJ (nI zj) _) rfl rfl (by decide +kernel : fb_hd yX12_isPort 1) ⟨Nat.le_of_ble_eq_true rfl, Nat.le_of_ble_eq_true rfl⟩ rfl rfl (Nat.le_of_ble_eq_true rfl) ⟨Nat.le_of_ble_eq_true rfl, Nat.le_of_ble_eq_true rfl⟩ dX12_poke_14 I) ?_
  refine fb_tI (v := (0 : Int32)) (fr_np hj) ?_
  refine lv_if_ne (tgt := 31) hx hb dX12_poke_17 (by decide) (fun c4 => absurd (by decide) c4) (fun _ => ?_)
  refine lv_iload_n hx hb dX12_poke_20 rfl (lv_at hl 2 rfl) ?_
  refine lv_iconst (v := (0 : Int32)) hx hb dX12_poke_21 (by decide) ?_
  refine lv_sipush (v := (255 : Int32)) hx hb dX12_poke_22 (by decide) ?_
  refine fb_gO (cs := []) (rs := [fb_o12 za zr (upd fr_e0 19 (0 : Int32))]) X I [0] 1 rfl (by decide +kernel) rfl rfl (fun I => fb_rS (As := [.int l2, .int (0 : Int32), .int (255 : Int32)]) (rest := [.ref za]) X hl (fb_goodS fw_2147 fw_2148 fw_204 fw_2149) (c_X12_isIn l D cI cJ l2 (0 : Int32) (255 : Int32) _) rfl rfl (by decide +kernel : fb_hd yX12_isIn 3) ⟨Nat.le_of_ble_eq_true rfl, Nat.le_of_ble_eq_true rfl⟩ rfl rfl (Nat.le_of_ble_eq_true rfl) ⟨Nat.le_of_ble_eq_true rfl, Nat.le_of_ble_eq_true rfl⟩ dX12_poke_25 I) ?_
  refine fb_tI (v := (0 : Int32)) q1 ?_
  refine lv_if_ne (tgt := 35) hx hb dX12_poke_28 (by decide) (fun c5 => absurd (by decide) c5) (fun _ => ?_)
  refine lv_iconst (v := (1 : Int32)) hx hb dX12_poke_31 (by decide) ?_
  refine lv_goto (tgt := 36) hx hb dX12_poke_32 (by decide) ?_
  refine lv_iconst (v := (1 : Int32)) hx hb dX12_poke_36 (by decide) ?_
  refine fb_gI (cs := [fb_o12 za zr (upd fr_e0 19 (0 : Int32))]) (rs := []) (fun (t : Unit) => [fb_o12 za zr (upd (upd fr_e0 19 (0 : Int32)) 19 (1 : Int32))]) (fun (t : Unit) => [fb_o12 za zr (upd (upd fr_e0 19 (0 : Int32)) 19 (1 : Int32))]) X I [0] 1 rfl (by decide +kernel) rfl rfl [0] 1 (fun _ => rfl) (by decide +kernel) (fun _ => rfl) (fun _ => rfl) (fun I => fb_rV (As := [.int (1 : Int32), .int (1 : Int32)]) (rest := []) X hl (fb_goodV fw_2350 fw_2352 fw_137 fw_204 fw_2353) (c_refuse_t l D cI cJ za zr (upd fr_e0 19 (0 : Int32)) (1 : Int32) _ rfl) rfl rfl rfl (by decide +kernel : fb_hd yX12_refuse 2) ⟨Nat.le_of_ble_eq_true rfl, Nat.le_of_ble_eq_true rfl⟩ rfl rfl rfl rfl rfl (Nat.le_of_ble_eq_true rfl) ⟨Nat.zero_le _, Nat.zero_le _⟩ dX12_poke_37 I) ?_
  intro r7 w6 H locs e0 I
  subst e0
  have I : fb_In D A s.heap (([fb_o12 za zr (upd (upd fr_e0 19 (0 : Int32)) 19 (1 : Int32))] : List va_W).flatten) H locs := I
  refine lv_if_eq (tgt := 45) hx hb dX12_poke_40 (by decide) (fun c8 => absurd c8 (by decide)) (fun _ => ?_)
  refine lv_iconst (v := (0 : Int32)) hx hb dX12_poke_43 (by decide) ?_
  exact fb_retI (u := ()) X I rfl rfl dX12_poke_44

set_option maxHeartbeats 4000000 in
set_option maxRecDepth 100000 in
theorem c_poke_1 (l : Launch) (D : va_G) (cI cJ : ClassId) (za : Nat) (zr : Nat → Nat) (zj : Nat) (l2 : Int32) (sz : Nat) (hj : zj < 1792) (q1 : f_X12_isIn l2 (0 : Int32) (255 : Int32) = (1 : Int32)) : Met l yX12_poke (Cond.code yX12_poke cX12_poke 4 (some .int) :: fb_all) ({ frames := 3, cells := 0, slots := 0, locals := 75 } : Room) (fb_PP D (fb_ty D cI cJ) [.ref za, .int (nI zj), .int l2] (([fb_o12 za zr fr_e0, fb_aw cI (zr 0) 16205 (fr_m (fun _ => 0) 0)] : List va_W).flatten) sz) (fb_QI D (va_A (([fb_o12 za zr fr_e0, fb_aw cI (zr 0) 16205 (fr_m (fun _ => 0) 0)] : List va_W).flatten) sz) (fun (r : Int32) (_ : Unit) => r = (0 : Int32)) (fun (t : Unit) => ([fb_o12 za zr (upd (upd fr_e0 19 (0 : Int32)) 2 (0 : Int32)), fb_aw cI (zr 0) 16205 (upd (fr_m (fun _ => 0) 0) (1101 + zj) l2)] : List va_W).flatten)) 0 0 (va_A (([fb_o12 za zr fr_e0, fb_aw cI (zr 0) 16205 (fr_m (fun _ => 0) 0)] : List va_W).flatten) sz) := by
  refine fb_ent (Qf := fun A => (fb_QI D A (fun (r : Int32) (_ : Unit) => r = (0 : Int32)) (fun (t : Unit) => ([fb_o12 za zr (upd (upd fr_e0 19 (0 : Int32)) 2 (0 : Int32)), fb_aw cI (zr 0) 16205 (upd (fr_m (fun _ => 0) 0) (1101 + zj) l2)] : List va_W).flatten))) (by decide +kernel) (Nat.le_of_ble_eq_true rfl) ?_
  intro p e s m args below meth c A ls X I hl hin
  obtain ⟨hx, hb, hr, hml, hown, hts, hlk, hA, hK, hF⟩ := id X
  have hl : lv_has ls 4 [(0, .ref za), (1, .int (nI zj)), (2, .int l2)] := hl
  refine lv_aload_n hx hb dX12_poke_0 rfl (lv_at hl 0 rfl) ?_
  refine lv_iload_n hx hb dX12_poke_1 rfl (lv_at hl 1 rfl) ?_
  refine lv_iconst (v := (0 : Int32)) hx hb dX12_poke_2 (by decide) ?_
  refine lv_sipush (v := (4095 : Int32)) hx hb dX12_poke_3 (by decide) ?_
  refine fb_gI (cs := [fb_o12 za zr fr_e0]) (rs := [fb_aw cI (zr 0) 16205 (fr_m (fun _ => 0) 0)]) (fun (t : Unit) => [fb_o12 za zr (upd fr_e0 19 (0 : Int32)), fb_aw cI (zr 0) 16205 (fr_m (fun _ => 0) 0)]) (fun (t : Unit) => [fb_o12 za zr (upd fr_e0 19 (0 : Int32))]) X I [0, 1] 2 rfl (by decide +kernel) rfl rfl [0, 1] 2 (fun _ => rfl) (by decide +kernel) (fun _ => rfl) (fun _ => rfl) (fun I => fb_rV (As := [.int (nI zj), .int (0 : Int32), .int (4095 : Int32)]) (rest := []) X hl (fb_goodV fw_2346 fw_2348 fw_136 fw_204 fw_2349) (c_isNot_in l D cI cJ za zr fr_e0 (nI zj) (0 : Int32) (4095 : Int32) _ (fr_inN (z := zj) (a := 0) (b := 4095) (by omega) (by omega) (by omega))) rfl rfl rfl (by decide +kernel : fb_hd yX12_isNot 3) ⟨Nat.le_of_ble_eq_true rfl, Nat.le_of_ble_eq_true rfl⟩ rfl rfl rfl rfl rfl (Nat.le_of_ble_eq_true rfl) ⟨Nat.zero_le _, Nat.zero_le _⟩ dX12_poke_6 I) ?_
  intro r2 w1 H locs e0 I
  subst e0
  have I : fb_In D A s.heap (([fb_o12 za zr (upd fr_e0 19 (0 : Int32)), fb_aw cI (zr 0) 16205 (fr_m (fun _ => 0) 0)] : List va_W).flatten) H locs := I
  refine lv_if_ne (tgt := 43) hx hb dX12_poke_9 (by decide) (fun c3 => absurd (by decide) c3) (fun _ => ?_)
  refine lv_aload_n hx hb dX12_poke_12 rfl (lv_at hl 0 rfl) ?_
  refine lv_iload_n hx hb dX12_poke_13 rfl (lv_at hl 1 rfl) ?_
  refine fb_gO (cs := []) (rs := [fb_o12 za zr (upd fr_e0 19 (0 : Int32)), fb_aw cI (zr 0) 16205 (fr_m (fun _ => 0) 0)]) X I [0, 1] 2 rfl (by decide +kernel) rfl rfl (fun I => fb_rS (As := [.int (nI zj)]) (rest := [.ref za]) X hl (fb_goodS fw_1953 fw_1954 fw_204 fw_1955) (c_X12_isPort l D cI cJ (nI zj) _) rfl rfl (by decide +kernel : fb_hd yX12_isPort 1) ⟨Nat.le_of_ble_eq_true rfl, Nat.le_of_ble_eq_true rfl⟩ rfl rfl (Nat.le_of_ble_eq_true rfl) ⟨Nat.le_of_ble_eq_true rfl, Nat.le_of_ble_eq_true rfl⟩ dX12_poke_14 I) ?_
  refine fb_tI (v := (0 : Int32)) (fr_np (Or.inl hj)) ?_
  refine lv_if_ne (tgt := 31) hx hb dX12_poke_17 (by decide) (fun c4 => absurd (by decide) c4) (fun _ => ?_)
  refine lv_iload_n hx hb dX12_poke_20 rfl (lv_at hl 2 rfl) ?_
  refine lv_iconst (v := (0 : Int32)) hx hb dX12_poke_21 (by decide) ?_
  refine lv_sipush (v := (255 : Int32)) hx hb dX12_poke_22 (by decide) ?_
  refine fb_gO (cs := []) (rs := [fb_o12 za zr (upd fr_e0 19 (0 : Int32)), fb_aw cI (zr 0) 16205 (fr_m (fun _ => 0) 0)]) X I [0, 1] 2 rfl (by decide +kernel) rfl rfl (fun I => fb_rS (As := [.int l2, .int (0 : Int32), .int (255 : Int32)]) (rest := [.ref za]) X hl (fb_goodS fw_2147 fw_2148 fw_204 fw_2149) (c_X12_isIn l D cI cJ l2 (0 : Int32) (255 : Int32) _) rfl rfl (by decide +kernel : fb_hd yX12_isIn 3) ⟨Nat.le_of_ble_eq_true rfl, Nat.le_of_ble_eq_true rfl⟩ rfl rfl (Nat.le_of_ble_eq_true rfl) ⟨Nat.le_of_ble_eq_true rfl, Nat.le_of_ble_eq_true rfl⟩ dX12_poke_25 I) ?_
  refine fb_tI (v := (1 : Int32)) q1 ?_
  refine lv_if_ne (tgt := 35) hx hb dX12_poke_28 (by decide) (fun _ => ?_) (fun c5 => absurd c5 (by decide))
  refine lv_iconst (v := (0 : Int32)) hx hb dX12_poke_35 (by decide) ?_
  refine lv_iconst (v := (1 : Int32)) hx hb dX12_poke_36 (by decide) ?_
  refine fb_gO (cs := [fb_o12 za zr (upd fr_e0 19 (0 : Int32))]) (rs := [fb_aw cI (zr 0) 16205 (fr_m (fun _ => 0) 0)]) X I [0, 1] 2 rfl (by decide +kernel) rfl rfl (fun I => fb_rV (As := [.int (0 : Int32), .int (1 : Int32)]) (rest := []) X hl (fb_goodV fw_2350 fw_2352 fw_137 fw_204 fw_2353) (c_refuse_f l D cI cJ za zr (upd fr_e0 19 (0 : Int32)) (1 : Int32) _ ) rfl rfl rfl (by decide +kernel : fb_hd yX12_refuse 2) ⟨Nat.le_of_ble_eq_true rfl, Nat.le_of_ble_eq_true rfl⟩ rfl rfl rfl rfl rfl (Nat.le_of_ble_eq_true rfl) ⟨Nat.zero_le _, Nat.zero_le _⟩ dX12_poke_37 I) ?_
  refine lv_if_eq (tgt := 45) hx hb dX12_poke_40 (by decide) (fun _ => ?_) (fun c6 => absurd (by decide) c6)
  refine lv_aload_n hx hb dX12_poke_45 rfl (lv_at hl 0 rfl) ?_
  refine fb_get X I (k := 0) (v := .ref (zr 0)) fu_X12 0 fb_h12 rfl (Nat.le_of_ble_eq_true rfl) fw_1964 rfl rfl dX12_poke_46 ?_
  refine lv_aload_n hx hb dX12_poke_49 rfl (lv_at hl 0 rfl) ?_
  refine lv_iload_n hx hb dX12_poke_50 rfl (lv_at hl 1 rfl) ?_
  refine fb_gO (cs := [fb_o12 za zr (upd fr_e0 19 (0 : Int32)), fb_aw cI (zr 0) 16205 (fr_m (fun _ => 0) 0)]) (rs := []) X I [0, 1] 2 rfl (by decide +kernel) rfl rfl (fun I => fb_rV (As := [.int (nI zj)]) (rest := [.ref (zr 0)]) X hl (fb_goodV fw_1956 fw_1958 fw_87 fw_204 fw_1959) (c_place_1 l D cI cJ za zr (upd fr_e0 19 (0 : Int32)) (fr_m (fun _ => 0) 0) zj _ (by omega)) rfl rfl rfl (by decide +kernel : fb_hd yX12_place 1) ⟨Nat.le_of_ble_eq_true rfl, Nat.le_of_ble_eq_true rfl⟩ rfl rfl rfl rfl rfl (Nat.le_of_ble_eq_true rfl) ⟨Nat.zero_le _, Nat.zero_le _⟩ dX12_poke_51 I) ?_
  refine fb_iaC (n := (1101 + zj)) (v := (0 : Int32)) X I 1 0 rfl rfl (nI_clamp (by omega)) (nI_pos (by omega)) (by omega) (fr_hm _ _ (1101 + zj) (by omega) (by omega)) dX12_poke_54 ?_
  refine lv_istore_n (lv' := [(3, .int (0 : Int32)), (0, .ref za), (1, .int (nI zj)), (2, .int l2)]) hx hb dX12_poke_55 rfl hl (by decide) rfl (fun ls hl => ?_)
  refine lv_aload_n hx hb dX12_poke_56 rfl (lv_at hl 1 rfl) ?_
  refine fb_get X I (k := 0) (v := .ref (zr 0)) fu_X12 0 fb_h12 rfl (Nat.le_of_ble_eq_true rfl) fw_1964 rfl rfl dX12_poke_57 ?_
  refine lv_aload_n hx hb dX12_poke_60 rfl (lv_at hl 1 rfl) ?_
  refine lv_iload_n hx hb dX12_poke_61 rfl (lv_at hl 2 rfl) ?_
  refine fb_gO (cs := [fb_o12 za zr (upd fr_e0 19 (0 : Int32)), fb_aw cI (zr 0) 16205 (fr_m (fun _ => 0) 0)]) (rs := []) X I [0, 1] 2 rfl (by decide +kernel) rfl rfl (fun I => fb_rV (As := [.int (nI zj)]) (rest := [.ref (zr 0)]) X hl (fb_goodV fw_1956 fw_1958 fw_87 fw_204 fw_1959) (c_place_1 l D cI cJ za zr (upd fr_e0 19 (0 : Int32)) (fr_m (fun _ => 0) 0) zj _ (by omega)) rfl rfl rfl (by decide +kernel : fb_hd yX12_place 1) ⟨Nat.le_of_ble_eq_true rfl, Nat.le_of_ble_eq_true rfl⟩ rfl rfl rfl rfl rfl (Nat.le_of_ble_eq_true rfl) ⟨Nat.zero_le _, Nat.zero_le _⟩ dX12_poke_62 I) ?_
  refine lv_iload_n hx hb dX12_poke_65 rfl (lv_at hl 3 rfl) ?_
  refine fb_isC (n := (1101 + zj)) (wn := ([fb_o12 za zr (upd fr_e0 19 (0 : Int32)), fb_aw cI (zr 0) 16205 (upd (fr_m (fun _ => 0) 0) (1101 + zj) l2)] : List va_W).flatten) X I 1 0 rfl rfl (nI_clamp (by omega)) (nI_pos (by omega)) (by omega) rfl dX12_poke_66 (fun H locs I => ?_)
  refine lv_aload_n hx hb dX12_poke_67 rfl (lv_at hl 1 rfl) ?_
  refine fb_gV (cs := [fb_o12 za zr (upd fr_e0 19 (0 : Int32))]) (rs := [fb_aw cI (zr 0) 16205 (upd (fr_m (fun _ => 0) 0) (1101 + zj) l2)]) (fun (t : Unit) => [fb_o12 za zr (upd (upd fr_e0 19 (0 : Int32)) 2 (0 : Int32)), fb_aw cI (zr 0) 16205 (upd (fr_m (fun _ => 0) 0) (1101 + zj) l2)]) (fun (t : Unit) => [fb_o12 za zr (upd (upd fr_e0 19 (0 : Int32)) 2 (0 : Int32))]) X I [0, 1] 2 rfl (by decide +kernel) rfl rfl [0, 1] 2 (fun _ => rfl) (by decide +kernel) (fun _ => rfl) (fun _ => rfl) (fun I => fb_rV (As := []) (rest := []) X hl (fb_goodV fw_1960 fw_1962 fw_88 fw_204 fw_1963) (c_forget l D cI cJ za zr (upd fr_e0 19 (0 : Int32)) _ ) rfl rfl rfl (by decide +kernel : fb_hd yX12_forget 0) ⟨Nat.le_of_ble_eq_true rfl, Nat.le_of_ble_eq_true rfl⟩ rfl rfl rfl rfl rfl (Nat.le_of_ble_eq_true rfl) ⟨Nat.zero_le _, Nat.zero_le _⟩ dX12_poke_68 I) ?_
  intro w7 H locs _ I
  have I : fb_In D A s.heap (([fb_o12 za zr (upd (upd fr_e0 19 (0 : Int32)) 2 (0 : Int32)), fb_aw cI (zr 0) 16205 (upd (fr_m (fun _ => 0) 0) (1101 + zj) l2)] : List va_W).flatten) H locs := I
  refine lv_iload_n hx hb dX12_poke_71 rfl (lv_at hl 0 rfl) ?_
  exact fb_retI (u := ()) X I rfl rfl dX12_poke_72

set_option maxHeartbeats 4000000 in
set_option maxRecDepth 100000 in
theorem c_poke_2 (l : Launch) (D : va_G) (cI cJ : ClassId) (za : Nat) (zr : Nat → Nat) (zj : Nat) (l2 : Int32) (sz : Nat) (hj : 2048 ≤ zj ∧ zj < 3072) (q1 : f_X12_isIn l2 (0 : Int32) (255 : Int32) = (1 : Int32)) : Met l yX12_poke (Cond.code yX12_poke cX12_poke 4 (some .int) :: fb_all) ({ frames := 3, cells := 0, slots := 0, locals := 75 } : Room) (fb_PP D (fb_ty D cI cJ) [.ref za, .int (nI zj), .int l2] (([fb_o12 za zr fr_e0, fb_aw cI (zr 0) 16205 (fr_m (fun _ => 0) 0)] : List va_W).flatten) sz) (fb_QI D (va_A (([fb_o12 za zr fr_e0, fb_aw cI (zr 0) 16205 (fr_m (fun _ => 0) 0)] : List va_W).flatten) sz) (fun (r : Int32) (_ : Unit) => r = (0 : Int32)) (fun (t : Unit) => ([fb_o12 za zr (upd (upd fr_e0 19 (0 : Int32)) 2 (0 : Int32)), fb_aw cI (zr 0) 16205 (upd (fr_m (fun _ => 0) 0) (2893 + zj - 2048) l2)] : List va_W).flatten)) 0 0 (va_A (([fb_o12 za zr fr_e0, fb_aw cI (zr 0) 16205 (fr_m (fun _ => 0) 0)] : List va_W).flatten) sz) := by
  refine fb_ent (Qf := fun A => (fb_QI D A (fun (r : Int32) (_ : Unit) => r = (0 : Int32)) (fun (t : Unit) => ([fb_o12 za zr (upd (upd fr_e0 19 (0 : Int32)) 2 (0 : Int32)), fb_aw cI (zr 0) 16205 (upd (fr_m (fun _ => 0) 0) (2893 + zj - 2048) l2)] : List va_W).flatten))) (by decide +kernel) (Nat.le_of_ble_eq_true rfl) ?_
  intro p e s m args below meth c A ls X I hl hin
  obtain ⟨hx, hb, hr, hml, hown, hts, hlk, hA, hK, hF⟩ := id X
  have hl : lv_has ls 4 [(0, .ref za), (1, .int (nI zj)), (2, .int l2)] := hl
  refine lv_aload_n hx hb dX12_poke_0 rfl (lv_at hl 0 rfl) ?_
  refine lv_iload_n hx hb dX12_poke_1 rfl (lv_at hl 1 rfl) ?_
  refine lv_iconst (v := (0 : Int32)) hx hb dX12_poke_2 (by decide) ?_
  refine lv_sipush (v := (4095 : Int32)) hx hb dX12_poke_3 (by decide) ?_
  refine fb_gI (cs := [fb_o12 za zr fr_e0]) (rs := [fb_aw cI (zr 0) 16205 (fr_m (fun _ => 0) 0)]) (fun (t : Unit) => [fb_o12 za zr (upd fr_e0 19 (0 : Int32)), fb_aw cI (zr 0) 16205 (fr_m (fun _ => 0) 0)]) (fun (t : Unit) => [fb_o12 za zr (upd fr_e0 19 (0 : Int32))]) X I [0, 1] 2 rfl (by decide +kernel) rfl rfl [0, 1] 2 (fun _ => rfl) (by decide +kernel) (fun _ => rfl) (fun _ => rfl) (fun I => fb_rV (As := [.int (nI zj), .int (0 : Int32), .int (4095 : Int32)]) (rest := []) X hl (fb_goodV fw_2346 fw_2348 fw_136 fw_204 fw_2349) (c_isNot_in l D cI cJ za zr fr_e0 (nI zj) (0 : Int32) (4095 : Int32) _ (fr_inN (z := zj) (a := 0) (b := 4095) (by omega) (by omega) (by omega))) rfl rfl rfl (by decide +kernel : fb_hd yX12_isNot 3) ⟨Nat.le_of_ble_eq_true rfl, Nat.le_of_ble_eq_true rfl⟩ rfl rfl rfl rfl rfl (Nat.le_of_ble_eq_true rfl) ⟨Nat.zero_le _, Nat.zero_le _⟩ dX12_poke_6 I) ?_
  intro r2 w1 H locs e0 I
  subst e0
  have I : fb_In D A s.heap (([fb_o12 za zr (upd fr_e0 19 (0 : Int32)), fb_aw cI (zr 0) 16205 (fr_m (fun _ => 0) 0)] : List va_W).flatten) H locs := I
  refine lv_if_ne (tgt := 43) hx hb dX12_poke_9 (by decide) (fun c3 => absurd (by decide) c3) (fun _ => ?_)
  refine lv_aload_n hx hb dX12_poke_12 rfl (lv_at hl 0 rfl) ?_
  refine lv_iload_n hx hb dX12_poke_13 rfl (lv_at hl 1 rfl) ?_
  refine fb_gO (cs := []) (rs := [fb_o12 za zr (upd fr_e0 19 (0 : Int32)), fb_aw cI (zr 0) 16205 (fr_m (fun _ => 0) 0)]) X I [0, 1] 2 rfl (by decide +kernel) rfl rfl (fun I => fb_rS (As := [.int (nI zj)]) (rest := [.ref za]) X hl (fb_goodS fw_1953 fw_1954 fw_204 fw_1955) (c_X12_isPort l D cI cJ (nI zj) _) rfl rfl (by decide +kernel : fb_hd yX12_isPort 1) ⟨Nat.le_of_ble_eq_true rfl, Nat.le_of_ble_eq_true rfl⟩ rfl rfl (Nat.le_of_ble_eq_true rfl) ⟨Nat.le_of_ble_eq_true rfl, Nat.le_of_ble_eq_true rfl⟩ dX12_poke_14 I) ?_
  refine fb_tI (v := (0 : Int32)) (fr_np (Or.inr ⟨hj.1, by omega⟩)) ?_
  refine lv_if_ne (tgt := 31) hx hb dX12_poke_17 (by decide) (fun c4 => absurd (by decide) c4) (fun _ => ?_)
  refine lv_iload_n hx hb dX12_poke_20 rfl (lv_at hl 2 rfl) ?_
  refine lv_iconst (v := (0 : Int32)) hx hb dX12_poke_21 (by decide) ?_
  refine lv_sipush (v := (255 : Int32)) hx hb dX12_poke_22 (by decide) ?_
  refine fb_gO (cs := []) (rs := [fb_o12 za zr (upd fr_e0 19 (0 : Int32)), fb_aw cI (zr 0) 16205 (fr_m (fun _ => 0) 0)]) X I [0, 1] 2 rfl (by decide +kernel) rfl rfl (fun I => fb_rS (As := [.int l2, .int (0 : Int32), .int (255 : Int32)]) (rest := [.ref za]) X hl (fb_goodS fw_2147 fw_2148 fw_204 fw_2149) (c_X12_isIn l D cI cJ l2 (0 : Int32) (255 : Int32) _) rfl rfl (by decide +kernel : fb_hd yX12_isIn 3) ⟨Nat.le_of_ble_eq_true rfl, Nat.le_of_ble_eq_true rfl⟩ rfl rfl (Nat.le_of_ble_eq_true rfl) ⟨Nat.le_of_ble_eq_true rfl, Nat.le_of_ble_eq_true rfl⟩ dX12_poke_25 I) ?_
  refine fb_tI (v := (1 : Int32)) q1 ?_
  refine lv_if_ne (tgt := 35) hx hb dX12_poke_28 (by decide) (fun _ => ?_) (fun c5 => absurd c5 (by decide))
  refine lv_iconst (v := (0 : Int32)) hx hb dX12_poke_35 (by decide) ?_
  refine lv_iconst (v := (1 : Int32)) hx hb dX12_poke_36 (by decide) ?_
  refine fb_gO (cs := [fb_o12 za zr (upd fr_e0 19 (0 : Int32))]) (rs := [fb_aw cI (zr 0) 16205 (fr_m (fun _ => 0) 0)]) X I [0, 1] 2 rfl (by decide +kernel) rfl rfl (fun I => fb_rV (As := [.int (0 : Int32), .int (1 : Int32)]) (rest := []) X hl (fb_goodV fw_2350 fw_2352 fw_137 fw_204 fw_2353) (c_refuse_f l D cI cJ za zr (upd fr_e0 19 (0 : Int32)) (1 : Int32) _ ) rfl rfl rfl (by decide +kernel : fb_hd yX12_refuse 2) ⟨Nat.le_of_ble_eq_true rfl, Nat.le_of_ble_eq_true rfl⟩ rfl rfl rfl rfl rfl (Nat.le_of_ble_eq_true rfl) ⟨Nat.zero_le _, Nat.zero_le _⟩ dX12_poke_37 I) ?_
  refine lv_if_eq (tgt := 45) hx hb dX12_poke_40 (by decide) (fun _ => ?_) (fun c6 => absurd (by decide) c6)
  refine lv_aload_n hx hb dX12_poke_45 rfl (lv_at hl 0 rfl) ?_
  refine fb_get X I (k := 0) (v := .ref (zr 0)) fu_X12 0 fb_h12 rfl (Nat.le_of_ble_eq_true rfl) fw_1964 rfl rfl dX12_poke_46 ?_
  refine lv_aload_n hx hb dX12_poke_49 rfl (lv_at hl 0 rfl) ?_
  refine lv_iload_n hx hb dX12_poke_50 rfl (lv_at hl 1 rfl) ?_
  refine fb_gO (cs := [fb_o12 za zr (upd fr_e0 19 (0 : Int32)), fb_aw cI (zr 0) 16205 (fr_m (fun _ => 0) 0)]) (rs := []) X I [0, 1] 2 rfl (by decide +kernel) rfl rfl (fun I => fb_rV (As := [.int (nI zj)]) (rest := [.ref (zr 0)]) X hl (fb_goodV fw_1956 fw_1958 fw_87 fw_204 fw_1959) (c_place_2 l D cI cJ za zr (upd fr_e0 19 (0 : Int32)) (fr_m (fun _ => 0) 0) zj _ (by omega) rfl) rfl rfl rfl (by decide +kernel : fb_hd yX12_place 1) ⟨Nat.le_of_ble_eq_true rfl, Nat.le_of_ble_eq_true rfl⟩ rfl rfl rfl rfl rfl (Nat.le_of_ble_eq_true rfl) ⟨Nat.zero_le _, Nat.zero_le _⟩ dX12_poke_51 I) ?_
  refine fb_iaC (n := (2893 + zj - 2048)) (v := (0 : Int32)) X I 1 0 rfl rfl (nI_clamp (by omega)) (nI_pos (by omega)) (by omega) (fr_hm _ _ (2893 + zj - 2048) (by omega) (by omega)) dX12_poke_54 ?_
  refine lv_istore_n (lv' := [(3, .int (0 : Int32)), (0, .ref za), (1, .int (nI zj)), (2, .int l2)]) hx hb dX12_poke_55 rfl hl (by decide) rfl (fun ls hl => ?_)
  refine lv_aload_n hx hb dX12_poke_56 rfl (lv_at hl 1 rfl) ?_
  refine fb_get X I (k := 0) (v := .ref (zr 0)) fu_X12 0 fb_h12 rfl (Nat.le_of_ble_eq_true rfl) fw_1964 rfl rfl dX12_poke_57 ?_
  refine lv_aload_n hx hb dX12_poke_60 rfl (lv_at hl 1 rfl) ?_
  refine lv_iload_n hx hb dX12_poke_61 rfl (lv_at hl 2 rfl) ?_
  refine fb_gO (cs := [fb_o12 za zr (upd fr_e0 19 (0 : Int32)), fb_aw cI (zr 0) 16205 (fr_m (fun _ => 0) 0)]) (rs := []) X I [0, 1] 2 rfl (by decide +kernel) rfl rfl (fun I => fb_rV (As := [.int (nI zj)]) (rest := [.ref (zr 0)]) X hl (fb_goodV fw_1956 fw_1958 fw_87 fw_204 fw_1959) (c_place_2 l D cI cJ za zr (upd fr_e0 19 (0 : Int32)) (fr_m (fun _ => 0) 0) zj _ (by omega) rfl) rfl rfl rfl (by decide +kernel : fb_hd yX12_place 1) ⟨Nat.le_of_ble_eq_true rfl, Nat.le_of_ble_eq_true rfl⟩ rfl rfl rfl rfl rfl (Nat.le_of_ble_eq_true rfl) ⟨Nat.zero_le _, Nat.zero_le _⟩ dX12_poke_62 I) ?_
  refine lv_iload_n hx hb dX12_poke_65 rfl (lv_at hl 3 rfl) ?_
  refine fb_isC (n := (2893 + zj - 2048)) (wn := ([fb_o12 za zr (upd fr_e0 19 (0 : Int32)), fb_aw cI (zr 0) 16205 (upd (fr_m (fun _ => 0) 0) (2893 + zj - 2048) l2)] : List va_W).flatten) X I 1 0 rfl rfl (nI_clamp (by omega)) (nI_pos (by omega)) (by omega) rfl dX12_poke_66 (fun H locs I => ?_)
  refine lv_aload_n hx hb dX12_poke_67 rfl (lv_at hl 1 rfl) ?_
  refine fb_gV (cs := [fb_o12 za zr (upd fr_e0 19 (0 : Int32))]) (rs := [fb_aw cI (zr 0) 16205 (upd (fr_m (fun _ => 0) 0) (2893 + zj - 2048) l2)]) (fun (t : Unit) => [fb_o12 za zr (upd (upd fr_e0 19 (0 : Int32)) 2 (0 : Int32)), fb_aw cI (zr 0) 16205 (upd (fr_m (fun _ => 0) 0) (2893 + zj - 2048) l2)]) (fun (t : Unit) => [fb_o12 za zr (upd (upd fr_e0 19 (0 : Int32)) 2 (0 : Int32))]) X I [0, 1] 2 rfl (by decide +kernel) rfl rfl [0, 1] 2 (fun _ => rfl) (by decide +kernel) (fun _ => rfl) (fun _ => rfl) (fun I => fb_rV (As := []) (rest := []) X hl (fb_goodV fw_1960 fw_1962 fw_88 fw_204 fw_1963) (c_forget l D cI cJ za zr (upd fr_e0 19 (0 : Int32)) _ ) rfl rfl rfl (by decide +kernel : fb_hd yX12_forget 0) ⟨Nat.le_of_ble_eq_true rfl, Nat.le_of_ble_eq_true rfl⟩ rfl rfl rfl rfl rfl (Nat.le_of_ble_eq_true rfl) ⟨Nat.zero_le _, Nat.zero_le _⟩ dX12_poke_68 I) ?_
  intro w7 H locs _ I
  have I : fb_In D A s.heap (([fb_o12 za zr (upd (upd fr_e0 19 (0 : Int32)) 2 (0 : Int32)), fb_aw cI (zr 0) 16205 (upd (fr_m (fun _ => 0) 0) (2893 + zj - 2048) l2)] : List va_W).flatten) H locs := I
  refine lv_iload_n hx hb dX12_poke_71 rfl (lv_at hl 0 rfl) ?_
  exact fb_retI (u := ()) X I rfl rfl dX12_poke_72

set_option maxHeartbeats 4000000 in
set_option maxRecDepth 100000 in
theorem c_poke_3 (l : Launch) (D : va_G) (cI cJ : ClassId) (za : Nat) (zr : Nat → Nat) (zj : Nat) (l2 : Int32) (sz : Nat) (hj : 3072 ≤ zj ∧ zj < 4096) (q1 : f_X12_isIn l2 (0 : Int32) (255 : Int32) = (1 : Int32)) : Met l yX12_poke (Cond.code yX12_poke cX12_poke 4 (some .int) :: fb_all) ({ frames := 3, cells := 0, slots := 0, locals := 75 } : Room) (fb_PP D (fb_ty D cI cJ) [.ref za, .int (nI zj), .int l2] (([fb_o12 za zr fr_e0, fb_aw cI (zr 0) 16205 (fr_m (fun _ => 0) 0)] : List va_W).flatten) sz) (fb_QI D (va_A (([fb_o12 za zr fr_e0, fb_aw cI (zr 0) 16205 (fr_m (fun _ => 0) 0)] : List va_W).flatten) sz) (fun (r : Int32) (_ : Unit) => r = (0 : Int32)) (fun (t : Unit) => ([fb_o12 za zr (upd (upd fr_e0 19 (0 : Int32)) 2 (0 : Int32)), fb_aw cI (zr 0) 16205 (upd (fr_m (fun _ => 0) 0) (11085 + zj - 3072) l2)] : List va_W).flatten)) 0 0 (va_A (([fb_o12 za zr fr_e0, fb_aw cI (zr 0) 16205 (fr_m (fun _ => 0) 0)] : List va_W).flatten) sz) := by
  refine fb_ent (Qf := fun A => (fb_QI D A (fun (r : Int32) (_ : Unit) => r = (0 : Int32)) (fun (t : Unit) => ([fb_o12 za zr (upd (upd fr_e0 19 (0 : Int32)) 2 (0 : Int32)), fb_aw cI (zr 0) 16205 (upd (fr_m (fun _ => 0) 0) (11085 + zj - 3072) l2)] : List va_W).flatten))) (by decide +kernel) (Nat.le_of_ble_eq_true rfl) ?_
  intro p e s m args below meth c A ls X I hl hin
  obtain ⟨hx, hb, hr, hml, hown, hts, hlk, hA, hK, hF⟩ := id X
  have hl : lv_has ls 4 [(0, .ref za), (1, .int (nI zj)), (2, .int l2)] := hl
  refine lv_aload_n hx hb dX12_poke_0 rfl (lv_at hl 0 rfl) ?_
  refine lv_iload_n hx hb dX12_poke_1 rfl (lv_at hl 1 rfl) ?_
  refine lv_iconst (v := (0 : Int32)) hx hb dX12_poke_2 (by decide) ?_
  refine lv_sipush (v := (4095 : Int32)) hx hb dX12_poke_3 (by decide) ?_
  refine fb_gI (cs := [fb_o12 za zr fr_e0]) (rs := [fb_aw cI (zr 0) 16205 (fr_m (fun _ => 0) 0)]) (fun (t : Unit) => [fb_o12 za zr (upd fr_e0 19 (0 : Int32)), fb_aw cI (zr 0) 16205 (fr_m (fun _ => 0) 0)]) (fun (t : Unit) => [fb_o12 za zr (upd fr_e0 19 (0 : Int32))]) X I [0, 1] 2 rfl (by decide +kernel) rfl rfl [0, 1] 2 (fun _ => rfl) (by decide +kernel) (fun _ => rfl) (fun _ => rfl) (fun I => fb_rV (As := [.int (nI zj), .int (0 : Int32), .int (4095 : Int32)]) (rest := []) X hl (fb_goodV fw_2346 fw_2348 fw_136 fw_204 fw_2349) (c_isNot_in l D cI cJ za zr fr_e0 (nI zj) (0 : Int32) (4095 : Int32) _ (fr_inN (z := zj) (a := 0) (b := 4095) (by omega) (by omega) (by omega))) rfl rfl rfl (by decide +kernel : fb_hd yX12_isNot 3) ⟨Nat.le_of_ble_eq_true rfl, Nat.le_of_ble_eq_true rfl⟩ rfl rfl rfl rfl rfl (Nat.le_of_ble_eq_true rfl) ⟨Nat.zero_le _, Nat.zero_le _⟩ dX12_poke_6 I) ?_
  intro r2 w1 H locs e0 I
  subst e0
  have I : fb_In D A s.heap (([fb_o12 za zr (upd fr_e0 19 (0 : Int32)), fb_aw cI (zr 0) 16205 (fr_m (fun _ => 0) 0)] : List va_W).flatten) H locs := I
  refine lv_if_ne (tgt := 43) hx hb dX12_poke_9 (by decide) (fun c3 => absurd (by decide) c3) (fun _ => ?_)
  refine lv_aload_n hx hb dX12_poke_12 rfl (lv_at hl 0 rfl) ?_
  refine lv_iload_n hx hb dX12_poke_13 rfl (lv_at hl 1 rfl) ?_
  refine fb_gO (cs := []) (rs := [fb_o12 za zr (upd fr_e0 19 (0 : Int32)), fb_aw cI (zr 0) 16205 (fr_m (fun _ => 0) 0)]) X I [0, 1] 2 rfl (by decide +kernel) rfl rfl (fun I => fb_rS (As := [.int (nI zj)]) (rest := [.ref za]) X hl (fb_goodS fw_1953 fw_1954 fw_204 fw_1955) (c_X12_isPort l D cI cJ (nI zj) _) rfl rfl (by decide +kernel : fb_hd yX12_isPort 1) ⟨Nat.le_of_ble_eq_true rfl, Nat.le_of_ble_eq_true rfl⟩ rfl rfl (Nat.le_of_ble_eq_true rfl) ⟨Nat.le_of_ble_eq_true rfl, Nat.le_of_ble_eq_true rfl⟩ dX12_poke_14 I) ?_
  refine fb_tI (v := (0 : Int32)) (fr_np (Or.inr ⟨by omega, hj.2⟩)) ?_
  refine lv_if_ne (tgt := 31) hx hb dX12_poke_17 (by decide) (fun c4 => absurd (by decide) c4) (fun _ => ?_)
  refine lv_iload_n hx hb dX12_poke_20 rfl (lv_at hl 2 rfl) ?_
  refine lv_iconst (v := (0 : Int32)) hx hb dX12_poke_21 (by decide) ?_
  refine lv_sipush (v := (255 : Int32)) hx hb dX12_poke_22 (by decide) ?_
  refine fb_gO (cs := []) (rs := [fb_o12 za zr (upd fr_e0 19 (0 : Int32)), fb_aw cI (zr 0) 16205 (fr_m (fun _ => 0) 0)]) X I [0, 1] 2 rfl (by decide +kernel) rfl rfl (fun I => fb_rS (As := [.int l2, .int (0 : Int32), .int (255 : Int32)]) (rest := [.ref za]) X hl (fb_goodS fw_2147 fw_2148 fw_204 fw_2149) (c_X12_isIn l D cI cJ l2 (0 : Int32) (255 : Int32) _) rfl rfl (by decide +kernel : fb_hd yX12_isIn 3) ⟨Nat.le_of_ble_eq_true rfl, Nat.le_of_ble_eq_true rfl⟩ rfl rfl (Nat.le_of_ble_eq_true rfl) ⟨Nat.le_of_ble_eq_true rfl, Nat.le_of_ble_eq_true rfl⟩ dX12_poke_25 I) ?_
  refine fb_tI (v := (1 : Int32)) q1 ?_
  refine lv_if_ne (tgt := 35) hx hb dX12_poke_28 (by decide) (fun _ => ?_) (fun c5 => absurd c5 (by decide))
  refine lv_iconst (v := (0 : Int32)) hx hb dX12_poke_35 (by decide) ?_
  refine lv_iconst (v := (1 : Int32)) hx hb dX12_poke_36 (by decide) ?_
  refine fb_gO (cs := [fb_o12 za zr (upd fr_e0 19 (0 : Int32))]) (rs := [fb_aw cI (zr 0) 16205 (fr_m (fun _ => 0) 0)]) X I [0, 1] 2 rfl (by decide +kernel) rfl rfl (fun I => fb_rV (As := [.int (0 : Int32), .int (1 : Int32)]) (rest := []) X hl (fb_goodV fw_2350 fw_2352 fw_137 fw_204 fw_2353) (c_refuse_f l D cI cJ za zr (upd fr_e0 19 (0 : Int32)) (1 : Int32) _ ) rfl rfl rfl (by decide +kernel : fb_hd yX12_refuse 2) ⟨Nat.le_of_ble_eq_true rfl, Nat.le_of_ble_eq_true rfl⟩ rfl rfl rfl rfl rfl (Nat.le_of_ble_eq_true rfl) ⟨Nat.zero_le _, Nat.zero_le _⟩ dX12_poke_37 I) ?_
  refine lv_if_eq (tgt := 45) hx hb dX12_poke_40 (by decide) (fun _ => ?_) (fun c6 => absurd (by decide) c6)
  refine lv_aload_n hx hb dX12_poke_45 rfl (lv_at hl 0 rfl) ?_
  refine fb_get X I (k := 0) (v := .ref (zr 0)) fu_X12 0 fb_h12 rfl (Nat.le_of_ble_eq_true rfl) fw_1964 rfl rfl dX12_poke_46 ?_
  refine lv_aload_n hx hb dX12_poke_49 rfl (lv_at hl 0 rfl) ?_
  refine lv_iload_n hx hb dX12_poke_50 rfl (lv_at hl 1 rfl) ?_
  refine fb_gO (cs := [fb_o12 za zr (upd fr_e0 19 (0 : Int32)), fb_aw cI (zr 0) 16205 (fr_m (fun _ => 0) 0)]) (rs := []) X I [0, 1] 2 rfl (by decide +kernel) rfl rfl (fun I => fb_rV (As := [.int (nI zj)]) (rest := [.ref (zr 0)]) X hl (fb_goodV fw_1956 fw_1958 fw_87 fw_204 fw_1959) (c_place_3 l D cI cJ za zr (upd fr_e0 19 (0 : Int32)) (fr_m (fun _ => 0) 0) zj _ (by omega)) rfl rfl rfl (by decide +kernel : fb_hd yX12_place 1) ⟨Nat.le_of_ble_eq_true rfl, Nat.le_of_ble_eq_true rfl⟩ rfl rfl rfl rfl rfl (Nat.le_of_ble_eq_true rfl) ⟨Nat.zero_le _, Nat.zero_le _⟩ dX12_poke_51 I) ?_
  refine fb_iaC (n := (11085 + zj - 3072)) (v := (0 : Int32)) X I 1 0 rfl rfl (nI_clamp (by omega)) (nI_pos (by omega)) (by omega) (fr_hm _ _ (11085 + zj - 3072) (by omega) (by omega)) dX12_poke_54 ?_
  refine lv_istore_n (lv' := [(3, .int (0 : Int32)), (0, .ref za), (1, .int (nI zj)), (2, .int l2)]) hx hb dX12_poke_55 rfl hl (by decide) rfl (fun ls hl => ?_)
  refine lv_aload_n hx hb dX12_poke_56 rfl (lv_at hl 1 rfl) ?_
  refine fb_get X I (k := 0) (v := .ref (zr 0)) fu_X12 0 fb_h12 rfl (Nat.le_of_ble_eq_true rfl) fw_1964 rfl rfl dX12_poke_57 ?_
  refine lv_aload_n hx hb dX12_poke_60 rfl (lv_at hl 1 rfl) ?_
  refine lv_iload_n hx hb dX12_poke_61 rfl (lv_at hl 2 rfl) ?_
  refine fb_gO (cs := [fb_o12 za zr (upd fr_e0 19 (0 : Int32)), fb_aw cI (zr 0) 16205 (fr_m (fun _ => 0) 0)]) (rs := []) X I [0, 1] 2 rfl (by decide +kernel) rfl rfl (fun I => fb_rV (As := [.int (nI zj)]) (rest := [.ref (zr 0)]) X hl (fb_goodV fw_1956 fw_1958 fw_87 fw_204 fw_1959) (c_place_3 l D cI cJ za zr (upd fr_e0 19 (0 : Int32)) (fr_m (fun _ => 0) 0) zj _ (by omega)) rfl rfl rfl (by decide +kernel : fb_hd yX12_place 1) ⟨Nat.le_of_ble_eq_true rfl, Nat.le_of_ble_eq_true rfl⟩ rfl rfl rfl rfl rfl (Nat.le_of_ble_eq_true rfl) ⟨Nat.zero_le _, Nat.zero_le _⟩ dX12_poke_62 I) ?_
  refine lv_iload_n hx hb dX12_poke_65 rfl (lv_at hl 3 rfl) ?_
  refine fb_isC (n := (11085 + zj - 3072)) (wn := ([fb_o12 za zr (upd fr_e0 19 (0 : Int32)), fb_aw cI (zr 0) 16205 (upd (fr_m (fun _ => 0) 0) (11085 + zj - 3072) l2)] : List va_W).flatten) X I 1 0 rfl rfl (nI_clamp (by omega)) (nI_pos (by omega)) (by omega) rfl dX12_poke_66 (fun H locs I => ?_)
  refine lv_aload_n hx hb dX12_poke_67 rfl (lv_at hl 1 rfl) ?_
  refine fb_gV (cs := [fb_o12 za zr (upd fr_e0 19 (0 : Int32))]) (rs := [fb_aw cI (zr 0) 16205 (upd (fr_m (fun _ => 0) 0) (11085 + zj - 3072) l2)]) (fun (t : Unit) => [fb_o12 za zr (upd (upd fr_e0 19 (0 : Int32)) 2 (0 : Int32)), fb_aw cI (zr 0) 16205 (upd (fr_m (fun _ => 0) 0) (11085 + zj - 3072) l2)]) (fun (t : Unit) => [fb_o12 za zr (upd (upd fr_e0 19 (0 : Int32)) 2 (0 : Int32))]) X I [0, 1] 2 rfl (by decide +kernel) rfl rfl [0, 1] 2 (fun _ => rfl) (by decide +kernel) (fun _ => rfl) (fun _ => rfl) (fun I => fb_rV (As := []) (rest := []) X hl (fb_goodV fw_1960 fw_1962 fw_88 fw_204 fw_1963) (c_forget l D cI cJ za zr (upd fr_e0 19 (0 : Int32)) _ ) rfl rfl rfl (by decide +kernel : fb_hd yX12_forget 0) ⟨Nat.le_of_ble_eq_true rfl, Nat.le_of_ble_eq_true rfl⟩ rfl rfl rfl rfl rfl (Nat.le_of_ble_eq_true rfl) ⟨Nat.zero_le _, Nat.zero_le _⟩ dX12_poke_68 I) ?_
  intro w7 H locs _ I
  have I : fb_In D A s.heap (([fb_o12 za zr (upd (upd fr_e0 19 (0 : Int32)) 2 (0 : Int32)), fb_aw cI (zr 0) 16205 (upd (fr_m (fun _ => 0) 0) (11085 + zj - 3072) l2)] : List va_W).flatten) H locs := I
  refine lv_iload_n hx hb dX12_poke_71 rfl (lv_at hl 0 rfl) ?_
  exact fb_retI (u := ()) X I rfl rfl dX12_poke_72

set_option maxHeartbeats 4000000 in
set_option maxRecDepth 100000 in
theorem c_setRegister_out (l : Launch) (D : va_G) (cI cJ : ClassId) (za : Nat) (zr : Nat → Nat) (l1 : Int32) (l2 : Int32) (sz : Nat) (q1 : f_X12_isIn l1 (0 : Int32) (4 : Int32) = (0 : Int32)) : Met l yX12_setRegister (Cond.code yX12_setRegister cX12_setRegister 4 (some .int) :: fb_all) ({ frames := 3, cells := 0, slots := 0, locals := 75 } : Room) (fb_PP D (fb_ty D cI cJ) [.ref za, .int l1, .int l2] (([fb_o12 za zr fr_e0] : List va_W).flatten) sz) (fb_QI D (va_A (([fb_o12 za zr fr_e0] : List va_W).flatten) sz) (fun (r : Int32) (_ : Unit) => r = (0 : Int32)) (fun (t : Unit) => ([fb_o12 za zr (upd (upd fr_e0 19 (0 : Int32)) 19 (1 : Int32))] : List va_W).flatten)) 0 0 (va_A (([fb_o12 za zr fr_e0] : List va_W).flatten) sz) := by
  refine fb_ent (Qf := fun A => (fb_QI D A (fun (r : Int32) (_ : Unit) => r = (0 : Int32)) (fun (t : Unit) => ([fb_o12 za zr (upd (upd fr_e0 19 (0 : Int32)) 19 (1 : Int32))] : List va_W).flatten))) (by decide +kernel) (Nat.le_of_ble_eq_true rfl) ?_
  intro p e s m args below meth c A ls X I hl hin
  obtain ⟨hx, hb, hr, hml, hown, hts, hlk, hA, hK, hF⟩ := id X
  have hl : lv_has ls 4 [(0, .ref za), (1, .int l1), (2, .int l2)] := hl
  refine lv_aload_n hx hb dX12_setRegister_0 rfl (lv_at hl 0 rfl) ?_
  refine lv_iload_n hx hb dX12_setRegister_1 rfl (lv_at hl 1 rfl) ?_
  refine lv_iconst (v := (0 : Int32)) hx hb dX12_setRegister_2 (by decide) ?_
  refine lv_iconst (v := (4 : Int32)) hx hb dX12_setRegister_3 (by decide) ?_
  refine fb_gI (cs := [fb_o12 za zr fr_e0]) (rs := []) (fun (t : Unit) => [fb_o12 za zr (upd (upd fr_e0 19 (0 : Int32)) 19 (1 : Int32))]) (fun (t : Unit) => [fb_o12 za zr (upd (upd fr_e0 19 (0 : Int32)) 19 (1 : Int32))]) X I [0] 1 rfl (by decide +kernel) rfl rfl [0] 1 (fun _ => rfl) (by decide +kernel) (fun _ => rfl) (fun _ => rfl) (fun I => fb_rV (As := [.int l1, .int (0 : Int32), .int (4 : Int32)]) (rest := []) X hl (fb_goodV fw_2346 fw_2348 fw_136 fw_204 fw_2349) (c_isNot_out l D cI cJ za zr fr_e0 l1 (0 : Int32) (4 : Int32) _ q1) rfl rfl rfl (by decide +kernel : fb_hd yX12_isNot 3) ⟨Nat.le_of_ble_eq_true rfl, Nat.le_of_ble_eq_true rfl⟩ rfl rfl rfl rfl rfl (Nat.le_of_ble_eq_true rfl) ⟨Nat.zero_le _, Nat.zero_le _⟩ dX12_setRegister_4 I) ?_
  intro r2 w1 H locs e0 I
  subst e0
  have I : fb_In D A s.heap (([fb_o12 za zr (upd (upd fr_e0 19 (0 : Int32)) 19 (1 : Int32))] : List va_W).flatten) H locs := I
  refine lv_if_ne (tgt := 55) hx hb dX12_setRegister_7 (by decide) (fun _ => ?_) (fun c3 => absurd c3 (by decide))
  refine lv_iconst (v := (0 : Int32)) hx hb dX12_setRegister_55 (by decide) ?_
  exact fb_retI (u := ()) X I rfl rfl dX12_setRegister_56

set_option maxHeartbeats 4000000 in
set_option maxRecDepth 100000 in
theorem c_setRegister_bad0 (l : Launch) (D : va_G) (cI cJ : ClassId) (za : Nat) (zr : Nat → Nat) (l2 : Int32) (sz : Nat) (q1 : f_X12_isIn l2 (0 : Int32) (255 : Int32) = (0 : Int32)) : Met l yX12_setRegister (Cond.code yX12_setRegister cX12_setRegister 4 (some .int) :: fb_all) ({ frames := 3, cells := 0, slots := 0, locals := 75 } : Room) (fb_PP D (fb_ty D cI cJ) [.ref za, .int (0 : Int32), .int l2] (([fb_o12 za zr fr_e0] : List va_W).flatten) sz) (fb_QI D (va_A (([fb_o12 za zr fr_e0] : List va_W).flatten) sz) (fun (r : Int32) (_ : Unit) => r = (0 : Int32)) (fun (t : Unit) => ([fb_o12 za zr (upd (upd fr_e0 19 (0 : Int32)) 19 (2 : Int32))] : List va_W).flatten)) 0 0 (va_A (([fb_o12 za zr fr_e0] : List va_W).flatten) sz) := by
  refine fb_ent (Qf := fun A => (fb_QI D A (fun (r : Int32) (_ : Unit) => r = (0 : Int32)) (fun (t : Unit) => ([fb_o12 za zr (upd (upd fr_e0 19 (0 : Int32)) 19 (2 : Int32))] : List va_W).flatten))) (by decide +kernel) (Nat.le_of_ble_eq_true rfl) ?_
  intro p e s m args below meth c A ls X I hl hin
  obtain ⟨hx, hb, hr, hml, hown, hts, hlk, hA, hK, hF⟩ := id X
  have hl : lv_has ls 4 [(0, .ref za), (1, .int (0 : Int32)), (2, .int l2)] := hl
  refine lv_aload_n hx hb dX12_setRegister_0 rfl (lv_at hl 0 rfl) ?_
  refine lv_iload_n hx hb dX12_setRegister_1 rfl (lv_at hl 1 rfl) ?_
  refine lv_iconst (v := (0 : Int32)) hx hb dX12_setRegister_2 (by decide) ?_
  refine lv_iconst (v := (4 : Int32)) hx hb dX12_setRegister_3 (by decide) ?_
  refine fb_gI (cs := [fb_o12 za zr fr_e0]) (rs := []) (fun (t : Unit) => [fb_o12 za zr (upd fr_e0 19 (0 : Int32))]) (fun (t : Unit) => [fb_o12 za zr (upd fr_e0 19 (0 : Int32))]) X I [0] 1 rfl (by decide +kernel) rfl rfl [0] 1 (fun _ => rfl) (by decide +kernel) (fun _ => rfl) (fun _ => rfl) (fun I => fb_rV (As := [.int (0 : Int32), .int (0 : Int32), .int (4 : Int32)]) (rest := []) X hl (fb_goodV fw_2346 fw_2348 fw_136 fw_204 fw_2349) (c_isNot_in l D cI cJ za zr fr_e0 (0 : Int32) (0 : Int32) (4 : Int32) _ (by decide)) rfl rfl rfl (by decide +kernel : fb_hd yX12_isNot 3) ⟨Nat.le_of_ble_eq_true rfl, Nat.le_of_ble_eq_true rfl⟩ rfl rfl rfl rfl rfl (Nat.le_of_ble_eq_true rfl) ⟨Nat.zero_le _, Nat.zero_le _⟩ dX12_setRegister_4 I) ?_
  intro r2 w1 H locs e0 I
  subst e0
  have I : fb_In D A s.heap (([fb_o12 za zr (upd fr_e0 19 (0 : Int32))] : List va_W).flatten) H locs := I
  refine lv_if_ne (tgt := 55) hx hb dX12_setRegister_7 (by decide) (fun c3 => absurd (by decide) c3) (fun _ => ?_)
  refine lv_aload_n hx hb dX12_setRegister_10 rfl (lv_at hl 0 rfl) ?_
  refine lv_iload_n hx hb dX12_setRegister_11 rfl (lv_at hl 2 rfl) ?_
  refine lv_iconst (v := (0 : Int32)) hx hb dX12_setRegister_12 (by decide) ?_
  refine lv_iload_n hx hb dX12_setRegister_13 rfl (lv_at hl 1 rfl) ?_
  refine lv_iconst (v := (3 : Int32)) hx hb dX12_setRegister_14 (by decide) ?_
  refine lv_icmp_ne (tgt := 23) hx hb dX12_setRegister_15 (by decide) (fun _ => ?_) (fun c4 => absurd c4 (by decide))
  refine lv_iload_n hx hb dX12_setRegister_23 rfl (lv_at hl 1 rfl) ?_
  refine lv_iconst (v := (4 : Int32)) hx hb dX12_setRegister_24 (by decide) ?_
  refine lv_icmp_ne (tgt := 34) hx hb dX12_setRegister_25 (by decide) (fun _ => ?_) (fun c5 => absurd c5 (by decide))
  refine lv_sipush (v := (255 : Int32)) hx hb dX12_setRegister_34 (by decide) ?_
  refine fb_gO (cs := []) (rs := [fb_o12 za zr (upd fr_e0 19 (0 : Int32))]) X I [0] 1 rfl (by decide +kernel) rfl rfl (fun I => fb_rS (As := [.int l2, .int (0 : Int32), .int (255 : Int32)]) (rest := [.ref za]) X hl (fb_goodS fw_2147 fw_2148 fw_204 fw_2149) (c_X12_isIn l D cI cJ l2 (0 : Int32) (255 : Int32) _) rfl rfl (by decide +kernel : fb_hd yX12_isIn 3) ⟨Nat.le_of_ble_eq_true rfl, Nat.le_of_ble_eq_true rfl⟩ rfl rfl (Nat.le_of_ble_eq_true rfl) ⟨Nat.le_of_ble_eq_true rfl, Nat.le_of_ble_eq_true rfl⟩ dX12_setRegister_37 I) ?_
  refine fb_tI (v := (0 : Int32)) q1 ?_
  refine lv_if_ne (tgt := 47) hx hb dX12_setRegister_40 (by decide) (fun c6 => absurd (by decide) c6) (fun _ => ?_)
  refine lv_iconst (v := (1 : Int32)) hx hb dX12_setRegister_43 (by decide) ?_
  refine lv_goto (tgt := 48) hx hb dX12_setRegister_44 (by decide) ?_
  refine lv_iconst (v := (2 : Int32)) hx hb dX12_setRegister_48 (by decide) ?_
  refine fb_gI (cs := [fb_o12 za zr (upd fr_e0 19 (0 : Int32))]) (rs := []) (fun (t : Unit) => [fb_o12 za zr (upd (upd fr_e0 19 (0 : Int32)) 19 (2 : Int32))]) (fun (t : Unit) => [fb_o12 za zr (upd (upd fr_e0 19 (0 : Int32)) 19 (2 : Int32))]) X I [0] 1 rfl (by decide +kernel) rfl rfl [0] 1 (fun _ => rfl) (by decide +kernel) (fun _ => rfl) (fun _ => rfl) (fun I => fb_rV (As := [.int (1 : Int32), .int (2 : Int32)]) (rest := []) X hl (fb_goodV fw_2350 fw_2352 fw_137 fw_204 fw_2353) (c_refuse_t l D cI cJ za zr (upd fr_e0 19 (0 : Int32)) (2 : Int32) _ rfl) rfl rfl rfl (by decide +kernel : fb_hd yX12_refuse 2) ⟨Nat.le_of_ble_eq_true rfl, Nat.le_of_ble_eq_true rfl⟩ rfl rfl rfl rfl rfl (Nat.le_of_ble_eq_true rfl) ⟨Nat.zero_le _, Nat.zero_le _⟩ dX12_setRegister_49 I) ?_
  intro r8 w7 H locs e0 I
  subst e0
  have I : fb_In D A s.heap (([fb_o12 za zr (upd (upd fr_e0 19 (0 : Int32)) 19 (2 : Int32))] : List va_W).flatten) H locs := I
  refine lv_if_eq (tgt := 57) hx hb dX12_setRegister_52 (by decide) (fun c9 => absurd c9 (by decide)) (fun _ => ?_)
  refine lv_iconst (v := (0 : Int32)) hx hb dX12_setRegister_55 (by decide) ?_
  exact fb_retI (u := ()) X I rfl rfl dX12_setRegister_56

set_option maxHeartbeats 4000000 in
set_option maxRecDepth 100000 in
theorem c_setRegister_0 (l : Launch) (D : va_G) (cI cJ : ClassId) (za : Nat) (zr : Nat → Nat) (l2 : Int32) (sz : Nat) (q1 : f_X12_isIn l2 (0 : Int32) (255 : Int32) = (1 : Int32)) : Met l yX12_setRegister (Cond.code yX12_setRegister cX12_setRegister 4 (some .int) :: fb_all) ({ frames := 3, cells := 0, slots := 0, locals := 75 } : Room) (fb_PP D (fb_ty D cI cJ) [.ref za, .int (0 : Int32), .int l2] (([fb_o12 za zr fr_e0, fb_aw cI (zr 0) 16205 (fr_m (fun _ => 0) 0)] : List va_W).flatten) sz) (fb_QI D (va_A (([fb_o12 za zr fr_e0, fb_aw cI (zr 0) 16205 (fr_m (fun _ => 0) 0)] : List va_W).flatten) sz) (fun (r : Int32) (_ : Unit) => r = (0 : Int32)) (fun (t : Unit) => ([fb_o12 za zr (upd (upd fr_e0 19 (0 : Int32)) 2 (0 : Int32)), fb_aw cI (zr 0) 16205 (upd (fr_m (fun _ => 0) 0) 0 l2)] : List va_W).flatten)) 0 0 (va_A (([fb_o12 za zr fr_e0, fb_aw cI (zr 0) 16205 (fr_m (fun _ => 0) 0)] : List va_W).flatten) sz) := by
  refine fb_ent (Qf := fun A => (fb_QI D A (fun (r : Int32) (_ : Unit) => r = (0 : Int32)) (fun (t : Unit) => ([fb_o12 za zr (upd (upd fr_e0 19 (0 : Int32)) 2 (0 : Int32)), fb_aw cI (zr 0) 16205 (upd (fr_m (fun _ => 0) 0) 0 l2)] : List va_W).flatten))) (by decide +kernel) (Nat.le_of_ble_eq_true rfl) ?_
  intro p e s m args below meth c A ls X I hl hin
  obtain ⟨hx, hb, hr, hml, hown, hts, hlk, hA, hK, hF⟩ := id X
  have hl : lv_has ls 4 [(0, .ref za), (1, .int (0 : Int32)), (2, .int l2)] := hl
  refine lv_aload_n hx hb dX12_setRegister_0 rfl (lv_at hl 0 rfl) ?_
  refine lv_iload_n hx hb dX12_setRegister_1 rfl (lv_at hl 1 rfl) ?_
  refine lv_iconst (v := (0 : Int32)) hx hb dX12_setRegister_2 (by decide) ?_
  refine lv_iconst (v := (4 : Int32)) hx hb dX12_setRegister_3 (by decide) ?_
  refine fb_gI (cs := [fb_o12 za zr fr_e0]) (rs := [fb_aw cI (zr 0) 16205 (fr_m (fun _ => 0) 0)]) (fun (t : Unit) => [fb_o12 za zr (upd fr_e0 19 (0 : Int32)), fb_aw cI (zr 0) 16205 (fr_m (fun _ => 0) 0)]) (fun (t : Unit) => [fb_o12 za zr (upd fr_e0 19 (0 : Int32))]) X I [0, 1] 2 rfl (by decide +kernel) rfl rfl [0, 1] 2 (fun _ => rfl) (by decide +kernel) (fun _ => rfl) (fun _ => rfl) (fun I => fb_rV (As := [.int (0 : Int32), .int (0 : Int32), .int (4 : Int32)]) (rest := []) X hl (fb_goodV fw_2346 fw_2348 fw_136 fw_204 fw_2349) (c_isNot_in l D cI cJ za zr fr_e0 (0 : Int32) (0 : Int32) (4 : Int32) _ (by decide)) rfl rfl rfl (by decide +kernel : fb_hd yX12_isNot 3) ⟨Nat.le_of_ble_eq_true rfl, Nat.le_of_ble_eq_true rfl⟩ rfl rfl rfl rfl rfl (Nat.le_of_ble_eq_true rfl) ⟨Nat.zero_le _, Nat.zero_le _⟩ dX12_setRegister_4 I) ?_
  intro r2 w1 H locs e0 I
  subst e0
  have I : fb_In D A s.heap (([fb_o12 za zr (upd fr_e0 19 (0 : Int32)), fb_aw cI (zr 0) 16205 (fr_m (fun _ => 0) 0)] : List va_W).flatten) H locs := I
  refine lv_if_ne (tgt := 55) hx hb dX12_setRegister_7 (by decide) (fun c3 => absurd (by decide) c3) (fun _ => ?_)
  refine lv_aload_n hx hb dX12_setRegister_10 rfl (lv_at hl 0 rfl) ?_
  refine lv_iload_n hx hb dX12_setRegister_11 rfl (lv_at hl 2 rfl) ?_
  refine lv_iconst (v := (0 : Int32)) hx hb dX12_setRegister_12 (by decide) ?_
  refine lv_iload_n hx hb dX12_setRegister_13 rfl (lv_at hl 1 rfl) ?_
  refine lv_iconst (v := (3 : Int32)) hx hb dX12_setRegister_14 (by decide) ?_
  refine lv_icmp_ne (tgt := 23) hx hb dX12_setRegister_15 (by decide) (fun _ => ?_) (fun c4 => absurd c4 (by decide))
  refine lv_iload_n hx hb dX12_setRegister_23 rfl (lv_at hl 1 rfl) ?_
  refine lv_iconst (v := (4 : Int32)) hx hb dX12_setRegister_24 (by decide) ?_
  refine lv_icmp_ne (tgt := 34) hx hb dX12_setRegister_25 (by decide) (fun _ => ?_) (fun c5 => absurd c5 (by decide))
  refine lv_sipush (v := (255 : Int32)) hx hb dX12_setRegister_34 (by decide) ?_
  refine fb_gO (cs := []) (rs := [fb_o12 za zr (upd fr_e0 19 (0 : Int32)), fb_aw cI (zr 0) 16205 (fr_m (fun _ => 0) 0)]) X I [0, 1] 2 rfl (by decide +kernel) rfl rfl (fun I => fb_rS (As := [.int l2, .int (0 : Int32), .int (255 : Int32)]) (rest := [.ref za]) X hl (fb_goodS fw_2147 fw_2148 fw_204 fw_2149) (c_X12_isIn l D cI cJ l2 (0 : Int32) (255 : Int32) _) rfl rfl (by decide +kernel : fb_hd yX12_isIn 3) ⟨Nat.le_of_ble_eq_true rfl, Nat.le_of_ble_eq_true rfl⟩ rfl rfl (Nat.le_of_ble_eq_true rfl) ⟨Nat.le_of_ble_eq_true rfl, Nat.le_of_ble_eq_true rfl⟩ dX12_setRegister_37 I) ?_
  refine fb_tI (v := (1 : Int32)) q1 ?_
  refine lv_if_ne (tgt := 47) hx hb dX12_setRegister_40 (by decide) (fun _ => ?_) (fun c6 => absurd c6 (by decide))
  refine lv_iconst (v := (0 : Int32)) hx hb dX12_setRegister_47 (by decide) ?_
  refine lv_iconst (v := (2 : Int32)) hx hb dX12_setRegister_48 (by decide) ?_
  refine fb_gO (cs := [fb_o12 za zr (upd fr_e0 19 (0 : Int32))]) (rs := [fb_aw cI (zr 0) 16205 (fr_m (fun _ => 0) 0)]) X I [0, 1] 2 rfl (by decide +kernel) rfl rfl (fun I => fb_rV (As := [.int (0 : Int32), .int (2 : Int32)]) (rest := []) X hl (fb_goodV fw_2350 fw_2352 fw_137 fw_204 fw_2353) (c_refuse_f l D cI cJ za zr (upd fr_e0 19 (0 : Int32)) (2 : Int32) _ ) rfl rfl rfl (by decide +kernel : fb_hd yX12_refuse 2) ⟨Nat.le_of_ble_eq_true rfl, Nat.le_of_ble_eq_true rfl⟩ rfl rfl rfl rfl rfl (Nat.le_of_ble_eq_true rfl) ⟨Nat.zero_le _, Nat.zero_le _⟩ dX12_setRegister_49 I) ?_
  refine lv_if_eq (tgt := 57) hx hb dX12_setRegister_52 (by decide) (fun _ => ?_) (fun c7 => absurd (by decide) c7)
  refine lv_aload_n hx hb dX12_setRegister_57 rfl (lv_at hl 0 rfl) ?_
  refine fb_get X I (k := 0) (v := .ref (zr 0)) fu_X12 0 fb_h12 rfl (Nat.le_of_ble_eq_true rfl) fw_1964 rfl rfl dX12_setRegister_58 ?_
  refine lv_iload_n hx hb dX12_setRegister_61 rfl (lv_at hl 1 rfl) ?_
  refine fb_iaC (n := 0) (v := (0 : Int32)) X I 1 0 rfl rfl (by decide) (by decide) (Nat.le_of_ble_eq_true rfl) rfl dX12_setRegister_62 ?_
  refine lv_istore_n (lv' := [(3, .int (0 : Int32)), (0, .ref za), (1, .int (0 : Int32)), (2, .int l2)]) hx hb dX12_setRegister_63 rfl hl (by decide) rfl (fun ls hl => ?_)
  refine lv_aload_n hx hb dX12_setRegister_64 rfl (lv_at hl 1 rfl) ?_
  refine fb_get X I (k := 0) (v := .ref (zr 0)) fu_X12 0 fb_h12 rfl (Nat.le_of_ble_eq_true rfl) fw_1964 rfl rfl dX12_setRegister_65 ?_
  refine lv_iload_n hx hb dX12_setRegister_68 rfl (lv_at hl 2 rfl) ?_
  refine lv_iload_n hx hb dX12_setRegister_69 rfl (lv_at hl 3 rfl) ?_
  refine fb_isC (n := 0) (wn := ([fb_o12 za zr (upd fr_e0 19 (0 : Int32)), fb_aw cI (zr 0) 16205 (upd (fr_m (fun _ => 0) 0) 0 l2)] : List va_W).flatten) X I 1 0 rfl rfl (by decide) (by decide) (Nat.le_of_ble_eq_true rfl) rfl dX12_setRegister_70 (fun H locs I => ?_)
  refine lv_aload_n hx hb dX12_setRegister_71 rfl (lv_at hl 1 rfl) ?_
  refine fb_gV (cs := [fb_o12 za zr (upd fr_e0 19 (0 : Int32))]) (rs := [fb_aw cI (zr 0) 16205 (upd (fr_m (fun _ => 0) 0) 0 l2)]) (fun (t : Unit) => [fb_o12 za zr (upd (upd fr_e0 19 (0 : Int32)) 2 (0 : Int32)), fb_aw cI (zr 0) 16205 (upd (fr_m (fun _ => 0) 0) 0 l2)]) (fun (t : Unit) => [fb_o12 za zr (upd (upd fr_e0 19 (0 : Int32)) 2 (0 : Int32))]) X I [0, 1] 2 rfl (by decide +kernel) rfl rfl [0, 1] 2 (fun _ => rfl) (by decide +kernel) (fun _ => rfl) (fun _ => rfl) (fun I => fb_rV (As := []) (rest := []) X hl (fb_goodV fw_1960 fw_1962 fw_88 fw_204 fw_1963) (c_forget l D cI cJ za zr (upd fr_e0 19 (0 : Int32)) _ ) rfl rfl rfl (by decide +kernel : fb_hd yX12_forget 0) ⟨Nat.le_of_ble_eq_true rfl, Nat.le_of_ble_eq_true rfl⟩ rfl rfl rfl rfl rfl (Nat.le_of_ble_eq_true rfl) ⟨Nat.zero_le _, Nat.zero_le _⟩ dX12_setRegister_72 I) ?_
  intro w8 H locs _ I
  have I : fb_In D A s.heap (([fb_o12 za zr (upd (upd fr_e0 19 (0 : Int32)) 2 (0 : Int32)), fb_aw cI (zr 0) 16205 (upd (fr_m (fun _ => 0) 0) 0 l2)] : List va_W).flatten) H locs := I
  refine lv_iload_n hx hb dX12_setRegister_75 rfl (lv_at hl 0 rfl) ?_
  exact fb_retI (u := ()) X I rfl rfl dX12_setRegister_76

set_option maxHeartbeats 4000000 in
set_option maxRecDepth 100000 in
theorem c_setRegister_bad1 (l : Launch) (D : va_G) (cI cJ : ClassId) (za : Nat) (zr : Nat → Nat) (l2 : Int32) (sz : Nat) (q1 : f_X12_isIn l2 (0 : Int32) (255 : Int32) = (0 : Int32)) : Met l yX12_setRegister (Cond.code yX12_setRegister cX12_setRegister 4 (some .int) :: fb_all) ({ frames := 3, cells := 0, slots := 0, locals := 75 } : Room) (fb_PP D (fb_ty D cI cJ) [.ref za, .int (1 : Int32), .int l2] (([fb_o12 za zr fr_e0] : List va_W).flatten) sz) (fb_QI D (va_A (([fb_o12 za zr fr_e0] : List va_W).flatten) sz) (fun (r : Int32) (_ : Unit) => r = (0 : Int32)) (fun (t : Unit) => ([fb_o12 za zr (upd (upd fr_e0 19 (0 : Int32)) 19 (2 : Int32))] : List va_W).flatten)) 0 0 (va_A (([fb_o12 za zr fr_e0] : List va_W).flatten) sz) := by
  refine fb_ent (Qf := fun A => (fb_QI D A (fun (r : Int32) (_ : Unit) => r = (0 : Int32)) (fun (t : Unit) => ([fb_o12 za zr (upd (upd fr_e0 19 (0 : Int32)) 19 (2 : Int32))] : List va_W).flatten))) (by decide +kernel) (Nat.le_of_ble_eq_true rfl) ?_
  intro p e s m args below meth c A ls X I hl hin
  obtain ⟨hx, hb, hr, hml, hown, hts, hlk, hA, hK, hF⟩ := id X
  have hl : lv_has ls 4 [(0, .ref za), (1, .int (1 : Int32)), (2, .int l2)] := hl
  refine lv_aload_n hx hb dX12_setRegister_0 rfl (lv_at hl 0 rfl) ?_
  refine lv_iload_n hx hb dX12_setRegister_1 rfl (lv_at hl 1 rfl) ?_
  refine lv_iconst (v := (0 : Int32)) hx hb dX12_setRegister_2 (by decide) ?_
  refine lv_iconst (v := (4 : Int32)) hx hb dX12_setRegister_3 (by decide) ?_
  refine fb_gI (cs := [fb_o12 za zr fr_e0]) (rs := []) (fun (t : Unit) => [fb_o12 za zr (upd fr_e0 19 (0 : Int32))]) (fun (t : Unit) => [fb_o12 za zr (upd fr_e0 19 (0 : Int32))]) X I [0] 1 rfl (by decide +kernel) rfl rfl [0] 1 (fun _ => rfl) (by decide +kernel) (fun _ => rfl) (fun _ => rfl) (fun I => fb_rV (As := [.int (1 : Int32), .int (0 : Int32), .int (4 : Int32)]) (rest := []) X hl (fb_goodV fw_2346 fw_2348 fw_136 fw_204 fw_2349) (c_isNot_in l D cI cJ za zr fr_e0 (1 : Int32) (0 : Int32) (4 : Int32) _ (by decide)) rfl rfl rfl (by decide +kernel : fb_hd yX12_isNot 3) ⟨Nat.le_of_ble_eq_true rfl, Nat.le_of_ble_eq_true rfl⟩ rfl rfl rfl rfl rfl (Nat.le_of_ble_eq_true rfl) ⟨Nat.zero_le _, Nat.zero_le _⟩ dX12_setRegister_4 I) ?_
  intro r2 w1 H locs e0 I
  subst e0
  have I : fb_In D A s.heap (([fb_o12 za zr (upd fr_e0 19 (0 : Int32))] : List va_W).flatten) H locs := I
  refine lv_if_ne (tgt := 55) hx hb dX12_setRegister_7 (by decide) (fun c3 => absurd (by decide) c3) (fun _ => ?_)
  refine lv_aload_n hx hb dX12_setRegister_10 rfl (lv_at hl 0 rfl) ?_
  refine lv_iload_n hx hb dX12_setRegister_11 rfl (lv_at hl 2 rfl) ?_
  refine lv_iconst (v := (0 : Int32)) hx hb dX12_setRegister_12 (by decide) ?_
  refine lv_iload_n hx hb dX12_setRegister_13 rfl (lv_at hl 1 rfl) ?_
  refine lv_iconst (v := (3 : Int32)) hx hb dX12_setRegister_14 (by decide) ?_
  refine lv_icmp_ne (tgt := 23) hx hb dX12_setRegister_15 (by decide) (fun _ => ?_) (fun c4 => absurd c4 (by decide))
  refine lv_iload_n hx hb dX12_setRegister_23 rfl (lv_at hl 1 rfl) ?_
  refine lv_iconst (v := (4 : Int32)) hx hb dX12_setRegister_24 (by decide) ?_
  refine lv_icmp_ne (tgt := 34) hx hb dX12_setRegister_25 (by decide) (fun _ => ?_) (fun c5 => absurd c5 (by decide))
  refine lv_sipush (v := (255 : Int32)) hx hb dX12_setRegister_34 (by decide) ?_
  refine fb_gO (cs := []) (rs := [fb_o12 za zr (upd fr_e0 19 (0 : Int32))]) X I [0] 1 rfl (by decide +kernel) rfl rfl (fun I => fb_rS (As := [.int l2, .int (0 : Int32), .int (255 : Int32)]) (rest := [.ref za]) X hl (fb_goodS fw_2147 fw_2148 fw_204 fw_2149) (c_X12_isIn l D cI cJ l2 (0 : Int32) (255 : Int32) _) rfl rfl (by decide +kernel : fb_hd yX12_isIn 3) ⟨Nat.le_of_ble_eq_true rfl, Nat.le_of_ble_eq_true rfl⟩ rfl rfl (Nat.le_of_ble_eq_true rfl) ⟨Nat.le_of_ble_eq_true rfl, Nat.le_of_ble_eq_true rfl⟩ dX12_setRegister_37 I) ?_
  refine fb_tI (v := (0 : Int32)) q1 ?_
  refine lv_if_ne (tgt := 47) hx hb dX12_setRegister_40 (by decide) (fun c6 => absurd (by decide) c6) (fun _ => ?_)
  refine lv_iconst (v := (1 : Int32)) hx hb dX12_setRegister_43 (by decide) ?_
  refine lv_goto (tgt := 48) hx hb dX12_setRegister_44 (by decide) ?_
  refine lv_iconst (v := (2 : Int32)) hx hb dX12_setRegister_48 (by decide) ?_
  refine fb_gI (cs := [fb_o12 za zr (upd fr_e0 19 (0 : Int32))]) (rs := []) (fun (t : Unit) => [fb_o12 za zr (upd (upd fr_e0 19 (0 : Int32)) 19 (2 : Int32))]) (fun (t : Unit) => [fb_o12 za zr (upd (upd fr_e0 19 (0 : Int32)) 19 (2 : Int32))]) X I [0] 1 rfl (by decide +kernel) rfl rfl [0] 1 (fun _ => rfl) (by decide +kernel) (fun _ => rfl) (fun _ => rfl) (fun I => fb_rV (As := [.int (1 : Int32), .int (2 : Int32)]) (rest := []) X hl (fb_goodV fw_2350 fw_2352 fw_137 fw_204 fw_2353) (c_refuse_t l D cI cJ za zr (upd fr_e0 19 (0 : Int32)) (2 : Int32) _ rfl) rfl rfl rfl (by decide +kernel : fb_hd yX12_refuse 2) ⟨Nat.le_of_ble_eq_true rfl, Nat.le_of_ble_eq_true rfl⟩ rfl rfl rfl rfl rfl (Nat.le_of_ble_eq_true rfl) ⟨Nat.zero_le _, Nat.zero_le _⟩ dX12_setRegister_49 I) ?_
  intro r8 w7 H locs e0 I
  subst e0
  have I : fb_In D A s.heap (([fb_o12 za zr (upd (upd fr_e0 19 (0 : Int32)) 19 (2 : Int32))] : List va_W).flatten) H locs := I
  refine lv_if_eq (tgt := 57) hx hb dX12_setRegister_52 (by decide) (fun c9 => absurd c9 (by decide)) (fun _ => ?_)
  refine lv_iconst (v := (0 : Int32)) hx hb dX12_setRegister_55 (by decide) ?_
  exact fb_retI (u := ()) X I rfl rfl dX12_setRegister_56

set_option maxHeartbeats 4000000 in
set_option maxRecDepth 100000 in
theorem c_setRegister_1 (l : Launch) (D : va_G) (cI cJ : ClassId) (za : Nat) (zr : Nat → Nat) (l2 : Int32) (sz : Nat) (q1 : f_X12_isIn l2 (0 : Int32) (255 : Int32) = (1 : Int32)) : Met l yX12_setRegister (Cond.code yX12_setRegister cX12_setRegister 4 (some .int) :: fb_all) ({ frames := 3, cells := 0, slots := 0, locals := 75 } : Room) (fb_PP D (fb_ty D cI cJ) [.ref za, .int (1 : Int32), .int l2] (([fb_o12 za zr fr_e0, fb_aw cI (zr 0) 16205 (fr_m (fun _ => 0) 0)] : List va_W).flatten) sz) (fb_QI D (va_A (([fb_o12 za zr fr_e0, fb_aw cI (zr 0) 16205 (fr_m (fun _ => 0) 0)] : List va_W).flatten) sz) (fun (r : Int32) (_ : Unit) => r = (0 : Int32)) (fun (t : Unit) => ([fb_o12 za zr (upd (upd fr_e0 19 (0 : Int32)) 2 (0 : Int32)), fb_aw cI (zr 0) 16205 (upd (fr_m (fun _ => 0) 0) 1 l2)] : List va_W).flatten)) 0 0 (va_A (([fb_o12 za zr fr_e0, fb_aw cI (zr 0) 16205 (fr_m (fun _ => 0) 0)] : List va_W).flatten) sz) := by
  refine fb_ent (Qf := fun A => (fb_QI D A (fun (r : Int32) (_ : Unit) => r = (0 : Int32)) (fun (t : Unit) => ([fb_o12 za zr (upd (upd fr_e0 19 (0 : Int32)) 2 (0 : Int32)), fb_aw cI (zr 0) 16205 (upd (fr_m (fun _ => 0) 0) 1 l2)] : List va_W).flatten))) (by decide +kernel) (Nat.le_of_ble_eq_true rfl) ?_
  intro p e s m args below meth c A ls X I hl hin
  obtain ⟨hx, hb, hr, hml, hown, hts, hlk, hA, hK, hF⟩ := id X
  have hl : lv_has ls 4 [(0, .ref za), (1, .int (1 : Int32)), (2, .int l2)] := hl
  refine lv_aload_n hx hb dX12_setRegister_0 rfl (lv_at hl 0 rfl) ?_
  refine lv_iload_n hx hb dX12_setRegister_1 rfl (lv_at hl 1 rfl) ?_
  refine lv_iconst (v := (0 : Int32)) hx hb dX12_setRegister_2 (by decide) ?_
  refine lv_iconst (v := (4 : Int32)) hx hb dX12_setRegister_3 (by decide) ?_
  refine fb_gI (cs := [fb_o12 za zr fr_e0]) (rs := [fb_aw cI (zr 0) 16205 (fr_m (fun _ => 0) 0)]) (fun (t : Unit) => [fb_o12 za zr (upd fr_e0 19 (0 : Int32)), fb_aw cI (zr 0) 16205 (fr_m (fun _ => 0) 0)]) (fun (t : Unit) => [fb_o12 za zr (upd fr_e0 19 (0 : Int32))]) X I [0, 1] 2 rfl (by decide +kernel) rfl rfl [0, 1] 2 (fun _ => rfl) (by decide +kernel) (fun _ => rfl) (fun _ => rfl) (fun I => fb_rV (As := [.int (1 : Int32), .int (0 : Int32), .int (4 : Int32)]) (rest := []) X hl (fb_goodV fw_2346 fw_2348 fw_136 fw_204 fw_2349) (c_isNot_in l D cI cJ za zr fr_e0 (1 : Int32) (0 : Int32) (4 : Int32) _ (by decide)) rfl rfl rfl (by decide +kernel : fb_hd yX12_isNot 3) ⟨Nat.le_of_ble_eq_true rfl, Nat.le_of_ble_eq_true rfl⟩ rfl rfl rfl rfl rfl (Nat.le_of_ble_eq_true rfl) ⟨Nat.zero_le _, Nat.zero_le _⟩ dX12_setRegister_4 I) ?_
  intro r2 w1 H locs e0 I
  subst e0
  have I : fb_In D A s.heap (([fb_o12 za zr (upd fr_e0 19 (0 : Int32)), fb_aw cI (zr 0) 16205 (fr_m (fun _ => 0) 0)] : List va_W).flatten) H locs := I
  refine lv_if_ne (tgt := 55) hx hb dX12_setRegister_7 (by decide) (fun c3 => absurd (by decide) c3) (fun _ => ?_)
  refine lv_aload_n hx hb dX12_setRegister_10 rfl (lv_at hl 0 rfl) ?_
  refine lv_iload_n hx hb dX12_setRegister_11 rfl (lv_at hl 2 rfl) ?_
  refine lv_iconst (v := (0 : Int32)) hx hb dX12_setRegister_12 (by decide) ?_
  refine lv_iload_n hx hb dX12_setRegister_13 rfl (lv_at hl 1 rfl) ?_
  refine lv_iconst (v := (3 : Int32)) hx hb dX12_setRegister_14 (by decide) ?_
  refine lv_icmp_ne (tgt := 23) hx hb dX12_setRegister_15 (by decide) (fun _ => ?_) (fun c4 => absurd c4 (by decide))
  refine lv_iload_n hx hb dX12_setRegister_23 rfl (lv_at hl 1 rfl) ?_
  refine lv_iconst (v := (4 : Int32)) hx hb dX12_setRegister_24 (by decide) ?_
  refine lv_icmp_ne (tgt := 34) hx hb dX12_setRegister_25 (by decide) (fun _ => ?_) (fun c5 => absurd c5 (by decide))
  refine lv_sipush (v := (255 : Int32)) hx hb dX12_setRegister_34 (by decide) ?_
  refine fb_gO (cs := []) (rs := [fb_o12 za zr (upd fr_e0 19 (0 : Int32)), fb_aw cI (zr 0) 16205 (fr_m (fun _ => 0) 0)]) X I [0, 1] 2 rfl (by decide +kernel) rfl rfl (fun I => fb_rS (As := [.int l2, .int (0 : Int32), .int (255 : Int32)]) (rest := [.ref za]) X hl (fb_goodS fw_2147 fw_2148 fw_204 fw_2149) (c_X12_isIn l D cI cJ l2 (0 : Int32) (255 : Int32) _) rfl rfl (by decide +kernel : fb_hd yX12_isIn 3) ⟨Nat.le_of_ble_eq_true rfl, Nat.le_of_ble_eq_true rfl⟩ rfl rfl (Nat.le_of_ble_eq_true rfl) ⟨Nat.le_of_ble_eq_true rfl, Nat.le_of_ble_eq_true rfl⟩ dX12_setRegister_37 I) ?_
  refine fb_tI (v := (1 : Int32)) q1 ?_
  refine lv_if_ne (tgt := 47) hx hb dX12_setRegister_40 (by decide) (fun _ => ?_) (fun c6 => absurd c6 (by decide))
  refine lv_iconst (v := (0 : Int32)) hx hb dX12_setRegister_47 (by decide) ?_
  refine lv_iconst (v := (2 : Int32)) hx hb dX12_setRegister_48 (by decide) ?_
  refine fb_gO (cs := [fb_o12 za zr (upd fr_e0 19 (0 : Int32))]) (rs := [fb_aw cI (zr 0) 16205 (fr_m (fun _ => 0) 0)]) X I [0, 1] 2 rfl (by decide +kernel) rfl rfl (fun I => fb_rV (As := [.int (0 : Int32), .int (2 : Int32)]) (rest := []) X hl (fb_goodV fw_2350 fw_2352 fw_137 fw_204 fw_2353) (c_refuse_f l D cI cJ za zr (upd fr_e0 19 (0 : Int32)) (2 : Int32) _ ) rfl rfl rfl (by decide +kernel : fb_hd yX12_refuse 2) ⟨Nat.le_of_ble_eq_true rfl, Nat.le_of_ble_eq_true rfl⟩ rfl rfl rfl rfl rfl (Nat.le_of_ble_eq_true rfl) ⟨Nat.zero_le _, Nat.zero_le _⟩ dX12_setRegister_49 I) ?_
  refine lv_if_eq (tgt := 57) hx hb dX12_setRegister_52 (by decide) (fun _ => ?_) (fun c7 => absurd (by decide) c7)
  refine lv_aload_n hx hb dX12_setRegister_57 rfl (lv_at hl 0 rfl) ?_
  refine fb_get X I (k := 0) (v := .ref (zr 0)) fu_X12 0 fb_h12 rfl (Nat.le_of_ble_eq_true rfl) fw_1964 rfl rfl dX12_setRegister_58 ?_
  refine lv_iload_n hx hb dX12_setRegister_61 rfl (lv_at hl 1 rfl) ?_
  refine fb_iaC (n := 1) (v := (0 : Int32)) X I 1 0 rfl rfl (by decide) (by decide) (Nat.le_of_ble_eq_true rfl) rfl dX12_setRegister_62 ?_
  refine lv_istore_n (lv' := [(3, .int (0 : Int32)), (0, .ref za), (1, .int (1 : Int32)), (2, .int l2)]) hx hb dX12_setRegister_63 rfl hl (by decide) rfl (fun ls hl => ?_)
  refine lv_aload_n hx hb dX12_setRegister_64 rfl (lv_at hl 1 rfl) ?_
  refine fb_get X I (k := 0) (v := .ref (zr 0)) fu_X12 0 fb_h12 rfl (Nat.le_of_ble_eq_true rfl) fw_1964 rfl rfl dX12_setRegister_65 ?_
  refine lv_iload_n hx hb dX12_setRegister_68 rfl (lv_at hl 2 rfl) ?_
  refine lv_iload_n hx hb dX12_setRegister_69 rfl (lv_at hl 3 rfl) ?_
  refine fb_isC (n := 1) (wn := ([fb_o12 za zr (upd fr_e0 19 (0 : Int32)), fb_aw cI (zr 0) 16205 (upd (fr_m (fun _ => 0) 0) 1 l2)] : List va_W).flatten) X I 1 0 rfl rfl (by decide) (by decide) (Nat.le_of_ble_eq_true rfl) rfl dX12_setRegister_70 (fun H locs I => ?_)
  refine lv_aload_n hx hb dX12_setRegister_71 rfl (lv_at hl 1 rfl) ?_
  refine fb_gV (cs := [fb_o12 za zr (upd fr_e0 19 (0 : Int32))]) (rs := [fb_aw cI (zr 0) 16205 (upd (fr_m (fun _ => 0) 0) 1 l2)]) (fun (t : Unit) => [fb_o12 za zr (upd (upd fr_e0 19 (0 : Int32)) 2 (0 : Int32)), fb_aw cI (zr 0) 16205 (upd (fr_m (fun _ => 0) 0) 1 l2)]) (fun (t : Unit) => [fb_o12 za zr (upd (upd fr_e0 19 (0 : Int32)) 2 (0 : Int32))]) X I [0, 1] 2 rfl (by decide +kernel) rfl rfl [0, 1] 2 (fun _ => rfl) (by decide +kernel) (fun _ => rfl) (fun _ => rfl) (fun I => fb_rV (As := []) (rest := []) X hl (fb_goodV fw_1960 fw_1962 fw_88 fw_204 fw_1963) (c_forget l D cI cJ za zr (upd fr_e0 19 (0 : Int32)) _ ) rfl rfl rfl (by decide +kernel : fb_hd yX12_forget 0) ⟨Nat.le_of_ble_eq_true rfl, Nat.le_of_ble_eq_true rfl⟩ rfl rfl rfl rfl rfl (Nat.le_of_ble_eq_true rfl) ⟨Nat.zero_le _, Nat.zero_le _⟩ dX12_setRegister_72 I) ?_
  intro w8 H locs _ I
  have I : fb_In D A s.heap (([fb_o12 za zr (upd (upd fr_e0 19 (0 : Int32)) 2 (0 : Int32)), fb_aw cI (zr 0) 16205 (upd (fr_m (fun _ => 0) 0) 1 l2)] : List va_W).flatten) H locs := I
  refine lv_iload_n hx hb dX12_setRegister_75 rfl (lv_at hl 0 rfl) ?_
  exact fb_retI (u := ()) X I rfl rfl dX12_setRegister_76

set_option maxHeartbeats 4000000 in
set_option maxRecDepth 100000 in
theorem c_setRegister_bad2 (l : Launch) (D : va_G) (cI cJ : ClassId) (za : Nat) (zr : Nat → Nat) (l2 : Int32) (sz : Nat) (q1 : f_X12_isIn l2 (0 : Int32) (255 : Int32) = (0 : Int32)) : Met l yX12_setRegister (Cond.code yX12_setRegister cX12_setRegister 4 (some .int) :: fb_all) ({ frames := 3, cells := 0, slots := 0, locals := 75 } : Room) (fb_PP D (fb_ty D cI cJ) [.ref za, .int (2 : Int32), .int l2] (([fb_o12 za zr fr_e0] : List va_W).flatten) sz) (fb_QI D (va_A (([fb_o12 za zr fr_e0] : List va_W).flatten) sz) (fun (r : Int32) (_ : Unit) => r = (0 : Int32)) (fun (t : Unit) => ([fb_o12 za zr (upd (upd fr_e0 19 (0 : Int32)) 19 (2 : Int32))] : List va_W).flatten)) 0 0 (va_A (([fb_o12 za zr fr_e0] : List va_W).flatten) sz) := by
  refine fb_ent (Qf := fun A => (fb_QI D A (fun (r : Int32) (_ : Unit) => r = (0 : Int32)) (fun (t : Unit) => ([fb_o12 za zr (upd (upd fr_e0 19 (0 : Int32)) 19 (2 : Int32))] : List va_W).flatten))) (by decide +kernel) (Nat.le_of_ble_eq_true rfl) ?_
  intro p e s m args below meth c A ls X I hl hin
  obtain ⟨hx, hb, hr, hml, hown, hts, hlk, hA, hK, hF⟩ := id X
  have hl : lv_has ls 4 [(0, .ref za), (1, .int (2 : Int32)), (2, .int l2)] := hl
  refine lv_aload_n hx hb dX12_setRegister_0 rfl (lv_at hl 0 rfl) ?_
  refine lv_iload_n hx hb dX12_setRegister_1 rfl (lv_at hl 1 rfl) ?_
  refine lv_iconst (v := (0 : Int32)) hx hb dX12_setRegister_2 (by decide) ?_
  refine lv_iconst (v := (4 : Int32)) hx hb dX12_setRegister_3 (by decide) ?_
  refine fb_gI (cs := [fb_o12 za zr fr_e0]) (rs := []) (fun (t : Unit) => [fb_o12 za zr (upd fr_e0 19 (0 : Int32))]) (fun (t : Unit) => [fb_o12 za zr (upd fr_e0 19 (0 : Int32))]) X I [0] 1 rfl (by decide +kernel) rfl rfl [0] 1 (fun _ => rfl) (by decide +kernel) (fun _ => rfl) (fun _ => rfl) (fun I => fb_rV (As := [.int (2 : Int32), .int (0 : Int32), .int (4 : Int32)]) (rest := []) X hl (fb_goodV fw_2346 fw_2348 fw_136 fw_204 fw_2349) (c_isNot_in l D cI cJ za zr fr_e0 (2 : Int32) (0 : Int32) (4 : Int32) _ (by decide)) rfl rfl rfl (by decide +kernel : fb_hd yX12_isNot 3) ⟨Nat.le_of_ble_eq_true rfl, Nat.le_of_ble_eq_true rfl⟩ rfl rfl rfl rfl rfl (Nat.le_of_ble_eq_true rfl) ⟨Nat.zero_le _, Nat.zero_le _⟩ dX12_setRegister_4 I) ?_
  intro r2 w1 H locs e0 I
  subst e0
  have I : fb_In D A s.heap (([fb_o12 za zr (upd fr_e0 19 (0 : Int32))] : List va_W).flatten) H locs := I
  refine lv_if_ne (tgt := 55) hx hb dX12_setRegister_7 (by decide) (fun c3 => absurd (by decide) c3) (fun _ => ?_)
  refine lv_aload_n hx hb dX12_setRegister_10 rfl (lv_at hl 0 rfl) ?_
  refine lv_iload_n hx hb dX12_setRegister_11 rfl (lv_at hl 2 rfl) ?_
  refine lv_iconst (v := (0 : Int32)) hx hb dX12_setRegister_12 (by decide) ?_
  refine lv_iload_n hx hb dX12_setRegister_13 rfl (lv_at hl 1 rfl) ?_
  refine lv_iconst (v := (3 : Int32)) hx hb dX12_setRegister_14 (by decide) ?_
  refine lv_icmp_ne (tgt := 23) hx hb dX12_setRegister_15 (by decide) (fun _ => ?_) (fun c4 => absurd c4 (by decide))
  refine lv_iload_n hx hb dX12_setRegister_23 rfl (lv_at hl 1 rfl) ?_
  refine lv_iconst (v := (4 : Int32)) hx hb dX12_setRegister_24 (by decide) ?_
  refine lv_icmp_ne (tgt := 34) hx hb dX12_setRegister_25 (by decide) (fun _ => ?_) (fun c5 => absurd c5 (by decide))
  refine lv_sipush (v := (255 : Int32)) hx hb dX12_setRegister_34 (by decide) ?_
  refine fb_gO (cs := []) (rs := [fb_o12 za zr (upd fr_e0 19 (0 : Int32))]) X I [0] 1 rfl (by decide +kernel) rfl rfl (fun I => fb_rS (As := [.int l2, .int (0 : Int32), .int (255 : Int32)]) (rest := [.ref za]) X hl (fb_goodS fw_2147 fw_2148 fw_204 fw_2149) (c_X12_isIn l D cI cJ l2 (0 : Int32) (255 : Int32) _) rfl rfl (by decide +kernel : fb_hd yX12_isIn 3) ⟨Nat.le_of_ble_eq_true rfl, Nat.le_of_ble_eq_true rfl⟩ rfl rfl (Nat.le_of_ble_eq_true rfl) ⟨Nat.le_of_ble_eq_true rfl, Nat.le_of_ble_eq_true rfl⟩ dX12_setRegister_37 I) ?_
  refine fb_tI (v := (0 : Int32)) q1 ?_
  refine lv_if_ne (tgt := 47) hx hb dX12_setRegister_40 (by decide) (fun c6 => absurd (by decide) c6) (fun _ => ?_)
  refine lv_iconst (v := (1 : Int32)) hx hb dX12_setRegister_43 (by decide) ?_
  refine lv_goto (tgt := 48) hx hb dX12_setRegister_44 (by decide) ?_
  refine lv_iconst (v := (2 : Int32)) hx hb dX12_setRegister_48 (by decide) ?_
  refine fb_gI (cs := [fb_o12 za zr (upd fr_e0 19 (0 : Int32))]) (rs := []) (fun (t : Unit) => [fb_o12 za zr (upd (upd fr_e0 19 (0 : Int32)) 19 (2 : Int32))]) (fun (t : Unit) => [fb_o12 za zr (upd (upd fr_e0 19 (0 : Int32)) 19 (2 : Int32))]) X I [0] 1 rfl (by decide +kernel) rfl rfl [0] 1 (fun _ => rfl) (by decide +kernel) (fun _ => rfl) (fun _ => rfl) (fun I => fb_rV (As := [.int (1 : Int32), .int (2 : Int32)]) (rest := []) X hl (fb_goodV fw_2350 fw_2352 fw_137 fw_204 fw_2353) (c_refuse_t l D cI cJ za zr (upd fr_e0 19 (0 : Int32)) (2 : Int32) _ rfl) rfl rfl rfl (by decide +kernel : fb_hd yX12_refuse 2) ⟨Nat.le_of_ble_eq_true rfl, Nat.le_of_ble_eq_true rfl⟩ rfl rfl rfl rfl rfl (Nat.le_of_ble_eq_true rfl) ⟨Nat.zero_le _, Nat.zero_le _⟩ dX12_setRegister_49 I) ?_
  intro r8 w7 H locs e0 I
  subst e0
  have I : fb_In D A s.heap (([fb_o12 za zr (upd (upd fr_e0 19 (0 : Int32)) 19 (2 : Int32))] : List va_W).flatten) H locs := I
  refine lv_if_eq (tgt := 57) hx hb dX12_setRegister_52 (by decide) (fun c9 => absurd c9 (by decide)) (fun _ => ?_)
  refine lv_iconst (v := (0 : Int32)) hx hb dX12_setRegister_55 (by decide) ?_
  exact fb_retI (u := ()) X I rfl rfl dX12_setRegister_56

set_option maxHeartbeats 4000000 in
set_option maxRecDepth 100000 in
theorem c_setRegister_2 (l : Launch) (D : va_G) (cI cJ : ClassId) (za : Nat) (zr : Nat → Nat) (l2 : Int32) (sz : Nat) (q1 : f_X12_isIn l2 (0 : Int32) (255 : Int32) = (1 : Int32)) : Met l yX12_setRegister (Cond.code yX12_setRegister cX12_setRegister 4 (some .int) :: fb_all) ({ frames := 3, cells := 0, slots := 0, locals := 75 } : Room) (fb_PP D (fb_ty D cI cJ) [.ref za, .int (2 : Int32), .int l2] (([fb_o12 za zr fr_e0, fb_aw cI (zr 0) 16205 (fr_m (fun _ => 0) 0)] : List va_W).flatten) sz) (fb_QI D (va_A (([fb_o12 za zr fr_e0, fb_aw cI (zr 0) 16205 (fr_m (fun _ => 0) 0)] : List va_W).flatten) sz) (fun (r : Int32) (_ : Unit) => r = (255 : Int32)) (fun (t : Unit) => ([fb_o12 za zr (upd (upd fr_e0 19 (0 : Int32)) 2 (0 : Int32)), fb_aw cI (zr 0) 16205 (upd (fr_m (fun _ => 0) 0) 2 l2)] : List va_W).flatten)) 0 0 (va_A (([fb_o12 za zr fr_e0, fb_aw cI (zr 0) 16205 (fr_m (fun _ => 0) 0)] : List va_W).flatten) sz) := by
  refine fb_ent (Qf := fun A => (fb_QI D A (fun (r : Int32) (_ : Unit) => r = (255 : Int32)) (fun (t : Unit) => ([fb_o12 za zr (upd (upd fr_e0 19 (0 : Int32)) 2 (0 : Int32)), fb_aw cI (zr 0) 16205 (upd (fr_m (fun _ => 0) 0) 2 l2)] : List va_W).flatten))) (by decide +kernel) (Nat.le_of_ble_eq_true rfl) ?_
  intro p e s m args below meth c A ls X I hl hin
  obtain ⟨hx, hb, hr, hml, hown, hts, hlk, hA, hK, hF⟩ := id X
  have hl : lv_has ls 4 [(0, .ref za), (1, .int (2 : Int32)), (2, .int l2)] := hl
  refine lv_aload_n hx hb dX12_setRegister_0 rfl (lv_at hl 0 rfl) ?_
  refine lv_iload_n hx hb dX12_setRegister_1 rfl (lv_at hl 1 rfl) ?_
  refine lv_iconst (v := (0 : Int32)) hx hb dX12_setRegister_2 (by decide) ?_
  refine lv_iconst (v := (4 : Int32)) hx hb dX12_setRegister_3 (by decide) ?_
  refine fb_gI (cs := [fb_o12 za zr fr_e0]) (rs := [fb_aw cI (zr 0) 16205 (fr_m (fun _ => 0) 0)]) (fun (t : Unit) => [fb_o12 za zr (upd fr_e0 19 (0 : Int32)), fb_aw cI (zr 0) 16205 (fr_m (fun _ => 0) 0)]) (fun (t : Unit) => [fb_o12 za zr (upd fr_e0 19 (0 : Int32))]) X I [0, 1] 2 rfl (by decide +kernel) rfl rfl [0, 1] 2 (fun _ => rfl) (by decide +kernel) (fun _ => rfl) (fun _ => rfl) (fun I => fb_rV (As := [.int (2 : Int32), .int (0 : Int32), .int (4 : Int32)]) (rest := []) X hl (fb_goodV fw_2346 fw_2348 fw_136 fw_204 fw_2349) (c_isNot_in l D cI cJ za zr fr_e0 (2 : Int32) (0 : Int32) (4 : Int32) _ (by decide)) rfl rfl rfl (by decide +kernel : fb_hd yX12_isNot 3) ⟨Nat.le_of_ble_eq_true rfl, Nat.le_of_ble_eq_true rfl⟩ rfl rfl rfl rfl rfl (Nat.le_of_ble_eq_true rfl) ⟨Nat.zero_le _, Nat.zero_le _⟩ dX12_setRegister_4 I) ?_
  intro r2 w1 H locs e0 I
  subst e0
  have I : fb_In D A s.heap (([fb_o12 za zr (upd fr_e0 19 (0 : Int32)), fb_aw cI (zr 0) 16205 (fr_m (fun _ => 0) 0)] : List va_W).flatten) H locs := I
  refine lv_if_ne (tgt := 55) hx hb dX12_setRegister_7 (by decide) (fun c3 => absurd (by decide) c3) (fun _ => ?_)
  refine lv_aload_n hx hb dX12_setRegister_10 rfl (lv_at hl 0 rfl) ?_
  refine lv_iload_n hx hb dX12_setRegister_11 rfl (lv_at hl 2 rfl) ?_
  refine lv_iconst (v := (0 : Int32)) hx hb dX12_setRegister_12 (by decide) ?_
  refine lv_iload_n hx hb dX12_setRegister_13 rfl (lv_at hl 1 rfl) ?_
  refine lv_iconst (v := (3 : Int32)) hx hb dX12_setRegister_14 (by decide) ?_
  refine lv_icmp_ne (tgt := 23) hx hb dX12_setRegister_15 (by decide) (fun _ => ?_) (fun c4 => absurd c4 (by decide))
  refine lv_iload_n hx hb dX12_setRegister_23 rfl (lv_at hl 1 rfl) ?_
  refine lv_iconst (v := (4 : Int32)) hx hb dX12_setRegister_24 (by decide) ?_
  refine lv_icmp_ne (tgt := 34) hx hb dX12_setRegister_25 (by decide) (fun _ => ?_) (fun c5 => absurd c5 (by decide))
  refine lv_sipush (v := (255 : Int32)) hx hb dX12_setRegister_34 (by decide) ?_
  refine fb_gO (cs := []) (rs := [fb_o12 za zr (upd fr_e0 19 (0 : Int32)), fb_aw cI (zr 0) 16205 (fr_m (fun _ => 0) 0)]) X I [0, 1] 2 rfl (by decide +kernel) rfl rfl (fun I => fb_rS (As := [.int l2, .int (0 : Int32), .int (255 : Int32)]) (rest := [.ref za]) X hl (fb_goodS fw_2147 fw_2148 fw_204 fw_2149) (c_X12_isIn l D cI cJ l2 (0 : Int32) (255 : Int32) _) rfl rfl (by decide +kernel : fb_hd yX12_isIn 3) ⟨Nat.le_of_ble_eq_true rfl, Nat.le_of_ble_eq_true rfl⟩ rfl rfl (Nat.le_of_ble_eq_true rfl) ⟨Nat.le_of_ble_eq_true rfl, Nat.le_of_ble_eq_true rfl⟩ dX12_setRegister_37 I) ?_
  refine fb_tI (v := (1 : Int32)) q1 ?_
  refine lv_if_ne (tgt := 47) hx hb dX12_setRegister_40 (by decide) (fun _ => ?_) (fun c6 => absurd c6 (by decide))
  refine lv_iconst (v := (0 : Int32)) hx hb dX12_setRegister_47 (by decide) ?_
  refine lv_iconst (v := (2 : Int32)) hx hb dX12_setRegister_48 (by decide) ?_
  refine fb_gO (cs := [fb_o12 za zr (upd fr_e0 19 (0 : Int32))]) (rs := [fb_aw cI (zr 0) 16205 (fr_m (fun _ => 0) 0)]) X I [0, 1] 2 rfl (by decide +kernel) rfl rfl (fun I => fb_rV (As := [.int (0 : Int32), .int (2 : Int32)]) (rest := []) X hl (fb_goodV fw_2350 fw_2352 fw_137 fw_204 fw_2353) (c_refuse_f l D cI cJ za zr (upd fr_e0 19 (0 : Int32)) (2 : Int32) _ ) rfl rfl rfl (by decide +kernel : fb_hd yX12_refuse 2) ⟨Nat.le_of_ble_eq_true rfl, Nat.le_of_ble_eq_true rfl⟩ rfl rfl rfl rfl rfl (Nat.le_of_ble_eq_true rfl) ⟨Nat.zero_le _, Nat.zero_le _⟩ dX12_setRegister_49 I) ?_
  refine lv_if_eq (tgt := 57) hx hb dX12_setRegister_52 (by decide) (fun _ => ?_) (fun c7 => absurd (by decide) c7)
  refine lv_aload_n hx hb dX12_setRegister_57 rfl (lv_at hl 0 rfl) ?_
  refine fb_get X I (k := 0) (v := .ref (zr 0)) fu_X12 0 fb_h12 rfl (Nat.le_of_ble_eq_true rfl) fw_1964 rfl rfl dX12_setRegister_58 ?_
  refine lv_iload_n hx hb dX12_setRegister_61 rfl (lv_at hl 1 rfl) ?_
  refine fb_iaC (n := 2) (v := (255 : Int32)) X I 1 0 rfl rfl (by decide) (by decide) (Nat.le_of_ble_eq_true rfl) rfl dX12_setRegister_62 ?_
  refine lv_istore_n (lv' := [(3, .int (255 : Int32)), (0, .ref za), (1, .int (2 : Int32)), (2, .int l2)]) hx hb dX12_setRegister_63 rfl hl (by decide) rfl (fun ls hl => ?_)
  refine lv_aload_n hx hb dX12_setRegister_64 rfl (lv_at hl 1 rfl) ?_
  refine fb_get X I (k := 0) (v := .ref (zr 0)) fu_X12 0 fb_h12 rfl (Nat.le_of_ble_eq_true rfl) fw_1964 rfl rfl dX12_setRegister_65 ?_
  refine lv_iload_n hx hb dX12_setRegister_68 rfl (lv_at hl 2 rfl) ?_
  refine lv_iload_n hx hb dX12_setRegister_69 rfl (lv_at hl 3 rfl) ?_
  refine fb_isC (n := 2) (wn := ([fb_o12 za zr (upd fr_e0 19 (0 : Int32)), fb_aw cI (zr 0) 16205 (upd (fr_m (fun _ => 0) 0) 2 l2)] : List va_W).flatten) X I 1 0 rfl rfl (by decide) (by decide) (Nat.le_of_ble_eq_true rfl) rfl dX12_setRegister_70 (fun H locs I => ?_)
  refine lv_aload_n hx hb dX12_setRegister_71 rfl (lv_at hl 1 rfl) ?_
  refine fb_gV (cs := [fb_o12 za zr (upd fr_e0 19 (0 : Int32))]) (rs := [fb_aw cI (zr 0) 16205 (upd (fr_m (fun _ => 0) 0) 2 l2)]) (fun (t : Unit) => [fb_o12 za zr (upd (upd fr_e0 19 (0 : Int32)) 2 (0 : Int32)), fb_aw cI (zr 0) 16205 (upd (fr_m (fun _ => 0) 0) 2 l2)]) (fun (t : Unit) => [fb_o12 za zr (upd (upd fr_e0 19 (0 : Int32)) 2 (0 : Int32))]) X I [0, 1] 2 rfl (by decide +kernel) rfl rfl [0, 1] 2 (fun _ => rfl) (by decide +kernel) (fun _ => rfl) (fun _ => rfl) (fun I => fb_rV (As := []) (rest := []) X hl (fb_goodV fw_1960 fw_1962 fw_88 fw_204 fw_1963) (c_forget l D cI cJ za zr (upd fr_e0 19 (0 : Int32)) _ ) rfl rfl rfl (by decide +kernel : fb_hd yX12_forget 0) ⟨Nat.le_of_ble_eq_true rfl, Nat.le_of_ble_eq_true rfl⟩ rfl rfl rfl rfl rfl (Nat.le_of_ble_eq_true rfl) ⟨Nat.zero_le _, Nat.zero_le _⟩ dX12_setRegister_72 I) ?_
  intro w8 H locs _ I
  have I : fb_In D A s.heap (([fb_o12 za zr (upd (upd fr_e0 19 (0 : Int32)) 2 (0 : Int32)), fb_aw cI (zr 0) 16205 (upd (fr_m (fun _ => 0) 0) 2 l2)] : List va_W).flatten) H locs := I
  refine lv_iload_n hx hb dX12_setRegister_75 rfl (lv_at hl 0 rfl) ?_
  exact fb_retI (u := ()) X I rfl rfl dX12_setRegister_76

set_option maxHeartbeats 4000000 in
set_option maxRecDepth 100000 in
theorem c_setRegister_bad3 (l : Launch) (D : va_G) (cI cJ : ClassId) (za : Nat) (zr : Nat → Nat) (l2 : Int32) (sz : Nat) (q1 : f_X12_isIn l2 (0 : Int32) (31 : Int32) = (0 : Int32)) : Met l yX12_setRegister (Cond.code yX12_setRegister cX12_setRegister 4 (some .int) :: fb_all) ({ frames := 3, cells := 0, slots := 0, locals := 75 } : Room) (fb_PP D (fb_ty D cI cJ) [.ref za, .int (3 : Int32), .int l2] (([fb_o12 za zr fr_e0] : List va_W).flatten) sz) (fb_QI D (va_A (([fb_o12 za zr fr_e0] : List va_W).flatten) sz) (fun (r : Int32) (_ : Unit) => r = (0 : Int32)) (fun (t : Unit) => ([fb_o12 za zr (upd (upd fr_e0 19 (0 : Int32)) 19 (2 : Int32))] : List va_W).flatten)) 0 0 (va_A (([fb_o12 za zr fr_e0] : List va_W).flatten) sz) := by
  refine fb_ent (Qf := fun A => (fb_QI D A (fun (r : Int32) (_ : Unit) => r = (0 : Int32)) (fun (t : Unit) => ([fb_o12 za zr (upd (upd fr_e0 19 (0 : Int32)) 19 (2 : Int32))] : List va_W).flatten))) (by decide +kernel) (Nat.le_of_ble_eq_true rfl) ?_
  intro p e s m args below meth c A ls X I hl hin
  obtain ⟨hx, hb, hr, hml, hown, hts, hlk, hA, hK, hF⟩ := id X
  have hl : lv_has ls 4 [(0, .ref za), (1, .int (3 : Int32)), (2, .int l2)] := hl
  refine lv_aload_n hx hb dX12_setRegister_0 rfl (lv_at hl 0 rfl) ?_
  refine lv_iload_n hx hb dX12_setRegister_1 rfl (lv_at hl 1 rfl) ?_
  refine lv_iconst (v := (0 : Int32)) hx hb dX12_setRegister_2 (by decide) ?_
  refine lv_iconst (v := (4 : Int32)) hx hb dX12_setRegister_3 (by decide) ?_
  refine fb_gI (cs := [fb_o12 za zr fr_e0]) (rs := []) (fun (t : Unit) => [fb_o12 za zr (upd fr_e0 19 (0 : Int32))]) (fun (t : Unit) => [fb_o12 za zr (upd fr_e0 19 (0 : Int32))]) X I [0] 1 rfl (by decide +kernel) rfl rfl [0] 1 (fun _ => rfl) (by decide +kernel) (fun _ => rfl) (fun _ => rfl) (fun I => fb_rV (As := [.int (3 : Int32), .int (0 : Int32), .int (4 : Int32)]) (rest := []) X hl (fb_goodV fw_2346 fw_2348 fw_136 fw_204 fw_2349) (c_isNot_in l D cI cJ za zr fr_e0 (3 : Int32) (0 : Int32) (4 : Int32) _ (by decide)) rfl rfl rfl (by decide +kernel : fb_hd yX12_isNot 3) ⟨Nat.le_of_ble_eq_true rfl, Nat.le_of_ble_eq_true rfl⟩ rfl rfl rfl rfl rfl (Nat.le_of_ble_eq_true rfl) ⟨Nat.zero_le _, Nat.zero_le _⟩ dX12_setRegister_4 I) ?_
  intro r2 w1 H locs e0 I
  subst e0
  have I : fb_In D A s.heap (([fb_o12 za zr (upd fr_e0 19 (0 : Int32))] : List va_W).flatten) H locs := I
  refine lv_if_ne (tgt := 55) hx hb dX12_setRegister_7 (by decide) (fun c3 => absurd (by decide) c3) (fun _ => ?_)
  refine lv_aload_n hx hb dX12_setRegister_10 rfl (lv_at hl 0 rfl) ?_
  refine lv_iload_n hx hb dX12_setRegister_11 rfl (lv_at hl 2 rfl) ?_
  refine lv_iconst (v := (0 : Int32)) hx hb dX12_setRegister_12 (by decide) ?_
  refine lv_iload_n hx hb dX12_setRegister_13 rfl (lv_at hl 1 rfl) ?_
  refine lv_iconst (v := (3 : Int32)) hx hb dX12_setRegister_14 (by decide) ?_
  refine lv_icmp_ne (tgt := 23) hx hb dX12_setRegister_15 (by decide) (fun c4 => absurd (by decide) c4) (fun _ => ?_)
  refine lv_bipush (v := (31 : Int32)) hx hb dX12_setRegister_18 (by decide) ?_
  refine lv_goto (tgt := 37) hx hb dX12_setRegister_20 (by decide) ?_
  refine fb_gO (cs := []) (rs := [fb_o12 za zr (upd fr_e0 19 (0 : Int32))]) X I [0] 1 rfl (by decide +kernel) rfl rfl (fun I => fb_rS (As := [.int l2, .int (0 : Int32), .int (31 : Int32)]) (rest := [.ref za]) X hl (fb_goodS fw_2147 fw_2148 fw_204 fw_2149) (c_X12_isIn l D cI cJ l2 (0 : Int32) (31 : Int32) _) rfl rfl (by decide +kernel : fb_hd yX12_isIn 3) ⟨Nat.le_of_ble_eq_true rfl, Nat.le_of_ble_eq_true rfl⟩ rfl rfl (Nat.le_of_ble_eq_true rfl) ⟨Nat.le_of_ble_eq_true rfl, Nat.le_of_ble_eq_true rfl⟩ dX12_setRegister_37 I) ?_
  refine fb_tI (v := (0 : Int32)) q1 ?_
  refine lv_if_ne (tgt := 47) hx hb dX12_setRegister_40 (by decide) (fun c5 => absurd (by decide) c5) (fun _ => ?_)
  refine lv_iconst (v := (1 : Int32)) hx hb dX12_setRegister_43 (by decide) ?_
  refine lv_goto (tgt := 48) hx hb dX12_setRegister_44 (by decide) ?_
  refine lv_iconst (v := (2 : Int32)) hx hb dX12_setRegister_48 (by decide) ?_
  refine fb_gI (cs := [fb_o12 za zr (upd fr_e0 19 (0 : Int32))]) (rs := []) (fun (t : Unit) => [fb_o12 za zr (upd (upd fr_e0 19 (0 : Int32)) 19 (2 : Int32))]) (fun (t : Unit) => [fb_o12 za zr (upd (upd fr_e0 19 (0 : Int32)) 19 (2 : Int32))]) X I [0] 1 rfl (by decide +kernel) rfl rfl [0] 1 (fun _ => rfl) (by decide +kernel) (fun _ => rfl) (fun _ => rfl) (fun I => fb_rV (As := [.int (1 : Int32), .int (2 : Int32)]) (rest := []) X hl (fb_goodV fw_2350 fw_2352 fw_137 fw_204 fw_2353) (c_refuse_t l D cI cJ za zr (upd fr_e0 19 (0 : Int32)) (2 : Int32) _ rfl) rfl rfl rfl (by decide +kernel : fb_hd yX12_refuse 2) ⟨Nat.le_of_ble_eq_true rfl, Nat.le_of_ble_eq_true rfl⟩ rfl rfl rfl rfl rfl (Nat.le_of_ble_eq_true rfl) ⟨Nat.zero_le _, Nat.zero_le _⟩ dX12_setRegister_49 I) ?_
  intro r7 w6 H locs e0 I
  subst e0
  have I : fb_In D A s.heap (([fb_o12 za zr (upd (upd fr_e0 19 (0 : Int32)) 19 (2 : Int32))] : List va_W).flatten) H locs := I
  refine lv_if_eq (tgt := 57) hx hb dX12_setRegister_52 (by decide) (fun c8 => absurd c8 (by decide)) (fun _ => ?_)
  refine lv_iconst (v := (0 : Int32)) hx hb dX12_setRegister_55 (by decide) ?_
  exact fb_retI (u := ()) X I rfl rfl dX12_setRegister_56

set_option maxHeartbeats 4000000 in
set_option maxRecDepth 100000 in
theorem c_setRegister_3 (l : Launch) (D : va_G) (cI cJ : ClassId) (za : Nat) (zr : Nat → Nat) (l2 : Int32) (sz : Nat) (q1 : f_X12_isIn l2 (0 : Int32) (31 : Int32) = (1 : Int32)) : Met l yX12_setRegister (Cond.code yX12_setRegister cX12_setRegister 4 (some .int) :: fb_all) ({ frames := 3, cells := 0, slots := 0, locals := 75 } : Room) (fb_PP D (fb_ty D cI cJ) [.ref za, .int (3 : Int32), .int l2] (([fb_o12 za zr fr_e0, fb_aw cI (zr 0) 16205 (fr_m (fun _ => 0) 0)] : List va_W).flatten) sz) (fb_QI D (va_A (([fb_o12 za zr fr_e0, fb_aw cI (zr 0) 16205 (fr_m (fun _ => 0) 0)] : List va_W).flatten) sz) (fun (r : Int32) (_ : Unit) => r = (4 : Int32)) (fun (t : Unit) => ([fb_o12 za zr (upd (upd fr_e0 19 (0 : Int32)) 2 (0 : Int32)), fb_aw cI (zr 0) 16205 (upd (fr_m (fun _ => 0) 0) 3 l2)] : List va_W).flatten)) 0 0 (va_A (([fb_o12 za zr fr_e0, fb_aw cI (zr 0) 16205 (fr_m (fun _ => 0) 0)] : List va_W).flatten) sz) := by
  refine fb_ent (Qf := fun A => (fb_QI D A (fun (r : Int32) (_ : Unit) => r = (4 : Int32)) (fun (t : Unit) => ([fb_o12 za zr (upd (upd fr_e0 19 (0 : Int32)) 2 (0 : Int32)), fb_aw cI (zr 0) 16205 (upd (fr_m (fun _ => 0) 0) 3 l2)] : List va_W).flatten))) (by decide +kernel) (Nat.le_of_ble_eq_true rfl) ?_
  intro p e s m args below meth c A ls X I hl hin
  obtain ⟨hx, hb, hr, hml, hown, hts, hlk, hA, hK, hF⟩ := id X
  have hl : lv_has ls 4 [(0, .ref za), (1, .int (3 : Int32)), (2, .int l2)] := hl
  refine lv_aload_n hx hb dX12_setRegister_0 rfl (lv_at hl 0 rfl) ?_
  refine lv_iload_n hx hb dX12_setRegister_1 rfl (lv_at hl 1 rfl) ?_
  refine lv_iconst (v := (0 : Int32)) hx hb dX12_setRegister_2 (by decide) ?_
  refine lv_iconst (v := (4 : Int32)) hx hb dX12_setRegister_3 (by decide) ?_
  refine fb_gI (cs := [fb_o12 za zr fr_e0]) (rs := [fb_aw cI (zr 0) 16205 (fr_m (fun _ => 0) 0)]) (fun (t : Unit) => [fb_o12 za zr (upd fr_e0 19 (0 : Int32)), fb_aw cI (zr 0) 16205 (fr_m (fun _ => 0) 0)]) (fun (t : Unit) => [fb_o12 za zr (upd fr_e0 19 (0 : Int32))]) X I [0, 1] 2 rfl (by decide +kernel) rfl rfl [0, 1] 2 (fun _ => rfl) (by decide +kernel) (fun _ => rfl) (fun _ => rfl) (fun I => fb_rV (As := [.int (3 : Int32), .int (0 : Int32), .int (4 : Int32)]) (rest := []) X hl (fb_goodV fw_2346 fw_2348 fw_136 fw_204 fw_2349) (c_isNot_in l D cI cJ za zr fr_e0 (3 : Int32) (0 : Int32) (4 : Int32) _ (by decide)) rfl rfl rfl (by decide +kernel : fb_hd yX12_isNot 3) ⟨Nat.le_of_ble_eq_true rfl, Nat.le_of_ble_eq_true rfl⟩ rfl rfl rfl rfl rfl (Nat.le_of_ble_eq_true rfl) ⟨Nat.zero_le _, Nat.zero_le _⟩ dX12_setRegister_4 I) ?_
  intro r2 w1 H locs e0 I
  subst e0
  have I : fb_In D A s.heap (([fb_o12 za zr (upd fr_e0 19 (0 : Int32)), fb_aw cI (zr 0) 16205 (fr_m (fun _ => 0) 0)] : List va_W).flatten) H locs := I
  refine lv_if_ne (tgt := 55) hx hb dX12_setRegister_7 (by decide) (fun c3 => absurd (by decide) c3) (fun _ => ?_)
  refine lv_aload_n hx hb dX12_setRegister_10 rfl (lv_at hl 0 rfl) ?_
  refine lv_iload_n hx hb dX12_setRegister_11 rfl (lv_at hl 2 rfl) ?_
  refine lv_iconst (v := (0 : Int32)) hx hb dX12_setRegister_12 (by decide) ?_
  refine lv_iload_n hx hb dX12_setRegister_13 rfl (lv_at hl 1 rfl) ?_
  refine lv_iconst (v := (3 : Int32)) hx hb dX12_setRegister_14 (by decide) ?_
  refine lv_icmp_ne (tgt := 23) hx hb dX12_setRegister_15 (by decide) (fun c4 => absurd (by decide) c4) (fun _ => ?_)
  refine lv_bipush (v := (31 : Int32)) hx hb dX12_setRegister_18 (by decide) ?_
  refine lv_goto (tgt := 37) hx hb dX12_setRegister_20 (by decide) ?_
  refine fb_gO (cs := []) (rs := [fb_o12 za zr (upd fr_e0 19 (0 : Int32)), fb_aw cI (zr 0) 16205 (fr_m (fun _ => 0) 0)]) X I [0, 1] 2 rfl (by decide +kernel) rfl rfl (fun I => fb_rS (As := [.int l2, .int (0 : Int32), .int (31 : Int32)]) (rest := [.ref za]) X hl (fb_goodS fw_2147 fw_2148 fw_204 fw_2149) (c_X12_isIn l D cI cJ l2 (0 : Int32) (31 : Int32) _) rfl rfl (by decide +kernel : fb_hd yX12_isIn 3) ⟨Nat.le_of_ble_eq_true rfl, Nat.le_of_ble_eq_true rfl⟩ rfl rfl (Nat.le_of_ble_eq_true rfl) ⟨Nat.le_of_ble_eq_true rfl, Nat.le_of_ble_eq_true rfl⟩ dX12_setRegister_37 I) ?_
  refine fb_tI (v := (1 : Int32)) q1 ?_
  refine lv_if_ne (tgt := 47) hx hb dX12_setRegister_40 (by decide) (fun _ => ?_) (fun c5 => absurd c5 (by decide))
  refine lv_iconst (v := (0 : Int32)) hx hb dX12_setRegister_47 (by decide) ?_
  refine lv_iconst (v := (2 : Int32)) hx hb dX12_setRegister_48 (by decide) ?_
  refine fb_gO (cs := [fb_o12 za zr (upd fr_e0 19 (0 : Int32))]) (rs := [fb_aw cI (zr 0) 16205 (fr_m (fun _ => 0) 0)]) X I [0, 1] 2 rfl (by decide +kernel) rfl rfl (fun I => fb_rV (As := [.int (0 : Int32), .int (2 : Int32)]) (rest := []) X hl (fb_goodV fw_2350 fw_2352 fw_137 fw_204 fw_2353) (c_refuse_f l D cI cJ za zr (upd fr_e0 19 (0 : Int32)) (2 : Int32) _ ) rfl rfl rfl (by decide +kernel : fb_hd yX12_refuse 2) ⟨Nat.le_of_ble_eq_true rfl, Nat.le_of_ble_eq_true rfl⟩ rfl rfl rfl rfl rfl (Nat.le_of_ble_eq_true rfl) ⟨Nat.zero_le _, Nat.zero_le _⟩ dX12_setRegister_49 I) ?_
  refine lv_if_eq (tgt := 57) hx hb dX12_setRegister_52 (by decide) (fun _ => ?_) (fun c6 => absurd (by decide) c6)
  refine lv_aload_n hx hb dX12_setRegister_57 rfl (lv_at hl 0 rfl) ?_
  refine fb_get X I (k := 0) (v := .ref (zr 0)) fu_X12 0 fb_h12 rfl (Nat.le_of_ble_eq_true rfl) fw_1964 rfl rfl dX12_setRegister_58 ?_
  refine lv_iload_n hx hb dX12_setRegister_61 rfl (lv_at hl 1 rfl) ?_
  refine fb_iaC (n := 3) (v := (4 : Int32)) X I 1 0 rfl rfl (by decide) (by decide) (Nat.le_of_ble_eq_true rfl) rfl dX12_setRegister_62 ?_
  refine lv_istore_n (lv' := [(3, .int (4 : Int32)), (0, .ref za), (1, .int (3 : Int32)), (2, .int l2)]) hx hb dX12_setRegister_63 rfl hl (by decide) rfl (fun ls hl => ?_)
  refine lv_aload_n hx hb dX12_setRegister_64 rfl (lv_at hl 1 rfl) ?_
  refine fb_get X I (k := 0) (v := .ref (zr 0)) fu_X12 0 fb_h12 rfl (Nat.le_of_ble_eq_true rfl) fw_1964 rfl rfl dX12_setRegister_65 ?_
  refine lv_iload_n hx hb dX12_setRegister_68 rfl (lv_at hl 2 rfl) ?_
  refine lv_iload_n hx hb dX12_setRegister_69 rfl (lv_at hl 3 rfl) ?_
  refine fb_isC (n := 3) (wn := ([fb_o12 za zr (upd fr_e0 19 (0 : Int32)), fb_aw cI (zr 0) 16205 (upd (fr_m (fun _ => 0) 0) 3 l2)] : List va_W).flatten) X I 1 0 rfl rfl (by decide) (by decide) (Nat.le_of_ble_eq_true rfl) rfl dX12_setRegister_70 (fun H locs I => ?_)
  refine lv_aload_n hx hb dX12_setRegister_71 rfl (lv_at hl 1 rfl) ?_
  refine fb_gV (cs := [fb_o12 za zr (upd fr_e0 19 (0 : Int32))]) (rs := [fb_aw cI (zr 0) 16205 (upd (fr_m (fun _ => 0) 0) 3 l2)]) (fun (t : Unit) => [fb_o12 za zr (upd (upd fr_e0 19 (0 : Int32)) 2 (0 : Int32)), fb_aw cI (zr 0) 16205 (upd (fr_m (fun _ => 0) 0) 3 l2)]) (fun (t : Unit) => [fb_o12 za zr (upd (upd fr_e0 19 (0 : Int32)) 2 (0 : Int32))]) X I [0, 1] 2 rfl (by decide +kernel) rfl rfl [0, 1] 2 (fun _ => rfl) (by decide +kernel) (fun _ => rfl) (fun _ => rfl) (fun I => fb_rV (As := []) (rest := []) X hl (fb_goodV fw_1960 fw_1962 fw_88 fw_204 fw_1963) (c_forget l D cI cJ za zr (upd fr_e0 19 (0 : Int32)) _ ) rfl rfl rfl (by decide +kernel : fb_hd yX12_forget 0) ⟨Nat.le_of_ble_eq_true rfl, Nat.le_of_ble_eq_true rfl⟩ rfl rfl rfl rfl rfl (Nat.le_of_ble_eq_true rfl) ⟨Nat.zero_le _, Nat.zero_le _⟩ dX12_setRegister_72 I) ?_
  intro w7 H locs _ I
  have I : fb_In D A s.heap (([fb_o12 za zr (upd (upd fr_e0 19 (0 : Int32)) 2 (0 : Int32)), fb_aw cI (zr 0) 16205 (upd (fr_m (fun _ => 0) 0) 3 l2)] : List va_W).flatten) H locs := I
  refine lv_iload_n hx hb dX12_setRegister_75 rfl (lv_at hl 0 rfl) ?_
  exact fb_retI (u := ()) X I rfl rfl dX12_setRegister_76

set_option maxHeartbeats 4000000 in
set_option maxRecDepth 100000 in
theorem c_setRegister_bad4 (l : Launch) (D : va_G) (cI cJ : ClassId) (za : Nat) (zr : Nat → Nat) (l2 : Int32) (sz : Nat) (q1 : f_X12_isIn l2 (0 : Int32) (4095 : Int32) = (0 : Int32)) : Met l yX12_setRegister (Cond.code yX12_setRegister cX12_setRegister 4 (some .int) :: fb_all) ({ frames := 3, cells := 0, slots := 0, locals := 75 } : Room) (fb_PP D (fb_ty D cI cJ) [.ref za, .int (4 : Int32), .int l2] (([fb_o12 za zr fr_e0] : List va_W).flatten) sz) (fb_QI D (va_A (([fb_o12 za zr fr_e0] : List va_W).flatten) sz) (fun (r : Int32) (_ : Unit) => r = (0 : Int32)) (fun (t : Unit) => ([fb_o12 za zr (upd (upd fr_e0 19 (0 : Int32)) 19 (2 : Int32))] : List va_W).flatten)) 0 0 (va_A (([fb_o12 za zr fr_e0] : List va_W).flatten) sz) := by
  refine fb_ent (Qf := fun A => (fb_QI D A (fun (r : Int32) (_ : Unit) => r = (0 : Int32)) (fun (t : Unit) => ([fb_o12 za zr (upd (upd fr_e0 19 (0 : Int32)) 19 (2 : Int32))] : List va_W).flatten))) (by decide +kernel) (Nat.le_of_ble_eq_true rfl) ?_
  intro p e s m args below meth c A ls X I hl hin
  obtain ⟨hx, hb, hr, hml, hown, hts, hlk, hA, hK, hF⟩ := id X
  have hl : lv_has ls 4 [(0, .ref za), (1, .int (4 : Int32)), (2, .int l2)] := hl
  refine lv_aload_n hx hb dX12_setRegister_0 rfl (lv_at hl 0 rfl) ?_
  refine lv_iload_n hx hb dX12_setRegister_1 rfl (lv_at hl 1 rfl) ?_
  refine lv_iconst (v := (0 : Int32)) hx hb dX12_setRegister_2 (by decide) ?_
  refine lv_iconst (v := (4 : Int32)) hx hb dX12_setRegister_3 (by decide) ?_
  refine fb_gI (cs := [fb_o12 za zr fr_e0]) (rs := []) (fun (t : Unit) => [fb_o12 za zr (upd fr_e0 19 (0 : Int32))]) (fun (t : Unit) => [fb_o12 za zr (upd fr_e0 19 (0 : Int32))]) X I [0] 1 rfl (by decide +kernel) rfl rfl [0] 1 (fun _ => rfl) (by decide +kernel) (fun _ => rfl) (fun _ => rfl) (fun I => fb_rV (As := [.int (4 : Int32), .int (0 : Int32), .int (4 : Int32)]) (rest := []) X hl (fb_goodV fw_2346 fw_2348 fw_136 fw_204 fw_2349) (c_isNot_in l D cI cJ za zr fr_e0 (4 : Int32) (0 : Int32) (4 : Int32) _ (by decide)) rfl rfl rfl (by decide +kernel : fb_hd yX12_isNot 3) ⟨Nat.le_of_ble_eq_true rfl, Nat.le_of_ble_eq_true rfl⟩ rfl rfl rfl rfl rfl (Nat.le_of_ble_eq_true rfl) ⟨Nat.zero_le _, Nat.zero_le _⟩ dX12_setRegister_4 I) ?_
  intro r2 w1 H locs e0 I
  subst e0
  have I : fb_In D A s.heap (([fb_o12 za zr (upd fr_e0 19 (0 : Int32))] : List va_W).flatten) H locs := I
  refine lv_if_ne (tgt := 55) hx hb dX12_setRegister_7 (by decide) (fun c3 => absurd (by decide) c3) (fun _ => ?_)
  refine lv_aload_n hx hb dX12_setRegister_10 rfl (lv_at hl 0 rfl) ?_
  refine lv_iload_n hx hb dX12_setRegister_11 rfl (lv_at hl 2 rfl) ?_
  refine lv_iconst (v := (0 : Int32)) hx hb dX12_setRegister_12 (by decide) ?_
  refine lv_iload_n hx hb dX12_setRegister_13 rfl (lv_at hl 1 rfl) ?_
  refine lv_iconst (v := (3 : Int32)) hx hb dX12_setRegister_14 (by decide) ?_
  refine lv_icmp_ne (tgt := 23) hx hb dX12_setRegister_15 (by decide) (fun _ => ?_) (fun c4 => absurd c4 (by decide))
  refine lv_iload_n hx hb dX12_setRegister_23 rfl (lv_at hl 1 rfl) ?_
  refine lv_iconst (v := (4 : Int32)) hx hb dX12_setRegister_24 (by decide) ?_
  refine lv_icmp_ne (tgt := 34) hx hb dX12_setRegister_25 (by decide) (fun c5 => absurd (by decide) c5) (fun _ => ?_)
  refine lv_sipush (v := (4095 : Int32)) hx hb dX12_setRegister_28 (by decide) ?_
  refine lv_goto (tgt := 37) hx hb dX12_setRegister_31 (by decide) ?_
  refine fb_gO (cs := []) (rs := [fb_o12 za zr (upd fr_e0 19 (0 : Int32))]) X I [0] 1 rfl (by decide +kernel) rfl rfl (fun I => fb_rS (As := [.int l2, .int (0 : Int32), .int (4095 : Int32)]) (rest := [.ref za]) X hl (fb_goodS fw_2147 fw_2148 fw_204 fw_2149) (c_X12_isIn l D cI cJ l2 (0 : Int32) (4095 : Int32) _) rfl rfl (by decide +kernel : fb_hd yX12_isIn 3) ⟨Nat.le_of_ble_eq_true rfl, Nat.le_of_ble_eq_true rfl⟩ rfl rfl (Nat.le_of_ble_eq_true rfl) ⟨Nat.le_of_ble_eq_true rfl, Nat.le_of_ble_eq_true rfl⟩ dX12_setRegister_37 I) ?_
  refine fb_tI (v := (0 : Int32)) q1 ?_
  refine lv_if_ne (tgt := 47) hx hb dX12_setRegister_40 (by decide) (fun c6 => absurd (by decide) c6) (fun _ => ?_)
  refine lv_iconst (v := (1 : Int32)) hx hb dX12_setRegister_43 (by decide) ?_
  refine lv_goto (tgt := 48) hx hb dX12_setRegister_44 (by decide) ?_
  refine lv_iconst (v := (2 : Int32)) hx hb dX12_setRegister_48 (by decide) ?_
  refine fb_gI (cs := [fb_o12 za zr (upd fr_e0 19 (0 : Int32))]) (rs := []) (fun (t : Unit) => [fb_o12 za zr (upd (upd fr_e0 19 (0 : Int32)) 19 (2 : Int32))]) (fun (t : Unit) => [fb_o12 za zr (upd (upd fr_e0 19 (0 : Int32)) 19 (2 : Int32))]) X I [0] 1 rfl (by decide +kernel) rfl rfl [0] 1 (fun _ => rfl) (by decide +kernel) (fun _ => rfl) (fun _ => rfl) (fun I => fb_rV (As := [.int (1 : Int32), .int (2 : Int32)]) (rest := []) X hl (fb_goodV fw_2350 fw_2352 fw_137 fw_204 fw_2353) (c_refuse_t l D cI cJ za zr (upd fr_e0 19 (0 : Int32)) (2 : Int32) _ rfl) rfl rfl rfl (by decide +kernel : fb_hd yX12_refuse 2) ⟨Nat.le_of_ble_eq_true rfl, Nat.le_of_ble_eq_true rfl⟩ rfl rfl rfl rfl rfl (Nat.le_of_ble_eq_true rfl) ⟨Nat.zero_le _, Nat.zero_le _⟩ dX12_setRegister_49 I) ?_
  intro r8 w7 H locs e0 I
  subst e0
  have I : fb_In D A s.heap (([fb_o12 za zr (upd (upd fr_e0 19 (0 : Int32)) 19 (2 : Int32))] : List va_W).flatten) H locs := I
  refine lv_if_eq (tgt := 57) hx hb dX12_setRegister_52 (by decide) (fun c9 => absurd c9 (by decide)) (fun _ => ?_)
  refine lv_iconst (v := (0 : Int32)) hx hb dX12_setRegister_55 (by decide) ?_
  exact fb_retI (u := ()) X I rfl rfl dX12_setRegister_56

set_option maxHeartbeats 4000000 in
set_option maxRecDepth 100000 in
theorem c_setRegister_4 (l : Launch) (D : va_G) (cI cJ : ClassId) (za : Nat) (zr : Nat → Nat) (l2 : Int32) (sz : Nat) (q1 : f_X12_isIn l2 (0 : Int32) (4095 : Int32) = (1 : Int32)) : Met l yX12_setRegister (Cond.code yX12_setRegister cX12_setRegister 4 (some .int) :: fb_all) ({ frames := 3, cells := 0, slots := 0, locals := 75 } : Room) (fb_PP D (fb_ty D cI cJ) [.ref za, .int (4 : Int32), .int l2] (([fb_o12 za zr fr_e0, fb_aw cI (zr 0) 16205 (fr_m (fun _ => 0) 0)] : List va_W).flatten) sz) (fb_QI D (va_A (([fb_o12 za zr fr_e0, fb_aw cI (zr 0) 16205 (fr_m (fun _ => 0) 0)] : List va_W).flatten) sz) (fun (r : Int32) (_ : Unit) => r = (0 : Int32)) (fun (t : Unit) => ([fb_o12 za zr (upd (upd fr_e0 19 (0 : Int32)) 2 (0 : Int32)), fb_aw cI (zr 0) 16205 (upd (fr_m (fun _ => 0) 0) 4 l2)] : List va_W).flatten)) 0 0 (va_A (([fb_o12 za zr fr_e0, fb_aw cI (zr 0) 16205 (fr_m (fun _ => 0) 0)] : List va_W).flatten) sz) := by
  refine fb_ent (Qf := fun A => (fb_QI D A (fun (r : Int32) (_ : Unit) => r = (0 : Int32)) (fun (t : Unit) => ([fb_o12 za zr (upd (upd fr_e0 19 (0 : Int32)) 2 (0 : Int32)), fb_aw cI (zr 0) 16205 (upd (fr_m (fun _ => 0) 0) 4 l2)] : List va_W).flatten))) (by decide +kernel) (Nat.le_of_ble_eq_true rfl) ?_
  intro p e s m args below meth c A ls X I hl hin
  obtain ⟨hx, hb, hr, hml, hown, hts, hlk, hA, hK, hF⟩ := id X
  have hl : lv_has ls 4 [(0, .ref za), (1, .int (4 : Int32)), (2, .int l2)] := hl
  refine lv_aload_n hx hb dX12_setRegister_0 rfl (lv_at hl 0 rfl) ?_
  refine lv_iload_n hx hb dX12_setRegister_1 rfl (lv_at hl 1 rfl) ?_
  refine lv_iconst (v := (0 : Int32)) hx hb dX12_setRegister_2 (by decide) ?_
  refine lv_iconst (v := (4 : Int32)) hx hb dX12_setRegister_3 (by decide) ?_
  refine fb_gI (cs := [fb_o12 za zr fr_e0]) (rs := [fb_aw cI (zr 0) 16205 (fr_m (fun _ => 0) 0)]) (fun (t : Unit) => [fb_o12 za zr (upd fr_e0 19 (0 : Int32)), fb_aw cI (zr 0) 16205 (fr_m (fun _ => 0) 0)]) (fun (t : Unit) => [fb_o12 za zr (upd fr_e0 19 (0 : Int32))]) X I [0, 1] 2 rfl (by decide +kernel) rfl rfl [0, 1] 2 (fun _ => rfl) (by decide +kernel) (fun _ => rfl) (fun _ => rfl) (fun I => fb_rV (As := [.int (4 : Int32), .int (0 : Int32), .int (4 : Int32)]) (rest := []) X hl (fb_goodV fw_2346 fw_2348 fw_136 fw_204 fw_2349) (c_isNot_in l D cI cJ za zr fr_e0 (4 : Int32) (0 : Int32) (4 : Int32) _ (by decide)) rfl rfl rfl (by decide +kernel : fb_hd yX12_isNot 3) ⟨Nat.le_of_ble_eq_true rfl, Nat.le_of_ble_eq_true rfl⟩ rfl rfl rfl rfl rfl (Nat.le_of_ble_eq_true rfl) ⟨Nat.zero_le _, Nat.zero_le _⟩ dX12_setRegister_4 I) ?_
  intro r2 w1 H locs e0 I
  subst e0
  have I : fb_In D A s.heap (([fb_o12 za zr (upd fr_e0 19 (0 : Int32)), fb_aw cI (zr 0) 16205 (fr_m (fun _ => 0) 0)] : List va_W).flatten) H locs := I
  refine lv_if_ne (tgt := 55) hx hb dX12_setRegister_7 (by decide) (fun c3 => absurd (by decide) c3) (fun _ => ?_)
  refine lv_aload_n hx hb dX12_setRegister_10 rfl (lv_at hl 0 rfl) ?_
  refine lv_iload_n hx hb dX12_setRegister_11 rfl (lv_at hl 2 rfl) ?_
  refine lv_iconst (v := (0 : Int32)) hx hb dX12_setRegister_12 (by decide) ?_
  refine lv_iload_n hx hb dX12_setRegister_13 rfl (lv_at hl 1 rfl) ?_
  refine lv_iconst (v := (3 : Int32)) hx hb dX12_setRegister_14 (by decide) ?_
  refine lv_icmp_ne (tgt := 23) hx hb dX12_setRegister_15 (by decide) (fun _ => ?_) (fun c4 => absurd c4 (by decide))
  refine lv_iload_n hx hb dX12_setRegister_23 rfl (lv_at hl 1 rfl) ?_
  refine lv_iconst (v := (4 : Int32)) hx hb dX12_setRegister_24 (by decide) ?_
  refine lv_icmp_ne (tgt := 34) hx hb dX12_setRegister_25 (by decide) (fun c5 => absurd (by decide) c5) (fun _ => ?_)
  refine lv_sipush (v := (4095 : Int32)) hx hb dX12_setRegister_28 (by decide) ?_
  refine lv_goto (tgt := 37) hx hb dX12_setRegister_31 (by decide) ?_
  refine fb_gO (cs := []) (rs := [fb_o12 za zr (upd fr_e0 19 (0 : Int32)), fb_aw cI (zr 0) 16205 (fr_m (fun _ => 0) 0)]) X I [0, 1] 2 rfl (by decide +kernel) rfl rfl (fun I => fb_rS (As := [.int l2, .int (0 : Int32), .int (4095 : Int32)]) (rest := [.ref za]) X hl (fb_goodS fw_2147 fw_2148 fw_204 fw_2149) (c_X12_isIn l D cI cJ l2 (0 : Int32) (4095 : Int32) _) rfl rfl (by decide +kernel : fb_hd yX12_isIn 3) ⟨Nat.le_of_ble_eq_true rfl, Nat.le_of_ble_eq_true rfl⟩ rfl rfl (Nat.le_of_ble_eq_true rfl) ⟨Nat.le_of_ble_eq_true rfl, Nat.le_of_ble_eq_true rfl⟩ dX12_setRegister_37 I) ?_
  refine fb_tI (v := (1 : Int32)) q1 ?_
  refine lv_if_ne (tgt := 47) hx hb dX12_setRegister_40 (by decide) (fun _ => ?_) (fun c6 => absurd c6 (by decide))
  refine lv_iconst (v := (0 : Int32)) hx hb dX12_setRegister_47 (by decide) ?_
  refine lv_iconst (v := (2 : Int32)) hx hb dX12_setRegister_48 (by decide) ?_
  refine fb_gO (cs := [fb_o12 za zr (upd fr_e0 19 (0 : Int32))]) (rs := [fb_aw cI (zr 0) 16205 (fr_m (fun _ => 0) 0)]) X I [0, 1] 2 rfl (by decide +kernel) rfl rfl (fun I => fb_rV (As := [.int (0 : Int32), .int (2 : Int32)]) (rest := []) X hl (fb_goodV fw_2350 fw_2352 fw_137 fw_204 fw_2353) (c_refuse_f l D cI cJ za zr (upd fr_e0 19 (0 : Int32)) (2 : Int32) _ ) rfl rfl rfl (by decide +kernel : fb_hd yX12_refuse 2) ⟨Nat.le_of_ble_eq_true rfl, Nat.le_of_ble_eq_true rfl⟩ rfl rfl rfl rfl rfl (Nat.le_of_ble_eq_true rfl) ⟨Nat.zero_le _, Nat.zero_le _⟩ dX12_setRegister_49 I) ?_
  refine lv_if_eq (tgt := 57) hx hb dX12_setRegister_52 (by decide) (fun _ => ?_) (fun c7 => absurd (by decide) c7)
  refine lv_aload_n hx hb dX12_setRegister_57 rfl (lv_at hl 0 rfl) ?_
  refine fb_get X I (k := 0) (v := .ref (zr 0)) fu_X12 0 fb_h12 rfl (Nat.le_of_ble_eq_true rfl) fw_1964 rfl rfl dX12_setRegister_58 ?_
  refine lv_iload_n hx hb dX12_setRegister_61 rfl (lv_at hl 1 rfl) ?_
  refine fb_iaC (n := 4) (v := (0 : Int32)) X I 1 0 rfl rfl (by decide) (by decide) (Nat.le_of_ble_eq_true rfl) rfl dX12_setRegister_62 ?_
  refine lv_istore_n (lv' := [(3, .int (0 : Int32)), (0, .ref za), (1, .int (4 : Int32)), (2, .int l2)]) hx hb dX12_setRegister_63 rfl hl (by decide) rfl (fun ls hl => ?_)
  refine lv_aload_n hx hb dX12_setRegister_64 rfl (lv_at hl 1 rfl) ?_
  refine fb_get X I (k := 0) (v := .ref (zr 0)) fu_X12 0 fb_h12 rfl (Nat.le_of_ble_eq_true rfl) fw_1964 rfl rfl dX12_setRegister_65 ?_
  refine lv_iload_n hx hb dX12_setRegister_68 rfl (lv_at hl 2 rfl) ?_
  refine lv_iload_n hx hb dX12_setRegister_69 rfl (lv_at hl 3 rfl) ?_
  refine fb_isC (n := 4) (wn := ([fb_o12 za zr (upd fr_e0 19 (0 : Int32)), fb_aw cI (zr 0) 16205 (upd (fr_m (fun _ => 0) 0) 4 l2)] : List va_W).flatten) X I 1 0 rfl rfl (by decide) (by decide) (Nat.le_of_ble_eq_true rfl) rfl dX12_setRegister_70 (fun H locs I => ?_)
  refine lv_aload_n hx hb dX12_setRegister_71 rfl (lv_at hl 1 rfl) ?_
  refine fb_gV (cs := [fb_o12 za zr (upd fr_e0 19 (0 : Int32))]) (rs := [fb_aw cI (zr 0) 16205 (upd (fr_m (fun _ => 0) 0) 4 l2)]) (fun (t : Unit) => [fb_o12 za zr (upd (upd fr_e0 19 (0 : Int32)) 2 (0 : Int32)), fb_aw cI (zr 0) 16205 (upd (fr_m (fun _ => 0) 0) 4 l2)]) (fun (t : Unit) => [fb_o12 za zr (upd (upd fr_e0 19 (0 : Int32)) 2 (0 : Int32))]) X I [0, 1] 2 rfl (by decide +kernel) rfl rfl [0, 1] 2 (fun _ => rfl) (by decide +kernel) (fun _ => rfl) (fun _ => rfl) (fun I => fb_rV (As := []) (rest := []) X hl (fb_goodV fw_1960 fw_1962 fw_88 fw_204 fw_1963) (c_forget l D cI cJ za zr (upd fr_e0 19 (0 : Int32)) _ ) rfl rfl rfl (by decide +kernel : fb_hd yX12_forget 0) ⟨Nat.le_of_ble_eq_true rfl, Nat.le_of_ble_eq_true rfl⟩ rfl rfl rfl rfl rfl (Nat.le_of_ble_eq_true rfl) ⟨Nat.zero_le _, Nat.zero_le _⟩ dX12_setRegister_72 I) ?_
  intro w8 H locs _ I
  have I : fb_In D A s.heap (([fb_o12 za zr (upd (upd fr_e0 19 (0 : Int32)) 2 (0 : Int32)), fb_aw cI (zr 0) 16205 (upd (fr_m (fun _ => 0) 0) 4 l2)] : List va_W).flatten) H locs := I
  refine lv_iload_n hx hb dX12_setRegister_75 rfl (lv_at hl 0 rfl) ?_
  exact fb_retI (u := ()) X I rfl rfl dX12_setRegister_76

set_option maxHeartbeats 4000000 in
set_option maxRecDepth 100000 in
theorem c_byteIn_out (l : Launch) (D : va_G) (cI cJ : ClassId) (za : Nat) (zr : Nat → Nat) (l1 : Int32) (l2 : Int32) (sz : Nat) (q1 : f_X12_isIn l1 (0 : Int32) (7 : Int32) = (0 : Int32)) : Met l yX12_byteIn (Cond.code yX12_byteIn cX12_byteIn 3 (some .int) :: fb_all) ({ frames := 3, cells := 0, slots := 0, locals := 75 } : Room) (fb_PP D (fb_ty D cI cJ) [.ref za, .int l1, .int l2] (([fb_o12 za zr fr_e0] : List va_W).flatten) sz) (fb_QI D (va_A (([fb_o12 za zr fr_e0] : List va_W).flatten) sz) (fun (r : Int32) (_ : Unit) => r = (0 : Int32)) (fun (t : Unit) => ([fb_o12 za zr (upd (upd fr_e0 19 (0 : Int32)) 19 (1 : Int32))] : List va_W).flatten)) 0 0 (va_A (([fb_o12 za zr fr_e0] : List va_W).flatten) sz) := by
  refine fb_ent (Qf := fun A => (fb_QI D A (fun (r : Int32) (_ : Unit) => r = (0 : Int32)) (fun (t : Unit) => ([fb_o12 za zr (upd (upd fr_e0 19 (0 : Int32)) 19 (1 : Int32))] : List va_W).flatten))) (by decide +kernel) (Nat.le_of_ble_eq_true rfl) ?_
  intro p e s m args below meth c A ls X I hl hin
  obtain ⟨hx, hb, hr, hml, hown, hts, hlk, hA, hK, hF⟩ := id X
  have hl : lv_has ls 3 [(0, .ref za), (1, .int l1), (2, .int l2)] := hl
  refine lv_aload_n hx hb dX12_byteIn_0 rfl (lv_at hl 0 rfl) ?_
  refine lv_iload_n hx hb dX12_byteIn_1 rfl (lv_at hl 1 rfl) ?_
  refine lv_iconst (v := (0 : Int32)) hx hb dX12_byteIn_2 (by decide) ?_
  refine lv_bipush (v := (7 : Int32)) hx hb dX12_byteIn_3 (by decide) ?_
  refine fb_gI (cs := [fb_o12 za zr fr_e0]) (rs := []) (fun (t : Unit) => [fb_o12 za zr (upd (upd fr_e0 19 (0 : Int32)) 19 (1 : Int32))]) (fun (t : Unit) => [fb_o12 za zr (upd (upd fr_e0 19 (0 : Int32)) 19 (1 : Int32))]) X I [0] 1 rfl (by decide +kernel) rfl rfl [0] 1 (fun _ => rfl) (by decide +kernel) (fun _ => rfl) (fun _ => rfl) (fun I => fb_rV (As := [.int l1, .int (0 : Int32), .int (7 : Int32)]) (rest := []) X hl (fb_goodV fw_2346 fw_2348 fw_136 fw_204 fw_2349) (c_isNot_out l D cI cJ za zr fr_e0 l1 (0 : Int32) (7 : Int32) _ q1) rfl rfl rfl (by decide +kernel : fb_hd yX12_isNot 3) ⟨Nat.le_of_ble_eq_true rfl, Nat.le_of_ble_eq_true rfl⟩ rfl rfl rfl rfl rfl (Nat.le_of_ble_eq_true rfl) ⟨Nat.zero_le _, Nat.zero_le _⟩ dX12_byteIn_5 I) ?_
  intro r2 w1 H locs e0 I
  subst e0
  have I : fb_In D A s.heap (([fb_o12 za zr (upd (upd fr_e0 19 (0 : Int32)) 19 (1 : Int32))] : List va_W).flatten) H locs := I
  refine lv_if_ne (tgt := 35) hx hb dX12_byteIn_8 (by decide) (fun _ => ?_) (fun c3 => absurd c3 (by decide))
  refine lv_iconst (v := (0 : Int32)) hx hb dX12_byteIn_35 (by decide) ?_
  refine lv_goto (tgt := 55) hx hb dX12_byteIn_36 (by decide) ?_
  exact fb_retI (u := ()) X I rfl rfl dX12_byteIn_55

set_option maxHeartbeats 4000000 in
set_option maxRecDepth 100000 in
theorem c_byteIn_bad (l : Launch) (D : va_G) (cI cJ : ClassId) (za : Nat) (zr : Nat → Nat) (zb : Nat) (l2 : Int32) (sz : Nat) (hb9 : zb ≤ 7) (q1 : f_X12_isIn l2 (0 : Int32) (1023 : Int32) = (0 : Int32)) : Met l yX12_byteIn (Cond.code yX12_byteIn cX12_byteIn 3 (some .int) :: fb_all) ({ frames := 3, cells := 0, slots := 0, locals := 75 } : Room) (fb_PP D (fb_ty D cI cJ) [.ref za, .int (nI zb), .int l2] (([fb_o12 za zr fr_e0] : List va_W).flatten) sz) (fb_QI D (va_A (([fb_o12 za zr fr_e0] : List va_W).flatten) sz) (fun (r : Int32) (_ : Unit) => r = (0 : Int32)) (fun (t : Unit) => ([fb_o12 za zr (upd (upd fr_e0 19 (0 : Int32)) 19 (2 : Int32))] : List va_W).flatten)) 0 0 (va_A (([fb_o12 za zr fr_e0] : List va_W).flatten) sz) := by
  refine fb_ent (Qf := fun A => (fb_QI D A (fun (r : Int32) (_ : Unit) => r = (0 : Int32)) (fun (t : Unit) => ([fb_o12 za zr (upd (upd fr_e0 19 (0 : Int32)) 19 (2 : Int32))] : List va_W).flatten))) (by decide +kernel) (Nat.le_of_ble_eq_true rfl) ?_
  intro p e s m args below meth c A ls X I hl hin
  obtain ⟨hx, hb, hr, hml, hown, hts, hlk, hA, hK, hF⟩ := id X
  have hl : lv_has ls 3 [(0, .ref za), (1, .int (nI zb)), (2, .int l2)] := hl
  refine lv_aload_n hx hb dX12_byteIn_0 rfl (lv_at hl 0 rfl) ?_
  refine lv_iload_n hx hb dX12_byteIn_1 rfl (lv_at hl 1 rfl) ?_
  refine lv_iconst (v := (0 : Int32)) hx hb dX12_byteIn_2 (by decide) ?_
  refine lv_bipush (v := (7 : Int32)) hx hb dX12_byteIn_3 (by decide) ?_
  refine fb_gI (cs := [fb_o12 za zr fr_e0]) (rs := []) (fun (t : Unit) => [fb_o12 za zr (upd fr_e0 19 (0 : Int32))]) (fun (t : Unit) => [fb_o12 za zr (upd fr_e0 19 (0 : Int32))]) X I [0] 1 rfl (by decide +kernel) rfl rfl [0] 1 (fun _ => rfl) (by decide +kernel) (fun _ => rfl) (fun _ => rfl) (fun I => fb_rV (As := [.int (nI zb), .int (0 : Int32), .int (7 : Int32)]) (rest := []) X hl (fb_goodV fw_2346 fw_2348 fw_136 fw_204 fw_2349) (c_isNot_in l D cI cJ za zr fr_e0 (nI zb) (0 : Int32) (7 : Int32) _ (fr_inN (z := zb) (a := 0) (b := 7) (by omega) (by omega) (by omega))) rfl rfl rfl (by decide +kernel : fb_hd yX12_isNot 3) ⟨Nat.le_of_ble_eq_true rfl, Nat.le_of_ble_eq_true rfl⟩ rfl rfl rfl rfl rfl (Nat.le_of_ble_eq_true rfl) ⟨Nat.zero_le _, Nat.zero_le _⟩ dX12_byteIn_5 I) ?_
  intro r2 w1 H locs e0 I
  subst e0
  have I : fb_In D A s.heap (([fb_o12 za zr (upd fr_e0 19 (0 : Int32))] : List va_W).flatten) H locs := I
  refine lv_if_ne (tgt := 35) hx hb dX12_byteIn_8 (by decide) (fun c3 => absurd (by decide) c3) (fun _ => ?_)
  refine lv_aload_n hx hb dX12_byteIn_11 rfl (lv_at hl 0 rfl) ?_
  refine lv_iload_n hx hb dX12_byteIn_12 rfl (lv_at hl 2 rfl) ?_
  refine lv_iconst (v := (0 : Int32)) hx hb dX12_byteIn_13 (by decide) ?_
  refine lv_sipush (v := (1023 : Int32)) hx hb dX12_byteIn_14 (by decide) ?_
  refine fb_gO (cs := []) (rs := [fb_o12 za zr (upd fr_e0 19 (0 : Int32))]) X I [0] 1 rfl (by decide +kernel) rfl rfl (fun I => fb_rS (As := [.int l2, .int (0 : Int32), .int (1023 : Int32)]) (rest := [.ref za]) X hl (fb_goodS fw_2147 fw_2148 fw_204 fw_2149) (c_X12_isIn l D cI cJ l2 (0 : Int32) (1023 : Int32) _) rfl rfl (by decide +kernel : fb_hd yX12_isIn 3) ⟨Nat.le_of_ble_eq_true rfl, Nat.le_of_ble_eq_true rfl⟩ rfl rfl (Nat.le_of_ble_eq_true rfl) ⟨Nat.le_of_ble_eq_true rfl, Nat.le_of_ble_eq_true rfl⟩ dX12_byteIn_17 I) ?_
  refine fb_tI (v := (0 : Int32)) q1 ?_
  refine lv_if_ne (tgt := 27) hx hb dX12_byteIn_20 (by decide) (fun c4 => absurd (by decide) c4) (fun _ => ?_)
  refine lv_iconst (v := (1 : Int32)) hx hb dX12_byteIn_23 (by decide) ?_
  refine lv_goto (tgt := 28) hx hb dX12_byteIn_24 (by decide) ?_
  refine lv_iconst (v := (2 : Int32)) hx hb dX12_byteIn_28 (by decide) ?_
  refine fb_gI (cs := [fb_o12 za zr (upd fr_e0 19 (0 : Int32))]) (rs := []) (fun (t : Unit) => [fb_o12 za zr (upd (upd fr_e0 19 (0 : Int32)) 19 (2 : Int32))]) (fun (t : Unit) => [fb_o12 za zr (upd (upd fr_e0 19 (0 : Int32)) 19 (2 : Int32))]) X I [0] 1 rfl (by decide +kernel) rfl rfl [0] 1 (fun _ => rfl) (by decide +kernel) (fun _ => rfl) (fun _ => rfl) (fun I => fb_rV (As := [.int (1 : Int32), .int (2 : Int32)]) (rest := []) X hl (fb_goodV fw_2350 fw_2352 fw_137 fw_204 fw_2353) (c_refuse_t l D cI cJ za zr (upd fr_e0 19 (0 : Int32)) (2 : Int32) _ rfl) rfl rfl rfl (by decide +kernel : fb_hd yX12_refuse 2) ⟨Nat.le_of_ble_eq_true rfl, Nat.le_of_ble_eq_true rfl⟩ rfl rfl rfl rfl rfl (Nat.le_of_ble_eq_true rfl) ⟨Nat.zero_le _, Nat.zero_le _⟩ dX12_byteIn_29 I) ?_
  intro r6 w5 H locs e0 I
  subst e0
  have I : fb_In D A s.heap (([fb_o12 za zr (upd (upd fr_e0 19 (0 : Int32)) 19 (2 : Int32))] : List va_W).flatten) H locs := I
  refine lv_if_eq (tgt := 39) hx hb dX12_byteIn_32 (by decide) (fun c7 => absurd c7 (by decide)) (fun _ => ?_)
  refine lv_iconst (v := (0 : Int32)) hx hb dX12_byteIn_35 (by decide) ?_
  refine lv_goto (tgt := 55) hx hb dX12_byteIn_36 (by decide) ?_
  exact fb_retI (u := ()) X I rfl rfl dX12_byteIn_55

set_option maxHeartbeats 4000000 in
set_option maxRecDepth 100000 in
theorem c_byteIn_in (l : Launch) (D : va_G) (cI cJ : ClassId) (za : Nat) (zr : Nat → Nat) (zb : Nat) (zj : Nat) (sz : Nat) (hb9 : zb ≤ 7) (hj : zj ≤ 1023) : Met l yX12_byteIn (Cond.code yX12_byteIn cX12_byteIn 3 (some .int) :: fb_all) ({ frames := 3, cells := 0, slots := 0, locals := 75 } : Room) (fb_PP D (fb_ty D cI cJ) [.ref za, .int (nI zb), .int (nI zj)] (([fb_o12 za zr fr_e0, fb_aw cI (zr 0) 16205 (fr_m (fun _ => 0) 0)] : List va_W).flatten) sz) (fb_QI D (va_A (([fb_o12 za zr fr_e0, fb_aw cI (zr 0) 16205 (fr_m (fun _ => 0) 0)] : List va_W).flatten) sz) (fun (r : Int32) (_ : Unit) => r = (0 : Int32)) (fun (t : Unit) => ([fb_o12 za zr (upd fr_e0 19 (0 : Int32)), fb_aw cI (zr 0) 16205 (fr_m (fun _ => 0) 0)] : List va_W).flatten)) 0 0 (va_A (([fb_o12 za zr fr_e0, fb_aw cI (zr 0) 16205 (fr_m (fun _ => 0) 0)] : List va_W).flatten) sz) := by
  refine fb_ent (Qf := fun A => (fb_QI D A (fun (r : Int32) (_ : Unit) => r = (0 : Int32)) (fun (t : Unit) => ([fb_o12 za zr (upd fr_e0 19 (0 : Int32)), fb_aw cI (zr 0) 16205 (fr_m (fun _ => 0) 0)] : List va_W).flatten))) (by decide +kernel) (Nat.le_of_ble_eq_true rfl) ?_
  intro p e s m args below meth c A ls X I hl hin
  obtain ⟨hx, hb, hr, hml, hown, hts, hlk, hA, hK, hF⟩ := id X
  have hl : lv_has ls 3 [(0, .ref za), (1, .int (nI zb)), (2, .int (nI zj))] := hl
  refine lv_aload_n hx hb dX12_byteIn_0 rfl (lv_at hl 0 rfl) ?_
  refine lv_iload_n hx hb dX12_byteIn_1 rfl (lv_at hl 1 rfl) ?_
  refine lv_iconst (v := (0 : Int32)) hx hb dX12_byteIn_2 (by decide) ?_
  refine lv_bipush (v := (7 : Int32)) hx hb dX12_byteIn_3 (by decide) ?_
  refine fb_gI (cs := [fb_o12 za zr fr_e0]) (rs := [fb_aw cI (zr 0) 16205 (fr_m (fun _ => 0) 0)]) (fun (t : Unit) => [fb_o12 za zr (upd fr_e0 19 (0 : Int32)), fb_aw cI (zr 0) 16205 (fr_m (fun _ => 0) 0)]) (fun (t : Unit) => [fb_o12 za zr (upd fr_e0 19 (0 : Int32))]) X I [0, 1] 2 rfl (by decide +kernel) rfl rfl [0, 1] 2 (fun _ => rfl) (by decide +kernel) (fun _ => rfl) (fun _ => rfl) (fun I => fb_rV (As := [.int (nI zb), .int (0 : Int32), .int (7 : Int32)]) (rest := []) X hl (fb_goodV fw_2346 fw_2348 fw_136 fw_204 fw_2349) (c_isNot_in l D cI cJ za zr fr_e0 (nI zb) (0 : Int32) (7 : Int32) _ (fr_inN (z := zb) (a := 0) (b := 7) (by omega) (by omega) (by omega))) rfl rfl rfl (by decide +kernel : fb_hd yX12_isNot 3) ⟨Nat.le_of_ble_eq_true rfl, Nat.le_of_ble_eq_true rfl⟩ rfl rfl rfl rfl rfl (Nat.le_of_ble_eq_true rfl) ⟨Nat.zero_le _, Nat.zero_le _⟩ dX12_byteIn_5 I) ?_
  intro r2 w1 H locs e0 I
  subst e0
  have I : fb_In D A s.heap (([fb_o12 za zr (upd fr_e0 19 (0 : Int32)), fb_aw cI (zr 0) 16205 (fr_m (fun _ => 0) 0)] : List va_W).flatten) H locs := I
  refine lv_if_ne (tgt := 35) hx hb dX12_byteIn_8 (by decide) (fun c3 => absurd (by decide) c3) (fun _ => ?_)
  refine lv_aload_n hx hb dX12_byteIn_11 rfl (lv_at hl 0 rfl) ?_
  refine lv_iload_n hx hb dX12_byteIn_12 rfl (lv_at hl 2 rfl) ?_
  refine lv_iconst (v := (0 : Int32)) hx hb dX12_byteIn_13 (by decide) ?_
  refine lv_sipush (v := (1023 : Int32)) hx hb dX12_byteIn_14 (by decide) ?_
  refine fb_gO (cs := []) (rs := [fb_o12 za zr (upd fr_e0 19 (0 : Int32)), fb_aw cI (zr 0) 16205 (fr_m (fun _ => 0) 0)]) X I [0, 1] 2 rfl (by decide +kernel) rfl rfl (fun I => fb_rS (As := [.int (nI zj), .int (0 : Int32), .int (1023 : Int32)]) (rest := [.ref za]) X hl (fb_goodS fw_2147 fw_2148 fw_204 fw_2149) (c_X12_isIn l D cI cJ (nI zj) (0 : Int32) (1023 : Int32) _) rfl rfl (by decide +kernel : fb_hd yX12_isIn 3) ⟨Nat.le_of_ble_eq_true rfl, Nat.le_of_ble_eq_true rfl⟩ rfl rfl (Nat.le_of_ble_eq_true rfl) ⟨Nat.le_of_ble_eq_true rfl, Nat.le_of_ble_eq_true rfl⟩ dX12_byteIn_17 I) ?_
  refine fb_tI (v := (1 : Int32)) (fr_inN (z := zj) (a := 0) (b := 1023) (by omega) (by omega) (by omega)) ?_
  refine lv_if_ne (tgt := 27) hx hb dX12_byteIn_20 (by decide) (fun _ => ?_) (fun c4 => absurd c4 (by decide))
  refine lv_iconst (v := (0 : Int32)) hx hb dX12_byteIn_27 (by decide) ?_
  refine lv_iconst (v := (2 : Int32)) hx hb dX12_byteIn_28 (by decide) ?_
  refine fb_gO (cs := [fb_o12 za zr (upd fr_e0 19 (0 : Int32))]) (rs := [fb_aw cI (zr 0) 16205 (fr_m (fun _ => 0) 0)]) X I [0, 1] 2 rfl (by decide +kernel) rfl rfl (fun I => fb_rV (As := [.int (0 : Int32), .int (2 : Int32)]) (rest := []) X hl (fb_goodV fw_2350 fw_2352 fw_137 fw_204 fw_2353) (c_refuse_f l D cI cJ za zr (upd fr_e0 19 (0 : Int32)) (2 : Int32) _ ) rfl rfl rfl (by decide +kernel : fb_hd yX12_refuse 2) ⟨Nat.le_of_ble_eq_true rfl, Nat.le_of_ble_eq_true rfl⟩ rfl rfl rfl rfl rfl (Nat.le_of_ble_eq_true rfl) ⟨Nat.zero_le _, Nat.zero_le _⟩ dX12_byteIn_29 I) ?_
  refine lv_if_eq (tgt := 39) hx hb dX12_byteIn_32 (by decide) (fun _ => ?_) (fun c5 => absurd (by decide) c5)
  refine lv_aload_n hx hb dX12_byteIn_39 rfl (lv_at hl 0 rfl) ?_
  refine fb_get X I (k := 0) (v := .ref (zr 0)) fu_X12 0 fb_h12 rfl (Nat.le_of_ble_eq_true rfl) fw_1964 rfl rfl dX12_byteIn_40 ?_
  refine lv_sipush (v := (2893 : Int32)) hx hb dX12_byteIn_43 (by decide) ?_
  refine lv_sipush (v := (1024 : Int32)) hx hb dX12_byteIn_46 (by decide) ?_
  refine lv_iload_n hx hb dX12_byteIn_49 rfl (lv_at hl 1 rfl) ?_
  refine lv_imul hx hb dX12_byteIn_50 ?_
  refine fb_tI (v := (nI (1024 * zb))) (pk_mul 1024 zb) ?_
  refine lv_iadd hx hb dX12_byteIn_51 ?_
  refine fb_tI (v := (nI (2893 + (1024 * zb)))) (nI_add 2893 (1024 * zb)) ?_
  refine lv_iload_n hx hb dX12_byteIn_52 rfl (lv_at hl 2 rfl) ?_
  refine lv_iadd hx hb dX12_byteIn_53 ?_
  refine fb_tI (v := (nI ((2893 + (1024 * zb)) + zj))) (nI_add (2893 + (1024 * zb)) zj) ?_
  refine fb_iaC (n := ((2893 + (1024 * zb)) + zj)) (v := (0 : Int32)) X I 1 0 rfl rfl (nI_clamp (by omega)) (nI_pos (by omega)) (by omega) (fr_hm _ _ ((2893 + (1024 * zb)) + zj) (by omega) (by omega)) dX12_byteIn_54 ?_
  exact fb_retI (u := ()) X I rfl rfl dX12_byteIn_55

set_option maxHeartbeats 4000000 in
set_option maxRecDepth 100000 in
theorem c_lineOf_out (l : Launch) (D : va_G) (cI cJ : ClassId) (za : Nat) (zr : Nat → Nat) (l1 : Int32) (sz : Nat) (q1 : f_X12_isIn l1 (0 : Int32) (4095 : Int32) = (0 : Int32)) : Met l yX12_lineOf (Cond.code yX12_lineOf cX12_lineOf 3 (some .int) :: fb_all) ({ frames := 3, cells := 0, slots := 0, locals := 75 } : Room) (fb_PP D (fb_ty D cI cJ) [.ref za, .int l1] (([fb_o12 za zr fr_e0] : List va_W).flatten) sz) (fb_QI D (va_A (([fb_o12 za zr fr_e0] : List va_W).flatten) sz) (fun (r : Int32) (_ : Unit) => r = (0 : Int32)) (fun (t : Unit) => ([fb_o12 za zr (upd (upd fr_e0 19 (0 : Int32)) 19 (1 : Int32))] : List va_W).flatten)) 0 0 (va_A (([fb_o12 za zr fr_e0] : List va_W).flatten) sz) := by
  refine fb_ent (Qf := fun A => (fb_QI D A (fun (r : Int32) (_ : Unit) => r = (0 : Int32)) (fun (t : Unit) => ([fb_o12 za zr (upd (upd fr_e0 19 (0 : Int32)) 19 (1 : Int32))] : List va_W).flatten))) (by decide +kernel) (Nat.le_of_ble_eq_true rfl) ?_
  intro p e s m args below meth c A ls X I hl hin
  obtain ⟨hx, hb, hr, hml, hown, hts, hlk, hA, hK, hF⟩ := id X
  have hl : lv_has ls 3 [(0, .ref za), (1, .int l1)] := hl
  refine lv_aload_n hx hb dX12_lineOf_0 rfl (lv_at hl 0 rfl) ?_
  refine lv_iload_n hx hb dX12_lineOf_1 rfl (lv_at hl 1 rfl) ?_
  refine lv_iconst (v := (0 : Int32)) hx hb dX12_lineOf_2 (by decide) ?_
  refine lv_sipush (v := (4095 : Int32)) hx hb dX12_lineOf_3 (by decide) ?_
  refine fb_gI (cs := [fb_o12 za zr fr_e0]) (rs := []) (fun (t : Unit) => [fb_o12 za zr (upd (upd fr_e0 19 (0 : Int32)) 19 (1 : Int32))]) (fun (t : Unit) => [fb_o12 za zr (upd (upd fr_e0 19 (0 : Int32)) 19 (1 : Int32))]) X I [0] 1 rfl (by decide +kernel) rfl rfl [0] 1 (fun _ => rfl) (by decide +kernel) (fun _ => rfl) (fun _ => rfl) (fun I => fb_rV (As := [.int l1, .int (0 : Int32), .int (4095 : Int32)]) (rest := []) X hl (fb_goodV fw_2346 fw_2348 fw_136 fw_204 fw_2349) (c_isNot_out l D cI cJ za zr fr_e0 l1 (0 : Int32) (4095 : Int32) _ q1) rfl rfl rfl (by decide +kernel : fb_hd yX12_isNot 3) ⟨Nat.le_of_ble_eq_true rfl, Nat.le_of_ble_eq_true rfl⟩ rfl rfl rfl rfl rfl (Nat.le_of_ble_eq_true rfl) ⟨Nat.zero_le _, Nat.zero_le _⟩ dX12_lineOf_6 I) ?_
  intro r2 w1 H locs e0 I
  subst e0
  have I : fb_In D A s.heap (([fb_o12 za zr (upd (upd fr_e0 19 (0 : Int32)) 19 (1 : Int32))] : List va_W).flatten) H locs := I
  refine lv_if_eq (tgt := 14) hx hb dX12_lineOf_9 (by decide) (fun c3 => absurd c3 (by decide)) (fun _ => ?_)
  refine lv_iconst (v := (0 : Int32)) hx hb dX12_lineOf_12 (by decide) ?_
  exact fb_retI (u := ()) X I rfl rfl dX12_lineOf_13

set_option maxHeartbeats 4000000 in
set_option maxRecDepth 100000 in
theorem c_lineOf_0 (l : Launch) (D : va_G) (cI cJ : ClassId) (za : Nat) (zr : Nat → Nat) (zj : Nat) (sz : Nat) (hj : 1792 ≤ zj ∧ zj < 2048) : Met l yX12_lineOf (Cond.code yX12_lineOf cX12_lineOf 3 (some .int) :: fb_all) ({ frames := 3, cells := 0, slots := 0, locals := 75 } : Room) (fb_PP D (fb_ty D cI cJ) [.ref za, .int (nI zj)] (([fb_o12 za zr fr_e0, fb_aw cI (zr 0) 16205 (fr_m (fun _ => 0) 0), fb_aw cI (zr 46) 11008 (fun _ => 0)] : List va_W).flatten) sz) (fb_QI D (va_A (([fb_o12 za zr fr_e0, fb_aw cI (zr 0) 16205 (fr_m (fun _ => 0) 0), fb_aw cI (zr 46) 11008 (fun _ => 0)] : List va_W).flatten) sz) (fun (r : Int32) (_ : Unit) => r = (-1 : Int32)) (fun (t : Unit) => ([fb_o12 za zr (upd fr_e0 19 (0 : Int32)), fb_aw cI (zr 0) 16205 (fr_m (fun _ => 0) 0), fb_aw cI (zr 46) 11008 (fun _ => 0)] : List va_W).flatten)) 0 0 (va_A (([fb_o12 za zr fr_e0, fb_aw cI (zr 0) 16205 (fr_m (fun _ => 0) 0), fb_aw cI (zr 46) 11008 (fun _ => 0)] : List va_W).flatten) sz) := by
  refine fb_ent (Qf := fun A => (fb_QI D A (fun (r : Int32) (_ : Unit) => r = (-1 : Int32)) (fun (t : Unit) => ([fb_o12 za zr (upd fr_e0 19 (0 : Int32)), fb_aw cI (zr 0) 16205 (fr_m (fun _ => 0) 0), fb_aw cI (zr 46) 11008 (fun _ => 0)] : List va_W).flatten))) (by decide +kernel) (Nat.le_of_ble_eq_true rfl) ?_
  intro p e s m args below meth c A ls X I hl hin
  obtain ⟨hx, hb, hr, hml, hown, hts, hlk, hA, hK, hF⟩ := id X
  have hl : lv_has ls 3 [(0, .ref za), (1, .int (nI zj))] := hl
  refine lv_aload_n hx hb dX12_lineOf_0 rfl (lv_at hl 0 rfl) ?_
  refine lv_iload_n hx hb dX12_lineOf_1 rfl (lv_at hl 1 rfl) ?_
  refine lv_iconst (v := (0 : Int32)) hx hb dX12_lineOf_2 (by decide) ?_
  refine lv_sipush (v := (4095 : Int32)) hx hb dX12_lineOf_3 (by decide) ?_
  refine fb_gI (cs := [fb_o12 za zr fr_e0]) (rs := [fb_aw cI (zr 0) 16205 (fr_m (fun _ => 0) 0), fb_aw cI (zr 46) 11008 (fun _ => 0)]) (fun (t : Unit) => [fb_o12 za zr (upd fr_e0 19 (0 : Int32)), fb_aw cI (zr 0) 16205 (fr_m (fun _ => 0) 0), fb_aw cI (zr 46) 11008 (fun _ => 0)]) (fun (t : Unit) => [fb_o12 za zr (upd fr_e0 19 (0 : Int32))]) X I [0, 1, 2] 3 rfl (by decide +kernel) rfl rfl [0, 1, 2] 3 (fun _ => rfl) (by decide +kernel) (fun _ => rfl) (fun _ => rfl) (fun I => fb_rV (As := [.int (nI zj), .int (0 : Int32), .int (4095 : Int32)]) (rest := []) X hl (fb_goodV fw_2346 fw_2348 fw_136 fw_204 fw_2349) (c_isNot_in l D cI cJ za zr fr_e0 (nI zj) (0 : Int32) (4095 : Int32) _ (fr_inN (z := zj) (a := 0) (b := 4095) (by omega) (by omega) (by omega))) rfl rfl rfl (by decide +kernel : fb_hd yX12_isNot 3) ⟨Nat.le_of_ble_eq_true rfl, Nat.le_of_ble_eq_true rfl⟩ rfl rfl rfl rfl rfl (Nat.le_of_ble_eq_true rfl) ⟨Nat.zero_le _, Nat.zero_le _⟩ dX12_lineOf_6 I) ?_
  intro r2 w1 H locs e0 I
  subst e0
  have I : fb_In D A s.heap (([fb_o12 za zr (upd fr_e0 19 (0 : Int32)), fb_aw cI (zr 0) 16205 (fr_m (fun _ => 0) 0), fb_aw cI (zr 46) 11008 (fun _ => 0)] : List va_W).flatten) H locs := I
  refine lv_if_eq (tgt := 14) hx hb dX12_lineOf_9 (by decide) (fun _ => ?_) (fun c3 => absurd (by decide) c3)
  refine lv_iload_n hx hb dX12_lineOf_14 rfl (lv_at hl 1 rfl) ?_
  refine fb_gO (cs := []) (rs := [fb_o12 za zr (upd fr_e0 19 (0 : Int32)), fb_aw cI (zr 0) 16205 (fr_m (fun _ => 0) 0), fb_aw cI (zr 46) 11008 (fun _ => 0)]) X I [0, 1, 2] 3 rfl (by decide +kernel) rfl rfl (fun I => fb_rS (As := [.int (nI zj)]) (rest := []) X hl (fb_goodS fw_1953 fw_1954 fw_204 fw_1955) (c_X12_isPort l D cI cJ (nI zj) _) rfl rfl (by decide +kernel : fb_hd yX12_isPort 1) ⟨Nat.le_of_ble_eq_true rfl, Nat.le_of_ble_eq_true rfl⟩ rfl rfl (Nat.le_of_ble_eq_true rfl) ⟨Nat.le_of_ble_eq_true rfl, Nat.le_of_ble_eq_true rfl⟩ dX12_lineOf_15 I) ?_
  refine fb_tI (v := (1 : Int32)) (fr_yp hj) ?_
  refine lv_if_eq (tgt := 25) hx hb dX12_lineOf_18 (by decide) (fun c4 => absurd c4 (by decide)) (fun _ => ?_)
  refine lv_iconst (v := (0 : Int32)) hx hb dX12_lineOf_21 (by decide) ?_
  refine lv_goto (tgt := 39) hx hb dX12_lineOf_22 (by decide) ?_
  refine lv_istore_n (lv' := [(2, .int (0 : Int32)), (0, .ref za), (1, .int (nI zj))]) hx hb dX12_lineOf_39 rfl hl (by decide) rfl (fun ls hl => ?_)
  refine lv_iload_n hx hb dX12_lineOf_40 rfl (lv_at hl 0 rfl) ?_
  refine lv_if_ne (tgt := 48) hx hb dX12_lineOf_41 (by decide) (fun c5 => absurd (by decide) c5) (fun _ => ?_)
  refine lv_iconst (v := (-1 : Int32)) hx hb dX12_lineOf_44 (by decide) ?_
  refine lv_goto (tgt := 49) hx hb dX12_lineOf_45 (by decide) ?_
  exact fb_retI (u := ()) X I rfl rfl dX12_lineOf_49

set_option maxHeartbeats 4000000 in
set_option maxRecDepth 100000 in
theorem c_lineOf_1 (l : Launch) (D : va_G) (cI cJ : ClassId) (za : Nat) (zr : Nat → Nat) (zj : Nat) (sz : Nat) (hj : zj < 1792) : Met l yX12_lineOf (Cond.code yX12_lineOf cX12_lineOf 3 (some .int) :: fb_all) ({ frames := 3, cells := 0, slots := 0, locals := 75 } : Room) (fb_PP D (fb_ty D cI cJ) [.ref za, .int (nI zj)] (([fb_o12 za zr fr_e0, fb_aw cI (zr 0) 16205 (fr_m (fun _ => 0) 0), fb_aw cI (zr 46) 11008 (fun _ => 0)] : List va_W).flatten) sz) (fb_QI D (va_A (([fb_o12 za zr fr_e0, fb_aw cI (zr 0) 16205 (fr_m (fun _ => 0) 0), fb_aw cI (zr 46) 11008 (fun _ => 0)] : List va_W).flatten) sz) (fun (r : Int32) (_ : Unit) => r = (-1 : Int32)) (fun (t : Unit) => ([fb_o12 za zr (upd fr_e0 19 (0 : Int32)), fb_aw cI (zr 0) 16205 (fr_m (fun _ => 0) 0), fb_aw cI (zr 46) 11008 (fun _ => 0)] : List va_W).flatten)) 0 0 (va_A (([fb_o12 za zr fr_e0, fb_aw cI (zr 0) 16205 (fr_m (fun _ => 0) 0), fb_aw cI (zr 46) 11008 (fun _ => 0)] : List va_W).flatten) sz) := by
  refine fb_ent (Qf := fun A => (fb_QI D A (fun (r : Int32) (_ : Unit) => r = (-1 : Int32)) (fun (t : Unit) => ([fb_o12 za zr (upd fr_e0 19 (0 : Int32)), fb_aw cI (zr 0) 16205 (fr_m (fun _ => 0) 0), fb_aw cI (zr 46) 11008 (fun _ => 0)] : List va_W).flatten))) (by decide +kernel) (Nat.le_of_ble_eq_true rfl) ?_
  intro p e s m args below meth c A ls X I hl hin
  obtain ⟨hx, hb, hr, hml, hown, hts, hlk, hA, hK, hF⟩ := id X
  have hl : lv_has ls 3 [(0, .ref za), (1, .int (nI zj))] := hl
  refine lv_aload_n hx hb dX12_lineOf_0 rfl (lv_at hl 0 rfl) ?_
  refine lv_iload_n hx hb dX12_lineOf_1 rfl (lv_at hl 1 rfl) ?_
  refine lv_iconst (v := (0 : Int32)) hx hb dX12_lineOf_2 (by decide) ?_
  refine lv_sipush (v := (4095 : Int32)) hx hb dX12_lineOf_3 (by decide) ?_
  refine fb_gI (cs := [fb_o12 za zr fr_e0]) (rs := [fb_aw cI (zr 0) 16205 (fr_m (fun _ => 0) 0), fb_aw cI (zr 46) 11008 (fun _ => 0)]) (fun (t : Unit) => [fb_o12 za zr (upd fr_e0 19 (0 : Int32)), fb_aw cI (zr 0) 16205 (fr_m (fun _ => 0) 0), fb_aw cI (zr 46) 11008 (fun _ => 0)]) (fun (t : Unit) => [fb_o12 za zr (upd fr_e0 19 (0 : Int32))]) X I [0, 1, 2] 3 rfl (by decide +kernel) rfl rfl [0, 1, 2] 3 (fun _ => rfl) (by decide +kernel) (fun _ => rfl) (fun _ => rfl) (fun I => fb_rV (As := [.int (nI zj), .int (0 : Int32), .int (4095 : Int32)]) (rest := []) X hl (fb_goodV fw_2346 fw_2348 fw_136 fw_204 fw_2349) (c_isNot_in l D cI cJ za zr fr_e0 (nI zj) (0 : Int32) (4095 : Int32) _ (fr_inN (z := zj) (a := 0) (b := 4095) (by omega) (by omega) (by omega))) rfl rfl rfl (by decide +kernel : fb_hd yX12_isNot 3) ⟨Nat.le_of_ble_eq_true rfl, Nat.le_of_ble_eq_true rfl⟩ rfl rfl rfl rfl rfl (Nat.le_of_ble_eq_true rfl) ⟨Nat.zero_le _, Nat.zero_le _⟩ dX12_lineOf_6 I) ?_
  intro r2 w1 H locs e0 I
  subst e0
  have I : fb_In D A s.heap (([fb_o12 za zr (upd fr_e0 19 (0 : Int32)), fb_aw cI (zr 0) 16205 (fr_m (fun _ => 0) 0), fb_aw cI (zr 46) 11008 (fun _ => 0)] : List va_W).flatten) H locs := I
  refine lv_if_eq (tgt := 14) hx hb dX12_lineOf_9 (by decide) (fun _ => ?_) (fun c3 => absurd (by decide) c3)
  refine lv_iload_n hx hb dX12_lineOf_14 rfl (lv_at hl 1 rfl) ?_
  refine fb_gO (cs := []) (rs := [fb_o12 za zr (upd fr_e0 19 (0 : Int32)), fb_aw cI (zr 0) 16205 (fr_m (fun _ => 0) 0), fb_aw cI (zr 46) 11008 (fun _ => 0)]) X I [0, 1, 2] 3 rfl (by decide +kernel) rfl rfl (fun I => fb_rS (As := [.int (nI zj)]) (rest := []) X hl (fb_goodS fw_1953 fw_1954 fw_204 fw_1955) (c_X12_isPort l D cI cJ (nI zj) _) rfl rfl (by decide +kernel : fb_hd yX12_isPort 1) ⟨Nat.le_of_ble_eq_true rfl, Nat.le_of_ble_eq_true rfl⟩ rfl rfl (Nat.le_of_ble_eq_true rfl) ⟨Nat.le_of_ble_eq_true rfl, Nat.le_of_ble_eq_true rfl⟩ dX12_lineOf_15 I) ?_
  refine fb_tI (v := (0 : Int32)) (fr_np (Or.inl hj)) ?_
  refine lv_if_eq (tgt := 25) hx hb dX12_lineOf_18 (by decide) (fun _ => ?_) (fun c4 => absurd (by decide) c4)
  refine lv_aload_n hx hb dX12_lineOf_25 rfl (lv_at hl 0 rfl) ?_
  refine fb_get X I (k := 46) (v := .ref (zr 46)) fu_X12 0 fb_h12 rfl (Nat.le_of_ble_eq_true rfl) fw_2010 rfl rfl dX12_lineOf_26 ?_
  refine lv_aload_n hx hb dX12_lineOf_29 rfl (lv_at hl 0 rfl) ?_
  refine lv_iload_n hx hb dX12_lineOf_30 rfl (lv_at hl 1 rfl) ?_
  refine fb_gO (cs := [fb_o12 za zr (upd fr_e0 19 (0 : Int32)), fb_aw cI (zr 0) 16205 (fr_m (fun _ => 0) 0)]) (rs := [fb_aw cI (zr 46) 11008 (fun _ => 0)]) X I [0, 1, 2] 3 rfl (by decide +kernel) rfl rfl (fun I => fb_rV (As := [.int (nI zj)]) (rest := [.ref (zr 46)]) X hl (fb_goodV fw_1956 fw_1958 fw_87 fw_204 fw_1959) (c_place_1 l D cI cJ za zr (upd fr_e0 19 (0 : Int32)) (fr_m (fun _ => 0) 0) zj _ (by omega)) rfl rfl rfl (by decide +kernel : fb_hd yX12_place 1) ⟨Nat.le_of_ble_eq_true rfl, Nat.le_of_ble_eq_true rfl⟩ rfl rfl rfl rfl rfl (Nat.le_of_ble_eq_true rfl) ⟨Nat.zero_le _, Nat.zero_le _⟩ dX12_lineOf_31 I) ?_
  refine lv_sipush (v := (1101 : Int32)) hx hb dX12_lineOf_34 (by decide) ?_
  refine lv_isub hx hb dX12_lineOf_37 ?_
  refine fb_tI (v := (nI (1101 + zj - 1101))) (pk_sub (a := 1101 + zj) (b := 1101) (by omega)) ?_
  refine fb_iaC (n := (1101 + zj - 1101)) (v := (0 : Int32)) X I 2 0 rfl rfl (nI_clamp (by omega)) (nI_pos (by omega)) (by omega) rfl dX12_lineOf_38 ?_
  refine lv_istore_n (lv' := [(2, .int (0 : Int32)), (0, .ref za), (1, .int (nI zj))]) hx hb dX12_lineOf_39 rfl hl (by decide) rfl (fun ls hl => ?_)
  refine lv_iload_n hx hb dX12_lineOf_40 rfl (lv_at hl 0 rfl) ?_
  refine lv_if_ne (tgt := 48) hx hb dX12_lineOf_41 (by decide) (fun c5 => absurd (by decide) c5) (fun _ => ?_)
  refine lv_iconst (v := (-1 : Int32)) hx hb dX12_lineOf_44 (by decide) ?_
  refine lv_goto (tgt := 49) hx hb dX12_lineOf_45 (by decide) ?_
  exact fb_retI (u := ()) X I rfl rfl dX12_lineOf_49

set_option maxHeartbeats 4000000 in
set_option maxRecDepth 100000 in
theorem c_lineOf_2 (l : Launch) (D : va_G) (cI cJ : ClassId) (za : Nat) (zr : Nat → Nat) (zj : Nat) (sz : Nat) (hj : 2048 ≤ zj ∧ zj < 3072) : Met l yX12_lineOf (Cond.code yX12_lineOf cX12_lineOf 3 (some .int) :: fb_all) ({ frames := 3, cells := 0, slots := 0, locals := 75 } : Room) (fb_PP D (fb_ty D cI cJ) [.ref za, .int (nI zj)] (([fb_o12 za zr fr_e0, fb_aw cI (zr 0) 16205 (fr_m (fun _ => 0) 0), fb_aw cI (zr 46) 11008 (fun _ => 0)] : List va_W).flatten) sz) (fb_QI D (va_A (([fb_o12 za zr fr_e0, fb_aw cI (zr 0) 16205 (fr_m (fun _ => 0) 0), fb_aw cI (zr 46) 11008 (fun _ => 0)] : List va_W).flatten) sz) (fun (r : Int32) (_ : Unit) => r = (-1 : Int32)) (fun (t : Unit) => ([fb_o12 za zr (upd fr_e0 19 (0 : Int32)), fb_aw cI (zr 0) 16205 (fr_m (fun _ => 0) 0), fb_aw cI (zr 46) 11008 (fun _ => 0)] : List va_W).flatten)) 0 0 (va_A (([fb_o12 za zr fr_e0, fb_aw cI (zr 0) 16205 (fr_m (fun _ => 0) 0), fb_aw cI (zr 46) 11008 (fun _ => 0)] : List va_W).flatten) sz) := by
  refine fb_ent (Qf := fun A => (fb_QI D A (fun (r : Int32) (_ : Unit) => r = (-1 : Int32)) (fun (t : Unit) => ([fb_o12 za zr (upd fr_e0 19 (0 : Int32)), fb_aw cI (zr 0) 16205 (fr_m (fun _ => 0) 0), fb_aw cI (zr 46) 11008 (fun _ => 0)] : List va_W).flatten))) (by decide +kernel) (Nat.le_of_ble_eq_true rfl) ?_
  intro p e s m args below meth c A ls X I hl hin
  obtain ⟨hx, hb, hr, hml, hown, hts, hlk, hA, hK, hF⟩ := id X
  have hl : lv_has ls 3 [(0, .ref za), (1, .int (nI zj))] := hl
  refine lv_aload_n hx hb dX12_lineOf_0 rfl (lv_at hl 0 rfl) ?_
  refine lv_iload_n hx hb dX12_lineOf_1 rfl (lv_at hl 1 rfl) ?_
  refine lv_iconst (v := (0 : Int32)) hx hb dX12_lineOf_2 (by decide) ?_
  refine lv_sipush (v := (4095 : Int32)) hx hb dX12_lineOf_3 (by decide) ?_
  refine fb_gI (cs := [fb_o12 za zr fr_e0]) (rs := [fb_aw cI (zr 0) 16205 (fr_m (fun _ => 0) 0), fb_aw cI (zr 46) 11008 (fun _ => 0)]) (fun (t : Unit) => [fb_o12 za zr (upd fr_e0 19 (0 : Int32)), fb_aw cI (zr 0) 16205 (fr_m (fun _ => 0) 0), fb_aw cI (zr 46) 11008 (fun _ => 0)]) (fun (t : Unit) => [fb_o12 za zr (upd fr_e0 19 (0 : Int32))]) X I [0, 1, 2] 3 rfl (by decide +kernel) rfl rfl [0, 1, 2] 3 (fun _ => rfl) (by decide +kernel) (fun _ => rfl) (fun _ => rfl) (fun I => fb_rV (As := [.int (nI zj), .int (0 : Int32), .int (4095 : Int32)]) (rest := []) X hl (fb_goodV fw_2346 fw_2348 fw_136 fw_204 fw_2349) (c_isNot_in l D cI cJ za zr fr_e0 (nI zj) (0 : Int32) (4095 : Int32) _ (fr_inN (z := zj) (a := 0) (b := 4095) (by omega) (by omega) (by omega))) rfl rfl rfl (by decide +kernel : fb_hd yX12_isNot 3) ⟨Nat.le_of_ble_eq_true rfl, Nat.le_of_ble_eq_true rfl⟩ rfl rfl rfl rfl rfl (Nat.le_of_ble_eq_true rfl) ⟨Nat.zero_le _, Nat.zero_le _⟩ dX12_lineOf_6 I) ?_
  intro r2 w1 H locs e0 I
  subst e0
  have I : fb_In D A s.heap (([fb_o12 za zr (upd fr_e0 19 (0 : Int32)), fb_aw cI (zr 0) 16205 (fr_m (fun _ => 0) 0), fb_aw cI (zr 46) 11008 (fun _ => 0)] : List va_W).flatten) H locs := I
  refine lv_if_eq (tgt := 14) hx hb dX12_lineOf_9 (by decide) (fun _ => ?_) (fun c3 => absurd (by decide) c3)
  refine lv_iload_n hx hb dX12_lineOf_14 rfl (lv_at hl 1 rfl) ?_
  refine fb_gO (cs := []) (rs := [fb_o12 za zr (upd fr_e0 19 (0 : Int32)), fb_aw cI (zr 0) 16205 (fr_m (fun _ => 0) 0), fb_aw cI (zr 46) 11008 (fun _ => 0)]) X I [0, 1, 2] 3 rfl (by decide +kernel) rfl rfl (fun I => fb_rS (As := [.int (nI zj)]) (rest := []) X hl (fb_goodS fw_1953 fw_1954 fw_204 fw_1955) (c_X12_isPort l D cI cJ (nI zj) _) rfl rfl (by decide +kernel : fb_hd yX12_isPort 1) ⟨Nat.le_of_ble_eq_true rfl, Nat.le_of_ble_eq_true rfl⟩ rfl rfl (Nat.le_of_ble_eq_true rfl) ⟨Nat.le_of_ble_eq_true rfl, Nat.le_of_ble_eq_true rfl⟩ dX12_lineOf_15 I) ?_
  refine fb_tI (v := (0 : Int32)) (fr_np (Or.inr ⟨hj.1, by omega⟩)) ?_
  refine lv_if_eq (tgt := 25) hx hb dX12_lineOf_18 (by decide) (fun _ => ?_) (fun c4 => absurd (by decide) c4)
  refine lv_aload_n hx hb dX12_lineOf_25 rfl (lv_at hl 0 rfl) ?_
  refine fb_get X I (k := 46) (v := .ref (zr 46)) fu_X12 0 fb_h12 rfl (Nat.le_of_ble_eq_true rfl) fw_2010 rfl rfl dX12_lineOf_26 ?_
  refine lv_aload_n hx hb dX12_lineOf_29 rfl (lv_at hl 0 rfl) ?_
  refine lv_iload_n hx hb dX12_lineOf_30 rfl (lv_at hl 1 rfl) ?_
  refine fb_gO (cs := [fb_o12 za zr (upd fr_e0 19 (0 : Int32)), fb_aw cI (zr 0) 16205 (fr_m (fun _ => 0) 0)]) (rs := [fb_aw cI (zr 46) 11008 (fun _ => 0)]) X I [0, 1, 2] 3 rfl (by decide +kernel) rfl rfl (fun I => fb_rV (As := [.int (nI zj)]) (rest := [.ref (zr 46)]) X hl (fb_goodV fw_1956 fw_1958 fw_87 fw_204 fw_1959) (c_place_2 l D cI cJ za zr (upd fr_e0 19 (0 : Int32)) (fr_m (fun _ => 0) 0) zj _ (by omega) rfl) rfl rfl rfl (by decide +kernel : fb_hd yX12_place 1) ⟨Nat.le_of_ble_eq_true rfl, Nat.le_of_ble_eq_true rfl⟩ rfl rfl rfl rfl rfl (Nat.le_of_ble_eq_true rfl) ⟨Nat.zero_le _, Nat.zero_le _⟩ dX12_lineOf_31 I) ?_
  refine lv_sipush (v := (1101 : Int32)) hx hb dX12_lineOf_34 (by decide) ?_
  refine lv_isub hx hb dX12_lineOf_37 ?_
  refine fb_tI (v := (nI (2893 + zj - 2048 - 1101))) (pk_sub (a := 2893 + zj - 2048) (b := 1101) (by omega)) ?_
  refine fb_iaC (n := (2893 + zj - 2048 - 1101)) (v := (0 : Int32)) X I 2 0 rfl rfl (nI_clamp (by omega)) (nI_pos (by omega)) (by omega) rfl dX12_lineOf_38 ?_
  refine lv_istore_n (lv' := [(2, .int (0 : Int32)), (0, .ref za), (1, .int (nI zj))]) hx hb dX12_lineOf_39 rfl hl (by decide) rfl (fun ls hl => ?_)
  refine lv_iload_n hx hb dX12_lineOf_40 rfl (lv_at hl 0 rfl) ?_
  refine lv_if_ne (tgt := 48) hx hb dX12_lineOf_41 (by decide) (fun c5 => absurd (by decide) c5) (fun _ => ?_)
  refine lv_iconst (v := (-1 : Int32)) hx hb dX12_lineOf_44 (by decide) ?_
  refine lv_goto (tgt := 49) hx hb dX12_lineOf_45 (by decide) ?_
  exact fb_retI (u := ()) X I rfl rfl dX12_lineOf_49

set_option maxHeartbeats 4000000 in
set_option maxRecDepth 100000 in
theorem c_lineOf_3 (l : Launch) (D : va_G) (cI cJ : ClassId) (za : Nat) (zr : Nat → Nat) (zj : Nat) (sz : Nat) (hj : 3072 ≤ zj ∧ zj < 4096) : Met l yX12_lineOf (Cond.code yX12_lineOf cX12_lineOf 3 (some .int) :: fb_all) ({ frames := 3, cells := 0, slots := 0, locals := 75 } : Room) (fb_PP D (fb_ty D cI cJ) [.ref za, .int (nI zj)] (([fb_o12 za zr fr_e0, fb_aw cI (zr 0) 16205 (fr_m (fun _ => 0) 0), fb_aw cI (zr 46) 11008 (fun _ => 0)] : List va_W).flatten) sz) (fb_QI D (va_A (([fb_o12 za zr fr_e0, fb_aw cI (zr 0) 16205 (fr_m (fun _ => 0) 0), fb_aw cI (zr 46) 11008 (fun _ => 0)] : List va_W).flatten) sz) (fun (r : Int32) (_ : Unit) => r = (-1 : Int32)) (fun (t : Unit) => ([fb_o12 za zr (upd fr_e0 19 (0 : Int32)), fb_aw cI (zr 0) 16205 (fr_m (fun _ => 0) 0), fb_aw cI (zr 46) 11008 (fun _ => 0)] : List va_W).flatten)) 0 0 (va_A (([fb_o12 za zr fr_e0, fb_aw cI (zr 0) 16205 (fr_m (fun _ => 0) 0), fb_aw cI (zr 46) 11008 (fun _ => 0)] : List va_W).flatten) sz) := by
  refine fb_ent (Qf := fun A => (fb_QI D A (fun (r : Int32) (_ : Unit) => r = (-1 : Int32)) (fun (t : Unit) => ([fb_o12 za zr (upd fr_e0 19 (0 : Int32)), fb_aw cI (zr 0) 16205 (fr_m (fun _ => 0) 0), fb_aw cI (zr 46) 11008 (fun _ => 0)] : List va_W).flatten))) (by decide +kernel) (Nat.le_of_ble_eq_true rfl) ?_
  intro p e s m args below meth c A ls X I hl hin
  obtain ⟨hx, hb, hr, hml, hown, hts, hlk, hA, hK, hF⟩ := id X
  have hl : lv_has ls 3 [(0, .ref za), (1, .int (nI zj))] := hl
  refine lv_aload_n hx hb dX12_lineOf_0 rfl (lv_at hl 0 rfl) ?_
  refine lv_iload_n hx hb dX12_lineOf_1 rfl (lv_at hl 1 rfl) ?_
  refine lv_iconst (v := (0 : Int32)) hx hb dX12_lineOf_2 (by decide) ?_
  refine lv_sipush (v := (4095 : Int32)) hx hb dX12_lineOf_3 (by decide) ?_
  refine fb_gI (cs := [fb_o12 za zr fr_e0]) (rs := [fb_aw cI (zr 0) 16205 (fr_m (fun _ => 0) 0), fb_aw cI (zr 46) 11008 (fun _ => 0)]) (fun (t : Unit) => [fb_o12 za zr (upd fr_e0 19 (0 : Int32)), fb_aw cI (zr 0) 16205 (fr_m (fun _ => 0) 0), fb_aw cI (zr 46) 11008 (fun _ => 0)]) (fun (t : Unit) => [fb_o12 za zr (upd fr_e0 19 (0 : Int32))]) X I [0, 1, 2] 3 rfl (by decide +kernel) rfl rfl [0, 1, 2] 3 (fun _ => rfl) (by decide +kernel) (fun _ => rfl) (fun _ => rfl) (fun I => fb_rV (As := [.int (nI zj), .int (0 : Int32), .int (4095 : Int32)]) (rest := []) X hl (fb_goodV fw_2346 fw_2348 fw_136 fw_204 fw_2349) (c_isNot_in l D cI cJ za zr fr_e0 (nI zj) (0 : Int32) (4095 : Int32) _ (fr_inN (z := zj) (a := 0) (b := 4095) (by omega) (by omega) (by omega))) rfl rfl rfl (by decide +kernel : fb_hd yX12_isNot 3) ⟨Nat.le_of_ble_eq_true rfl, Nat.le_of_ble_eq_true rfl⟩ rfl rfl rfl rfl rfl (Nat.le_of_ble_eq_true rfl) ⟨Nat.zero_le _, Nat.zero_le _⟩ dX12_lineOf_6 I) ?_
  intro r2 w1 H locs e0 I
  subst e0
  have I : fb_In D A s.heap (([fb_o12 za zr (upd fr_e0 19 (0 : Int32)), fb_aw cI (zr 0) 16205 (fr_m (fun _ => 0) 0), fb_aw cI (zr 46) 11008 (fun _ => 0)] : List va_W).flatten) H locs := I
  refine lv_if_eq (tgt := 14) hx hb dX12_lineOf_9 (by decide) (fun _ => ?_) (fun c3 => absurd (by decide) c3)
  refine lv_iload_n hx hb dX12_lineOf_14 rfl (lv_at hl 1 rfl) ?_
  refine fb_gO (cs := []) (rs := [fb_o12 za zr (upd fr_e0 19 (0 : Int32)), fb_aw cI (zr 0) 16205 (fr_m (fun _ => 0) 0), fb_aw cI (zr 46) 11008 (fun _ => 0)]) X I [0, 1, 2] 3 rfl (by decide +kernel) rfl rfl (fun I => fb_rS (As := [.int (nI zj)]) (rest := []) X hl (fb_goodS fw_1953 fw_1954 fw_204 fw_1955) (c_X12_isPort l D cI cJ (nI zj) _) rfl rfl (by decide +kernel : fb_hd yX12_isPort 1) ⟨Nat.le_of_ble_eq_true rfl, Nat.le_of_ble_eq_true rfl⟩ rfl rfl (Nat.le_of_ble_eq_true rfl) ⟨Nat.le_of_ble_eq_true rfl, Nat.le_of_ble_eq_true rfl⟩ dX12_lineOf_15 I) ?_
  refine fb_tI (v := (0 : Int32)) (fr_np (Or.inr ⟨by omega, hj.2⟩)) ?_
  refine lv_if_eq (tgt := 25) hx hb dX12_lineOf_18 (by decide) (fun _ => ?_) (fun c4 => absurd (by decide) c4)
  refine lv_aload_n hx hb dX12_lineOf_25 rfl (lv_at hl 0 rfl) ?_
  refine fb_get X I (k := 46) (v := .ref (zr 46)) fu_X12 0 fb_h12 rfl (Nat.le_of_ble_eq_true rfl) fw_2010 rfl rfl dX12_lineOf_26 ?_
  refine lv_aload_n hx hb dX12_lineOf_29 rfl (lv_at hl 0 rfl) ?_
  refine lv_iload_n hx hb dX12_lineOf_30 rfl (lv_at hl 1 rfl) ?_
  refine fb_gO (cs := [fb_o12 za zr (upd fr_e0 19 (0 : Int32)), fb_aw cI (zr 0) 16205 (fr_m (fun _ => 0) 0)]) (rs := [fb_aw cI (zr 46) 11008 (fun _ => 0)]) X I [0, 1, 2] 3 rfl (by decide +kernel) rfl rfl (fun I => fb_rV (As := [.int (nI zj)]) (rest := [.ref (zr 46)]) X hl (fb_goodV fw_1956 fw_1958 fw_87 fw_204 fw_1959) (c_place_3 l D cI cJ za zr (upd fr_e0 19 (0 : Int32)) (fr_m (fun _ => 0) 0) zj _ (by omega)) rfl rfl rfl (by decide +kernel : fb_hd yX12_place 1) ⟨Nat.le_of_ble_eq_true rfl, Nat.le_of_ble_eq_true rfl⟩ rfl rfl rfl rfl rfl (Nat.le_of_ble_eq_true rfl) ⟨Nat.zero_le _, Nat.zero_le _⟩ dX12_lineOf_31 I) ?_
  refine lv_sipush (v := (1101 : Int32)) hx hb dX12_lineOf_34 (by decide) ?_
  refine lv_isub hx hb dX12_lineOf_37 ?_
  refine fb_tI (v := (nI (11085 + zj - 3072 - 1101))) (pk_sub (a := 11085 + zj - 3072) (b := 1101) (by omega)) ?_
  refine fb_iaC (n := (11085 + zj - 3072 - 1101)) (v := (0 : Int32)) X I 2 0 rfl rfl (nI_clamp (by omega)) (nI_pos (by omega)) (by omega) rfl dX12_lineOf_38 ?_
  refine lv_istore_n (lv' := [(2, .int (0 : Int32)), (0, .ref za), (1, .int (nI zj))]) hx hb dX12_lineOf_39 rfl hl (by decide) rfl (fun ls hl => ?_)
  refine lv_iload_n hx hb dX12_lineOf_40 rfl (lv_at hl 0 rfl) ?_
  refine lv_if_ne (tgt := 48) hx hb dX12_lineOf_41 (by decide) (fun c5 => absurd (by decide) c5) (fun _ => ?_)
  refine lv_iconst (v := (-1 : Int32)) hx hb dX12_lineOf_44 (by decide) ?_
  refine lv_goto (tgt := 49) hx hb dX12_lineOf_45 (by decide) ?_
  exact fb_retI (u := ()) X I rfl rfl dX12_lineOf_49

set_option maxHeartbeats 4000000 in
set_option maxRecDepth 100000 in
theorem c_step (l : Launch) (D : va_G) (cI cJ : ClassId) (za : Nat) (zr : Nat → Nat) (zl : fb_AR) (zh : Nat → Option Nat) (zhs : va_W) (sz : Nat) (hh : fr_hok cI zh zhs) : Met l yX12_step (Cond.code yX12_step cX12_step 1 (some .int) :: fb_all) ({ frames := 11, cells := 1, slots := 8, locals := 222 } : Room) (fb_PP D (fb_ty D cI cJ) [.ref za] (([fb_o12 za zr fr_e0, fb_aw cI (zr 0) 16205 (fr_m (fun _ => 0) 0), fb_aw cI (zr 3) 64 zl, fb_qh D (zr 1) 200 zh, zhs] : List va_W).flatten) sz) (fb_QI D (va_A (([fb_o12 za zr fr_e0, fb_aw cI (zr 0) 16205 (fr_m (fun _ => 0) 0), fb_aw cI (zr 3) 64 zl, fb_qh D (zr 1) 200 zh, zhs] : List va_W).flatten) sz) (fun (r : Int32) (_ : fb_AR × fb_AR × fb_AR × (Nat → Option Nat) × va_W) => r = (1 : Int32)) (fun (t : fb_AR × fb_AR × fb_AR × (Nat → Option Nat) × va_W) => ([fb_o12 za zr (t.1), fb_aw cI (zr 0) 16205 (fr_m (t.2.1) (0 + 1)), fb_aw cI (zr 3) 64 (t.2.2.1), fb_qh D (zr 1) 200 (t.2.2.2.1), (t.2.2.2.2)] : List va_W).flatten)) 1 8 (va_A (([fb_o12 za zr fr_e0, fb_aw cI (zr 0) 16205 (fr_m (fun _ => 0) 0), fb_aw cI (zr 3) 64 zl, fb_qh D (zr 1) 200 zh, zhs] : List va_W).flatten) sz) := by
  refine fb_ent (Qf := fun A => (fb_QI D A (fun (r : Int32) (_ : fb_AR × fb_AR × fb_AR × (Nat → Option Nat) × va_W) => r = (1 : Int32)) (fun (t : fb_AR × fb_AR × fb_AR × (Nat → Option Nat) × va_W) => ([fb_o12 za zr (t.1), fb_aw cI (zr 0) 16205 (fr_m (t.2.1) (0 + 1)), fb_aw cI (zr 3) 64 (t.2.2.1), fb_qh D (zr 1) 200 (t.2.2.2.1), (t.2.2.2.2)] : List va_W).flatten))) (by decide +kernel) (Nat.le_of_ble_eq_true rfl) ?_
  intro p e s m args below meth c A ls X I hl hin
  obtain ⟨hx, hb, hr, hml, hown, hts, hlk, hA, hK, hF⟩ := id X
  have hl : lv_has ls 1 [(0, .ref za)] := hl
  refine lv_aload_n hx hb dX12_step_0 rfl (lv_at hl 0 rfl) ?_
  refine lv_iconst (v := (0 : Int32)) hx hb dX12_step_1 (by decide) ?_
  refine fb_put X I (k := 19) (wn := ([fb_o12 za zr (upd fr_e0 19 (0 : Int32)), fb_aw cI (zr 0) 16205 (fr_m (fun _ => 0) 0), fb_aw cI (zr 3) 64 zl, fb_qh D (zr 1) 200 zh, zhs] : List va_W).flatten) fu_X12 tyX12 tyX12_ok nmX12 0 fb_h12 rfl (Nat.le_of_ble_eq_true rfl) fw_1983 rfl rfl rfl rfl rfl (Nat.le_of_ble_eq_true rfl) fb_r12_19 dX12_step_2 (fun H locs I => ?_)
  refine lv_aload_n hx hb dX12_step_5 rfl (lv_at hl 0 rfl) ?_
  refine fb_gI (cs := [fb_o12 za zr (upd fr_e0 19 (0 : Int32)), fb_aw cI (zr 0) 16205 (fr_m (fun _ => 0) 0), fb_aw cI (zr 3) 64 zl, fb_qh D (zr 1) 200 zh, zhs]) (rs := []) (fun (t : fb_AR × fb_AR × fb_AR × (Nat → Option Nat) × va_W) => [fb_o12 za zr (t.1), fb_aw cI (zr 0) 16205 (fr_m (t.2.1) (0 + 1)), fb_aw cI (zr 3) 64 (t.2.2.1), fb_qh D (zr 1) 200 (t.2.2.2.1), (t.2.2.2.2)]) (fun (t : fb_AR × fb_AR × fb_AR × (Nat → Option Nat) × va_W) => [fb_o12 za zr (t.1), fb_aw cI (zr 0) 16205 (fr_m (t.2.1) (0 + 1)), fb_aw cI (zr 3) 64 (t.2.2.1), fb_qh D (zr 1) 200 (t.2.2.2.1), (t.2.2.2.2)]) X I [0, 1, 2, 3, 4] 5 rfl (by decide +kernel) rfl rfl [0, 1, 2, 3, 4] 5 (fun _ => rfl) (by decide +kernel) (fun _ => rfl) (fun _ => rfl) (fun I => fb_rV (As := []) (rest := []) X hl (fb_goodV fw_2402 fw_2404 fw_138 fw_204 fw_2405) (c_oneKept l D cI cJ za zr (upd fr_e0 19 (0 : Int32)) (fun _ => 0) 0 zl zh zhs 0 _ (by omega) rfl (by omega) hh) rfl rfl rfl (by decide +kernel : fb_hd yX12_oneKept 0) ⟨Nat.le_of_ble_eq_true rfl, Nat.le_of_ble_eq_true rfl⟩ rfl rfl rfl rfl rfl (Nat.le_of_ble_eq_true rfl) ⟨Nat.le_of_ble_eq_true rfl, Nat.le_of_ble_eq_true rfl⟩ dX12_step_6 I) ?_
  intro r2 w1 H locs e0 I
  obtain ⟨e9, e0⟩ := e0
  subst e9
  obtain ⟨w1_0, w1_1, w1_2, w1_3, w1_4⟩ := w1
  have p3 : fr_kp (upd fr_e0 19 (0 : Int32)) w1_0 ∧ fr_hok cI w1_3 w1_4 := e0
  have I : fb_In D A s.heap (([fb_o12 za zr w1_0, fb_aw cI (zr 0) 16205 (fr_m w1_1 (0 + 1)), fb_aw cI (zr 3) 64 w1_2, fb_qh D (zr 1) 200 w1_3, w1_4] : List va_W).flatten) H locs := I
  refine W.widen (k := 1) (n := 8) (by omega) (by omega) ?_
  exact fb_retI (u := (w1_0, w1_1, w1_2, w1_3, w1_4)) X I rfl rfl dX12_step_9

set_option maxHeartbeats 4000000 in
set_option maxRecDepth 100000 in
theorem c_run_out (l : Launch) (D : va_G) (cI cJ : ClassId) (za : Nat) (zr : Nat → Nat) (l1 : Int32) (sz : Nat) (q1 : f_X12_isIn l1 (1 : Int32) (5000 : Int32) = (0 : Int32)) : Met l yX12_run (Cond.code yX12_run cX12_run 2 (some .int) :: fb_all) ({ frames := 3, cells := 0, slots := 0, locals := 75 } : Room) (fb_PP D (fb_ty D cI cJ) [.ref za, .int l1] (([fb_o12 za zr fr_e0] : List va_W).flatten) sz) (fb_QI D (va_A (([fb_o12 za zr fr_e0] : List va_W).flatten) sz) (fun (r : Int32) (_ : Unit) => r = (0 : Int32)) (fun (t : Unit) => ([fb_o12 za zr (upd (upd fr_e0 19 (0 : Int32)) 19 (1 : Int32))] : List va_W).flatten)) 0 0 (va_A (([fb_o12 za zr fr_e0] : List va_W).flatten) sz) := by
  refine fb_ent (Qf := fun A => (fb_QI D A (fun (r : Int32) (_ : Unit) => r = (0 : Int32)) (fun (t : Unit) => ([fb_o12 za zr (upd (upd fr_e0 19 (0 : Int32)) 19 (1 : Int32))] : List va_W).flatten))) (by decide +kernel) (Nat.le_of_ble_eq_true rfl) ?_
  intro p e s m args below meth c A ls X I hl hin
  obtain ⟨hx, hb, hr, hml, hown, hts, hlk, hA, hK, hF⟩ := id X
  have hl : lv_has ls 2 [(0, .ref za), (1, .int l1)] := hl
  refine lv_aload_n hx hb dX12_run_0 rfl (lv_at hl 0 rfl) ?_
  refine lv_iload_n hx hb dX12_run_1 rfl (lv_at hl 1 rfl) ?_
  refine lv_iconst (v := (1 : Int32)) hx hb dX12_run_2 (by decide) ?_
  refine lv_sipush (v := (5000 : Int32)) hx hb dX12_run_3 (by decide) ?_
  refine fb_gI (cs := [fb_o12 za zr fr_e0]) (rs := []) (fun (t : Unit) => [fb_o12 za zr (upd (upd fr_e0 19 (0 : Int32)) 19 (1 : Int32))]) (fun (t : Unit) => [fb_o12 za zr (upd (upd fr_e0 19 (0 : Int32)) 19 (1 : Int32))]) X I [0] 1 rfl (by decide +kernel) rfl rfl [0] 1 (fun _ => rfl) (by decide +kernel) (fun _ => rfl) (fun _ => rfl) (fun I => fb_rV (As := [.int l1, .int (1 : Int32), .int (5000 : Int32)]) (rest := []) X hl (fb_goodV fw_2346 fw_2348 fw_136 fw_204 fw_2349) (c_isNot_out l D cI cJ za zr fr_e0 l1 (1 : Int32) (5000 : Int32) _ q1) rfl rfl rfl (by decide +kernel : fb_hd yX12_isNot 3) ⟨Nat.le_of_ble_eq_true rfl, Nat.le_of_ble_eq_true rfl⟩ rfl rfl rfl rfl rfl (Nat.le_of_ble_eq_true rfl) ⟨Nat.zero_le _, Nat.zero_le _⟩ dX12_run_6 I) ?_
  intro r2 w1 H locs e0 I
  subst e0
  have I : fb_In D A s.heap (([fb_o12 za zr (upd (upd fr_e0 19 (0 : Int32)) 19 (1 : Int32))] : List va_W).flatten) H locs := I
  refine lv_if_eq (tgt := 16) hx hb dX12_run_9 (by decide) (fun c3 => absurd c3 (by decide)) (fun _ => ?_)
  refine lv_iconst (v := (0 : Int32)) hx hb dX12_run_12 (by decide) ?_
  refine lv_goto (tgt := 22) hx hb dX12_run_13 (by decide) ?_
  exact fb_retI (u := ()) X I rfl rfl dX12_run_22

set_option maxHeartbeats 4000000 in
set_option maxRecDepth 100000 in
theorem c_run_in (l : Launch) (D : va_G) (cI cJ : ClassId) (za : Nat) (zr : Nat → Nat) (zl : fb_AR) (zh : Nat → Option Nat) (zhs : va_W) (zN : Nat) (sz : Nat) (hN : zN < 5000) (hh : fr_hok cI zh zhs) : Met l yX12_run (Cond.code yX12_run cX12_run 2 (some .int) :: fb_all) ({ frames := 15, cells := 5000, slots := 40000, locals := 283 } : Room) (fb_PP D (fb_ty D cI cJ) [.ref za, .int (nI (zN + 1))] (([fb_o12 za zr fr_e0, fb_aw cI (zr 0) 16205 (fr_m (fun _ => 0) 0), fb_aw cI (zr 3) 64 zl, fb_qh D (zr 1) 200 zh, zhs] : List va_W).flatten) sz) (fb_QI D (va_A (([fb_o12 za zr fr_e0, fb_aw cI (zr 0) 16205 (fr_m (fun _ => 0) 0), fb_aw cI (zr 3) 64 zl, fb_qh D (zr 1) 200 zh, zhs] : List va_W).flatten) sz) (fun (r : Int32) (t : fb_AR × fb_AR × fb_AR × (Nat → Option Nat) × va_W) => r = (nI (zN + 1)) ∧ (upd (t.1) 10 (1 : Int32)) 19 = (0 : Int32)) (fun (t : fb_AR × fb_AR × fb_AR × (Nat → Option Nat) × va_W) => ([fb_o12 za zr (upd (t.1) 10 (1 : Int32)), fb_aw cI (zr 0) 16205 (fr_m (t.2.1) ((0 + zN) + 1)), fb_aw cI (zr 3) 64 (t.2.2.1), fb_qh D (zr 1) 200 (t.2.2.2.1), (t.2.2.2.2)] : List va_W).flatten)) 5000 40000 (va_A (([fb_o12 za zr fr_e0, fb_aw cI (zr 0) 16205 (fr_m (fun _ => 0) 0), fb_aw cI (zr 3) 64 zl, fb_qh D (zr 1) 200 zh, zhs] : List va_W).flatten) sz) := by
  refine fb_ent (Qf := fun A => (fb_QI D A (fun (r : Int32) (t : fb_AR × fb_AR × fb_AR × (Nat → Option Nat) × va_W) => r = (nI (zN + 1)) ∧ (upd (t.1) 10 (1 : Int32)) 19 = (0 : Int32)) (fun (t : fb_AR × fb_AR × fb_AR × (Nat → Option Nat) × va_W) => ([fb_o12 za zr (upd (t.1) 10 (1 : Int32)), fb_aw cI (zr 0) 16205 (fr_m (t.2.1) ((0 + zN) + 1)), fb_aw cI (zr 3) 64 (t.2.2.1), fb_qh D (zr 1) 200 (t.2.2.2.1), (t.2.2.2.2)] : List va_W).flatten))) (by decide +kernel) (Nat.le_of_ble_eq_true rfl) ?_
  intro p e s m args below meth c A ls X I hl hin
  obtain ⟨hx, hb, hr, hml, hown, hts, hlk, hA, hK, hF⟩ := id X
  have hl : lv_has ls 2 [(0, .ref za), (1, .int (nI (zN + 1)))] := hl
  refine lv_aload_n hx hb dX12_run_0 rfl (lv_at hl 0 rfl) ?_
  refine lv_iload_n hx hb dX12_run_1 rfl (lv_at hl 1 rfl) ?_
  refine lv_iconst (v := (1 : Int32)) hx hb dX12_run_2 (by decide) ?_
  refine lv_sipush (v := (5000 : Int32)) hx hb dX12_run_3 (by decide) ?_
  refine fb_gI (cs := [fb_o12 za zr fr_e0]) (rs := [fb_aw cI (zr 0) 16205 (fr_m (fun _ => 0) 0), fb_aw cI (zr 3) 64 zl, fb_qh D (zr 1) 200 zh, zhs]) (fun (t : Unit) => [fb_o12 za zr (upd fr_e0 19 (0 : Int32)), fb_aw cI (zr 0) 16205 (fr_m (fun _ => 0) 0), fb_aw cI (zr 3) 64 zl, fb_qh D (zr 1) 200 zh, zhs]) (fun (t : Unit) => [fb_o12 za zr (upd fr_e0 19 (0 : Int32))]) X I [0, 1, 2, 3, 4] 5 rfl (by decide +kernel) rfl rfl [0, 1, 2, 3, 4] 5 (fun _ => rfl) (by decide +kernel) (fun _ => rfl) (fun _ => rfl) (fun I => fb_rV (As := [.int (nI (zN + 1)), .int (1 : Int32), .int (5000 : Int32)]) (rest := []) X hl (fb_goodV fw_2346 fw_2348 fw_136 fw_204 fw_2349) (c_isNot_in l D cI cJ za zr fr_e0 (nI (zN + 1)) (1 : Int32) (5000 : Int32) _ (fr_inN (z := (zN + 1)) (a := 1) (b := 5000) (by omega) (by omega) (by omega))) rfl rfl rfl (by decide +kernel : fb_hd yX12_isNot 3) ⟨Nat.le_of_ble_eq_true rfl, Nat.le_of_ble_eq_true rfl⟩ rfl rfl rfl rfl rfl (Nat.le_of_ble_eq_true rfl) ⟨Nat.zero_le _, Nat.zero_le _⟩ dX12_run_6 I) ?_
  intro r2 w1 H locs e0 I
  subst e0
  have I : fb_In D A s.heap (([fb_o12 za zr (upd fr_e0 19 (0 : Int32)), fb_aw cI (zr 0) 16205 (fr_m (fun _ => 0) 0), fb_aw cI (zr 3) 64 zl, fb_qh D (zr 1) 200 zh, zhs] : List va_W).flatten) H locs := I
  refine lv_if_eq (tgt := 16) hx hb dX12_run_9 (by decide) (fun _ => ?_) (fun c3 => absurd (by decide) c3)
  refine lv_aload_n hx hb dX12_run_16 rfl (lv_at hl 0 rfl) ?_
  refine lv_iload_n hx hb dX12_run_17 rfl (lv_at hl 1 rfl) ?_
  refine lv_iconst (v := (-1 : Int32)) hx hb dX12_run_18 (by decide) ?_
  refine fb_gI (cs := [fb_o12 za zr (upd fr_e0 19 (0 : Int32)), fb_aw cI (zr 0) 16205 (fr_m (fun _ => 0) 0), fb_aw cI (zr 3) 64 zl, fb_qh D (zr 1) 200 zh, zhs]) (rs := []) (fun (t : fb_AR × fb_AR × fb_AR × (Nat → Option Nat) × va_W) => [fb_o12 za zr (upd (t.1) 10 (1 : Int32)), fb_aw cI (zr 0) 16205 (fr_m (t.2.1) ((0 + zN) + 1)), fb_aw cI (zr 3) 64 (t.2.2.1), fb_qh D (zr 1) 200 (t.2.2.2.1), (t.2.2.2.2)]) (fun (t : fb_AR × fb_AR × fb_AR × (Nat → Option Nat) × va_W) => [fb_o12 za zr (upd (t.1) 10 (1 : Int32)), fb_aw cI (zr 0) 16205 (fr_m (t.2.1) ((0 + zN) + 1)), fb_aw cI (zr 3) 64 (t.2.2.1), fb_qh D (zr 1) 200 (t.2.2.2.1), (t.2.2.2.2)]) X I [0, 1, 2, 3, 4] 5 rfl (by decide +kernel) rfl rfl [0, 1, 2, 3, 4] 5 (fun _ => rfl) (by decide +kernel) (fun _ => rfl) (fun _ => rfl) (fun I => fb_rV (As := [.int (nI (zN + 1)), .int (-1 : Int32)]) (rest := []) X hl (fb_goodV fw_2566 fw_2568 fw_176 fw_204 fw_2569) (c_go l D cI cJ za zr (upd fr_e0 19 (0 : Int32)) (fun _ => 0) 0 zl zh zhs 0 zN _ (by omega) (by omega) rfl (by omega) hh rfl) rfl rfl rfl (by decide +kernel : fb_hd yX12_go 2) ⟨Nat.le_of_ble_eq_true rfl, Nat.le_of_ble_eq_true rfl⟩ rfl rfl rfl rfl rfl (Nat.le_of_ble_eq_true rfl) ⟨Nat.le_of_ble_eq_true rfl, Nat.le_of_ble_eq_true rfl⟩ dX12_run_19 I) ?_
  intro r5 w4 H locs e0 I
  obtain ⟨e9, e0⟩ := e0
  subst e9
  obtain ⟨w4_0, w4_1, w4_2, w4_3, w4_4⟩ := w4
  have p6 : (upd w4_0 10 (1 : Int32)) 19 = (upd fr_e0 19 (0 : Int32)) 19 := e0
  have I : fb_In D A s.heap (([fb_o12 za zr (upd w4_0 10 (1 : Int32)), fb_aw cI (zr 0) 16205 (fr_m w4_1 ((0 + zN) + 1)), fb_aw cI (zr 3) 64 w4_2, fb_qh D (zr 1) 200 w4_3, w4_4] : List va_W).flatten) H locs := I
  refine W.widen (k := 5000) (n := 40000) (by omega) (by omega) ?_
  exact fb_retI (u := (w4_0, w4_1, w4_2, w4_3, w4_4)) X I ⟨rfl, p6⟩ rfl dX12_run_22

set_option maxHeartbeats 4000000 in
set_option maxRecDepth 100000 in
theorem c_stepOver (l : Launch) (D : va_G) (cI cJ : ClassId) (za : Nat) (zr : Nat → Nat) (zl : fb_AR) (zh : Nat → Option Nat) (zhs : va_W) (sz : Nat) (hh : fr_hok cI zh zhs) : Met l yX12_stepOver (Cond.code yX12_stepOver cX12_stepOver 4 (some .int) :: fb_all) ({ frames := 11, cells := 1, slots := 8, locals := 222 } : Room) (fb_PP D (fb_ty D cI cJ) [.ref za] (([fb_o12 za zr fr_e0, fb_aw cI (zr 0) 16205 (fr_m (fun _ => 0) 0), fb_aw cI (zr 3) 64 zl, fb_qh D (zr 1) 200 zh, zhs] : List va_W).flatten) sz) (fb_QI D (va_A (([fb_o12 za zr fr_e0, fb_aw cI (zr 0) 16205 (fr_m (fun _ => 0) 0), fb_aw cI (zr 3) 64 zl, fb_qh D (zr 1) 200 zh, zhs] : List va_W).flatten) sz) (fun (r : Int32) (_ : fb_AR × fb_AR × fb_AR × (Nat → Option Nat) × va_W) => r = (1 : Int32)) (fun (t : fb_AR × fb_AR × fb_AR × (Nat → Option Nat) × va_W) => ([fb_o12 za zr (upd (t.1) 10 (6 : Int32)), fb_aw cI (zr 0) 16205 (fr_m (t.2.1) (0 + 1)), fb_aw cI (zr 3) 64 (t.2.2.1), fb_qh D (zr 1) 200 (t.2.2.2.1), (t.2.2.2.2)] : List va_W).flatten)) 1 8 (va_A (([fb_o12 za zr fr_e0, fb_aw cI (zr 0) 16205 (fr_m (fun _ => 0) 0), fb_aw cI (zr 3) 64 zl, fb_qh D (zr 1) 200 zh, zhs] : List va_W).flatten) sz) := by
  refine fb_ent (Qf := fun A => (fb_QI D A (fun (r : Int32) (_ : fb_AR × fb_AR × fb_AR × (Nat → Option Nat) × va_W) => r = (1 : Int32)) (fun (t : fb_AR × fb_AR × fb_AR × (Nat → Option Nat) × va_W) => ([fb_o12 za zr (upd (t.1) 10 (6 : Int32)), fb_aw cI (zr 0) 16205 (fr_m (t.2.1) (0 + 1)), fb_aw cI (zr 3) 64 (t.2.2.1), fb_qh D (zr 1) 200 (t.2.2.2.1), (t.2.2.2.2)] : List va_W).flatten))) (by decide +kernel) (Nat.le_of_ble_eq_true rfl) ?_
  intro p e s m args below meth c A ls X I hl hin
  obtain ⟨hx, hb, hr, hml, hown, hts, hlk, hA, hK, hF⟩ := id X
  have hl : lv_has ls 4 [(0, .ref za)] := hl
  refine lv_aload_n hx hb dX12_stepOver_0 rfl (lv_at hl 0 rfl) ?_
  refine lv_iconst (v := (0 : Int32)) hx hb dX12_stepOver_1 (by decide) ?_
  refine fb_put X I (k := 19) (wn := ([fb_o12 za zr (upd fr_e0 19 (0 : Int32)), fb_aw cI (zr 0) 16205 (fr_m (fun _ => 0) 0), fb_aw cI (zr 3) 64 zl, fb_qh D (zr 1) 200 zh, zhs] : List va_W).flatten) fu_X12 tyX12 tyX12_ok nmX12 0 fb_h12 rfl (Nat.le_of_ble_eq_true rfl) fw_1983 rfl rfl rfl rfl rfl (Nat.le_of_ble_eq_true rfl) fb_r12_19 dX12_stepOver_2 (fun H locs I => ?_)
  refine lv_aload_n hx hb dX12_stepOver_5 rfl (lv_at hl 0 rfl) ?_
  refine lv_aload_n hx hb dX12_stepOver_6 rfl (lv_at hl 0 rfl) ?_
  refine fb_get X I (k := 0) (v := .ref (zr 0)) fu_X12 0 fb_h12 rfl (Nat.le_of_ble_eq_true rfl) fw_1964 rfl rfl dX12_stepOver_7 ?_
  refine lv_iconst (v := (4 : Int32)) hx hb dX12_stepOver_10 (by decide) ?_
  refine fb_iaC (n := 4) (v := (0 : Int32)) X I 1 0 rfl rfl (by decide) (by decide) (Nat.le_of_ble_eq_true rfl) rfl dX12_stepOver_11 ?_
  refine fb_gO (cs := [fb_o12 za zr (upd fr_e0 19 (0 : Int32)), fb_aw cI (zr 0) 16205 (fr_m (fun _ => 0) 0)]) (rs := [fb_aw cI (zr 3) 64 zl, fb_qh D (zr 1) 200 zh, zhs]) X I [0, 1, 2, 3, 4] 5 rfl (by decide +kernel) rfl rfl (fun I => fb_rV (As := [.int (0 : Int32)]) (rest := []) X hl (fb_goodV fw_1949 fw_1951 fw_86 fw_204 fw_1952) (c_code l D cI cJ za zr (upd fr_e0 19 (0 : Int32)) (fr_m (fun _ => 0) 0) (0 : Int32) _ (fr_hm _ _) rfl) rfl rfl rfl (by decide +kernel : fb_hd yX12_code 1) ⟨Nat.le_of_ble_eq_true rfl, Nat.le_of_ble_eq_true rfl⟩ rfl rfl rfl rfl rfl (Nat.le_of_ble_eq_true rfl) ⟨Nat.zero_le _, Nat.zero_le _⟩ dX12_stepOver_12 I) ?_
  refine lv_istore_n (lv' := [(1, .int (0 : Int32)), (0, .ref za)]) hx hb dX12_stepOver_15 rfl hl (by decide) rfl (fun ls hl => ?_)
  refine lv_iload_n hx hb dX12_stepOver_16 rfl (lv_at hl 0 rfl) ?_
  refine fb_gO (cs := []) (rs := [fb_o12 za zr (upd fr_e0 19 (0 : Int32)), fb_aw cI (zr 0) 16205 (fr_m (fun _ => 0) 0), fb_aw cI (zr 3) 64 zl, fb_qh D (zr 1) 200 zh, zhs]) X I [0, 1, 2, 3, 4] 5 rfl (by decide +kernel) rfl rfl (fun I => fb_rS (As := [.int (0 : Int32)]) (rest := []) X hl (fb_goodS fw_2492 fw_2493 fw_204 fw_2494) (c_X12_isInstruction l D cI cJ (0 : Int32) _) rfl rfl (by decide +kernel : fb_hd yX12_isInstruction 1) ⟨Nat.le_of_ble_eq_true rfl, Nat.le_of_ble_eq_true rfl⟩ rfl rfl (Nat.le_of_ble_eq_true rfl) ⟨Nat.le_of_ble_eq_true rfl, Nat.le_of_ble_eq_true rfl⟩ dX12_stepOver_17 I) ?_
  refine fb_tI (v := (1 : Int32)) (by decide) ?_
  refine lv_if_eq (tgt := 43) hx hb dX12_stepOver_20 (by decide) (fun c1 => absurd c1 (by decide)) (fun _ => ?_)
  refine lv_iload_n hx hb dX12_stepOver_23 rfl (lv_at hl 0 rfl) ?_
  refine lv_bipush (v := (8 : Int32)) hx hb dX12_stepOver_24 (by decide) ?_
  refine lv_idiv hx hb dX12_stepOver_26 (by decide) ?_
  refine fb_tI (v := (0 : Int32)) (by decide) ?_
  refine lv_bipush (v := (25 : Int32)) hx hb dX12_stepOver_27 (by decide) ?_
  refine lv_icmp_eq (tgt := 39) hx hb dX12_stepOver_29 (by decide) (fun c2 => absurd c2 (by decide)) (fun _ => ?_)
  refine lv_iload_n hx hb dX12_stepOver_32 rfl (lv_at hl 0 rfl) ?_
  refine lv_sipush (v := (217 : Int32)) hx hb dX12_stepOver_33 (by decide) ?_
  refine lv_icmp_ne (tgt := 43) hx hb dX12_stepOver_36 (by decide) (fun _ => ?_) (fun c3 => absurd c3 (by decide))
  refine lv_iconst (v := (0 : Int32)) hx hb dX12_stepOver_43 (by decide) ?_
  refine lv_istore_n (lv' := [(2, .int (0 : Int32)), (1, .int (0 : Int32)), (0, .ref za)]) hx hb dX12_stepOver_44 rfl hl (by decide) rfl (fun ls hl => ?_)
  refine lv_aload_n hx hb dX12_stepOver_45 rfl (lv_at hl 2 rfl) ?_
  refine fb_get X I (k := 0) (v := .ref (zr 0)) fu_X12 0 fb_h12 rfl (Nat.le_of_ble_eq_true rfl) fw_1964 rfl rfl dX12_stepOver_46 ?_
  refine lv_iconst (v := (5 : Int32)) hx hb dX12_stepOver_49 (by decide) ?_
  refine fb_iaC (n := 5) (v := (0 : Int32)) X I 1 0 rfl rfl (by decide) (by decide) (Nat.le_of_ble_eq_true rfl) rfl dX12_stepOver_50 ?_
  refine lv_if_ne (tgt := 80) hx hb dX12_stepOver_51 (by decide) (fun c4 => absurd (by decide) c4) (fun _ => ?_)
  refine lv_aload_n hx hb dX12_stepOver_54 rfl (lv_at hl 2 rfl) ?_
  refine fb_gO (cs := [fb_o12 za zr (upd fr_e0 19 (0 : Int32)), fb_aw cI (zr 0) 16205 (fr_m (fun _ => 0) 0)]) (rs := [fb_aw cI (zr 3) 64 zl, fb_qh D (zr 1) 200 zh, zhs]) X I [0, 1, 2, 3, 4] 5 rfl (by decide +kernel) rfl rfl (fun I => fb_rV (As := []) (rest := []) X hl (fb_goodV fw_2578 fw_2580 fw_179 fw_204 fw_2581) (c_isVectorNext l D cI cJ za zr (upd fr_e0 19 (0 : Int32)) (fr_m (fun _ => 0) 0) _ rfl rfl) rfl rfl rfl (by decide +kernel : fb_hd yX12_isVectorNext 0) ⟨Nat.le_of_ble_eq_true rfl, Nat.le_of_ble_eq_true rfl⟩ rfl rfl rfl rfl rfl (Nat.le_of_ble_eq_true rfl) ⟨Nat.zero_le _, Nat.zero_le _⟩ dX12_stepOver_55 I) ?_
  refine lv_if_ne (tgt := 80) hx hb dX12_stepOver_58 (by decide) (fun c5 => absurd (by decide) c5) (fun _ => ?_)
  refine lv_iload_n hx hb dX12_stepOver_61 rfl (lv_at hl 0 rfl) ?_
  refine lv_if_eq (tgt := 80) hx hb dX12_stepOver_62 (by decide) (fun _ => ?_) (fun c6 => absurd (by decide) c6)
  refine lv_aload_n hx hb dX12_stepOver_80 rfl (lv_at hl 2 rfl) ?_
  refine fb_gI (cs := [fb_o12 za zr (upd fr_e0 19 (0 : Int32)), fb_aw cI (zr 0) 16205 (fr_m (fun _ => 0) 0), fb_aw cI (zr 3) 64 zl, fb_qh D (zr 1) 200 zh, zhs]) (rs := []) (fun (t : fb_AR × fb_AR × fb_AR × (Nat → Option Nat) × va_W) => [fb_o12 za zr (t.1), fb_aw cI (zr 0) 16205 (fr_m (t.2.1) (0 + 1)), fb_aw cI (zr 3) 64 (t.2.2.1), fb_qh D (zr 1) 200 (t.2.2.2.1), (t.2.2.2.2)]) (fun (t : fb_AR × fb_AR × fb_AR × (Nat → Option Nat) × va_W) => [fb_o12 za zr (t.1), fb_aw cI (zr 0) 16205 (fr_m (t.2.1) (0 + 1)), fb_aw cI (zr 3) 64 (t.2.2.1), fb_qh D (zr 1) 200 (t.2.2.2.1), (t.2.2.2.2)]) X I [0, 1, 2, 3, 4] 5 rfl (by decide +kernel) rfl rfl [0, 1, 2, 3, 4] 5 (fun _ => rfl) (by decide +kernel) (fun _ => rfl) (fun _ => rfl) (fun I => fb_rV (As := []) (rest := []) X hl (fb_goodV fw_2402 fw_2404 fw_138 fw_204 fw_2405) (c_oneKept l D cI cJ za zr (upd fr_e0 19 (0 : Int32)) (fun _ => 0) 0 zl zh zhs 0 _ (by omega) rfl (by omega) hh) rfl rfl rfl (by decide +kernel : fb_hd yX12_oneKept 0) ⟨Nat.le_of_ble_eq_true rfl, Nat.le_of_ble_eq_true rfl⟩ rfl rfl rfl rfl rfl (Nat.le_of_ble_eq_true rfl) ⟨Nat.le_of_ble_eq_true rfl, Nat.le_of_ble_eq_true rfl⟩ dX12_stepOver_81 I) ?_
  intro r8 w7 H locs e0 I
  obtain ⟨e9, e0⟩ := e0
  subst e9
  obtain ⟨w7_0, w7_1, w7_2, w7_3, w7_4⟩ := w7
  have p9 : fr_kp (upd fr_e0 19 (0 : Int32)) w7_0 ∧ fr_hok cI w7_3 w7_4 := e0
  have I : fb_In D A s.heap (([fb_o12 za zr w7_0, fb_aw cI (zr 0) 16205 (fr_m w7_1 (0 + 1)), fb_aw cI (zr 3) 64 w7_2, fb_qh D (zr 1) 200 w7_3, w7_4] : List va_W).flatten) H locs := I
  refine lv_istore_n (lv' := [(3, .int (1 : Int32)), (2, .int (0 : Int32)), (1, .int (0 : Int32)), (0, .ref za)]) hx hb dX12_stepOver_84 rfl hl (by decide) rfl (fun ls hl => ?_)
  refine lv_aload_n hx hb dX12_stepOver_85 rfl (lv_at hl 3 rfl) ?_
  refine lv_aload_n hx hb dX12_stepOver_86 rfl (lv_at hl 3 rfl) ?_
  refine fb_gO (cs := [fb_o12 za zr w7_0, fb_aw cI (zr 0) 16205 (fr_m w7_1 (0 + 1))]) (rs := [fb_aw cI (zr 3) 64 w7_2, fb_qh D (zr 1) 200 w7_3, w7_4]) X I [0, 1, 2, 3, 4] 5 rfl (by decide +kernel) rfl rfl (fun I => fb_rV (As := []) (rest := [.ref za]) X hl (fb_goodV fw_2570 fw_2572 fw_177 fw_204 fw_2573) (c_over l D cI cJ za zr w7_0 (fr_m w7_1 (0 + 1)) _ rfl) rfl rfl rfl (by decide +kernel : fb_hd yX12_over 0) ⟨Nat.le_of_ble_eq_true rfl, Nat.le_of_ble_eq_true rfl⟩ rfl rfl rfl rfl rfl (Nat.le_of_ble_eq_true rfl) ⟨Nat.le_of_ble_eq_true rfl, Nat.le_of_ble_eq_true rfl⟩ dX12_stepOver_87 I) ?_
  refine lv_if_le (tgt := 100) hx hb dX12_stepOver_90 (by decide) (fun _ => ?_) (fun c10 => absurd (by decide) c10)
  refine lv_bipush (v := (6 : Int32)) hx hb dX12_stepOver_100 (by decide) ?_
  refine fb_put X I (k := 10) (wn := ([fb_o12 za zr (upd w7_0 10 (6 : Int32)), fb_aw cI (zr 0) 16205 (fr_m w7_1 (0 + 1)), fb_aw cI (zr 3) 64 w7_2, fb_qh D (zr 1) 200 w7_3, w7_4] : List va_W).flatten) fu_X12 tyX12 tyX12_ok nmX12 0 fb_h12 rfl (Nat.le_of_ble_eq_true rfl) fw_1974 rfl rfl rfl rfl rfl (Nat.le_of_ble_eq_true rfl) fb_r12_10 dX12_stepOver_102 (fun H locs I => ?_)
  refine lv_iload_n hx hb dX12_stepOver_105 rfl (lv_at hl 0 rfl) ?_
  refine W.widen (k := 1) (n := 8) (by omega) (by omega) ?_
  exact fb_retI (u := (w7_0, w7_1, w7_2, w7_3, w7_4)) X I rfl rfl dX12_stepOver_106

set_option maxHeartbeats 4000000 in
set_option maxRecDepth 100000 in
theorem c_stepOut (l : Launch) (D : va_G) (cI cJ : ClassId) (za : Nat) (zr : Nat → Nat) (zl : fb_AR) (zh : Nat → Option Nat) (zhs : va_W) (sz : Nat) (hh : fr_hok cI zh zhs) : Met l yX12_stepOut (Cond.code yX12_stepOut cX12_stepOut 1 (some .int) :: fb_all) ({ frames := 15, cells := 5000, slots := 40000, locals := 283 } : Room) (fb_PP D (fb_ty D cI cJ) [.ref za] (([fb_o12 za zr fr_e0, fb_aw cI (zr 0) 16205 (fr_m (fun _ => 0) 0), fb_aw cI (zr 3) 64 zl, fb_qh D (zr 1) 200 zh, zhs] : List va_W).flatten) sz) (fb_QI D (va_A (([fb_o12 za zr fr_e0, fb_aw cI (zr 0) 16205 (fr_m (fun _ => 0) 0), fb_aw cI (zr 3) 64 zl, fb_qh D (zr 1) 200 zh, zhs] : List va_W).flatten) sz) (fun (r : Int32) (_ : fb_AR × fb_AR × fb_AR × (Nat → Option Nat) × va_W) => r = (nI (4999 + 1))) (fun (t : fb_AR × fb_AR × fb_AR × (Nat → Option Nat) × va_W) => ([fb_o12 za zr (upd (t.1) 10 (1 : Int32)), fb_aw cI (zr 0) 16205 (fr_m (t.2.1) ((0 + 4999) + 1)), fb_aw cI (zr 3) 64 (t.2.2.1), fb_qh D (zr 1) 200 (t.2.2.2.1), (t.2.2.2.2)] : List va_W).flatten)) 5000 40000 (va_A (([fb_o12 za zr fr_e0, fb_aw cI (zr 0) 16205 (fr_m (fun _ => 0) 0), fb_aw cI (zr 3) 64 zl, fb_qh D (zr 1) 200 zh, zhs] : List va_W).flatten) sz) := by
  refine fb_ent (Qf := fun A => (fb_QI D A (fun (r : Int32) (_ : fb_AR × fb_AR × fb_AR × (Nat → Option Nat) × va_W) => r = (nI (4999 + 1))) (fun (t : fb_AR × fb_AR × fb_AR × (Nat → Option Nat) × va_W) => ([fb_o12 za zr (upd (t.1) 10 (1 : Int32)), fb_aw cI (zr 0) 16205 (fr_m (t.2.1) ((0 + 4999) + 1)), fb_aw cI (zr 3) 64 (t.2.2.1), fb_qh D (zr 1) 200 (t.2.2.2.1), (t.2.2.2.2)] : List va_W).flatten))) (by decide +kernel) (Nat.le_of_ble_eq_true rfl) ?_
  intro p e s m args below meth c A ls X I hl hin
  obtain ⟨hx, hb, hr, hml, hown, hts, hlk, hA, hK, hF⟩ := id X
  have hl : lv_has ls 1 [(0, .ref za)] := hl
  refine lv_aload_n hx hb dX12_stepOut_0 rfl (lv_at hl 0 rfl) ?_
  refine lv_iconst (v := (0 : Int32)) hx hb dX12_stepOut_1 (by decide) ?_
  refine fb_put X I (k := 19) (wn := ([fb_o12 za zr (upd fr_e0 19 (0 : Int32)), fb_aw cI (zr 0) 16205 (fr_m (fun _ => 0) 0), fb_aw cI (zr 3) 64 zl, fb_qh D (zr 1) 200 zh, zhs] : List va_W).flatten) fu_X12 tyX12 tyX12_ok nmX12 0 fb_h12 rfl (Nat.le_of_ble_eq_true rfl) fw_1983 rfl rfl rfl rfl rfl (Nat.le_of_ble_eq_true rfl) fb_r12_19 dX12_stepOut_2 (fun H locs I => ?_)
  refine lv_aload_n hx hb dX12_stepOut_5 rfl (lv_at hl 0 rfl) ?_
  refine lv_sipush (v := (5000 : Int32)) hx hb dX12_stepOut_6 (by decide) ?_
  refine lv_aload_n hx hb dX12_stepOut_9 rfl (lv_at hl 0 rfl) ?_
  refine fb_get X I (k := 0) (v := .ref (zr 0)) fu_X12 0 fb_h12 rfl (Nat.le_of_ble_eq_true rfl) fw_1964 rfl rfl dX12_stepOut_10 ?_
  refine lv_bipush (v := (20 : Int32)) hx hb dX12_stepOut_13 (by decide) ?_
  refine fb_iaC (n := 20) (v := (0 : Int32)) X I 1 0 rfl rfl (by decide) (by decide) (Nat.le_of_ble_eq_true rfl) rfl dX12_stepOut_15 ?_
  refine lv_iconst (v := (1 : Int32)) hx hb dX12_stepOut_16 (by decide) ?_
  refine lv_isub hx hb dX12_stepOut_17 ?_
  refine fb_tI (v := (-1 : Int32)) (by decide) ?_
  refine fb_gI (cs := [fb_o12 za zr (upd fr_e0 19 (0 : Int32)), fb_aw cI (zr 0) 16205 (fr_m (fun _ => 0) 0), fb_aw cI (zr 3) 64 zl, fb_qh D (zr 1) 200 zh, zhs]) (rs := []) (fun (t : fb_AR × fb_AR × fb_AR × (Nat → Option Nat) × va_W) => [fb_o12 za zr (upd (t.1) 10 (1 : Int32)), fb_aw cI (zr 0) 16205 (fr_m (t.2.1) ((0 + 4999) + 1)), fb_aw cI (zr 3) 64 (t.2.2.1), fb_qh D (zr 1) 200 (t.2.2.2.1), (t.2.2.2.2)]) (fun (t : fb_AR × fb_AR × fb_AR × (Nat → Option Nat) × va_W) => [fb_o12 za zr (upd (t.1) 10 (1 : Int32)), fb_aw cI (zr 0) 16205 (fr_m (t.2.1) ((0 + 4999) + 1)), fb_aw cI (zr 3) 64 (t.2.2.1), fb_qh D (zr 1) 200 (t.2.2.2.1), (t.2.2.2.2)]) X I [0, 1, 2, 3, 4] 5 rfl (by decide +kernel) rfl rfl [0, 1, 2, 3, 4] 5 (fun _ => rfl) (by decide +kernel) (fun _ => rfl) (fun _ => rfl) (fun I => fb_rV (As := [.int (5000 : Int32), .int (-1 : Int32)]) (rest := []) X hl (fb_goodV fw_2566 fw_2568 fw_176 fw_204 fw_2569) (c_go l D cI cJ za zr (upd fr_e0 19 (0 : Int32)) (fun _ => 0) 0 zl zh zhs 0 4999 _ (by omega) (by omega) rfl (by omega) hh rfl) rfl rfl rfl (by decide +kernel : fb_hd yX12_go 2) ⟨Nat.le_of_ble_eq_true rfl, Nat.le_of_ble_eq_true rfl⟩ rfl rfl rfl rfl rfl (Nat.le_of_ble_eq_true rfl) ⟨Nat.le_of_ble_eq_true rfl, Nat.le_of_ble_eq_true rfl⟩ dX12_stepOut_18 I) ?_
  intro r2 w1 H locs e0 I
  obtain ⟨e9, e0⟩ := e0
  subst e9
  obtain ⟨w1_0, w1_1, w1_2, w1_3, w1_4⟩ := w1
  have p3 : (upd w1_0 10 (1 : Int32)) 19 = (upd fr_e0 19 (0 : Int32)) 19 := e0
  have I : fb_In D A s.heap (([fb_o12 za zr (upd w1_0 10 (1 : Int32)), fb_aw cI (zr 0) 16205 (fr_m w1_1 ((0 + 4999) + 1)), fb_aw cI (zr 3) 64 w1_2, fb_qh D (zr 1) 200 w1_3, w1_4] : List va_W).flatten) H locs := I
  refine W.widen (k := 5000) (n := 40000) (by omega) (by omega) ?_
  exact fb_retI (u := (w1_0, w1_1, w1_2, w1_3, w1_4)) X I rfl rfl dX12_stepOut_21

