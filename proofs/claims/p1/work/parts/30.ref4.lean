/-! the reference along a fresh object's road, laid by ref.py -/
/-- the fresh object's numbers -/
def fr_e0 : fb_AR := fun k => if k = 8 then -1 else if k = 28 then -1 else 0
theorem fr_inN {z a b : Nat} (h1 : a ≤ z) (h2 : z ≤ b) (h3 : b < 2 ^ 31) : f_X12_isIn (nI z) (nI a) (nI b) = 1 := by
  unfold f_X12_isIn
  rw [if_neg (nI_nlt (a := z) (b := a) h1 (by omega)), if_neg (nI_nlt (a := b) (b := z) h2 h3)]
theorem fr_inNo (l : Int32) : f_X12_isIn l 0 (-1) = 0 := by
  unfold f_X12_isIn
  by_cases h : l < 0
  · rw [if_pos h]
  · rw [if_neg h, if_pos ?_]
    rw [Int32.lt_iff_toInt_lt] at h ⊢
    rw [Int32.toInt_zero] at h
    rw [show (-1 : Int32).toInt = -1 from rfl]
    omega
theorem fr_nar (b : Bool) : vp_nar .boolean (fb_bI b) = fb_bI b := by cases b <;> rfl

set_option maxHeartbeats 4000000 in
set_option maxRecDepth 100000 in
theorem c_told_a (l : Launch) (D : va_G) (cI cJ : ClassId) (za : Nat) (zr : Nat → Nat) (sz : Nat)  : Met l yX12_told (Cond.code yX12_told cX12_told 2 (some .int) :: fb_all) ({ frames := 1, cells := 0, slots := 0, locals := 30 } : Room) (fb_PP D (fb_ty D cI cJ) [.ref za, .int (0 : Int32)] (([fb_o12 za zr fr_e0, fb_aw cI (zr 0) 16205 (fr_m (fun _ => 0) 0)] : List va_W).flatten) sz) (fb_QI D (va_A (([fb_o12 za zr fr_e0, fb_aw cI (zr 0) 16205 (fr_m (fun _ => 0) 0)] : List va_W).flatten) sz) (fun (r : Int32) (_ : Unit) => r = (0 : Int32)) (fun (t : Unit) => ([fb_o12 za zr (upd fr_e0 19 (0 : Int32)), fb_aw cI (zr 0) 16205 (fr_m (fun _ => 0) 0)] : List va_W).flatten)) 0 0 (va_A (([fb_o12 za zr fr_e0, fb_aw cI (zr 0) 16205 (fr_m (fun _ => 0) 0)] : List va_W).flatten) sz) := by
  refine fb_ent (Qf := fun A => (fb_QI D A (fun (r : Int32) (_ : Unit) => r = (0 : Int32)) (fun (t : Unit) => ([fb_o12 za zr (upd fr_e0 19 (0 : Int32)), fb_aw cI (zr 0) 16205 (fr_m (fun _ => 0) 0)] : List va_W).flatten))) (by decide +kernel) (Nat.le_of_ble_eq_true rfl) ?_
  intro p e s m args below meth c A ls X I hl hin
  obtain ⟨hx, hb, hr, hml, hown, hts, hlk, hA, hK, hF⟩ := id X
  have hl : lv_has ls 2 [(0, .ref za), (1, .int (0 : Int32))] := hl
  refine lv_aload_n hx hb dX12_told_0 rfl (lv_at hl 0 rfl) ?_
  refine lv_iconst (v := (0 : Int32)) hx hb dX12_told_1 (by decide) ?_
  refine fb_put X I (k := 19) (wn := ([fb_o12 za zr (upd fr_e0 19 (0 : Int32)), fb_aw cI (zr 0) 16205 (fr_m (fun _ => 0) 0)] : List va_W).flatten) fu_X12 tyX12 tyX12_ok nmX12 0 fb_h12 rfl (Nat.le_of_ble_eq_true rfl) fw_1983 rfl rfl rfl rfl rfl (Nat.le_of_ble_eq_true rfl) fb_r12_19 dX12_told_2 (fun H locs I => ?_)
  refine lv_aload_n hx hb dX12_told_5 rfl (lv_at hl 0 rfl) ?_
  refine fb_get X I (k := 0) (v := .ref (zr 0)) fu_X12 0 fb_h12 rfl (Nat.le_of_ble_eq_true rfl) fw_1964 rfl rfl dX12_told_6 ?_
  refine lv_iload_n hx hb dX12_told_9 rfl (lv_at hl 1 rfl) ?_
  refine fb_iaC (n := 0) (v := (0 : Int32)) X I 1 0 rfl rfl (by decide) (by decide) (Nat.le_of_ble_eq_true rfl) rfl dX12_told_10 ?_
  exact fb_retI (u := ()) X I rfl rfl dX12_told_11

set_option maxHeartbeats 4000000 in
set_option maxRecDepth 100000 in
theorem c_a (l : Launch) (D : va_G) (cI cJ : ClassId) (za : Nat) (zr : Nat → Nat) (sz : Nat)  : Met l yX12_a (Cond.code yX12_a cX12_a 1 (some .int) :: fb_all) ({ frames := 2, cells := 0, slots := 0, locals := 51 } : Room) (fb_PP D (fb_ty D cI cJ) [.ref za] (([fb_o12 za zr fr_e0, fb_aw cI (zr 0) 16205 (fr_m (fun _ => 0) 0)] : List va_W).flatten) sz) (fb_QI D (va_A (([fb_o12 za zr fr_e0, fb_aw cI (zr 0) 16205 (fr_m (fun _ => 0) 0)] : List va_W).flatten) sz) (fun (r : Int32) (_ : Unit) => r = (0 : Int32)) (fun (t : Unit) => ([fb_o12 za zr (upd fr_e0 19 (0 : Int32)), fb_aw cI (zr 0) 16205 (fr_m (fun _ => 0) 0)] : List va_W).flatten)) 0 0 (va_A (([fb_o12 za zr fr_e0, fb_aw cI (zr 0) 16205 (fr_m (fun _ => 0) 0)] : List va_W).flatten) sz) := by
  refine fb_ent (Qf := fun A => (fb_QI D A (fun (r : Int32) (_ : Unit) => r = (0 : Int32)) (fun (t : Unit) => ([fb_o12 za zr (upd fr_e0 19 (0 : Int32)), fb_aw cI (zr 0) 16205 (fr_m (fun _ => 0) 0)] : List va_W).flatten))) (by decide +kernel) (Nat.le_of_ble_eq_true rfl) ?_
  intro p e s m args below meth c A ls X I hl hin
  obtain ⟨hx, hb, hr, hml, hown, hts, hlk, hA, hK, hF⟩ := id X
  have hl : lv_has ls 1 [(0, .ref za)] := hl
  refine lv_aload_n hx hb dX12_a_0 rfl (lv_at hl 0 rfl) ?_
  refine lv_iconst (v := (0 : Int32)) hx hb dX12_a_1 (by decide) ?_
  refine fb_gI (cs := [fb_o12 za zr fr_e0, fb_aw cI (zr 0) 16205 (fr_m (fun _ => 0) 0)]) (rs := []) (fun (t : Unit) => [fb_o12 za zr (upd fr_e0 19 (0 : Int32)), fb_aw cI (zr 0) 16205 (fr_m (fun _ => 0) 0)]) (fun (t : Unit) => [fb_o12 za zr (upd fr_e0 19 (0 : Int32)), fb_aw cI (zr 0) 16205 (fr_m (fun _ => 0) 0)]) X I [0, 1] 2 rfl (by decide +kernel) rfl rfl [0, 1] 2 (fun _ => rfl) (by decide +kernel) (fun _ => rfl) (fun _ => rfl) (fun I => fb_rV (As := [.int (0 : Int32)]) (rest := []) X hl (fb_goodV fw_2627 fw_2629 fw_181 fw_204 fw_2630) (c_told_a l D cI cJ za zr _ ) rfl rfl rfl (by decide +kernel : fb_hd yX12_told 1) ⟨Nat.le_of_ble_eq_true rfl, Nat.le_of_ble_eq_true rfl⟩ rfl rfl rfl rfl rfl (Nat.le_of_ble_eq_true rfl) ⟨Nat.zero_le _, Nat.zero_le _⟩ dX12_a_2 I) ?_
  intro r2 w1 H locs e0 I
  subst e0
  have I : fb_In D A s.heap (([fb_o12 za zr (upd fr_e0 19 (0 : Int32)), fb_aw cI (zr 0) 16205 (fr_m (fun _ => 0) 0)] : List va_W).flatten) H locs := I
  exact fb_retI (u := ()) X I rfl rfl dX12_a_5

set_option maxHeartbeats 4000000 in
set_option maxRecDepth 100000 in
theorem c_told_x (l : Launch) (D : va_G) (cI cJ : ClassId) (za : Nat) (zr : Nat → Nat) (sz : Nat)  : Met l yX12_told (Cond.code yX12_told cX12_told 2 (some .int) :: fb_all) ({ frames := 1, cells := 0, slots := 0, locals := 30 } : Room) (fb_PP D (fb_ty D cI cJ) [.ref za, .int (1 : Int32)] (([fb_o12 za zr fr_e0, fb_aw cI (zr 0) 16205 (fr_m (fun _ => 0) 0)] : List va_W).flatten) sz) (fb_QI D (va_A (([fb_o12 za zr fr_e0, fb_aw cI (zr 0) 16205 (fr_m (fun _ => 0) 0)] : List va_W).flatten) sz) (fun (r : Int32) (_ : Unit) => r = (0 : Int32)) (fun (t : Unit) => ([fb_o12 za zr (upd fr_e0 19 (0 : Int32)), fb_aw cI (zr 0) 16205 (fr_m (fun _ => 0) 0)] : List va_W).flatten)) 0 0 (va_A (([fb_o12 za zr fr_e0, fb_aw cI (zr 0) 16205 (fr_m (fun _ => 0) 0)] : List va_W).flatten) sz) := by
  refine fb_ent (Qf := fun A => (fb_QI D A (fun (r : Int32) (_ : Unit) => r = (0 : Int32)) (fun (t : Unit) => ([fb_o12 za zr (upd fr_e0 19 (0 : Int32)), fb_aw cI (zr 0) 16205 (fr_m (fun _ => 0) 0)] : List va_W).flatten))) (by decide +kernel) (Nat.le_of_ble_eq_true rfl) ?_
  intro p e s m args below meth c A ls X I hl hin
  obtain ⟨hx, hb, hr, hml, hown, hts, hlk, hA, hK, hF⟩ := id X
  have hl : lv_has ls 2 [(0, .ref za), (1, .int (1 : Int32))] := hl
  refine lv_aload_n hx hb dX12_told_0 rfl (lv_at hl 0 rfl) ?_
  refine lv_iconst (v := (0 : Int32)) hx hb dX12_told_1 (by decide) ?_
  refine fb_put X I (k := 19) (wn := ([fb_o12 za zr (upd fr_e0 19 (0 : Int32)), fb_aw cI (zr 0) 16205 (fr_m (fun _ => 0) 0)] : List va_W).flatten) fu_X12 tyX12 tyX12_ok nmX12 0 fb_h12 rfl (Nat.le_of_ble_eq_true rfl) fw_1983 rfl rfl rfl rfl rfl (Nat.le_of_ble_eq_true rfl) fb_r12_19 dX12_told_2 (fun H locs I => ?_)
  refine lv_aload_n hx hb dX12_told_5 rfl (lv_at hl 0 rfl) ?_
  refine fb_get X I (k := 0) (v := .ref (zr 0)) fu_X12 0 fb_h12 rfl (Nat.le_of_ble_eq_true rfl) fw_1964 rfl rfl dX12_told_6 ?_
  refine lv_iload_n hx hb dX12_told_9 rfl (lv_at hl 1 rfl) ?_
  refine fb_iaC (n := 1) (v := (0 : Int32)) X I 1 0 rfl rfl (by decide) (by decide) (Nat.le_of_ble_eq_true rfl) rfl dX12_told_10 ?_
  exact fb_retI (u := ()) X I rfl rfl dX12_told_11

set_option maxHeartbeats 4000000 in
set_option maxRecDepth 100000 in
theorem c_x (l : Launch) (D : va_G) (cI cJ : ClassId) (za : Nat) (zr : Nat → Nat) (sz : Nat)  : Met l yX12_x (Cond.code yX12_x cX12_x 1 (some .int) :: fb_all) ({ frames := 2, cells := 0, slots := 0, locals := 51 } : Room) (fb_PP D (fb_ty D cI cJ) [.ref za] (([fb_o12 za zr fr_e0, fb_aw cI (zr 0) 16205 (fr_m (fun _ => 0) 0)] : List va_W).flatten) sz) (fb_QI D (va_A (([fb_o12 za zr fr_e0, fb_aw cI (zr 0) 16205 (fr_m (fun _ => 0) 0)] : List va_W).flatten) sz) (fun (r : Int32) (_ : Unit) => r = (0 : Int32)) (fun (t : Unit) => ([fb_o12 za zr (upd fr_e0 19 (0 : Int32)), fb_aw cI (zr 0) 16205 (fr_m (fun _ => 0) 0)] : List va_W).flatten)) 0 0 (va_A (([fb_o12 za zr fr_e0, fb_aw cI (zr 0) 16205 (fr_m (fun _ => 0) 0)] : List va_W).flatten) sz) := by
  refine fb_ent (Qf := fun A => (fb_QI D A (fun (r : Int32) (_ : Unit) => r = (0 : Int32)) (fun (t : Unit) => ([fb_o12 za zr (upd fr_e0 19 (0 : Int32)), fb_aw cI (zr 0) 16205 (fr_m (fun _ => 0) 0)] : List va_W).flatten))) (by decide +kernel) (Nat.le_of_ble_eq_true rfl) ?_
  intro p e s m args below meth c A ls X I hl hin
  obtain ⟨hx, hb, hr, hml, hown, hts, hlk, hA, hK, hF⟩ := id X
  have hl : lv_has ls 1 [(0, .ref za)] := hl
  refine lv_aload_n hx hb dX12_x_0 rfl (lv_at hl 0 rfl) ?_
  refine lv_iconst (v := (1 : Int32)) hx hb dX12_x_1 (by decide) ?_
  refine fb_gI (cs := [fb_o12 za zr fr_e0, fb_aw cI (zr 0) 16205 (fr_m (fun _ => 0) 0)]) (rs := []) (fun (t : Unit) => [fb_o12 za zr (upd fr_e0 19 (0 : Int32)), fb_aw cI (zr 0) 16205 (fr_m (fun _ => 0) 0)]) (fun (t : Unit) => [fb_o12 za zr (upd fr_e0 19 (0 : Int32)), fb_aw cI (zr 0) 16205 (fr_m (fun _ => 0) 0)]) X I [0, 1] 2 rfl (by decide +kernel) rfl rfl [0, 1] 2 (fun _ => rfl) (by decide +kernel) (fun _ => rfl) (fun _ => rfl) (fun I => fb_rV (As := [.int (1 : Int32)]) (rest := []) X hl (fb_goodV fw_2627 fw_2629 fw_181 fw_204 fw_2630) (c_told_x l D cI cJ za zr _ ) rfl rfl rfl (by decide +kernel : fb_hd yX12_told 1) ⟨Nat.le_of_ble_eq_true rfl, Nat.le_of_ble_eq_true rfl⟩ rfl rfl rfl rfl rfl (Nat.le_of_ble_eq_true rfl) ⟨Nat.zero_le _, Nat.zero_le _⟩ dX12_x_2 I) ?_
  intro r2 w1 H locs e0 I
  subst e0
  have I : fb_In D A s.heap (([fb_o12 za zr (upd fr_e0 19 (0 : Int32)), fb_aw cI (zr 0) 16205 (fr_m (fun _ => 0) 0)] : List va_W).flatten) H locs := I
  exact fb_retI (u := ()) X I rfl rfl dX12_x_5

set_option maxHeartbeats 4000000 in
set_option maxRecDepth 100000 in
theorem c_told_s (l : Launch) (D : va_G) (cI cJ : ClassId) (za : Nat) (zr : Nat → Nat) (sz : Nat)  : Met l yX12_told (Cond.code yX12_told cX12_told 2 (some .int) :: fb_all) ({ frames := 1, cells := 0, slots := 0, locals := 30 } : Room) (fb_PP D (fb_ty D cI cJ) [.ref za, .int (2 : Int32)] (([fb_o12 za zr fr_e0, fb_aw cI (zr 0) 16205 (fr_m (fun _ => 0) 0)] : List va_W).flatten) sz) (fb_QI D (va_A (([fb_o12 za zr fr_e0, fb_aw cI (zr 0) 16205 (fr_m (fun _ => 0) 0)] : List va_W).flatten) sz) (fun (r : Int32) (_ : Unit) => r = (255 : Int32)) (fun (t : Unit) => ([fb_o12 za zr (upd fr_e0 19 (0 : Int32)), fb_aw cI (zr 0) 16205 (fr_m (fun _ => 0) 0)] : List va_W).flatten)) 0 0 (va_A (([fb_o12 za zr fr_e0, fb_aw cI (zr 0) 16205 (fr_m (fun _ => 0) 0)] : List va_W).flatten) sz) := by
  refine fb_ent (Qf := fun A => (fb_QI D A (fun (r : Int32) (_ : Unit) => r = (255 : Int32)) (fun (t : Unit) => ([fb_o12 za zr (upd fr_e0 19 (0 : Int32)), fb_aw cI (zr 0) 16205 (fr_m (fun _ => 0) 0)] : List va_W).flatten))) (by decide +kernel) (Nat.le_of_ble_eq_true rfl) ?_
  intro p e s m args below meth c A ls X I hl hin
  obtain ⟨hx, hb, hr, hml, hown, hts, hlk, hA, hK, hF⟩ := id X
  have hl : lv_has ls 2 [(0, .ref za), (1, .int (2 : Int32))] := hl
  refine lv_aload_n hx hb dX12_told_0 rfl (lv_at hl 0 rfl) ?_
  refine lv_iconst (v := (0 : Int32)) hx hb dX12_told_1 (by decide) ?_
  refine fb_put X I (k := 19) (wn := ([fb_o12 za zr (upd fr_e0 19 (0 : Int32)), fb_aw cI (zr 0) 16205 (fr_m (fun _ => 0) 0)] : List va_W).flatten) fu_X12 tyX12 tyX12_ok nmX12 0 fb_h12 rfl (Nat.le_of_ble_eq_true rfl) fw_1983 rfl rfl rfl rfl rfl (Nat.le_of_ble_eq_true rfl) fb_r12_19 dX12_told_2 (fun H locs I => ?_)
  refine lv_aload_n hx hb dX12_told_5 rfl (lv_at hl 0 rfl) ?_
  refine fb_get X I (k := 0) (v := .ref (zr 0)) fu_X12 0 fb_h12 rfl (Nat.le_of_ble_eq_true rfl) fw_1964 rfl rfl dX12_told_6 ?_
  refine lv_iload_n hx hb dX12_told_9 rfl (lv_at hl 1 rfl) ?_
  refine fb_iaC (n := 2) (v := (255 : Int32)) X I 1 0 rfl rfl (by decide) (by decide) (Nat.le_of_ble_eq_true rfl) rfl dX12_told_10 ?_
  exact fb_retI (u := ()) X I rfl rfl dX12_told_11

set_option maxHeartbeats 4000000 in
set_option maxRecDepth 100000 in
theorem c_s (l : Launch) (D : va_G) (cI cJ : ClassId) (za : Nat) (zr : Nat → Nat) (sz : Nat)  : Met l yX12_s (Cond.code yX12_s cX12_s 1 (some .int) :: fb_all) ({ frames := 2, cells := 0, slots := 0, locals := 51 } : Room) (fb_PP D (fb_ty D cI cJ) [.ref za] (([fb_o12 za zr fr_e0, fb_aw cI (zr 0) 16205 (fr_m (fun _ => 0) 0)] : List va_W).flatten) sz) (fb_QI D (va_A (([fb_o12 za zr fr_e0, fb_aw cI (zr 0) 16205 (fr_m (fun _ => 0) 0)] : List va_W).flatten) sz) (fun (r : Int32) (_ : Unit) => r = (255 : Int32)) (fun (t : Unit) => ([fb_o12 za zr (upd fr_e0 19 (0 : Int32)), fb_aw cI (zr 0) 16205 (fr_m (fun _ => 0) 0)] : List va_W).flatten)) 0 0 (va_A (([fb_o12 za zr fr_e0, fb_aw cI (zr 0) 16205 (fr_m (fun _ => 0) 0)] : List va_W).flatten) sz) := by
  refine fb_ent (Qf := fun A => (fb_QI D A (fun (r : Int32) (_ : Unit) => r = (255 : Int32)) (fun (t : Unit) => ([fb_o12 za zr (upd fr_e0 19 (0 : Int32)), fb_aw cI (zr 0) 16205 (fr_m (fun _ => 0) 0)] : List va_W).flatten))) (by decide +kernel) (Nat.le_of_ble_eq_true rfl) ?_
  intro p e s m args below meth c A ls X I hl hin
  obtain ⟨hx, hb, hr, hml, hown, hts, hlk, hA, hK, hF⟩ := id X
  have hl : lv_has ls 1 [(0, .ref za)] := hl
  refine lv_aload_n hx hb dX12_s_0 rfl (lv_at hl 0 rfl) ?_
  refine lv_iconst (v := (2 : Int32)) hx hb dX12_s_1 (by decide) ?_
  refine fb_gI (cs := [fb_o12 za zr fr_e0, fb_aw cI (zr 0) 16205 (fr_m (fun _ => 0) 0)]) (rs := []) (fun (t : Unit) => [fb_o12 za zr (upd fr_e0 19 (0 : Int32)), fb_aw cI (zr 0) 16205 (fr_m (fun _ => 0) 0)]) (fun (t : Unit) => [fb_o12 za zr (upd fr_e0 19 (0 : Int32)), fb_aw cI (zr 0) 16205 (fr_m (fun _ => 0) 0)]) X I [0, 1] 2 rfl (by decide +kernel) rfl rfl [0, 1] 2 (fun _ => rfl) (by decide +kernel) (fun _ => rfl) (fun _ => rfl) (fun I => fb_rV (As := [.int (2 : Int32)]) (rest := []) X hl (fb_goodV fw_2627 fw_2629 fw_181 fw_204 fw_2630) (c_told_s l D cI cJ za zr _ ) rfl rfl rfl (by decide +kernel : fb_hd yX12_told 1) ⟨Nat.le_of_ble_eq_true rfl, Nat.le_of_ble_eq_true rfl⟩ rfl rfl rfl rfl rfl (Nat.le_of_ble_eq_true rfl) ⟨Nat.zero_le _, Nat.zero_le _⟩ dX12_s_2 I) ?_
  intro r2 w1 H locs e0 I
  subst e0
  have I : fb_In D A s.heap (([fb_o12 za zr (upd fr_e0 19 (0 : Int32)), fb_aw cI (zr 0) 16205 (fr_m (fun _ => 0) 0)] : List va_W).flatten) H locs := I
  exact fb_retI (u := ()) X I rfl rfl dX12_s_5

set_option maxHeartbeats 4000000 in
set_option maxRecDepth 100000 in
theorem c_told_flags (l : Launch) (D : va_G) (cI cJ : ClassId) (za : Nat) (zr : Nat → Nat) (sz : Nat)  : Met l yX12_told (Cond.code yX12_told cX12_told 2 (some .int) :: fb_all) ({ frames := 1, cells := 0, slots := 0, locals := 30 } : Room) (fb_PP D (fb_ty D cI cJ) [.ref za, .int (3 : Int32)] (([fb_o12 za zr fr_e0, fb_aw cI (zr 0) 16205 (fr_m (fun _ => 0) 0)] : List va_W).flatten) sz) (fb_QI D (va_A (([fb_o12 za zr fr_e0, fb_aw cI (zr 0) 16205 (fr_m (fun _ => 0) 0)] : List va_W).flatten) sz) (fun (r : Int32) (_ : Unit) => r = (4 : Int32)) (fun (t : Unit) => ([fb_o12 za zr (upd fr_e0 19 (0 : Int32)), fb_aw cI (zr 0) 16205 (fr_m (fun _ => 0) 0)] : List va_W).flatten)) 0 0 (va_A (([fb_o12 za zr fr_e0, fb_aw cI (zr 0) 16205 (fr_m (fun _ => 0) 0)] : List va_W).flatten) sz) := by
  refine fb_ent (Qf := fun A => (fb_QI D A (fun (r : Int32) (_ : Unit) => r = (4 : Int32)) (fun (t : Unit) => ([fb_o12 za zr (upd fr_e0 19 (0 : Int32)), fb_aw cI (zr 0) 16205 (fr_m (fun _ => 0) 0)] : List va_W).flatten))) (by decide +kernel) (Nat.le_of_ble_eq_true rfl) ?_
  intro p e s m args below meth c A ls X I hl hin
  obtain ⟨hx, hb, hr, hml, hown, hts, hlk, hA, hK, hF⟩ := id X
  have hl : lv_has ls 2 [(0, .ref za), (1, .int (3 : Int32))] := hl
  refine lv_aload_n hx hb dX12_told_0 rfl (lv_at hl 0 rfl) ?_
  refine lv_iconst (v := (0 : Int32)) hx hb dX12_told_1 (by decide) ?_
  refine fb_put X I (k := 19) (wn := ([fb_o12 za zr (upd fr_e0 19 (0 : Int32)), fb_aw cI (zr 0) 16205 (fr_m (fun _ => 0) 0)] : List va_W).flatten) fu_X12 tyX12 tyX12_ok nmX12 0 fb_h12 rfl (Nat.le_of_ble_eq_true rfl) fw_1983 rfl rfl rfl rfl rfl (Nat.le_of_ble_eq_true rfl) fb_r12_19 dX12_told_2 (fun H locs I => ?_)
  refine lv_aload_n hx hb dX12_told_5 rfl (lv_at hl 0 rfl) ?_
  refine fb_get X I (k := 0) (v := .ref (zr 0)) fu_X12 0 fb_h12 rfl (Nat.le_of_ble_eq_true rfl) fw_1964 rfl rfl dX12_told_6 ?_
  refine lv_iload_n hx hb dX12_told_9 rfl (lv_at hl 1 rfl) ?_
  refine fb_iaC (n := 3) (v := (4 : Int32)) X I 1 0 rfl rfl (by decide) (by decide) (Nat.le_of_ble_eq_true rfl) rfl dX12_told_10 ?_
  exact fb_retI (u := ()) X I rfl rfl dX12_told_11

set_option maxHeartbeats 4000000 in
set_option maxRecDepth 100000 in
theorem c_flags (l : Launch) (D : va_G) (cI cJ : ClassId) (za : Nat) (zr : Nat → Nat) (sz : Nat)  : Met l yX12_flags (Cond.code yX12_flags cX12_flags 1 (some .int) :: fb_all) ({ frames := 2, cells := 0, slots := 0, locals := 51 } : Room) (fb_PP D (fb_ty D cI cJ) [.ref za] (([fb_o12 za zr fr_e0, fb_aw cI (zr 0) 16205 (fr_m (fun _ => 0) 0)] : List va_W).flatten) sz) (fb_QI D (va_A (([fb_o12 za zr fr_e0, fb_aw cI (zr 0) 16205 (fr_m (fun _ => 0) 0)] : List va_W).flatten) sz) (fun (r : Int32) (_ : Unit) => r = (4 : Int32)) (fun (t : Unit) => ([fb_o12 za zr (upd fr_e0 19 (0 : Int32)), fb_aw cI (zr 0) 16205 (fr_m (fun _ => 0) 0)] : List va_W).flatten)) 0 0 (va_A (([fb_o12 za zr fr_e0, fb_aw cI (zr 0) 16205 (fr_m (fun _ => 0) 0)] : List va_W).flatten) sz) := by
  refine fb_ent (Qf := fun A => (fb_QI D A (fun (r : Int32) (_ : Unit) => r = (4 : Int32)) (fun (t : Unit) => ([fb_o12 za zr (upd fr_e0 19 (0 : Int32)), fb_aw cI (zr 0) 16205 (fr_m (fun _ => 0) 0)] : List va_W).flatten))) (by decide +kernel) (Nat.le_of_ble_eq_true rfl) ?_
  intro p e s m args below meth c A ls X I hl hin
  obtain ⟨hx, hb, hr, hml, hown, hts, hlk, hA, hK, hF⟩ := id X
  have hl : lv_has ls 1 [(0, .ref za)] := hl
  refine lv_aload_n hx hb dX12_flags_0 rfl (lv_at hl 0 rfl) ?_
  refine lv_iconst (v := (3 : Int32)) hx hb dX12_flags_1 (by decide) ?_
  refine fb_gI (cs := [fb_o12 za zr fr_e0, fb_aw cI (zr 0) 16205 (fr_m (fun _ => 0) 0)]) (rs := []) (fun (t : Unit) => [fb_o12 za zr (upd fr_e0 19 (0 : Int32)), fb_aw cI (zr 0) 16205 (fr_m (fun _ => 0) 0)]) (fun (t : Unit) => [fb_o12 za zr (upd fr_e0 19 (0 : Int32)), fb_aw cI (zr 0) 16205 (fr_m (fun _ => 0) 0)]) X I [0, 1] 2 rfl (by decide +kernel) rfl rfl [0, 1] 2 (fun _ => rfl) (by decide +kernel) (fun _ => rfl) (fun _ => rfl) (fun I => fb_rV (As := [.int (3 : Int32)]) (rest := []) X hl (fb_goodV fw_2627 fw_2629 fw_181 fw_204 fw_2630) (c_told_flags l D cI cJ za zr _ ) rfl rfl rfl (by decide +kernel : fb_hd yX12_told 1) ⟨Nat.le_of_ble_eq_true rfl, Nat.le_of_ble_eq_true rfl⟩ rfl rfl rfl rfl rfl (Nat.le_of_ble_eq_true rfl) ⟨Nat.zero_le _, Nat.zero_le _⟩ dX12_flags_2 I) ?_
  intro r2 w1 H locs e0 I
  subst e0
  have I : fb_In D A s.heap (([fb_o12 za zr (upd fr_e0 19 (0 : Int32)), fb_aw cI (zr 0) 16205 (fr_m (fun _ => 0) 0)] : List va_W).flatten) H locs := I
  exact fb_retI (u := ()) X I rfl rfl dX12_flags_5

set_option maxHeartbeats 4000000 in
set_option maxRecDepth 100000 in
theorem c_told_pc (l : Launch) (D : va_G) (cI cJ : ClassId) (za : Nat) (zr : Nat → Nat) (sz : Nat)  : Met l yX12_told (Cond.code yX12_told cX12_told 2 (some .int) :: fb_all) ({ frames := 1, cells := 0, slots := 0, locals := 30 } : Room) (fb_PP D (fb_ty D cI cJ) [.ref za, .int (4 : Int32)] (([fb_o12 za zr fr_e0, fb_aw cI (zr 0) 16205 (fr_m (fun _ => 0) 0)] : List va_W).flatten) sz) (fb_QI D (va_A (([fb_o12 za zr fr_e0, fb_aw cI (zr 0) 16205 (fr_m (fun _ => 0) 0)] : List va_W).flatten) sz) (fun (r : Int32) (_ : Unit) => r = (0 : Int32)) (fun (t : Unit) => ([fb_o12 za zr (upd fr_e0 19 (0 : Int32)), fb_aw cI (zr 0) 16205 (fr_m (fun _ => 0) 0)] : List va_W).flatten)) 0 0 (va_A (([fb_o12 za zr fr_e0, fb_aw cI (zr 0) 16205 (fr_m (fun _ => 0) 0)] : List va_W).flatten) sz) := by
  refine fb_ent (Qf := fun A => (fb_QI D A (fun (r : Int32) (_ : Unit) => r = (0 : Int32)) (fun (t : Unit) => ([fb_o12 za zr (upd fr_e0 19 (0 : Int32)), fb_aw cI (zr 0) 16205 (fr_m (fun _ => 0) 0)] : List va_W).flatten))) (by decide +kernel) (Nat.le_of_ble_eq_true rfl) ?_
  intro p e s m args below meth c A ls X I hl hin
  obtain ⟨hx, hb, hr, hml, hown, hts, hlk, hA, hK, hF⟩ := id X
  have hl : lv_has ls 2 [(0, .ref za), (1, .int (4 : Int32))] := hl
  refine lv_aload_n hx hb dX12_told_0 rfl (lv_at hl 0 rfl) ?_
  refine lv_iconst (v := (0 : Int32)) hx hb dX12_told_1 (by decide) ?_
  refine fb_put X I (k := 19) (wn := ([fb_o12 za zr (upd fr_e0 19 (0 : Int32)), fb_aw cI (zr 0) 16205 (fr_m (fun _ => 0) 0)] : List va_W).flatten) fu_X12 tyX12 tyX12_ok nmX12 0 fb_h12 rfl (Nat.le_of_ble_eq_true rfl) fw_1983 rfl rfl rfl rfl rfl (Nat.le_of_ble_eq_true rfl) fb_r12_19 dX12_told_2 (fun H locs I => ?_)
  refine lv_aload_n hx hb dX12_told_5 rfl (lv_at hl 0 rfl) ?_
  refine fb_get X I (k := 0) (v := .ref (zr 0)) fu_X12 0 fb_h12 rfl (Nat.le_of_ble_eq_true rfl) fw_1964 rfl rfl dX12_told_6 ?_
  refine lv_iload_n hx hb dX12_told_9 rfl (lv_at hl 1 rfl) ?_
  refine fb_iaC (n := 4) (v := (0 : Int32)) X I 1 0 rfl rfl (by decide) (by decide) (Nat.le_of_ble_eq_true rfl) rfl dX12_told_10 ?_
  exact fb_retI (u := ()) X I rfl rfl dX12_told_11

set_option maxHeartbeats 4000000 in
set_option maxRecDepth 100000 in
theorem c_pc (l : Launch) (D : va_G) (cI cJ : ClassId) (za : Nat) (zr : Nat → Nat) (sz : Nat)  : Met l yX12_pc (Cond.code yX12_pc cX12_pc 1 (some .int) :: fb_all) ({ frames := 2, cells := 0, slots := 0, locals := 51 } : Room) (fb_PP D (fb_ty D cI cJ) [.ref za] (([fb_o12 za zr fr_e0, fb_aw cI (zr 0) 16205 (fr_m (fun _ => 0) 0)] : List va_W).flatten) sz) (fb_QI D (va_A (([fb_o12 za zr fr_e0, fb_aw cI (zr 0) 16205 (fr_m (fun _ => 0) 0)] : List va_W).flatten) sz) (fun (r : Int32) (_ : Unit) => r = (0 : Int32)) (fun (t : Unit) => ([fb_o12 za zr (upd fr_e0 19 (0 : Int32)), fb_aw cI (zr 0) 16205 (fr_m (fun _ => 0) 0)] : List va_W).flatten)) 0 0 (va_A (([fb_o12 za zr fr_e0, fb_aw cI (zr 0) 16205 (fr_m (fun _ => 0) 0)] : List va_W).flatten) sz) := by
  refine fb_ent (Qf := fun A => (fb_QI D A (fun (r : Int32) (_ : Unit) => r = (0 : Int32)) (fun (t : Unit) => ([fb_o12 za zr (upd fr_e0 19 (0 : Int32)), fb_aw cI (zr 0) 16205 (fr_m (fun _ => 0) 0)] : List va_W).flatten))) (by decide +kernel) (Nat.le_of_ble_eq_true rfl) ?_
  intro p e s m args below meth c A ls X I hl hin
  obtain ⟨hx, hb, hr, hml, hown, hts, hlk, hA, hK, hF⟩ := id X
  have hl : lv_has ls 1 [(0, .ref za)] := hl
  refine lv_aload_n hx hb dX12_pc_0 rfl (lv_at hl 0 rfl) ?_
  refine lv_iconst (v := (4 : Int32)) hx hb dX12_pc_1 (by decide) ?_
  refine fb_gI (cs := [fb_o12 za zr fr_e0, fb_aw cI (zr 0) 16205 (fr_m (fun _ => 0) 0)]) (rs := []) (fun (t : Unit) => [fb_o12 za zr (upd fr_e0 19 (0 : Int32)), fb_aw cI (zr 0) 16205 (fr_m (fun _ => 0) 0)]) (fun (t : Unit) => [fb_o12 za zr (upd fr_e0 19 (0 : Int32)), fb_aw cI (zr 0) 16205 (fr_m (fun _ => 0) 0)]) X I [0, 1] 2 rfl (by decide +kernel) rfl rfl [0, 1] 2 (fun _ => rfl) (by decide +kernel) (fun _ => rfl) (fun _ => rfl) (fun I => fb_rV (As := [.int (4 : Int32)]) (rest := []) X hl (fb_goodV fw_2627 fw_2629 fw_181 fw_204 fw_2630) (c_told_pc l D cI cJ za zr _ ) rfl rfl rfl (by decide +kernel : fb_hd yX12_told 1) ⟨Nat.le_of_ble_eq_true rfl, Nat.le_of_ble_eq_true rfl⟩ rfl rfl rfl rfl rfl (Nat.le_of_ble_eq_true rfl) ⟨Nat.zero_le _, Nat.zero_le _⟩ dX12_pc_2 I) ?_
  intro r2 w1 H locs e0 I
  subst e0
  have I : fb_In D A s.heap (([fb_o12 za zr (upd fr_e0 19 (0 : Int32)), fb_aw cI (zr 0) 16205 (fr_m (fun _ => 0) 0)] : List va_W).flatten) H locs := I
  exact fb_retI (u := ()) X I rfl rfl dX12_pc_5

set_option maxHeartbeats 4000000 in
set_option maxRecDepth 100000 in
theorem c_told_state (l : Launch) (D : va_G) (cI cJ : ClassId) (za : Nat) (zr : Nat → Nat) (sz : Nat)  : Met l yX12_told (Cond.code yX12_told cX12_told 2 (some .int) :: fb_all) ({ frames := 1, cells := 0, slots := 0, locals := 30 } : Room) (fb_PP D (fb_ty D cI cJ) [.ref za, .int (5 : Int32)] (([fb_o12 za zr fr_e0, fb_aw cI (zr 0) 16205 (fr_m (fun _ => 0) 0)] : List va_W).flatten) sz) (fb_QI D (va_A (([fb_o12 za zr fr_e0, fb_aw cI (zr 0) 16205 (fr_m (fun _ => 0) 0)] : List va_W).flatten) sz) (fun (r : Int32) (_ : Unit) => r = (0 : Int32)) (fun (t : Unit) => ([fb_o12 za zr (upd fr_e0 19 (0 : Int32)), fb_aw cI (zr 0) 16205 (fr_m (fun _ => 0) 0)] : List va_W).flatten)) 0 0 (va_A (([fb_o12 za zr fr_e0, fb_aw cI (zr 0) 16205 (fr_m (fun _ => 0) 0)] : List va_W).flatten) sz) := by
  refine fb_ent (Qf := fun A => (fb_QI D A (fun (r : Int32) (_ : Unit) => r = (0 : Int32)) (fun (t : Unit) => ([fb_o12 za zr (upd fr_e0 19 (0 : Int32)), fb_aw cI (zr 0) 16205 (fr_m (fun _ => 0) 0)] : List va_W).flatten))) (by decide +kernel) (Nat.le_of_ble_eq_true rfl) ?_
  intro p e s m args below meth c A ls X I hl hin
  obtain ⟨hx, hb, hr, hml, hown, hts, hlk, hA, hK, hF⟩ := id X
  have hl : lv_has ls 2 [(0, .ref za), (1, .int (5 : Int32))] := hl
  refine lv_aload_n hx hb dX12_told_0 rfl (lv_at hl 0 rfl) ?_
  refine lv_iconst (v := (0 : Int32)) hx hb dX12_told_1 (by decide) ?_
  refine fb_put X I (k := 19) (wn := ([fb_o12 za zr (upd fr_e0 19 (0 : Int32)), fb_aw cI (zr 0) 16205 (fr_m (fun _ => 0) 0)] : List va_W).flatten) fu_X12 tyX12 tyX12_ok nmX12 0 fb_h12 rfl (Nat.le_of_ble_eq_true rfl) fw_1983 rfl rfl rfl rfl rfl (Nat.le_of_ble_eq_true rfl) fb_r12_19 dX12_told_2 (fun H locs I => ?_)
  refine lv_aload_n hx hb dX12_told_5 rfl (lv_at hl 0 rfl) ?_
  refine fb_get X I (k := 0) (v := .ref (zr 0)) fu_X12 0 fb_h12 rfl (Nat.le_of_ble_eq_true rfl) fw_1964 rfl rfl dX12_told_6 ?_
  refine lv_iload_n hx hb dX12_told_9 rfl (lv_at hl 1 rfl) ?_
  refine fb_iaC (n := 5) (v := (0 : Int32)) X I 1 0 rfl rfl (by decide) (by decide) (Nat.le_of_ble_eq_true rfl) rfl dX12_told_10 ?_
  exact fb_retI (u := ()) X I rfl rfl dX12_told_11

set_option maxHeartbeats 4000000 in
set_option maxRecDepth 100000 in
theorem c_state (l : Launch) (D : va_G) (cI cJ : ClassId) (za : Nat) (zr : Nat → Nat) (sz : Nat)  : Met l yX12_state (Cond.code yX12_state cX12_state 1 (some .int) :: fb_all) ({ frames := 2, cells := 0, slots := 0, locals := 51 } : Room) (fb_PP D (fb_ty D cI cJ) [.ref za] (([fb_o12 za zr fr_e0, fb_aw cI (zr 0) 16205 (fr_m (fun _ => 0) 0)] : List va_W).flatten) sz) (fb_QI D (va_A (([fb_o12 za zr fr_e0, fb_aw cI (zr 0) 16205 (fr_m (fun _ => 0) 0)] : List va_W).flatten) sz) (fun (r : Int32) (_ : Unit) => r = (0 : Int32)) (fun (t : Unit) => ([fb_o12 za zr (upd fr_e0 19 (0 : Int32)), fb_aw cI (zr 0) 16205 (fr_m (fun _ => 0) 0)] : List va_W).flatten)) 0 0 (va_A (([fb_o12 za zr fr_e0, fb_aw cI (zr 0) 16205 (fr_m (fun _ => 0) 0)] : List va_W).flatten) sz) := by
  refine fb_ent (Qf := fun A => (fb_QI D A (fun (r : Int32) (_ : Unit) => r = (0 : Int32)) (fun (t : Unit) => ([fb_o12 za zr (upd fr_e0 19 (0 : Int32)), fb_aw cI (zr 0) 16205 (fr_m (fun _ => 0) 0)] : List va_W).flatten))) (by decide +kernel) (Nat.le_of_ble_eq_true rfl) ?_
  intro p e s m args below meth c A ls X I hl hin
  obtain ⟨hx, hb, hr, hml, hown, hts, hlk, hA, hK, hF⟩ := id X
  have hl : lv_has ls 1 [(0, .ref za)] := hl
  refine lv_aload_n hx hb dX12_state_0 rfl (lv_at hl 0 rfl) ?_
  refine lv_iconst (v := (5 : Int32)) hx hb dX12_state_1 (by decide) ?_
  refine fb_gI (cs := [fb_o12 za zr fr_e0, fb_aw cI (zr 0) 16205 (fr_m (fun _ => 0) 0)]) (rs := []) (fun (t : Unit) => [fb_o12 za zr (upd fr_e0 19 (0 : Int32)), fb_aw cI (zr 0) 16205 (fr_m (fun _ => 0) 0)]) (fun (t : Unit) => [fb_o12 za zr (upd fr_e0 19 (0 : Int32)), fb_aw cI (zr 0) 16205 (fr_m (fun _ => 0) 0)]) X I [0, 1] 2 rfl (by decide +kernel) rfl rfl [0, 1] 2 (fun _ => rfl) (by decide +kernel) (fun _ => rfl) (fun _ => rfl) (fun I => fb_rV (As := [.int (5 : Int32)]) (rest := []) X hl (fb_goodV fw_2627 fw_2629 fw_181 fw_204 fw_2630) (c_told_state l D cI cJ za zr _ ) rfl rfl rfl (by decide +kernel : fb_hd yX12_told 1) ⟨Nat.le_of_ble_eq_true rfl, Nat.le_of_ble_eq_true rfl⟩ rfl rfl rfl rfl rfl (Nat.le_of_ble_eq_true rfl) ⟨Nat.zero_le _, Nat.zero_le _⟩ dX12_state_2 I) ?_
  intro r2 w1 H locs e0 I
  subst e0
  have I : fb_In D A s.heap (([fb_o12 za zr (upd fr_e0 19 (0 : Int32)), fb_aw cI (zr 0) 16205 (fr_m (fun _ => 0) 0)] : List va_W).flatten) H locs := I
  exact fb_retI (u := ()) X I rfl rfl dX12_state_5

set_option maxHeartbeats 4000000 in
set_option maxRecDepth 100000 in
theorem c_told_cycles (l : Launch) (D : va_G) (cI cJ : ClassId) (za : Nat) (zr : Nat → Nat) (sz : Nat)  : Met l yX12_told (Cond.code yX12_told cX12_told 2 (some .int) :: fb_all) ({ frames := 1, cells := 0, slots := 0, locals := 30 } : Room) (fb_PP D (fb_ty D cI cJ) [.ref za, .int (7 : Int32)] (([fb_o12 za zr fr_e0, fb_aw cI (zr 0) 16205 (fr_m (fun _ => 0) 0)] : List va_W).flatten) sz) (fb_QI D (va_A (([fb_o12 za zr fr_e0, fb_aw cI (zr 0) 16205 (fr_m (fun _ => 0) 0)] : List va_W).flatten) sz) (fun (r : Int32) (_ : Unit) => r = (0 : Int32)) (fun (t : Unit) => ([fb_o12 za zr (upd fr_e0 19 (0 : Int32)), fb_aw cI (zr 0) 16205 (fr_m (fun _ => 0) 0)] : List va_W).flatten)) 0 0 (va_A (([fb_o12 za zr fr_e0, fb_aw cI (zr 0) 16205 (fr_m (fun _ => 0) 0)] : List va_W).flatten) sz) := by
  refine fb_ent (Qf := fun A => (fb_QI D A (fun (r : Int32) (_ : Unit) => r = (0 : Int32)) (fun (t : Unit) => ([fb_o12 za zr (upd fr_e0 19 (0 : Int32)), fb_aw cI (zr 0) 16205 (fr_m (fun _ => 0) 0)] : List va_W).flatten))) (by decide +kernel) (Nat.le_of_ble_eq_true rfl) ?_
  intro p e s m args below meth c A ls X I hl hin
  obtain ⟨hx, hb, hr, hml, hown, hts, hlk, hA, hK, hF⟩ := id X
  have hl : lv_has ls 2 [(0, .ref za), (1, .int (7 : Int32))] := hl
  refine lv_aload_n hx hb dX12_told_0 rfl (lv_at hl 0 rfl) ?_
  refine lv_iconst (v := (0 : Int32)) hx hb dX12_told_1 (by decide) ?_
  refine fb_put X I (k := 19) (wn := ([fb_o12 za zr (upd fr_e0 19 (0 : Int32)), fb_aw cI (zr 0) 16205 (fr_m (fun _ => 0) 0)] : List va_W).flatten) fu_X12 tyX12 tyX12_ok nmX12 0 fb_h12 rfl (Nat.le_of_ble_eq_true rfl) fw_1983 rfl rfl rfl rfl rfl (Nat.le_of_ble_eq_true rfl) fb_r12_19 dX12_told_2 (fun H locs I => ?_)
  refine lv_aload_n hx hb dX12_told_5 rfl (lv_at hl 0 rfl) ?_
  refine fb_get X I (k := 0) (v := .ref (zr 0)) fu_X12 0 fb_h12 rfl (Nat.le_of_ble_eq_true rfl) fw_1964 rfl rfl dX12_told_6 ?_
  refine lv_iload_n hx hb dX12_told_9 rfl (lv_at hl 1 rfl) ?_
  refine fb_iaC (n := 7) (v := (0 : Int32)) X I 1 0 rfl rfl (by decide) (by decide) (Nat.le_of_ble_eq_true rfl) rfl dX12_told_10 ?_
  exact fb_retI (u := ()) X I rfl rfl dX12_told_11

set_option maxHeartbeats 4000000 in
set_option maxRecDepth 100000 in
theorem c_cycles (l : Launch) (D : va_G) (cI cJ : ClassId) (za : Nat) (zr : Nat → Nat) (sz : Nat)  : Met l yX12_cycles (Cond.code yX12_cycles cX12_cycles 1 (some .int) :: fb_all) ({ frames := 2, cells := 0, slots := 0, locals := 51 } : Room) (fb_PP D (fb_ty D cI cJ) [.ref za] (([fb_o12 za zr fr_e0, fb_aw cI (zr 0) 16205 (fr_m (fun _ => 0) 0)] : List va_W).flatten) sz) (fb_QI D (va_A (([fb_o12 za zr fr_e0, fb_aw cI (zr 0) 16205 (fr_m (fun _ => 0) 0)] : List va_W).flatten) sz) (fun (r : Int32) (_ : Unit) => r = (0 : Int32)) (fun (t : Unit) => ([fb_o12 za zr (upd fr_e0 19 (0 : Int32)), fb_aw cI (zr 0) 16205 (fr_m (fun _ => 0) 0)] : List va_W).flatten)) 0 0 (va_A (([fb_o12 za zr fr_e0, fb_aw cI (zr 0) 16205 (fr_m (fun _ => 0) 0)] : List va_W).flatten) sz) := by
  refine fb_ent (Qf := fun A => (fb_QI D A (fun (r : Int32) (_ : Unit) => r = (0 : Int32)) (fun (t : Unit) => ([fb_o12 za zr (upd fr_e0 19 (0 : Int32)), fb_aw cI (zr 0) 16205 (fr_m (fun _ => 0) 0)] : List va_W).flatten))) (by decide +kernel) (Nat.le_of_ble_eq_true rfl) ?_
  intro p e s m args below meth c A ls X I hl hin
  obtain ⟨hx, hb, hr, hml, hown, hts, hlk, hA, hK, hF⟩ := id X
  have hl : lv_has ls 1 [(0, .ref za)] := hl
  refine lv_aload_n hx hb dX12_cycles_0 rfl (lv_at hl 0 rfl) ?_
  refine lv_bipush (v := (7 : Int32)) hx hb dX12_cycles_1 (by decide) ?_
  refine fb_gI (cs := [fb_o12 za zr fr_e0, fb_aw cI (zr 0) 16205 (fr_m (fun _ => 0) 0)]) (rs := []) (fun (t : Unit) => [fb_o12 za zr (upd fr_e0 19 (0 : Int32)), fb_aw cI (zr 0) 16205 (fr_m (fun _ => 0) 0)]) (fun (t : Unit) => [fb_o12 za zr (upd fr_e0 19 (0 : Int32)), fb_aw cI (zr 0) 16205 (fr_m (fun _ => 0) 0)]) X I [0, 1] 2 rfl (by decide +kernel) rfl rfl [0, 1] 2 (fun _ => rfl) (by decide +kernel) (fun _ => rfl) (fun _ => rfl) (fun I => fb_rV (As := [.int (7 : Int32)]) (rest := []) X hl (fb_goodV fw_2627 fw_2629 fw_181 fw_204 fw_2630) (c_told_cycles l D cI cJ za zr _ ) rfl rfl rfl (by decide +kernel : fb_hd yX12_told 1) ⟨Nat.le_of_ble_eq_true rfl, Nat.le_of_ble_eq_true rfl⟩ rfl rfl rfl rfl rfl (Nat.le_of_ble_eq_true rfl) ⟨Nat.zero_le _, Nat.zero_le _⟩ dX12_cycles_3 I) ?_
  intro r2 w1 H locs e0 I
  subst e0
  have I : fb_In D A s.heap (([fb_o12 za zr (upd fr_e0 19 (0 : Int32)), fb_aw cI (zr 0) 16205 (fr_m (fun _ => 0) 0)] : List va_W).flatten) H locs := I
  exact fb_retI (u := ()) X I rfl rfl dX12_cycles_6

set_option maxHeartbeats 4000000 in
set_option maxRecDepth 100000 in
theorem c_told_instructions (l : Launch) (D : va_G) (cI cJ : ClassId) (za : Nat) (zr : Nat → Nat) (sz : Nat)  : Met l yX12_told (Cond.code yX12_told cX12_told 2 (some .int) :: fb_all) ({ frames := 1, cells := 0, slots := 0, locals := 30 } : Room) (fb_PP D (fb_ty D cI cJ) [.ref za, .int (8 : Int32)] (([fb_o12 za zr fr_e0, fb_aw cI (zr 0) 16205 (fr_m (fun _ => 0) 0)] : List va_W).flatten) sz) (fb_QI D (va_A (([fb_o12 za zr fr_e0, fb_aw cI (zr 0) 16205 (fr_m (fun _ => 0) 0)] : List va_W).flatten) sz) (fun (r : Int32) (_ : Unit) => r = (0 : Int32)) (fun (t : Unit) => ([fb_o12 za zr (upd fr_e0 19 (0 : Int32)), fb_aw cI (zr 0) 16205 (fr_m (fun _ => 0) 0)] : List va_W).flatten)) 0 0 (va_A (([fb_o12 za zr fr_e0, fb_aw cI (zr 0) 16205 (fr_m (fun _ => 0) 0)] : List va_W).flatten) sz) := by
  refine fb_ent (Qf := fun A => (fb_QI D A (fun (r : Int32) (_ : Unit) => r = (0 : Int32)) (fun (t : Unit) => ([fb_o12 za zr (upd fr_e0 19 (0 : Int32)), fb_aw cI (zr 0) 16205 (fr_m (fun _ => 0) 0)] : List va_W).flatten))) (by decide +kernel) (Nat.le_of_ble_eq_true rfl) ?_
  intro p e s m args below meth c A ls X I hl hin
  obtain ⟨hx, hb, hr, hml, hown, hts, hlk, hA, hK, hF⟩ := id X
  have hl : lv_has ls 2 [(0, .ref za), (1, .int (8 : Int32))] := hl
  refine lv_aload_n hx hb dX12_told_0 rfl (lv_at hl 0 rfl) ?_
  refine lv_iconst (v := (0 : Int32)) hx hb dX12_told_1 (by decide) ?_
  refine fb_put X I (k := 19) (wn := ([fb_o12 za zr (upd fr_e0 19 (0 : Int32)), fb_aw cI (zr 0) 16205 (fr_m (fun _ => 0) 0)] : List va_W).flatten) fu_X12 tyX12 tyX12_ok nmX12 0 fb_h12 rfl (Nat.le_of_ble_eq_true rfl) fw_1983 rfl rfl rfl rfl rfl (Nat.le_of_ble_eq_true rfl) fb_r12_19 dX12_told_2 (fun H locs I => ?_)
  refine lv_aload_n hx hb dX12_told_5 rfl (lv_at hl 0 rfl) ?_
  refine fb_get X I (k := 0) (v := .ref (zr 0)) fu_X12 0 fb_h12 rfl (Nat.le_of_ble_eq_true rfl) fw_1964 rfl rfl dX12_told_6 ?_
  refine lv_iload_n hx hb dX12_told_9 rfl (lv_at hl 1 rfl) ?_
  refine fb_iaC (n := 8) (v := (0 : Int32)) X I 1 0 rfl rfl (by decide) (by decide) (Nat.le_of_ble_eq_true rfl) rfl dX12_told_10 ?_
  exact fb_retI (u := ()) X I rfl rfl dX12_told_11

set_option maxHeartbeats 4000000 in
set_option maxRecDepth 100000 in
theorem c_instructions (l : Launch) (D : va_G) (cI cJ : ClassId) (za : Nat) (zr : Nat → Nat) (sz : Nat)  : Met l yX12_instructions (Cond.code yX12_instructions cX12_instructions 1 (some .int) :: fb_all) ({ frames := 2, cells := 0, slots := 0, locals := 51 } : Room) (fb_PP D (fb_ty D cI cJ) [.ref za] (([fb_o12 za zr fr_e0, fb_aw cI (zr 0) 16205 (fr_m (fun _ => 0) 0)] : List va_W).flatten) sz) (fb_QI D (va_A (([fb_o12 za zr fr_e0, fb_aw cI (zr 0) 16205 (fr_m (fun _ => 0) 0)] : List va_W).flatten) sz) (fun (r : Int32) (_ : Unit) => r = (0 : Int32)) (fun (t : Unit) => ([fb_o12 za zr (upd fr_e0 19 (0 : Int32)), fb_aw cI (zr 0) 16205 (fr_m (fun _ => 0) 0)] : List va_W).flatten)) 0 0 (va_A (([fb_o12 za zr fr_e0, fb_aw cI (zr 0) 16205 (fr_m (fun _ => 0) 0)] : List va_W).flatten) sz) := by
  refine fb_ent (Qf := fun A => (fb_QI D A (fun (r : Int32) (_ : Unit) => r = (0 : Int32)) (fun (t : Unit) => ([fb_o12 za zr (upd fr_e0 19 (0 : Int32)), fb_aw cI (zr 0) 16205 (fr_m (fun _ => 0) 0)] : List va_W).flatten))) (by decide +kernel) (Nat.le_of_ble_eq_true rfl) ?_
  intro p e s m args below meth c A ls X I hl hin
  obtain ⟨hx, hb, hr, hml, hown, hts, hlk, hA, hK, hF⟩ := id X
  have hl : lv_has ls 1 [(0, .ref za)] := hl
  refine lv_aload_n hx hb dX12_instructions_0 rfl (lv_at hl 0 rfl) ?_
  refine lv_bipush (v := (8 : Int32)) hx hb dX12_instructions_1 (by decide) ?_
  refine fb_gI (cs := [fb_o12 za zr fr_e0, fb_aw cI (zr 0) 16205 (fr_m (fun _ => 0) 0)]) (rs := []) (fun (t : Unit) => [fb_o12 za zr (upd fr_e0 19 (0 : Int32)), fb_aw cI (zr 0) 16205 (fr_m (fun _ => 0) 0)]) (fun (t : Unit) => [fb_o12 za zr (upd fr_e0 19 (0 : Int32)), fb_aw cI (zr 0) 16205 (fr_m (fun _ => 0) 0)]) X I [0, 1] 2 rfl (by decide +kernel) rfl rfl [0, 1] 2 (fun _ => rfl) (by decide +kernel) (fun _ => rfl) (fun _ => rfl) (fun I => fb_rV (As := [.int (8 : Int32)]) (rest := []) X hl (fb_goodV fw_2627 fw_2629 fw_181 fw_204 fw_2630) (c_told_instructions l D cI cJ za zr _ ) rfl rfl rfl (by decide +kernel : fb_hd yX12_told 1) ⟨Nat.le_of_ble_eq_true rfl, Nat.le_of_ble_eq_true rfl⟩ rfl rfl rfl rfl rfl (Nat.le_of_ble_eq_true rfl) ⟨Nat.zero_le _, Nat.zero_le _⟩ dX12_instructions_3 I) ?_
  intro r2 w1 H locs e0 I
  subst e0
  have I : fb_In D A s.heap (([fb_o12 za zr (upd fr_e0 19 (0 : Int32)), fb_aw cI (zr 0) 16205 (fr_m (fun _ => 0) 0)] : List va_W).flatten) H locs := I
  exact fb_retI (u := ()) X I rfl rfl dX12_instructions_6

set_option maxHeartbeats 4000000 in
set_option maxRecDepth 100000 in
theorem c_told_bank (l : Launch) (D : va_G) (cI cJ : ClassId) (za : Nat) (zr : Nat → Nat) (sz : Nat)  : Met l yX12_told (Cond.code yX12_told cX12_told 2 (some .int) :: fb_all) ({ frames := 1, cells := 0, slots := 0, locals := 30 } : Room) (fb_PP D (fb_ty D cI cJ) [.ref za, .int (9 : Int32)] (([fb_o12 za zr fr_e0, fb_aw cI (zr 0) 16205 (fr_m (fun _ => 0) 0)] : List va_W).flatten) sz) (fb_QI D (va_A (([fb_o12 za zr fr_e0, fb_aw cI (zr 0) 16205 (fr_m (fun _ => 0) 0)] : List va_W).flatten) sz) (fun (r : Int32) (_ : Unit) => r = (0 : Int32)) (fun (t : Unit) => ([fb_o12 za zr (upd fr_e0 19 (0 : Int32)), fb_aw cI (zr 0) 16205 (fr_m (fun _ => 0) 0)] : List va_W).flatten)) 0 0 (va_A (([fb_o12 za zr fr_e0, fb_aw cI (zr 0) 16205 (fr_m (fun _ => 0) 0)] : List va_W).flatten) sz) := by
  refine fb_ent (Qf := fun A => (fb_QI D A (fun (r : Int32) (_ : Unit) => r = (0 : Int32)) (fun (t : Unit) => ([fb_o12 za zr (upd fr_e0 19 (0 : Int32)), fb_aw cI (zr 0) 16205 (fr_m (fun _ => 0) 0)] : List va_W).flatten))) (by decide +kernel) (Nat.le_of_ble_eq_true rfl) ?_
  intro p e s m args below meth c A ls X I hl hin
  obtain ⟨hx, hb, hr, hml, hown, hts, hlk, hA, hK, hF⟩ := id X
  have hl : lv_has ls 2 [(0, .ref za), (1, .int (9 : Int32))] := hl
  refine lv_aload_n hx hb dX12_told_0 rfl (lv_at hl 0 rfl) ?_
  refine lv_iconst (v := (0 : Int32)) hx hb dX12_told_1 (by decide) ?_
  refine fb_put X I (k := 19) (wn := ([fb_o12 za zr (upd fr_e0 19 (0 : Int32)), fb_aw cI (zr 0) 16205 (fr_m (fun _ => 0) 0)] : List va_W).flatten) fu_X12 tyX12 tyX12_ok nmX12 0 fb_h12 rfl (Nat.le_of_ble_eq_true rfl) fw_1983 rfl rfl rfl rfl rfl (Nat.le_of_ble_eq_true rfl) fb_r12_19 dX12_told_2 (fun H locs I => ?_)
  refine lv_aload_n hx hb dX12_told_5 rfl (lv_at hl 0 rfl) ?_
  refine fb_get X I (k := 0) (v := .ref (zr 0)) fu_X12 0 fb_h12 rfl (Nat.le_of_ble_eq_true rfl) fw_1964 rfl rfl dX12_told_6 ?_
  refine lv_iload_n hx hb dX12_told_9 rfl (lv_at hl 1 rfl) ?_
  refine fb_iaC (n := 9) (v := (0 : Int32)) X I 1 0 rfl rfl (by decide) (by decide) (Nat.le_of_ble_eq_true rfl) rfl dX12_told_10 ?_
  exact fb_retI (u := ()) X I rfl rfl dX12_told_11

set_option maxHeartbeats 4000000 in
set_option maxRecDepth 100000 in
theorem c_bank (l : Launch) (D : va_G) (cI cJ : ClassId) (za : Nat) (zr : Nat → Nat) (sz : Nat)  : Met l yX12_bank (Cond.code yX12_bank cX12_bank 1 (some .int) :: fb_all) ({ frames := 2, cells := 0, slots := 0, locals := 51 } : Room) (fb_PP D (fb_ty D cI cJ) [.ref za] (([fb_o12 za zr fr_e0, fb_aw cI (zr 0) 16205 (fr_m (fun _ => 0) 0)] : List va_W).flatten) sz) (fb_QI D (va_A (([fb_o12 za zr fr_e0, fb_aw cI (zr 0) 16205 (fr_m (fun _ => 0) 0)] : List va_W).flatten) sz) (fun (r : Int32) (_ : Unit) => r = (0 : Int32)) (fun (t : Unit) => ([fb_o12 za zr (upd fr_e0 19 (0 : Int32)), fb_aw cI (zr 0) 16205 (fr_m (fun _ => 0) 0)] : List va_W).flatten)) 0 0 (va_A (([fb_o12 za zr fr_e0, fb_aw cI (zr 0) 16205 (fr_m (fun _ => 0) 0)] : List va_W).flatten) sz) := by
  refine fb_ent (Qf := fun A => (fb_QI D A (fun (r : Int32) (_ : Unit) => r = (0 : Int32)) (fun (t : Unit) => ([fb_o12 za zr (upd fr_e0 19 (0 : Int32)), fb_aw cI (zr 0) 16205 (fr_m (fun _ => 0) 0)] : List va_W).flatten))) (by decide +kernel) (Nat.le_of_ble_eq_true rfl) ?_
  intro p e s m args below meth c A ls X I hl hin
  obtain ⟨hx, hb, hr, hml, hown, hts, hlk, hA, hK, hF⟩ := id X
  have hl : lv_has ls 1 [(0, .ref za)] := hl
  refine lv_aload_n hx hb dX12_bank_0 rfl (lv_at hl 0 rfl) ?_
  refine lv_bipush (v := (9 : Int32)) hx hb dX12_bank_1 (by decide) ?_
  refine fb_gI (cs := [fb_o12 za zr fr_e0, fb_aw cI (zr 0) 16205 (fr_m (fun _ => 0) 0)]) (rs := []) (fun (t : Unit) => [fb_o12 za zr (upd fr_e0 19 (0 : Int32)), fb_aw cI (zr 0) 16205 (fr_m (fun _ => 0) 0)]) (fun (t : Unit) => [fb_o12 za zr (upd fr_e0 19 (0 : Int32)), fb_aw cI (zr 0) 16205 (fr_m (fun _ => 0) 0)]) X I [0, 1] 2 rfl (by decide +kernel) rfl rfl [0, 1] 2 (fun _ => rfl) (by decide +kernel) (fun _ => rfl) (fun _ => rfl) (fun I => fb_rV (As := [.int (9 : Int32)]) (rest := []) X hl (fb_goodV fw_2627 fw_2629 fw_181 fw_204 fw_2630) (c_told_bank l D cI cJ za zr _ ) rfl rfl rfl (by decide +kernel : fb_hd yX12_told 1) ⟨Nat.le_of_ble_eq_true rfl, Nat.le_of_ble_eq_true rfl⟩ rfl rfl rfl rfl rfl (Nat.le_of_ble_eq_true rfl) ⟨Nat.zero_le _, Nat.zero_le _⟩ dX12_bank_3 I) ?_
  intro r2 w1 H locs e0 I
  subst e0
  have I : fb_In D A s.heap (([fb_o12 za zr (upd fr_e0 19 (0 : Int32)), fb_aw cI (zr 0) 16205 (fr_m (fun _ => 0) 0)] : List va_W).flatten) H locs := I
  exact fb_retI (u := ()) X I rfl rfl dX12_bank_6

set_option maxHeartbeats 4000000 in
set_option maxRecDepth 100000 in
theorem c_told_mask (l : Launch) (D : va_G) (cI cJ : ClassId) (za : Nat) (zr : Nat → Nat) (sz : Nat)  : Met l yX12_told (Cond.code yX12_told cX12_told 2 (some .int) :: fb_all) ({ frames := 1, cells := 0, slots := 0, locals := 30 } : Room) (fb_PP D (fb_ty D cI cJ) [.ref za, .int (10 : Int32)] (([fb_o12 za zr fr_e0, fb_aw cI (zr 0) 16205 (fr_m (fun _ => 0) 0)] : List va_W).flatten) sz) (fb_QI D (va_A (([fb_o12 za zr fr_e0, fb_aw cI (zr 0) 16205 (fr_m (fun _ => 0) 0)] : List va_W).flatten) sz) (fun (r : Int32) (_ : Unit) => r = (0 : Int32)) (fun (t : Unit) => ([fb_o12 za zr (upd fr_e0 19 (0 : Int32)), fb_aw cI (zr 0) 16205 (fr_m (fun _ => 0) 0)] : List va_W).flatten)) 0 0 (va_A (([fb_o12 za zr fr_e0, fb_aw cI (zr 0) 16205 (fr_m (fun _ => 0) 0)] : List va_W).flatten) sz) := by
  refine fb_ent (Qf := fun A => (fb_QI D A (fun (r : Int32) (_ : Unit) => r = (0 : Int32)) (fun (t : Unit) => ([fb_o12 za zr (upd fr_e0 19 (0 : Int32)), fb_aw cI (zr 0) 16205 (fr_m (fun _ => 0) 0)] : List va_W).flatten))) (by decide +kernel) (Nat.le_of_ble_eq_true rfl) ?_
  intro p e s m args below meth c A ls X I hl hin
  obtain ⟨hx, hb, hr, hml, hown, hts, hlk, hA, hK, hF⟩ := id X
  have hl : lv_has ls 2 [(0, .ref za), (1, .int (10 : Int32))] := hl
  refine lv_aload_n hx hb dX12_told_0 rfl (lv_at hl 0 rfl) ?_
  refine lv_iconst (v := (0 : Int32)) hx hb dX12_told_1 (by decide) ?_
  refine fb_put X I (k := 19) (wn := ([fb_o12 za zr (upd fr_e0 19 (0 : Int32)), fb_aw cI (zr 0) 16205 (fr_m (fun _ => 0) 0)] : List va_W).flatten) fu_X12 tyX12 tyX12_ok nmX12 0 fb_h12 rfl (Nat.le_of_ble_eq_true rfl) fw_1983 rfl rfl rfl rfl rfl (Nat.le_of_ble_eq_true rfl) fb_r12_19 dX12_told_2 (fun H locs I => ?_)
  refine lv_aload_n hx hb dX12_told_5 rfl (lv_at hl 0 rfl) ?_
  refine fb_get X I (k := 0) (v := .ref (zr 0)) fu_X12 0 fb_h12 rfl (Nat.le_of_ble_eq_true rfl) fw_1964 rfl rfl dX12_told_6 ?_
  refine lv_iload_n hx hb dX12_told_9 rfl (lv_at hl 1 rfl) ?_
  refine fb_iaC (n := 10) (v := (0 : Int32)) X I 1 0 rfl rfl (by decide) (by decide) (Nat.le_of_ble_eq_true rfl) rfl dX12_told_10 ?_
  exact fb_retI (u := ()) X I rfl rfl dX12_told_11

set_option maxHeartbeats 4000000 in
set_option maxRecDepth 100000 in
theorem c_mask (l : Launch) (D : va_G) (cI cJ : ClassId) (za : Nat) (zr : Nat → Nat) (sz : Nat)  : Met l yX12_mask (Cond.code yX12_mask cX12_mask 1 (some .int) :: fb_all) ({ frames := 2, cells := 0, slots := 0, locals := 51 } : Room) (fb_PP D (fb_ty D cI cJ) [.ref za] (([fb_o12 za zr fr_e0, fb_aw cI (zr 0) 16205 (fr_m (fun _ => 0) 0)] : List va_W).flatten) sz) (fb_QI D (va_A (([fb_o12 za zr fr_e0, fb_aw cI (zr 0) 16205 (fr_m (fun _ => 0) 0)] : List va_W).flatten) sz) (fun (r : Int32) (_ : Unit) => r = (0 : Int32)) (fun (t : Unit) => ([fb_o12 za zr (upd fr_e0 19 (0 : Int32)), fb_aw cI (zr 0) 16205 (fr_m (fun _ => 0) 0)] : List va_W).flatten)) 0 0 (va_A (([fb_o12 za zr fr_e0, fb_aw cI (zr 0) 16205 (fr_m (fun _ => 0) 0)] : List va_W).flatten) sz) := by
  refine fb_ent (Qf := fun A => (fb_QI D A (fun (r : Int32) (_ : Unit) => r = (0 : Int32)) (fun (t : Unit) => ([fb_o12 za zr (upd fr_e0 19 (0 : Int32)), fb_aw cI (zr 0) 16205 (fr_m (fun _ => 0) 0)] : List va_W).flatten))) (by decide +kernel) (Nat.le_of_ble_eq_true rfl) ?_
  intro p e s m args below meth c A ls X I hl hin
  obtain ⟨hx, hb, hr, hml, hown, hts, hlk, hA, hK, hF⟩ := id X
  have hl : lv_has ls 1 [(0, .ref za)] := hl
  refine lv_aload_n hx hb dX12_mask_0 rfl (lv_at hl 0 rfl) ?_
  refine lv_bipush (v := (10 : Int32)) hx hb dX12_mask_1 (by decide) ?_
  refine fb_gI (cs := [fb_o12 za zr fr_e0, fb_aw cI (zr 0) 16205 (fr_m (fun _ => 0) 0)]) (rs := []) (fun (t : Unit) => [fb_o12 za zr (upd fr_e0 19 (0 : Int32)), fb_aw cI (zr 0) 16205 (fr_m (fun _ => 0) 0)]) (fun (t : Unit) => [fb_o12 za zr (upd fr_e0 19 (0 : Int32)), fb_aw cI (zr 0) 16205 (fr_m (fun _ => 0) 0)]) X I [0, 1] 2 rfl (by decide +kernel) rfl rfl [0, 1] 2 (fun _ => rfl) (by decide +kernel) (fun _ => rfl) (fun _ => rfl) (fun I => fb_rV (As := [.int (10 : Int32)]) (rest := []) X hl (fb_goodV fw_2627 fw_2629 fw_181 fw_204 fw_2630) (c_told_mask l D cI cJ za zr _ ) rfl rfl rfl (by decide +kernel : fb_hd yX12_told 1) ⟨Nat.le_of_ble_eq_true rfl, Nat.le_of_ble_eq_true rfl⟩ rfl rfl rfl rfl rfl (Nat.le_of_ble_eq_true rfl) ⟨Nat.zero_le _, Nat.zero_le _⟩ dX12_mask_3 I) ?_
  intro r2 w1 H locs e0 I
  subst e0
  have I : fb_In D A s.heap (([fb_o12 za zr (upd fr_e0 19 (0 : Int32)), fb_aw cI (zr 0) 16205 (fr_m (fun _ => 0) 0)] : List va_W).flatten) H locs := I
  exact fb_retI (u := ()) X I rfl rfl dX12_mask_6

set_option maxHeartbeats 4000000 in
set_option maxRecDepth 100000 in
theorem c_told_pending (l : Launch) (D : va_G) (cI cJ : ClassId) (za : Nat) (zr : Nat → Nat) (sz : Nat)  : Met l yX12_told (Cond.code yX12_told cX12_told 2 (some .int) :: fb_all) ({ frames := 1, cells := 0, slots := 0, locals := 30 } : Room) (fb_PP D (fb_ty D cI cJ) [.ref za, .int (11 : Int32)] (([fb_o12 za zr fr_e0, fb_aw cI (zr 0) 16205 (fr_m (fun _ => 0) 0)] : List va_W).flatten) sz) (fb_QI D (va_A (([fb_o12 za zr fr_e0, fb_aw cI (zr 0) 16205 (fr_m (fun _ => 0) 0)] : List va_W).flatten) sz) (fun (r : Int32) (_ : Unit) => r = (0 : Int32)) (fun (t : Unit) => ([fb_o12 za zr (upd fr_e0 19 (0 : Int32)), fb_aw cI (zr 0) 16205 (fr_m (fun _ => 0) 0)] : List va_W).flatten)) 0 0 (va_A (([fb_o12 za zr fr_e0, fb_aw cI (zr 0) 16205 (fr_m (fun _ => 0) 0)] : List va_W).flatten) sz) := by
  refine fb_ent (Qf := fun A => (fb_QI D A (fun (r : Int32) (_ : Unit) => r = (0 : Int32)) (fun (t : Unit) => ([fb_o12 za zr (upd fr_e0 19 (0 : Int32)), fb_aw cI (zr 0) 16205 (fr_m (fun _ => 0) 0)] : List va_W).flatten))) (by decide +kernel) (Nat.le_of_ble_eq_true rfl) ?_
  intro p e s m args below meth c A ls X I hl hin
  obtain ⟨hx, hb, hr, hml, hown, hts, hlk, hA, hK, hF⟩ := id X
  have hl : lv_has ls 2 [(0, .ref za), (1, .int (11 : Int32))] := hl
  refine lv_aload_n hx hb dX12_told_0 rfl (lv_at hl 0 rfl) ?_
  refine lv_iconst (v := (0 : Int32)) hx hb dX12_told_1 (by decide) ?_
  refine fb_put X I (k := 19) (wn := ([fb_o12 za zr (upd fr_e0 19 (0 : Int32)), fb_aw cI (zr 0) 16205 (fr_m (fun _ => 0) 0)] : List va_W).flatten) fu_X12 tyX12 tyX12_ok nmX12 0 fb_h12 rfl (Nat.le_of_ble_eq_true rfl) fw_1983 rfl rfl rfl rfl rfl (Nat.le_of_ble_eq_true rfl) fb_r12_19 dX12_told_2 (fun H locs I => ?_)
  refine lv_aload_n hx hb dX12_told_5 rfl (lv_at hl 0 rfl) ?_
  refine fb_get X I (k := 0) (v := .ref (zr 0)) fu_X12 0 fb_h12 rfl (Nat.le_of_ble_eq_true rfl) fw_1964 rfl rfl dX12_told_6 ?_
  refine lv_iload_n hx hb dX12_told_9 rfl (lv_at hl 1 rfl) ?_
  refine fb_iaC (n := 11) (v := (0 : Int32)) X I 1 0 rfl rfl (by decide) (by decide) (Nat.le_of_ble_eq_true rfl) rfl dX12_told_10 ?_
  exact fb_retI (u := ()) X I rfl rfl dX12_told_11

set_option maxHeartbeats 4000000 in
set_option maxRecDepth 100000 in
theorem c_pending (l : Launch) (D : va_G) (cI cJ : ClassId) (za : Nat) (zr : Nat → Nat) (sz : Nat)  : Met l yX12_pending (Cond.code yX12_pending cX12_pending 1 (some .int) :: fb_all) ({ frames := 2, cells := 0, slots := 0, locals := 51 } : Room) (fb_PP D (fb_ty D cI cJ) [.ref za] (([fb_o12 za zr fr_e0, fb_aw cI (zr 0) 16205 (fr_m (fun _ => 0) 0)] : List va_W).flatten) sz) (fb_QI D (va_A (([fb_o12 za zr fr_e0, fb_aw cI (zr 0) 16205 (fr_m (fun _ => 0) 0)] : List va_W).flatten) sz) (fun (r : Int32) (_ : Unit) => r = (0 : Int32)) (fun (t : Unit) => ([fb_o12 za zr (upd fr_e0 19 (0 : Int32)), fb_aw cI (zr 0) 16205 (fr_m (fun _ => 0) 0)] : List va_W).flatten)) 0 0 (va_A (([fb_o12 za zr fr_e0, fb_aw cI (zr 0) 16205 (fr_m (fun _ => 0) 0)] : List va_W).flatten) sz) := by
  refine fb_ent (Qf := fun A => (fb_QI D A (fun (r : Int32) (_ : Unit) => r = (0 : Int32)) (fun (t : Unit) => ([fb_o12 za zr (upd fr_e0 19 (0 : Int32)), fb_aw cI (zr 0) 16205 (fr_m (fun _ => 0) 0)] : List va_W).flatten))) (by decide +kernel) (Nat.le_of_ble_eq_true rfl) ?_
  intro p e s m args below meth c A ls X I hl hin
  obtain ⟨hx, hb, hr, hml, hown, hts, hlk, hA, hK, hF⟩ := id X
  have hl : lv_has ls 1 [(0, .ref za)] := hl
  refine lv_aload_n hx hb dX12_pending_0 rfl (lv_at hl 0 rfl) ?_
  refine lv_bipush (v := (11 : Int32)) hx hb dX12_pending_1 (by decide) ?_
  refine fb_gI (cs := [fb_o12 za zr fr_e0, fb_aw cI (zr 0) 16205 (fr_m (fun _ => 0) 0)]) (rs := []) (fun (t : Unit) => [fb_o12 za zr (upd fr_e0 19 (0 : Int32)), fb_aw cI (zr 0) 16205 (fr_m (fun _ => 0) 0)]) (fun (t : Unit) => [fb_o12 za zr (upd fr_e0 19 (0 : Int32)), fb_aw cI (zr 0) 16205 (fr_m (fun _ => 0) 0)]) X I [0, 1] 2 rfl (by decide +kernel) rfl rfl [0, 1] 2 (fun _ => rfl) (by decide +kernel) (fun _ => rfl) (fun _ => rfl) (fun I => fb_rV (As := [.int (11 : Int32)]) (rest := []) X hl (fb_goodV fw_2627 fw_2629 fw_181 fw_204 fw_2630) (c_told_pending l D cI cJ za zr _ ) rfl rfl rfl (by decide +kernel : fb_hd yX12_told 1) ⟨Nat.le_of_ble_eq_true rfl, Nat.le_of_ble_eq_true rfl⟩ rfl rfl rfl rfl rfl (Nat.le_of_ble_eq_true rfl) ⟨Nat.zero_le _, Nat.zero_le _⟩ dX12_pending_3 I) ?_
  intro r2 w1 H locs e0 I
  subst e0
  have I : fb_In D A s.heap (([fb_o12 za zr (upd fr_e0 19 (0 : Int32)), fb_aw cI (zr 0) 16205 (fr_m (fun _ => 0) 0)] : List va_W).flatten) H locs := I
  exact fb_retI (u := ()) X I rfl rfl dX12_pending_6

set_option maxHeartbeats 4000000 in
set_option maxRecDepth 100000 in
theorem c_told_count (l : Launch) (D : va_G) (cI cJ : ClassId) (za : Nat) (zr : Nat → Nat) (sz : Nat)  : Met l yX12_told (Cond.code yX12_told cX12_told 2 (some .int) :: fb_all) ({ frames := 1, cells := 0, slots := 0, locals := 30 } : Room) (fb_PP D (fb_ty D cI cJ) [.ref za, .int (12 : Int32)] (([fb_o12 za zr fr_e0, fb_aw cI (zr 0) 16205 (fr_m (fun _ => 0) 0)] : List va_W).flatten) sz) (fb_QI D (va_A (([fb_o12 za zr fr_e0, fb_aw cI (zr 0) 16205 (fr_m (fun _ => 0) 0)] : List va_W).flatten) sz) (fun (r : Int32) (_ : Unit) => r = (0 : Int32)) (fun (t : Unit) => ([fb_o12 za zr (upd fr_e0 19 (0 : Int32)), fb_aw cI (zr 0) 16205 (fr_m (fun _ => 0) 0)] : List va_W).flatten)) 0 0 (va_A (([fb_o12 za zr fr_e0, fb_aw cI (zr 0) 16205 (fr_m (fun _ => 0) 0)] : List va_W).flatten) sz) := by
  refine fb_ent (Qf := fun A => (fb_QI D A (fun (r : Int32) (_ : Unit) => r = (0 : Int32)) (fun (t : Unit) => ([fb_o12 za zr (upd fr_e0 19 (0 : Int32)), fb_aw cI (zr 0) 16205 (fr_m (fun _ => 0) 0)] : List va_W).flatten))) (by decide +kernel) (Nat.le_of_ble_eq_true rfl) ?_
  intro p e s m args below meth c A ls X I hl hin
  obtain ⟨hx, hb, hr, hml, hown, hts, hlk, hA, hK, hF⟩ := id X
  have hl : lv_has ls 2 [(0, .ref za), (1, .int (12 : Int32))] := hl
  refine lv_aload_n hx hb dX12_told_0 rfl (lv_at hl 0 rfl) ?_
  refine lv_iconst (v := (0 : Int32)) hx hb dX12_told_1 (by decide) ?_
  refine fb_put X I (k := 19) (wn := ([fb_o12 za zr (upd fr_e0 19 (0 : Int32)), fb_aw cI (zr 0) 16205 (fr_m (fun _ => 0) 0)] : List va_W).flatten) fu_X12 tyX12 tyX12_ok nmX12 0 fb_h12 rfl (Nat.le_of_ble_eq_true rfl) fw_1983 rfl rfl rfl rfl rfl (Nat.le_of_ble_eq_true rfl) fb_r12_19 dX12_told_2 (fun H locs I => ?_)
  refine lv_aload_n hx hb dX12_told_5 rfl (lv_at hl 0 rfl) ?_
  refine fb_get X I (k := 0) (v := .ref (zr 0)) fu_X12 0 fb_h12 rfl (Nat.le_of_ble_eq_true rfl) fw_1964 rfl rfl dX12_told_6 ?_
  refine lv_iload_n hx hb dX12_told_9 rfl (lv_at hl 1 rfl) ?_
  refine fb_iaC (n := 12) (v := (0 : Int32)) X I 1 0 rfl rfl (by decide) (by decide) (Nat.le_of_ble_eq_true rfl) rfl dX12_told_10 ?_
  exact fb_retI (u := ()) X I rfl rfl dX12_told_11

set_option maxHeartbeats 4000000 in
set_option maxRecDepth 100000 in
theorem c_count (l : Launch) (D : va_G) (cI cJ : ClassId) (za : Nat) (zr : Nat → Nat) (sz : Nat)  : Met l yX12_count (Cond.code yX12_count cX12_count 1 (some .int) :: fb_all) ({ frames := 2, cells := 0, slots := 0, locals := 51 } : Room) (fb_PP D (fb_ty D cI cJ) [.ref za] (([fb_o12 za zr fr_e0, fb_aw cI (zr 0) 16205 (fr_m (fun _ => 0) 0)] : List va_W).flatten) sz) (fb_QI D (va_A (([fb_o12 za zr fr_e0, fb_aw cI (zr 0) 16205 (fr_m (fun _ => 0) 0)] : List va_W).flatten) sz) (fun (r : Int32) (_ : Unit) => r = (0 : Int32)) (fun (t : Unit) => ([fb_o12 za zr (upd fr_e0 19 (0 : Int32)), fb_aw cI (zr 0) 16205 (fr_m (fun _ => 0) 0)] : List va_W).flatten)) 0 0 (va_A (([fb_o12 za zr fr_e0, fb_aw cI (zr 0) 16205 (fr_m (fun _ => 0) 0)] : List va_W).flatten) sz) := by
  refine fb_ent (Qf := fun A => (fb_QI D A (fun (r : Int32) (_ : Unit) => r = (0 : Int32)) (fun (t : Unit) => ([fb_o12 za zr (upd fr_e0 19 (0 : Int32)), fb_aw cI (zr 0) 16205 (fr_m (fun _ => 0) 0)] : List va_W).flatten))) (by decide +kernel) (Nat.le_of_ble_eq_true rfl) ?_
  intro p e s m args below meth c A ls X I hl hin
  obtain ⟨hx, hb, hr, hml, hown, hts, hlk, hA, hK, hF⟩ := id X
  have hl : lv_has ls 1 [(0, .ref za)] := hl
  refine lv_aload_n hx hb dX12_count_0 rfl (lv_at hl 0 rfl) ?_
  refine lv_bipush (v := (12 : Int32)) hx hb dX12_count_1 (by decide) ?_
  refine fb_gI (cs := [fb_o12 za zr fr_e0, fb_aw cI (zr 0) 16205 (fr_m (fun _ => 0) 0)]) (rs := []) (fun (t : Unit) => [fb_o12 za zr (upd fr_e0 19 (0 : Int32)), fb_aw cI (zr 0) 16205 (fr_m (fun _ => 0) 0)]) (fun (t : Unit) => [fb_o12 za zr (upd fr_e0 19 (0 : Int32)), fb_aw cI (zr 0) 16205 (fr_m (fun _ => 0) 0)]) X I [0, 1] 2 rfl (by decide +kernel) rfl rfl [0, 1] 2 (fun _ => rfl) (by decide +kernel) (fun _ => rfl) (fun _ => rfl) (fun I => fb_rV (As := [.int (12 : Int32)]) (rest := []) X hl (fb_goodV fw_2627 fw_2629 fw_181 fw_204 fw_2630) (c_told_count l D cI cJ za zr _ ) rfl rfl rfl (by decide +kernel : fb_hd yX12_told 1) ⟨Nat.le_of_ble_eq_true rfl, Nat.le_of_ble_eq_true rfl⟩ rfl rfl rfl rfl rfl (Nat.le_of_ble_eq_true rfl) ⟨Nat.zero_le _, Nat.zero_le _⟩ dX12_count_3 I) ?_
  intro r2 w1 H locs e0 I
  subst e0
  have I : fb_In D A s.heap (([fb_o12 za zr (upd fr_e0 19 (0 : Int32)), fb_aw cI (zr 0) 16205 (fr_m (fun _ => 0) 0)] : List va_W).flatten) H locs := I
  exact fb_retI (u := ()) X I rfl rfl dX12_count_6

set_option maxHeartbeats 4000000 in
set_option maxRecDepth 100000 in
theorem c_told_inputs (l : Launch) (D : va_G) (cI cJ : ClassId) (za : Nat) (zr : Nat → Nat) (sz : Nat)  : Met l yX12_told (Cond.code yX12_told cX12_told 2 (some .int) :: fb_all) ({ frames := 1, cells := 0, slots := 0, locals := 30 } : Room) (fb_PP D (fb_ty D cI cJ) [.ref za, .int (18 : Int32)] (([fb_o12 za zr fr_e0, fb_aw cI (zr 0) 16205 (fr_m (fun _ => 0) 0)] : List va_W).flatten) sz) (fb_QI D (va_A (([fb_o12 za zr fr_e0, fb_aw cI (zr 0) 16205 (fr_m (fun _ => 0) 0)] : List va_W).flatten) sz) (fun (r : Int32) (_ : Unit) => r = (0 : Int32)) (fun (t : Unit) => ([fb_o12 za zr (upd fr_e0 19 (0 : Int32)), fb_aw cI (zr 0) 16205 (fr_m (fun _ => 0) 0)] : List va_W).flatten)) 0 0 (va_A (([fb_o12 za zr fr_e0, fb_aw cI (zr 0) 16205 (fr_m (fun _ => 0) 0)] : List va_W).flatten) sz) := by
  refine fb_ent (Qf := fun A => (fb_QI D A (fun (r : Int32) (_ : Unit) => r = (0 : Int32)) (fun (t : Unit) => ([fb_o12 za zr (upd fr_e0 19 (0 : Int32)), fb_aw cI (zr 0) 16205 (fr_m (fun _ => 0) 0)] : List va_W).flatten))) (by decide +kernel) (Nat.le_of_ble_eq_true rfl) ?_
  intro p e s m args below meth c A ls X I hl hin
  obtain ⟨hx, hb, hr, hml, hown, hts, hlk, hA, hK, hF⟩ := id X
  have hl : lv_has ls 2 [(0, .ref za), (1, .int (18 : Int32))] := hl
  refine lv_aload_n hx hb dX12_told_0 rfl (lv_at hl 0 rfl) ?_
  refine lv_iconst (v := (0 : Int32)) hx hb dX12_told_1 (by decide) ?_
  refine fb_put X I (k := 19) (wn := ([fb_o12 za zr (upd fr_e0 19 (0 : Int32)), fb_aw cI (zr 0) 16205 (fr_m (fun _ => 0) 0)] : List va_W).flatten) fu_X12 tyX12 tyX12_ok nmX12 0 fb_h12 rfl (Nat.le_of_ble_eq_true rfl) fw_1983 rfl rfl rfl rfl rfl (Nat.le_of_ble_eq_true rfl) fb_r12_19 dX12_told_2 (fun H locs I => ?_)
  refine lv_aload_n hx hb dX12_told_5 rfl (lv_at hl 0 rfl) ?_
  refine fb_get X I (k := 0) (v := .ref (zr 0)) fu_X12 0 fb_h12 rfl (Nat.le_of_ble_eq_true rfl) fw_1964 rfl rfl dX12_told_6 ?_
  refine lv_iload_n hx hb dX12_told_9 rfl (lv_at hl 1 rfl) ?_
  refine fb_iaC (n := 18) (v := (0 : Int32)) X I 1 0 rfl rfl (by decide) (by decide) (Nat.le_of_ble_eq_true rfl) rfl dX12_told_10 ?_
  exact fb_retI (u := ()) X I rfl rfl dX12_told_11

set_option maxHeartbeats 4000000 in
set_option maxRecDepth 100000 in
theorem c_inputs (l : Launch) (D : va_G) (cI cJ : ClassId) (za : Nat) (zr : Nat → Nat) (sz : Nat)  : Met l yX12_inputs (Cond.code yX12_inputs cX12_inputs 1 (some .int) :: fb_all) ({ frames := 2, cells := 0, slots := 0, locals := 51 } : Room) (fb_PP D (fb_ty D cI cJ) [.ref za] (([fb_o12 za zr fr_e0, fb_aw cI (zr 0) 16205 (fr_m (fun _ => 0) 0)] : List va_W).flatten) sz) (fb_QI D (va_A (([fb_o12 za zr fr_e0, fb_aw cI (zr 0) 16205 (fr_m (fun _ => 0) 0)] : List va_W).flatten) sz) (fun (r : Int32) (_ : Unit) => r = (0 : Int32)) (fun (t : Unit) => ([fb_o12 za zr (upd fr_e0 19 (0 : Int32)), fb_aw cI (zr 0) 16205 (fr_m (fun _ => 0) 0)] : List va_W).flatten)) 0 0 (va_A (([fb_o12 za zr fr_e0, fb_aw cI (zr 0) 16205 (fr_m (fun _ => 0) 0)] : List va_W).flatten) sz) := by
  refine fb_ent (Qf := fun A => (fb_QI D A (fun (r : Int32) (_ : Unit) => r = (0 : Int32)) (fun (t : Unit) => ([fb_o12 za zr (upd fr_e0 19 (0 : Int32)), fb_aw cI (zr 0) 16205 (fr_m (fun _ => 0) 0)] : List va_W).flatten))) (by decide +kernel) (Nat.le_of_ble_eq_true rfl) ?_
  intro p e s m args below meth c A ls X I hl hin
  obtain ⟨hx, hb, hr, hml, hown, hts, hlk, hA, hK, hF⟩ := id X
  have hl : lv_has ls 1 [(0, .ref za)] := hl
  refine lv_aload_n hx hb dX12_inputs_0 rfl (lv_at hl 0 rfl) ?_
  refine lv_bipush (v := (18 : Int32)) hx hb dX12_inputs_1 (by decide) ?_
  refine fb_gI (cs := [fb_o12 za zr fr_e0, fb_aw cI (zr 0) 16205 (fr_m (fun _ => 0) 0)]) (rs := []) (fun (t : Unit) => [fb_o12 za zr (upd fr_e0 19 (0 : Int32)), fb_aw cI (zr 0) 16205 (fr_m (fun _ => 0) 0)]) (fun (t : Unit) => [fb_o12 za zr (upd fr_e0 19 (0 : Int32)), fb_aw cI (zr 0) 16205 (fr_m (fun _ => 0) 0)]) X I [0, 1] 2 rfl (by decide +kernel) rfl rfl [0, 1] 2 (fun _ => rfl) (by decide +kernel) (fun _ => rfl) (fun _ => rfl) (fun I => fb_rV (As := [.int (18 : Int32)]) (rest := []) X hl (fb_goodV fw_2627 fw_2629 fw_181 fw_204 fw_2630) (c_told_inputs l D cI cJ za zr _ ) rfl rfl rfl (by decide +kernel : fb_hd yX12_told 1) ⟨Nat.le_of_ble_eq_true rfl, Nat.le_of_ble_eq_true rfl⟩ rfl rfl rfl rfl rfl (Nat.le_of_ble_eq_true rfl) ⟨Nat.zero_le _, Nat.zero_le _⟩ dX12_inputs_3 I) ?_
  intro r2 w1 H locs e0 I
  subst e0
  have I : fb_In D A s.heap (([fb_o12 za zr (upd fr_e0 19 (0 : Int32)), fb_aw cI (zr 0) 16205 (fr_m (fun _ => 0) 0)] : List va_W).flatten) H locs := I
  exact fb_retI (u := ()) X I rfl rfl dX12_inputs_6

set_option maxHeartbeats 4000000 in
set_option maxRecDepth 100000 in
theorem c_told_outputs (l : Launch) (D : va_G) (cI cJ : ClassId) (za : Nat) (zr : Nat → Nat) (sz : Nat)  : Met l yX12_told (Cond.code yX12_told cX12_told 2 (some .int) :: fb_all) ({ frames := 1, cells := 0, slots := 0, locals := 30 } : Room) (fb_PP D (fb_ty D cI cJ) [.ref za, .int (19 : Int32)] (([fb_o12 za zr fr_e0, fb_aw cI (zr 0) 16205 (fr_m (fun _ => 0) 0)] : List va_W).flatten) sz) (fb_QI D (va_A (([fb_o12 za zr fr_e0, fb_aw cI (zr 0) 16205 (fr_m (fun _ => 0) 0)] : List va_W).flatten) sz) (fun (r : Int32) (_ : Unit) => r = (0 : Int32)) (fun (t : Unit) => ([fb_o12 za zr (upd fr_e0 19 (0 : Int32)), fb_aw cI (zr 0) 16205 (fr_m (fun _ => 0) 0)] : List va_W).flatten)) 0 0 (va_A (([fb_o12 za zr fr_e0, fb_aw cI (zr 0) 16205 (fr_m (fun _ => 0) 0)] : List va_W).flatten) sz) := by
  refine fb_ent (Qf := fun A => (fb_QI D A (fun (r : Int32) (_ : Unit) => r = (0 : Int32)) (fun (t : Unit) => ([fb_o12 za zr (upd fr_e0 19 (0 : Int32)), fb_aw cI (zr 0) 16205 (fr_m (fun _ => 0) 0)] : List va_W).flatten))) (by decide +kernel) (Nat.le_of_ble_eq_true rfl) ?_
  intro p e s m args below meth c A ls X I hl hin
  obtain ⟨hx, hb, hr, hml, hown, hts, hlk, hA, hK, hF⟩ := id X
  have hl : lv_has ls 2 [(0, .ref za), (1, .int (19 : Int32))] := hl
  refine lv_aload_n hx hb dX12_told_0 rfl (lv_at hl 0 rfl) ?_
  refine lv_iconst (v := (0 : Int32)) hx hb dX12_told_1 (by decide) ?_
  refine fb_put X I (k := 19) (wn := ([fb_o12 za zr (upd fr_e0 19 (0 : Int32)), fb_aw cI (zr 0) 16205 (fr_m (fun _ => 0) 0)] : List va_W).flatten) fu_X12 tyX12 tyX12_ok nmX12 0 fb_h12 rfl (Nat.le_of_ble_eq_true rfl) fw_1983 rfl rfl rfl rfl rfl (Nat.le_of_ble_eq_true rfl) fb_r12_19 dX12_told_2 (fun H locs I => ?_)
  refine lv_aload_n hx hb dX12_told_5 rfl (lv_at hl 0 rfl) ?_
  refine fb_get X I (k := 0) (v := .ref (zr 0)) fu_X12 0 fb_h12 rfl (Nat.le_of_ble_eq_true rfl) fw_1964 rfl rfl dX12_told_6 ?_
  refine lv_iload_n hx hb dX12_told_9 rfl (lv_at hl 1 rfl) ?_
  refine fb_iaC (n := 19) (v := (0 : Int32)) X I 1 0 rfl rfl (by decide) (by decide) (Nat.le_of_ble_eq_true rfl) rfl dX12_told_10 ?_
  exact fb_retI (u := ()) X I rfl rfl dX12_told_11

set_option maxHeartbeats 4000000 in
set_option maxRecDepth 100000 in
theorem c_outputs (l : Launch) (D : va_G) (cI cJ : ClassId) (za : Nat) (zr : Nat → Nat) (sz : Nat)  : Met l yX12_outputs (Cond.code yX12_outputs cX12_outputs 1 (some .int) :: fb_all) ({ frames := 2, cells := 0, slots := 0, locals := 51 } : Room) (fb_PP D (fb_ty D cI cJ) [.ref za] (([fb_o12 za zr fr_e0, fb_aw cI (zr 0) 16205 (fr_m (fun _ => 0) 0)] : List va_W).flatten) sz) (fb_QI D (va_A (([fb_o12 za zr fr_e0, fb_aw cI (zr 0) 16205 (fr_m (fun _ => 0) 0)] : List va_W).flatten) sz) (fun (r : Int32) (_ : Unit) => r = (0 : Int32)) (fun (t : Unit) => ([fb_o12 za zr (upd fr_e0 19 (0 : Int32)), fb_aw cI (zr 0) 16205 (fr_m (fun _ => 0) 0)] : List va_W).flatten)) 0 0 (va_A (([fb_o12 za zr fr_e0, fb_aw cI (zr 0) 16205 (fr_m (fun _ => 0) 0)] : List va_W).flatten) sz) := by
  refine fb_ent (Qf := fun A => (fb_QI D A (fun (r : Int32) (_ : Unit) => r = (0 : Int32)) (fun (t : Unit) => ([fb_o12 za zr (upd fr_e0 19 (0 : Int32)), fb_aw cI (zr 0) 16205 (fr_m (fun _ => 0) 0)] : List va_W).flatten))) (by decide +kernel) (Nat.le_of_ble_eq_true rfl) ?_
  intro p e s m args below meth c A ls X I hl hin
  obtain ⟨hx, hb, hr, hml, hown, hts, hlk, hA, hK, hF⟩ := id X
  have hl : lv_has ls 1 [(0, .ref za)] := hl
  refine lv_aload_n hx hb dX12_outputs_0 rfl (lv_at hl 0 rfl) ?_
  refine lv_bipush (v := (19 : Int32)) hx hb dX12_outputs_1 (by decide) ?_
  refine fb_gI (cs := [fb_o12 za zr fr_e0, fb_aw cI (zr 0) 16205 (fr_m (fun _ => 0) 0)]) (rs := []) (fun (t : Unit) => [fb_o12 za zr (upd fr_e0 19 (0 : Int32)), fb_aw cI (zr 0) 16205 (fr_m (fun _ => 0) 0)]) (fun (t : Unit) => [fb_o12 za zr (upd fr_e0 19 (0 : Int32)), fb_aw cI (zr 0) 16205 (fr_m (fun _ => 0) 0)]) X I [0, 1] 2 rfl (by decide +kernel) rfl rfl [0, 1] 2 (fun _ => rfl) (by decide +kernel) (fun _ => rfl) (fun _ => rfl) (fun I => fb_rV (As := [.int (19 : Int32)]) (rest := []) X hl (fb_goodV fw_2627 fw_2629 fw_181 fw_204 fw_2630) (c_told_outputs l D cI cJ za zr _ ) rfl rfl rfl (by decide +kernel : fb_hd yX12_told 1) ⟨Nat.le_of_ble_eq_true rfl, Nat.le_of_ble_eq_true rfl⟩ rfl rfl rfl rfl rfl (Nat.le_of_ble_eq_true rfl) ⟨Nat.zero_le _, Nat.zero_le _⟩ dX12_outputs_3 I) ?_
  intro r2 w1 H locs e0 I
  subst e0
  have I : fb_In D A s.heap (([fb_o12 za zr (upd fr_e0 19 (0 : Int32)), fb_aw cI (zr 0) 16205 (fr_m (fun _ => 0) 0)] : List va_W).flatten) H locs := I
  exact fb_retI (u := ()) X I rfl rfl dX12_outputs_6

set_option maxHeartbeats 4000000 in
set_option maxRecDepth 100000 in
theorem c_told_calls (l : Launch) (D : va_G) (cI cJ : ClassId) (za : Nat) (zr : Nat → Nat) (sz : Nat)  : Met l yX12_told (Cond.code yX12_told cX12_told 2 (some .int) :: fb_all) ({ frames := 1, cells := 0, slots := 0, locals := 30 } : Room) (fb_PP D (fb_ty D cI cJ) [.ref za, .int (20 : Int32)] (([fb_o12 za zr fr_e0, fb_aw cI (zr 0) 16205 (fr_m (fun _ => 0) 0)] : List va_W).flatten) sz) (fb_QI D (va_A (([fb_o12 za zr fr_e0, fb_aw cI (zr 0) 16205 (fr_m (fun _ => 0) 0)] : List va_W).flatten) sz) (fun (r : Int32) (_ : Unit) => r = (0 : Int32)) (fun (t : Unit) => ([fb_o12 za zr (upd fr_e0 19 (0 : Int32)), fb_aw cI (zr 0) 16205 (fr_m (fun _ => 0) 0)] : List va_W).flatten)) 0 0 (va_A (([fb_o12 za zr fr_e0, fb_aw cI (zr 0) 16205 (fr_m (fun _ => 0) 0)] : List va_W).flatten) sz) := by
  refine fb_ent (Qf := fun A => (fb_QI D A (fun (r : Int32) (_ : Unit) => r = (0 : Int32)) (fun (t : Unit) => ([fb_o12 za zr (upd fr_e0 19 (0 : Int32)), fb_aw cI (zr 0) 16205 (fr_m (fun _ => 0) 0)] : List va_W).flatten))) (by decide +kernel) (Nat.le_of_ble_eq_true rfl) ?_
  intro p e s m args below meth c A ls X I hl hin
  obtain ⟨hx, hb, hr, hml, hown, hts, hlk, hA, hK, hF⟩ := id X
  have hl : lv_has ls 2 [(0, .ref za), (1, .int (20 : Int32))] := hl
  refine lv_aload_n hx hb dX12_told_0 rfl (lv_at hl 0 rfl) ?_
  refine lv_iconst (v := (0 : Int32)) hx hb dX12_told_1 (by decide) ?_
  refine fb_put X I (k := 19) (wn := ([fb_o12 za zr (upd fr_e0 19 (0 : Int32)), fb_aw cI (zr 0) 16205 (fr_m (fun _ => 0) 0)] : List va_W).flatten) fu_X12 tyX12 tyX12_ok nmX12 0 fb_h12 rfl (Nat.le_of_ble_eq_true rfl) fw_1983 rfl rfl rfl rfl rfl (Nat.le_of_ble_eq_true rfl) fb_r12_19 dX12_told_2 (fun H locs I => ?_)
  refine lv_aload_n hx hb dX12_told_5 rfl (lv_at hl 0 rfl) ?_
  refine fb_get X I (k := 0) (v := .ref (zr 0)) fu_X12 0 fb_h12 rfl (Nat.le_of_ble_eq_true rfl) fw_1964 rfl rfl dX12_told_6 ?_
  refine lv_iload_n hx hb dX12_told_9 rfl (lv_at hl 1 rfl) ?_
  refine fb_iaC (n := 20) (v := (0 : Int32)) X I 1 0 rfl rfl (by decide) (by decide) (Nat.le_of_ble_eq_true rfl) rfl dX12_told_10 ?_
  exact fb_retI (u := ()) X I rfl rfl dX12_told_11

set_option maxHeartbeats 4000000 in
set_option maxRecDepth 100000 in
theorem c_calls (l : Launch) (D : va_G) (cI cJ : ClassId) (za : Nat) (zr : Nat → Nat) (sz : Nat)  : Met l yX12_calls (Cond.code yX12_calls cX12_calls 1 (some .int) :: fb_all) ({ frames := 2, cells := 0, slots := 0, locals := 51 } : Room) (fb_PP D (fb_ty D cI cJ) [.ref za] (([fb_o12 za zr fr_e0, fb_aw cI (zr 0) 16205 (fr_m (fun _ => 0) 0)] : List va_W).flatten) sz) (fb_QI D (va_A (([fb_o12 za zr fr_e0, fb_aw cI (zr 0) 16205 (fr_m (fun _ => 0) 0)] : List va_W).flatten) sz) (fun (r : Int32) (_ : Unit) => r = (0 : Int32)) (fun (t : Unit) => ([fb_o12 za zr (upd fr_e0 19 (0 : Int32)), fb_aw cI (zr 0) 16205 (fr_m (fun _ => 0) 0)] : List va_W).flatten)) 0 0 (va_A (([fb_o12 za zr fr_e0, fb_aw cI (zr 0) 16205 (fr_m (fun _ => 0) 0)] : List va_W).flatten) sz) := by
  refine fb_ent (Qf := fun A => (fb_QI D A (fun (r : Int32) (_ : Unit) => r = (0 : Int32)) (fun (t : Unit) => ([fb_o12 za zr (upd fr_e0 19 (0 : Int32)), fb_aw cI (zr 0) 16205 (fr_m (fun _ => 0) 0)] : List va_W).flatten))) (by decide +kernel) (Nat.le_of_ble_eq_true rfl) ?_
  intro p e s m args below meth c A ls X I hl hin
  obtain ⟨hx, hb, hr, hml, hown, hts, hlk, hA, hK, hF⟩ := id X
  have hl : lv_has ls 1 [(0, .ref za)] := hl
  refine lv_aload_n hx hb dX12_calls_0 rfl (lv_at hl 0 rfl) ?_
  refine lv_bipush (v := (20 : Int32)) hx hb dX12_calls_1 (by decide) ?_
  refine fb_gI (cs := [fb_o12 za zr fr_e0, fb_aw cI (zr 0) 16205 (fr_m (fun _ => 0) 0)]) (rs := []) (fun (t : Unit) => [fb_o12 za zr (upd fr_e0 19 (0 : Int32)), fb_aw cI (zr 0) 16205 (fr_m (fun _ => 0) 0)]) (fun (t : Unit) => [fb_o12 za zr (upd fr_e0 19 (0 : Int32)), fb_aw cI (zr 0) 16205 (fr_m (fun _ => 0) 0)]) X I [0, 1] 2 rfl (by decide +kernel) rfl rfl [0, 1] 2 (fun _ => rfl) (by decide +kernel) (fun _ => rfl) (fun _ => rfl) (fun I => fb_rV (As := [.int (20 : Int32)]) (rest := []) X hl (fb_goodV fw_2627 fw_2629 fw_181 fw_204 fw_2630) (c_told_calls l D cI cJ za zr _ ) rfl rfl rfl (by decide +kernel : fb_hd yX12_told 1) ⟨Nat.le_of_ble_eq_true rfl, Nat.le_of_ble_eq_true rfl⟩ rfl rfl rfl rfl rfl (Nat.le_of_ble_eq_true rfl) ⟨Nat.zero_le _, Nat.zero_le _⟩ dX12_calls_3 I) ?_
  intro r2 w1 H locs e0 I
  subst e0
  have I : fb_In D A s.heap (([fb_o12 za zr (upd fr_e0 19 (0 : Int32)), fb_aw cI (zr 0) 16205 (fr_m (fun _ => 0) 0)] : List va_W).flatten) H locs := I
  exact fb_retI (u := ()) X I rfl rfl dX12_calls_6

set_option maxHeartbeats 4000000 in
set_option maxRecDepth 100000 in
theorem c_errorAt (l : Launch) (D : va_G) (cI cJ : ClassId) (za : Nat) (zr : Nat → Nat) (sz : Nat)  : Met l yX12_errorAt (Cond.code yX12_errorAt cX12_errorAt 1 (some .int) :: fb_all) ({ frames := 1, cells := 0, slots := 0, locals := 30 } : Room) (fb_PP D (fb_ty D cI cJ) [.ref za] (([fb_o12 za zr fr_e0] : List va_W).flatten) sz) (fb_QI D (va_A (([fb_o12 za zr fr_e0] : List va_W).flatten) sz) (fun (r : Int32) (_ : Unit) => r = (-1 : Int32)) (fun (t : Unit) => ([fb_o12 za zr (upd fr_e0 19 (0 : Int32))] : List va_W).flatten)) 0 0 (va_A (([fb_o12 za zr fr_e0] : List va_W).flatten) sz) := by
  refine fb_ent (Qf := fun A => (fb_QI D A (fun (r : Int32) (_ : Unit) => r = (-1 : Int32)) (fun (t : Unit) => ([fb_o12 za zr (upd fr_e0 19 (0 : Int32))] : List va_W).flatten))) (by decide +kernel) (Nat.le_of_ble_eq_true rfl) ?_
  intro p e s m args below meth c A ls X I hl hin
  obtain ⟨hx, hb, hr, hml, hown, hts, hlk, hA, hK, hF⟩ := id X
  have hl : lv_has ls 1 [(0, .ref za)] := hl
  refine lv_aload_n hx hb dX12_errorAt_0 rfl (lv_at hl 0 rfl) ?_
  refine lv_iconst (v := (0 : Int32)) hx hb dX12_errorAt_1 (by decide) ?_
  refine fb_put X I (k := 19) (wn := ([fb_o12 za zr (upd fr_e0 19 (0 : Int32))] : List va_W).flatten) fu_X12 tyX12 tyX12_ok nmX12 0 fb_h12 rfl (Nat.le_of_ble_eq_true rfl) fw_1983 rfl rfl rfl rfl rfl (Nat.le_of_ble_eq_true rfl) fb_r12_19 dX12_errorAt_2 (fun H locs I => ?_)
  refine lv_aload_n hx hb dX12_errorAt_5 rfl (lv_at hl 0 rfl) ?_
  refine fb_get X I (k := 28) (v := .int (fr_e0 28)) fu_X12 0 fb_h12 rfl (Nat.le_of_ble_eq_true rfl) fw_1992 rfl rfl dX12_errorAt_6 ?_
  refine fb_tI (v := (-1 : Int32)) rfl ?_
  exact fb_retI (u := ()) X I rfl rfl dX12_errorAt_9

set_option maxHeartbeats 4000000 in
set_option maxRecDepth 100000 in
theorem c_names (l : Launch) (D : va_G) (cI cJ : ClassId) (za : Nat) (zr : Nat → Nat) (sz : Nat)  : Met l yX12_names (Cond.code yX12_names cX12_names 1 (some .int) :: fb_all) ({ frames := 1, cells := 0, slots := 0, locals := 30 } : Room) (fb_PP D (fb_ty D cI cJ) [.ref za] (([fb_o12 za zr fr_e0] : List va_W).flatten) sz) (fb_QI D (va_A (([fb_o12 za zr fr_e0] : List va_W).flatten) sz) (fun (r : Int32) (_ : Unit) => r = (0 : Int32)) (fun (t : Unit) => ([fb_o12 za zr (upd fr_e0 19 (0 : Int32))] : List va_W).flatten)) 0 0 (va_A (([fb_o12 za zr fr_e0] : List va_W).flatten) sz) := by
  refine fb_ent (Qf := fun A => (fb_QI D A (fun (r : Int32) (_ : Unit) => r = (0 : Int32)) (fun (t : Unit) => ([fb_o12 za zr (upd fr_e0 19 (0 : Int32))] : List va_W).flatten))) (by decide +kernel) (Nat.le_of_ble_eq_true rfl) ?_
  intro p e s m args below meth c A ls X I hl hin
  obtain ⟨hx, hb, hr, hml, hown, hts, hlk, hA, hK, hF⟩ := id X
  have hl : lv_has ls 1 [(0, .ref za)] := hl
  refine lv_aload_n hx hb dX12_names_0 rfl (lv_at hl 0 rfl) ?_
  refine lv_iconst (v := (0 : Int32)) hx hb dX12_names_1 (by decide) ?_
  refine fb_put X I (k := 19) (wn := ([fb_o12 za zr (upd fr_e0 19 (0 : Int32))] : List va_W).flatten) fu_X12 tyX12 tyX12_ok nmX12 0 fb_h12 rfl (Nat.le_of_ble_eq_true rfl) fw_1983 rfl rfl rfl rfl rfl (Nat.le_of_ble_eq_true rfl) fb_r12_19 dX12_names_2 (fun H locs I => ?_)
  refine lv_aload_n hx hb dX12_names_5 rfl (lv_at hl 0 rfl) ?_
  refine fb_get X I (k := 49) (v := .int (fr_e0 49)) fu_X12 0 fb_h12 rfl (Nat.le_of_ble_eq_true rfl) fw_2013 rfl rfl dX12_names_6 ?_
  refine fb_tI (v := (0 : Int32)) rfl ?_
  exact fb_retI (u := ()) X I rfl rfl dX12_names_9

set_option maxHeartbeats 4000000 in
set_option maxRecDepth 100000 in
theorem c_stopped (l : Launch) (D : va_G) (cI cJ : ClassId) (za : Nat) (zr : Nat → Nat) (sz : Nat)  : Met l yX12_stopped (Cond.code yX12_stopped cX12_stopped 1 (some .int) :: fb_all) ({ frames := 1, cells := 0, slots := 0, locals := 30 } : Room) (fb_PP D (fb_ty D cI cJ) [.ref za] (([fb_o12 za zr fr_e0] : List va_W).flatten) sz) (fb_QI D (va_A (([fb_o12 za zr fr_e0] : List va_W).flatten) sz) (fun (r : Int32) (_ : Unit) => r = (0 : Int32)) (fun (t : Unit) => ([fb_o12 za zr (upd fr_e0 19 (0 : Int32))] : List va_W).flatten)) 0 0 (va_A (([fb_o12 za zr fr_e0] : List va_W).flatten) sz) := by
  refine fb_ent (Qf := fun A => (fb_QI D A (fun (r : Int32) (_ : Unit) => r = (0 : Int32)) (fun (t : Unit) => ([fb_o12 za zr (upd fr_e0 19 (0 : Int32))] : List va_W).flatten))) (by decide +kernel) (Nat.le_of_ble_eq_true rfl) ?_
  intro p e s m args below meth c A ls X I hl hin
  obtain ⟨hx, hb, hr, hml, hown, hts, hlk, hA, hK, hF⟩ := id X
  have hl : lv_has ls 1 [(0, .ref za)] := hl
  refine lv_aload_n hx hb dX12_stopped_0 rfl (lv_at hl 0 rfl) ?_
  refine lv_iconst (v := (0 : Int32)) hx hb dX12_stopped_1 (by decide) ?_
  refine fb_put X I (k := 19) (wn := ([fb_o12 za zr (upd fr_e0 19 (0 : Int32))] : List va_W).flatten) fu_X12 tyX12 tyX12_ok nmX12 0 fb_h12 rfl (Nat.le_of_ble_eq_true rfl) fw_1983 rfl rfl rfl rfl rfl (Nat.le_of_ble_eq_true rfl) fb_r12_19 dX12_stopped_2 (fun H locs I => ?_)
  refine lv_aload_n hx hb dX12_stopped_5 rfl (lv_at hl 0 rfl) ?_
  refine fb_get X I (k := 10) (v := .int (fr_e0 10)) fu_X12 0 fb_h12 rfl (Nat.le_of_ble_eq_true rfl) fw_1974 rfl rfl dX12_stopped_6 ?_
  refine fb_tI (v := (0 : Int32)) rfl ?_
  exact fb_retI (u := ()) X I rfl rfl dX12_stopped_9

set_option maxHeartbeats 4000000 in
set_option maxRecDepth 100000 in
theorem c_history (l : Launch) (D : va_G) (cI cJ : ClassId) (za : Nat) (zr : Nat → Nat) (sz : Nat)  : Met l yX12_history (Cond.code yX12_history cX12_history 1 (some .int) :: fb_all) ({ frames := 1, cells := 0, slots := 0, locals := 30 } : Room) (fb_PP D (fb_ty D cI cJ) [.ref za] (([fb_o12 za zr fr_e0] : List va_W).flatten) sz) (fb_QI D (va_A (([fb_o12 za zr fr_e0] : List va_W).flatten) sz) (fun (r : Int32) (_ : Unit) => r = (0 : Int32)) (fun (t : Unit) => ([fb_o12 za zr (upd fr_e0 19 (0 : Int32))] : List va_W).flatten)) 0 0 (va_A (([fb_o12 za zr fr_e0] : List va_W).flatten) sz) := by
  refine fb_ent (Qf := fun A => (fb_QI D A (fun (r : Int32) (_ : Unit) => r = (0 : Int32)) (fun (t : Unit) => ([fb_o12 za zr (upd fr_e0 19 (0 : Int32))] : List va_W).flatten))) (by decide +kernel) (Nat.le_of_ble_eq_true rfl) ?_
  intro p e s m args below meth c A ls X I hl hin
  obtain ⟨hx, hb, hr, hml, hown, hts, hlk, hA, hK, hF⟩ := id X
  have hl : lv_has ls 1 [(0, .ref za)] := hl
  refine lv_aload_n hx hb dX12_history_0 rfl (lv_at hl 0 rfl) ?_
  refine lv_iconst (v := (0 : Int32)) hx hb dX12_history_1 (by decide) ?_
  refine fb_put X I (k := 19) (wn := ([fb_o12 za zr (upd fr_e0 19 (0 : Int32))] : List va_W).flatten) fu_X12 tyX12 tyX12_ok nmX12 0 fb_h12 rfl (Nat.le_of_ble_eq_true rfl) fw_1983 rfl rfl rfl rfl rfl (Nat.le_of_ble_eq_true rfl) fb_r12_19 dX12_history_2 (fun H locs I => ?_)
  refine lv_aload_n hx hb dX12_history_5 rfl (lv_at hl 0 rfl) ?_
  refine fb_get X I (k := 2) (v := .int (fr_e0 2)) fu_X12 0 fb_h12 rfl (Nat.le_of_ble_eq_true rfl) fw_1966 rfl rfl dX12_history_6 ?_
  refine fb_tI (v := (0 : Int32)) rfl ?_
  exact fb_retI (u := ()) X I rfl rfl dX12_history_9

set_option maxHeartbeats 4000000 in
set_option maxRecDepth 100000 in
theorem c_valueOf (l : Launch) (D : va_G) (cI cJ : ClassId) (za : Nat) (zr : Nat → Nat) (l1 : Int32) (sz : Nat)  : Met l yX12_valueOf (Cond.code yX12_valueOf cX12_valueOf 2 (some .int) :: fb_all) ({ frames := 3, cells := 0, slots := 0, locals := 75 } : Room) (fb_PP D (fb_ty D cI cJ) [.ref za, .int l1] (([fb_o12 za zr fr_e0] : List va_W).flatten) sz) (fb_QI D (va_A (([fb_o12 za zr fr_e0] : List va_W).flatten) sz) (fun (r : Int32) (_ : Unit) => r = (0 : Int32)) (fun (t : Unit) => ([fb_o12 za zr (upd (upd fr_e0 19 (0 : Int32)) 19 (1 : Int32))] : List va_W).flatten)) 0 0 (va_A (([fb_o12 za zr fr_e0] : List va_W).flatten) sz) := by
  refine fb_ent (Qf := fun A => (fb_QI D A (fun (r : Int32) (_ : Unit) => r = (0 : Int32)) (fun (t : Unit) => ([fb_o12 za zr (upd (upd fr_e0 19 (0 : Int32)) 19 (1 : Int32))] : List va_W).flatten))) (by decide +kernel) (Nat.le_of_ble_eq_true rfl) ?_
  intro p e s m args below meth c A ls X I hl hin
  obtain ⟨hx, hb, hr, hml, hown, hts, hlk, hA, hK, hF⟩ := id X
  have hl : lv_has ls 2 [(0, .ref za), (1, .int l1)] := hl
  refine lv_aload_n hx hb dX12_valueOf_0 rfl (lv_at hl 0 rfl) ?_
  refine lv_iload_n hx hb dX12_valueOf_1 rfl (lv_at hl 1 rfl) ?_
  refine lv_iconst (v := (0 : Int32)) hx hb dX12_valueOf_2 (by decide) ?_
  refine lv_aload_n hx hb dX12_valueOf_3 rfl (lv_at hl 0 rfl) ?_
  refine fb_get X I (k := 49) (v := .int (fr_e0 49)) fu_X12 0 fb_h12 rfl (Nat.le_of_ble_eq_true rfl) fw_2013 rfl rfl dX12_valueOf_4 ?_
  refine fb_tI (v := (0 : Int32)) rfl ?_
  refine lv_iconst (v := (1 : Int32)) hx hb dX12_valueOf_7 (by decide) ?_
  refine lv_isub hx hb dX12_valueOf_8 ?_
  refine fb_tI (v := (-1 : Int32)) (by decide) ?_
  refine fb_gI (cs := [fb_o12 za zr fr_e0]) (rs := []) (fun (t : Unit) => [fb_o12 za zr (upd (upd fr_e0 19 (0 : Int32)) 19 (1 : Int32))]) (fun (t : Unit) => [fb_o12 za zr (upd (upd fr_e0 19 (0 : Int32)) 19 (1 : Int32))]) X I [0] 1 rfl (by decide +kernel) rfl rfl [0] 1 (fun _ => rfl) (by decide +kernel) (fun _ => rfl) (fun _ => rfl) (fun I => fb_rV (As := [.int l1, .int (0 : Int32), .int (-1 : Int32)]) (rest := []) X hl (fb_goodV fw_2346 fw_2348 fw_136 fw_204 fw_2349) (c_isNot_out l D cI cJ za zr fr_e0 l1 (0 : Int32) (-1 : Int32) _ (fr_inNo l1)) rfl rfl rfl (by decide +kernel : fb_hd yX12_isNot 3) ⟨Nat.le_of_ble_eq_true rfl, Nat.le_of_ble_eq_true rfl⟩ rfl rfl rfl rfl rfl (Nat.le_of_ble_eq_true rfl) ⟨Nat.zero_le _, Nat.zero_le _⟩ dX12_valueOf_9 I) ?_
  intro r2 w1 H locs e0 I
  subst e0
  have I : fb_In D A s.heap (([fb_o12 za zr (upd (upd fr_e0 19 (0 : Int32)) 19 (1 : Int32))] : List va_W).flatten) H locs := I
  refine lv_if_eq (tgt := 19) hx hb dX12_valueOf_12 (by decide) (fun c3 => absurd c3 (by decide)) (fun _ => ?_)
  refine lv_iconst (v := (0 : Int32)) hx hb dX12_valueOf_15 (by decide) ?_
  refine lv_goto (tgt := 25) hx hb dX12_valueOf_16 (by decide) ?_
  exact fb_retI (u := ()) X I rfl rfl dX12_valueOf_25

set_option maxHeartbeats 4000000 in
set_option maxRecDepth 100000 in
theorem c_outputAt (l : Launch) (D : va_G) (cI cJ : ClassId) (za : Nat) (zr : Nat → Nat) (l1 : Int32) (sz : Nat)  : Met l yX12_outputAt (Cond.code yX12_outputAt cX12_outputAt 2 (some .int) :: fb_all) ({ frames := 3, cells := 0, slots := 0, locals := 75 } : Room) (fb_PP D (fb_ty D cI cJ) [.ref za, .int l1] (([fb_o12 za zr fr_e0, fb_aw cI (zr 0) 16205 (fr_m (fun _ => 0) 0)] : List va_W).flatten) sz) (fb_QI D (va_A (([fb_o12 za zr fr_e0, fb_aw cI (zr 0) 16205 (fr_m (fun _ => 0) 0)] : List va_W).flatten) sz) (fun (r : Int32) (_ : Unit) => r = (0 : Int32)) (fun (t : Unit) => ([fb_o12 za zr (upd (upd fr_e0 19 (0 : Int32)) 19 (1 : Int32)), fb_aw cI (zr 0) 16205 (fr_m (fun _ => 0) 0)] : List va_W).flatten)) 0 0 (va_A (([fb_o12 za zr fr_e0, fb_aw cI (zr 0) 16205 (fr_m (fun _ => 0) 0)] : List va_W).flatten) sz) := by
  refine fb_ent (Qf := fun A => (fb_QI D A (fun (r : Int32) (_ : Unit) => r = (0 : Int32)) (fun (t : Unit) => ([fb_o12 za zr (upd (upd fr_e0 19 (0 : Int32)) 19 (1 : Int32)), fb_aw cI (zr 0) 16205 (fr_m (fun _ => 0) 0)] : List va_W).flatten))) (by decide +kernel) (Nat.le_of_ble_eq_true rfl) ?_
  intro p e s m args below meth c A ls X I hl hin
  obtain ⟨hx, hb, hr, hml, hown, hts, hlk, hA, hK, hF⟩ := id X
  have hl : lv_has ls 2 [(0, .ref za), (1, .int l1)] := hl
  refine lv_aload_n hx hb dX12_outputAt_0 rfl (lv_at hl 0 rfl) ?_
  refine lv_iload_n hx hb dX12_outputAt_1 rfl (lv_at hl 1 rfl) ?_
  refine lv_iconst (v := (0 : Int32)) hx hb dX12_outputAt_2 (by decide) ?_
  refine lv_bipush (v := (40 : Int32)) hx hb dX12_outputAt_3 (by decide) ?_
  refine lv_aload_n hx hb dX12_outputAt_5 rfl (lv_at hl 0 rfl) ?_
  refine fb_get X I (k := 0) (v := .ref (zr 0)) fu_X12 0 fb_h12 rfl (Nat.le_of_ble_eq_true rfl) fw_1964 rfl rfl dX12_outputAt_6 ?_
  refine lv_bipush (v := (19 : Int32)) hx hb dX12_outputAt_9 (by decide) ?_
  refine fb_iaC (n := 19) (v := (0 : Int32)) X I 1 0 rfl rfl (by decide) (by decide) (Nat.le_of_ble_eq_true rfl) rfl dX12_outputAt_11 ?_
  refine fb_min X hl fw_2598 fw_860 fw_214 fw_861 (Nat.le_of_ble_eq_true rfl) (Nat.le_of_ble_eq_true rfl) (Nat.le_of_ble_eq_true rfl) (Nat.le_of_ble_eq_true rfl) dX12_outputAt_12 ?_
  refine fb_tI (v := (0 : Int32)) (by decide) ?_
  refine lv_iconst (v := (1 : Int32)) hx hb dX12_outputAt_15 (by decide) ?_
  refine lv_isub hx hb dX12_outputAt_16 ?_
  refine fb_tI (v := (-1 : Int32)) (by decide) ?_
  refine fb_gI (cs := [fb_o12 za zr fr_e0]) (rs := [fb_aw cI (zr 0) 16205 (fr_m (fun _ => 0) 0)]) (fun (t : Unit) => [fb_o12 za zr (upd (upd fr_e0 19 (0 : Int32)) 19 (1 : Int32)), fb_aw cI (zr 0) 16205 (fr_m (fun _ => 0) 0)]) (fun (t : Unit) => [fb_o12 za zr (upd (upd fr_e0 19 (0 : Int32)) 19 (1 : Int32))]) X I [0, 1] 2 rfl (by decide +kernel) rfl rfl [0, 1] 2 (fun _ => rfl) (by decide +kernel) (fun _ => rfl) (fun _ => rfl) (fun I => fb_rV (As := [.int l1, .int (0 : Int32), .int (-1 : Int32)]) (rest := []) X hl (fb_goodV fw_2346 fw_2348 fw_136 fw_204 fw_2349) (c_isNot_out l D cI cJ za zr fr_e0 l1 (0 : Int32) (-1 : Int32) _ (fr_inNo l1)) rfl rfl rfl (by decide +kernel : fb_hd yX12_isNot 3) ⟨Nat.le_of_ble_eq_true rfl, Nat.le_of_ble_eq_true rfl⟩ rfl rfl rfl rfl rfl (Nat.le_of_ble_eq_true rfl) ⟨Nat.zero_le _, Nat.zero_le _⟩ dX12_outputAt_17 I) ?_
  intro r2 w1 H locs e0 I
  subst e0
  have I : fb_In D A s.heap (([fb_o12 za zr (upd (upd fr_e0 19 (0 : Int32)) 19 (1 : Int32)), fb_aw cI (zr 0) 16205 (fr_m (fun _ => 0) 0)] : List va_W).flatten) H locs := I
  refine lv_if_eq (tgt := 27) hx hb dX12_outputAt_20 (by decide) (fun c3 => absurd c3 (by decide)) (fun _ => ?_)
  refine lv_iconst (v := (0 : Int32)) hx hb dX12_outputAt_23 (by decide) ?_
  refine lv_goto (tgt := 32) hx hb dX12_outputAt_24 (by decide) ?_
  exact fb_retI (u := ()) X I rfl rfl dX12_outputAt_32

set_option maxHeartbeats 4000000 in
set_option maxRecDepth 100000 in
theorem c_callAt (l : Launch) (D : va_G) (cI cJ : ClassId) (za : Nat) (zr : Nat → Nat) (l1 : Int32) (sz : Nat)  : Met l yX12_callAt (Cond.code yX12_callAt cX12_callAt 2 (some .int) :: fb_all) ({ frames := 3, cells := 0, slots := 0, locals := 75 } : Room) (fb_PP D (fb_ty D cI cJ) [.ref za, .int l1] (([fb_o12 za zr fr_e0, fb_aw cI (zr 0) 16205 (fr_m (fun _ => 0) 0)] : List va_W).flatten) sz) (fb_QI D (va_A (([fb_o12 za zr fr_e0, fb_aw cI (zr 0) 16205 (fr_m (fun _ => 0) 0)] : List va_W).flatten) sz) (fun (r : Int32) (_ : Unit) => r = (0 : Int32)) (fun (t : Unit) => ([fb_o12 za zr (upd (upd fr_e0 19 (0 : Int32)) 19 (1 : Int32)), fb_aw cI (zr 0) 16205 (fr_m (fun _ => 0) 0)] : List va_W).flatten)) 0 0 (va_A (([fb_o12 za zr fr_e0, fb_aw cI (zr 0) 16205 (fr_m (fun _ => 0) 0)] : List va_W).flatten) sz) := by
  refine fb_ent (Qf := fun A => (fb_QI D A (fun (r : Int32) (_ : Unit) => r = (0 : Int32)) (fun (t : Unit) => ([fb_o12 za zr (upd (upd fr_e0 19 (0 : Int32)) 19 (1 : Int32)), fb_aw cI (zr 0) 16205 (fr_m (fun _ => 0) 0)] : List va_W).flatten))) (by decide +kernel) (Nat.le_of_ble_eq_true rfl) ?_
  intro p e s m args below meth c A ls X I hl hin
  obtain ⟨hx, hb, hr, hml, hown, hts, hlk, hA, hK, hF⟩ := id X
  have hl : lv_has ls 2 [(0, .ref za), (1, .int l1)] := hl
  refine lv_aload_n hx hb dX12_callAt_0 rfl (lv_at hl 0 rfl) ?_
  refine lv_iload_n hx hb dX12_callAt_1 rfl (lv_at hl 1 rfl) ?_
  refine lv_iconst (v := (0 : Int32)) hx hb dX12_callAt_2 (by decide) ?_
  refine lv_aload_n hx hb dX12_callAt_3 rfl (lv_at hl 0 rfl) ?_
  refine fb_get X I (k := 0) (v := .ref (zr 0)) fu_X12 0 fb_h12 rfl (Nat.le_of_ble_eq_true rfl) fw_1964 rfl rfl dX12_callAt_4 ?_
  refine lv_bipush (v := (20 : Int32)) hx hb dX12_callAt_7 (by decide) ?_
  refine fb_iaC (n := 20) (v := (0 : Int32)) X I 1 0 rfl rfl (by decide) (by decide) (Nat.le_of_ble_eq_true rfl) rfl dX12_callAt_9 ?_
  refine lv_iconst (v := (1 : Int32)) hx hb dX12_callAt_10 (by decide) ?_
  refine lv_isub hx hb dX12_callAt_11 ?_
  refine fb_tI (v := (-1 : Int32)) (by decide) ?_
  refine fb_gI (cs := [fb_o12 za zr fr_e0]) (rs := [fb_aw cI (zr 0) 16205 (fr_m (fun _ => 0) 0)]) (fun (t : Unit) => [fb_o12 za zr (upd (upd fr_e0 19 (0 : Int32)) 19 (1 : Int32)), fb_aw cI (zr 0) 16205 (fr_m (fun _ => 0) 0)]) (fun (t : Unit) => [fb_o12 za zr (upd (upd fr_e0 19 (0 : Int32)) 19 (1 : Int32))]) X I [0, 1] 2 rfl (by decide +kernel) rfl rfl [0, 1] 2 (fun _ => rfl) (by decide +kernel) (fun _ => rfl) (fun _ => rfl) (fun I => fb_rV (As := [.int l1, .int (0 : Int32), .int (-1 : Int32)]) (rest := []) X hl (fb_goodV fw_2346 fw_2348 fw_136 fw_204 fw_2349) (c_isNot_out l D cI cJ za zr fr_e0 l1 (0 : Int32) (-1 : Int32) _ (fr_inNo l1)) rfl rfl rfl (by decide +kernel : fb_hd yX12_isNot 3) ⟨Nat.le_of_ble_eq_true rfl, Nat.le_of_ble_eq_true rfl⟩ rfl rfl rfl rfl rfl (Nat.le_of_ble_eq_true rfl) ⟨Nat.zero_le _, Nat.zero_le _⟩ dX12_callAt_12 I) ?_
  intro r2 w1 H locs e0 I
  subst e0
  have I : fb_In D A s.heap (([fb_o12 za zr (upd (upd fr_e0 19 (0 : Int32)) 19 (1 : Int32)), fb_aw cI (zr 0) 16205 (fr_m (fun _ => 0) 0)] : List va_W).flatten) H locs := I
  refine lv_if_eq (tgt := 22) hx hb dX12_callAt_15 (by decide) (fun c3 => absurd c3 (by decide)) (fun _ => ?_)
  refine lv_iconst (v := (0 : Int32)) hx hb dX12_callAt_18 (by decide) ?_
  refine lv_goto (tgt := 41) hx hb dX12_callAt_19 (by decide) ?_
  exact fb_retI (u := ()) X I rfl rfl dX12_callAt_41

set_option maxHeartbeats 4000000 in
set_option maxRecDepth 100000 in
theorem c_nameNear_out (l : Launch) (D : va_G) (cI cJ : ClassId) (za : Nat) (zr : Nat → Nat) (l1 : Int32) (sz : Nat) (q1 : f_X12_isIn l1 (0 : Int32) (4095 : Int32) = (0 : Int32)) : Met l yX12_nameNear (Cond.code yX12_nameNear cX12_nameNear 4 (some .int) :: fb_all) ({ frames := 3, cells := 0, slots := 0, locals := 75 } : Room) (fb_PP D (fb_ty D cI cJ) [.ref za, .int l1] (([fb_o12 za zr fr_e0] : List va_W).flatten) sz) (fb_QI D (va_A (([fb_o12 za zr fr_e0] : List va_W).flatten) sz) (fun (r : Int32) (_ : Unit) => r = (0 : Int32)) (fun (t : Unit) => ([fb_o12 za zr (upd (upd fr_e0 19 (0 : Int32)) 19 (1 : Int32))] : List va_W).flatten)) 0 0 (va_A (([fb_o12 za zr fr_e0] : List va_W).flatten) sz) := by
  refine fb_ent (Qf := fun A => (fb_QI D A (fun (r : Int32) (_ : Unit) => r = (0 : Int32)) (fun (t : Unit) => ([fb_o12 za zr (upd (upd fr_e0 19 (0 : Int32)) 19 (1 : Int32))] : List va_W).flatten))) (by decide +kernel) (Nat.le_of_ble_eq_true rfl) ?_
  intro p e s m args below meth c A ls X I hl hin
  obtain ⟨hx, hb, hr, hml, hown, hts, hlk, hA, hK, hF⟩ := id X
  have hl : lv_has ls 4 [(0, .ref za), (1, .int l1)] := hl
  refine lv_aload_n hx hb dX12_nameNear_0 rfl (lv_at hl 0 rfl) ?_
  refine lv_iload_n hx hb dX12_nameNear_1 rfl (lv_at hl 1 rfl) ?_
  refine lv_iconst (v := (0 : Int32)) hx hb dX12_nameNear_2 (by decide) ?_
  refine lv_sipush (v := (4095 : Int32)) hx hb dX12_nameNear_3 (by decide) ?_
  refine fb_gI (cs := [fb_o12 za zr fr_e0]) (rs := []) (fun (t : Unit) => [fb_o12 za zr (upd (upd fr_e0 19 (0 : Int32)) 19 (1 : Int32))]) (fun (t : Unit) => [fb_o12 za zr (upd (upd fr_e0 19 (0 : Int32)) 19 (1 : Int32))]) X I [0] 1 rfl (by decide +kernel) rfl rfl [0] 1 (fun _ => rfl) (by decide +kernel) (fun _ => rfl) (fun _ => rfl) (fun I => fb_rV (As := [.int l1, .int (0 : Int32), .int (4095 : Int32)]) (rest := []) X hl (fb_goodV fw_2346 fw_2348 fw_136 fw_204 fw_2349) (c_isNot_out l D cI cJ za zr fr_e0 l1 (0 : Int32) (4095 : Int32) _ q1) rfl rfl rfl (by decide +kernel : fb_hd yX12_isNot 3) ⟨Nat.le_of_ble_eq_true rfl, Nat.le_of_ble_eq_true rfl⟩ rfl rfl rfl rfl rfl (Nat.le_of_ble_eq_true rfl) ⟨Nat.zero_le _, Nat.zero_le _⟩ dX12_nameNear_6 I) ?_
  intro r2 w1 H locs e0 I
  subst e0
  have I : fb_In D A s.heap (([fb_o12 za zr (upd (upd fr_e0 19 (0 : Int32)) 19 (1 : Int32))] : List va_W).flatten) H locs := I
  refine lv_if_eq (tgt := 14) hx hb dX12_nameNear_9 (by decide) (fun c3 => absurd c3 (by decide)) (fun _ => ?_)
  refine lv_iconst (v := (0 : Int32)) hx hb dX12_nameNear_12 (by decide) ?_
  exact fb_retI (u := ()) X I rfl rfl dX12_nameNear_13

set_option maxHeartbeats 4000000 in
set_option maxRecDepth 100000 in
theorem c_nameNear_in (l : Launch) (D : va_G) (cI cJ : ClassId) (za : Nat) (zr : Nat → Nat) (zj : Nat) (sz : Nat) (hj : 0 ≤ zj ∧ zj ≤ 4095) : Met l yX12_nameNear (Cond.code yX12_nameNear cX12_nameNear 4 (some .int) :: fb_all) ({ frames := 3, cells := 0, slots := 0, locals := 75 } : Room) (fb_PP D (fb_ty D cI cJ) [.ref za, .int (nI zj)] (([fb_o12 za zr fr_e0] : List va_W).flatten) sz) (fb_QI D (va_A (([fb_o12 za zr fr_e0] : List va_W).flatten) sz) (fun (r : Int32) (_ : Unit) => r = (-1 : Int32)) (fun (t : Unit) => ([fb_o12 za zr (upd fr_e0 19 (0 : Int32))] : List va_W).flatten)) 0 0 (va_A (([fb_o12 za zr fr_e0] : List va_W).flatten) sz) := by
  refine fb_ent (Qf := fun A => (fb_QI D A (fun (r : Int32) (_ : Unit) => r = (-1 : Int32)) (fun (t : Unit) => ([fb_o12 za zr (upd fr_e0 19 (0 : Int32))] : List va_W).flatten))) (by decide +kernel) (Nat.le_of_ble_eq_true rfl) ?_
  intro p e s m args below meth c A ls X I hl hin
  obtain ⟨hx, hb, hr, hml, hown, hts, hlk, hA, hK, hF⟩ := id X
  have hl : lv_has ls 4 [(0, .ref za), (1, .int (nI zj))] := hl
  refine lv_aload_n hx hb dX12_nameNear_0 rfl (lv_at hl 0 rfl) ?_
  refine lv_iload_n hx hb dX12_nameNear_1 rfl (lv_at hl 1 rfl) ?_
  refine lv_iconst (v := (0 : Int32)) hx hb dX12_nameNear_2 (by decide) ?_
  refine lv_sipush (v := (4095 : Int32)) hx hb dX12_nameNear_3 (by decide) ?_
  refine fb_gI (cs := [fb_o12 za zr fr_e0]) (rs := []) (fun (t : Unit) => [fb_o12 za zr (upd fr_e0 19 (0 : Int32))]) (fun (t : Unit) => [fb_o12 za zr (upd fr_e0 19 (0 : Int32))]) X I [0] 1 rfl (by decide +kernel) rfl rfl [0] 1 (fun _ => rfl) (by decide +kernel) (fun _ => rfl) (fun _ => rfl) (fun I => fb_rV (As := [.int (nI zj), .int (0 : Int32), .int (4095 : Int32)]) (rest := []) X hl (fb_goodV fw_2346 fw_2348 fw_136 fw_204 fw_2349) (c_isNot_in l D cI cJ za zr fr_e0 (nI zj) (0 : Int32) (4095 : Int32) _ (fr_inN (z := zj) (a := 0) (b := 4095) (by omega) (by omega) (by omega))) rfl rfl rfl (by decide +kernel : fb_hd yX12_isNot 3) ⟨Nat.le_of_ble_eq_true rfl, Nat.le_of_ble_eq_true rfl⟩ rfl rfl rfl rfl rfl (Nat.le_of_ble_eq_true rfl) ⟨Nat.zero_le _, Nat.zero_le _⟩ dX12_nameNear_6 I) ?_
  intro r2 w1 H locs e0 I
  subst e0
  have I : fb_In D A s.heap (([fb_o12 za zr (upd fr_e0 19 (0 : Int32))] : List va_W).flatten) H locs := I
  refine lv_if_eq (tgt := 14) hx hb dX12_nameNear_9 (by decide) (fun _ => ?_) (fun c3 => absurd (by decide) c3)
  refine lv_iconst (v := (-1 : Int32)) hx hb dX12_nameNear_14 (by decide) ?_
  refine lv_istore_n (lv' := [(2, .int (-1 : Int32)), (0, .ref za), (1, .int (nI zj))]) hx hb dX12_nameNear_15 rfl hl (by decide) rfl (fun ls hl => ?_)
  refine lv_iconst (v := (0 : Int32)) hx hb dX12_nameNear_16 (by decide) ?_
  refine lv_istore_n (lv' := [(3, .int (0 : Int32)), (2, .int (-1 : Int32)), (0, .ref za), (1, .int (nI zj))]) hx hb dX12_nameNear_17 rfl hl (by decide) rfl (fun ls hl => ?_)
  refine lv_iload_n hx hb dX12_nameNear_18 rfl (lv_at hl 0 rfl) ?_
  refine lv_aload_n hx hb dX12_nameNear_19 rfl (lv_at hl 2 rfl) ?_
  refine fb_get X I (k := 49) (v := .int (fr_e0 49)) fu_X12 0 fb_h12 rfl (Nat.le_of_ble_eq_true rfl) fw_2013 rfl rfl dX12_nameNear_20 ?_
  refine fb_tI (v := (0 : Int32)) rfl ?_
  refine lv_icmp_ge (tgt := 67) hx hb dX12_nameNear_23 (by decide) (fun _ => ?_) (fun c4 => absurd (by decide) c4)
  refine lv_iload_n hx hb dX12_nameNear_67 rfl (lv_at hl 1 rfl) ?_
  exact fb_retI (u := ()) X I rfl rfl dX12_nameNear_68

set_option maxHeartbeats 4000000 in
set_option maxRecDepth 100000 in
theorem c_byteAt_out (l : Launch) (D : va_G) (cI cJ : ClassId) (za : Nat) (zr : Nat → Nat) (l1 : Int32) (sz : Nat) (q1 : f_X12_isIn l1 (0 : Int32) (4095 : Int32) = (0 : Int32)) : Met l yX12_byteAt (Cond.code yX12_byteAt cX12_byteAt 2 (some .int) :: fb_all) ({ frames := 3, cells := 0, slots := 0, locals := 75 } : Room) (fb_PP D (fb_ty D cI cJ) [.ref za, .int l1] (([fb_o12 za zr fr_e0, fb_aw cI (zr 0) 16205 (fr_m (fun _ => 0) 0)] : List va_W).flatten) sz) (fb_QI D (va_A (([fb_o12 za zr fr_e0, fb_aw cI (zr 0) 16205 (fr_m (fun _ => 0) 0)] : List va_W).flatten) sz) (fun (r : Int32) (_ : Unit) => r = (0 : Int32)) (fun (t : Unit) => ([fb_o12 za zr (upd (upd fr_e0 19 (0 : Int32)) 19 (1 : Int32)), fb_aw cI (zr 0) 16205 (fr_m (fun _ => 0) 0)] : List va_W).flatten)) 0 0 (va_A (([fb_o12 za zr fr_e0, fb_aw cI (zr 0) 16205 (fr_m (fun _ => 0) 0)] : List va_W).flatten) sz) := by
  refine fb_ent (Qf := fun A => (fb_QI D A (fun (r : Int32) (_ : Unit) => r = (0 : Int32)) (fun (t : Unit) => ([fb_o12 za zr (upd (upd fr_e0 19 (0 : Int32)) 19 (1 : Int32)), fb_aw cI (zr 0) 16205 (fr_m (fun _ => 0) 0)] : List va_W).flatten))) (by decide +kernel) (Nat.le_of_ble_eq_true rfl) ?_
  intro p e s m args below meth c A ls X I hl hin
  obtain ⟨hx, hb, hr, hml, hown, hts, hlk, hA, hK, hF⟩ := id X
  have hl : lv_has ls 2 [(0, .ref za), (1, .int l1)] := hl
  refine lv_aload_n hx hb dX12_byteAt_0 rfl (lv_at hl 0 rfl) ?_
  refine lv_iload_n hx hb dX12_byteAt_1 rfl (lv_at hl 1 rfl) ?_
  refine lv_iconst (v := (0 : Int32)) hx hb dX12_byteAt_2 (by decide) ?_
  refine lv_sipush (v := (4095 : Int32)) hx hb dX12_byteAt_3 (by decide) ?_
  refine fb_gI (cs := [fb_o12 za zr fr_e0]) (rs := [fb_aw cI (zr 0) 16205 (fr_m (fun _ => 0) 0)]) (fun (t : Unit) => [fb_o12 za zr (upd (upd fr_e0 19 (0 : Int32)) 19 (1 : Int32)), fb_aw cI (zr 0) 16205 (fr_m (fun _ => 0) 0)]) (fun (t : Unit) => [fb_o12 za zr (upd (upd fr_e0 19 (0 : Int32)) 19 (1 : Int32))]) X I [0, 1] 2 rfl (by decide +kernel) rfl rfl [0, 1] 2 (fun _ => rfl) (by decide +kernel) (fun _ => rfl) (fun _ => rfl) (fun I => fb_rV (As := [.int l1, .int (0 : Int32), .int (4095 : Int32)]) (rest := []) X hl (fb_goodV fw_2346 fw_2348 fw_136 fw_204 fw_2349) (c_isNot_out l D cI cJ za zr fr_e0 l1 (0 : Int32) (4095 : Int32) _ q1) rfl rfl rfl (by decide +kernel : fb_hd yX12_isNot 3) ⟨Nat.le_of_ble_eq_true rfl, Nat.le_of_ble_eq_true rfl⟩ rfl rfl rfl rfl rfl (Nat.le_of_ble_eq_true rfl) ⟨Nat.zero_le _, Nat.zero_le _⟩ dX12_byteAt_6 I) ?_
  intro r2 w1 H locs e0 I
  subst e0
  have I : fb_In D A s.heap (([fb_o12 za zr (upd (upd fr_e0 19 (0 : Int32)) 19 (1 : Int32)), fb_aw cI (zr 0) 16205 (fr_m (fun _ => 0) 0)] : List va_W).flatten) H locs := I
  refine lv_if_eq (tgt := 16) hx hb dX12_byteAt_9 (by decide) (fun c3 => absurd c3 (by decide)) (fun _ => ?_)
  refine lv_iconst (v := (0 : Int32)) hx hb dX12_byteAt_12 (by decide) ?_
  refine lv_goto (tgt := 21) hx hb dX12_byteAt_13 (by decide) ?_
  exact fb_retI (u := ()) X I rfl rfl dX12_byteAt_21

set_option maxHeartbeats 4000000 in
set_option maxRecDepth 100000 in
theorem c_byteAt_in (l : Launch) (D : va_G) (cI cJ : ClassId) (za : Nat) (zr : Nat → Nat) (zj : Nat) (sz : Nat) (hj : 0 ≤ zj ∧ zj ≤ 4095) : Met l yX12_byteAt (Cond.code yX12_byteAt cX12_byteAt 2 (some .int) :: fb_all) ({ frames := 4, cells := 0, slots := 0, locals := 101 } : Room) (fb_PP D (fb_ty D cI cJ) [.ref za, .int (nI zj)] (([fb_o12 za zr fr_e0, fb_aw cI (zr 0) 16205 (fr_m (fun _ => 0) 0)] : List va_W).flatten) sz) (fb_QI D (va_A (([fb_o12 za zr fr_e0, fb_aw cI (zr 0) 16205 (fr_m (fun _ => 0) 0)] : List va_W).flatten) sz) (fun (r : Int32) (_ : Unit) => r = (0 : Int32)) (fun (t : Unit) => ([fb_o12 za zr (upd fr_e0 19 (0 : Int32)), fb_aw cI (zr 0) 16205 (fr_m (fun _ => 0) 0)] : List va_W).flatten)) 0 0 (va_A (([fb_o12 za zr fr_e0, fb_aw cI (zr 0) 16205 (fr_m (fun _ => 0) 0)] : List va_W).flatten) sz) := by
  refine fb_ent (Qf := fun A => (fb_QI D A (fun (r : Int32) (_ : Unit) => r = (0 : Int32)) (fun (t : Unit) => ([fb_o12 za zr (upd fr_e0 19 (0 : Int32)), fb_aw cI (zr 0) 16205 (fr_m (fun _ => 0) 0)] : List va_W).flatten))) (by decide +kernel) (Nat.le_of_ble_eq_true rfl) ?_
  intro p e s m args below meth c A ls X I hl hin
  obtain ⟨hx, hb, hr, hml, hown, hts, hlk, hA, hK, hF⟩ := id X
  have hl : lv_has ls 2 [(0, .ref za), (1, .int (nI zj))] := hl
  refine lv_aload_n hx hb dX12_byteAt_0 rfl (lv_at hl 0 rfl) ?_
  refine lv_iload_n hx hb dX12_byteAt_1 rfl (lv_at hl 1 rfl) ?_
  refine lv_iconst (v := (0 : Int32)) hx hb dX12_byteAt_2 (by decide) ?_
  refine lv_sipush (v := (4095 : Int32)) hx hb dX12_byteAt_3 (by decide) ?_
  refine fb_gI (cs := [fb_o12 za zr fr_e0]) (rs := [fb_aw cI (zr 0) 16205 (fr_m (fun _ => 0) 0)]) (fun (t : Unit) => [fb_o12 za zr (upd fr_e0 19 (0 : Int32)), fb_aw cI (zr 0) 16205 (fr_m (fun _ => 0) 0)]) (fun (t : Unit) => [fb_o12 za zr (upd fr_e0 19 (0 : Int32))]) X I [0, 1] 2 rfl (by decide +kernel) rfl rfl [0, 1] 2 (fun _ => rfl) (by decide +kernel) (fun _ => rfl) (fun _ => rfl) (fun I => fb_rV (As := [.int (nI zj), .int (0 : Int32), .int (4095 : Int32)]) (rest := []) X hl (fb_goodV fw_2346 fw_2348 fw_136 fw_204 fw_2349) (c_isNot_in l D cI cJ za zr fr_e0 (nI zj) (0 : Int32) (4095 : Int32) _ (fr_inN (z := zj) (a := 0) (b := 4095) (by omega) (by omega) (by omega))) rfl rfl rfl (by decide +kernel : fb_hd yX12_isNot 3) ⟨Nat.le_of_ble_eq_true rfl, Nat.le_of_ble_eq_true rfl⟩ rfl rfl rfl rfl rfl (Nat.le_of_ble_eq_true rfl) ⟨Nat.zero_le _, Nat.zero_le _⟩ dX12_byteAt_6 I) ?_
  intro r2 w1 H locs e0 I
  subst e0
  have I : fb_In D A s.heap (([fb_o12 za zr (upd fr_e0 19 (0 : Int32)), fb_aw cI (zr 0) 16205 (fr_m (fun _ => 0) 0)] : List va_W).flatten) H locs := I
  refine lv_if_eq (tgt := 16) hx hb dX12_byteAt_9 (by decide) (fun _ => ?_) (fun c3 => absurd (by decide) c3)
  refine lv_aload_n hx hb dX12_byteAt_16 rfl (lv_at hl 0 rfl) ?_
  refine lv_iload_n hx hb dX12_byteAt_17 rfl (lv_at hl 1 rfl) ?_
  refine fb_gO (cs := [fb_o12 za zr (upd fr_e0 19 (0 : Int32)), fb_aw cI (zr 0) 16205 (fr_m (fun _ => 0) 0)]) (rs := []) X I [0, 1] 2 rfl (by decide +kernel) rfl rfl (fun I => fb_rV (As := [.int (nI zj)]) (rest := []) X hl (fb_goodV fw_1949 fw_1951 fw_86 fw_204 fw_1952) (c_code l D cI cJ za zr (upd fr_e0 19 (0 : Int32)) (fr_m (fun _ => 0) 0) (nI zj) _ (fr_hm _ _) rfl) rfl rfl rfl (by decide +kernel : fb_hd yX12_code 1) ⟨Nat.le_of_ble_eq_true rfl, Nat.le_of_ble_eq_true rfl⟩ rfl rfl rfl rfl rfl (Nat.le_of_ble_eq_true rfl) ⟨Nat.zero_le _, Nat.zero_le _⟩ dX12_byteAt_18 I) ?_
  exact fb_retI (u := ()) X I rfl rfl dX12_byteAt_21

set_option maxHeartbeats 4000000 in
set_option maxRecDepth 100000 in
theorem c_codeAt_out (l : Launch) (D : va_G) (cI cJ : ClassId) (za : Nat) (zr : Nat → Nat) (l1 : Int32) (sz : Nat) (q1 : f_X12_isIn l1 (0 : Int32) (4095 : Int32) = (0 : Int32)) : Met l yX12_codeAt (Cond.code yX12_codeAt cX12_codeAt 2 (some .int) :: fb_all) ({ frames := 3, cells := 0, slots := 0, locals := 75 } : Room) (fb_PP D (fb_ty D cI cJ) [.ref za, .int l1] (([fb_o12 za zr fr_e0, fb_aw cI (zr 0) 16205 (fr_m (fun _ => 0) 0)] : List va_W).flatten) sz) (fb_QI D (va_A (([fb_o12 za zr fr_e0, fb_aw cI (zr 0) 16205 (fr_m (fun _ => 0) 0)] : List va_W).flatten) sz) (fun (r : Int32) (_ : Unit) => r = (0 : Int32)) (fun (t : Unit) => ([fb_o12 za zr (upd (upd fr_e0 19 (0 : Int32)) 19 (1 : Int32)), fb_aw cI (zr 0) 16205 (fr_m (fun _ => 0) 0)] : List va_W).flatten)) 0 0 (va_A (([fb_o12 za zr fr_e0, fb_aw cI (zr 0) 16205 (fr_m (fun _ => 0) 0)] : List va_W).flatten) sz) := by
  refine fb_ent (Qf := fun A => (fb_QI D A (fun (r : Int32) (_ : Unit) => r = (0 : Int32)) (fun (t : Unit) => ([fb_o12 za zr (upd (upd fr_e0 19 (0 : Int32)) 19 (1 : Int32)), fb_aw cI (zr 0) 16205 (fr_m (fun _ => 0) 0)] : List va_W).flatten))) (by decide +kernel) (Nat.le_of_ble_eq_true rfl) ?_
  intro p e s m args below meth c A ls X I hl hin
  obtain ⟨hx, hb, hr, hml, hown, hts, hlk, hA, hK, hF⟩ := id X
  have hl : lv_has ls 2 [(0, .ref za), (1, .int l1)] := hl
  refine lv_aload_n hx hb dX12_codeAt_0 rfl (lv_at hl 0 rfl) ?_
  refine lv_iload_n hx hb dX12_codeAt_1 rfl (lv_at hl 1 rfl) ?_
  refine lv_iconst (v := (0 : Int32)) hx hb dX12_codeAt_2 (by decide) ?_
  refine lv_sipush (v := (4095 : Int32)) hx hb dX12_codeAt_3 (by decide) ?_
  refine fb_gI (cs := [fb_o12 za zr fr_e0]) (rs := [fb_aw cI (zr 0) 16205 (fr_m (fun _ => 0) 0)]) (fun (t : Unit) => [fb_o12 za zr (upd (upd fr_e0 19 (0 : Int32)) 19 (1 : Int32)), fb_aw cI (zr 0) 16205 (fr_m (fun _ => 0) 0)]) (fun (t : Unit) => [fb_o12 za zr (upd (upd fr_e0 19 (0 : Int32)) 19 (1 : Int32))]) X I [0, 1] 2 rfl (by decide +kernel) rfl rfl [0, 1] 2 (fun _ => rfl) (by decide +kernel) (fun _ => rfl) (fun _ => rfl) (fun I => fb_rV (As := [.int l1, .int (0 : Int32), .int (4095 : Int32)]) (rest := []) X hl (fb_goodV fw_2346 fw_2348 fw_136 fw_204 fw_2349) (c_isNot_out l D cI cJ za zr fr_e0 l1 (0 : Int32) (4095 : Int32) _ q1) rfl rfl rfl (by decide +kernel : fb_hd yX12_isNot 3) ⟨Nat.le_of_ble_eq_true rfl, Nat.le_of_ble_eq_true rfl⟩ rfl rfl rfl rfl rfl (Nat.le_of_ble_eq_true rfl) ⟨Nat.zero_le _, Nat.zero_le _⟩ dX12_codeAt_6 I) ?_
  intro r2 w1 H locs e0 I
  subst e0
  have I : fb_In D A s.heap (([fb_o12 za zr (upd (upd fr_e0 19 (0 : Int32)) 19 (1 : Int32)), fb_aw cI (zr 0) 16205 (fr_m (fun _ => 0) 0)] : List va_W).flatten) H locs := I
  refine lv_if_eq (tgt := 16) hx hb dX12_codeAt_9 (by decide) (fun c3 => absurd c3 (by decide)) (fun _ => ?_)
  refine lv_iconst (v := (0 : Int32)) hx hb dX12_codeAt_12 (by decide) ?_
  refine lv_goto (tgt := 36) hx hb dX12_codeAt_13 (by decide) ?_
  exact fb_retI (u := ()) X I rfl rfl dX12_codeAt_36

set_option maxHeartbeats 4000000 in
set_option maxRecDepth 100000 in
theorem c_codeAt_in (l : Launch) (D : va_G) (cI cJ : ClassId) (za : Nat) (zr : Nat → Nat) (zj : Nat) (sz : Nat) (hj : 0 ≤ zj ∧ zj ≤ 4095) : Met l yX12_codeAt (Cond.code yX12_codeAt cX12_codeAt 2 (some .int) :: fb_all) ({ frames := 4, cells := 0, slots := 0, locals := 101 } : Room) (fb_PP D (fb_ty D cI cJ) [.ref za, .int (nI zj)] (([fb_o12 za zr fr_e0, fb_aw cI (zr 0) 16205 (fr_m (fun _ => 0) 0)] : List va_W).flatten) sz) (fb_QI D (va_A (([fb_o12 za zr fr_e0, fb_aw cI (zr 0) 16205 (fr_m (fun _ => 0) 0)] : List va_W).flatten) sz) (fun (r : Int32) (_ : Unit) => r = (0 : Int32)) (fun (t : Unit) => ([fb_o12 za zr (upd fr_e0 19 (0 : Int32)), fb_aw cI (zr 0) 16205 (fr_m (fun _ => 0) 0)] : List va_W).flatten)) 0 0 (va_A (([fb_o12 za zr fr_e0, fb_aw cI (zr 0) 16205 (fr_m (fun _ => 0) 0)] : List va_W).flatten) sz) := by
  refine fb_ent (Qf := fun A => (fb_QI D A (fun (r : Int32) (_ : Unit) => r = (0 : Int32)) (fun (t : Unit) => ([fb_o12 za zr (upd fr_e0 19 (0 : Int32)), fb_aw cI (zr 0) 16205 (fr_m (fun _ => 0) 0)] : List va_W).flatten))) (by decide +kernel) (Nat.le_of_ble_eq_true rfl) ?_
  intro p e s m args below meth c A ls X I hl hin
  obtain ⟨hx, hb, hr, hml, hown, hts, hlk, hA, hK, hF⟩ := id X
  have hl : lv_has ls 2 [(0, .ref za), (1, .int (nI zj))] := hl
  refine lv_aload_n hx hb dX12_codeAt_0 rfl (lv_at hl 0 rfl) ?_
  refine lv_iload_n hx hb dX12_codeAt_1 rfl (lv_at hl 1 rfl) ?_
  refine lv_iconst (v := (0 : Int32)) hx hb dX12_codeAt_2 (by decide) ?_
  refine lv_sipush (v := (4095 : Int32)) hx hb dX12_codeAt_3 (by decide) ?_
  refine fb_gI (cs := [fb_o12 za zr fr_e0]) (rs := [fb_aw cI (zr 0) 16205 (fr_m (fun _ => 0) 0)]) (fun (t : Unit) => [fb_o12 za zr (upd fr_e0 19 (0 : Int32)), fb_aw cI (zr 0) 16205 (fr_m (fun _ => 0) 0)]) (fun (t : Unit) => [fb_o12 za zr (upd fr_e0 19 (0 : Int32))]) X I [0, 1] 2 rfl (by decide +kernel) rfl rfl [0, 1] 2 (fun _ => rfl) (by decide +kernel) (fun _ => rfl) (fun _ => rfl) (fun I => fb_rV (As := [.int (nI zj), .int (0 : Int32), .int (4095 : Int32)]) (rest := []) X hl (fb_goodV fw_2346 fw_2348 fw_136 fw_204 fw_2349) (c_isNot_in l D cI cJ za zr fr_e0 (nI zj) (0 : Int32) (4095 : Int32) _ (fr_inN (z := zj) (a := 0) (b := 4095) (by omega) (by omega) (by omega))) rfl rfl rfl (by decide +kernel : fb_hd yX12_isNot 3) ⟨Nat.le_of_ble_eq_true rfl, Nat.le_of_ble_eq_true rfl⟩ rfl rfl rfl rfl rfl (Nat.le_of_ble_eq_true rfl) ⟨Nat.zero_le _, Nat.zero_le _⟩ dX12_codeAt_6 I) ?_
  intro r2 w1 H locs e0 I
  subst e0
  have I : fb_In D A s.heap (([fb_o12 za zr (upd fr_e0 19 (0 : Int32)), fb_aw cI (zr 0) 16205 (fr_m (fun _ => 0) 0)] : List va_W).flatten) H locs := I
  refine lv_if_eq (tgt := 16) hx hb dX12_codeAt_9 (by decide) (fun _ => ?_) (fun c3 => absurd (by decide) c3)
  refine lv_aload_n hx hb dX12_codeAt_16 rfl (lv_at hl 0 rfl) ?_
  refine lv_iload_n hx hb dX12_codeAt_17 rfl (lv_at hl 1 rfl) ?_
  refine fb_gO (cs := [fb_o12 za zr (upd fr_e0 19 (0 : Int32)), fb_aw cI (zr 0) 16205 (fr_m (fun _ => 0) 0)]) (rs := []) X I [0, 1] 2 rfl (by decide +kernel) rfl rfl (fun I => fb_rV (As := [.int (nI zj)]) (rest := []) X hl (fb_goodV fw_1949 fw_1951 fw_86 fw_204 fw_1952) (c_code l D cI cJ za zr (upd fr_e0 19 (0 : Int32)) (fr_m (fun _ => 0) 0) (nI zj) _ (fr_hm _ _) rfl) rfl rfl rfl (by decide +kernel : fb_hd yX12_code 1) ⟨Nat.le_of_ble_eq_true rfl, Nat.le_of_ble_eq_true rfl⟩ rfl rfl rfl rfl rfl (Nat.le_of_ble_eq_true rfl) ⟨Nat.zero_le _, Nat.zero_le _⟩ dX12_codeAt_18 I) ?_
  refine fb_gO (cs := []) (rs := [fb_o12 za zr (upd fr_e0 19 (0 : Int32)), fb_aw cI (zr 0) 16205 (fr_m (fun _ => 0) 0)]) X I [0, 1] 2 rfl (by decide +kernel) rfl rfl (fun I => fb_rS (As := [.int (0 : Int32)]) (rest := []) X hl (fb_goodS fw_2492 fw_2493 fw_204 fw_2494) (c_X12_isInstruction l D cI cJ (0 : Int32) _) rfl rfl (by decide +kernel : fb_hd yX12_isInstruction 1) ⟨Nat.le_of_ble_eq_true rfl, Nat.le_of_ble_eq_true rfl⟩ rfl rfl (Nat.le_of_ble_eq_true rfl) ⟨Nat.le_of_ble_eq_true rfl, Nat.le_of_ble_eq_true rfl⟩ dX12_codeAt_21 I) ?_
  refine fb_tI (v := (1 : Int32)) (by decide) ?_
  refine lv_if_eq (tgt := 35) hx hb dX12_codeAt_24 (by decide) (fun c4 => absurd c4 (by decide)) (fun _ => ?_)
  refine lv_aload_n hx hb dX12_codeAt_27 rfl (lv_at hl 0 rfl) ?_
  refine lv_iload_n hx hb dX12_codeAt_28 rfl (lv_at hl 1 rfl) ?_
  refine fb_gO (cs := [fb_o12 za zr (upd fr_e0 19 (0 : Int32)), fb_aw cI (zr 0) 16205 (fr_m (fun _ => 0) 0)]) (rs := []) X I [0, 1] 2 rfl (by decide +kernel) rfl rfl (fun I => fb_rV (As := [.int (nI zj)]) (rest := []) X hl (fb_goodV fw_1949 fw_1951 fw_86 fw_204 fw_1952) (c_code l D cI cJ za zr (upd fr_e0 19 (0 : Int32)) (fr_m (fun _ => 0) 0) (nI zj) _ (fr_hm _ _) rfl) rfl rfl rfl (by decide +kernel : fb_hd yX12_code 1) ⟨Nat.le_of_ble_eq_true rfl, Nat.le_of_ble_eq_true rfl⟩ rfl rfl rfl rfl rfl (Nat.le_of_ble_eq_true rfl) ⟨Nat.zero_le _, Nat.zero_le _⟩ dX12_codeAt_29 I) ?_
  refine lv_goto (tgt := 36) hx hb dX12_codeAt_32 (by decide) ?_
  exact fb_retI (u := ()) X I rfl rfl dX12_codeAt_36

set_option maxHeartbeats 4000000 in
set_option maxRecDepth 100000 in
theorem c_lengthAt_out (l : Launch) (D : va_G) (cI cJ : ClassId) (za : Nat) (zr : Nat → Nat) (l1 : Int32) (sz : Nat) (q1 : f_X12_isIn l1 (0 : Int32) (4095 : Int32) = (0 : Int32)) : Met l yX12_lengthAt (Cond.code yX12_lengthAt cX12_lengthAt 2 (some .int) :: fb_all) ({ frames := 3, cells := 0, slots := 0, locals := 75 } : Room) (fb_PP D (fb_ty D cI cJ) [.ref za, .int l1] (([fb_o12 za zr fr_e0, fb_aw cI (zr 0) 16205 (fr_m (fun _ => 0) 0)] : List va_W).flatten) sz) (fb_QI D (va_A (([fb_o12 za zr fr_e0, fb_aw cI (zr 0) 16205 (fr_m (fun _ => 0) 0)] : List va_W).flatten) sz) (fun (r : Int32) (_ : Unit) => r = (0 : Int32)) (fun (t : Unit) => ([fb_o12 za zr (upd (upd fr_e0 19 (0 : Int32)) 19 (1 : Int32)), fb_aw cI (zr 0) 16205 (fr_m (fun _ => 0) 0)] : List va_W).flatten)) 0 0 (va_A (([fb_o12 za zr fr_e0, fb_aw cI (zr 0) 16205 (fr_m (fun _ => 0) 0)] : List va_W).flatten) sz) := by
  refine fb_ent (Qf := fun A => (fb_QI D A (fun (r : Int32) (_ : Unit) => r = (0 : Int32)) (fun (t : Unit) => ([fb_o12 za zr (upd (upd fr_e0 19 (0 : Int32)) 19 (1 : Int32)), fb_aw cI (zr 0) 16205 (fr_m (fun _ => 0) 0)] : List va_W).flatten))) (by decide +kernel) (Nat.le_of_ble_eq_true rfl) ?_
  intro p e s m args below meth c A ls X I hl hin
  obtain ⟨hx, hb, hr, hml, hown, hts, hlk, hA, hK, hF⟩ := id X
  have hl : lv_has ls 2 [(0, .ref za), (1, .int l1)] := hl
  refine lv_aload_n hx hb dX12_lengthAt_0 rfl (lv_at hl 0 rfl) ?_
  refine lv_iload_n hx hb dX12_lengthAt_1 rfl (lv_at hl 1 rfl) ?_
  refine lv_iconst (v := (0 : Int32)) hx hb dX12_lengthAt_2 (by decide) ?_
  refine lv_sipush (v := (4095 : Int32)) hx hb dX12_lengthAt_3 (by decide) ?_
  refine fb_gI (cs := [fb_o12 za zr fr_e0]) (rs := [fb_aw cI (zr 0) 16205 (fr_m (fun _ => 0) 0)]) (fun (t : Unit) => [fb_o12 za zr (upd (upd fr_e0 19 (0 : Int32)) 19 (1 : Int32)), fb_aw cI (zr 0) 16205 (fr_m (fun _ => 0) 0)]) (fun (t : Unit) => [fb_o12 za zr (upd (upd fr_e0 19 (0 : Int32)) 19 (1 : Int32))]) X I [0, 1] 2 rfl (by decide +kernel) rfl rfl [0, 1] 2 (fun _ => rfl) (by decide +kernel) (fun _ => rfl) (fun _ => rfl) (fun I => fb_rV (As := [.int l1, .int (0 : Int32), .int (4095 : Int32)]) (rest := []) X hl (fb_goodV fw_2346 fw_2348 fw_136 fw_204 fw_2349) (c_isNot_out l D cI cJ za zr fr_e0 l1 (0 : Int32) (4095 : Int32) _ q1) rfl rfl rfl (by decide +kernel : fb_hd yX12_isNot 3) ⟨Nat.le_of_ble_eq_true rfl, Nat.le_of_ble_eq_true rfl⟩ rfl rfl rfl rfl rfl (Nat.le_of_ble_eq_true rfl) ⟨Nat.zero_le _, Nat.zero_le _⟩ dX12_lengthAt_6 I) ?_
  intro r2 w1 H locs e0 I
  subst e0
  have I : fb_In D A s.heap (([fb_o12 za zr (upd (upd fr_e0 19 (0 : Int32)) 19 (1 : Int32)), fb_aw cI (zr 0) 16205 (fr_m (fun _ => 0) 0)] : List va_W).flatten) H locs := I
  refine lv_if_ne (tgt := 23) hx hb dX12_lengthAt_9 (by decide) (fun _ => ?_) (fun c3 => absurd c3 (by decide))
  refine lv_iconst (v := (0 : Int32)) hx hb dX12_lengthAt_23 (by decide) ?_
  refine lv_goto (tgt := 35) hx hb dX12_lengthAt_24 (by decide) ?_
  exact fb_retI (u := ()) X I rfl rfl dX12_lengthAt_35

set_option maxHeartbeats 4000000 in
set_option maxRecDepth 100000 in
theorem c_lengthAt_in (l : Launch) (D : va_G) (cI cJ : ClassId) (za : Nat) (zr : Nat → Nat) (zj : Nat) (sz : Nat) (hj : 0 ≤ zj ∧ zj ≤ 4095) : Met l yX12_lengthAt (Cond.code yX12_lengthAt cX12_lengthAt 2 (some .int) :: fb_all) ({ frames := 4, cells := 0, slots := 0, locals := 101 } : Room) (fb_PP D (fb_ty D cI cJ) [.ref za, .int (nI zj)] (([fb_o12 za zr fr_e0, fb_aw cI (zr 0) 16205 (fr_m (fun _ => 0) 0)] : List va_W).flatten) sz) (fb_QI D (va_A (([fb_o12 za zr fr_e0, fb_aw cI (zr 0) 16205 (fr_m (fun _ => 0) 0)] : List va_W).flatten) sz) (fun (r : Int32) (_ : Unit) => r = (1 : Int32)) (fun (t : Unit) => ([fb_o12 za zr (upd fr_e0 19 (0 : Int32)), fb_aw cI (zr 0) 16205 (fr_m (fun _ => 0) 0)] : List va_W).flatten)) 0 0 (va_A (([fb_o12 za zr fr_e0, fb_aw cI (zr 0) 16205 (fr_m (fun _ => 0) 0)] : List va_W).flatten) sz) := by
  refine fb_ent (Qf := fun A => (fb_QI D A (fun (r : Int32) (_ : Unit) => r = (1 : Int32)) (fun (t : Unit) => ([fb_o12 za zr (upd fr_e0 19 (0 : Int32)), fb_aw cI (zr 0) 16205 (fr_m (fun _ => 0) 0)] : List va_W).flatten))) (by decide +kernel) (Nat.le_of_ble_eq_true rfl) ?_
  intro p e s m args below meth c A ls X I hl hin
  obtain ⟨hx, hb, hr, hml, hown, hts, hlk, hA, hK, hF⟩ := id X
  have hl : lv_has ls 2 [(0, .ref za), (1, .int (nI zj))] := hl
  refine lv_aload_n hx hb dX12_lengthAt_0 rfl (lv_at hl 0 rfl) ?_
  refine lv_iload_n hx hb dX12_lengthAt_1 rfl (lv_at hl 1 rfl) ?_
  refine lv_iconst (v := (0 : Int32)) hx hb dX12_lengthAt_2 (by decide) ?_
  refine lv_sipush (v := (4095 : Int32)) hx hb dX12_lengthAt_3 (by decide) ?_
  refine fb_gI (cs := [fb_o12 za zr fr_e0]) (rs := [fb_aw cI (zr 0) 16205 (fr_m (fun _ => 0) 0)]) (fun (t : Unit) => [fb_o12 za zr (upd fr_e0 19 (0 : Int32)), fb_aw cI (zr 0) 16205 (fr_m (fun _ => 0) 0)]) (fun (t : Unit) => [fb_o12 za zr (upd fr_e0 19 (0 : Int32))]) X I [0, 1] 2 rfl (by decide +kernel) rfl rfl [0, 1] 2 (fun _ => rfl) (by decide +kernel) (fun _ => rfl) (fun _ => rfl) (fun I => fb_rV (As := [.int (nI zj), .int (0 : Int32), .int (4095 : Int32)]) (rest := []) X hl (fb_goodV fw_2346 fw_2348 fw_136 fw_204 fw_2349) (c_isNot_in l D cI cJ za zr fr_e0 (nI zj) (0 : Int32) (4095 : Int32) _ (fr_inN (z := zj) (a := 0) (b := 4095) (by omega) (by omega) (by omega))) rfl rfl rfl (by decide +kernel : fb_hd yX12_isNot 3) ⟨Nat.le_of_ble_eq_true rfl, Nat.le_of_ble_eq_true rfl⟩ rfl rfl rfl rfl rfl (Nat.le_of_ble_eq_true rfl) ⟨Nat.zero_le _, Nat.zero_le _⟩ dX12_lengthAt_6 I) ?_
  intro r2 w1 H locs e0 I
  subst e0
  have I : fb_In D A s.heap (([fb_o12 za zr (upd fr_e0 19 (0 : Int32)), fb_aw cI (zr 0) 16205 (fr_m (fun _ => 0) 0)] : List va_W).flatten) H locs := I
  refine lv_if_ne (tgt := 23) hx hb dX12_lengthAt_9 (by decide) (fun c3 => absurd (by decide) c3) (fun _ => ?_)
  refine lv_aload_n hx hb dX12_lengthAt_12 rfl (lv_at hl 0 rfl) ?_
  refine lv_iload_n hx hb dX12_lengthAt_13 rfl (lv_at hl 1 rfl) ?_
  refine fb_gO (cs := [fb_o12 za zr (upd fr_e0 19 (0 : Int32)), fb_aw cI (zr 0) 16205 (fr_m (fun _ => 0) 0)]) (rs := []) X I [0, 1] 2 rfl (by decide +kernel) rfl rfl (fun I => fb_rV (As := [.int (nI zj)]) (rest := []) X hl (fb_goodV fw_1949 fw_1951 fw_86 fw_204 fw_1952) (c_code l D cI cJ za zr (upd fr_e0 19 (0 : Int32)) (fr_m (fun _ => 0) 0) (nI zj) _ (fr_hm _ _) rfl) rfl rfl rfl (by decide +kernel : fb_hd yX12_code 1) ⟨Nat.le_of_ble_eq_true rfl, Nat.le_of_ble_eq_true rfl⟩ rfl rfl rfl rfl rfl (Nat.le_of_ble_eq_true rfl) ⟨Nat.zero_le _, Nat.zero_le _⟩ dX12_lengthAt_14 I) ?_
  refine fb_gO (cs := []) (rs := [fb_o12 za zr (upd fr_e0 19 (0 : Int32)), fb_aw cI (zr 0) 16205 (fr_m (fun _ => 0) 0)]) X I [0, 1] 2 rfl (by decide +kernel) rfl rfl (fun I => fb_rS (As := [.int (0 : Int32)]) (rest := []) X hl (fb_goodS fw_2492 fw_2493 fw_204 fw_2494) (c_X12_isInstruction l D cI cJ (0 : Int32) _) rfl rfl (by decide +kernel : fb_hd yX12_isInstruction 1) ⟨Nat.le_of_ble_eq_true rfl, Nat.le_of_ble_eq_true rfl⟩ rfl rfl (Nat.le_of_ble_eq_true rfl) ⟨Nat.le_of_ble_eq_true rfl, Nat.le_of_ble_eq_true rfl⟩ dX12_lengthAt_17 I) ?_
  refine fb_tI (v := (1 : Int32)) (by decide) ?_
  refine lv_if_ne (tgt := 27) hx hb dX12_lengthAt_20 (by decide) (fun _ => ?_) (fun c4 => absurd c4 (by decide))
  refine lv_aload_n hx hb dX12_lengthAt_27 rfl (lv_at hl 0 rfl) ?_
  refine lv_iload_n hx hb dX12_lengthAt_28 rfl (lv_at hl 1 rfl) ?_
  refine fb_gO (cs := [fb_o12 za zr (upd fr_e0 19 (0 : Int32)), fb_aw cI (zr 0) 16205 (fr_m (fun _ => 0) 0)]) (rs := []) X I [0, 1] 2 rfl (by decide +kernel) rfl rfl (fun I => fb_rV (As := [.int (nI zj)]) (rest := []) X hl (fb_goodV fw_1949 fw_1951 fw_86 fw_204 fw_1952) (c_code l D cI cJ za zr (upd fr_e0 19 (0 : Int32)) (fr_m (fun _ => 0) 0) (nI zj) _ (fr_hm _ _) rfl) rfl rfl rfl (by decide +kernel : fb_hd yX12_code 1) ⟨Nat.le_of_ble_eq_true rfl, Nat.le_of_ble_eq_true rfl⟩ rfl rfl rfl rfl rfl (Nat.le_of_ble_eq_true rfl) ⟨Nat.zero_le _, Nat.zero_le _⟩ dX12_lengthAt_29 I) ?_
  refine fb_gO (cs := []) (rs := [fb_o12 za zr (upd fr_e0 19 (0 : Int32)), fb_aw cI (zr 0) 16205 (fr_m (fun _ => 0) 0)]) X I [0, 1] 2 rfl (by decide +kernel) rfl rfl (fun I => fb_rS (As := [.int (0 : Int32)]) (rest := []) X hl (fb_goodS fw_2499 fw_2500 fw_204 fw_2501) (c_X12_length l D cI cJ (0 : Int32) _) rfl rfl (by decide +kernel : fb_hd yX12_length 1) ⟨Nat.le_of_ble_eq_true rfl, Nat.le_of_ble_eq_true rfl⟩ rfl rfl (Nat.le_of_ble_eq_true rfl) ⟨Nat.le_of_ble_eq_true rfl, Nat.le_of_ble_eq_true rfl⟩ dX12_lengthAt_32 I) ?_
  refine fb_tI (v := (1 : Int32)) (by decide) ?_
  exact fb_retI (u := ()) X I rfl rfl dX12_lengthAt_35

set_option maxHeartbeats 4000000 in
set_option maxRecDepth 100000 in
theorem c_operandAt_out (l : Launch) (D : va_G) (cI cJ : ClassId) (za : Nat) (zr : Nat → Nat) (l1 : Int32) (sz : Nat) (q1 : f_X12_isIn l1 (0 : Int32) (4095 : Int32) = (0 : Int32)) : Met l yX12_operandAt (Cond.code yX12_operandAt cX12_operandAt 3 (some .int) :: fb_all) ({ frames := 3, cells := 0, slots := 0, locals := 75 } : Room) (fb_PP D (fb_ty D cI cJ) [.ref za, .int l1] (([fb_o12 za zr fr_e0, fb_aw cI (zr 0) 16205 (fr_m (fun _ => 0) 0)] : List va_W).flatten) sz) (fb_QI D (va_A (([fb_o12 za zr fr_e0, fb_aw cI (zr 0) 16205 (fr_m (fun _ => 0) 0)] : List va_W).flatten) sz) (fun (r : Int32) (_ : Unit) => r = (0 : Int32)) (fun (t : Unit) => ([fb_o12 za zr (upd (upd fr_e0 19 (0 : Int32)) 19 (1 : Int32)), fb_aw cI (zr 0) 16205 (fr_m (fun _ => 0) 0)] : List va_W).flatten)) 0 0 (va_A (([fb_o12 za zr fr_e0, fb_aw cI (zr 0) 16205 (fr_m (fun _ => 0) 0)] : List va_W).flatten) sz) := by
  refine fb_ent (Qf := fun A => (fb_QI D A (fun (r : Int32) (_ : Unit) => r = (0 : Int32)) (fun (t : Unit) => ([fb_o12 za zr (upd (upd fr_e0 19 (0 : Int32)) 19 (1 : Int32)), fb_aw cI (zr 0) 16205 (fr_m (fun _ => 0) 0)] : List va_W).flatten))) (by decide +kernel) (Nat.le_of_ble_eq_true rfl) ?_
  intro p e s m args below meth c A ls X I hl hin
  obtain ⟨hx, hb, hr, hml, hown, hts, hlk, hA, hK, hF⟩ := id X
  have hl : lv_has ls 3 [(0, .ref za), (1, .int l1)] := hl
  refine lv_aload_n hx hb dX12_operandAt_0 rfl (lv_at hl 0 rfl) ?_
  refine lv_iload_n hx hb dX12_operandAt_1 rfl (lv_at hl 1 rfl) ?_
  refine lv_iconst (v := (0 : Int32)) hx hb dX12_operandAt_2 (by decide) ?_
  refine lv_sipush (v := (4095 : Int32)) hx hb dX12_operandAt_3 (by decide) ?_
  refine fb_gI (cs := [fb_o12 za zr fr_e0]) (rs := [fb_aw cI (zr 0) 16205 (fr_m (fun _ => 0) 0)]) (fun (t : Unit) => [fb_o12 za zr (upd (upd fr_e0 19 (0 : Int32)) 19 (1 : Int32)), fb_aw cI (zr 0) 16205 (fr_m (fun _ => 0) 0)]) (fun (t : Unit) => [fb_o12 za zr (upd (upd fr_e0 19 (0 : Int32)) 19 (1 : Int32))]) X I [0, 1] 2 rfl (by decide +kernel) rfl rfl [0, 1] 2 (fun _ => rfl) (by decide +kernel) (fun _ => rfl) (fun _ => rfl) (fun I => fb_rV (As := [.int l1, .int (0 : Int32), .int (4095 : Int32)]) (rest := []) X hl (fb_goodV fw_2346 fw_2348 fw_136 fw_204 fw_2349) (c_isNot_out l D cI cJ za zr fr_e0 l1 (0 : Int32) (4095 : Int32) _ q1) rfl rfl rfl (by decide +kernel : fb_hd yX12_isNot 3) ⟨Nat.le_of_ble_eq_true rfl, Nat.le_of_ble_eq_true rfl⟩ rfl rfl rfl rfl rfl (Nat.le_of_ble_eq_true rfl) ⟨Nat.zero_le _, Nat.zero_le _⟩ dX12_operandAt_6 I) ?_
  intro r2 w1 H locs e0 I
  subst e0
  have I : fb_In D A s.heap (([fb_o12 za zr (upd (upd fr_e0 19 (0 : Int32)) 19 (1 : Int32)), fb_aw cI (zr 0) 16205 (fr_m (fun _ => 0) 0)] : List va_W).flatten) H locs := I
  refine lv_if_eq (tgt := 14) hx hb dX12_operandAt_9 (by decide) (fun c3 => absurd c3 (by decide)) (fun _ => ?_)
  refine lv_iconst (v := (0 : Int32)) hx hb dX12_operandAt_12 (by decide) ?_
  exact fb_retI (u := ()) X I rfl rfl dX12_operandAt_13

set_option maxHeartbeats 4000000 in
set_option maxRecDepth 100000 in
theorem c_operandAt_in (l : Launch) (D : va_G) (cI cJ : ClassId) (za : Nat) (zr : Nat → Nat) (zj : Nat) (sz : Nat) (hj : 0 ≤ zj ∧ zj ≤ 4095) : Met l yX12_operandAt (Cond.code yX12_operandAt cX12_operandAt 3 (some .int) :: fb_all) ({ frames := 4, cells := 0, slots := 0, locals := 101 } : Room) (fb_PP D (fb_ty D cI cJ) [.ref za, .int (nI zj)] (([fb_o12 za zr fr_e0, fb_aw cI (zr 0) 16205 (fr_m (fun _ => 0) 0)] : List va_W).flatten) sz) (fb_QI D (va_A (([fb_o12 za zr fr_e0, fb_aw cI (zr 0) 16205 (fr_m (fun _ => 0) 0)] : List va_W).flatten) sz) (fun (r : Int32) (_ : Unit) => r = (-1 : Int32)) (fun (t : Unit) => ([fb_o12 za zr (upd fr_e0 19 (0 : Int32)), fb_aw cI (zr 0) 16205 (fr_m (fun _ => 0) 0)] : List va_W).flatten)) 0 0 (va_A (([fb_o12 za zr fr_e0, fb_aw cI (zr 0) 16205 (fr_m (fun _ => 0) 0)] : List va_W).flatten) sz) := by
  refine fb_ent (Qf := fun A => (fb_QI D A (fun (r : Int32) (_ : Unit) => r = (-1 : Int32)) (fun (t : Unit) => ([fb_o12 za zr (upd fr_e0 19 (0 : Int32)), fb_aw cI (zr 0) 16205 (fr_m (fun _ => 0) 0)] : List va_W).flatten))) (by decide +kernel) (Nat.le_of_ble_eq_true rfl) ?_
  intro p e s m args below meth c A ls X I hl hin
  obtain ⟨hx, hb, hr, hml, hown, hts, hlk, hA, hK, hF⟩ := id X
  have hl : lv_has ls 3 [(0, .ref za), (1, .int (nI zj))] := hl
  refine lv_aload_n hx hb dX12_operandAt_0 rfl (lv_at hl 0 rfl) ?_
  refine lv_iload_n hx hb dX12_operandAt_1 rfl (lv_at hl 1 rfl) ?_
  refine lv_iconst (v := (0 : Int32)) hx hb dX12_operandAt_2 (by decide) ?_
  refine lv_sipush (v := (4095 : Int32)) hx hb dX12_operandAt_3 (by decide) ?_
  refine fb_gI (cs := [fb_o12 za zr fr_e0]) (rs := [fb_aw cI (zr 0) 16205 (fr_m (fun _ => 0) 0)]) (fun (t : Unit) => [fb_o12 za zr (upd fr_e0 19 (0 : Int32)), fb_aw cI (zr 0) 16205 (fr_m (fun _ => 0) 0)]) (fun (t : Unit) => [fb_o12 za zr (upd fr_e0 19 (0 : Int32))]) X I [0, 1] 2 rfl (by decide +kernel) rfl rfl [0, 1] 2 (fun _ => rfl) (by decide +kernel) (fun _ => rfl) (fun _ => rfl) (fun I => fb_rV (As := [.int (nI zj), .int (0 : Int32), .int (4095 : Int32)]) (rest := []) X hl (fb_goodV fw_2346 fw_2348 fw_136 fw_204 fw_2349) (c_isNot_in l D cI cJ za zr fr_e0 (nI zj) (0 : Int32) (4095 : Int32) _ (fr_inN (z := zj) (a := 0) (b := 4095) (by omega) (by omega) (by omega))) rfl rfl rfl (by decide +kernel : fb_hd yX12_isNot 3) ⟨Nat.le_of_ble_eq_true rfl, Nat.le_of_ble_eq_true rfl⟩ rfl rfl rfl rfl rfl (Nat.le_of_ble_eq_true rfl) ⟨Nat.zero_le _, Nat.zero_le _⟩ dX12_operandAt_6 I) ?_
  intro r2 w1 H locs e0 I
  subst e0
  have I : fb_In D A s.heap (([fb_o12 za zr (upd fr_e0 19 (0 : Int32)), fb_aw cI (zr 0) 16205 (fr_m (fun _ => 0) 0)] : List va_W).flatten) H locs := I
  refine lv_if_eq (tgt := 14) hx hb dX12_operandAt_9 (by decide) (fun _ => ?_) (fun c3 => absurd (by decide) c3)
  refine lv_aload_n hx hb dX12_operandAt_14 rfl (lv_at hl 0 rfl) ?_
  refine lv_iload_n hx hb dX12_operandAt_15 rfl (lv_at hl 1 rfl) ?_
  refine fb_gO (cs := [fb_o12 za zr (upd fr_e0 19 (0 : Int32)), fb_aw cI (zr 0) 16205 (fr_m (fun _ => 0) 0)]) (rs := []) X I [0, 1] 2 rfl (by decide +kernel) rfl rfl (fun I => fb_rV (As := [.int (nI zj)]) (rest := []) X hl (fb_goodV fw_1949 fw_1951 fw_86 fw_204 fw_1952) (c_code l D cI cJ za zr (upd fr_e0 19 (0 : Int32)) (fr_m (fun _ => 0) 0) (nI zj) _ (fr_hm _ _) rfl) rfl rfl rfl (by decide +kernel : fb_hd yX12_code 1) ⟨Nat.le_of_ble_eq_true rfl, Nat.le_of_ble_eq_true rfl⟩ rfl rfl rfl rfl rfl (Nat.le_of_ble_eq_true rfl) ⟨Nat.zero_le _, Nat.zero_le _⟩ dX12_operandAt_16 I) ?_
  refine lv_istore_n (lv' := [(2, .int (0 : Int32)), (0, .ref za), (1, .int (nI zj))]) hx hb dX12_operandAt_19 rfl hl (by decide) rfl (fun ls hl => ?_)
  refine lv_iload_n hx hb dX12_operandAt_20 rfl (lv_at hl 0 rfl) ?_
  refine fb_gO (cs := []) (rs := [fb_o12 za zr (upd fr_e0 19 (0 : Int32)), fb_aw cI (zr 0) 16205 (fr_m (fun _ => 0) 0)]) X I [0, 1] 2 rfl (by decide +kernel) rfl rfl (fun I => fb_rS (As := [.int (0 : Int32)]) (rest := []) X hl (fb_goodS fw_2492 fw_2493 fw_204 fw_2494) (c_X12_isInstruction l D cI cJ (0 : Int32) _) rfl rfl (by decide +kernel : fb_hd yX12_isInstruction 1) ⟨Nat.le_of_ble_eq_true rfl, Nat.le_of_ble_eq_true rfl⟩ rfl rfl (Nat.le_of_ble_eq_true rfl) ⟨Nat.le_of_ble_eq_true rfl, Nat.le_of_ble_eq_true rfl⟩ dX12_operandAt_21 I) ?_
  refine fb_tI (v := (1 : Int32)) (by decide) ?_
  refine lv_if_eq (tgt := 35) hx hb dX12_operandAt_24 (by decide) (fun c4 => absurd c4 (by decide)) (fun _ => ?_)
  refine lv_iload_n hx hb dX12_operandAt_27 rfl (lv_at hl 0 rfl) ?_
  refine fb_gO (cs := []) (rs := [fb_o12 za zr (upd fr_e0 19 (0 : Int32)), fb_aw cI (zr 0) 16205 (fr_m (fun _ => 0) 0)]) X I [0, 1] 2 rfl (by decide +kernel) rfl rfl (fun I => fb_rS (As := [.int (0 : Int32)]) (rest := []) X hl (fb_goodS fw_2499 fw_2500 fw_204 fw_2501) (c_X12_length l D cI cJ (0 : Int32) _) rfl rfl (by decide +kernel : fb_hd yX12_length 1) ⟨Nat.le_of_ble_eq_true rfl, Nat.le_of_ble_eq_true rfl⟩ rfl rfl (Nat.le_of_ble_eq_true rfl) ⟨Nat.le_of_ble_eq_true rfl, Nat.le_of_ble_eq_true rfl⟩ dX12_operandAt_28 I) ?_
  refine fb_tI (v := (1 : Int32)) (by decide) ?_
  refine lv_iconst (v := (1 : Int32)) hx hb dX12_operandAt_31 (by decide) ?_
  refine lv_icmp_ne (tgt := 37) hx hb dX12_operandAt_32 (by decide) (fun c5 => absurd (by decide) c5) (fun _ => ?_)
  refine lv_iconst (v := (-1 : Int32)) hx hb dX12_operandAt_35 (by decide) ?_
  exact fb_retI (u := ()) X I rfl rfl dX12_operandAt_36

set_option maxHeartbeats 4000000 in
set_option maxRecDepth 100000 in
theorem c_timesAt_out (l : Launch) (D : va_G) (cI cJ : ClassId) (za : Nat) (zr : Nat → Nat) (l1 : Int32) (sz : Nat) (q1 : f_X12_isIn l1 (0 : Int32) (4095 : Int32) = (0 : Int32)) : Met l yX12_timesAt (Cond.code yX12_timesAt cX12_timesAt 2 (some .int) :: fb_all) ({ frames := 3, cells := 0, slots := 0, locals := 75 } : Room) (fb_PP D (fb_ty D cI cJ) [.ref za, .int l1] (([fb_o12 za zr fr_e0, fb_aw cI (zr 0) 16205 (fr_m (fun _ => 0) 0)] : List va_W).flatten) sz) (fb_QI D (va_A (([fb_o12 za zr fr_e0, fb_aw cI (zr 0) 16205 (fr_m (fun _ => 0) 0)] : List va_W).flatten) sz) (fun (r : Int32) (_ : Unit) => r = (0 : Int32)) (fun (t : Unit) => ([fb_o12 za zr (upd (upd fr_e0 19 (0 : Int32)) 19 (1 : Int32)), fb_aw cI (zr 0) 16205 (fr_m (fun _ => 0) 0)] : List va_W).flatten)) 0 0 (va_A (([fb_o12 za zr fr_e0, fb_aw cI (zr 0) 16205 (fr_m (fun _ => 0) 0)] : List va_W).flatten) sz) := by
  refine fb_ent (Qf := fun A => (fb_QI D A (fun (r : Int32) (_ : Unit) => r = (0 : Int32)) (fun (t : Unit) => ([fb_o12 za zr (upd (upd fr_e0 19 (0 : Int32)) 19 (1 : Int32)), fb_aw cI (zr 0) 16205 (fr_m (fun _ => 0) 0)] : List va_W).flatten))) (by decide +kernel) (Nat.le_of_ble_eq_true rfl) ?_
  intro p e s m args below meth c A ls X I hl hin
  obtain ⟨hx, hb, hr, hml, hown, hts, hlk, hA, hK, hF⟩ := id X
  have hl : lv_has ls 2 [(0, .ref za), (1, .int l1)] := hl
  refine lv_aload_n hx hb dX12_timesAt_0 rfl (lv_at hl 0 rfl) ?_
  refine lv_iload_n hx hb dX12_timesAt_1 rfl (lv_at hl 1 rfl) ?_
  refine lv_iconst (v := (0 : Int32)) hx hb dX12_timesAt_2 (by decide) ?_
  refine lv_sipush (v := (4095 : Int32)) hx hb dX12_timesAt_3 (by decide) ?_
  refine fb_gI (cs := [fb_o12 za zr fr_e0]) (rs := [fb_aw cI (zr 0) 16205 (fr_m (fun _ => 0) 0)]) (fun (t : Unit) => [fb_o12 za zr (upd (upd fr_e0 19 (0 : Int32)) 19 (1 : Int32)), fb_aw cI (zr 0) 16205 (fr_m (fun _ => 0) 0)]) (fun (t : Unit) => [fb_o12 za zr (upd (upd fr_e0 19 (0 : Int32)) 19 (1 : Int32))]) X I [0, 1] 2 rfl (by decide +kernel) rfl rfl [0, 1] 2 (fun _ => rfl) (by decide +kernel) (fun _ => rfl) (fun _ => rfl) (fun I => fb_rV (As := [.int l1, .int (0 : Int32), .int (4095 : Int32)]) (rest := []) X hl (fb_goodV fw_2346 fw_2348 fw_136 fw_204 fw_2349) (c_isNot_out l D cI cJ za zr fr_e0 l1 (0 : Int32) (4095 : Int32) _ q1) rfl rfl rfl (by decide +kernel : fb_hd yX12_isNot 3) ⟨Nat.le_of_ble_eq_true rfl, Nat.le_of_ble_eq_true rfl⟩ rfl rfl rfl rfl rfl (Nat.le_of_ble_eq_true rfl) ⟨Nat.zero_le _, Nat.zero_le _⟩ dX12_timesAt_6 I) ?_
  intro r2 w1 H locs e0 I
  subst e0
  have I : fb_In D A s.heap (([fb_o12 za zr (upd (upd fr_e0 19 (0 : Int32)) 19 (1 : Int32)), fb_aw cI (zr 0) 16205 (fr_m (fun _ => 0) 0)] : List va_W).flatten) H locs := I
  refine lv_if_eq (tgt := 16) hx hb dX12_timesAt_9 (by decide) (fun c3 => absurd c3 (by decide)) (fun _ => ?_)
  refine lv_iconst (v := (0 : Int32)) hx hb dX12_timesAt_12 (by decide) ?_
  refine lv_goto (tgt := 26) hx hb dX12_timesAt_13 (by decide) ?_
  exact fb_retI (u := ()) X I rfl rfl dX12_timesAt_26

set_option maxHeartbeats 4000000 in
set_option maxRecDepth 100000 in
theorem c_timesAt_in (l : Launch) (D : va_G) (cI cJ : ClassId) (za : Nat) (zr : Nat → Nat) (zj : Nat) (sz : Nat) (hj : 0 ≤ zj ∧ zj ≤ 4095) : Met l yX12_timesAt (Cond.code yX12_timesAt cX12_timesAt 2 (some .int) :: fb_all) ({ frames := 3, cells := 0, slots := 0, locals := 75 } : Room) (fb_PP D (fb_ty D cI cJ) [.ref za, .int (nI zj)] (([fb_o12 za zr fr_e0, fb_aw cI (zr 0) 16205 (fr_m (fun _ => 0) 0)] : List va_W).flatten) sz) (fb_QI D (va_A (([fb_o12 za zr fr_e0, fb_aw cI (zr 0) 16205 (fr_m (fun _ => 0) 0)] : List va_W).flatten) sz) (fun (r : Int32) (_ : Unit) => r = (0 : Int32)) (fun (t : Unit) => ([fb_o12 za zr (upd fr_e0 19 (0 : Int32)), fb_aw cI (zr 0) 16205 (fr_m (fun _ => 0) 0)] : List va_W).flatten)) 0 0 (va_A (([fb_o12 za zr fr_e0, fb_aw cI (zr 0) 16205 (fr_m (fun _ => 0) 0)] : List va_W).flatten) sz) := by
  refine fb_ent (Qf := fun A => (fb_QI D A (fun (r : Int32) (_ : Unit) => r = (0 : Int32)) (fun (t : Unit) => ([fb_o12 za zr (upd fr_e0 19 (0 : Int32)), fb_aw cI (zr 0) 16205 (fr_m (fun _ => 0) 0)] : List va_W).flatten))) (by decide +kernel) (Nat.le_of_ble_eq_true rfl) ?_
  intro p e s m args below meth c A ls X I hl hin
  obtain ⟨hx, hb, hr, hml, hown, hts, hlk, hA, hK, hF⟩ := id X
  have hl : lv_has ls 2 [(0, .ref za), (1, .int (nI zj))] := hl
  refine lv_aload_n hx hb dX12_timesAt_0 rfl (lv_at hl 0 rfl) ?_
  refine lv_iload_n hx hb dX12_timesAt_1 rfl (lv_at hl 1 rfl) ?_
  refine lv_iconst (v := (0 : Int32)) hx hb dX12_timesAt_2 (by decide) ?_
  refine lv_sipush (v := (4095 : Int32)) hx hb dX12_timesAt_3 (by decide) ?_
  refine fb_gI (cs := [fb_o12 za zr fr_e0]) (rs := [fb_aw cI (zr 0) 16205 (fr_m (fun _ => 0) 0)]) (fun (t : Unit) => [fb_o12 za zr (upd fr_e0 19 (0 : Int32)), fb_aw cI (zr 0) 16205 (fr_m (fun _ => 0) 0)]) (fun (t : Unit) => [fb_o12 za zr (upd fr_e0 19 (0 : Int32))]) X I [0, 1] 2 rfl (by decide +kernel) rfl rfl [0, 1] 2 (fun _ => rfl) (by decide +kernel) (fun _ => rfl) (fun _ => rfl) (fun I => fb_rV (As := [.int (nI zj), .int (0 : Int32), .int (4095 : Int32)]) (rest := []) X hl (fb_goodV fw_2346 fw_2348 fw_136 fw_204 fw_2349) (c_isNot_in l D cI cJ za zr fr_e0 (nI zj) (0 : Int32) (4095 : Int32) _ (fr_inN (z := zj) (a := 0) (b := 4095) (by omega) (by omega) (by omega))) rfl rfl rfl (by decide +kernel : fb_hd yX12_isNot 3) ⟨Nat.le_of_ble_eq_true rfl, Nat.le_of_ble_eq_true rfl⟩ rfl rfl rfl rfl rfl (Nat.le_of_ble_eq_true rfl) ⟨Nat.zero_le _, Nat.zero_le _⟩ dX12_timesAt_6 I) ?_
  intro r2 w1 H locs e0 I
  subst e0
  have I : fb_In D A s.heap (([fb_o12 za zr (upd fr_e0 19 (0 : Int32)), fb_aw cI (zr 0) 16205 (fr_m (fun _ => 0) 0)] : List va_W).flatten) H locs := I
  refine lv_if_eq (tgt := 16) hx hb dX12_timesAt_9 (by decide) (fun _ => ?_) (fun c3 => absurd (by decide) c3)
  refine lv_aload_n hx hb dX12_timesAt_16 rfl (lv_at hl 0 rfl) ?_
  refine fb_get X I (k := 0) (v := .ref (zr 0)) fu_X12 0 fb_h12 rfl (Nat.le_of_ble_eq_true rfl) fw_1964 rfl rfl dX12_timesAt_17 ?_
  refine lv_sipush (v := (12109 : Int32)) hx hb dX12_timesAt_20 (by decide) ?_
  refine lv_iload_n hx hb dX12_timesAt_23 rfl (lv_at hl 1 rfl) ?_
  refine lv_iadd hx hb dX12_timesAt_24 ?_
  refine fb_tI (v := (nI (12109 + zj))) (nI_add 12109 zj) ?_
  refine fb_iaC (n := (12109 + zj)) (v := (0 : Int32)) X I 1 0 rfl rfl (nI_clamp (by omega)) (nI_pos (by omega)) (by omega) (fr_T _ _ _) dX12_timesAt_25 ?_
  exact fb_retI (u := ()) X I rfl rfl dX12_timesAt_26

set_option maxHeartbeats 4000000 in
set_option maxRecDepth 100000 in
theorem c_trim_out (l : Launch) (D : va_G) (cI cJ : ClassId) (za : Nat) (zr : Nat → Nat) (l1 : Int32) (sz : Nat) (q1 : f_X12_isIn l1 (0 : Int32) (0 : Int32) = (0 : Int32)) : Met l yX12_trim (Cond.code yX12_trim cX12_trim 2 (some .int) :: fb_all) ({ frames := 3, cells := 0, slots := 0, locals := 75 } : Room) (fb_PP D (fb_ty D cI cJ) [.ref za, .int l1] (([fb_o12 za zr fr_e0] : List va_W).flatten) sz) (fb_QI D (va_A (([fb_o12 za zr fr_e0] : List va_W).flatten) sz) (fun (r : Int32) (_ : Unit) => r = (0 : Int32)) (fun (t : Unit) => ([fb_o12 za zr (upd (upd fr_e0 19 (0 : Int32)) 19 (1 : Int32))] : List va_W).flatten)) 0 0 (va_A (([fb_o12 za zr fr_e0] : List va_W).flatten) sz) := by
  refine fb_ent (Qf := fun A => (fb_QI D A (fun (r : Int32) (_ : Unit) => r = (0 : Int32)) (fun (t : Unit) => ([fb_o12 za zr (upd (upd fr_e0 19 (0 : Int32)) 19 (1 : Int32))] : List va_W).flatten))) (by decide +kernel) (Nat.le_of_ble_eq_true rfl) ?_
  intro p e s m args below meth c A ls X I hl hin
  obtain ⟨hx, hb, hr, hml, hown, hts, hlk, hA, hK, hF⟩ := id X
  have hl : lv_has ls 2 [(0, .ref za), (1, .int l1)] := hl
  refine lv_aload_n hx hb dX12_trim_0 rfl (lv_at hl 0 rfl) ?_
  refine lv_iload_n hx hb dX12_trim_1 rfl (lv_at hl 1 rfl) ?_
  refine lv_iconst (v := (0 : Int32)) hx hb dX12_trim_2 (by decide) ?_
  refine lv_aload_n hx hb dX12_trim_3 rfl (lv_at hl 0 rfl) ?_
  refine fb_get X I (k := 21) (v := .int (fr_e0 21)) fu_X12 0 fb_h12 rfl (Nat.le_of_ble_eq_true rfl) fw_1985 rfl rfl dX12_trim_4 ?_
  refine fb_tI (v := (0 : Int32)) rfl ?_
  refine fb_gI (cs := [fb_o12 za zr fr_e0]) (rs := []) (fun (t : Unit) => [fb_o12 za zr (upd (upd fr_e0 19 (0 : Int32)) 19 (1 : Int32))]) (fun (t : Unit) => [fb_o12 za zr (upd (upd fr_e0 19 (0 : Int32)) 19 (1 : Int32))]) X I [0] 1 rfl (by decide +kernel) rfl rfl [0] 1 (fun _ => rfl) (by decide +kernel) (fun _ => rfl) (fun _ => rfl) (fun I => fb_rV (As := [.int l1, .int (0 : Int32), .int (0 : Int32)]) (rest := []) X hl (fb_goodV fw_2346 fw_2348 fw_136 fw_204 fw_2349) (c_isNot_out l D cI cJ za zr fr_e0 l1 (0 : Int32) (0 : Int32) _ q1) rfl rfl rfl (by decide +kernel : fb_hd yX12_isNot 3) ⟨Nat.le_of_ble_eq_true rfl, Nat.le_of_ble_eq_true rfl⟩ rfl rfl rfl rfl rfl (Nat.le_of_ble_eq_true rfl) ⟨Nat.zero_le _, Nat.zero_le _⟩ dX12_trim_7 I) ?_
  intro r2 w1 H locs e0 I
  subst e0
  have I : fb_In D A s.heap (([fb_o12 za zr (upd (upd fr_e0 19 (0 : Int32)) 19 (1 : Int32))] : List va_W).flatten) H locs := I
  refine lv_if_eq (tgt := 15) hx hb dX12_trim_10 (by decide) (fun c3 => absurd c3 (by decide)) (fun _ => ?_)
  refine lv_iconst (v := (0 : Int32)) hx hb dX12_trim_13 (by decide) ?_
  exact fb_retI (u := ()) X I rfl rfl dX12_trim_14

set_option maxHeartbeats 4000000 in
set_option maxRecDepth 100000 in
theorem c_trim_in (l : Launch) (D : va_G) (cI cJ : ClassId) (za : Nat) (zr : Nat → Nat) (sz : Nat)  : Met l yX12_trim (Cond.code yX12_trim cX12_trim 2 (some .int) :: fb_all) ({ frames := 3, cells := 0, slots := 0, locals := 75 } : Room) (fb_PP D (fb_ty D cI cJ) [.ref za, .int (0 : Int32)] (([fb_o12 za zr fr_e0] : List va_W).flatten) sz) (fb_QI D (va_A (([fb_o12 za zr fr_e0] : List va_W).flatten) sz) (fun (r : Int32) (_ : Unit) => r = (0 : Int32)) (fun (t : Unit) => ([fb_o12 za zr (upd (upd (upd fr_e0 19 (0 : Int32)) 21 (0 : Int32)) 2 (0 : Int32))] : List va_W).flatten)) 0 0 (va_A (([fb_o12 za zr fr_e0] : List va_W).flatten) sz) := by
  refine fb_ent (Qf := fun A => (fb_QI D A (fun (r : Int32) (_ : Unit) => r = (0 : Int32)) (fun (t : Unit) => ([fb_o12 za zr (upd (upd (upd fr_e0 19 (0 : Int32)) 21 (0 : Int32)) 2 (0 : Int32))] : List va_W).flatten))) (by decide +kernel) (Nat.le_of_ble_eq_true rfl) ?_
  intro p e s m args below meth c A ls X I hl hin
  obtain ⟨hx, hb, hr, hml, hown, hts, hlk, hA, hK, hF⟩ := id X
  have hl : lv_has ls 2 [(0, .ref za), (1, .int (0 : Int32))] := hl
  refine lv_aload_n hx hb dX12_trim_0 rfl (lv_at hl 0 rfl) ?_
  refine lv_iload_n hx hb dX12_trim_1 rfl (lv_at hl 1 rfl) ?_
  refine lv_iconst (v := (0 : Int32)) hx hb dX12_trim_2 (by decide) ?_
  refine lv_aload_n hx hb dX12_trim_3 rfl (lv_at hl 0 rfl) ?_
  refine fb_get X I (k := 21) (v := .int (fr_e0 21)) fu_X12 0 fb_h12 rfl (Nat.le_of_ble_eq_true rfl) fw_1985 rfl rfl dX12_trim_4 ?_
  refine fb_tI (v := (0 : Int32)) rfl ?_
  refine fb_gI (cs := [fb_o12 za zr fr_e0]) (rs := []) (fun (t : Unit) => [fb_o12 za zr (upd fr_e0 19 (0 : Int32))]) (fun (t : Unit) => [fb_o12 za zr (upd fr_e0 19 (0 : Int32))]) X I [0] 1 rfl (by decide +kernel) rfl rfl [0] 1 (fun _ => rfl) (by decide +kernel) (fun _ => rfl) (fun _ => rfl) (fun I => fb_rV (As := [.int (0 : Int32), .int (0 : Int32), .int (0 : Int32)]) (rest := []) X hl (fb_goodV fw_2346 fw_2348 fw_136 fw_204 fw_2349) (c_isNot_in l D cI cJ za zr fr_e0 (0 : Int32) (0 : Int32) (0 : Int32) _ (by decide)) rfl rfl rfl (by decide +kernel : fb_hd yX12_isNot 3) ⟨Nat.le_of_ble_eq_true rfl, Nat.le_of_ble_eq_true rfl⟩ rfl rfl rfl rfl rfl (Nat.le_of_ble_eq_true rfl) ⟨Nat.zero_le _, Nat.zero_le _⟩ dX12_trim_7 I) ?_
  intro r2 w1 H locs e0 I
  subst e0
  have I : fb_In D A s.heap (([fb_o12 za zr (upd fr_e0 19 (0 : Int32))] : List va_W).flatten) H locs := I
  refine lv_if_eq (tgt := 15) hx hb dX12_trim_10 (by decide) (fun _ => ?_) (fun c3 => absurd (by decide) c3)
  refine lv_aload_n hx hb dX12_trim_15 rfl (lv_at hl 0 rfl) ?_
  refine lv_iload_n hx hb dX12_trim_16 rfl (lv_at hl 1 rfl) ?_
  refine fb_put X I (k := 21) (wn := ([fb_o12 za zr (upd (upd fr_e0 19 (0 : Int32)) 21 (0 : Int32))] : List va_W).flatten) fu_X12 tyX12 tyX12_ok nmX12 0 fb_h12 rfl (Nat.le_of_ble_eq_true rfl) fw_1985 rfl rfl rfl rfl rfl (Nat.le_of_ble_eq_true rfl) fb_r12_21 dX12_trim_17 (fun H locs I => ?_)
  refine lv_aload_n hx hb dX12_trim_20 rfl (lv_at hl 0 rfl) ?_
  refine fb_gV (cs := [fb_o12 za zr (upd (upd fr_e0 19 (0 : Int32)) 21 (0 : Int32))]) (rs := []) (fun (t : Unit) => [fb_o12 za zr (upd (upd (upd fr_e0 19 (0 : Int32)) 21 (0 : Int32)) 2 (0 : Int32))]) (fun (t : Unit) => [fb_o12 za zr (upd (upd (upd fr_e0 19 (0 : Int32)) 21 (0 : Int32)) 2 (0 : Int32))]) X I [0] 1 rfl (by decide +kernel) rfl rfl [0] 1 (fun _ => rfl) (by decide +kernel) (fun _ => rfl) (fun _ => rfl) (fun I => fb_rV (As := []) (rest := []) X hl (fb_goodV fw_1960 fw_1962 fw_88 fw_204 fw_1963) (c_forget l D cI cJ za zr (upd (upd fr_e0 19 (0 : Int32)) 21 (0 : Int32)) _ ) rfl rfl rfl (by decide +kernel : fb_hd yX12_forget 0) ⟨Nat.le_of_ble_eq_true rfl, Nat.le_of_ble_eq_true rfl⟩ rfl rfl rfl rfl rfl (Nat.le_of_ble_eq_true rfl) ⟨Nat.zero_le _, Nat.zero_le _⟩ dX12_trim_21 I) ?_
  intro w4 H locs _ I
  have I : fb_In D A s.heap (([fb_o12 za zr (upd (upd (upd fr_e0 19 (0 : Int32)) 21 (0 : Int32)) 2 (0 : Int32))] : List va_W).flatten) H locs := I
  refine lv_iload_n hx hb dX12_trim_24 rfl (lv_at hl 1 rfl) ?_
  exact fb_retI (u := ()) X I rfl rfl dX12_trim_25

set_option maxHeartbeats 4000000 in
set_option maxRecDepth 100000 in
theorem c_key_out (l : Launch) (D : va_G) (cI cJ : ClassId) (za : Nat) (zr : Nat → Nat) (l1 : Int32) (sz : Nat) (q1 : f_X12_isIn l1 (0 : Int32) (255 : Int32) = (0 : Int32)) : Met l yX12_key (Cond.code yX12_key cX12_key 2 (some .int) :: fb_all) ({ frames := 3, cells := 0, slots := 0, locals := 75 } : Room) (fb_PP D (fb_ty D cI cJ) [.ref za, .int l1] (([fb_o12 za zr fr_e0, fb_aw cI (zr 0) 16205 (fr_m (fun _ => 0) 0)] : List va_W).flatten) sz) (fb_QI D (va_A (([fb_o12 za zr fr_e0, fb_aw cI (zr 0) 16205 (fr_m (fun _ => 0) 0)] : List va_W).flatten) sz) (fun (r : Int32) (_ : Unit) => r = (0 : Int32)) (fun (t : Unit) => ([fb_o12 za zr (upd (upd fr_e0 19 (0 : Int32)) 19 (1 : Int32)), fb_aw cI (zr 0) 16205 (fr_m (fun _ => 0) 0)] : List va_W).flatten)) 0 0 (va_A (([fb_o12 za zr fr_e0, fb_aw cI (zr 0) 16205 (fr_m (fun _ => 0) 0)] : List va_W).flatten) sz) := by
  refine fb_ent (Qf := fun A => (fb_QI D A (fun (r : Int32) (_ : Unit) => r = (0 : Int32)) (fun (t : Unit) => ([fb_o12 za zr (upd (upd fr_e0 19 (0 : Int32)) 19 (1 : Int32)), fb_aw cI (zr 0) 16205 (fr_m (fun _ => 0) 0)] : List va_W).flatten))) (by decide +kernel) (Nat.le_of_ble_eq_true rfl) ?_
  intro p e s m args below meth c A ls X I hl hin
  obtain ⟨hx, hb, hr, hml, hown, hts, hlk, hA, hK, hF⟩ := id X
  have hl : lv_has ls 2 [(0, .ref za), (1, .int l1)] := hl
  refine lv_aload_n hx hb dX12_key_0 rfl (lv_at hl 0 rfl) ?_
  refine lv_iload_n hx hb dX12_key_1 rfl (lv_at hl 1 rfl) ?_
  refine lv_iconst (v := (0 : Int32)) hx hb dX12_key_2 (by decide) ?_
  refine lv_sipush (v := (255 : Int32)) hx hb dX12_key_3 (by decide) ?_
  refine fb_gI (cs := [fb_o12 za zr fr_e0]) (rs := [fb_aw cI (zr 0) 16205 (fr_m (fun _ => 0) 0)]) (fun (t : Unit) => [fb_o12 za zr (upd (upd fr_e0 19 (0 : Int32)) 19 (1 : Int32)), fb_aw cI (zr 0) 16205 (fr_m (fun _ => 0) 0)]) (fun (t : Unit) => [fb_o12 za zr (upd (upd fr_e0 19 (0 : Int32)) 19 (1 : Int32))]) X I [0, 1] 2 rfl (by decide +kernel) rfl rfl [0, 1] 2 (fun _ => rfl) (by decide +kernel) (fun _ => rfl) (fun _ => rfl) (fun I => fb_rV (As := [.int l1, .int (0 : Int32), .int (255 : Int32)]) (rest := []) X hl (fb_goodV fw_2346 fw_2348 fw_136 fw_204 fw_2349) (c_isNot_out l D cI cJ za zr fr_e0 l1 (0 : Int32) (255 : Int32) _ q1) rfl rfl rfl (by decide +kernel : fb_hd yX12_isNot 3) ⟨Nat.le_of_ble_eq_true rfl, Nat.le_of_ble_eq_true rfl⟩ rfl rfl rfl rfl rfl (Nat.le_of_ble_eq_true rfl) ⟨Nat.zero_le _, Nat.zero_le _⟩ dX12_key_6 I) ?_
  intro r2 w1 H locs e0 I
  subst e0
  have I : fb_In D A s.heap (([fb_o12 za zr (upd (upd fr_e0 19 (0 : Int32)) 19 (1 : Int32)), fb_aw cI (zr 0) 16205 (fr_m (fun _ => 0) 0)] : List va_W).flatten) H locs := I
  refine lv_if_eq (tgt := 14) hx hb dX12_key_9 (by decide) (fun c3 => absurd c3 (by decide)) (fun _ => ?_)
  refine lv_iconst (v := (0 : Int32)) hx hb dX12_key_12 (by decide) ?_
  exact fb_retI (u := ()) X I rfl rfl dX12_key_13

set_option maxHeartbeats 4000000 in
set_option maxRecDepth 100000 in
theorem c_key_in (l : Launch) (D : va_G) (cI cJ : ClassId) (za : Nat) (zr : Nat → Nat) (zj : Nat) (sz : Nat) (hj : zj ≤ 255) : Met l yX12_key (Cond.code yX12_key cX12_key 2 (some .int) :: fb_all) ({ frames := 3, cells := 0, slots := 0, locals := 75 } : Room) (fb_PP D (fb_ty D cI cJ) [.ref za, .int (nI zj)] (([fb_o12 za zr fr_e0, fb_aw cI (zr 0) 16205 (fr_m (fun _ => 0) 0)] : List va_W).flatten) sz) (fb_QI D (va_A (([fb_o12 za zr fr_e0, fb_aw cI (zr 0) 16205 (fr_m (fun _ => 0) 0)] : List va_W).flatten) sz) (fun (r : Int32) (_ : Unit) => r = (1 : Int32)) (fun (t : Unit) => ([fb_o12 za zr (upd (upd fr_e0 19 (0 : Int32)) 2 (0 : Int32)), fb_aw cI (zr 0) 16205 (upd (upd (upd (fr_m (fun _ => 0) 0) 21 (nI zj)) 18 (1 : Int32)) 11 (2 : Int32))] : List va_W).flatten)) 0 0 (va_A (([fb_o12 za zr fr_e0, fb_aw cI (zr 0) 16205 (fr_m (fun _ => 0) 0)] : List va_W).flatten) sz) := by
  refine fb_ent (Qf := fun A => (fb_QI D A (fun (r : Int32) (_ : Unit) => r = (1 : Int32)) (fun (t : Unit) => ([fb_o12 za zr (upd (upd fr_e0 19 (0 : Int32)) 2 (0 : Int32)), fb_aw cI (zr 0) 16205 (upd (upd (upd (fr_m (fun _ => 0) 0) 21 (nI zj)) 18 (1 : Int32)) 11 (2 : Int32))] : List va_W).flatten))) (by decide +kernel) (Nat.le_of_ble_eq_true rfl) ?_
  intro p e s m args below meth c A ls X I hl hin
  obtain ⟨hx, hb, hr, hml, hown, hts, hlk, hA, hK, hF⟩ := id X
  have hl : lv_has ls 2 [(0, .ref za), (1, .int (nI zj))] := hl
  refine lv_aload_n hx hb dX12_key_0 rfl (lv_at hl 0 rfl) ?_
  refine lv_iload_n hx hb dX12_key_1 rfl (lv_at hl 1 rfl) ?_
  refine lv_iconst (v := (0 : Int32)) hx hb dX12_key_2 (by decide) ?_
  refine lv_sipush (v := (255 : Int32)) hx hb dX12_key_3 (by decide) ?_
  refine fb_gI (cs := [fb_o12 za zr fr_e0]) (rs := [fb_aw cI (zr 0) 16205 (fr_m (fun _ => 0) 0)]) (fun (t : Unit) => [fb_o12 za zr (upd fr_e0 19 (0 : Int32)), fb_aw cI (zr 0) 16205 (fr_m (fun _ => 0) 0)]) (fun (t : Unit) => [fb_o12 za zr (upd fr_e0 19 (0 : Int32))]) X I [0, 1] 2 rfl (by decide +kernel) rfl rfl [0, 1] 2 (fun _ => rfl) (by decide +kernel) (fun _ => rfl) (fun _ => rfl) (fun I => fb_rV (As := [.int (nI zj), .int (0 : Int32), .int (255 : Int32)]) (rest := []) X hl (fb_goodV fw_2346 fw_2348 fw_136 fw_204 fw_2349) (c_isNot_in l D cI cJ za zr fr_e0 (nI zj) (0 : Int32) (255 : Int32) _ (fr_inN (z := zj) (a := 0) (b := 255) (by omega) (by omega) (by omega))) rfl rfl rfl (by decide +kernel : fb_hd yX12_isNot 3) ⟨Nat.le_of_ble_eq_true rfl, Nat.le_of_ble_eq_true rfl⟩ rfl rfl rfl rfl rfl (Nat.le_of_ble_eq_true rfl) ⟨Nat.zero_le _, Nat.zero_le _⟩ dX12_key_6 I) ?_
  intro r2 w1 H locs e0 I
  subst e0
  have I : fb_In D A s.heap (([fb_o12 za zr (upd fr_e0 19 (0 : Int32)), fb_aw cI (zr 0) 16205 (fr_m (fun _ => 0) 0)] : List va_W).flatten) H locs := I
  refine lv_if_eq (tgt := 14) hx hb dX12_key_9 (by decide) (fun _ => ?_) (fun c3 => absurd (by decide) c3)
  refine lv_aload_n hx hb dX12_key_14 rfl (lv_at hl 0 rfl) ?_
  refine lv_aload_n hx hb dX12_key_15 rfl (lv_at hl 0 rfl) ?_
  refine fb_get X I (k := 0) (v := .ref (zr 0)) fu_X12 0 fb_h12 rfl (Nat.le_of_ble_eq_true rfl) fw_1964 rfl rfl dX12_key_16 ?_
  refine lv_bipush (v := (18 : Int32)) hx hb dX12_key_19 (by decide) ?_
  refine fb_iaC (n := 18) (v := (0 : Int32)) X I 1 0 rfl rfl (by decide) (by decide) (Nat.le_of_ble_eq_true rfl) rfl dX12_key_21 ?_
  refine lv_bipush (v := (16 : Int32)) hx hb dX12_key_22 (by decide) ?_
  refine lv_icmp_ne (tgt := 31) hx hb dX12_key_24 (by decide) (fun _ => ?_) (fun c4 => absurd c4 (by decide))
  refine lv_iconst (v := (0 : Int32)) hx hb dX12_key_31 (by decide) ?_
  refine lv_iconst (v := (2 : Int32)) hx hb dX12_key_32 (by decide) ?_
  refine fb_gO (cs := [fb_o12 za zr (upd fr_e0 19 (0 : Int32))]) (rs := [fb_aw cI (zr 0) 16205 (fr_m (fun _ => 0) 0)]) X I [0, 1] 2 rfl (by decide +kernel) rfl rfl (fun I => fb_rV (As := [.int (0 : Int32), .int (2 : Int32)]) (rest := []) X hl (fb_goodV fw_2350 fw_2352 fw_137 fw_204 fw_2353) (c_refuse_f l D cI cJ za zr (upd fr_e0 19 (0 : Int32)) (2 : Int32) _ ) rfl rfl rfl (by decide +kernel : fb_hd yX12_refuse 2) ⟨Nat.le_of_ble_eq_true rfl, Nat.le_of_ble_eq_true rfl⟩ rfl rfl rfl rfl rfl (Nat.le_of_ble_eq_true rfl) ⟨Nat.zero_le _, Nat.zero_le _⟩ dX12_key_33 I) ?_
  refine lv_if_eq (tgt := 41) hx hb dX12_key_36 (by decide) (fun _ => ?_) (fun c5 => absurd (by decide) c5)
  refine lv_aload_n hx hb dX12_key_41 rfl (lv_at hl 0 rfl) ?_
  refine fb_get X I (k := 0) (v := .ref (zr 0)) fu_X12 0 fb_h12 rfl (Nat.le_of_ble_eq_true rfl) fw_1964 rfl rfl dX12_key_42 ?_
  refine lv_bipush (v := (21 : Int32)) hx hb dX12_key_45 (by decide) ?_
  refine lv_aload_n hx hb dX12_key_47 rfl (lv_at hl 0 rfl) ?_
  refine fb_get X I (k := 0) (v := .ref (zr 0)) fu_X12 0 fb_h12 rfl (Nat.le_of_ble_eq_true rfl) fw_1964 rfl rfl dX12_key_48 ?_
  refine lv_bipush (v := (18 : Int32)) hx hb dX12_key_51 (by decide) ?_
  refine fb_iaC (n := 18) (v := (0 : Int32)) X I 1 0 rfl rfl (by decide) (by decide) (Nat.le_of_ble_eq_true rfl) rfl dX12_key_53 ?_
  refine lv_iadd hx hb dX12_key_54 ?_
  refine fb_tI (v := (21 : Int32)) (by decide) ?_
  refine lv_iload_n hx hb dX12_key_55 rfl (lv_at hl 1 rfl) ?_
  refine fb_isC (n := 21) (wn := ([fb_o12 za zr (upd fr_e0 19 (0 : Int32)), fb_aw cI (zr 0) 16205 (upd (fr_m (fun _ => 0) 0) 21 (nI zj))] : List va_W).flatten) X I 1 0 rfl rfl (by decide) (by decide) (Nat.le_of_ble_eq_true rfl) rfl dX12_key_56 (fun H locs I => ?_)
  refine lv_aload_n hx hb dX12_key_57 rfl (lv_at hl 0 rfl) ?_
  refine fb_get X I (k := 0) (v := .ref (zr 0)) fu_X12 0 fb_h12 rfl (Nat.le_of_ble_eq_true rfl) fw_1964 rfl rfl dX12_key_58 ?_
  refine lv_bipush (v := (18 : Int32)) hx hb dX12_key_61 (by decide) ?_
  refine lv_dup2_11 hx hb dX12_key_63 rfl rfl ?_
  refine fb_iaC (n := 18) (v := (0 : Int32)) X I 1 0 rfl rfl (by decide) (by decide) (Nat.le_of_ble_eq_true rfl) ((pk_un (by decide)).trans rfl) dX12_key_64 ?_
  refine lv_iconst (v := (1 : Int32)) hx hb dX12_key_65 (by decide) ?_
  refine lv_iadd hx hb dX12_key_66 ?_
  refine fb_tI (v := (1 : Int32)) (by decide) ?_
  refine fb_isC (n := 18) (wn := ([fb_o12 za zr (upd fr_e0 19 (0 : Int32)), fb_aw cI (zr 0) 16205 (upd (upd (fr_m (fun _ => 0) 0) 21 (nI zj)) 18 (1 : Int32))] : List va_W).flatten) X I 1 0 rfl rfl (by decide) (by decide) (Nat.le_of_ble_eq_true rfl) rfl dX12_key_67 (fun H locs I => ?_)
  refine lv_aload_n hx hb dX12_key_68 rfl (lv_at hl 0 rfl) ?_
  refine fb_get X I (k := 0) (v := .ref (zr 0)) fu_X12 0 fb_h12 rfl (Nat.le_of_ble_eq_true rfl) fw_1964 rfl rfl dX12_key_69 ?_
  refine lv_bipush (v := (11 : Int32)) hx hb dX12_key_72 (by decide) ?_
  refine lv_dup2_11 hx hb dX12_key_74 rfl rfl ?_
  refine fb_iaC (n := 11) (v := (0 : Int32)) X I 1 0 rfl rfl (by decide) (by decide) (Nat.le_of_ble_eq_true rfl) ((pk_un (by decide)).trans ((pk_un (by decide)).trans rfl)) dX12_key_75 ?_
  refine lv_iconst (v := (2 : Int32)) hx hb dX12_key_76 (by decide) ?_
  refine lv_ior hx hb dX12_key_77 ?_
  refine fb_tI (v := (2 : Int32)) (by decide) ?_
  refine fb_isC (n := 11) (wn := ([fb_o12 za zr (upd fr_e0 19 (0 : Int32)), fb_aw cI (zr 0) 16205 (upd (upd (upd (fr_m (fun _ => 0) 0) 21 (nI zj)) 18 (1 : Int32)) 11 (2 : Int32))] : List va_W).flatten) X I 1 0 rfl rfl (by decide) (by decide) (Nat.le_of_ble_eq_true rfl) rfl dX12_key_78 (fun H locs I => ?_)
  refine lv_aload_n hx hb dX12_key_79 rfl (lv_at hl 0 rfl) ?_
  refine fb_gV (cs := [fb_o12 za zr (upd fr_e0 19 (0 : Int32))]) (rs := [fb_aw cI (zr 0) 16205 (upd (upd (upd (fr_m (fun _ => 0) 0) 21 (nI zj)) 18 (1 : Int32)) 11 (2 : Int32))]) (fun (t : Unit) => [fb_o12 za zr (upd (upd fr_e0 19 (0 : Int32)) 2 (0 : Int32)), fb_aw cI (zr 0) 16205 (upd (upd (upd (fr_m (fun _ => 0) 0) 21 (nI zj)) 18 (1 : Int32)) 11 (2 : Int32))]) (fun (t : Unit) => [fb_o12 za zr (upd (upd fr_e0 19 (0 : Int32)) 2 (0 : Int32))]) X I [0, 1] 2 rfl (by decide +kernel) rfl rfl [0, 1] 2 (fun _ => rfl) (by decide +kernel) (fun _ => rfl) (fun _ => rfl) (fun I => fb_rV (As := []) (rest := []) X hl (fb_goodV fw_1960 fw_1962 fw_88 fw_204 fw_1963) (c_forget l D cI cJ za zr (upd fr_e0 19 (0 : Int32)) _ ) rfl rfl rfl (by decide +kernel : fb_hd yX12_forget 0) ⟨Nat.le_of_ble_eq_true rfl, Nat.le_of_ble_eq_true rfl⟩ rfl rfl rfl rfl rfl (Nat.le_of_ble_eq_true rfl) ⟨Nat.zero_le _, Nat.zero_le _⟩ dX12_key_80 I) ?_
  intro w6 H locs _ I
  have I : fb_In D A s.heap (([fb_o12 za zr (upd (upd fr_e0 19 (0 : Int32)) 2 (0 : Int32)), fb_aw cI (zr 0) 16205 (upd (upd (upd (fr_m (fun _ => 0) 0) 21 (nI zj)) 18 (1 : Int32)) 11 (2 : Int32))] : List va_W).flatten) H locs := I
  refine lv_aload_n hx hb dX12_key_83 rfl (lv_at hl 0 rfl) ?_
  refine fb_get X I (k := 0) (v := .ref (zr 0)) fu_X12 0 fb_h12 rfl (Nat.le_of_ble_eq_true rfl) fw_1964 rfl rfl dX12_key_84 ?_
  refine lv_bipush (v := (18 : Int32)) hx hb dX12_key_87 (by decide) ?_
  refine fb_iaC (n := 18) (v := (1 : Int32)) X I 1 0 rfl rfl (by decide) (by decide) (Nat.le_of_ble_eq_true rfl) ((pk_un (by decide)).trans pk_us) dX12_key_89 ?_
  exact fb_retI (u := ()) X I rfl rfl dX12_key_90

set_option maxHeartbeats 4000000 in
set_option maxRecDepth 100000 in
theorem c_signal (l : Launch) (D : va_G) (cI cJ : ClassId) (za : Nat) (zr : Nat → Nat) (sz : Nat)  : Met l yX12_signal (Cond.code yX12_signal cX12_signal 1 (some .int) :: fb_all) ({ frames := 2, cells := 0, slots := 0, locals := 50 } : Room) (fb_PP D (fb_ty D cI cJ) [.ref za] (([fb_o12 za zr fr_e0, fb_aw cI (zr 0) 16205 (fr_m (fun _ => 0) 0)] : List va_W).flatten) sz) (fb_QI D (va_A (([fb_o12 za zr fr_e0, fb_aw cI (zr 0) 16205 (fr_m (fun _ => 0) 0)] : List va_W).flatten) sz) (fun (r : Int32) (_ : Unit) => r = (4 : Int32)) (fun (t : Unit) => ([fb_o12 za zr (upd (upd fr_e0 19 (0 : Int32)) 2 (0 : Int32)), fb_aw cI (zr 0) 16205 (upd (fr_m (fun _ => 0) 0) 11 (4 : Int32))] : List va_W).flatten)) 0 0 (va_A (([fb_o12 za zr fr_e0, fb_aw cI (zr 0) 16205 (fr_m (fun _ => 0) 0)] : List va_W).flatten) sz) := by
  refine fb_ent (Qf := fun A => (fb_QI D A (fun (r : Int32) (_ : Unit) => r = (4 : Int32)) (fun (t : Unit) => ([fb_o12 za zr (upd (upd fr_e0 19 (0 : Int32)) 2 (0 : Int32)), fb_aw cI (zr 0) 16205 (upd (fr_m (fun _ => 0) 0) 11 (4 : Int32))] : List va_W).flatten))) (by decide +kernel) (Nat.le_of_ble_eq_true rfl) ?_
  intro p e s m args below meth c A ls X I hl hin
  obtain ⟨hx, hb, hr, hml, hown, hts, hlk, hA, hK, hF⟩ := id X
  have hl : lv_has ls 1 [(0, .ref za)] := hl
  refine lv_aload_n hx hb dX12_signal_0 rfl (lv_at hl 0 rfl) ?_
  refine lv_iconst (v := (0 : Int32)) hx hb dX12_signal_1 (by decide) ?_
  refine fb_put X I (k := 19) (wn := ([fb_o12 za zr (upd fr_e0 19 (0 : Int32)), fb_aw cI (zr 0) 16205 (fr_m (fun _ => 0) 0)] : List va_W).flatten) fu_X12 tyX12 tyX12_ok nmX12 0 fb_h12 rfl (Nat.le_of_ble_eq_true rfl) fw_1983 rfl rfl rfl rfl rfl (Nat.le_of_ble_eq_true rfl) fb_r12_19 dX12_signal_2 (fun H locs I => ?_)
  refine lv_aload_n hx hb dX12_signal_5 rfl (lv_at hl 0 rfl) ?_
  refine fb_get X I (k := 0) (v := .ref (zr 0)) fu_X12 0 fb_h12 rfl (Nat.le_of_ble_eq_true rfl) fw_1964 rfl rfl dX12_signal_6 ?_
  refine lv_bipush (v := (11 : Int32)) hx hb dX12_signal_9 (by decide) ?_
  refine lv_dup2_11 hx hb dX12_signal_11 rfl rfl ?_
  refine fb_iaC (n := 11) (v := (0 : Int32)) X I 1 0 rfl rfl (by decide) (by decide) (Nat.le_of_ble_eq_true rfl) rfl dX12_signal_12 ?_
  refine lv_iconst (v := (4 : Int32)) hx hb dX12_signal_13 (by decide) ?_
  refine lv_ior hx hb dX12_signal_14 ?_
  refine fb_tI (v := (4 : Int32)) (by decide) ?_
  refine fb_isC (n := 11) (wn := ([fb_o12 za zr (upd fr_e0 19 (0 : Int32)), fb_aw cI (zr 0) 16205 (upd (fr_m (fun _ => 0) 0) 11 (4 : Int32))] : List va_W).flatten) X I 1 0 rfl rfl (by decide) (by decide) (Nat.le_of_ble_eq_true rfl) rfl dX12_signal_15 (fun H locs I => ?_)
  refine lv_aload_n hx hb dX12_signal_16 rfl (lv_at hl 0 rfl) ?_
  refine fb_gV (cs := [fb_o12 za zr (upd fr_e0 19 (0 : Int32))]) (rs := [fb_aw cI (zr 0) 16205 (upd (fr_m (fun _ => 0) 0) 11 (4 : Int32))]) (fun (t : Unit) => [fb_o12 za zr (upd (upd fr_e0 19 (0 : Int32)) 2 (0 : Int32)), fb_aw cI (zr 0) 16205 (upd (fr_m (fun _ => 0) 0) 11 (4 : Int32))]) (fun (t : Unit) => [fb_o12 za zr (upd (upd fr_e0 19 (0 : Int32)) 2 (0 : Int32))]) X I [0, 1] 2 rfl (by decide +kernel) rfl rfl [0, 1] 2 (fun _ => rfl) (by decide +kernel) (fun _ => rfl) (fun _ => rfl) (fun I => fb_rV (As := []) (rest := []) X hl (fb_goodV fw_1960 fw_1962 fw_88 fw_204 fw_1963) (c_forget l D cI cJ za zr (upd fr_e0 19 (0 : Int32)) _ ) rfl rfl rfl (by decide +kernel : fb_hd yX12_forget 0) ⟨Nat.le_of_ble_eq_true rfl, Nat.le_of_ble_eq_true rfl⟩ rfl rfl rfl rfl rfl (Nat.le_of_ble_eq_true rfl) ⟨Nat.zero_le _, Nat.zero_le _⟩ dX12_signal_17 I) ?_
  intro w1 H locs _ I
  have I : fb_In D A s.heap (([fb_o12 za zr (upd (upd fr_e0 19 (0 : Int32)) 2 (0 : Int32)), fb_aw cI (zr 0) 16205 (upd (fr_m (fun _ => 0) 0) 11 (4 : Int32))] : List va_W).flatten) H locs := I
  refine lv_aload_n hx hb dX12_signal_20 rfl (lv_at hl 0 rfl) ?_
  refine fb_get X I (k := 0) (v := .ref (zr 0)) fu_X12 0 fb_h12 rfl (Nat.le_of_ble_eq_true rfl) fw_1964 rfl rfl dX12_signal_21 ?_
  refine lv_bipush (v := (11 : Int32)) hx hb dX12_signal_24 (by decide) ?_
  refine fb_iaC (n := 11) (v := (4 : Int32)) X I 1 0 rfl rfl (by decide) (by decide) (Nat.le_of_ble_eq_true rfl) pk_us dX12_signal_26 ?_
  exact fb_retI (u := ()) X I rfl rfl dX12_signal_27

set_option maxHeartbeats 4000000 in
set_option maxRecDepth 100000 in
theorem c_nmi (l : Launch) (D : va_G) (cI cJ : ClassId) (za : Nat) (zr : Nat → Nat) (sz : Nat)  : Met l yX12_nmi (Cond.code yX12_nmi cX12_nmi 2 (some .boolean) :: fb_all) ({ frames := 2, cells := 0, slots := 0, locals := 50 } : Room) (fb_PP D (fb_ty D cI cJ) [.ref za] (([fb_o12 za zr fr_e0, fb_aw cI (zr 0) 16205 (fr_m (fun _ => 0) 0)] : List va_W).flatten) sz) (fb_QI D (va_A (([fb_o12 za zr fr_e0, fb_aw cI (zr 0) 16205 (fr_m (fun _ => 0) 0)] : List va_W).flatten) sz) (fun (r : Int32) (_ : Unit) => r = (0 : Int32)) (fun (t : Unit) => ([fb_o12 za zr (upd (upd fr_e0 19 (0 : Int32)) 2 (0 : Int32)), fb_aw cI (zr 0) 16205 (upd (fr_m (fun _ => 0) 0) 6 (1 : Int32))] : List va_W).flatten)) 0 0 (va_A (([fb_o12 za zr fr_e0, fb_aw cI (zr 0) 16205 (fr_m (fun _ => 0) 0)] : List va_W).flatten) sz) := by
  refine fb_ent (Qf := fun A => (fb_QI D A (fun (r : Int32) (_ : Unit) => r = (0 : Int32)) (fun (t : Unit) => ([fb_o12 za zr (upd (upd fr_e0 19 (0 : Int32)) 2 (0 : Int32)), fb_aw cI (zr 0) 16205 (upd (fr_m (fun _ => 0) 0) 6 (1 : Int32))] : List va_W).flatten))) (by decide +kernel) (Nat.le_of_ble_eq_true rfl) ?_
  intro p e s m args below meth c A ls X I hl hin
  obtain ⟨hx, hb, hr, hml, hown, hts, hlk, hA, hK, hF⟩ := id X
  have hl : lv_has ls 2 [(0, .ref za)] := hl
  refine lv_aload_n hx hb dX12_nmi_0 rfl (lv_at hl 0 rfl) ?_
  refine lv_iconst (v := (0 : Int32)) hx hb dX12_nmi_1 (by decide) ?_
  refine fb_put X I (k := 19) (wn := ([fb_o12 za zr (upd fr_e0 19 (0 : Int32)), fb_aw cI (zr 0) 16205 (fr_m (fun _ => 0) 0)] : List va_W).flatten) fu_X12 tyX12 tyX12_ok nmX12 0 fb_h12 rfl (Nat.le_of_ble_eq_true rfl) fw_1983 rfl rfl rfl rfl rfl (Nat.le_of_ble_eq_true rfl) fb_r12_19 dX12_nmi_2 (fun H locs I => ?_)
  refine lv_aload_n hx hb dX12_nmi_5 rfl (lv_at hl 0 rfl) ?_
  refine fb_get X I (k := 0) (v := .ref (zr 0)) fu_X12 0 fb_h12 rfl (Nat.le_of_ble_eq_true rfl) fw_1964 rfl rfl dX12_nmi_6 ?_
  refine lv_bipush (v := (6 : Int32)) hx hb dX12_nmi_9 (by decide) ?_
  refine fb_iaC (n := 6) (v := (0 : Int32)) X I 1 0 rfl rfl (by decide) (by decide) (Nat.le_of_ble_eq_true rfl) rfl dX12_nmi_11 ?_
  refine lv_iconst (v := (1 : Int32)) hx hb dX12_nmi_12 (by decide) ?_
  refine lv_icmp_ne (tgt := 20) hx hb dX12_nmi_13 (by decide) (fun _ => ?_) (fun c1 => absurd c1 (by decide))
  refine lv_iconst (v := (0 : Int32)) hx hb dX12_nmi_20 (by decide) ?_
  refine lv_istore_n (lv' := [(1, .int (0 : Int32)), (0, .ref za)]) hx hb dX12_nmi_21 rfl hl (by decide) rfl (fun ls hl => ?_)
  refine lv_aload_n hx hb dX12_nmi_22 rfl (lv_at hl 1 rfl) ?_
  refine fb_get X I (k := 0) (v := .ref (zr 0)) fu_X12 0 fb_h12 rfl (Nat.le_of_ble_eq_true rfl) fw_1964 rfl rfl dX12_nmi_23 ?_
  refine lv_bipush (v := (6 : Int32)) hx hb dX12_nmi_26 (by decide) ?_
  refine lv_iconst (v := (1 : Int32)) hx hb dX12_nmi_28 (by decide) ?_
  refine fb_isC (n := 6) (wn := ([fb_o12 za zr (upd fr_e0 19 (0 : Int32)), fb_aw cI (zr 0) 16205 (upd (fr_m (fun _ => 0) 0) 6 (1 : Int32))] : List va_W).flatten) X I 1 0 rfl rfl (by decide) (by decide) (Nat.le_of_ble_eq_true rfl) rfl dX12_nmi_29 (fun H locs I => ?_)
  refine lv_aload_n hx hb dX12_nmi_30 rfl (lv_at hl 1 rfl) ?_
  refine fb_gV (cs := [fb_o12 za zr (upd fr_e0 19 (0 : Int32))]) (rs := [fb_aw cI (zr 0) 16205 (upd (fr_m (fun _ => 0) 0) 6 (1 : Int32))]) (fun (t : Unit) => [fb_o12 za zr (upd (upd fr_e0 19 (0 : Int32)) 2 (0 : Int32)), fb_aw cI (zr 0) 16205 (upd (fr_m (fun _ => 0) 0) 6 (1 : Int32))]) (fun (t : Unit) => [fb_o12 za zr (upd (upd fr_e0 19 (0 : Int32)) 2 (0 : Int32))]) X I [0, 1] 2 rfl (by decide +kernel) rfl rfl [0, 1] 2 (fun _ => rfl) (by decide +kernel) (fun _ => rfl) (fun _ => rfl) (fun I => fb_rV (As := []) (rest := []) X hl (fb_goodV fw_1960 fw_1962 fw_88 fw_204 fw_1963) (c_forget l D cI cJ za zr (upd fr_e0 19 (0 : Int32)) _ ) rfl rfl rfl (by decide +kernel : fb_hd yX12_forget 0) ⟨Nat.le_of_ble_eq_true rfl, Nat.le_of_ble_eq_true rfl⟩ rfl rfl rfl rfl rfl (Nat.le_of_ble_eq_true rfl) ⟨Nat.zero_le _, Nat.zero_le _⟩ dX12_nmi_31 I) ?_
  intro w2 H locs _ I
  have I : fb_In D A s.heap (([fb_o12 za zr (upd (upd fr_e0 19 (0 : Int32)) 2 (0 : Int32)), fb_aw cI (zr 0) 16205 (upd (fr_m (fun _ => 0) 0) 6 (1 : Int32))] : List va_W).flatten) H locs := I
  refine lv_iload_n hx hb dX12_nmi_34 rfl (lv_at hl 0 rfl) ?_
  exact fb_retI (u := ()) X I rfl rfl dX12_nmi_35

set_option maxHeartbeats 4000000 in
set_option maxRecDepth 100000 in
theorem c_back_out (l : Launch) (D : va_G) (cI cJ : ClassId) (za : Nat) (zr : Nat → Nat) (l1 : Int32) (sz : Nat) (q1 : f_X12_isIn l1 (1 : Int32) (200 : Int32) = (0 : Int32)) : Met l yX12_back (Cond.code yX12_back cX12_back 6 (some .int) :: fb_all) ({ frames := 3, cells := 0, slots := 0, locals := 75 } : Room) (fb_PP D (fb_ty D cI cJ) [.ref za, .int l1] (([fb_o12 za zr fr_e0] : List va_W).flatten) sz) (fb_QI D (va_A (([fb_o12 za zr fr_e0] : List va_W).flatten) sz) (fun (r : Int32) (_ : Unit) => r = (0 : Int32)) (fun (t : Unit) => ([fb_o12 za zr (upd (upd fr_e0 19 (0 : Int32)) 19 (1 : Int32))] : List va_W).flatten)) 0 0 (va_A (([fb_o12 za zr fr_e0] : List va_W).flatten) sz) := by
  refine fb_ent (Qf := fun A => (fb_QI D A (fun (r : Int32) (_ : Unit) => r = (0 : Int32)) (fun (t : Unit) => ([fb_o12 za zr (upd (upd fr_e0 19 (0 : Int32)) 19 (1 : Int32))] : List va_W).flatten))) (by decide +kernel) (Nat.le_of_ble_eq_true rfl) ?_
  intro p e s m args below meth c A ls X I hl hin
  obtain ⟨hx, hb, hr, hml, hown, hts, hlk, hA, hK, hF⟩ := id X
  have hl : lv_has ls 6 [(0, .ref za), (1, .int l1)] := hl
  refine lv_aload_n hx hb dX12_back_0 rfl (lv_at hl 0 rfl) ?_
  refine lv_iload_n hx hb dX12_back_1 rfl (lv_at hl 1 rfl) ?_
  refine lv_iconst (v := (1 : Int32)) hx hb dX12_back_2 (by decide) ?_
  refine lv_sipush (v := (200 : Int32)) hx hb dX12_back_3 (by decide) ?_
  refine fb_gI (cs := [fb_o12 za zr fr_e0]) (rs := []) (fun (t : Unit) => [fb_o12 za zr (upd (upd fr_e0 19 (0 : Int32)) 19 (1 : Int32))]) (fun (t : Unit) => [fb_o12 za zr (upd (upd fr_e0 19 (0 : Int32)) 19 (1 : Int32))]) X I [0] 1 rfl (by decide +kernel) rfl rfl [0] 1 (fun _ => rfl) (by decide +kernel) (fun _ => rfl) (fun _ => rfl) (fun I => fb_rV (As := [.int l1, .int (1 : Int32), .int (200 : Int32)]) (rest := []) X hl (fb_goodV fw_2346 fw_2348 fw_136 fw_204 fw_2349) (c_isNot_out l D cI cJ za zr fr_e0 l1 (1 : Int32) (200 : Int32) _ q1) rfl rfl rfl (by decide +kernel : fb_hd yX12_isNot 3) ⟨Nat.le_of_ble_eq_true rfl, Nat.le_of_ble_eq_true rfl⟩ rfl rfl rfl rfl rfl (Nat.le_of_ble_eq_true rfl) ⟨Nat.zero_le _, Nat.zero_le _⟩ dX12_back_6 I) ?_
  intro r2 w1 H locs e0 I
  subst e0
  have I : fb_In D A s.heap (([fb_o12 za zr (upd (upd fr_e0 19 (0 : Int32)) 19 (1 : Int32))] : List va_W).flatten) H locs := I
  refine lv_if_eq (tgt := 14) hx hb dX12_back_9 (by decide) (fun c3 => absurd c3 (by decide)) (fun _ => ?_)
  refine lv_iconst (v := (0 : Int32)) hx hb dX12_back_12 (by decide) ?_
  exact fb_retI (u := ()) X I rfl rfl dX12_back_13

set_option maxHeartbeats 4000000 in
set_option maxRecDepth 100000 in
theorem c_back_in (l : Launch) (D : va_G) (cI cJ : ClassId) (za : Nat) (zr : Nat → Nat) (zj : Nat) (sz : Nat) (hj : 1 ≤ zj ∧ zj ≤ 200) : Met l yX12_back (Cond.code yX12_back cX12_back 6 (some .int) :: fb_all) ({ frames := 3, cells := 0, slots := 0, locals := 75 } : Room) (fb_PP D (fb_ty D cI cJ) [.ref za, .int (nI zj)] (([fb_o12 za zr fr_e0] : List va_W).flatten) sz) (fb_QI D (va_A (([fb_o12 za zr fr_e0] : List va_W).flatten) sz) (fun (r : Int32) (_ : Unit) => r = (0 : Int32)) (fun (t : Unit) => ([fb_o12 za zr (upd (upd fr_e0 19 (0 : Int32)) 10 (0 : Int32))] : List va_W).flatten)) 0 0 (va_A (([fb_o12 za zr fr_e0] : List va_W).flatten) sz) := by
  refine fb_ent (Qf := fun A => (fb_QI D A (fun (r : Int32) (_ : Unit) => r = (0 : Int32)) (fun (t : Unit) => ([fb_o12 za zr (upd (upd fr_e0 19 (0 : Int32)) 10 (0 : Int32))] : List va_W).flatten))) (by decide +kernel) (Nat.le_of_ble_eq_true rfl) ?_
  intro p e s m args below meth c A ls X I hl hin
  obtain ⟨hx, hb, hr, hml, hown, hts, hlk, hA, hK, hF⟩ := id X
  have hl : lv_has ls 6 [(0, .ref za), (1, .int (nI zj))] := hl
  refine lv_aload_n hx hb dX12_back_0 rfl (lv_at hl 0 rfl) ?_
  refine lv_iload_n hx hb dX12_back_1 rfl (lv_at hl 1 rfl) ?_
  refine lv_iconst (v := (1 : Int32)) hx hb dX12_back_2 (by decide) ?_
  refine lv_sipush (v := (200 : Int32)) hx hb dX12_back_3 (by decide) ?_
  refine fb_gI (cs := [fb_o12 za zr fr_e0]) (rs := []) (fun (t : Unit) => [fb_o12 za zr (upd fr_e0 19 (0 : Int32))]) (fun (t : Unit) => [fb_o12 za zr (upd fr_e0 19 (0 : Int32))]) X I [0] 1 rfl (by decide +kernel) rfl rfl [0] 1 (fun _ => rfl) (by decide +kernel) (fun _ => rfl) (fun _ => rfl) (fun I => fb_rV (As := [.int (nI zj), .int (1 : Int32), .int (200 : Int32)]) (rest := []) X hl (fb_goodV fw_2346 fw_2348 fw_136 fw_204 fw_2349) (c_isNot_in l D cI cJ za zr fr_e0 (nI zj) (1 : Int32) (200 : Int32) _ (fr_inN (z := zj) (a := 1) (b := 200) (by omega) (by omega) (by omega))) rfl rfl rfl (by decide +kernel : fb_hd yX12_isNot 3) ⟨Nat.le_of_ble_eq_true rfl, Nat.le_of_ble_eq_true rfl⟩ rfl rfl rfl rfl rfl (Nat.le_of_ble_eq_true rfl) ⟨Nat.zero_le _, Nat.zero_le _⟩ dX12_back_6 I) ?_
  intro r2 w1 H locs e0 I
  subst e0
  have I : fb_In D A s.heap (([fb_o12 za zr (upd fr_e0 19 (0 : Int32))] : List va_W).flatten) H locs := I
  refine lv_if_eq (tgt := 14) hx hb dX12_back_9 (by decide) (fun _ => ?_) (fun c3 => absurd (by decide) c3)
  refine lv_iload_n hx hb dX12_back_14 rfl (lv_at hl 1 rfl) ?_
  refine lv_aload_n hx hb dX12_back_15 rfl (lv_at hl 0 rfl) ?_
  refine fb_get X I (k := 2) (v := .int (fr_e0 2)) fu_X12 0 fb_h12 rfl (Nat.le_of_ble_eq_true rfl) fw_1966 rfl rfl dX12_back_16 ?_
  refine fb_tI (v := (0 : Int32)) rfl ?_
  refine fb_min X hl fw_2598 fw_860 fw_214 fw_861 (Nat.le_of_ble_eq_true rfl) (Nat.le_of_ble_eq_true rfl) (Nat.le_of_ble_eq_true rfl) (Nat.le_of_ble_eq_true rfl) dX12_back_19 ?_
  refine fb_tI (v := (0 : Int32)) (if_pos (nI_lt (a := 0) (b := zj) (by omega) (by omega))) ?_
  refine lv_istore_n (lv' := [(2, .int (0 : Int32)), (0, .ref za), (1, .int (nI zj))]) hx hb dX12_back_22 rfl hl (by decide) rfl (fun ls hl => ?_)
  refine lv_iconst (v := (0 : Int32)) hx hb dX12_back_23 (by decide) ?_
  refine lv_istore_n (lv' := [(3, .int (0 : Int32)), (2, .int (0 : Int32)), (0, .ref za), (1, .int (nI zj))]) hx hb dX12_back_24 rfl hl (by decide) rfl (fun ls hl => ?_)
  refine lv_iload_n hx hb dX12_back_25 rfl (lv_at hl 0 rfl) ?_
  refine lv_iload_n hx hb dX12_back_26 rfl (lv_at hl 1 rfl) ?_
  refine lv_icmp_ge (tgt := 92) hx hb dX12_back_27 (by decide) (fun _ => ?_) (fun c4 => absurd (by decide) c4)
  refine lv_aload_n hx hb dX12_back_92 rfl (lv_at hl 2 rfl) ?_
  refine lv_iconst (v := (0 : Int32)) hx hb dX12_back_93 (by decide) ?_
  refine fb_put X I (k := 10) (wn := ([fb_o12 za zr (upd (upd fr_e0 19 (0 : Int32)) 10 (0 : Int32))] : List va_W).flatten) fu_X12 tyX12 tyX12_ok nmX12 0 fb_h12 rfl (Nat.le_of_ble_eq_true rfl) fw_1974 rfl rfl rfl rfl rfl (Nat.le_of_ble_eq_true rfl) fb_r12_10 dX12_back_94 (fun H locs I => ?_)
  refine lv_iload_n hx hb dX12_back_97 rfl (lv_at hl 1 rfl) ?_
  exact fb_retI (u := ()) X I rfl rfl dX12_back_98

set_option maxHeartbeats 4000000 in
set_option maxRecDepth 100000 in
theorem c_setBreak_out (l : Launch) (D : va_G) (cI cJ : ClassId) (za : Nat) (zr : Nat → Nat) (l1 : Int32) (l2 : Int32) (sz : Nat) (q1 : f_X12_isIn l1 (0 : Int32) (4095 : Int32) = (0 : Int32)) : Met l yX12_setBreak (Cond.code yX12_setBreak cX12_setBreak 4 (some .int) :: fb_all) ({ frames := 3, cells := 0, slots := 0, locals := 75 } : Room) (fb_PP D (fb_ty D cI cJ) [.ref za, .int l1, .int l2] (([fb_o12 za zr fr_e0] : List va_W).flatten) sz) (fb_QI D (va_A (([fb_o12 za zr fr_e0] : List va_W).flatten) sz) (fun (r : Int32) (_ : Unit) => r = (0 : Int32)) (fun (t : Unit) => ([fb_o12 za zr (upd (upd fr_e0 19 (0 : Int32)) 19 (1 : Int32))] : List va_W).flatten)) 0 0 (va_A (([fb_o12 za zr fr_e0] : List va_W).flatten) sz) := by
  refine fb_ent (Qf := fun A => (fb_QI D A (fun (r : Int32) (_ : Unit) => r = (0 : Int32)) (fun (t : Unit) => ([fb_o12 za zr (upd (upd fr_e0 19 (0 : Int32)) 19 (1 : Int32))] : List va_W).flatten))) (by decide +kernel) (Nat.le_of_ble_eq_true rfl) ?_
  intro p e s m args below meth c A ls X I hl hin
  obtain ⟨hx, hb, hr, hml, hown, hts, hlk, hA, hK, hF⟩ := id X
  have hl : lv_has ls 4 [(0, .ref za), (1, .int l1), (2, .int l2)] := hl
  refine lv_aload_n hx hb dX12_setBreak_0 rfl (lv_at hl 0 rfl) ?_
  refine lv_iload_n hx hb dX12_setBreak_1 rfl (lv_at hl 1 rfl) ?_
  refine lv_iconst (v := (0 : Int32)) hx hb dX12_setBreak_2 (by decide) ?_
  refine lv_sipush (v := (4095 : Int32)) hx hb dX12_setBreak_3 (by decide) ?_
  refine fb_gI (cs := [fb_o12 za zr fr_e0]) (rs := []) (fun (t : Unit) => [fb_o12 za zr (upd (upd fr_e0 19 (0 : Int32)) 19 (1 : Int32))]) (fun (t : Unit) => [fb_o12 za zr (upd (upd fr_e0 19 (0 : Int32)) 19 (1 : Int32))]) X I [0] 1 rfl (by decide +kernel) rfl rfl [0] 1 (fun _ => rfl) (by decide +kernel) (fun _ => rfl) (fun _ => rfl) (fun I => fb_rV (As := [.int l1, .int (0 : Int32), .int (4095 : Int32)]) (rest := []) X hl (fb_goodV fw_2346 fw_2348 fw_136 fw_204 fw_2349) (c_isNot_out l D cI cJ za zr fr_e0 l1 (0 : Int32) (4095 : Int32) _ q1) rfl rfl rfl (by decide +kernel : fb_hd yX12_isNot 3) ⟨Nat.le_of_ble_eq_true rfl, Nat.le_of_ble_eq_true rfl⟩ rfl rfl rfl rfl rfl (Nat.le_of_ble_eq_true rfl) ⟨Nat.zero_le _, Nat.zero_le _⟩ dX12_setBreak_6 I) ?_
  intro r2 w1 H locs e0 I
  subst e0
  have I : fb_In D A s.heap (([fb_o12 za zr (upd (upd fr_e0 19 (0 : Int32)) 19 (1 : Int32))] : List va_W).flatten) H locs := I
  refine lv_if_ne (tgt := 36) hx hb dX12_setBreak_9 (by decide) (fun _ => ?_) (fun c3 => absurd c3 (by decide))
  refine lv_iconst (v := (0 : Int32)) hx hb dX12_setBreak_36 (by decide) ?_
  exact fb_retI (u := ()) X I rfl rfl dX12_setBreak_37

set_option maxHeartbeats 4000000 in
set_option maxRecDepth 100000 in
theorem c_setBreak_bad (l : Launch) (D : va_G) (cI cJ : ClassId) (za : Nat) (zr : Nat → Nat) (zj : Nat) (l2 : Int32) (sz : Nat) (hj : zj < 4096) (q1 : f_X12_isIn l2 (0 : Int32) (1000 : Int32) = (0 : Int32)) : Met l yX12_setBreak (Cond.code yX12_setBreak cX12_setBreak 4 (some .int) :: fb_all) ({ frames := 3, cells := 0, slots := 0, locals := 75 } : Room) (fb_PP D (fb_ty D cI cJ) [.ref za, .int (nI zj), .int l2] (([fb_o12 za zr fr_e0] : List va_W).flatten) sz) (fb_QI D (va_A (([fb_o12 za zr fr_e0] : List va_W).flatten) sz) (fun (r : Int32) (_ : Unit) => r = (0 : Int32)) (fun (t : Unit) => ([fb_o12 za zr (upd (upd fr_e0 19 (0 : Int32)) 19 (1 : Int32))] : List va_W).flatten)) 0 0 (va_A (([fb_o12 za zr fr_e0] : List va_W).flatten) sz) := by
  refine fb_ent (Qf := fun A => (fb_QI D A (fun (r : Int32) (_ : Unit) => r = (0 : Int32)) (fun (t : Unit) => ([fb_o12 za zr (upd (upd fr_e0 19 (0 : Int32)) 19 (1 : Int32))] : List va_W).flatten))) (by decide +kernel) (Nat.le_of_ble_eq_true rfl) ?_
  intro p e s m args below meth c A ls X I hl hin
  obtain ⟨hx, hb, hr, hml, hown, hts, hlk, hA, hK, hF⟩ := id X
  have hl : lv_has ls 4 [(0, .ref za), (1, .int (nI zj)), (2, .int l2)] := hl
  refine lv_aload_n hx hb dX12_setBreak_0 rfl (lv_at hl 0 rfl) ?_
  refine lv_iload_n hx hb dX12_setBreak_1 rfl (lv_at hl 1 rfl) ?_
  refine lv_iconst (v := (0 : Int32)) hx hb dX12_setBreak_2 (by decide) ?_
  refine lv_sipush (v := (4095 : Int32)) hx hb dX12_setBreak_3 (by decide) ?_
  refine fb_gI (cs := [fb_o12 za zr fr_e0]) (rs := []) (fun (t : Unit) => [fb_o12 za zr (upd fr_e0 19 (0 : Int32))]) (fun (t : Unit) => [fb_o12 za zr (upd fr_e0 19 (0 : Int32))]) X I [0] 1 rfl (by decide +kernel) rfl rfl [0] 1 (fun _ => rfl) (by decide +kernel) (fun _ => rfl) (fun _ => rfl) (fun I => fb_rV (As := [.int (nI zj), .int (0 : Int32), .int (4095 : Int32)]) (rest := []) X hl (fb_goodV fw_2346 fw_2348 fw_136 fw_204 fw_2349) (c_isNot_in l D cI cJ za zr fr_e0 (nI zj) (0 : Int32) (4095 : Int32) _ (fr_inN (z := zj) (a := 0) (b := 4095) (by omega) (by omega) (by omega))) rfl rfl rfl (by decide +kernel : fb_hd yX12_isNot 3) ⟨Nat.le_of_ble_eq_true rfl, Nat.le_of_ble_eq_true rfl⟩ rfl rfl rfl rfl rfl (Nat.le_of_ble_eq_true rfl) ⟨Nat.zero_le _, Nat.zero_le _⟩ dX12_setBreak_6 I) ?_
  intro r2 w1 H locs e0 I
  subst e0
  have I : fb_In D A s.heap (([fb_o12 za zr (upd fr_e0 19 (0 : Int32))] : List va_W).flatten) H locs := I
  refine lv_if_ne (tgt := 36) hx hb dX12_setBreak_9 (by decide) (fun c3 => absurd (by decide) c3) (fun _ => ?_)
  refine lv_aload_n hx hb dX12_setBreak_12 rfl (lv_at hl 0 rfl) ?_
  refine lv_iload_n hx hb dX12_setBreak_13 rfl (lv_at hl 2 rfl) ?_
  refine lv_iconst (v := (0 : Int32)) hx hb dX12_setBreak_14 (by decide) ?_
  refine lv_sipush (v := (1000 : Int32)) hx hb dX12_setBreak_15 (by decide) ?_
  refine fb_gO (cs := []) (rs := [fb_o12 za zr (upd fr_e0 19 (0 : Int32))]) X I [0] 1 rfl (by decide +kernel) rfl rfl (fun I => fb_rS (As := [.int l2, .int (0 : Int32), .int (1000 : Int32)]) (rest := [.ref za]) X hl (fb_goodS fw_2147 fw_2148 fw_204 fw_2149) (c_X12_isIn l D cI cJ l2 (0 : Int32) (1000 : Int32) _) rfl rfl (by decide +kernel : fb_hd yX12_isIn 3) ⟨Nat.le_of_ble_eq_true rfl, Nat.le_of_ble_eq_true rfl⟩ rfl rfl (Nat.le_of_ble_eq_true rfl) ⟨Nat.le_of_ble_eq_true rfl, Nat.le_of_ble_eq_true rfl⟩ dX12_setBreak_18 I) ?_
  refine fb_tI (v := (0 : Int32)) q1 ?_
  refine lv_if_ne (tgt := 28) hx hb dX12_setBreak_21 (by decide) (fun c4 => absurd (by decide) c4) (fun _ => ?_)
  refine lv_iconst (v := (1 : Int32)) hx hb dX12_setBreak_24 (by decide) ?_
  refine lv_goto (tgt := 29) hx hb dX12_setBreak_25 (by decide) ?_
  refine lv_iconst (v := (1 : Int32)) hx hb dX12_setBreak_29 (by decide) ?_
  refine fb_gI (cs := [fb_o12 za zr (upd fr_e0 19 (0 : Int32))]) (rs := []) (fun (t : Unit) => [fb_o12 za zr (upd (upd fr_e0 19 (0 : Int32)) 19 (1 : Int32))]) (fun (t : Unit) => [fb_o12 za zr (upd (upd fr_e0 19 (0 : Int32)) 19 (1 : Int32))]) X I [0] 1 rfl (by decide +kernel) rfl rfl [0] 1 (fun _ => rfl) (by decide +kernel) (fun _ => rfl) (fun _ => rfl) (fun I => fb_rV (As := [.int (1 : Int32), .int (1 : Int32)]) (rest := []) X hl (fb_goodV fw_2350 fw_2352 fw_137 fw_204 fw_2353) (c_refuse_t l D cI cJ za zr (upd fr_e0 19 (0 : Int32)) (1 : Int32) _ rfl) rfl rfl rfl (by decide +kernel : fb_hd yX12_refuse 2) ⟨Nat.le_of_ble_eq_true rfl, Nat.le_of_ble_eq_true rfl⟩ rfl rfl rfl rfl rfl (Nat.le_of_ble_eq_true rfl) ⟨Nat.zero_le _, Nat.zero_le _⟩ dX12_setBreak_30 I) ?_
  intro r6 w5 H locs e0 I
  subst e0
  have I : fb_In D A s.heap (([fb_o12 za zr (upd (upd fr_e0 19 (0 : Int32)) 19 (1 : Int32))] : List va_W).flatten) H locs := I
  refine lv_if_eq (tgt := 38) hx hb dX12_setBreak_33 (by decide) (fun c7 => absurd c7 (by decide)) (fun _ => ?_)
  refine lv_iconst (v := (0 : Int32)) hx hb dX12_setBreak_36 (by decide) ?_
  exact fb_retI (u := ()) X I rfl rfl dX12_setBreak_37

set_option maxHeartbeats 4000000 in
set_option maxRecDepth 100000 in
theorem c_setBreak_in (l : Launch) (D : va_G) (cI cJ : ClassId) (za : Nat) (zr : Nat → Nat) (zj : Nat) (l2 : Int32) (zb : fb_AR) (zc : fb_AR) (sz : Nat) (hj : zj < 4096) (q1 : f_X12_isIn l2 (0 : Int32) (1000 : Int32) = (1 : Int32)) : Met l yX12_setBreak (Cond.code yX12_setBreak cX12_setBreak 4 (some .int) :: fb_all) ({ frames := 3, cells := 0, slots := 0, locals := 75 } : Room) (fb_PP D (fb_ty D cI cJ) [.ref za, .int (nI zj), .int l2] (([fb_o12 za zr fr_e0, fb_aw cI (zr 11) 6 zb, fb_aw cI (zr 12) 6 zc] : List va_W).flatten) sz) (fb_QI D (va_A (([fb_o12 za zr fr_e0, fb_aw cI (zr 11) 6 zb, fb_aw cI (zr 12) 6 zc] : List va_W).flatten) sz) (fun (r : Int32) (_ : Unit) => r = (1 : Int32)) (fun (t : Unit) => ([fb_o12 za zr (upd (upd fr_e0 19 (0 : Int32)) 13 (1 : Int32)), fb_aw cI (zr 11) 6 (upd zb 0 (nI zj)), fb_aw cI (zr 12) 6 (upd zc 0 l2)] : List va_W).flatten)) 0 0 (va_A (([fb_o12 za zr fr_e0, fb_aw cI (zr 11) 6 zb, fb_aw cI (zr 12) 6 zc] : List va_W).flatten) sz) := by
  refine fb_ent (Qf := fun A => (fb_QI D A (fun (r : Int32) (_ : Unit) => r = (1 : Int32)) (fun (t : Unit) => ([fb_o12 za zr (upd (upd fr_e0 19 (0 : Int32)) 13 (1 : Int32)), fb_aw cI (zr 11) 6 (upd zb 0 (nI zj)), fb_aw cI (zr 12) 6 (upd zc 0 l2)] : List va_W).flatten))) (by decide +kernel) (Nat.le_of_ble_eq_true rfl) ?_
  intro p e s m args below meth c A ls X I hl hin
  obtain ⟨hx, hb, hr, hml, hown, hts, hlk, hA, hK, hF⟩ := id X
  have hl : lv_has ls 4 [(0, .ref za), (1, .int (nI zj)), (2, .int l2)] := hl
  refine lv_aload_n hx hb dX12_setBreak_0 rfl (lv_at hl 0 rfl) ?_
  refine lv_iload_n hx hb dX12_setBreak_1 rfl (lv_at hl 1 rfl) ?_
  refine lv_iconst (v := (0 : Int32)) hx hb dX12_setBreak_2 (by decide) ?_
  refine lv_sipush (v := (4095 : Int32)) hx hb dX12_setBreak_3 (by decide) ?_
  refine fb_gI (cs := [fb_o12 za zr fr_e0]) (rs := [fb_aw cI (zr 11) 6 zb, fb_aw cI (zr 12) 6 zc]) (fun (t : Unit) => [fb_o12 za zr (upd fr_e0 19 (0 : Int32)), fb_aw cI (zr 11) 6 zb, fb_aw cI (zr 12) 6 zc]) (fun (t : Unit) => [fb_o12 za zr (upd fr_e0 19 (0 : Int32))]) X I [0, 1, 2] 3 rfl (by decide +kernel) rfl rfl [0, 1, 2] 3 (fun _ => rfl) (by decide +kernel) (fun _ => rfl) (fun _ => rfl) (fun I => fb_rV (As := [.int (nI zj), .int (0 : Int32), .int (4095 : Int32)]) (rest := []) X hl (fb_goodV fw_2346 fw_2348 fw_136 fw_204 fw_2349) (c_isNot_in l D cI cJ za zr fr_e0 (nI zj) (0 : Int32) (4095 : Int32) _ (fr_inN (z := zj) (a := 0) (b := 4095) (by omega) (by omega) (by omega))) rfl rfl rfl (by decide +kernel : fb_hd yX12_isNot 3) ⟨Nat.le_of_ble_eq_true rfl, Nat.le_of_ble_eq_true rfl⟩ rfl rfl rfl rfl rfl (Nat.le_of_ble_eq_true rfl) ⟨Nat.zero_le _, Nat.zero_le _⟩ dX12_setBreak_6 I) ?_
  intro r2 w1 H locs e0 I
  subst e0
  have I : fb_In D A s.heap (([fb_o12 za zr (upd fr_e0 19 (0 : Int32)), fb_aw cI (zr 11) 6 zb, fb_aw cI (zr 12) 6 zc] : List va_W).flatten) H locs := I
  refine lv_if_ne (tgt := 36) hx hb dX12_setBreak_9 (by decide) (fun c3 => absurd (by decide) c3) (fun _ => ?_)
  refine lv_aload_n hx hb dX12_setBreak_12 rfl (lv_at hl 0 rfl) ?_
  refine lv_iload_n hx hb dX12_setBreak_13 rfl (lv_at hl 2 rfl) ?_
  refine lv_iconst (v := (0 : Int32)) hx hb dX12_setBreak_14 (by decide) ?_
  refine lv_sipush (v := (1000 : Int32)) hx hb dX12_setBreak_15 (by decide) ?_
  refine fb_gO (cs := []) (rs := [fb_o12 za zr (upd fr_e0 19 (0 : Int32)), fb_aw cI (zr 11) 6 zb, fb_aw cI (zr 12) 6 zc]) X I [0, 1, 2] 3 rfl (by decide +kernel) rfl rfl (fun I => fb_rS (As := [.int l2, .int (0 : Int32), .int (1000 : Int32)]) (rest := [.ref za]) X hl (fb_goodS fw_2147 fw_2148 fw_204 fw_2149) (c_X12_isIn l D cI cJ l2 (0 : Int32) (1000 : Int32) _) rfl rfl (by decide +kernel : fb_hd yX12_isIn 3) ⟨Nat.le_of_ble_eq_true rfl, Nat.le_of_ble_eq_true rfl⟩ rfl rfl (Nat.le_of_ble_eq_true rfl) ⟨Nat.le_of_ble_eq_true rfl, Nat.le_of_ble_eq_true rfl⟩ dX12_setBreak_18 I) ?_
  refine fb_tI (v := (1 : Int32)) q1 ?_
  refine lv_if_ne (tgt := 28) hx hb dX12_setBreak_21 (by decide) (fun _ => ?_) (fun c4 => absurd c4 (by decide))
  refine lv_iconst (v := (0 : Int32)) hx hb dX12_setBreak_28 (by decide) ?_
  refine lv_iconst (v := (1 : Int32)) hx hb dX12_setBreak_29 (by decide) ?_
  refine fb_gO (cs := [fb_o12 za zr (upd fr_e0 19 (0 : Int32))]) (rs := [fb_aw cI (zr 11) 6 zb, fb_aw cI (zr 12) 6 zc]) X I [0, 1, 2] 3 rfl (by decide +kernel) rfl rfl (fun I => fb_rV (As := [.int (0 : Int32), .int (1 : Int32)]) (rest := []) X hl (fb_goodV fw_2350 fw_2352 fw_137 fw_204 fw_2353) (c_refuse_f l D cI cJ za zr (upd fr_e0 19 (0 : Int32)) (1 : Int32) _ ) rfl rfl rfl (by decide +kernel : fb_hd yX12_refuse 2) ⟨Nat.le_of_ble_eq_true rfl, Nat.le_of_ble_eq_true rfl⟩ rfl rfl rfl rfl rfl (Nat.le_of_ble_eq_true rfl) ⟨Nat.zero_le _, Nat.zero_le _⟩ dX12_setBreak_30 I) ?_
  refine lv_if_eq (tgt := 38) hx hb dX12_setBreak_33 (by decide) (fun _ => ?_) (fun c5 => absurd (by decide) c5)
  refine lv_aload_n hx hb dX12_setBreak_38 rfl (lv_at hl 0 rfl) ?_
  refine lv_iload_n hx hb dX12_setBreak_39 rfl (lv_at hl 1 rfl) ?_
  refine fb_gO (cs := [fb_o12 za zr (upd fr_e0 19 (0 : Int32))]) (rs := [fb_aw cI (zr 11) 6 zb, fb_aw cI (zr 12) 6 zc]) X I [0, 1, 2] 3 rfl (by decide +kernel) rfl rfl (fun I => fb_rV (As := [.int (nI zj)]) (rest := []) X hl (fb_goodV fw_2582 fw_2584 fw_180 fw_204 fw_2585) (c_breakAt l D cI cJ za zr (upd fr_e0 19 (0 : Int32)) (nI zj) _ rfl) rfl rfl rfl (by decide +kernel : fb_hd yX12_breakAt 1) ⟨Nat.le_of_ble_eq_true rfl, Nat.le_of_ble_eq_true rfl⟩ rfl rfl rfl rfl rfl (Nat.le_of_ble_eq_true rfl) ⟨Nat.zero_le _, Nat.zero_le _⟩ dX12_setBreak_40 I) ?_
  refine lv_istore_n (lv' := [(3, .int (-1 : Int32)), (0, .ref za), (1, .int (nI zj)), (2, .int l2)]) hx hb dX12_setBreak_43 rfl hl (by decide) rfl (fun ls hl => ?_)
  refine lv_aload_n hx hb dX12_setBreak_44 rfl (lv_at hl 1 rfl) ?_
  refine lv_iload_n hx hb dX12_setBreak_45 rfl (lv_at hl 0 rfl) ?_
  refine lv_if_ge (tgt := 62) hx hb dX12_setBreak_46 (by decide) (fun c6 => absurd c6 (by decide)) (fun _ => ?_)
  refine lv_aload_n hx hb dX12_setBreak_49 rfl (lv_at hl 1 rfl) ?_
  refine fb_get X I (k := 13) (v := .int (fr_e0 13)) fu_X12 0 fb_h12 rfl (Nat.le_of_ble_eq_true rfl) fw_1977 rfl rfl dX12_setBreak_50 ?_
  refine fb_tI (v := (0 : Int32)) rfl ?_
  refine lv_bipush (v := (6 : Int32)) hx hb dX12_setBreak_53 (by decide) ?_
  refine lv_icmp_ne (tgt := 62) hx hb dX12_setBreak_55 (by decide) (fun _ => ?_) (fun c7 => absurd c7 (by decide))
  refine lv_iconst (v := (0 : Int32)) hx hb dX12_setBreak_62 (by decide) ?_
  refine lv_iconst (v := (2 : Int32)) hx hb dX12_setBreak_63 (by decide) ?_
  refine fb_gO (cs := [fb_o12 za zr (upd fr_e0 19 (0 : Int32))]) (rs := [fb_aw cI (zr 11) 6 zb, fb_aw cI (zr 12) 6 zc]) X I [0, 1, 2] 3 rfl (by decide +kernel) rfl rfl (fun I => fb_rV (As := [.int (0 : Int32), .int (2 : Int32)]) (rest := []) X hl (fb_goodV fw_2350 fw_2352 fw_137 fw_204 fw_2353) (c_refuse_f l D cI cJ za zr (upd fr_e0 19 (0 : Int32)) (2 : Int32) _ ) rfl rfl rfl (by decide +kernel : fb_hd yX12_refuse 2) ⟨Nat.le_of_ble_eq_true rfl, Nat.le_of_ble_eq_true rfl⟩ rfl rfl rfl rfl rfl (Nat.le_of_ble_eq_true rfl) ⟨Nat.zero_le _, Nat.zero_le _⟩ dX12_setBreak_64 I) ?_
  refine lv_if_eq (tgt := 72) hx hb dX12_setBreak_67 (by decide) (fun _ => ?_) (fun c8 => absurd (by decide) c8)
  refine lv_iload_n hx hb dX12_setBreak_72 rfl (lv_at hl 0 rfl) ?_
  refine lv_if_ge (tgt := 91) hx hb dX12_setBreak_73 (by decide) (fun c9 => absurd c9 (by decide)) (fun _ => ?_)
  refine lv_aload_n hx hb dX12_setBreak_76 rfl (lv_at hl 1 rfl) ?_
  refine fb_get X I (k := 13) (v := .int (fr_e0 13)) fu_X12 0 fb_h12 rfl (Nat.le_of_ble_eq_true rfl) fw_1977 rfl rfl dX12_setBreak_77 ?_
  refine fb_tI (v := (0 : Int32)) rfl ?_
  refine lv_istore_n (lv' := [(3, .int (0 : Int32)), (0, .ref za), (1, .int (nI zj)), (2, .int l2)]) hx hb dX12_setBreak_80 rfl hl (by decide) rfl (fun ls hl => ?_)
  refine lv_aload_n hx hb dX12_setBreak_81 rfl (lv_at hl 1 rfl) ?_
  refine lv_dup hx hb dX12_setBreak_82 rfl ?_
  refine fb_get X I (k := 13) (v := .int (fr_e0 13)) fu_X12 0 fb_h12 rfl (Nat.le_of_ble_eq_true rfl) fw_1977 rfl rfl dX12_setBreak_83 ?_
  refine fb_tI (v := (0 : Int32)) rfl ?_
  refine lv_iconst (v := (1 : Int32)) hx hb dX12_setBreak_86 (by decide) ?_
  refine lv_iadd hx hb dX12_setBreak_87 ?_
  refine fb_tI (v := (1 : Int32)) (by decide) ?_
  refine fb_put X I (k := 13) (wn := ([fb_o12 za zr (upd (upd fr_e0 19 (0 : Int32)) 13 (1 : Int32)), fb_aw cI (zr 11) 6 zb, fb_aw cI (zr 12) 6 zc] : List va_W).flatten) fu_X12 tyX12 tyX12_ok nmX12 0 fb_h12 rfl (Nat.le_of_ble_eq_true rfl) fw_1977 rfl rfl rfl rfl rfl (Nat.le_of_ble_eq_true rfl) fb_r12_13 dX12_setBreak_88 (fun H locs I => ?_)
  refine lv_aload_n hx hb dX12_setBreak_91 rfl (lv_at hl 1 rfl) ?_
  refine fb_get X I (k := 11) (v := .ref (zr 11)) fu_X12 0 fb_h12 rfl (Nat.le_of_ble_eq_true rfl) fw_1975 rfl rfl dX12_setBreak_92 ?_
  refine lv_iload_n hx hb dX12_setBreak_95 rfl (lv_at hl 0 rfl) ?_
  refine lv_iload_n hx hb dX12_setBreak_96 rfl (lv_at hl 2 rfl) ?_
  refine fb_isC (n := 0) (wn := ([fb_o12 za zr (upd (upd fr_e0 19 (0 : Int32)) 13 (1 : Int32)), fb_aw cI (zr 11) 6 (upd zb 0 (nI zj)), fb_aw cI (zr 12) 6 zc] : List va_W).flatten) X I 1 0 rfl rfl (by decide) (by decide) (Nat.le_of_ble_eq_true rfl) rfl dX12_setBreak_97 (fun H locs I => ?_)
  refine lv_aload_n hx hb dX12_setBreak_98 rfl (lv_at hl 1 rfl) ?_
  refine fb_get X I (k := 12) (v := .ref (zr 12)) fu_X12 0 fb_h12 rfl (Nat.le_of_ble_eq_true rfl) fw_1976 rfl rfl dX12_setBreak_99 ?_
  refine lv_iload_n hx hb dX12_setBreak_102 rfl (lv_at hl 0 rfl) ?_
  refine lv_iload_n hx hb dX12_setBreak_103 rfl (lv_at hl 3 rfl) ?_
  refine fb_isC (n := 0) (wn := ([fb_o12 za zr (upd (upd fr_e0 19 (0 : Int32)) 13 (1 : Int32)), fb_aw cI (zr 11) 6 (upd zb 0 (nI zj)), fb_aw cI (zr 12) 6 (upd zc 0 l2)] : List va_W).flatten) X I 2 0 rfl rfl (by decide) (by decide) (Nat.le_of_ble_eq_true rfl) rfl dX12_setBreak_104 (fun H locs I => ?_)
  refine lv_aload_n hx hb dX12_setBreak_105 rfl (lv_at hl 1 rfl) ?_
  refine fb_get X I (k := 13) (v := .int (1 : Int32)) fu_X12 0 fb_h12 rfl (Nat.le_of_ble_eq_true rfl) fw_1977 rfl rfl dX12_setBreak_106 ?_
  exact fb_retI (u := ()) X I rfl rfl dX12_setBreak_109

set_option maxHeartbeats 4000000 in
set_option maxRecDepth 100000 in
theorem c_clearBreak (l : Launch) (D : va_G) (cI cJ : ClassId) (za : Nat) (zr : Nat → Nat) (l1 : Int32) (sz : Nat)  : Met l yX12_clearBreak (Cond.code yX12_clearBreak cX12_clearBreak 4 (some .int) :: fb_all) ({ frames := 2, cells := 0, slots := 0, locals := 52 } : Room) (fb_PP D (fb_ty D cI cJ) [.ref za, .int l1] (([fb_o12 za zr fr_e0] : List va_W).flatten) sz) (fb_QI D (va_A (([fb_o12 za zr fr_e0] : List va_W).flatten) sz) (fun (r : Int32) (_ : Unit) => r = (-1 : Int32)) (fun (t : Unit) => ([fb_o12 za zr (upd fr_e0 19 (0 : Int32))] : List va_W).flatten)) 0 0 (va_A (([fb_o12 za zr fr_e0] : List va_W).flatten) sz) := by
  refine fb_ent (Qf := fun A => (fb_QI D A (fun (r : Int32) (_ : Unit) => r = (-1 : Int32)) (fun (t : Unit) => ([fb_o12 za zr (upd fr_e0 19 (0 : Int32))] : List va_W).flatten))) (by decide +kernel) (Nat.le_of_ble_eq_true rfl) ?_
  intro p e s m args below meth c A ls X I hl hin
  obtain ⟨hx, hb, hr, hml, hown, hts, hlk, hA, hK, hF⟩ := id X
  have hl : lv_has ls 4 [(0, .ref za), (1, .int l1)] := hl
  refine lv_aload_n hx hb dX12_clearBreak_0 rfl (lv_at hl 0 rfl) ?_
  refine lv_iconst (v := (0 : Int32)) hx hb dX12_clearBreak_1 (by decide) ?_
  refine fb_put X I (k := 19) (wn := ([fb_o12 za zr (upd fr_e0 19 (0 : Int32))] : List va_W).flatten) fu_X12 tyX12 tyX12_ok nmX12 0 fb_h12 rfl (Nat.le_of_ble_eq_true rfl) fw_1983 rfl rfl rfl rfl rfl (Nat.le_of_ble_eq_true rfl) fb_r12_19 dX12_clearBreak_2 (fun H locs I => ?_)
  refine lv_aload_n hx hb dX12_clearBreak_5 rfl (lv_at hl 0 rfl) ?_
  refine lv_iload_n hx hb dX12_clearBreak_6 rfl (lv_at hl 1 rfl) ?_
  refine fb_gO (cs := [fb_o12 za zr (upd fr_e0 19 (0 : Int32))]) (rs := []) X I [0] 1 rfl (by decide +kernel) rfl rfl (fun I => fb_rV (As := [.int l1]) (rest := []) X hl (fb_goodV fw_2582 fw_2584 fw_180 fw_204 fw_2585) (c_breakAt l D cI cJ za zr (upd fr_e0 19 (0 : Int32)) l1 _ rfl) rfl rfl rfl (by decide +kernel : fb_hd yX12_breakAt 1) ⟨Nat.le_of_ble_eq_true rfl, Nat.le_of_ble_eq_true rfl⟩ rfl rfl rfl rfl rfl (Nat.le_of_ble_eq_true rfl) ⟨Nat.zero_le _, Nat.zero_le _⟩ dX12_clearBreak_7 I) ?_
  refine lv_istore_n (lv' := [(2, .int (-1 : Int32)), (0, .ref za), (1, .int l1)]) hx hb dX12_clearBreak_10 rfl hl (by decide) rfl (fun ls hl => ?_)
  refine lv_iload_n hx hb dX12_clearBreak_11 rfl (lv_at hl 0 rfl) ?_
  refine lv_if_ge (tgt := 17) hx hb dX12_clearBreak_12 (by decide) (fun c1 => absurd c1 (by decide)) (fun _ => ?_)
  refine lv_iconst (v := (-1 : Int32)) hx hb dX12_clearBreak_15 (by decide) ?_
  exact fb_retI (u := ()) X I rfl rfl dX12_clearBreak_16

set_option maxHeartbeats 4000000 in
set_option maxRecDepth 100000 in
theorem c_setWatch_out (l : Launch) (D : va_G) (cI cJ : ClassId) (za : Nat) (zr : Nat → Nat) (l1 : Int32) (l2 : Int32) (b3 : Bool) (b4 : Bool) (sz : Nat) (q1 : f_X12_isIn l1 (0 : Int32) (4095 : Int32) = (0 : Int32)) : Met l yX12_setWatch (Cond.code yX12_setWatch cX12_setWatch 5 (some .int) :: fb_all) ({ frames := 3, cells := 0, slots := 0, locals := 75 } : Room) (fb_PP D (fb_ty D cI cJ) [.ref za, .int l1, .int l2, .int (fb_bI b3), .int (fb_bI b4)] (([fb_o12 za zr fr_e0] : List va_W).flatten) sz) (fb_QI D (va_A (([fb_o12 za zr fr_e0] : List va_W).flatten) sz) (fun (r : Int32) (_ : Unit) => r = (0 : Int32)) (fun (t : Unit) => ([fb_o12 za zr (upd (upd fr_e0 19 (0 : Int32)) 19 (1 : Int32))] : List va_W).flatten)) 0 0 (va_A (([fb_o12 za zr fr_e0] : List va_W).flatten) sz) := by
  refine fb_ent (Qf := fun A => (fb_QI D A (fun (r : Int32) (_ : Unit) => r = (0 : Int32)) (fun (t : Unit) => ([fb_o12 za zr (upd (upd fr_e0 19 (0 : Int32)) 19 (1 : Int32))] : List va_W).flatten))) (by decide +kernel) (Nat.le_of_ble_eq_true rfl) ?_
  intro p e s m args below meth c A ls X I hl hin
  obtain ⟨hx, hb, hr, hml, hown, hts, hlk, hA, hK, hF⟩ := id X
  have hl : lv_has ls 5 [(0, .ref za), (1, .int l1), (2, .int l2), (3, .int (fb_bI b3)), (4, .int (fb_bI b4))] := hl
  refine lv_aload_n hx hb dX12_setWatch_0 rfl (lv_at hl 0 rfl) ?_
  refine lv_iload_n hx hb dX12_setWatch_1 rfl (lv_at hl 1 rfl) ?_
  refine lv_iconst (v := (0 : Int32)) hx hb dX12_setWatch_2 (by decide) ?_
  refine lv_sipush (v := (4095 : Int32)) hx hb dX12_setWatch_3 (by decide) ?_
  refine fb_gI (cs := [fb_o12 za zr fr_e0]) (rs := []) (fun (t : Unit) => [fb_o12 za zr (upd (upd fr_e0 19 (0 : Int32)) 19 (1 : Int32))]) (fun (t : Unit) => [fb_o12 za zr (upd (upd fr_e0 19 (0 : Int32)) 19 (1 : Int32))]) X I [0] 1 rfl (by decide +kernel) rfl rfl [0] 1 (fun _ => rfl) (by decide +kernel) (fun _ => rfl) (fun _ => rfl) (fun I => fb_rV (As := [.int l1, .int (0 : Int32), .int (4095 : Int32)]) (rest := []) X hl (fb_goodV fw_2346 fw_2348 fw_136 fw_204 fw_2349) (c_isNot_out l D cI cJ za zr fr_e0 l1 (0 : Int32) (4095 : Int32) _ q1) rfl rfl rfl (by decide +kernel : fb_hd yX12_isNot 3) ⟨Nat.le_of_ble_eq_true rfl, Nat.le_of_ble_eq_true rfl⟩ rfl rfl rfl rfl rfl (Nat.le_of_ble_eq_true rfl) ⟨Nat.zero_le _, Nat.zero_le _⟩ dX12_setWatch_6 I) ?_
  intro r2 w1 H locs e0 I
  subst e0
  have I : fb_In D A s.heap (([fb_o12 za zr (upd (upd fr_e0 19 (0 : Int32)) 19 (1 : Int32))] : List va_W).flatten) H locs := I
  refine lv_if_ne (tgt := 57) hx hb dX12_setWatch_9 (by decide) (fun _ => ?_) (fun c3 => absurd c3 (by decide))
  refine lv_iconst (v := (0 : Int32)) hx hb dX12_setWatch_57 (by decide) ?_
  exact fb_retI (u := ()) X I rfl rfl dX12_setWatch_58

set_option maxHeartbeats 4000000 in
set_option maxRecDepth 100000 in
theorem c_setWatch_bad (l : Launch) (D : va_G) (cI cJ : ClassId) (za : Nat) (zr : Nat → Nat) (zj : Nat) (l2 : Int32) (b3 : Bool) (b4 : Bool) (sz : Nat) (hj : zj < 4096) (q1 : f_X12_isIn l2 (nI zj) (4095 : Int32) = (0 : Int32)) : Met l yX12_setWatch (Cond.code yX12_setWatch cX12_setWatch 5 (some .int) :: fb_all) ({ frames := 3, cells := 0, slots := 0, locals := 75 } : Room) (fb_PP D (fb_ty D cI cJ) [.ref za, .int (nI zj), .int l2, .int (fb_bI b3), .int (fb_bI b4)] (([fb_o12 za zr fr_e0] : List va_W).flatten) sz) (fb_QI D (va_A (([fb_o12 za zr fr_e0] : List va_W).flatten) sz) (fun (r : Int32) (_ : Unit) => r = (0 : Int32)) (fun (t : Unit) => ([fb_o12 za zr (upd (upd fr_e0 19 (0 : Int32)) 19 (1 : Int32))] : List va_W).flatten)) 0 0 (va_A (([fb_o12 za zr fr_e0] : List va_W).flatten) sz) := by
  refine fb_ent (Qf := fun A => (fb_QI D A (fun (r : Int32) (_ : Unit) => r = (0 : Int32)) (fun (t : Unit) => ([fb_o12 za zr (upd (upd fr_e0 19 (0 : Int32)) 19 (1 : Int32))] : List va_W).flatten))) (by decide +kernel) (Nat.le_of_ble_eq_true rfl) ?_
  intro p e s m args below meth c A ls X I hl hin
  obtain ⟨hx, hb, hr, hml, hown, hts, hlk, hA, hK, hF⟩ := id X
  have hl : lv_has ls 5 [(0, .ref za), (1, .int (nI zj)), (2, .int l2), (3, .int (fb_bI b3)), (4, .int (fb_bI b4))] := hl
  refine lv_aload_n hx hb dX12_setWatch_0 rfl (lv_at hl 0 rfl) ?_
  refine lv_iload_n hx hb dX12_setWatch_1 rfl (lv_at hl 1 rfl) ?_
  refine lv_iconst (v := (0 : Int32)) hx hb dX12_setWatch_2 (by decide) ?_
  refine lv_sipush (v := (4095 : Int32)) hx hb dX12_setWatch_3 (by decide) ?_
  refine fb_gI (cs := [fb_o12 za zr fr_e0]) (rs := []) (fun (t : Unit) => [fb_o12 za zr (upd fr_e0 19 (0 : Int32))]) (fun (t : Unit) => [fb_o12 za zr (upd fr_e0 19 (0 : Int32))]) X I [0] 1 rfl (by decide +kernel) rfl rfl [0] 1 (fun _ => rfl) (by decide +kernel) (fun _ => rfl) (fun _ => rfl) (fun I => fb_rV (As := [.int (nI zj), .int (0 : Int32), .int (4095 : Int32)]) (rest := []) X hl (fb_goodV fw_2346 fw_2348 fw_136 fw_204 fw_2349) (c_isNot_in l D cI cJ za zr fr_e0 (nI zj) (0 : Int32) (4095 : Int32) _ (fr_inN (z := zj) (a := 0) (b := 4095) (by omega) (by omega) (by omega))) rfl rfl rfl (by decide +kernel : fb_hd yX12_isNot 3) ⟨Nat.le_of_ble_eq_true rfl, Nat.le_of_ble_eq_true rfl⟩ rfl rfl rfl rfl rfl (Nat.le_of_ble_eq_true rfl) ⟨Nat.zero_le _, Nat.zero_le _⟩ dX12_setWatch_6 I) ?_
  intro r2 w1 H locs e0 I
  subst e0
  have I : fb_In D A s.heap (([fb_o12 za zr (upd fr_e0 19 (0 : Int32))] : List va_W).flatten) H locs := I
  refine lv_if_ne (tgt := 57) hx hb dX12_setWatch_9 (by decide) (fun c3 => absurd (by decide) c3) (fun _ => ?_)
  refine lv_aload_n hx hb dX12_setWatch_12 rfl (lv_at hl 0 rfl) ?_
  refine lv_iload_n hx hb dX12_setWatch_13 rfl (lv_at hl 2 rfl) ?_
  refine lv_iload_n hx hb dX12_setWatch_14 rfl (lv_at hl 1 rfl) ?_
  refine lv_sipush (v := (4095 : Int32)) hx hb dX12_setWatch_15 (by decide) ?_
  refine fb_gO (cs := []) (rs := [fb_o12 za zr (upd fr_e0 19 (0 : Int32))]) X I [0] 1 rfl (by decide +kernel) rfl rfl (fun I => fb_rS (As := [.int l2, .int (nI zj), .int (4095 : Int32)]) (rest := [.ref za]) X hl (fb_goodS fw_2147 fw_2148 fw_204 fw_2149) (c_X12_isIn l D cI cJ l2 (nI zj) (4095 : Int32) _) rfl rfl (by decide +kernel : fb_hd yX12_isIn 3) ⟨Nat.le_of_ble_eq_true rfl, Nat.le_of_ble_eq_true rfl⟩ rfl rfl (Nat.le_of_ble_eq_true rfl) ⟨Nat.le_of_ble_eq_true rfl, Nat.le_of_ble_eq_true rfl⟩ dX12_setWatch_18 I) ?_
  refine fb_tI (v := (0 : Int32)) q1 ?_
  refine lv_if_ne (tgt := 28) hx hb dX12_setWatch_21 (by decide) (fun c4 => absurd (by decide) c4) (fun _ => ?_)
  refine lv_iconst (v := (1 : Int32)) hx hb dX12_setWatch_24 (by decide) ?_
  refine lv_goto (tgt := 29) hx hb dX12_setWatch_25 (by decide) ?_
  refine lv_iconst (v := (1 : Int32)) hx hb dX12_setWatch_29 (by decide) ?_
  refine fb_gI (cs := [fb_o12 za zr (upd fr_e0 19 (0 : Int32))]) (rs := []) (fun (t : Unit) => [fb_o12 za zr (upd (upd fr_e0 19 (0 : Int32)) 19 (1 : Int32))]) (fun (t : Unit) => [fb_o12 za zr (upd (upd fr_e0 19 (0 : Int32)) 19 (1 : Int32))]) X I [0] 1 rfl (by decide +kernel) rfl rfl [0] 1 (fun _ => rfl) (by decide +kernel) (fun _ => rfl) (fun _ => rfl) (fun I => fb_rV (As := [.int (1 : Int32), .int (1 : Int32)]) (rest := []) X hl (fb_goodV fw_2350 fw_2352 fw_137 fw_204 fw_2353) (c_refuse_t l D cI cJ za zr (upd fr_e0 19 (0 : Int32)) (1 : Int32) _ rfl) rfl rfl rfl (by decide +kernel : fb_hd yX12_refuse 2) ⟨Nat.le_of_ble_eq_true rfl, Nat.le_of_ble_eq_true rfl⟩ rfl rfl rfl rfl rfl (Nat.le_of_ble_eq_true rfl) ⟨Nat.zero_le _, Nat.zero_le _⟩ dX12_setWatch_30 I) ?_
  intro r6 w5 H locs e0 I
  subst e0
  have I : fb_In D A s.heap (([fb_o12 za zr (upd (upd fr_e0 19 (0 : Int32)) 19 (1 : Int32))] : List va_W).flatten) H locs := I
  refine lv_if_ne (tgt := 57) hx hb dX12_setWatch_33 (by decide) (fun _ => ?_) (fun c7 => absurd c7 (by decide))
  refine lv_iconst (v := (0 : Int32)) hx hb dX12_setWatch_57 (by decide) ?_
  exact fb_retI (u := ()) X I rfl rfl dX12_setWatch_58

set_option maxHeartbeats 4000000 in
set_option maxRecDepth 100000 in
theorem c_setWatch_in (l : Launch) (D : va_G) (cI cJ : ClassId) (za : Nat) (zr : Nat → Nat) (zj : Nat) (l2 : Int32) (zb : fb_AR) (zc : fb_AR) (zd : fb_AR) (zf : fb_AR) (b3 : Bool) (b4 : Bool) (sz : Nat) (hj : zj < 4096) (q1 : f_X12_isIn l2 (nI zj) (4095 : Int32) = (1 : Int32)) : Met l yX12_setWatch (Cond.code yX12_setWatch cX12_setWatch 5 (some .int) :: fb_all) ({ frames := 3, cells := 0, slots := 0, locals := 75 } : Room) (fb_PP D (fb_ty D cI cJ) [.ref za, .int (nI zj), .int l2, .int (fb_bI b3), .int (fb_bI b4)] (([fb_o12 za zr fr_e0, fb_aw cI (zr 14) 4 zb, fb_aw cI (zr 15) 4 zc, fb_aw (D.1 20) (zr 16) 4 zd, fb_aw (D.1 20) (zr 17) 4 zf] : List va_W).flatten) sz) (fb_QI D (va_A (([fb_o12 za zr fr_e0, fb_aw cI (zr 14) 4 zb, fb_aw cI (zr 15) 4 zc, fb_aw (D.1 20) (zr 16) 4 zd, fb_aw (D.1 20) (zr 17) 4 zf] : List va_W).flatten) sz) (fun (r : Int32) (_ : Unit) => r = (1 : Int32)) (fun (t : Unit) => ([fb_o12 za zr (upd (upd fr_e0 19 (0 : Int32)) 18 (1 : Int32)), fb_aw cI (zr 14) 4 (upd zb 0 (nI zj)), fb_aw cI (zr 15) 4 (upd zc 0 l2), fb_aw (D.1 20) (zr 16) 4 (upd zd 0 (fb_bI b3)), fb_aw (D.1 20) (zr 17) 4 (upd zf 0 (fb_bI b4))] : List va_W).flatten)) 0 0 (va_A (([fb_o12 za zr fr_e0, fb_aw cI (zr 14) 4 zb, fb_aw cI (zr 15) 4 zc, fb_aw (D.1 20) (zr 16) 4 zd, fb_aw (D.1 20) (zr 17) 4 zf] : List va_W).flatten) sz) := by
  refine fb_ent (Qf := fun A => (fb_QI D A (fun (r : Int32) (_ : Unit) => r = (1 : Int32)) (fun (t : Unit) => ([fb_o12 za zr (upd (upd fr_e0 19 (0 : Int32)) 18 (1 : Int32)), fb_aw cI (zr 14) 4 (upd zb 0 (nI zj)), fb_aw cI (zr 15) 4 (upd zc 0 l2), fb_aw (D.1 20) (zr 16) 4 (upd zd 0 (fb_bI b3)), fb_aw (D.1 20) (zr 17) 4 (upd zf 0 (fb_bI b4))] : List va_W).flatten))) (by decide +kernel) (Nat.le_of_ble_eq_true rfl) ?_
  intro p e s m args below meth c A ls X I hl hin
  obtain ⟨hx, hb, hr, hml, hown, hts, hlk, hA, hK, hF⟩ := id X
  have hl : lv_has ls 5 [(0, .ref za), (1, .int (nI zj)), (2, .int l2), (3, .int (fb_bI b3)), (4, .int (fb_bI b4))] := hl
  refine lv_aload_n hx hb dX12_setWatch_0 rfl (lv_at hl 0 rfl) ?_
  refine lv_iload_n hx hb dX12_setWatch_1 rfl (lv_at hl 1 rfl) ?_
  refine lv_iconst (v := (0 : Int32)) hx hb dX12_setWatch_2 (by decide) ?_
  refine lv_sipush (v := (4095 : Int32)) hx hb dX12_setWatch_3 (by decide) ?_
  refine fb_gI (cs := [fb_o12 za zr fr_e0]) (rs := [fb_aw cI (zr 14) 4 zb, fb_aw cI (zr 15) 4 zc, fb_aw (D.1 20) (zr 16) 4 zd, fb_aw (D.1 20) (zr 17) 4 zf]) (fun (t : Unit) => [fb_o12 za zr (upd fr_e0 19 (0 : Int32)), fb_aw cI (zr 14) 4 zb, fb_aw cI (zr 15) 4 zc, fb_aw (D.1 20) (zr 16) 4 zd, fb_aw (D.1 20) (zr 17) 4 zf]) (fun (t : Unit) => [fb_o12 za zr (upd fr_e0 19 (0 : Int32))]) X I [0, 1, 2, 3, 4] 5 rfl (by decide +kernel) rfl rfl [0, 1, 2, 3, 4] 5 (fun _ => rfl) (by decide +kernel) (fun _ => rfl) (fun _ => rfl) (fun I => fb_rV (As := [.int (nI zj), .int (0 : Int32), .int (4095 : Int32)]) (rest := []) X hl (fb_goodV fw_2346 fw_2348 fw_136 fw_204 fw_2349) (c_isNot_in l D cI cJ za zr fr_e0 (nI zj) (0 : Int32) (4095 : Int32) _ (fr_inN (z := zj) (a := 0) (b := 4095) (by omega) (by omega) (by omega))) rfl rfl rfl (by decide +kernel : fb_hd yX12_isNot 3) ⟨Nat.le_of_ble_eq_true rfl, Nat.le_of_ble_eq_true rfl⟩ rfl rfl rfl rfl rfl (Nat.le_of_ble_eq_true rfl) ⟨Nat.zero_le _, Nat.zero_le _⟩ dX12_setWatch_6 I) ?_
  intro r2 w1 H locs e0 I
  subst e0
  have I : fb_In D A s.heap (([fb_o12 za zr (upd fr_e0 19 (0 : Int32)), fb_aw cI (zr 14) 4 zb, fb_aw cI (zr 15) 4 zc, fb_aw (D.1 20) (zr 16) 4 zd, fb_aw (D.1 20) (zr 17) 4 zf] : List va_W).flatten) H locs := I
  refine lv_if_ne (tgt := 57) hx hb dX12_setWatch_9 (by decide) (fun c3 => absurd (by decide) c3) (fun _ => ?_)
  refine lv_aload_n hx hb dX12_setWatch_12 rfl (lv_at hl 0 rfl) ?_
  refine lv_iload_n hx hb dX12_setWatch_13 rfl (lv_at hl 2 rfl) ?_
  refine lv_iload_n hx hb dX12_setWatch_14 rfl (lv_at hl 1 rfl) ?_
  refine lv_sipush (v := (4095 : Int32)) hx hb dX12_setWatch_15 (by decide) ?_
  refine fb_gO (cs := []) (rs := [fb_o12 za zr (upd fr_e0 19 (0 : Int32)), fb_aw cI (zr 14) 4 zb, fb_aw cI (zr 15) 4 zc, fb_aw (D.1 20) (zr 16) 4 zd, fb_aw (D.1 20) (zr 17) 4 zf]) X I [0, 1, 2, 3, 4] 5 rfl (by decide +kernel) rfl rfl (fun I => fb_rS (As := [.int l2, .int (nI zj), .int (4095 : Int32)]) (rest := [.ref za]) X hl (fb_goodS fw_2147 fw_2148 fw_204 fw_2149) (c_X12_isIn l D cI cJ l2 (nI zj) (4095 : Int32) _) rfl rfl (by decide +kernel : fb_hd yX12_isIn 3) ⟨Nat.le_of_ble_eq_true rfl, Nat.le_of_ble_eq_true rfl⟩ rfl rfl (Nat.le_of_ble_eq_true rfl) ⟨Nat.le_of_ble_eq_true rfl, Nat.le_of_ble_eq_true rfl⟩ dX12_setWatch_18 I) ?_
  refine fb_tI (v := (1 : Int32)) q1 ?_
  refine lv_if_ne (tgt := 28) hx hb dX12_setWatch_21 (by decide) (fun _ => ?_) (fun c4 => absurd c4 (by decide))
  refine lv_iconst (v := (0 : Int32)) hx hb dX12_setWatch_28 (by decide) ?_
  refine lv_iconst (v := (1 : Int32)) hx hb dX12_setWatch_29 (by decide) ?_
  refine fb_gO (cs := [fb_o12 za zr (upd fr_e0 19 (0 : Int32))]) (rs := [fb_aw cI (zr 14) 4 zb, fb_aw cI (zr 15) 4 zc, fb_aw (D.1 20) (zr 16) 4 zd, fb_aw (D.1 20) (zr 17) 4 zf]) X I [0, 1, 2, 3, 4] 5 rfl (by decide +kernel) rfl rfl (fun I => fb_rV (As := [.int (0 : Int32), .int (1 : Int32)]) (rest := []) X hl (fb_goodV fw_2350 fw_2352 fw_137 fw_204 fw_2353) (c_refuse_f l D cI cJ za zr (upd fr_e0 19 (0 : Int32)) (1 : Int32) _ ) rfl rfl rfl (by decide +kernel : fb_hd yX12_refuse 2) ⟨Nat.le_of_ble_eq_true rfl, Nat.le_of_ble_eq_true rfl⟩ rfl rfl rfl rfl rfl (Nat.le_of_ble_eq_true rfl) ⟨Nat.zero_le _, Nat.zero_le _⟩ dX12_setWatch_30 I) ?_
  refine lv_if_ne (tgt := 57) hx hb dX12_setWatch_33 (by decide) (fun c5 => absurd (by decide) c5) (fun _ => ?_)
  refine lv_aload_n hx hb dX12_setWatch_36 rfl (lv_at hl 0 rfl) ?_
  refine lv_aload_n hx hb dX12_setWatch_37 rfl (lv_at hl 0 rfl) ?_
  refine fb_get X I (k := 18) (v := .int (fr_e0 18)) fu_X12 0 fb_h12 rfl (Nat.le_of_ble_eq_true rfl) fw_1982 rfl rfl dX12_setWatch_38 ?_
  refine fb_tI (v := (0 : Int32)) rfl ?_
  refine lv_iconst (v := (4 : Int32)) hx hb dX12_setWatch_41 (by decide) ?_
  refine lv_icmp_ne (tgt := 49) hx hb dX12_setWatch_42 (by decide) (fun _ => ?_) (fun c6 => absurd c6 (by decide))
  refine lv_iconst (v := (0 : Int32)) hx hb dX12_setWatch_49 (by decide) ?_
  refine lv_iconst (v := (2 : Int32)) hx hb dX12_setWatch_50 (by decide) ?_
  refine fb_gO (cs := [fb_o12 za zr (upd fr_e0 19 (0 : Int32))]) (rs := [fb_aw cI (zr 14) 4 zb, fb_aw cI (zr 15) 4 zc, fb_aw (D.1 20) (zr 16) 4 zd, fb_aw (D.1 20) (zr 17) 4 zf]) X I [0, 1, 2, 3, 4] 5 rfl (by decide +kernel) rfl rfl (fun I => fb_rV (As := [.int (0 : Int32), .int (2 : Int32)]) (rest := []) X hl (fb_goodV fw_2350 fw_2352 fw_137 fw_204 fw_2353) (c_refuse_f l D cI cJ za zr (upd fr_e0 19 (0 : Int32)) (2 : Int32) _ ) rfl rfl rfl (by decide +kernel : fb_hd yX12_refuse 2) ⟨Nat.le_of_ble_eq_true rfl, Nat.le_of_ble_eq_true rfl⟩ rfl rfl rfl rfl rfl (Nat.le_of_ble_eq_true rfl) ⟨Nat.zero_le _, Nat.zero_le _⟩ dX12_setWatch_51 I) ?_
  refine lv_if_eq (tgt := 59) hx hb dX12_setWatch_54 (by decide) (fun _ => ?_) (fun c7 => absurd (by decide) c7)
  refine lv_aload_n hx hb dX12_setWatch_59 rfl (lv_at hl 0 rfl) ?_
  refine fb_get X I (k := 14) (v := .ref (zr 14)) fu_X12 0 fb_h12 rfl (Nat.le_of_ble_eq_true rfl) fw_1978 rfl rfl dX12_setWatch_60 ?_
  refine lv_aload_n hx hb dX12_setWatch_63 rfl (lv_at hl 0 rfl) ?_
  refine fb_get X I (k := 18) (v := .int (fr_e0 18)) fu_X12 0 fb_h12 rfl (Nat.le_of_ble_eq_true rfl) fw_1982 rfl rfl dX12_setWatch_64 ?_
  refine fb_tI (v := (0 : Int32)) rfl ?_
  refine lv_iload_n hx hb dX12_setWatch_67 rfl (lv_at hl 1 rfl) ?_
  refine fb_isC (n := 0) (wn := ([fb_o12 za zr (upd fr_e0 19 (0 : Int32)), fb_aw cI (zr 14) 4 (upd zb 0 (nI zj)), fb_aw cI (zr 15) 4 zc, fb_aw (D.1 20) (zr 16) 4 zd, fb_aw (D.1 20) (zr 17) 4 zf] : List va_W).flatten) X I 1 0 rfl rfl (by decide) (by decide) (Nat.le_of_ble_eq_true rfl) rfl dX12_setWatch_68 (fun H locs I => ?_)
  refine lv_aload_n hx hb dX12_setWatch_69 rfl (lv_at hl 0 rfl) ?_
  refine fb_get X I (k := 15) (v := .ref (zr 15)) fu_X12 0 fb_h12 rfl (Nat.le_of_ble_eq_true rfl) fw_1979 rfl rfl dX12_setWatch_70 ?_
  refine lv_aload_n hx hb dX12_setWatch_73 rfl (lv_at hl 0 rfl) ?_
  refine fb_get X I (k := 18) (v := .int (fr_e0 18)) fu_X12 0 fb_h12 rfl (Nat.le_of_ble_eq_true rfl) fw_1982 rfl rfl dX12_setWatch_74 ?_
  refine fb_tI (v := (0 : Int32)) rfl ?_
  refine lv_iload_n hx hb dX12_setWatch_77 rfl (lv_at hl 2 rfl) ?_
  refine fb_isC (n := 0) (wn := ([fb_o12 za zr (upd fr_e0 19 (0 : Int32)), fb_aw cI (zr 14) 4 (upd zb 0 (nI zj)), fb_aw cI (zr 15) 4 (upd zc 0 l2), fb_aw (D.1 20) (zr 16) 4 zd, fb_aw (D.1 20) (zr 17) 4 zf] : List va_W).flatten) X I 2 0 rfl rfl (by decide) (by decide) (Nat.le_of_ble_eq_true rfl) rfl dX12_setWatch_78 (fun H locs I => ?_)
  refine lv_aload_n hx hb dX12_setWatch_79 rfl (lv_at hl 0 rfl) ?_
  refine fb_get X I (k := 16) (v := .ref (zr 16)) fu_X12 0 fb_h12 rfl (Nat.le_of_ble_eq_true rfl) fw_1980 rfl rfl dX12_setWatch_80 ?_
  refine lv_aload_n hx hb dX12_setWatch_83 rfl (lv_at hl 0 rfl) ?_
  refine fb_get X I (k := 18) (v := .int (fr_e0 18)) fu_X12 0 fb_h12 rfl (Nat.le_of_ble_eq_true rfl) fw_1982 rfl rfl dX12_setWatch_84 ?_
  refine fb_tI (v := (0 : Int32)) rfl ?_
  refine lv_iload_n hx hb dX12_setWatch_87 rfl (lv_at hl 3 rfl) ?_
  refine fb_zsC (n := 0) (wn := ([fb_o12 za zr (upd fr_e0 19 (0 : Int32)), fb_aw cI (zr 14) 4 (upd zb 0 (nI zj)), fb_aw cI (zr 15) 4 (upd zc 0 l2), fb_aw (D.1 20) (zr 16) 4 (upd zd 0 (fb_bI b3)), fb_aw (D.1 20) (zr 17) 4 zf] : List va_W).flatten) X I 3 2 rfl rfl (by decide) (by decide) (Nat.le_of_ble_eq_true rfl) (fr_nar b3) rfl dX12_setWatch_88 (fun H locs I => ?_)
  refine lv_aload_n hx hb dX12_setWatch_89 rfl (lv_at hl 0 rfl) ?_
  refine fb_get X I (k := 17) (v := .ref (zr 17)) fu_X12 0 fb_h12 rfl (Nat.le_of_ble_eq_true rfl) fw_1981 rfl rfl dX12_setWatch_90 ?_
  refine lv_aload_n hx hb dX12_setWatch_93 rfl (lv_at hl 0 rfl) ?_
  refine fb_get X I (k := 18) (v := .int (fr_e0 18)) fu_X12 0 fb_h12 rfl (Nat.le_of_ble_eq_true rfl) fw_1982 rfl rfl dX12_setWatch_94 ?_
  refine fb_tI (v := (0 : Int32)) rfl ?_
  refine lv_iload hx hb dX12_setWatch_97 (lv_at hl 4 rfl) ?_
  refine fb_zsC (n := 0) (wn := ([fb_o12 za zr (upd fr_e0 19 (0 : Int32)), fb_aw cI (zr 14) 4 (upd zb 0 (nI zj)), fb_aw cI (zr 15) 4 (upd zc 0 l2), fb_aw (D.1 20) (zr 16) 4 (upd zd 0 (fb_bI b3)), fb_aw (D.1 20) (zr 17) 4 (upd zf 0 (fb_bI b4))] : List va_W).flatten) X I 4 2 rfl rfl (by decide) (by decide) (Nat.le_of_ble_eq_true rfl) (fr_nar b4) rfl dX12_setWatch_99 (fun H locs I => ?_)
  refine lv_aload_n hx hb dX12_setWatch_100 rfl (lv_at hl 0 rfl) ?_
  refine lv_dup hx hb dX12_setWatch_101 rfl ?_
  refine fb_get X I (k := 18) (v := .int (fr_e0 18)) fu_X12 0 fb_h12 rfl (Nat.le_of_ble_eq_true rfl) fw_1982 rfl rfl dX12_setWatch_102 ?_
  refine fb_tI (v := (0 : Int32)) rfl ?_
  refine lv_iconst (v := (1 : Int32)) hx hb dX12_setWatch_105 (by decide) ?_
  refine lv_iadd hx hb dX12_setWatch_106 ?_
  refine fb_tI (v := (1 : Int32)) (by decide) ?_
  refine fb_put X I (k := 18) (wn := ([fb_o12 za zr (upd (upd fr_e0 19 (0 : Int32)) 18 (1 : Int32)), fb_aw cI (zr 14) 4 (upd zb 0 (nI zj)), fb_aw cI (zr 15) 4 (upd zc 0 l2), fb_aw (D.1 20) (zr 16) 4 (upd zd 0 (fb_bI b3)), fb_aw (D.1 20) (zr 17) 4 (upd zf 0 (fb_bI b4))] : List va_W).flatten) fu_X12 tyX12 tyX12_ok nmX12 0 fb_h12 rfl (Nat.le_of_ble_eq_true rfl) fw_1982 rfl rfl rfl rfl rfl (Nat.le_of_ble_eq_true rfl) fb_r12_18 dX12_setWatch_107 (fun H locs I => ?_)
  refine lv_aload_n hx hb dX12_setWatch_110 rfl (lv_at hl 0 rfl) ?_
  refine fb_get X I (k := 18) (v := .int (1 : Int32)) fu_X12 0 fb_h12 rfl (Nat.le_of_ble_eq_true rfl) fw_1982 rfl rfl dX12_setWatch_111 ?_
  exact fb_retI (u := ()) X I rfl rfl dX12_setWatch_114

set_option maxHeartbeats 4000000 in
set_option maxRecDepth 100000 in
theorem c_clearWatches (l : Launch) (D : va_G) (cI cJ : ClassId) (za : Nat) (zr : Nat → Nat) (sz : Nat)  : Met l yX12_clearWatches (Cond.code yX12_clearWatches cX12_clearWatches 2 (some .int) :: fb_all) ({ frames := 1, cells := 0, slots := 0, locals := 30 } : Room) (fb_PP D (fb_ty D cI cJ) [.ref za] (([fb_o12 za zr fr_e0] : List va_W).flatten) sz) (fb_QI D (va_A (([fb_o12 za zr fr_e0] : List va_W).flatten) sz) (fun (r : Int32) (_ : Unit) => r = (0 : Int32)) (fun (t : Unit) => ([fb_o12 za zr (upd (upd fr_e0 19 (0 : Int32)) 18 (0 : Int32))] : List va_W).flatten)) 0 0 (va_A (([fb_o12 za zr fr_e0] : List va_W).flatten) sz) := by
  refine fb_ent (Qf := fun A => (fb_QI D A (fun (r : Int32) (_ : Unit) => r = (0 : Int32)) (fun (t : Unit) => ([fb_o12 za zr (upd (upd fr_e0 19 (0 : Int32)) 18 (0 : Int32))] : List va_W).flatten))) (by decide +kernel) (Nat.le_of_ble_eq_true rfl) ?_
  intro p e s m args below meth c A ls X I hl hin
  obtain ⟨hx, hb, hr, hml, hown, hts, hlk, hA, hK, hF⟩ := id X
  have hl : lv_has ls 2 [(0, .ref za)] := hl
  refine lv_aload_n hx hb dX12_clearWatches_0 rfl (lv_at hl 0 rfl) ?_
  refine lv_iconst (v := (0 : Int32)) hx hb dX12_clearWatches_1 (by decide) ?_
  refine fb_put X I (k := 19) (wn := ([fb_o12 za zr (upd fr_e0 19 (0 : Int32))] : List va_W).flatten) fu_X12 tyX12 tyX12_ok nmX12 0 fb_h12 rfl (Nat.le_of_ble_eq_true rfl) fw_1983 rfl rfl rfl rfl rfl (Nat.le_of_ble_eq_true rfl) fb_r12_19 dX12_clearWatches_2 (fun H locs I => ?_)
  refine lv_aload_n hx hb dX12_clearWatches_5 rfl (lv_at hl 0 rfl) ?_
  refine fb_get X I (k := 18) (v := .int (fr_e0 18)) fu_X12 0 fb_h12 rfl (Nat.le_of_ble_eq_true rfl) fw_1982 rfl rfl dX12_clearWatches_6 ?_
  refine fb_tI (v := (0 : Int32)) rfl ?_
  refine lv_istore_n (lv' := [(1, .int (0 : Int32)), (0, .ref za)]) hx hb dX12_clearWatches_9 rfl hl (by decide) rfl (fun ls hl => ?_)
  refine lv_aload_n hx hb dX12_clearWatches_10 rfl (lv_at hl 1 rfl) ?_
  refine lv_iconst (v := (0 : Int32)) hx hb dX12_clearWatches_11 (by decide) ?_
  refine fb_put X I (k := 18) (wn := ([fb_o12 za zr (upd (upd fr_e0 19 (0 : Int32)) 18 (0 : Int32))] : List va_W).flatten) fu_X12 tyX12 tyX12_ok nmX12 0 fb_h12 rfl (Nat.le_of_ble_eq_true rfl) fw_1982 rfl rfl rfl rfl rfl (Nat.le_of_ble_eq_true rfl) fb_r12_18 dX12_clearWatches_12 (fun H locs I => ?_)
  refine lv_iload_n hx hb dX12_clearWatches_15 rfl (lv_at hl 0 rfl) ?_
  exact fb_retI (u := ()) X I rfl rfl dX12_clearWatches_16

set_option maxHeartbeats 4000000 in
set_option maxRecDepth 100000 in
theorem c_meanCycles (l : Launch) (D : va_G) (cI cJ : ClassId) (za : Nat) (zr : Nat → Nat) (sz : Nat)  : Met l yX12_meanCycles (Cond.code yX12_meanCycles cX12_meanCycles 1 (some .double) :: fb_all) ({ frames := 1, cells := 0, slots := 0, locals := 30 } : Room) (fb_PP D (fb_ty D cI cJ) [.ref za] (([fb_o12 za zr fr_e0, fb_aw cI (zr 0) 16205 (fr_m (fun _ => 0) 0)] : List va_W).flatten) sz) (fb_QD D (va_A (([fb_o12 za zr fr_e0, fb_aw cI (zr 0) 16205 (fr_m (fun _ => 0) 0)] : List va_W).flatten) sz) (fun (r : UInt64) (_ : Unit) => r = (0 : UInt64)) (fun (t : Unit) => ([fb_o12 za zr (upd fr_e0 19 (0 : Int32)), fb_aw cI (zr 0) 16205 (fr_m (fun _ => 0) 0)] : List va_W).flatten)) 0 0 (va_A (([fb_o12 za zr fr_e0, fb_aw cI (zr 0) 16205 (fr_m (fun _ => 0) 0)] : List va_W).flatten) sz) := by
  refine fb_ent (Qf := fun A => (fb_QD D A (fun (r : UInt64) (_ : Unit) => r = (0 : UInt64)) (fun (t : Unit) => ([fb_o12 za zr (upd fr_e0 19 (0 : Int32)), fb_aw cI (zr 0) 16205 (fr_m (fun _ => 0) 0)] : List va_W).flatten))) (by decide +kernel) (Nat.le_of_ble_eq_true rfl) ?_
  intro p e s m args below meth c A ls X I hl hin
  obtain ⟨hx, hb, hr, hml, hown, hts, hlk, hA, hK, hF⟩ := id X
  have hl : lv_has ls 1 [(0, .ref za)] := hl
  refine lv_aload_n hx hb dX12_meanCycles_0 rfl (lv_at hl 0 rfl) ?_
  refine lv_iconst (v := (0 : Int32)) hx hb dX12_meanCycles_1 (by decide) ?_
  refine fb_put X I (k := 19) (wn := ([fb_o12 za zr (upd fr_e0 19 (0 : Int32)), fb_aw cI (zr 0) 16205 (fr_m (fun _ => 0) 0)] : List va_W).flatten) fu_X12 tyX12 tyX12_ok nmX12 0 fb_h12 rfl (Nat.le_of_ble_eq_true rfl) fw_1983 rfl rfl rfl rfl rfl (Nat.le_of_ble_eq_true rfl) fb_r12_19 dX12_meanCycles_2 (fun H locs I => ?_)
  refine lv_aload_n hx hb dX12_meanCycles_5 rfl (lv_at hl 0 rfl) ?_
  refine fb_get X I (k := 0) (v := .ref (zr 0)) fu_X12 0 fb_h12 rfl (Nat.le_of_ble_eq_true rfl) fw_1964 rfl rfl dX12_meanCycles_6 ?_
  refine lv_bipush (v := (8 : Int32)) hx hb dX12_meanCycles_9 (by decide) ?_
  refine fb_iaC (n := 8) (v := (0 : Int32)) X I 1 0 rfl rfl (by decide) (by decide) (Nat.le_of_ble_eq_true rfl) rfl dX12_meanCycles_11 ?_
  refine lv_if_ne (tgt := 19) hx hb dX12_meanCycles_12 (by decide) (fun c1 => absurd (by decide) c1) (fun _ => ?_)
  refine lv_dconst0 hx hb dX12_meanCycles_15 ?_
  refine lv_goto (tgt := 36) hx hb dX12_meanCycles_16 (by decide) ?_
  exact fb_retD (u := ()) X I rfl dX12_meanCycles_36

