set_option maxHeartbeats 4000000 in
set_option maxRecDepth 100000 in
theorem c_forget (l : Launch) (D : va_G) (cI cJ : ClassId) (za : Nat) (zr : Nat → Nat) (ze : fb_AR) (sz : Nat)  : Met l yX12_forget (Cond.code yX12_forget cX12_forget 1 none :: fb_all) ({ frames := 1, cells := 0, slots := 0, locals := 30 } : Room) (fb_PP D (fb_ty D cI cJ) [.ref za] (([fb_o12 za zr ze] : List va_W).flatten) sz) (fb_QV D (va_A (([fb_o12 za zr ze] : List va_W).flatten) sz) (fun (_ : Unit) => True) (fun (t : Unit) => ([fb_o12 za zr (upd ze 2 (0 : Int32))] : List va_W).flatten)) 0 0 (va_A (([fb_o12 za zr ze] : List va_W).flatten) sz) := by
  refine fb_ent (Qf := fun A => (fb_QV D A (fun (_ : Unit) => True) (fun (t : Unit) => ([fb_o12 za zr (upd ze 2 (0 : Int32))] : List va_W).flatten))) (by decide +kernel) (Nat.le_of_ble_eq_true rfl) ?_
  intro p e s m args below meth c A ls X I hl hin
  obtain ⟨hx, hb, hr, hml, hown, hts, hlk, hA, hK, hF⟩ := id X
  have hl : lv_has ls 1 [(0, .ref za)] := hl
  refine lv_aload_n hx hb dX12_forget_0 rfl (lv_at hl 0 rfl) ?_
  refine lv_iconst (v := (0 : Int32)) hx hb dX12_forget_1 (by decide) ?_
  refine fb_put X I (k := 2) (wn := ([fb_o12 za zr (upd ze 2 (0 : Int32))] : List va_W).flatten) fu_X12 tyX12 tyX12_ok nmX12 0 fb_h12 rfl (Nat.le_of_ble_eq_true rfl) fw_1966 rfl rfl rfl rfl rfl (Nat.le_of_ble_eq_true rfl) fb_r12_2 dX12_forget_2 (fun H locs I => ?_)
  exact fb_retV (u := ()) X I trivial dX12_forget_5

set_option maxHeartbeats 4000000 in
set_option maxRecDepth 100000 in
theorem c_place_1 (l : Launch) (D : va_G) (cI cJ : ClassId) (za : Nat) (zr : Nat → Nat) (ze : fb_AR) (zm : fb_AR) (zj : Nat) (sz : Nat) (hj : zj < 1792) : Met l yX12_place (Cond.code yX12_place cX12_place 2 (some .int) :: fb_all) ({ frames := 1, cells := 0, slots := 0, locals := 30 } : Room) (fb_PP D (fb_ty D cI cJ) [.ref za, .int (nI zj)] (([fb_o12 za zr ze, fb_aw cI (zr 0) 16205 zm] : List va_W).flatten) sz) (vp_Si (fun r => r = (nI (1101 + zj)))) 0 0 (fun _ => False) := by
  refine fb_entR (by decide +kernel) (Nat.le_of_ble_eq_true rfl) ?_
  intro p e s m args below meth c A ls X I hl hin
  obtain ⟨hx, hb, hr, hml, hown, hts, hlk, hA, hK, hF⟩ := id X
  have hl : lv_has ls 2 [(0, .ref za), (1, .int (nI zj))] := hl
  refine lv_iload_n hx hb dX12_place_0 rfl (lv_at hl 1 rfl) ?_
  refine lv_sipush (v := (1792 : Int32)) hx hb dX12_place_1 (by decide) ?_
  refine lv_icmp_ge (tgt := 15) hx hb dX12_place_4 (by decide) (fun c1 => absurd c1 (nI_ge (a := zj) (b := 1792) (by omega) (by omega))) (fun _ => ?_)
  refine lv_sipush (v := (1101 : Int32)) hx hb dX12_place_7 (by decide) ?_
  refine lv_iload_n hx hb dX12_place_10 rfl (lv_at hl 1 rfl) ?_
  refine lv_iadd hx hb dX12_place_11 ?_
  refine fb_tI (v := (nI (1101 + zj))) (nI_add 1101 zj) ?_
  refine lv_goto (tgt := 55) hx hb dX12_place_12 (by decide) ?_
  exact fb_retRI X rfl rfl dX12_place_55

set_option maxHeartbeats 4000000 in
set_option maxRecDepth 100000 in
theorem c_place_2 (l : Launch) (D : va_G) (cI cJ : ClassId) (za : Nat) (zr : Nat → Nat) (ze : fb_AR) (zm : fb_AR) (zj : Nat) (sz : Nat) (hj : 2048 ≤ zj ∧ zj < 3072) (a9 : zm 9 = (0 : Int32)) : Met l yX12_place (Cond.code yX12_place cX12_place 2 (some .int) :: fb_all) ({ frames := 1, cells := 0, slots := 0, locals := 30 } : Room) (fb_PP D (fb_ty D cI cJ) [.ref za, .int (nI zj)] (([fb_o12 za zr ze, fb_aw cI (zr 0) 16205 zm] : List va_W).flatten) sz) (vp_Si (fun r => r = (nI (2893 + zj - 2048)))) 0 0 (fun _ => False) := by
  refine fb_entR (by decide +kernel) (Nat.le_of_ble_eq_true rfl) ?_
  intro p e s m args below meth c A ls X I hl hin
  obtain ⟨hx, hb, hr, hml, hown, hts, hlk, hA, hK, hF⟩ := id X
  have hl : lv_has ls 2 [(0, .ref za), (1, .int (nI zj))] := hl
  refine lv_iload_n hx hb dX12_place_0 rfl (lv_at hl 1 rfl) ?_
  refine lv_sipush (v := (1792 : Int32)) hx hb dX12_place_1 (by decide) ?_
  refine lv_icmp_ge (tgt := 15) hx hb dX12_place_4 (by decide) (fun _ => ?_) (fun c1 => absurd (nI_le (a := 1792) (b := zj) (by omega) (by omega)) c1)
  refine lv_iload_n hx hb dX12_place_15 rfl (lv_at hl 1 rfl) ?_
  refine lv_sipush (v := (3072 : Int32)) hx hb dX12_place_16 (by decide) ?_
  refine lv_icmp_ge (tgt := 46) hx hb dX12_place_19 (by decide) (fun c2 => absurd c2 (nI_ge (a := zj) (b := 3072) (by omega) (by omega))) (fun _ => ?_)
  refine lv_sipush (v := (2893 : Int32)) hx hb dX12_place_22 (by decide) ?_
  refine lv_sipush (v := (1024 : Int32)) hx hb dX12_place_25 (by decide) ?_
  refine lv_aload_n hx hb dX12_place_28 rfl (lv_at hl 0 rfl) ?_
  refine fb_get X I (k := 0) (v := .ref (zr 0)) fu_X12 0 fb_h12 rfl (Nat.le_of_ble_eq_true rfl) fw_1964 rfl rfl dX12_place_29 ?_
  refine lv_bipush (v := (9 : Int32)) hx hb dX12_place_32 (by decide) ?_
  refine fb_iaC (n := 9) (v := (0 : Int32)) X I 1 0 rfl rfl (by decide) (by decide) (Nat.le_of_ble_eq_true rfl) a9 dX12_place_34 ?_
  refine lv_imul hx hb dX12_place_35 ?_
  refine fb_tI (v := (0 : Int32)) (by decide) ?_
  refine lv_iadd hx hb dX12_place_36 ?_
  refine fb_tI (v := (2893 : Int32)) (by decide) ?_
  refine lv_iload_n hx hb dX12_place_37 rfl (lv_at hl 1 rfl) ?_
  refine lv_iadd hx hb dX12_place_38 ?_
  refine fb_tI (v := (nI (2893 + zj))) (nI_add 2893 zj) ?_
  refine lv_sipush (v := (2048 : Int32)) hx hb dX12_place_39 (by decide) ?_
  refine lv_isub hx hb dX12_place_42 ?_
  refine fb_tI (v := (nI (2893 + zj - 2048))) (pk_sub (a := 2893 + zj) (b := 2048) (by omega)) ?_
  refine lv_goto (tgt := 55) hx hb dX12_place_43 (by decide) ?_
  exact fb_retRI X rfl rfl dX12_place_55

set_option maxHeartbeats 4000000 in
set_option maxRecDepth 100000 in
theorem c_place_3 (l : Launch) (D : va_G) (cI cJ : ClassId) (za : Nat) (zr : Nat → Nat) (ze : fb_AR) (zm : fb_AR) (zj : Nat) (sz : Nat) (hj : 3072 ≤ zj ∧ zj < 4096) : Met l yX12_place (Cond.code yX12_place cX12_place 2 (some .int) :: fb_all) ({ frames := 1, cells := 0, slots := 0, locals := 30 } : Room) (fb_PP D (fb_ty D cI cJ) [.ref za, .int (nI zj)] (([fb_o12 za zr ze, fb_aw cI (zr 0) 16205 zm] : List va_W).flatten) sz) (vp_Si (fun r => r = (nI (11085 + zj - 3072)))) 0 0 (fun _ => False) := by
  refine fb_entR (by decide +kernel) (Nat.le_of_ble_eq_true rfl) ?_
  intro p e s m args below meth c A ls X I hl hin
  obtain ⟨hx, hb, hr, hml, hown, hts, hlk, hA, hK, hF⟩ := id X
  have hl : lv_has ls 2 [(0, .ref za), (1, .int (nI zj))] := hl
  refine lv_iload_n hx hb dX12_place_0 rfl (lv_at hl 1 rfl) ?_
  refine lv_sipush (v := (1792 : Int32)) hx hb dX12_place_1 (by decide) ?_
  refine lv_icmp_ge (tgt := 15) hx hb dX12_place_4 (by decide) (fun _ => ?_) (fun c1 => absurd (nI_le (a := 1792) (b := zj) (by omega) (by omega)) c1)
  refine lv_iload_n hx hb dX12_place_15 rfl (lv_at hl 1 rfl) ?_
  refine lv_sipush (v := (3072 : Int32)) hx hb dX12_place_16 (by decide) ?_
  refine lv_icmp_ge (tgt := 46) hx hb dX12_place_19 (by decide) (fun _ => ?_) (fun c2 => absurd (nI_le (a := 3072) (b := zj) (by omega) (by omega)) c2)
  refine lv_sipush (v := (11085 : Int32)) hx hb dX12_place_46 (by decide) ?_
  refine lv_iload_n hx hb dX12_place_49 rfl (lv_at hl 1 rfl) ?_
  refine lv_iadd hx hb dX12_place_50 ?_
  refine fb_tI (v := (nI (11085 + zj))) (nI_add 11085 zj) ?_
  refine lv_sipush (v := (3072 : Int32)) hx hb dX12_place_51 (by decide) ?_
  refine lv_isub hx hb dX12_place_54 ?_
  refine fb_tI (v := (nI (11085 + zj - 3072))) (pk_sub (a := 11085 + zj) (b := 3072) (by omega)) ?_
  exact fb_retRI X rfl rfl dX12_place_55

theorem fr_np {zj : Nat} (h : zj < 1792 ∨ (2048 ≤ zj ∧ zj < 4096)) : f_X12_isPort (nI zj) = 0 := by
  unfold f_X12_isPort
  rcases h with h | h
  · rw [if_pos (show nI zj < (1792 : Int32) from nI_lt (b := 1792) h (by decide))]
  · rw [if_neg (show ¬ nI zj < (1792 : Int32) from nI_nlt (a := zj) (b := 1792) (by omega) (by omega)), if_pos (show (2048 : Int32) ≤ nI zj from nI_le (a := 2048) (b := zj) (by omega) (by omega))]
theorem fr_yp {zj : Nat} (h : 1792 ≤ zj ∧ zj < 2048) : f_X12_isPort (nI zj) = 1 := by
  unfold f_X12_isPort
  rw [if_neg (show ¬ nI zj < (1792 : Int32) from nI_nlt (a := zj) (b := 1792) (by omega) (by omega)), if_neg (show ¬ (2048 : Int32) ≤ nI zj from nI_ge (a := zj) (b := 2048) (by omega) (by omega))]

set_option maxHeartbeats 4000000 in
set_option maxRecDepth 100000 in
theorem c_code_0 (l : Launch) (D : va_G) (cI cJ : ClassId) (za : Nat) (zr : Nat → Nat) (ze : fb_AR) (zm : fb_AR) (l1 : Int32) (zj : Nat) (sz : Nat) (hm : ∀ j, 1101 ≤ j → j < 12109 → zm j = 0) (a9 : zm 9 = (0 : Int32)) (he : (l1 &&& (4095 : Int32)) = nI zj) (hj : 1792 ≤ zj ∧ zj < 2048) : Met l yX12_code (Cond.code yX12_code cX12_code 2 (some .int) :: fb_all) ({ frames := 3, cells := 0, slots := 0, locals := 80 } : Room) (fb_PP D (fb_ty D cI cJ) [.ref za, .int l1] (([fb_o12 za zr ze, fb_aw cI (zr 0) 16205 zm] : List va_W).flatten) sz) (vp_Si (fun r => r = (0 : Int32))) 0 0 (fun _ => False) := by
  refine fb_entR (by decide +kernel) (Nat.le_of_ble_eq_true rfl) ?_
  intro p e s m args below meth c A ls X I hl hin
  obtain ⟨hx, hb, hr, hml, hown, hts, hlk, hA, hK, hF⟩ := id X
  have hl : lv_has ls 2 [(0, .ref za), (1, .int l1)] := hl
  refine lv_iload_n hx hb dX12_code_0 rfl (lv_at hl 1 rfl) ?_
  refine lv_sipush (v := (4095 : Int32)) hx hb dX12_code_1 (by decide) ?_
  refine lv_iand hx hb dX12_code_4 ?_
  refine fb_tI (v := (nI zj)) he ?_
  refine fb_gO (cs := []) (rs := [fb_o12 za zr ze, fb_aw cI (zr 0) 16205 zm]) X I [0, 1] 2 rfl (by decide +kernel) rfl rfl (fun I => fb_rS (As := [.int (nI zj)]) (rest := []) X hl (fb_goodS fw_1953 fw_1954 fw_204 fw_1955) (c_X12_isPort l D cI cJ (nI zj) _) rfl rfl (by decide +kernel : fb_hd yX12_isPort 1) ⟨Nat.le_of_ble_eq_true rfl, Nat.le_of_ble_eq_true rfl⟩ rfl rfl (Nat.le_of_ble_eq_true rfl) ⟨Nat.le_of_ble_eq_true rfl, Nat.le_of_ble_eq_true rfl⟩ dX12_code_5 I) ?_
  refine fb_tI (v := (1 : Int32)) (fr_yp hj) ?_
  refine lv_if_eq (tgt := 15) hx hb dX12_code_8 (by decide) (fun c1 => absurd c1 (by decide)) (fun _ => ?_)
  refine lv_iconst (v := (0 : Int32)) hx hb dX12_code_11 (by decide) ?_
  refine lv_goto (tgt := 29) hx hb dX12_code_12 (by decide) ?_
  exact fb_retRI X rfl rfl dX12_code_29

set_option maxHeartbeats 4000000 in
set_option maxRecDepth 100000 in
theorem c_code_1 (l : Launch) (D : va_G) (cI cJ : ClassId) (za : Nat) (zr : Nat → Nat) (ze : fb_AR) (zm : fb_AR) (l1 : Int32) (zj : Nat) (sz : Nat) (hm : ∀ j, 1101 ≤ j → j < 12109 → zm j = 0) (a9 : zm 9 = (0 : Int32)) (he : (l1 &&& (4095 : Int32)) = nI zj) (hj : zj < 1792) : Met l yX12_code (Cond.code yX12_code cX12_code 2 (some .int) :: fb_all) ({ frames := 3, cells := 0, slots := 0, locals := 80 } : Room) (fb_PP D (fb_ty D cI cJ) [.ref za, .int l1] (([fb_o12 za zr ze, fb_aw cI (zr 0) 16205 zm] : List va_W).flatten) sz) (vp_Si (fun r => r = (0 : Int32))) 0 0 (fun _ => False) := by
  refine fb_entR (by decide +kernel) (Nat.le_of_ble_eq_true rfl) ?_
  intro p e s m args below meth c A ls X I hl hin
  obtain ⟨hx, hb, hr, hml, hown, hts, hlk, hA, hK, hF⟩ := id X
  have hl : lv_has ls 2 [(0, .ref za), (1, .int l1)] := hl
  refine lv_iload_n hx hb dX12_code_0 rfl (lv_at hl 1 rfl) ?_
  refine lv_sipush (v := (4095 : Int32)) hx hb dX12_code_1 (by decide) ?_
  refine lv_iand hx hb dX12_code_4 ?_
  refine fb_tI (v := (nI zj)) he ?_
  refine fb_gO (cs := []) (rs := [fb_o12 za zr ze, fb_aw cI (zr 0) 16205 zm]) X I [0, 1] 2 rfl (by decide +kernel) rfl rfl (fun I => fb_rS (As := [.int (nI zj)]) (rest := []) X hl (fb_goodS fw_1953 fw_1954 fw_204 fw_1955) (c_X12_isPort l D cI cJ (nI zj) _) rfl rfl (by decide +kernel : fb_hd yX12_isPort 1) ⟨Nat.le_of_ble_eq_true rfl, Nat.le_of_ble_eq_true rfl⟩ rfl rfl (Nat.le_of_ble_eq_true rfl) ⟨Nat.le_of_ble_eq_true rfl, Nat.le_of_ble_eq_true rfl⟩ dX12_code_5 I) ?_
  refine fb_tI (v := (0 : Int32)) (fr_np (Or.inl hj)) ?_
  refine lv_if_eq (tgt := 15) hx hb dX12_code_8 (by decide) (fun _ => ?_) (fun c1 => absurd (by decide) c1)
  refine lv_aload_n hx hb dX12_code_15 rfl (lv_at hl 0 rfl) ?_
  refine fb_get X I (k := 0) (v := .ref (zr 0)) fu_X12 0 fb_h12 rfl (Nat.le_of_ble_eq_true rfl) fw_1964 rfl rfl dX12_code_16 ?_
  refine lv_aload_n hx hb dX12_code_19 rfl (lv_at hl 0 rfl) ?_
  refine lv_iload_n hx hb dX12_code_20 rfl (lv_at hl 1 rfl) ?_
  refine lv_sipush (v := (4095 : Int32)) hx hb dX12_code_21 (by decide) ?_
  refine lv_iand hx hb dX12_code_24 ?_
  refine fb_tI (v := (nI zj)) he ?_
  refine fb_gO (cs := [fb_o12 za zr ze, fb_aw cI (zr 0) 16205 zm]) (rs := []) X I [0, 1] 2 rfl (by decide +kernel) rfl rfl (fun I => fb_rV (As := [.int (nI zj)]) (rest := [.ref (zr 0)]) X hl (fb_goodV fw_1956 fw_1958 fw_87 fw_204 fw_1959) (c_place_1 l D cI cJ za zr ze zm zj _ (by omega)) rfl rfl rfl (by decide +kernel : fb_hd yX12_place 1) ⟨Nat.le_of_ble_eq_true rfl, Nat.le_of_ble_eq_true rfl⟩ rfl rfl rfl rfl rfl (Nat.le_of_ble_eq_true rfl) ⟨Nat.zero_le _, Nat.zero_le _⟩ dX12_code_25 I) ?_
  refine fb_iaC (n := (1101 + zj)) (v := (0 : Int32)) X I 1 0 rfl rfl (nI_clamp (by omega)) (nI_pos (by omega)) (by omega) (hm (1101 + zj) (by omega) (by omega)) dX12_code_28 ?_
  exact fb_retRI X rfl rfl dX12_code_29

set_option maxHeartbeats 4000000 in
set_option maxRecDepth 100000 in
theorem c_code_2 (l : Launch) (D : va_G) (cI cJ : ClassId) (za : Nat) (zr : Nat → Nat) (ze : fb_AR) (zm : fb_AR) (l1 : Int32) (zj : Nat) (sz : Nat) (hm : ∀ j, 1101 ≤ j → j < 12109 → zm j = 0) (a9 : zm 9 = (0 : Int32)) (he : (l1 &&& (4095 : Int32)) = nI zj) (hj : 2048 ≤ zj ∧ zj < 3072) : Met l yX12_code (Cond.code yX12_code cX12_code 2 (some .int) :: fb_all) ({ frames := 3, cells := 0, slots := 0, locals := 80 } : Room) (fb_PP D (fb_ty D cI cJ) [.ref za, .int l1] (([fb_o12 za zr ze, fb_aw cI (zr 0) 16205 zm] : List va_W).flatten) sz) (vp_Si (fun r => r = (0 : Int32))) 0 0 (fun _ => False) := by
  refine fb_entR (by decide +kernel) (Nat.le_of_ble_eq_true rfl) ?_
  intro p e s m args below meth c A ls X I hl hin
  obtain ⟨hx, hb, hr, hml, hown, hts, hlk, hA, hK, hF⟩ := id X
  have hl : lv_has ls 2 [(0, .ref za), (1, .int l1)] := hl
  refine lv_iload_n hx hb dX12_code_0 rfl (lv_at hl 1 rfl) ?_
  refine lv_sipush (v := (4095 : Int32)) hx hb dX12_code_1 (by decide) ?_
  refine lv_iand hx hb dX12_code_4 ?_
  refine fb_tI (v := (nI zj)) he ?_
  refine fb_gO (cs := []) (rs := [fb_o12 za zr ze, fb_aw cI (zr 0) 16205 zm]) X I [0, 1] 2 rfl (by decide +kernel) rfl rfl (fun I => fb_rS (As := [.int (nI zj)]) (rest := []) X hl (fb_goodS fw_1953 fw_1954 fw_204 fw_1955) (c_X12_isPort l D cI cJ (nI zj) _) rfl rfl (by decide +kernel : fb_hd yX12_isPort 1) ⟨Nat.le_of_ble_eq_true rfl, Nat.le_of_ble_eq_true rfl⟩ rfl rfl (Nat.le_of_ble_eq_true rfl) ⟨Nat.le_of_ble_eq_true rfl, Nat.le_of_ble_eq_true rfl⟩ dX12_code_5 I) ?_
  refine fb_tI (v := (0 : Int32)) (fr_np (Or.inr ⟨hj.1, by omega⟩)) ?_
  refine lv_if_eq (tgt := 15) hx hb dX12_code_8 (by decide) (fun _ => ?_) (fun c1 => absurd (by decide) c1)
  refine lv_aload_n hx hb dX12_code_15 rfl (lv_at hl 0 rfl) ?_
  refine fb_get X I (k := 0) (v := .ref (zr 0)) fu_X12 0 fb_h12 rfl (Nat.le_of_ble_eq_true rfl) fw_1964 rfl rfl dX12_code_16 ?_
  refine lv_aload_n hx hb dX12_code_19 rfl (lv_at hl 0 rfl) ?_
  refine lv_iload_n hx hb dX12_code_20 rfl (lv_at hl 1 rfl) ?_
  refine lv_sipush (v := (4095 : Int32)) hx hb dX12_code_21 (by decide) ?_
  refine lv_iand hx hb dX12_code_24 ?_
  refine fb_tI (v := (nI zj)) he ?_
  refine fb_gO (cs := [fb_o12 za zr ze, fb_aw cI (zr 0) 16205 zm]) (rs := []) X I [0, 1] 2 rfl (by decide +kernel) rfl rfl (fun I => fb_rV (As := [.int (nI zj)]) (rest := [.ref (zr 0)]) X hl (fb_goodV fw_1956 fw_1958 fw_87 fw_204 fw_1959) (c_place_2 l D cI cJ za zr ze zm zj _ (by omega) a9) rfl rfl rfl (by decide +kernel : fb_hd yX12_place 1) ⟨Nat.le_of_ble_eq_true rfl, Nat.le_of_ble_eq_true rfl⟩ rfl rfl rfl rfl rfl (Nat.le_of_ble_eq_true rfl) ⟨Nat.zero_le _, Nat.zero_le _⟩ dX12_code_25 I) ?_
  refine fb_iaC (n := (2893 + zj - 2048)) (v := (0 : Int32)) X I 1 0 rfl rfl (nI_clamp (by omega)) (nI_pos (by omega)) (by omega) (hm (2893 + zj - 2048) (by omega) (by omega)) dX12_code_28 ?_
  exact fb_retRI X rfl rfl dX12_code_29

set_option maxHeartbeats 4000000 in
set_option maxRecDepth 100000 in
theorem c_code_3 (l : Launch) (D : va_G) (cI cJ : ClassId) (za : Nat) (zr : Nat → Nat) (ze : fb_AR) (zm : fb_AR) (l1 : Int32) (zj : Nat) (sz : Nat) (hm : ∀ j, 1101 ≤ j → j < 12109 → zm j = 0) (a9 : zm 9 = (0 : Int32)) (he : (l1 &&& (4095 : Int32)) = nI zj) (hj : 3072 ≤ zj ∧ zj < 4096) : Met l yX12_code (Cond.code yX12_code cX12_code 2 (some .int) :: fb_all) ({ frames := 3, cells := 0, slots := 0, locals := 80 } : Room) (fb_PP D (fb_ty D cI cJ) [.ref za, .int l1] (([fb_o12 za zr ze, fb_aw cI (zr 0) 16205 zm] : List va_W).flatten) sz) (vp_Si (fun r => r = (0 : Int32))) 0 0 (fun _ => False) := by
  refine fb_entR (by decide +kernel) (Nat.le_of_ble_eq_true rfl) ?_
  intro p e s m args below meth c A ls X I hl hin
  obtain ⟨hx, hb, hr, hml, hown, hts, hlk, hA, hK, hF⟩ := id X
  have hl : lv_has ls 2 [(0, .ref za), (1, .int l1)] := hl
  refine lv_iload_n hx hb dX12_code_0 rfl (lv_at hl 1 rfl) ?_
  refine lv_sipush (v := (4095 : Int32)) hx hb dX12_code_1 (by decide) ?_
  refine lv_iand hx hb dX12_code_4 ?_
  refine fb_tI (v := (nI zj)) he ?_
  refine fb_gO (cs := []) (rs := [fb_o12 za zr ze, fb_aw cI (zr 0) 16205 zm]) X I [0, 1] 2 rfl (by decide +kernel) rfl rfl (fun I => fb_rS (As := [.int (nI zj)]) (rest := []) X hl (fb_goodS fw_1953 fw_1954 fw_204 fw_1955) (c_X12_isPort l D cI cJ (nI zj) _) rfl rfl (by decide +kernel : fb_hd yX12_isPort 1) ⟨Nat.le_of_ble_eq_true rfl, Nat.le_of_ble_eq_true rfl⟩ rfl rfl (Nat.le_of_ble_eq_true rfl) ⟨Nat.le_of_ble_eq_true rfl, Nat.le_of_ble_eq_true rfl⟩ dX12_code_5 I) ?_
  refine fb_tI (v := (0 : Int32)) (fr_np (Or.inr ⟨by omega, hj.2⟩)) ?_
  refine lv_if_eq (tgt := 15) hx hb dX12_code_8 (by decide) (fun _ => ?_) (fun c1 => absurd (by decide) c1)
  refine lv_aload_n hx hb dX12_code_15 rfl (lv_at hl 0 rfl) ?_
  refine fb_get X I (k := 0) (v := .ref (zr 0)) fu_X12 0 fb_h12 rfl (Nat.le_of_ble_eq_true rfl) fw_1964 rfl rfl dX12_code_16 ?_
  refine lv_aload_n hx hb dX12_code_19 rfl (lv_at hl 0 rfl) ?_
  refine lv_iload_n hx hb dX12_code_20 rfl (lv_at hl 1 rfl) ?_
  refine lv_sipush (v := (4095 : Int32)) hx hb dX12_code_21 (by decide) ?_
  refine lv_iand hx hb dX12_code_24 ?_
  refine fb_tI (v := (nI zj)) he ?_
  refine fb_gO (cs := [fb_o12 za zr ze, fb_aw cI (zr 0) 16205 zm]) (rs := []) X I [0, 1] 2 rfl (by decide +kernel) rfl rfl (fun I => fb_rV (As := [.int (nI zj)]) (rest := [.ref (zr 0)]) X hl (fb_goodV fw_1956 fw_1958 fw_87 fw_204 fw_1959) (c_place_3 l D cI cJ za zr ze zm zj _ (by omega)) rfl rfl rfl (by decide +kernel : fb_hd yX12_place 1) ⟨Nat.le_of_ble_eq_true rfl, Nat.le_of_ble_eq_true rfl⟩ rfl rfl rfl rfl rfl (Nat.le_of_ble_eq_true rfl) ⟨Nat.zero_le _, Nat.zero_le _⟩ dX12_code_25 I) ?_
  refine fb_iaC (n := (11085 + zj - 3072)) (v := (0 : Int32)) X I 1 0 rfl rfl (nI_clamp (by omega)) (nI_pos (by omega)) (by omega) (hm (11085 + zj - 3072) (by omega) (by omega)) dX12_code_28 ?_
  exact fb_retRI X rfl rfl dX12_code_29

theorem c_code (l : Launch) (D : va_G) (cI cJ : ClassId) (za : Nat) (zr : Nat → Nat) (ze : fb_AR) (zm : fb_AR) (l1 : Int32) (sz : Nat) (hm : ∀ j, 1101 ≤ j → j < 12109 → zm j = 0) (a9 : zm 9 = (0 : Int32)) : Met l yX12_code (Cond.code yX12_code cX12_code 2 (some .int) :: fb_all) ({ frames := 3, cells := 0, slots := 0, locals := 80 } : Room) (fb_PP D (fb_ty D cI cJ) [.ref za, .int l1] (([fb_o12 za zr ze, fb_aw cI (zr 0) 16205 zm] : List va_W).flatten) sz) (vp_Si (fun r => r = (0 : Int32))) 0 0 (fun _ => False) := by
  obtain ⟨zj, hz, he⟩ := pk_andE l1 (m := 4095) 12 (by decide)
  by_cases h1 : zj < 1792
  · exact c_code_1 l D cI cJ za zr ze zm l1 zj sz hm a9 he h1
  · by_cases h2 : zj < 2048
    · exact c_code_0 l D cI cJ za zr ze zm l1 zj sz hm a9 he ⟨by omega, h2⟩
    · by_cases h3 : zj < 3072
      · exact c_code_2 l D cI cJ za zr ze zm l1 zj sz hm a9 he ⟨by omega, h3⟩
      · exact c_code_3 l D cI cJ za zr ze zm l1 zj sz hm a9 he ⟨by omega, by omega⟩

set_option maxHeartbeats 4000000 in
set_option maxRecDepth 100000 in
theorem c_vector (l : Launch) (D : va_G) (cI cJ : ClassId) (za : Nat) (zr : Nat → Nat) (ze : fb_AR) (zm : fb_AR) (l1 : Int32) (sz : Nat) (hm : ∀ j, 1101 ≤ j → j < 12109 → zm j = 0) (a9 : zm 9 = (0 : Int32)) : Met l yX12_vector (Cond.code yX12_vector cX12_vector 2 (some .int) :: fb_all) ({ frames := 4, cells := 0, slots := 0, locals := 101 } : Room) (fb_PP D (fb_ty D cI cJ) [.ref za, .int l1] (([fb_o12 za zr ze, fb_aw cI (zr 0) 16205 zm] : List va_W).flatten) sz) (vp_Si (fun r => r = (0 : Int32))) 0 0 (fun _ => False) := by
  refine fb_entR (by decide +kernel) (Nat.le_of_ble_eq_true rfl) ?_
  intro p e s m args below meth c A ls X I hl hin
  obtain ⟨hx, hb, hr, hml, hown, hts, hlk, hA, hK, hF⟩ := id X
  have hl : lv_has ls 2 [(0, .ref za), (1, .int l1)] := hl
  refine lv_aload_n hx hb dX12_vector_0 rfl (lv_at hl 0 rfl) ?_
  refine lv_sipush (v := (4080 : Int32)) hx hb dX12_vector_1 (by decide) ?_
  refine lv_iconst (v := (2 : Int32)) hx hb dX12_vector_4 (by decide) ?_
  refine lv_iload_n hx hb dX12_vector_5 rfl (lv_at hl 1 rfl) ?_
  refine lv_imul hx hb dX12_vector_6 ?_
  refine lv_iadd hx hb dX12_vector_7 ?_
  refine fb_gO (cs := [fb_o12 za zr ze, fb_aw cI (zr 0) 16205 zm]) (rs := []) X I [0, 1] 2 rfl (by decide +kernel) rfl rfl (fun I => fb_rV (As := [.int ((4080 : Int32) + ((2 : Int32) * l1))]) (rest := []) X hl (fb_goodV fw_1949 fw_1951 fw_86 fw_204 fw_1952) (c_code l D cI cJ za zr ze zm ((4080 : Int32) + ((2 : Int32) * l1)) _ hm a9) rfl rfl rfl (by decide +kernel : fb_hd yX12_code 1) ⟨Nat.le_of_ble_eq_true rfl, Nat.le_of_ble_eq_true rfl⟩ rfl rfl rfl rfl rfl (Nat.le_of_ble_eq_true rfl) ⟨Nat.zero_le _, Nat.zero_le _⟩ dX12_vector_8 I) ?_
  refine lv_sipush (v := (256 : Int32)) hx hb dX12_vector_11 (by decide) ?_
  refine lv_aload_n hx hb dX12_vector_14 rfl (lv_at hl 0 rfl) ?_
  refine lv_sipush (v := (4081 : Int32)) hx hb dX12_vector_15 (by decide) ?_
  refine lv_iconst (v := (2 : Int32)) hx hb dX12_vector_18 (by decide) ?_
  refine lv_iload_n hx hb dX12_vector_19 rfl (lv_at hl 1 rfl) ?_
  refine lv_imul hx hb dX12_vector_20 ?_
  refine lv_iadd hx hb dX12_vector_21 ?_
  refine fb_gO (cs := [fb_o12 za zr ze, fb_aw cI (zr 0) 16205 zm]) (rs := []) X I [0, 1] 2 rfl (by decide +kernel) rfl rfl (fun I => fb_rV (As := [.int ((4081 : Int32) + ((2 : Int32) * l1))]) (rest := [.int (256 : Int32), .int (0 : Int32)]) X hl (fb_goodV fw_1949 fw_1951 fw_86 fw_204 fw_1952) (c_code l D cI cJ za zr ze zm ((4081 : Int32) + ((2 : Int32) * l1)) _ hm a9) rfl rfl rfl (by decide +kernel : fb_hd yX12_code 1) ⟨Nat.le_of_ble_eq_true rfl, Nat.le_of_ble_eq_true rfl⟩ rfl rfl rfl rfl rfl (Nat.le_of_ble_eq_true rfl) ⟨Nat.zero_le _, Nat.zero_le _⟩ dX12_vector_22 I) ?_
  refine lv_imul hx hb dX12_vector_25 ?_
  refine fb_tI (v := (0 : Int32)) (by decide) ?_
  refine lv_iadd hx hb dX12_vector_26 ?_
  refine fb_tI (v := (0 : Int32)) (by decide) ?_
  refine lv_sipush (v := (4095 : Int32)) hx hb dX12_vector_27 (by decide) ?_
  refine lv_iand hx hb dX12_vector_30 ?_
  refine fb_tI (v := (0 : Int32)) (by decide) ?_
  exact fb_retRI X rfl rfl dX12_vector_31

theorem hm_up {f : fb_AR} {n : Nat} {v : Int32} (h : n < 1101 ∨ 12109 ≤ n) (H : ∀ j, 1101 ≤ j → j < 12109 → f j = 0) : ∀ j, 1101 ≤ j → j < 12109 → upd f n v j = 0 := fun j a b => (pk_un (by omega)).trans (H j a b)

