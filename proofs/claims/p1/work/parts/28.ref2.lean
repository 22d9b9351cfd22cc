/-! the reference along a fresh object's road, laid by ref.py -/
/-- the reference's row behind zk such steps; zt: how often at each place -/
def fr_m (zt : fb_AR) (zk : Nat) : fb_AR := fun j => if j = 2 then 255 else if j = 3 then 4 else if j = 4 then nI (zk % 4096) else if j = 7 then nI zk else if j = 8 then nI zk else if j = 15 then 1 else if 12109 ≤ j then zt (j - 12109) else 0
theorem fr_hm (zt : fb_AR) (zk : Nat) : ∀ j, 1101 ≤ j → j < 12109 → fr_m zt zk j = 0 := fun j a b => by
  unfold fr_m
  rw [if_neg (by omega), if_neg (by omega), if_neg (by omega), if_neg (by omega), if_neg (by omega), if_neg (by omega), if_neg (by omega)]
theorem fr_T (zt : fb_AR) (zk a : Nat) : fr_m zt zk (12109 + a) = zt a := by
  unfold fr_m
  rw [if_neg (by omega), if_neg (by omega), if_neg (by omega), if_neg (by omega), if_neg (by omega), if_neg (by omega), if_pos (by omega)]
  rw [Nat.add_sub_cancel_left]
theorem fr_pc (zk : Nat) : nI (zk % 4096 + 1) &&& (4095 : Int32) = nI ((zk + 1) % 4096) := by
  rw [pk_andN (n := zk % 4096 + 1) (by omega) (m := 4095) 12 (by decide)]
  congr 1; omega
theorem fr_step (zt : fb_AR) (zk : Nat) (v : Int32) : ∀ j, upd (upd (upd (upd (fr_m zt zk) (12109 + (zk % 4096)) v) 8 (nI (zk + 1))) 4 (nI ((zk + 1) % 4096))) 7 (nI (zk + 1)) j = fr_m (upd zt (zk % 4096) v) (zk + 1) j := by
  intro j
  by_cases h7 : j = 7
  · subst h7; rfl
  by_cases h4 : j = 4
  · subst h4; rfl
  by_cases h8 : j = 8
  · subst h8; rfl
  rw [pk_un h7, pk_un h4, pk_un h8]
  by_cases hT : j = 12109 + zk % 4096
  · subst hT
    rw [pk_us, fr_T, pk_us]
  · rw [pk_un hT]
    unfold fr_m
    by_cases hj : 12109 ≤ j
    · rw [if_neg (by omega), if_neg (by omega), if_neg h4, if_neg h7, if_neg h8, if_neg (by omega), if_pos hj, if_neg (by omega), if_neg (by omega), if_neg h4, if_neg h7, if_neg h8, if_neg (by omega), if_pos hj, pk_un (by omega)]
    · rw [if_neg h4, if_neg h4, if_neg h7, if_neg h7, if_neg h8, if_neg h8, if_neg hj, if_neg hj]

set_option maxHeartbeats 4000000 in
set_option maxRecDepth 100000 in
theorem c_plain0 (l : Launch) (D : va_G) (cI cJ : ClassId) (za : Nat) (zr : Nat → Nat) (ze : fb_AR) (l2 : Int32) (sz : Nat)  : Met l yX12_plain (Cond.code yX12_plain cX12_plain 4 none :: fb_all) ({ frames := 1, cells := 0, slots := 0, locals := 30 } : Room) (fb_PP D (fb_ty D cI cJ) [.ref za, .int (0 : Int32), .int l2] (([fb_o12 za zr ze] : List va_W).flatten) sz) (fb_QV D (va_A (([fb_o12 za zr ze] : List va_W).flatten) sz) (fun (_ : Unit) => True) (fun (t : Unit) => ([fb_o12 za zr ze] : List va_W).flatten)) 0 0 (va_A (([fb_o12 za zr ze] : List va_W).flatten) sz) := by
  refine fb_ent (Qf := fun A => (fb_QV D A (fun (_ : Unit) => True) (fun (t : Unit) => ([fb_o12 za zr ze] : List va_W).flatten))) (by decide +kernel) (Nat.le_of_ble_eq_true rfl) ?_
  intro p e s m args below meth c A ls X I hl hin
  obtain ⟨hx, hb, hr, hml, hown, hts, hlk, hA, hK, hF⟩ := id X
  have hl : lv_has ls 4 [(0, .ref za), (1, .int (0 : Int32)), (2, .int l2)] := hl
  refine lv_iload_n hx hb dX12_plain_0 rfl (lv_at hl 1 rfl) ?_
  refine lv_tableIn (tgt := 140) hx hb dX12_plain_1 (by decide) (by decide) (by rfl) (by decide) ?_
  refine lv_goto (tgt := 613) hx hb dX12_plain_140 (by decide) ?_
  exact fb_retV (u := ()) X I trivial dX12_plain_613

set_option maxHeartbeats 4000000 in
set_option maxRecDepth 100000 in
theorem c_carry_n (l : Launch) (D : va_G) (cI cJ : ClassId) (za : Nat) (zr : Nat → Nat) (ze : fb_AR) (zt : fb_AR) (zk : Nat) (sz : Nat) (hk : zk < 1000000) (h5 : ze 5 = (0 : Int32)) (h6 : ze 6 = (0 : Int32)) : Met l yX12_carryOut (Cond.code yX12_carryOut cX12_carryOut 4 none :: fb_all) ({ frames := 2, cells := 0, slots := 0, locals := 53 } : Room) (fb_PP D (fb_ty D cI cJ) [.ref za, .int (0 : Int32)] (([fb_o12 za zr ze, fb_aw cI (zr 0) 16205 (fr_m zt zk)] : List va_W).flatten) sz) (fb_QV D (va_A (([fb_o12 za zr ze, fb_aw cI (zr 0) 16205 (fr_m zt zk)] : List va_W).flatten) sz) (fun (_ : Unit) => True) (fun (t : Unit) => ([fb_o12 za zr (upd ze 6 (1 : Int32)), fb_aw cI (zr 0) 16205 (upd (upd (upd (fr_m zt zk) (12109 + (zk % 4096)) ((zt (zk % 4096)) + (1 : Int32))) 8 (nI (zk + 1))) 4 (nI ((zk + 1) % 4096)))] : List va_W).flatten)) 0 0 (va_A (([fb_o12 za zr ze, fb_aw cI (zr 0) 16205 (fr_m zt zk)] : List va_W).flatten) sz) := by
  refine fb_ent (Qf := fun A => (fb_QV D A (fun (_ : Unit) => True) (fun (t : Unit) => ([fb_o12 za zr (upd ze 6 (1 : Int32)), fb_aw cI (zr 0) 16205 (upd (upd (upd (fr_m zt zk) (12109 + (zk % 4096)) ((zt (zk % 4096)) + (1 : Int32))) 8 (nI (zk + 1))) 4 (nI ((zk + 1) % 4096)))] : List va_W).flatten))) (by decide +kernel) (Nat.le_of_ble_eq_true rfl) ?_
  intro p e s m args below meth c A ls X I hl hin
  obtain ⟨hx, hb, hr, hml, hown, hts, hlk, hA, hK, hF⟩ := id X
  have hl : lv_has ls 4 [(0, .ref za), (1, .int (0 : Int32))] := hl
  refine lv_aload_n hx hb dX12_carryOut_0 rfl (lv_at hl 0 rfl) ?_
  refine fb_get X I (k := 0) (v := .ref (zr 0)) fu_X12 0 fb_h12 rfl (Nat.le_of_ble_eq_true rfl) fw_1964 rfl rfl dX12_carryOut_1 ?_
  refine lv_iconst (v := (4 : Int32)) hx hb dX12_carryOut_4 (by decide) ?_
  refine fb_iaC (n := 4) (v := (nI (zk % 4096))) X I 1 0 rfl rfl (by decide) (by decide) (Nat.le_of_ble_eq_true rfl) rfl dX12_carryOut_5 ?_
  refine lv_istore_n (lv' := [(2, .int (nI (zk % 4096))), (0, .ref za), (1, .int (0 : Int32))]) hx hb dX12_carryOut_6 rfl hl (by decide) rfl (fun ls hl => ?_)
  refine lv_iload_n hx hb dX12_carryOut_7 rfl (lv_at hl 2 rfl) ?_
  refine lv_bipush (v := (8 : Int32)) hx hb dX12_carryOut_8 (by decide) ?_
  refine lv_idiv hx hb dX12_carryOut_10 (by decide) ?_
  refine fb_tI (v := (0 : Int32)) (by decide) ?_
  refine lv_istore_n (lv' := [(3, .int (0 : Int32)), (2, .int (nI (zk % 4096))), (0, .ref za), (1, .int (0 : Int32))]) hx hb dX12_carryOut_11 rfl hl (by decide) rfl (fun ls hl => ?_)
  refine lv_aload_n hx hb dX12_carryOut_12 rfl (lv_at hl 2 rfl) ?_
  refine lv_sipush (v := (12109 : Int32)) hx hb dX12_carryOut_13 (by decide) ?_
  refine lv_iload_n hx hb dX12_carryOut_16 rfl (lv_at hl 1 rfl) ?_
  refine lv_iadd hx hb dX12_carryOut_17 ?_
  refine fb_tI (v := (nI (12109 + (zk % 4096)))) (nI_add 12109 (zk % 4096)) ?_
  refine lv_aload_n hx hb dX12_carryOut_18 rfl (lv_at hl 2 rfl) ?_
  refine fb_get X I (k := 0) (v := .ref (zr 0)) fu_X12 0 fb_h12 rfl (Nat.le_of_ble_eq_true rfl) fw_1964 rfl rfl dX12_carryOut_19 ?_
  refine lv_sipush (v := (12109 : Int32)) hx hb dX12_carryOut_22 (by decide) ?_
  refine lv_iload_n hx hb dX12_carryOut_25 rfl (lv_at hl 1 rfl) ?_
  refine lv_iadd hx hb dX12_carryOut_26 ?_
  refine fb_tI (v := (nI (12109 + (zk % 4096)))) (nI_add 12109 (zk % 4096)) ?_
  refine fb_iaC (n := (12109 + (zk % 4096))) (v := (zt (zk % 4096))) X I 1 0 rfl rfl (nI_clamp (by omega)) (nI_pos (by omega)) (by omega) (fr_T _ _ _) dX12_carryOut_27 ?_
  refine lv_iconst (v := (1 : Int32)) hx hb dX12_carryOut_28 (by decide) ?_
  refine lv_iadd hx hb dX12_carryOut_29 ?_
  refine fb_gV (cs := [fb_o12 za zr ze, fb_aw cI (zr 0) 16205 (fr_m zt zk)]) (rs := []) (fun (t : Unit) => [fb_o12 za zr ze, fb_aw cI (zr 0) 16205 (upd (fr_m zt zk) (12109 + (zk % 4096)) ((zt (zk % 4096)) + (1 : Int32)))]) (fun (t : Unit) => [fb_o12 za zr ze, fb_aw cI (zr 0) 16205 (upd (fr_m zt zk) (12109 + (zk % 4096)) ((zt (zk % 4096)) + (1 : Int32)))]) X I [0, 1] 2 rfl (by decide +kernel) rfl rfl [0, 1] 2 (fun _ => rfl) (by decide +kernel) (fun _ => rfl) (fun _ => rfl) (fun I => fb_rV (As := [.int (nI (12109 + (zk % 4096))), .int ((zt (zk % 4096)) + (1 : Int32))]) (rest := []) X hl (fb_goodV fw_2418 fw_2420 fw_142 fw_204 fw_2421) (c_put_n l D cI cJ za zr ze (fr_m zt zk) (12109 + (zk % 4096)) ((zt (zk % 4096)) + (1 : Int32)) _ (by omega) h5) rfl rfl rfl (by decide +kernel : fb_hd yX12_put 2) ⟨Nat.le_of_ble_eq_true rfl, Nat.le_of_ble_eq_true rfl⟩ rfl rfl rfl rfl rfl (Nat.le_of_ble_eq_true rfl) ⟨Nat.zero_le _, Nat.zero_le _⟩ dX12_carryOut_30 I) ?_
  intro w1 H locs _ I
  have I : fb_In D A s.heap (([fb_o12 za zr ze, fb_aw cI (zr 0) 16205 (upd (fr_m zt zk) (12109 + (zk % 4096)) ((zt (zk % 4096)) + (1 : Int32)))] : List va_W).flatten) H locs := I
  refine lv_aload_n hx hb dX12_carryOut_33 rfl (lv_at hl 2 rfl) ?_
  refine lv_bipush (v := (8 : Int32)) hx hb dX12_carryOut_34 (by decide) ?_
  refine lv_aload_n hx hb dX12_carryOut_36 rfl (lv_at hl 2 rfl) ?_
  refine fb_get X I (k := 0) (v := .ref (zr 0)) fu_X12 0 fb_h12 rfl (Nat.le_of_ble_eq_true rfl) fw_1964 rfl rfl dX12_carryOut_37 ?_
  refine lv_bipush (v := (8 : Int32)) hx hb dX12_carryOut_40 (by decide) ?_
  refine fb_iaC (n := 8) (v := (nI zk)) X I 1 0 rfl rfl (by decide) (by decide) (Nat.le_of_ble_eq_true rfl) ((pk_un (by omega)).trans rfl) dX12_carryOut_42 ?_
  refine lv_iconst (v := (1 : Int32)) hx hb dX12_carryOut_43 (by decide) ?_
  refine lv_iadd hx hb dX12_carryOut_44 ?_
  refine fb_tI (v := (nI (zk + 1))) (nI_add zk 1) ?_
  refine fb_gV (cs := [fb_o12 za zr ze, fb_aw cI (zr 0) 16205 (upd (fr_m zt zk) (12109 + (zk % 4096)) ((zt (zk % 4096)) + (1 : Int32)))]) (rs := []) (fun (t : Unit) => [fb_o12 za zr ze, fb_aw cI (zr 0) 16205 (upd (upd (fr_m zt zk) (12109 + (zk % 4096)) ((zt (zk % 4096)) + (1 : Int32))) 8 (nI (zk + 1)))]) (fun (t : Unit) => [fb_o12 za zr ze, fb_aw cI (zr 0) 16205 (upd (upd (fr_m zt zk) (12109 + (zk % 4096)) ((zt (zk % 4096)) + (1 : Int32))) 8 (nI (zk + 1)))]) X I [0, 1] 2 rfl (by decide +kernel) rfl rfl [0, 1] 2 (fun _ => rfl) (by decide +kernel) (fun _ => rfl) (fun _ => rfl) (fun I => fb_rV (As := [.int (8 : Int32), .int (nI (zk + 1))]) (rest := []) X hl (fb_goodV fw_2418 fw_2420 fw_142 fw_204 fw_2421) (c_put_n l D cI cJ za zr ze (upd (fr_m zt zk) (12109 + (zk % 4096)) ((zt (zk % 4096)) + (1 : Int32))) 8 (nI (zk + 1)) _ (by omega) h5) rfl rfl rfl (by decide +kernel : fb_hd yX12_put 2) ⟨Nat.le_of_ble_eq_true rfl, Nat.le_of_ble_eq_true rfl⟩ rfl rfl rfl rfl rfl (Nat.le_of_ble_eq_true rfl) ⟨Nat.zero_le _, Nat.zero_le _⟩ dX12_carryOut_45 I) ?_
  intro w2 H locs _ I
  have I : fb_In D A s.heap (([fb_o12 za zr ze, fb_aw cI (zr 0) 16205 (upd (upd (fr_m zt zk) (12109 + (zk % 4096)) ((zt (zk % 4096)) + (1 : Int32))) 8 (nI (zk + 1)))] : List va_W).flatten) H locs := I
  refine lv_aload_n hx hb dX12_carryOut_48 rfl (lv_at hl 2 rfl) ?_
  refine lv_iconst (v := (4 : Int32)) hx hb dX12_carryOut_49 (by decide) ?_
  refine lv_iload_n hx hb dX12_carryOut_50 rfl (lv_at hl 1 rfl) ?_
  refine lv_iload_n hx hb dX12_carryOut_51 rfl (lv_at hl 3 rfl) ?_
  refine fb_gO (cs := []) (rs := [fb_o12 za zr ze, fb_aw cI (zr 0) 16205 (upd (upd (fr_m zt zk) (12109 + (zk % 4096)) ((zt (zk % 4096)) + (1 : Int32))) 8 (nI (zk + 1)))]) X I [0, 1] 2 rfl (by decide +kernel) rfl rfl (fun I => fb_rS (As := [.int (0 : Int32)]) (rest := [.int (nI (zk % 4096)), .int (4 : Int32), .ref za]) X hl (fb_goodS fw_2499 fw_2500 fw_204 fw_2501) (c_X12_length l D cI cJ (0 : Int32) _) rfl rfl (by decide +kernel : fb_hd yX12_length 1) ⟨Nat.le_of_ble_eq_true rfl, Nat.le_of_ble_eq_true rfl⟩ rfl rfl (Nat.le_of_ble_eq_true rfl) ⟨Nat.le_of_ble_eq_true rfl, Nat.le_of_ble_eq_true rfl⟩ dX12_carryOut_52 I) ?_
  refine fb_tI (v := (1 : Int32)) (by decide) ?_
  refine lv_iadd hx hb dX12_carryOut_55 ?_
  refine fb_tI (v := (nI ((zk % 4096) + 1))) (nI_add (zk % 4096) 1) ?_
  refine lv_sipush (v := (4095 : Int32)) hx hb dX12_carryOut_56 (by decide) ?_
  refine lv_iand hx hb dX12_carryOut_59 ?_
  refine fb_tI (v := (nI ((zk + 1) % 4096))) (fr_pc zk) ?_
  refine fb_gV (cs := [fb_o12 za zr ze, fb_aw cI (zr 0) 16205 (upd (upd (fr_m zt zk) (12109 + (zk % 4096)) ((zt (zk % 4096)) + (1 : Int32))) 8 (nI (zk + 1)))]) (rs := []) (fun (t : Unit) => [fb_o12 za zr ze, fb_aw cI (zr 0) 16205 (upd (upd (upd (fr_m zt zk) (12109 + (zk % 4096)) ((zt (zk % 4096)) + (1 : Int32))) 8 (nI (zk + 1))) 4 (nI ((zk + 1) % 4096)))]) (fun (t : Unit) => [fb_o12 za zr ze, fb_aw cI (zr 0) 16205 (upd (upd (upd (fr_m zt zk) (12109 + (zk % 4096)) ((zt (zk % 4096)) + (1 : Int32))) 8 (nI (zk + 1))) 4 (nI ((zk + 1) % 4096)))]) X I [0, 1] 2 rfl (by decide +kernel) rfl rfl [0, 1] 2 (fun _ => rfl) (by decide +kernel) (fun _ => rfl) (fun _ => rfl) (fun I => fb_rV (As := [.int (4 : Int32), .int (nI ((zk + 1) % 4096))]) (rest := []) X hl (fb_goodV fw_2418 fw_2420 fw_142 fw_204 fw_2421) (c_put_n l D cI cJ za zr ze (upd (upd (fr_m zt zk) (12109 + (zk % 4096)) ((zt (zk % 4096)) + (1 : Int32))) 8 (nI (zk + 1))) 4 (nI ((zk + 1) % 4096)) _ (by omega) h5) rfl rfl rfl (by decide +kernel : fb_hd yX12_put 2) ⟨Nat.le_of_ble_eq_true rfl, Nat.le_of_ble_eq_true rfl⟩ rfl rfl rfl rfl rfl (Nat.le_of_ble_eq_true rfl) ⟨Nat.zero_le _, Nat.zero_le _⟩ dX12_carryOut_60 I) ?_
  intro w3 H locs _ I
  have I : fb_In D A s.heap (([fb_o12 za zr ze, fb_aw cI (zr 0) 16205 (upd (upd (upd (fr_m zt zk) (12109 + (zk % 4096)) ((zt (zk % 4096)) + (1 : Int32))) 8 (nI (zk + 1))) 4 (nI ((zk + 1) % 4096)))] : List va_W).flatten) H locs := I
  refine lv_aload_n hx hb dX12_carryOut_63 rfl (lv_at hl 2 rfl) ?_
  refine lv_dup hx hb dX12_carryOut_64 rfl ?_
  refine fb_get X I (k := 6) (v := .int (ze 6)) fu_X12 0 fb_h12 rfl (Nat.le_of_ble_eq_true rfl) fw_1970 rfl rfl dX12_carryOut_65 ?_
  refine fb_tI (v := (0 : Int32)) h6 ?_
  refine lv_iload_n hx hb dX12_carryOut_68 rfl (lv_at hl 3 rfl) ?_
  refine fb_gO (cs := []) (rs := [fb_o12 za zr ze, fb_aw cI (zr 0) 16205 (upd (upd (upd (fr_m zt zk) (12109 + (zk % 4096)) ((zt (zk % 4096)) + (1 : Int32))) 8 (nI (zk + 1))) 4 (nI ((zk + 1) % 4096)))]) X I [0, 1] 2 rfl (by decide +kernel) rfl rfl (fun I => fb_rS (As := [.int (0 : Int32)]) (rest := [.int (0 : Int32), .ref za]) X hl (fb_goodS fw_2499 fw_2500 fw_204 fw_2501) (c_X12_length l D cI cJ (0 : Int32) _) rfl rfl (by decide +kernel : fb_hd yX12_length 1) ⟨Nat.le_of_ble_eq_true rfl, Nat.le_of_ble_eq_true rfl⟩ rfl rfl (Nat.le_of_ble_eq_true rfl) ⟨Nat.le_of_ble_eq_true rfl, Nat.le_of_ble_eq_true rfl⟩ dX12_carryOut_69 I) ?_
  refine fb_tI (v := (1 : Int32)) (by decide) ?_
  refine lv_iadd hx hb dX12_carryOut_72 ?_
  refine fb_tI (v := (1 : Int32)) (by decide) ?_
  refine fb_put X I (k := 6) (wn := ([fb_o12 za zr (upd ze 6 (1 : Int32)), fb_aw cI (zr 0) 16205 (upd (upd (upd (fr_m zt zk) (12109 + (zk % 4096)) ((zt (zk % 4096)) + (1 : Int32))) 8 (nI (zk + 1))) 4 (nI ((zk + 1) % 4096)))] : List va_W).flatten) fu_X12 tyX12 tyX12_ok nmX12 0 fb_h12 rfl (Nat.le_of_ble_eq_true rfl) fw_1970 rfl rfl rfl rfl rfl (Nat.le_of_ble_eq_true rfl) fb_r12_6 dX12_carryOut_73 (fun H locs I => ?_)
  refine lv_iload_n hx hb dX12_carryOut_76 rfl (lv_at hl 0 rfl) ?_
  refine lv_iconst (v := (4 : Int32)) hx hb dX12_carryOut_77 (by decide) ?_
  refine lv_icmp_ge (tgt := 90) hx hb dX12_carryOut_78 (by decide) (fun c4 => absurd c4 (by decide)) (fun _ => ?_)
  refine lv_aload_n hx hb dX12_carryOut_81 rfl (lv_at hl 2 rfl) ?_
  refine lv_iload_n hx hb dX12_carryOut_82 rfl (lv_at hl 3 rfl) ?_
  refine lv_iload_n hx hb dX12_carryOut_83 rfl (lv_at hl 1 rfl) ?_
  refine fb_gV (cs := [fb_o12 za zr (upd ze 6 (1 : Int32))]) (rs := [fb_aw cI (zr 0) 16205 (upd (upd (upd (fr_m zt zk) (12109 + (zk % 4096)) ((zt (zk % 4096)) + (1 : Int32))) 8 (nI (zk + 1))) 4 (nI ((zk + 1) % 4096)))]) (fun (t : Unit) => [fb_o12 za zr (upd ze 6 (1 : Int32)), fb_aw cI (zr 0) 16205 (upd (upd (upd (fr_m zt zk) (12109 + (zk % 4096)) ((zt (zk % 4096)) + (1 : Int32))) 8 (nI (zk + 1))) 4 (nI ((zk + 1) % 4096)))]) (fun (t : Unit) => [fb_o12 za zr (upd ze 6 (1 : Int32))]) X I [0, 1] 2 rfl (by decide +kernel) rfl rfl [0, 1] 2 (fun _ => rfl) (by decide +kernel) (fun _ => rfl) (fun _ => rfl) (fun I => fb_rV (As := [.int (0 : Int32), .int (nI (zk % 4096))]) (rest := []) X hl (fb_goodV fw_2502 fw_2504 fw_161 fw_204 fw_2505) (c_plain0 l D cI cJ za zr (upd ze 6 (1 : Int32)) (nI (zk % 4096)) _ ) rfl rfl rfl (by decide +kernel : fb_hd yX12_plain 2) ⟨Nat.le_of_ble_eq_true rfl, Nat.le_of_ble_eq_true rfl⟩ rfl rfl rfl rfl rfl (Nat.le_of_ble_eq_true rfl) ⟨Nat.zero_le _, Nat.zero_le _⟩ dX12_carryOut_84 I) ?_
  intro w5 H locs _ I
  have I : fb_In D A s.heap (([fb_o12 za zr (upd ze 6 (1 : Int32)), fb_aw cI (zr 0) 16205 (upd (upd (upd (fr_m zt zk) (12109 + (zk % 4096)) ((zt (zk % 4096)) + (1 : Int32))) 8 (nI (zk + 1))) 4 (nI ((zk + 1) % 4096)))] : List va_W).flatten) H locs := I
  refine lv_goto (tgt := 165) hx hb dX12_carryOut_87 (by decide) ?_
  exact fb_retV (u := ()) X I trivial dX12_carryOut_165

set_option maxHeartbeats 4000000 in
set_option maxRecDepth 100000 in
theorem c_act_n (l : Launch) (D : va_G) (cI cJ : ClassId) (za : Nat) (zr : Nat → Nat) (ze : fb_AR) (zt : fb_AR) (zk : Nat) (sz : Nat) (hk : zk < 1000000) (h5 : ze 5 = (0 : Int32)) (h6 : ze 6 = (0 : Int32)) : Met l yX12_act (Cond.code yX12_act cX12_act 3 none :: fb_all) ({ frames := 4, cells := 0, slots := 0, locals := 101 } : Room) (fb_PP D (fb_ty D cI cJ) [.ref za] (([fb_o12 za zr ze, fb_aw cI (zr 0) 16205 (fr_m zt zk)] : List va_W).flatten) sz) (fb_QV D (va_A (([fb_o12 za zr ze, fb_aw cI (zr 0) 16205 (fr_m zt zk)] : List va_W).flatten) sz) (fun (_ : Unit) => True) (fun (t : Unit) => ([fb_o12 za zr (upd ze 6 (1 : Int32)), fb_aw cI (zr 0) 16205 (upd (upd (upd (fr_m zt zk) (12109 + (zk % 4096)) ((zt (zk % 4096)) + (1 : Int32))) 8 (nI (zk + 1))) 4 (nI ((zk + 1) % 4096)))] : List va_W).flatten)) 0 0 (va_A (([fb_o12 za zr ze, fb_aw cI (zr 0) 16205 (fr_m zt zk)] : List va_W).flatten) sz) := by
  refine fb_ent (Qf := fun A => (fb_QV D A (fun (_ : Unit) => True) (fun (t : Unit) => ([fb_o12 za zr (upd ze 6 (1 : Int32)), fb_aw cI (zr 0) 16205 (upd (upd (upd (fr_m zt zk) (12109 + (zk % 4096)) ((zt (zk % 4096)) + (1 : Int32))) 8 (nI (zk + 1))) 4 (nI ((zk + 1) % 4096)))] : List va_W).flatten))) (by decide +kernel) (Nat.le_of_ble_eq_true rfl) ?_
  intro p e s m args below meth c A ls X I hl hin
  obtain ⟨hx, hb, hr, hml, hown, hts, hlk, hA, hK, hF⟩ := id X
  have hl : lv_has ls 3 [(0, .ref za)] := hl
  refine lv_aload_n hx hb dX12_act_0 rfl (lv_at hl 0 rfl) ?_
  refine fb_get X I (k := 0) (v := .ref (zr 0)) fu_X12 0 fb_h12 rfl (Nat.le_of_ble_eq_true rfl) fw_1964 rfl rfl dX12_act_1 ?_
  refine lv_bipush (v := (6 : Int32)) hx hb dX12_act_4 (by decide) ?_
  refine fb_iaC (n := 6) (v := (0 : Int32)) X I 1 0 rfl rfl (by decide) (by decide) (Nat.le_of_ble_eq_true rfl) rfl dX12_act_6 ?_
  refine lv_iconst (v := (1 : Int32)) hx hb dX12_act_7 (by decide) ?_
  refine lv_icmp_ne (tgt := 24) hx hb dX12_act_8 (by decide) (fun _ => ?_) (fun c1 => absurd c1 (by decide))
  refine lv_aload_n hx hb dX12_act_24 rfl (lv_at hl 0 rfl) ?_
  refine fb_gO (cs := [fb_o12 za zr ze, fb_aw cI (zr 0) 16205 (fr_m zt zk)]) (rs := []) X I [0, 1] 2 rfl (by decide +kernel) rfl rfl (fun I => fb_rV (As := []) (rest := []) X hl (fb_goodV fw_2484 fw_2486 fw_158 fw_204 fw_2487) (c_lines l D cI cJ za zr ze (fr_m zt zk) _ rfl rfl) rfl rfl rfl (by decide +kernel : fb_hd yX12_lines 0) ⟨Nat.le_of_ble_eq_true rfl, Nat.le_of_ble_eq_true rfl⟩ rfl rfl rfl rfl rfl (Nat.le_of_ble_eq_true rfl) ⟨Nat.zero_le _, Nat.zero_le _⟩ dX12_act_25 I) ?_
  refine lv_istore_n (lv' := [(1, .int (0 : Int32)), (0, .ref za)]) hx hb dX12_act_28 rfl hl (by decide) rfl (fun ls hl => ?_)
  refine lv_iload_n hx hb dX12_act_29 rfl (lv_at hl 0 rfl) ?_
  refine lv_if_le (tgt := 65) hx hb dX12_act_30 (by decide) (fun _ => ?_) (fun c2 => absurd (by decide) c2)
  refine lv_aload_n hx hb dX12_act_65 rfl (lv_at hl 1 rfl) ?_
  refine fb_get X I (k := 0) (v := .ref (zr 0)) fu_X12 0 fb_h12 rfl (Nat.le_of_ble_eq_true rfl) fw_1964 rfl rfl dX12_act_66 ?_
  refine lv_iconst (v := (5 : Int32)) hx hb dX12_act_69 (by decide) ?_
  refine fb_iaC (n := 5) (v := (0 : Int32)) X I 1 0 rfl rfl (by decide) (by decide) (Nat.le_of_ble_eq_true rfl) rfl dX12_act_70 ?_
  refine lv_iconst (v := (1 : Int32)) hx hb dX12_act_71 (by decide) ?_
  refine lv_icmp_ne (tgt := 91) hx hb dX12_act_72 (by decide) (fun _ => ?_) (fun c3 => absurd c3 (by decide))
  refine lv_aload_n hx hb dX12_act_91 rfl (lv_at hl 1 rfl) ?_
  refine lv_aload_n hx hb dX12_act_92 rfl (lv_at hl 1 rfl) ?_
  refine fb_get X I (k := 0) (v := .ref (zr 0)) fu_X12 0 fb_h12 rfl (Nat.le_of_ble_eq_true rfl) fw_1964 rfl rfl dX12_act_93 ?_
  refine lv_iconst (v := (4 : Int32)) hx hb dX12_act_96 (by decide) ?_
  refine fb_iaC (n := 4) (v := (nI (zk % 4096))) X I 1 0 rfl rfl (by decide) (by decide) (Nat.le_of_ble_eq_true rfl) rfl dX12_act_97 ?_
  refine fb_gO (cs := [fb_o12 za zr ze, fb_aw cI (zr 0) 16205 (fr_m zt zk)]) (rs := []) X I [0, 1] 2 rfl (by decide +kernel) rfl rfl (fun I => fb_rV (As := [.int (nI (zk % 4096))]) (rest := []) X hl (fb_goodV fw_1949 fw_1951 fw_86 fw_204 fw_1952) (c_code l D cI cJ za zr ze (fr_m zt zk) (nI (zk % 4096)) _ (fr_hm _ _) rfl) rfl rfl rfl (by decide +kernel : fb_hd yX12_code 1) ⟨Nat.le_of_ble_eq_true rfl, Nat.le_of_ble_eq_true rfl⟩ rfl rfl rfl rfl rfl (Nat.le_of_ble_eq_true rfl) ⟨Nat.zero_le _, Nat.zero_le _⟩ dX12_act_98 I) ?_
  refine lv_istore_n (lv' := [(2, .int (0 : Int32)), (1, .int (0 : Int32)), (0, .ref za)]) hx hb dX12_act_101 rfl hl (by decide) rfl (fun ls hl => ?_)
  refine lv_iload_n hx hb dX12_act_102 rfl (lv_at hl 0 rfl) ?_
  refine fb_gO (cs := []) (rs := [fb_o12 za zr ze, fb_aw cI (zr 0) 16205 (fr_m zt zk)]) X I [0, 1] 2 rfl (by decide +kernel) rfl rfl (fun I => fb_rS (As := [.int (0 : Int32)]) (rest := []) X hl (fb_goodS fw_2492 fw_2493 fw_204 fw_2494) (c_X12_isInstruction l D cI cJ (0 : Int32) _) rfl rfl (by decide +kernel : fb_hd yX12_isInstruction 1) ⟨Nat.le_of_ble_eq_true rfl, Nat.le_of_ble_eq_true rfl⟩ rfl rfl (Nat.le_of_ble_eq_true rfl) ⟨Nat.le_of_ble_eq_true rfl, Nat.le_of_ble_eq_true rfl⟩ dX12_act_103 I) ?_
  refine fb_tI (v := (1 : Int32)) (by decide) ?_
  refine lv_if_eq (tgt := 117) hx hb dX12_act_106 (by decide) (fun c4 => absurd c4 (by decide)) (fun _ => ?_)
  refine lv_aload_n hx hb dX12_act_109 rfl (lv_at hl 2 rfl) ?_
  refine lv_iload_n hx hb dX12_act_110 rfl (lv_at hl 0 rfl) ?_
  refine fb_gV (cs := [fb_o12 za zr ze, fb_aw cI (zr 0) 16205 (fr_m zt zk)]) (rs := []) (fun (t : Unit) => [fb_o12 za zr (upd ze 6 (1 : Int32)), fb_aw cI (zr 0) 16205 (upd (upd (upd (fr_m zt zk) (12109 + (zk % 4096)) ((zt (zk % 4096)) + (1 : Int32))) 8 (nI (zk + 1))) 4 (nI ((zk + 1) % 4096)))]) (fun (t : Unit) => [fb_o12 za zr (upd ze 6 (1 : Int32)), fb_aw cI (zr 0) 16205 (upd (upd (upd (fr_m zt zk) (12109 + (zk % 4096)) ((zt (zk % 4096)) + (1 : Int32))) 8 (nI (zk + 1))) 4 (nI ((zk + 1) % 4096)))]) X I [0, 1] 2 rfl (by decide +kernel) rfl rfl [0, 1] 2 (fun _ => rfl) (by decide +kernel) (fun _ => rfl) (fun _ => rfl) (fun I => fb_rV (As := [.int (0 : Int32)]) (rest := []) X hl (fb_goodV fw_2495 fw_2497 fw_160 fw_204 fw_2498) (c_carry_n l D cI cJ za zr ze zt zk _ (by omega) h5 h6) rfl rfl rfl (by decide +kernel : fb_hd yX12_carryOut 1) ⟨Nat.le_of_ble_eq_true rfl, Nat.le_of_ble_eq_true rfl⟩ rfl rfl rfl rfl rfl (Nat.le_of_ble_eq_true rfl) ⟨Nat.zero_le _, Nat.zero_le _⟩ dX12_act_111 I) ?_
  intro w5 H locs _ I
  have I : fb_In D A s.heap (([fb_o12 za zr (upd ze 6 (1 : Int32)), fb_aw cI (zr 0) 16205 (upd (upd (upd (fr_m zt zk) (12109 + (zk % 4096)) ((zt (zk % 4096)) + (1 : Int32))) 8 (nI (zk + 1))) 4 (nI ((zk + 1) % 4096)))] : List va_W).flatten) H locs := I
  refine lv_goto (tgt := 128) hx hb dX12_act_114 (by decide) ?_
  exact fb_retV (u := ()) X I trivial dX12_act_128

set_option maxHeartbeats 4000000 in
set_option maxRecDepth 100000 in
theorem c_one_n (l : Launch) (D : va_G) (cI cJ : ClassId) (za : Nat) (zr : Nat → Nat) (ze : fb_AR) (zt : fb_AR) (zk : Nat) (sz : Nat) (hk : zk < 1000000) (h5 : ze 5 = (0 : Int32)) : Met l yX12_one (Cond.code yX12_one cX12_one 2 (some .int) :: fb_all) ({ frames := 5, cells := 0, slots := 0, locals := 123 } : Room) (fb_PP D (fb_ty D cI cJ) [.ref za] (([fb_o12 za zr ze, fb_aw cI (zr 0) 16205 (fr_m zt zk)] : List va_W).flatten) sz) (fb_QI D (va_A (([fb_o12 za zr ze, fb_aw cI (zr 0) 16205 (fr_m zt zk)] : List va_W).flatten) sz) (fun (r : Int32) (_ : fb_AR) => r = (1 : Int32)) (fun (t : fb_AR) => ([fb_o12 za zr (upd (upd (upd (upd ze 6 (0 : Int32)) 7 (0 : Int32)) 4 (0 : Int32)) 6 (1 : Int32)), fb_aw cI (zr 0) 16205 (fr_m t (zk + 1))] : List va_W).flatten)) 0 0 (va_A (([fb_o12 za zr ze, fb_aw cI (zr 0) 16205 (fr_m zt zk)] : List va_W).flatten) sz) := by
  refine fb_ent (Qf := fun A => (fb_QI D A (fun (r : Int32) (_ : fb_AR) => r = (1 : Int32)) (fun (t : fb_AR) => ([fb_o12 za zr (upd (upd (upd (upd ze 6 (0 : Int32)) 7 (0 : Int32)) 4 (0 : Int32)) 6 (1 : Int32)), fb_aw cI (zr 0) 16205 (fr_m t (zk + 1))] : List va_W).flatten))) (by decide +kernel) (Nat.le_of_ble_eq_true rfl) ?_
  intro p e s m args below meth c A ls X I hl hin
  obtain ⟨hx, hb, hr, hml, hown, hts, hlk, hA, hK, hF⟩ := id X
  have hl : lv_has ls 2 [(0, .ref za)] := hl
  refine lv_aload_n hx hb dX12_one_0 rfl (lv_at hl 0 rfl) ?_
  refine lv_iconst (v := (0 : Int32)) hx hb dX12_one_1 (by decide) ?_
  refine fb_put X I (k := 6) (wn := ([fb_o12 za zr (upd ze 6 (0 : Int32)), fb_aw cI (zr 0) 16205 (fr_m zt zk)] : List va_W).flatten) fu_X12 tyX12 tyX12_ok nmX12 0 fb_h12 rfl (Nat.le_of_ble_eq_true rfl) fw_1970 rfl rfl rfl rfl rfl (Nat.le_of_ble_eq_true rfl) fb_r12_6 dX12_one_2 (fun H locs I => ?_)
  refine lv_aload_n hx hb dX12_one_5 rfl (lv_at hl 0 rfl) ?_
  refine lv_iconst (v := (0 : Int32)) hx hb dX12_one_6 (by decide) ?_
  refine fb_put X I (k := 7) (wn := ([fb_o12 za zr (upd (upd ze 6 (0 : Int32)) 7 (0 : Int32)), fb_aw cI (zr 0) 16205 (fr_m zt zk)] : List va_W).flatten) fu_X12 tyX12 tyX12_ok nmX12 0 fb_h12 rfl (Nat.le_of_ble_eq_true rfl) fw_1971 rfl rfl rfl rfl rfl (Nat.le_of_ble_eq_true rfl) fb_r12_7 dX12_one_7 (fun H locs I => ?_)
  refine lv_aload_n hx hb dX12_one_10 rfl (lv_at hl 0 rfl) ?_
  refine fb_gO (cs := [fb_o12 za zr (upd (upd ze 6 (0 : Int32)) 7 (0 : Int32)), fb_aw cI (zr 0) 16205 (fr_m zt zk)]) (rs := []) X I [0, 1] 2 rfl (by decide +kernel) rfl rfl (fun I => fb_rV (As := []) (rest := []) X hl (fb_goodV fw_2406 fw_2408 fw_139 fw_204 fw_2409) (c_isOver l D cI cJ za zr (upd (upd ze 6 (0 : Int32)) 7 (0 : Int32)) (fr_m zt zk) _ rfl) rfl rfl rfl (by decide +kernel : fb_hd yX12_isOver 0) ⟨Nat.le_of_ble_eq_true rfl, Nat.le_of_ble_eq_true rfl⟩ rfl rfl rfl rfl rfl (Nat.le_of_ble_eq_true rfl) ⟨Nat.zero_le _, Nat.zero_le _⟩ dX12_one_11 I) ?_
  refine lv_if_eq (tgt := 19) hx hb dX12_one_14 (by decide) (fun _ => ?_) (fun c1 => absurd (by decide) c1)
  refine lv_aload_n hx hb dX12_one_19 rfl (lv_at hl 0 rfl) ?_
  refine lv_iconst (v := (0 : Int32)) hx hb dX12_one_20 (by decide) ?_
  refine fb_put X I (k := 4) (wn := ([fb_o12 za zr (upd (upd (upd ze 6 (0 : Int32)) 7 (0 : Int32)) 4 (0 : Int32)), fb_aw cI (zr 0) 16205 (fr_m zt zk)] : List va_W).flatten) fu_X12 tyX12 tyX12_ok nmX12 0 fb_h12 rfl (Nat.le_of_ble_eq_true rfl) fw_1968 rfl rfl rfl rfl rfl (Nat.le_of_ble_eq_true rfl) fb_r12_4 dX12_one_21 (fun H locs I => ?_)
  refine lv_aload_n hx hb dX12_one_24 rfl (lv_at hl 0 rfl) ?_
  refine fb_gV (cs := [fb_o12 za zr (upd (upd (upd ze 6 (0 : Int32)) 7 (0 : Int32)) 4 (0 : Int32)), fb_aw cI (zr 0) 16205 (fr_m zt zk)]) (rs := []) (fun (t : Unit) => [fb_o12 za zr (upd (upd (upd (upd ze 6 (0 : Int32)) 7 (0 : Int32)) 4 (0 : Int32)) 6 (1 : Int32)), fb_aw cI (zr 0) 16205 (upd (upd (upd (fr_m zt zk) (12109 + (zk % 4096)) ((zt (zk % 4096)) + (1 : Int32))) 8 (nI (zk + 1))) 4 (nI ((zk + 1) % 4096)))]) (fun (t : Unit) => [fb_o12 za zr (upd (upd (upd (upd ze 6 (0 : Int32)) 7 (0 : Int32)) 4 (0 : Int32)) 6 (1 : Int32)), fb_aw cI (zr 0) 16205 (upd (upd (upd (fr_m zt zk) (12109 + (zk % 4096)) ((zt (zk % 4096)) + (1 : Int32))) 8 (nI (zk + 1))) 4 (nI ((zk + 1) % 4096)))]) X I [0, 1] 2 rfl (by decide +kernel) rfl rfl [0, 1] 2 (fun _ => rfl) (by decide +kernel) (fun _ => rfl) (fun _ => rfl) (fun I => fb_rV (As := []) (rest := []) X hl (fb_goodV fw_2414 fw_2416 fw_141 fw_204 fw_2417) (c_act_n l D cI cJ za zr (upd (upd (upd ze 6 (0 : Int32)) 7 (0 : Int32)) 4 (0 : Int32)) zt zk _ (by omega) h5 rfl) rfl rfl rfl (by decide +kernel : fb_hd yX12_act 0) ⟨Nat.le_of_ble_eq_true rfl, Nat.le_of_ble_eq_true rfl⟩ rfl rfl rfl rfl rfl (Nat.le_of_ble_eq_true rfl) ⟨Nat.zero_le _, Nat.zero_le _⟩ dX12_one_25 I) ?_
  intro w2 H locs _ I
  have I : fb_In D A s.heap (([fb_o12 za zr (upd (upd (upd (upd ze 6 (0 : Int32)) 7 (0 : Int32)) 4 (0 : Int32)) 6 (1 : Int32)), fb_aw cI (zr 0) 16205 (upd (upd (upd (fr_m zt zk) (12109 + (zk % 4096)) ((zt (zk % 4096)) + (1 : Int32))) 8 (nI (zk + 1))) 4 (nI ((zk + 1) % 4096)))] : List va_W).flatten) H locs := I
  refine lv_iconst (v := (0 : Int32)) hx hb dX12_one_28 (by decide) ?_
  refine lv_istore_n (lv' := [(1, .int (0 : Int32)), (0, .ref za)]) hx hb dX12_one_29 rfl hl (by decide) rfl (fun ls hl => ?_)
  refine lv_iload_n hx hb dX12_one_30 rfl (lv_at hl 0 rfl) ?_
  refine lv_aload_n hx hb dX12_one_31 rfl (lv_at hl 1 rfl) ?_
  refine fb_get X I (k := 6) (v := .int (1 : Int32)) fu_X12 0 fb_h12 rfl (Nat.le_of_ble_eq_true rfl) fw_1970 rfl rfl dX12_one_32 ?_
  refine lv_icmp_ge (tgt := 48) hx hb dX12_one_35 (by decide) (fun c3 => absurd c3 (by decide)) (fun _ => ?_)
  refine lv_aload_n hx hb dX12_one_38 rfl (lv_at hl 1 rfl) ?_
  refine fb_gV (cs := [fb_o12 za zr (upd (upd (upd (upd ze 6 (0 : Int32)) 7 (0 : Int32)) 4 (0 : Int32)) 6 (1 : Int32)), fb_aw cI (zr 0) 16205 (upd (upd (upd (fr_m zt zk) (12109 + (zk % 4096)) ((zt (zk % 4096)) + (1 : Int32))) 8 (nI (zk + 1))) 4 (nI ((zk + 1) % 4096)))]) (rs := []) (fun (t : Unit) => [fb_o12 za zr (upd (upd (upd (upd ze 6 (0 : Int32)) 7 (0 : Int32)) 4 (0 : Int32)) 6 (1 : Int32)), fb_aw cI (zr 0) 16205 (upd (upd (upd (fr_m zt zk) (12109 + (zk % 4096)) ((zt (zk % 4096)) + (1 : Int32))) 8 (nI (zk + 1))) 4 (nI ((zk + 1) % 4096)))]) (fun (t : Unit) => [fb_o12 za zr (upd (upd (upd (upd ze 6 (0 : Int32)) 7 (0 : Int32)) 4 (0 : Int32)) 6 (1 : Int32)), fb_aw cI (zr 0) 16205 (upd (upd (upd (fr_m zt zk) (12109 + (zk % 4096)) ((zt (zk % 4096)) + (1 : Int32))) 8 (nI (zk + 1))) 4 (nI ((zk + 1) % 4096)))]) X I [0, 1] 2 rfl (by decide +kernel) rfl rfl [0, 1] 2 (fun _ => rfl) (by decide +kernel) (fun _ => rfl) (fun _ => rfl) (fun I => fb_rV (As := []) (rest := []) X hl (fb_goodV fw_2558 fw_2560 fw_175 fw_204 fw_2561) (c_tick l D cI cJ za zr (upd (upd (upd (upd ze 6 (0 : Int32)) 7 (0 : Int32)) 4 (0 : Int32)) 6 (1 : Int32)) (upd (upd (upd (fr_m zt zk) (12109 + (zk % 4096)) ((zt (zk % 4096)) + (1 : Int32))) 8 (nI (zk + 1))) 4 (nI ((zk + 1) % 4096))) _ ((pk_un (by decide)).trans ((pk_un (by decide)).trans ((pk_un (by omega)).trans rfl)))) rfl rfl rfl (by decide +kernel : fb_hd yX12_tick 0) ⟨Nat.le_of_ble_eq_true rfl, Nat.le_of_ble_eq_true rfl⟩ rfl rfl rfl rfl rfl (Nat.le_of_ble_eq_true rfl) ⟨Nat.zero_le _, Nat.zero_le _⟩ dX12_one_39 I) ?_
  intro w4 H locs _ I
  have I : fb_In D A s.heap (([fb_o12 za zr (upd (upd (upd (upd ze 6 (0 : Int32)) 7 (0 : Int32)) 4 (0 : Int32)) 6 (1 : Int32)), fb_aw cI (zr 0) 16205 (upd (upd (upd (fr_m zt zk) (12109 + (zk % 4096)) ((zt (zk % 4096)) + (1 : Int32))) 8 (nI (zk + 1))) 4 (nI ((zk + 1) % 4096)))] : List va_W).flatten) H locs := I
  refine lv_iinc (v := (1 : Int32)) (lv' := [(1, .int (1 : Int32)), (0, .ref za)]) hx hb dX12_one_42 hl (k := 0) rfl (by decide) (by decide) rfl (fun ls hl => ?_)
  refine lv_goto (tgt := 30) hx hb dX12_one_45 (by decide) ?_
  refine lv_iload_n hx hb dX12_one_30 rfl (lv_at hl 0 rfl) ?_
  refine lv_aload_n hx hb dX12_one_31 rfl (lv_at hl 1 rfl) ?_
  refine fb_get X I (k := 6) (v := .int (1 : Int32)) fu_X12 0 fb_h12 rfl (Nat.le_of_ble_eq_true rfl) fw_1970 rfl rfl dX12_one_32 ?_
  refine lv_icmp_ge (tgt := 48) hx hb dX12_one_35 (by decide) (fun _ => ?_) (fun c5 => absurd (by decide) c5)
  refine lv_aload_n hx hb dX12_one_48 rfl (lv_at hl 1 rfl) ?_
  refine lv_bipush (v := (7 : Int32)) hx hb dX12_one_49 (by decide) ?_
  refine lv_aload_n hx hb dX12_one_51 rfl (lv_at hl 1 rfl) ?_
  refine fb_get X I (k := 0) (v := .ref (zr 0)) fu_X12 0 fb_h12 rfl (Nat.le_of_ble_eq_true rfl) fw_1964 rfl rfl dX12_one_52 ?_
  refine lv_bipush (v := (7 : Int32)) hx hb dX12_one_55 (by decide) ?_
  refine fb_iaC (n := 7) (v := (nI zk)) X I 1 0 rfl rfl (by decide) (by decide) (Nat.le_of_ble_eq_true rfl) ((pk_un (by decide)).trans ((pk_un (by decide)).trans ((pk_un (by omega)).trans rfl))) dX12_one_57 ?_
  refine lv_aload_n hx hb dX12_one_58 rfl (lv_at hl 1 rfl) ?_
  refine fb_get X I (k := 6) (v := .int (1 : Int32)) fu_X12 0 fb_h12 rfl (Nat.le_of_ble_eq_true rfl) fw_1970 rfl rfl dX12_one_59 ?_
  refine lv_iadd hx hb dX12_one_62 ?_
  refine fb_tI (v := (nI (zk + 1))) (nI_add zk 1) ?_
  refine fb_gV (cs := [fb_o12 za zr (upd (upd (upd (upd ze 6 (0 : Int32)) 7 (0 : Int32)) 4 (0 : Int32)) 6 (1 : Int32)), fb_aw cI (zr 0) 16205 (upd (upd (upd (fr_m zt zk) (12109 + (zk % 4096)) ((zt (zk % 4096)) + (1 : Int32))) 8 (nI (zk + 1))) 4 (nI ((zk + 1) % 4096)))]) (rs := []) (fun (t : Unit) => [fb_o12 za zr (upd (upd (upd (upd ze 6 (0 : Int32)) 7 (0 : Int32)) 4 (0 : Int32)) 6 (1 : Int32)), fb_aw cI (zr 0) 16205 (upd (upd (upd (upd (fr_m zt zk) (12109 + (zk % 4096)) ((zt (zk % 4096)) + (1 : Int32))) 8 (nI (zk + 1))) 4 (nI ((zk + 1) % 4096))) 7 (nI (zk + 1)))]) (fun (t : Unit) => [fb_o12 za zr (upd (upd (upd (upd ze 6 (0 : Int32)) 7 (0 : Int32)) 4 (0 : Int32)) 6 (1 : Int32)), fb_aw cI (zr 0) 16205 (upd (upd (upd (upd (fr_m zt zk) (12109 + (zk % 4096)) ((zt (zk % 4096)) + (1 : Int32))) 8 (nI (zk + 1))) 4 (nI ((zk + 1) % 4096))) 7 (nI (zk + 1)))]) X I [0, 1] 2 rfl (by decide +kernel) rfl rfl [0, 1] 2 (fun _ => rfl) (by decide +kernel) (fun _ => rfl) (fun _ => rfl) (fun I => fb_rV (As := [.int (7 : Int32), .int (nI (zk + 1))]) (rest := []) X hl (fb_goodV fw_2418 fw_2420 fw_142 fw_204 fw_2421) (c_put_n l D cI cJ za zr (upd (upd (upd (upd ze 6 (0 : Int32)) 7 (0 : Int32)) 4 (0 : Int32)) 6 (1 : Int32)) (upd (upd (upd (fr_m zt zk) (12109 + (zk % 4096)) ((zt (zk % 4096)) + (1 : Int32))) 8 (nI (zk + 1))) 4 (nI ((zk + 1) % 4096))) 7 (nI (zk + 1)) _ (by omega) h5) rfl rfl rfl (by decide +kernel : fb_hd yX12_put 2) ⟨Nat.le_of_ble_eq_true rfl, Nat.le_of_ble_eq_true rfl⟩ rfl rfl rfl rfl rfl (Nat.le_of_ble_eq_true rfl) ⟨Nat.zero_le _, Nat.zero_le _⟩ dX12_one_63 I) ?_
  intro w6 H locs _ I
  have I : fb_In D A s.heap (([fb_o12 za zr (upd (upd (upd (upd ze 6 (0 : Int32)) 7 (0 : Int32)) 4 (0 : Int32)) 6 (1 : Int32)), fb_aw cI (zr 0) 16205 (upd (upd (upd (upd (fr_m zt zk) (12109 + (zk % 4096)) ((zt (zk % 4096)) + (1 : Int32))) 8 (nI (zk + 1))) 4 (nI ((zk + 1) % 4096))) 7 (nI (zk + 1)))] : List va_W).flatten) H locs := I
  have I : fb_In D A s.heap (([fb_o12 za zr (upd (upd (upd (upd ze 6 (0 : Int32)) 7 (0 : Int32)) 4 (0 : Int32)) 6 (1 : Int32)), fb_aw cI (zr 0) 16205 (fr_m (upd zt (zk % 4096) ((zt (zk % 4096)) + (1 : Int32))) (zk + 1))] : List va_W).flatten) H locs := fb_In.row I 1 rfl (fun j _ => fr_step _ _ _ j) rfl
  obtain ⟨w7, ew7⟩ : ∃ z : fb_AR, (upd zt (zk % 4096) ((zt (zk % 4096)) + (1 : Int32))) = z := ⟨_, rfl⟩
  rw [ew7] at I
  refine lv_aload_n hx hb dX12_one_66 rfl (lv_at hl 1 rfl) ?_
  refine fb_get X I (k := 6) (v := .int (1 : Int32)) fu_X12 0 fb_h12 rfl (Nat.le_of_ble_eq_true rfl) fw_1970 rfl rfl dX12_one_67 ?_
  exact fb_retI (u := (w7)) X I rfl rfl dX12_one_70

set_option maxHeartbeats 4000000 in
set_option maxRecDepth 100000 in
theorem c_carry_l (l : Launch) (D : va_G) (cI cJ : ClassId) (za : Nat) (zr : Nat → Nat) (ze : fb_AR) (zt : fb_AR) (zk : Nat) (zl : fb_AR) (sz : Nat) (hk : zk < 1000000) (h5 : ze 5 = (1 : Int32)) (h6 : ze 6 = (0 : Int32)) (h4 : ze 4 = (0 : Int32)) : Met l yX12_carryOut (Cond.code yX12_carryOut cX12_carryOut 4 none :: fb_all) ({ frames := 2, cells := 0, slots := 0, locals := 53 } : Room) (fb_PP D (fb_ty D cI cJ) [.ref za, .int (0 : Int32)] (([fb_o12 za zr ze, fb_aw cI (zr 0) 16205 (fr_m zt zk), fb_aw cI (zr 3) 64 zl] : List va_W).flatten) sz) (fb_QV D (va_A (([fb_o12 za zr ze, fb_aw cI (zr 0) 16205 (fr_m zt zk), fb_aw cI (zr 3) 64 zl] : List va_W).flatten) sz) (fun (_ : fb_AR) => True) (fun (t : fb_AR) => ([fb_o12 za zr (upd (upd (upd (upd ze 4 (nI (0 + 2))) 4 (nI ((0 + 2) + 2))) 4 (nI (((0 + 2) + 2) + 2))) 6 (1 : Int32)), fb_aw cI (zr 0) 16205 (upd (upd (upd (fr_m zt zk) (12109 + (zk % 4096)) ((zt (zk % 4096)) + (1 : Int32))) 8 (nI (zk + 1))) 4 (nI ((zk + 1) % 4096))), fb_aw cI (zr 3) 64 t] : List va_W).flatten)) 0 0 (va_A (([fb_o12 za zr ze, fb_aw cI (zr 0) 16205 (fr_m zt zk), fb_aw cI (zr 3) 64 zl] : List va_W).flatten) sz) := by
  refine fb_ent (Qf := fun A => (fb_QV D A (fun (_ : fb_AR) => True) (fun (t : fb_AR) => ([fb_o12 za zr (upd (upd (upd (upd ze 4 (nI (0 + 2))) 4 (nI ((0 + 2) + 2))) 4 (nI (((0 + 2) + 2) + 2))) 6 (1 : Int32)), fb_aw cI (zr 0) 16205 (upd (upd (upd (fr_m zt zk) (12109 + (zk % 4096)) ((zt (zk % 4096)) + (1 : Int32))) 8 (nI (zk + 1))) 4 (nI ((zk + 1) % 4096))), fb_aw cI (zr 3) 64 t] : List va_W).flatten))) (by decide +kernel) (Nat.le_of_ble_eq_true rfl) ?_
  intro p e s m args below meth c A ls X I hl hin
  obtain ⟨hx, hb, hr, hml, hown, hts, hlk, hA, hK, hF⟩ := id X
  have hl : lv_has ls 4 [(0, .ref za), (1, .int (0 : Int32))] := hl
  refine lv_aload_n hx hb dX12_carryOut_0 rfl (lv_at hl 0 rfl) ?_
  refine fb_get X I (k := 0) (v := .ref (zr 0)) fu_X12 0 fb_h12 rfl (Nat.le_of_ble_eq_true rfl) fw_1964 rfl rfl dX12_carryOut_1 ?_
  refine lv_iconst (v := (4 : Int32)) hx hb dX12_carryOut_4 (by decide) ?_
  refine fb_iaC (n := 4) (v := (nI (zk % 4096))) X I 1 0 rfl rfl (by decide) (by decide) (Nat.le_of_ble_eq_true rfl) rfl dX12_carryOut_5 ?_
  refine lv_istore_n (lv' := [(2, .int (nI (zk % 4096))), (0, .ref za), (1, .int (0 : Int32))]) hx hb dX12_carryOut_6 rfl hl (by decide) rfl (fun ls hl => ?_)
  refine lv_iload_n hx hb dX12_carryOut_7 rfl (lv_at hl 2 rfl) ?_
  refine lv_bipush (v := (8 : Int32)) hx hb dX12_carryOut_8 (by decide) ?_
  refine lv_idiv hx hb dX12_carryOut_10 (by decide) ?_
  refine fb_tI (v := (0 : Int32)) (by decide) ?_
  refine lv_istore_n (lv' := [(3, .int (0 : Int32)), (2, .int (nI (zk % 4096))), (0, .ref za), (1, .int (0 : Int32))]) hx hb dX12_carryOut_11 rfl hl (by decide) rfl (fun ls hl => ?_)
  refine lv_aload_n hx hb dX12_carryOut_12 rfl (lv_at hl 2 rfl) ?_
  refine lv_sipush (v := (12109 : Int32)) hx hb dX12_carryOut_13 (by decide) ?_
  refine lv_iload_n hx hb dX12_carryOut_16 rfl (lv_at hl 1 rfl) ?_
  refine lv_iadd hx hb dX12_carryOut_17 ?_
  refine fb_tI (v := (nI (12109 + (zk % 4096)))) (nI_add 12109 (zk % 4096)) ?_
  refine lv_aload_n hx hb dX12_carryOut_18 rfl (lv_at hl 2 rfl) ?_
  refine fb_get X I (k := 0) (v := .ref (zr 0)) fu_X12 0 fb_h12 rfl (Nat.le_of_ble_eq_true rfl) fw_1964 rfl rfl dX12_carryOut_19 ?_
  refine lv_sipush (v := (12109 : Int32)) hx hb dX12_carryOut_22 (by decide) ?_
  refine lv_iload_n hx hb dX12_carryOut_25 rfl (lv_at hl 1 rfl) ?_
  refine lv_iadd hx hb dX12_carryOut_26 ?_
  refine fb_tI (v := (nI (12109 + (zk % 4096)))) (nI_add 12109 (zk % 4096)) ?_
  refine fb_iaC (n := (12109 + (zk % 4096))) (v := (zt (zk % 4096))) X I 1 0 rfl rfl (nI_clamp (by omega)) (nI_pos (by omega)) (by omega) (fr_T _ _ _) dX12_carryOut_27 ?_
  refine lv_iconst (v := (1 : Int32)) hx hb dX12_carryOut_28 (by decide) ?_
  refine lv_iadd hx hb dX12_carryOut_29 ?_
  refine fb_gV (cs := [fb_o12 za zr ze, fb_aw cI (zr 0) 16205 (fr_m zt zk), fb_aw cI (zr 3) 64 zl]) (rs := []) (fun (t : fb_AR) => [fb_o12 za zr (upd ze 4 (nI (0 + 2))), fb_aw cI (zr 0) 16205 (upd (fr_m zt zk) (12109 + (zk % 4096)) ((zt (zk % 4096)) + (1 : Int32))), fb_aw cI (zr 3) 64 t]) (fun (t : fb_AR) => [fb_o12 za zr (upd ze 4 (nI (0 + 2))), fb_aw cI (zr 0) 16205 (upd (fr_m zt zk) (12109 + (zk % 4096)) ((zt (zk % 4096)) + (1 : Int32))), fb_aw cI (zr 3) 64 t]) X I [0, 1, 2] 3 rfl (by decide +kernel) rfl rfl [0, 1, 2] 3 (fun _ => rfl) (by decide +kernel) (fun _ => rfl) (fun _ => rfl) (fun I => fb_rV (As := [.int (nI (12109 + (zk % 4096))), .int ((zt (zk % 4096)) + (1 : Int32))]) (rest := []) X hl (fb_goodV fw_2418 fw_2420 fw_142 fw_204 fw_2421) (c_put_l l D cI cJ za zr ze (fr_m zt zk) (12109 + (zk % 4096)) ((zt (zk % 4096)) + (1 : Int32)) zl 0 _ (by omega) h5 h4 (by omega)) rfl rfl rfl (by decide +kernel : fb_hd yX12_put 2) ⟨Nat.le_of_ble_eq_true rfl, Nat.le_of_ble_eq_true rfl⟩ rfl rfl rfl rfl rfl (Nat.le_of_ble_eq_true rfl) ⟨Nat.zero_le _, Nat.zero_le _⟩ dX12_carryOut_30 I) ?_
  intro w1 H locs _ I
  have I : fb_In D A s.heap (([fb_o12 za zr (upd ze 4 (nI (0 + 2))), fb_aw cI (zr 0) 16205 (upd (fr_m zt zk) (12109 + (zk % 4096)) ((zt (zk % 4096)) + (1 : Int32))), fb_aw cI (zr 3) 64 w1] : List va_W).flatten) H locs := I
  refine lv_aload_n hx hb dX12_carryOut_33 rfl (lv_at hl 2 rfl) ?_
  refine lv_bipush (v := (8 : Int32)) hx hb dX12_carryOut_34 (by decide) ?_
  refine lv_aload_n hx hb dX12_carryOut_36 rfl (lv_at hl 2 rfl) ?_
  refine fb_get X I (k := 0) (v := .ref (zr 0)) fu_X12 0 fb_h12 rfl (Nat.le_of_ble_eq_true rfl) fw_1964 rfl rfl dX12_carryOut_37 ?_
  refine lv_bipush (v := (8 : Int32)) hx hb dX12_carryOut_40 (by decide) ?_
  refine fb_iaC (n := 8) (v := (nI zk)) X I 1 0 rfl rfl (by decide) (by decide) (Nat.le_of_ble_eq_true rfl) ((pk_un (by omega)).trans rfl) dX12_carryOut_42 ?_
  refine lv_iconst (v := (1 : Int32)) hx hb dX12_carryOut_43 (by decide) ?_
  refine lv_iadd hx hb dX12_carryOut_44 ?_
  refine fb_tI (v := (nI (zk + 1))) (nI_add zk 1) ?_
  refine fb_gV (cs := [fb_o12 za zr (upd ze 4 (nI (0 + 2))), fb_aw cI (zr 0) 16205 (upd (fr_m zt zk) (12109 + (zk % 4096)) ((zt (zk % 4096)) + (1 : Int32))), fb_aw cI (zr 3) 64 w1]) (rs := []) (fun (t : fb_AR) => [fb_o12 za zr (upd (upd ze 4 (nI (0 + 2))) 4 (nI ((0 + 2) + 2))), fb_aw cI (zr 0) 16205 (upd (upd (fr_m zt zk) (12109 + (zk % 4096)) ((zt (zk % 4096)) + (1 : Int32))) 8 (nI (zk + 1))), fb_aw cI (zr 3) 64 t]) (fun (t : fb_AR) => [fb_o12 za zr (upd (upd ze 4 (nI (0 + 2))) 4 (nI ((0 + 2) + 2))), fb_aw cI (zr 0) 16205 (upd (upd (fr_m zt zk) (12109 + (zk % 4096)) ((zt (zk % 4096)) + (1 : Int32))) 8 (nI (zk + 1))), fb_aw cI (zr 3) 64 t]) X I [0, 1, 2] 3 rfl (by decide +kernel) rfl rfl [0, 1, 2] 3 (fun _ => rfl) (by decide +kernel) (fun _ => rfl) (fun _ => rfl) (fun I => fb_rV (As := [.int (8 : Int32), .int (nI (zk + 1))]) (rest := []) X hl (fb_goodV fw_2418 fw_2420 fw_142 fw_204 fw_2421) (c_put_l l D cI cJ za zr (upd ze 4 (nI (0 + 2))) (upd (fr_m zt zk) (12109 + (zk % 4096)) ((zt (zk % 4096)) + (1 : Int32))) 8 (nI (zk + 1)) w1 (0 + 2) _ (by omega) h5 rfl (by omega)) rfl rfl rfl (by decide +kernel : fb_hd yX12_put 2) ⟨Nat.le_of_ble_eq_true rfl, Nat.le_of_ble_eq_true rfl⟩ rfl rfl rfl rfl rfl (Nat.le_of_ble_eq_true rfl) ⟨Nat.zero_le _, Nat.zero_le _⟩ dX12_carryOut_45 I) ?_
  intro w2 H locs _ I
  have I : fb_In D A s.heap (([fb_o12 za zr (upd (upd ze 4 (nI (0 + 2))) 4 (nI ((0 + 2) + 2))), fb_aw cI (zr 0) 16205 (upd (upd (fr_m zt zk) (12109 + (zk % 4096)) ((zt (zk % 4096)) + (1 : Int32))) 8 (nI (zk + 1))), fb_aw cI (zr 3) 64 w2] : List va_W).flatten) H locs := I
  refine lv_aload_n hx hb dX12_carryOut_48 rfl (lv_at hl 2 rfl) ?_
  refine lv_iconst (v := (4 : Int32)) hx hb dX12_carryOut_49 (by decide) ?_
  refine lv_iload_n hx hb dX12_carryOut_50 rfl (lv_at hl 1 rfl) ?_
  refine lv_iload_n hx hb dX12_carryOut_51 rfl (lv_at hl 3 rfl) ?_
  refine fb_gO (cs := []) (rs := [fb_o12 za zr (upd (upd ze 4 (nI (0 + 2))) 4 (nI ((0 + 2) + 2))), fb_aw cI (zr 0) 16205 (upd (upd (fr_m zt zk) (12109 + (zk % 4096)) ((zt (zk % 4096)) + (1 : Int32))) 8 (nI (zk + 1))), fb_aw cI (zr 3) 64 w2]) X I [0, 1, 2] 3 rfl (by decide +kernel) rfl rfl (fun I => fb_rS (As := [.int (0 : Int32)]) (rest := [.int (nI (zk % 4096)), .int (4 : Int32), .ref za]) X hl (fb_goodS fw_2499 fw_2500 fw_204 fw_2501) (c_X12_length l D cI cJ (0 : Int32) _) rfl rfl (by decide +kernel : fb_hd yX12_length 1) ⟨Nat.le_of_ble_eq_true rfl, Nat.le_of_ble_eq_true rfl⟩ rfl rfl (Nat.le_of_ble_eq_true rfl) ⟨Nat.le_of_ble_eq_true rfl, Nat.le_of_ble_eq_true rfl⟩ dX12_carryOut_52 I) ?_
  refine fb_tI (v := (1 : Int32)) (by decide) ?_
  refine lv_iadd hx hb dX12_carryOut_55 ?_
  refine fb_tI (v := (nI ((zk % 4096) + 1))) (nI_add (zk % 4096) 1) ?_
  refine lv_sipush (v := (4095 : Int32)) hx hb dX12_carryOut_56 (by decide) ?_
  refine lv_iand hx hb dX12_carryOut_59 ?_
  refine fb_tI (v := (nI ((zk + 1) % 4096))) (fr_pc zk) ?_
  refine fb_gV (cs := [fb_o12 za zr (upd (upd ze 4 (nI (0 + 2))) 4 (nI ((0 + 2) + 2))), fb_aw cI (zr 0) 16205 (upd (upd (fr_m zt zk) (12109 + (zk % 4096)) ((zt (zk % 4096)) + (1 : Int32))) 8 (nI (zk + 1))), fb_aw cI (zr 3) 64 w2]) (rs := []) (fun (t : fb_AR) => [fb_o12 za zr (upd (upd (upd ze 4 (nI (0 + 2))) 4 (nI ((0 + 2) + 2))) 4 (nI (((0 + 2) + 2) + 2))), fb_aw cI (zr 0) 16205 (upd (upd (upd (fr_m zt zk) (12109 + (zk % 4096)) ((zt (zk % 4096)) + (1 : Int32))) 8 (nI (zk + 1))) 4 (nI ((zk + 1) % 4096))), fb_aw cI (zr 3) 64 t]) (fun (t : fb_AR) => [fb_o12 za zr (upd (upd (upd ze 4 (nI (0 + 2))) 4 (nI ((0 + 2) + 2))) 4 (nI (((0 + 2) + 2) + 2))), fb_aw cI (zr 0) 16205 (upd (upd (upd (fr_m zt zk) (12109 + (zk % 4096)) ((zt (zk % 4096)) + (1 : Int32))) 8 (nI (zk + 1))) 4 (nI ((zk + 1) % 4096))), fb_aw cI (zr 3) 64 t]) X I [0, 1, 2] 3 rfl (by decide +kernel) rfl rfl [0, 1, 2] 3 (fun _ => rfl) (by decide +kernel) (fun _ => rfl) (fun _ => rfl) (fun I => fb_rV (As := [.int (4 : Int32), .int (nI ((zk + 1) % 4096))]) (rest := []) X hl (fb_goodV fw_2418 fw_2420 fw_142 fw_204 fw_2421) (c_put_l l D cI cJ za zr (upd (upd ze 4 (nI (0 + 2))) 4 (nI ((0 + 2) + 2))) (upd (upd (fr_m zt zk) (12109 + (zk % 4096)) ((zt (zk % 4096)) + (1 : Int32))) 8 (nI (zk + 1))) 4 (nI ((zk + 1) % 4096)) w2 ((0 + 2) + 2) _ (by omega) h5 rfl (by omega)) rfl rfl rfl (by decide +kernel : fb_hd yX12_put 2) ⟨Nat.le_of_ble_eq_true rfl, Nat.le_of_ble_eq_true rfl⟩ rfl rfl rfl rfl rfl (Nat.le_of_ble_eq_true rfl) ⟨Nat.zero_le _, Nat.zero_le _⟩ dX12_carryOut_60 I) ?_
  intro w3 H locs _ I
  have I : fb_In D A s.heap (([fb_o12 za zr (upd (upd (upd ze 4 (nI (0 + 2))) 4 (nI ((0 + 2) + 2))) 4 (nI (((0 + 2) + 2) + 2))), fb_aw cI (zr 0) 16205 (upd (upd (upd (fr_m zt zk) (12109 + (zk % 4096)) ((zt (zk % 4096)) + (1 : Int32))) 8 (nI (zk + 1))) 4 (nI ((zk + 1) % 4096))), fb_aw cI (zr 3) 64 w3] : List va_W).flatten) H locs := I
  refine lv_aload_n hx hb dX12_carryOut_63 rfl (lv_at hl 2 rfl) ?_
  refine lv_dup hx hb dX12_carryOut_64 rfl ?_
  refine fb_get X I (k := 6) (v := .int (ze 6)) fu_X12 0 fb_h12 rfl (Nat.le_of_ble_eq_true rfl) fw_1970 rfl rfl dX12_carryOut_65 ?_
  refine fb_tI (v := (0 : Int32)) h6 ?_
  refine lv_iload_n hx hb dX12_carryOut_68 rfl (lv_at hl 3 rfl) ?_
  refine fb_gO (cs := []) (rs := [fb_o12 za zr (upd (upd (upd ze 4 (nI (0 + 2))) 4 (nI ((0 + 2) + 2))) 4 (nI (((0 + 2) + 2) + 2))), fb_aw cI (zr 0) 16205 (upd (upd (upd (fr_m zt zk) (12109 + (zk % 4096)) ((zt (zk % 4096)) + (1 : Int32))) 8 (nI (zk + 1))) 4 (nI ((zk + 1) % 4096))), fb_aw cI (zr 3) 64 w3]) X I [0, 1, 2] 3 rfl (by decide +kernel) rfl rfl (fun I => fb_rS (As := [.int (0 : Int32)]) (rest := [.int (0 : Int32), .ref za]) X hl (fb_goodS fw_2499 fw_2500 fw_204 fw_2501) (c_X12_length l D cI cJ (0 : Int32) _) rfl rfl (by decide +kernel : fb_hd yX12_length 1) ⟨Nat.le_of_ble_eq_true rfl, Nat.le_of_ble_eq_true rfl⟩ rfl rfl (Nat.le_of_ble_eq_true rfl) ⟨Nat.le_of_ble_eq_true rfl, Nat.le_of_ble_eq_true rfl⟩ dX12_carryOut_69 I) ?_
  refine fb_tI (v := (1 : Int32)) (by decide) ?_
  refine lv_iadd hx hb dX12_carryOut_72 ?_
  refine fb_tI (v := (1 : Int32)) (by decide) ?_
  refine fb_put X I (k := 6) (wn := ([fb_o12 za zr (upd (upd (upd (upd ze 4 (nI (0 + 2))) 4 (nI ((0 + 2) + 2))) 4 (nI (((0 + 2) + 2) + 2))) 6 (1 : Int32)), fb_aw cI (zr 0) 16205 (upd (upd (upd (fr_m zt zk) (12109 + (zk % 4096)) ((zt (zk % 4096)) + (1 : Int32))) 8 (nI (zk + 1))) 4 (nI ((zk + 1) % 4096))), fb_aw cI (zr 3) 64 w3] : List va_W).flatten) fu_X12 tyX12 tyX12_ok nmX12 0 fb_h12 rfl (Nat.le_of_ble_eq_true rfl) fw_1970 rfl rfl rfl rfl rfl (Nat.le_of_ble_eq_true rfl) fb_r12_6 dX12_carryOut_73 (fun H locs I => ?_)
  refine lv_iload_n hx hb dX12_carryOut_76 rfl (lv_at hl 0 rfl) ?_
  refine lv_iconst (v := (4 : Int32)) hx hb dX12_carryOut_77 (by decide) ?_
  refine lv_icmp_ge (tgt := 90) hx hb dX12_carryOut_78 (by decide) (fun c4 => absurd c4 (by decide)) (fun _ => ?_)
  refine lv_aload_n hx hb dX12_carryOut_81 rfl (lv_at hl 2 rfl) ?_
  refine lv_iload_n hx hb dX12_carryOut_82 rfl (lv_at hl 3 rfl) ?_
  refine lv_iload_n hx hb dX12_carryOut_83 rfl (lv_at hl 1 rfl) ?_
  refine fb_gV (cs := [fb_o12 za zr (upd (upd (upd (upd ze 4 (nI (0 + 2))) 4 (nI ((0 + 2) + 2))) 4 (nI (((0 + 2) + 2) + 2))) 6 (1 : Int32))]) (rs := [fb_aw cI (zr 0) 16205 (upd (upd (upd (fr_m zt zk) (12109 + (zk % 4096)) ((zt (zk % 4096)) + (1 : Int32))) 8 (nI (zk + 1))) 4 (nI ((zk + 1) % 4096))), fb_aw cI (zr 3) 64 w3]) (fun (t : Unit) => [fb_o12 za zr (upd (upd (upd (upd ze 4 (nI (0 + 2))) 4 (nI ((0 + 2) + 2))) 4 (nI (((0 + 2) + 2) + 2))) 6 (1 : Int32)), fb_aw cI (zr 0) 16205 (upd (upd (upd (fr_m zt zk) (12109 + (zk % 4096)) ((zt (zk % 4096)) + (1 : Int32))) 8 (nI (zk + 1))) 4 (nI ((zk + 1) % 4096))), fb_aw cI (zr 3) 64 w3]) (fun (t : Unit) => [fb_o12 za zr (upd (upd (upd (upd ze 4 (nI (0 + 2))) 4 (nI ((0 + 2) + 2))) 4 (nI (((0 + 2) + 2) + 2))) 6 (1 : Int32))]) X I [0, 1, 2] 3 rfl (by decide +kernel) rfl rfl [0, 1, 2] 3 (fun _ => rfl) (by decide +kernel) (fun _ => rfl) (fun _ => rfl) (fun I => fb_rV (As := [.int (0 : Int32), .int (nI (zk % 4096))]) (rest := []) X hl (fb_goodV fw_2502 fw_2504 fw_161 fw_204 fw_2505) (c_plain0 l D cI cJ za zr (upd (upd (upd (upd ze 4 (nI (0 + 2))) 4 (nI ((0 + 2) + 2))) 4 (nI (((0 + 2) + 2) + 2))) 6 (1 : Int32)) (nI (zk % 4096)) _ ) rfl rfl rfl (by decide +kernel : fb_hd yX12_plain 2) ⟨Nat.le_of_ble_eq_true rfl, Nat.le_of_ble_eq_true rfl⟩ rfl rfl rfl rfl rfl (Nat.le_of_ble_eq_true rfl) ⟨Nat.zero_le _, Nat.zero_le _⟩ dX12_carryOut_84 I) ?_
  intro w5 H locs _ I
  have I : fb_In D A s.heap (([fb_o12 za zr (upd (upd (upd (upd ze 4 (nI (0 + 2))) 4 (nI ((0 + 2) + 2))) 4 (nI (((0 + 2) + 2) + 2))) 6 (1 : Int32)), fb_aw cI (zr 0) 16205 (upd (upd (upd (fr_m zt zk) (12109 + (zk % 4096)) ((zt (zk % 4096)) + (1 : Int32))) 8 (nI (zk + 1))) 4 (nI ((zk + 1) % 4096))), fb_aw cI (zr 3) 64 w3] : List va_W).flatten) H locs := I
  refine lv_goto (tgt := 165) hx hb dX12_carryOut_87 (by decide) ?_
  exact fb_retV (u := (w3)) X I trivial dX12_carryOut_165

set_option maxHeartbeats 4000000 in
set_option maxRecDepth 100000 in
theorem c_act_l (l : Launch) (D : va_G) (cI cJ : ClassId) (za : Nat) (zr : Nat → Nat) (ze : fb_AR) (zt : fb_AR) (zk : Nat) (zl : fb_AR) (sz : Nat) (hk : zk < 1000000) (h5 : ze 5 = (1 : Int32)) (h6 : ze 6 = (0 : Int32)) (h4 : ze 4 = (0 : Int32)) : Met l yX12_act (Cond.code yX12_act cX12_act 3 none :: fb_all) ({ frames := 4, cells := 0, slots := 0, locals := 101 } : Room) (fb_PP D (fb_ty D cI cJ) [.ref za] (([fb_o12 za zr ze, fb_aw cI (zr 0) 16205 (fr_m zt zk), fb_aw cI (zr 3) 64 zl] : List va_W).flatten) sz) (fb_QV D (va_A (([fb_o12 za zr ze, fb_aw cI (zr 0) 16205 (fr_m zt zk), fb_aw cI (zr 3) 64 zl] : List va_W).flatten) sz) (fun (_ : fb_AR) => True) (fun (t : fb_AR) => ([fb_o12 za zr (upd (upd (upd (upd ze 4 (nI (0 + 2))) 4 (nI ((0 + 2) + 2))) 4 (nI (((0 + 2) + 2) + 2))) 6 (1 : Int32)), fb_aw cI (zr 0) 16205 (upd (upd (upd (fr_m zt zk) (12109 + (zk % 4096)) ((zt (zk % 4096)) + (1 : Int32))) 8 (nI (zk + 1))) 4 (nI ((zk + 1) % 4096))), fb_aw cI (zr 3) 64 t] : List va_W).flatten)) 0 0 (va_A (([fb_o12 za zr ze, fb_aw cI (zr 0) 16205 (fr_m zt zk), fb_aw cI (zr 3) 64 zl] : List va_W).flatten) sz) := by
  refine fb_ent (Qf := fun A => (fb_QV D A (fun (_ : fb_AR) => True) (fun (t : fb_AR) => ([fb_o12 za zr (upd (upd (upd (upd ze 4 (nI (0 + 2))) 4 (nI ((0 + 2) + 2))) 4 (nI (((0 + 2) + 2) + 2))) 6 (1 : Int32)), fb_aw cI (zr 0) 16205 (upd (upd (upd (fr_m zt zk) (12109 + (zk % 4096)) ((zt (zk % 4096)) + (1 : Int32))) 8 (nI (zk + 1))) 4 (nI ((zk + 1) % 4096))), fb_aw cI (zr 3) 64 t] : List va_W).flatten))) (by decide +kernel) (Nat.le_of_ble_eq_true rfl) ?_
  intro p e s m args below meth c A ls X I hl hin
  obtain ⟨hx, hb, hr, hml, hown, hts, hlk, hA, hK, hF⟩ := id X
  have hl : lv_has ls 3 [(0, .ref za)] := hl
  refine lv_aload_n hx hb dX12_act_0 rfl (lv_at hl 0 rfl) ?_
  refine fb_get X I (k := 0) (v := .ref (zr 0)) fu_X12 0 fb_h12 rfl (Nat.le_of_ble_eq_true rfl) fw_1964 rfl rfl dX12_act_1 ?_
  refine lv_bipush (v := (6 : Int32)) hx hb dX12_act_4 (by decide) ?_
  refine fb_iaC (n := 6) (v := (0 : Int32)) X I 1 0 rfl rfl (by decide) (by decide) (Nat.le_of_ble_eq_true rfl) rfl dX12_act_6 ?_
  refine lv_iconst (v := (1 : Int32)) hx hb dX12_act_7 (by decide) ?_
  refine lv_icmp_ne (tgt := 24) hx hb dX12_act_8 (by decide) (fun _ => ?_) (fun c1 => absurd c1 (by decide))
  refine lv_aload_n hx hb dX12_act_24 rfl (lv_at hl 0 rfl) ?_
  refine fb_gO (cs := [fb_o12 za zr ze, fb_aw cI (zr 0) 16205 (fr_m zt zk)]) (rs := [fb_aw cI (zr 3) 64 zl]) X I [0, 1, 2] 3 rfl (by decide +kernel) rfl rfl (fun I => fb_rV (As := []) (rest := []) X hl (fb_goodV fw_2484 fw_2486 fw_158 fw_204 fw_2487) (c_lines l D cI cJ za zr ze (fr_m zt zk) _ rfl rfl) rfl rfl rfl (by decide +kernel : fb_hd yX12_lines 0) ⟨Nat.le_of_ble_eq_true rfl, Nat.le_of_ble_eq_true rfl⟩ rfl rfl rfl rfl rfl (Nat.le_of_ble_eq_true rfl) ⟨Nat.zero_le _, Nat.zero_le _⟩ dX12_act_25 I) ?_
  refine lv_istore_n (lv' := [(1, .int (0 : Int32)), (0, .ref za)]) hx hb dX12_act_28 rfl hl (by decide) rfl (fun ls hl => ?_)
  refine lv_iload_n hx hb dX12_act_29 rfl (lv_at hl 0 rfl) ?_
  refine lv_if_le (tgt := 65) hx hb dX12_act_30 (by decide) (fun _ => ?_) (fun c2 => absurd (by decide) c2)
  refine lv_aload_n hx hb dX12_act_65 rfl (lv_at hl 1 rfl) ?_
  refine fb_get X I (k := 0) (v := .ref (zr 0)) fu_X12 0 fb_h12 rfl (Nat.le_of_ble_eq_true rfl) fw_1964 rfl rfl dX12_act_66 ?_
  refine lv_iconst (v := (5 : Int32)) hx hb dX12_act_69 (by decide) ?_
  refine fb_iaC (n := 5) (v := (0 : Int32)) X I 1 0 rfl rfl (by decide) (by decide) (Nat.le_of_ble_eq_true rfl) rfl dX12_act_70 ?_
  refine lv_iconst (v := (1 : Int32)) hx hb dX12_act_71 (by decide) ?_
  refine lv_icmp_ne (tgt := 91) hx hb dX12_act_72 (by decide) (fun _ => ?_) (fun c3 => absurd c3 (by decide))
  refine lv_aload_n hx hb dX12_act_91 rfl (lv_at hl 1 rfl) ?_
  refine lv_aload_n hx hb dX12_act_92 rfl (lv_at hl 1 rfl) ?_
  refine fb_get X I (k := 0) (v := .ref (zr 0)) fu_X12 0 fb_h12 rfl (Nat.le_of_ble_eq_true rfl) fw_1964 rfl rfl dX12_act_93 ?_
  refine lv_iconst (v := (4 : Int32)) hx hb dX12_act_96 (by decide) ?_
  refine fb_iaC (n := 4) (v := (nI (zk % 4096))) X I 1 0 rfl rfl (by decide) (by decide) (Nat.le_of_ble_eq_true rfl) rfl dX12_act_97 ?_
  refine fb_gO (cs := [fb_o12 za zr ze, fb_aw cI (zr 0) 16205 (fr_m zt zk)]) (rs := [fb_aw cI (zr 3) 64 zl]) X I [0, 1, 2] 3 rfl (by decide +kernel) rfl rfl (fun I => fb_rV (As := [.int (nI (zk % 4096))]) (rest := []) X hl (fb_goodV fw_1949 fw_1951 fw_86 fw_204 fw_1952) (c_code l D cI cJ za zr ze (fr_m zt zk) (nI (zk % 4096)) _ (fr_hm _ _) rfl) rfl rfl rfl (by decide +kernel : fb_hd yX12_code 1) ⟨Nat.le_of_ble_eq_true rfl, Nat.le_of_ble_eq_true rfl⟩ rfl rfl rfl rfl rfl (Nat.le_of_ble_eq_true rfl) ⟨Nat.zero_le _, Nat.zero_le _⟩ dX12_act_98 I) ?_
  refine lv_istore_n (lv' := [(2, .int (0 : Int32)), (1, .int (0 : Int32)), (0, .ref za)]) hx hb dX12_act_101 rfl hl (by decide) rfl (fun ls hl => ?_)
  refine lv_iload_n hx hb dX12_act_102 rfl (lv_at hl 0 rfl) ?_
  refine fb_gO (cs := []) (rs := [fb_o12 za zr ze, fb_aw cI (zr 0) 16205 (fr_m zt zk), fb_aw cI (zr 3) 64 zl]) X I [0, 1, 2] 3 rfl (by decide +kernel) rfl rfl (fun I => fb_rS (As := [.int (0 : Int32)]) (rest := []) X hl (fb_goodS fw_2492 fw_2493 fw_204 fw_2494) (c_X12_isInstruction l D cI cJ (0 : Int32) _) rfl rfl (by decide +kernel : fb_hd yX12_isInstruction 1) ⟨Nat.le_of_ble_eq_true rfl, Nat.le_of_ble_eq_true rfl⟩ rfl rfl (Nat.le_of_ble_eq_true rfl) ⟨Nat.le_of_ble_eq_true rfl, Nat.le_of_ble_eq_true rfl⟩ dX12_act_103 I) ?_
  refine fb_tI (v := (1 : Int32)) (by decide) ?_
  refine lv_if_eq (tgt := 117) hx hb dX12_act_106 (by decide) (fun c4 => absurd c4 (by decide)) (fun _ => ?_)
  refine lv_aload_n hx hb dX12_act_109 rfl (lv_at hl 2 rfl) ?_
  refine lv_iload_n hx hb dX12_act_110 rfl (lv_at hl 0 rfl) ?_
  refine fb_gV (cs := [fb_o12 za zr ze, fb_aw cI (zr 0) 16205 (fr_m zt zk), fb_aw cI (zr 3) 64 zl]) (rs := []) (fun (t : fb_AR) => [fb_o12 za zr (upd (upd (upd (upd ze 4 (nI (0 + 2))) 4 (nI ((0 + 2) + 2))) 4 (nI (((0 + 2) + 2) + 2))) 6 (1 : Int32)), fb_aw cI (zr 0) 16205 (upd (upd (upd (fr_m zt zk) (12109 + (zk % 4096)) ((zt (zk % 4096)) + (1 : Int32))) 8 (nI (zk + 1))) 4 (nI ((zk + 1) % 4096))), fb_aw cI (zr 3) 64 t]) (fun (t : fb_AR) => [fb_o12 za zr (upd (upd (upd (upd ze 4 (nI (0 + 2))) 4 (nI ((0 + 2) + 2))) 4 (nI (((0 + 2) + 2) + 2))) 6 (1 : Int32)), fb_aw cI (zr 0) 16205 (upd (upd (upd (fr_m zt zk) (12109 + (zk % 4096)) ((zt (zk % 4096)) + (1 : Int32))) 8 (nI (zk + 1))) 4 (nI ((zk + 1) % 4096))), fb_aw cI (zr 3) 64 t]) X I [0, 1, 2] 3 rfl (by decide +kernel) rfl rfl [0, 1, 2] 3 (fun _ => rfl) (by decide +kernel) (fun _ => rfl) (fun _ => rfl) (fun I => fb_rV (As := [.int (0 : Int32)]) (rest := []) X hl (fb_goodV fw_2495 fw_2497 fw_160 fw_204 fw_2498) (c_carry_l l D cI cJ za zr ze zt zk zl _ (by omega) h5 h6 h4) rfl rfl rfl (by decide +kernel : fb_hd yX12_carryOut 1) ⟨Nat.le_of_ble_eq_true rfl, Nat.le_of_ble_eq_true rfl⟩ rfl rfl rfl rfl rfl (Nat.le_of_ble_eq_true rfl) ⟨Nat.zero_le _, Nat.zero_le _⟩ dX12_act_111 I) ?_
  intro w5 H locs _ I
  have I : fb_In D A s.heap (([fb_o12 za zr (upd (upd (upd (upd ze 4 (nI (0 + 2))) 4 (nI ((0 + 2) + 2))) 4 (nI (((0 + 2) + 2) + 2))) 6 (1 : Int32)), fb_aw cI (zr 0) 16205 (upd (upd (upd (fr_m zt zk) (12109 + (zk % 4096)) ((zt (zk % 4096)) + (1 : Int32))) 8 (nI (zk + 1))) 4 (nI ((zk + 1) % 4096))), fb_aw cI (zr 3) 64 w5] : List va_W).flatten) H locs := I
  refine lv_goto (tgt := 128) hx hb dX12_act_114 (by decide) ?_
  exact fb_retV (u := (w5)) X I trivial dX12_act_128

set_option maxHeartbeats 4000000 in
set_option maxRecDepth 100000 in
theorem c_one_l (l : Launch) (D : va_G) (cI cJ : ClassId) (za : Nat) (zr : Nat → Nat) (ze : fb_AR) (zt : fb_AR) (zk : Nat) (zl : fb_AR) (sz : Nat) (hk : zk < 1000000) (h5 : ze 5 = (1 : Int32)) : Met l yX12_one (Cond.code yX12_one cX12_one 2 (some .int) :: fb_all) ({ frames := 5, cells := 0, slots := 0, locals := 123 } : Room) (fb_PP D (fb_ty D cI cJ) [.ref za] (([fb_o12 za zr ze, fb_aw cI (zr 0) 16205 (fr_m zt zk), fb_aw cI (zr 3) 64 zl] : List va_W).flatten) sz) (fb_QI D (va_A (([fb_o12 za zr ze, fb_aw cI (zr 0) 16205 (fr_m zt zk), fb_aw cI (zr 3) 64 zl] : List va_W).flatten) sz) (fun (r : Int32) (_ : fb_AR × fb_AR) => r = (1 : Int32)) (fun (t : fb_AR × fb_AR) => ([fb_o12 za zr (upd (upd (upd (upd (upd (upd (upd (upd ze 6 (0 : Int32)) 7 (0 : Int32)) 4 (0 : Int32)) 4 (nI (0 + 2))) 4 (nI ((0 + 2) + 2))) 4 (nI (((0 + 2) + 2) + 2))) 6 (1 : Int32)) 4 (nI ((((0 + 2) + 2) + 2) + 2))), fb_aw cI (zr 0) 16205 (fr_m (t.1) (zk + 1)), fb_aw cI (zr 3) 64 (t.2)] : List va_W).flatten)) 0 0 (va_A (([fb_o12 za zr ze, fb_aw cI (zr 0) 16205 (fr_m zt zk), fb_aw cI (zr 3) 64 zl] : List va_W).flatten) sz) := by
  refine fb_ent (Qf := fun A => (fb_QI D A (fun (r : Int32) (_ : fb_AR × fb_AR) => r = (1 : Int32)) (fun (t : fb_AR × fb_AR) => ([fb_o12 za zr (upd (upd (upd (upd (upd (upd (upd (upd ze 6 (0 : Int32)) 7 (0 : Int32)) 4 (0 : Int32)) 4 (nI (0 + 2))) 4 (nI ((0 + 2) + 2))) 4 (nI (((0 + 2) + 2) + 2))) 6 (1 : Int32)) 4 (nI ((((0 + 2) + 2) + 2) + 2))), fb_aw cI (zr 0) 16205 (fr_m (t.1) (zk + 1)), fb_aw cI (zr 3) 64 (t.2)] : List va_W).flatten))) (by decide +kernel) (Nat.le_of_ble_eq_true rfl) ?_
  intro p e s m args below meth c A ls X I hl hin
  obtain ⟨hx, hb, hr, hml, hown, hts, hlk, hA, hK, hF⟩ := id X
  have hl : lv_has ls 2 [(0, .ref za)] := hl
  refine lv_aload_n hx hb dX12_one_0 rfl (lv_at hl 0 rfl) ?_
  refine lv_iconst (v := (0 : Int32)) hx hb dX12_one_1 (by decide) ?_
  refine fb_put X I (k := 6) (wn := ([fb_o12 za zr (upd ze 6 (0 : Int32)), fb_aw cI (zr 0) 16205 (fr_m zt zk), fb_aw cI (zr 3) 64 zl] : List va_W).flatten) fu_X12 tyX12 tyX12_ok nmX12 0 fb_h12 rfl (Nat.le_of_ble_eq_true rfl) fw_1970 rfl rfl rfl rfl rfl (Nat.le_of_ble_eq_true rfl) fb_r12_6 dX12_one_2 (fun H locs I => ?_)
  refine lv_aload_n hx hb dX12_one_5 rfl (lv_at hl 0 rfl) ?_
  refine lv_iconst (v := (0 : Int32)) hx hb dX12_one_6 (by decide) ?_
  refine fb_put X I (k := 7) (wn := ([fb_o12 za zr (upd (upd ze 6 (0 : Int32)) 7 (0 : Int32)), fb_aw cI (zr 0) 16205 (fr_m zt zk), fb_aw cI (zr 3) 64 zl] : List va_W).flatten) fu_X12 tyX12 tyX12_ok nmX12 0 fb_h12 rfl (Nat.le_of_ble_eq_true rfl) fw_1971 rfl rfl rfl rfl rfl (Nat.le_of_ble_eq_true rfl) fb_r12_7 dX12_one_7 (fun H locs I => ?_)
  refine lv_aload_n hx hb dX12_one_10 rfl (lv_at hl 0 rfl) ?_
  refine fb_gO (cs := [fb_o12 za zr (upd (upd ze 6 (0 : Int32)) 7 (0 : Int32)), fb_aw cI (zr 0) 16205 (fr_m zt zk)]) (rs := [fb_aw cI (zr 3) 64 zl]) X I [0, 1, 2] 3 rfl (by decide +kernel) rfl rfl (fun I => fb_rV (As := []) (rest := []) X hl (fb_goodV fw_2406 fw_2408 fw_139 fw_204 fw_2409) (c_isOver l D cI cJ za zr (upd (upd ze 6 (0 : Int32)) 7 (0 : Int32)) (fr_m zt zk) _ rfl) rfl rfl rfl (by decide +kernel : fb_hd yX12_isOver 0) ⟨Nat.le_of_ble_eq_true rfl, Nat.le_of_ble_eq_true rfl⟩ rfl rfl rfl rfl rfl (Nat.le_of_ble_eq_true rfl) ⟨Nat.zero_le _, Nat.zero_le _⟩ dX12_one_11 I) ?_
  refine lv_if_eq (tgt := 19) hx hb dX12_one_14 (by decide) (fun _ => ?_) (fun c1 => absurd (by decide) c1)
  refine lv_aload_n hx hb dX12_one_19 rfl (lv_at hl 0 rfl) ?_
  refine lv_iconst (v := (0 : Int32)) hx hb dX12_one_20 (by decide) ?_
  refine fb_put X I (k := 4) (wn := ([fb_o12 za zr (upd (upd (upd ze 6 (0 : Int32)) 7 (0 : Int32)) 4 (0 : Int32)), fb_aw cI (zr 0) 16205 (fr_m zt zk), fb_aw cI (zr 3) 64 zl] : List va_W).flatten) fu_X12 tyX12 tyX12_ok nmX12 0 fb_h12 rfl (Nat.le_of_ble_eq_true rfl) fw_1968 rfl rfl rfl rfl rfl (Nat.le_of_ble_eq_true rfl) fb_r12_4 dX12_one_21 (fun H locs I => ?_)
  refine lv_aload_n hx hb dX12_one_24 rfl (lv_at hl 0 rfl) ?_
  refine fb_gV (cs := [fb_o12 za zr (upd (upd (upd ze 6 (0 : Int32)) 7 (0 : Int32)) 4 (0 : Int32)), fb_aw cI (zr 0) 16205 (fr_m zt zk), fb_aw cI (zr 3) 64 zl]) (rs := []) (fun (t : fb_AR) => [fb_o12 za zr (upd (upd (upd (upd (upd (upd (upd ze 6 (0 : Int32)) 7 (0 : Int32)) 4 (0 : Int32)) 4 (nI (0 + 2))) 4 (nI ((0 + 2) + 2))) 4 (nI (((0 + 2) + 2) + 2))) 6 (1 : Int32)), fb_aw cI (zr 0) 16205 (upd (upd (upd (fr_m zt zk) (12109 + (zk % 4096)) ((zt (zk % 4096)) + (1 : Int32))) 8 (nI (zk + 1))) 4 (nI ((zk + 1) % 4096))), fb_aw cI (zr 3) 64 t]) (fun (t : fb_AR) => [fb_o12 za zr (upd (upd (upd (upd (upd (upd (upd ze 6 (0 : Int32)) 7 (0 : Int32)) 4 (0 : Int32)) 4 (nI (0 + 2))) 4 (nI ((0 + 2) + 2))) 4 (nI (((0 + 2) + 2) + 2))) 6 (1 : Int32)), fb_aw cI (zr 0) 16205 (upd (upd (upd (fr_m zt zk) (12109 + (zk % 4096)) ((zt (zk % 4096)) + (1 : Int32))) 8 (nI (zk + 1))) 4 (nI ((zk + 1) % 4096))), fb_aw cI (zr 3) 64 t]) X I [0, 1, 2] 3 rfl (by decide +kernel) rfl rfl [0, 1, 2] 3 (fun _ => rfl) (by decide +kernel) (fun _ => rfl) (fun _ => rfl) (fun I => fb_rV (As := []) (rest := []) X hl (fb_goodV fw_2414 fw_2416 fw_141 fw_204 fw_2417) (c_act_l l D cI cJ za zr (upd (upd (upd ze 6 (0 : Int32)) 7 (0 : Int32)) 4 (0 : Int32)) zt zk zl _ (by omega) h5 rfl rfl) rfl rfl rfl (by decide +kernel : fb_hd yX12_act 0) ⟨Nat.le_of_ble_eq_true rfl, Nat.le_of_ble_eq_true rfl⟩ rfl rfl rfl rfl rfl (Nat.le_of_ble_eq_true rfl) ⟨Nat.zero_le _, Nat.zero_le _⟩ dX12_one_25 I) ?_
  intro w2 H locs _ I
  have I : fb_In D A s.heap (([fb_o12 za zr (upd (upd (upd (upd (upd (upd (upd ze 6 (0 : Int32)) 7 (0 : Int32)) 4 (0 : Int32)) 4 (nI (0 + 2))) 4 (nI ((0 + 2) + 2))) 4 (nI (((0 + 2) + 2) + 2))) 6 (1 : Int32)), fb_aw cI (zr 0) 16205 (upd (upd (upd (fr_m zt zk) (12109 + (zk % 4096)) ((zt (zk % 4096)) + (1 : Int32))) 8 (nI (zk + 1))) 4 (nI ((zk + 1) % 4096))), fb_aw cI (zr 3) 64 w2] : List va_W).flatten) H locs := I
  refine lv_iconst (v := (0 : Int32)) hx hb dX12_one_28 (by decide) ?_
  refine lv_istore_n (lv' := [(1, .int (0 : Int32)), (0, .ref za)]) hx hb dX12_one_29 rfl hl (by decide) rfl (fun ls hl => ?_)
  refine lv_iload_n hx hb dX12_one_30 rfl (lv_at hl 0 rfl) ?_
  refine lv_aload_n hx hb dX12_one_31 rfl (lv_at hl 1 rfl) ?_
  refine fb_get X I (k := 6) (v := .int (1 : Int32)) fu_X12 0 fb_h12 rfl (Nat.le_of_ble_eq_true rfl) fw_1970 rfl rfl dX12_one_32 ?_
  refine lv_icmp_ge (tgt := 48) hx hb dX12_one_35 (by decide) (fun c3 => absurd c3 (by decide)) (fun _ => ?_)
  refine lv_aload_n hx hb dX12_one_38 rfl (lv_at hl 1 rfl) ?_
  refine fb_gV (cs := [fb_o12 za zr (upd (upd (upd (upd (upd (upd (upd ze 6 (0 : Int32)) 7 (0 : Int32)) 4 (0 : Int32)) 4 (nI (0 + 2))) 4 (nI ((0 + 2) + 2))) 4 (nI (((0 + 2) + 2) + 2))) 6 (1 : Int32)), fb_aw cI (zr 0) 16205 (upd (upd (upd (fr_m zt zk) (12109 + (zk % 4096)) ((zt (zk % 4096)) + (1 : Int32))) 8 (nI (zk + 1))) 4 (nI ((zk + 1) % 4096)))]) (rs := [fb_aw cI (zr 3) 64 w2]) (fun (t : Unit) => [fb_o12 za zr (upd (upd (upd (upd (upd (upd (upd ze 6 (0 : Int32)) 7 (0 : Int32)) 4 (0 : Int32)) 4 (nI (0 + 2))) 4 (nI ((0 + 2) + 2))) 4 (nI (((0 + 2) + 2) + 2))) 6 (1 : Int32)), fb_aw cI (zr 0) 16205 (upd (upd (upd (fr_m zt zk) (12109 + (zk % 4096)) ((zt (zk % 4096)) + (1 : Int32))) 8 (nI (zk + 1))) 4 (nI ((zk + 1) % 4096))), fb_aw cI (zr 3) 64 w2]) (fun (t : Unit) => [fb_o12 za zr (upd (upd (upd (upd (upd (upd (upd ze 6 (0 : Int32)) 7 (0 : Int32)) 4 (0 : Int32)) 4 (nI (0 + 2))) 4 (nI ((0 + 2) + 2))) 4 (nI (((0 + 2) + 2) + 2))) 6 (1 : Int32)), fb_aw cI (zr 0) 16205 (upd (upd (upd (fr_m zt zk) (12109 + (zk % 4096)) ((zt (zk % 4096)) + (1 : Int32))) 8 (nI (zk + 1))) 4 (nI ((zk + 1) % 4096)))]) X I [0, 1, 2] 3 rfl (by decide +kernel) rfl rfl [0, 1, 2] 3 (fun _ => rfl) (by decide +kernel) (fun _ => rfl) (fun _ => rfl) (fun I => fb_rV (As := []) (rest := []) X hl (fb_goodV fw_2558 fw_2560 fw_175 fw_204 fw_2561) (c_tick l D cI cJ za zr (upd (upd (upd (upd (upd (upd (upd ze 6 (0 : Int32)) 7 (0 : Int32)) 4 (0 : Int32)) 4 (nI (0 + 2))) 4 (nI ((0 + 2) + 2))) 4 (nI (((0 + 2) + 2) + 2))) 6 (1 : Int32)) (upd (upd (upd (fr_m zt zk) (12109 + (zk % 4096)) ((zt (zk % 4096)) + (1 : Int32))) 8 (nI (zk + 1))) 4 (nI ((zk + 1) % 4096))) _ ((pk_un (by decide)).trans ((pk_un (by decide)).trans ((pk_un (by omega)).trans rfl)))) rfl rfl rfl (by decide +kernel : fb_hd yX12_tick 0) ⟨Nat.le_of_ble_eq_true rfl, Nat.le_of_ble_eq_true rfl⟩ rfl rfl rfl rfl rfl (Nat.le_of_ble_eq_true rfl) ⟨Nat.zero_le _, Nat.zero_le _⟩ dX12_one_39 I) ?_
  intro w4 H locs _ I
  have I : fb_In D A s.heap (([fb_o12 za zr (upd (upd (upd (upd (upd (upd (upd ze 6 (0 : Int32)) 7 (0 : Int32)) 4 (0 : Int32)) 4 (nI (0 + 2))) 4 (nI ((0 + 2) + 2))) 4 (nI (((0 + 2) + 2) + 2))) 6 (1 : Int32)), fb_aw cI (zr 0) 16205 (upd (upd (upd (fr_m zt zk) (12109 + (zk % 4096)) ((zt (zk % 4096)) + (1 : Int32))) 8 (nI (zk + 1))) 4 (nI ((zk + 1) % 4096))), fb_aw cI (zr 3) 64 w2] : List va_W).flatten) H locs := I
  refine lv_iinc (v := (1 : Int32)) (lv' := [(1, .int (1 : Int32)), (0, .ref za)]) hx hb dX12_one_42 hl (k := 0) rfl (by decide) (by decide) rfl (fun ls hl => ?_)
  refine lv_goto (tgt := 30) hx hb dX12_one_45 (by decide) ?_
  refine lv_iload_n hx hb dX12_one_30 rfl (lv_at hl 0 rfl) ?_
  refine lv_aload_n hx hb dX12_one_31 rfl (lv_at hl 1 rfl) ?_
  refine fb_get X I (k := 6) (v := .int (1 : Int32)) fu_X12 0 fb_h12 rfl (Nat.le_of_ble_eq_true rfl) fw_1970 rfl rfl dX12_one_32 ?_
  refine lv_icmp_ge (tgt := 48) hx hb dX12_one_35 (by decide) (fun _ => ?_) (fun c5 => absurd (by decide) c5)
  refine lv_aload_n hx hb dX12_one_48 rfl (lv_at hl 1 rfl) ?_
  refine lv_bipush (v := (7 : Int32)) hx hb dX12_one_49 (by decide) ?_
  refine lv_aload_n hx hb dX12_one_51 rfl (lv_at hl 1 rfl) ?_
  refine fb_get X I (k := 0) (v := .ref (zr 0)) fu_X12 0 fb_h12 rfl (Nat.le_of_ble_eq_true rfl) fw_1964 rfl rfl dX12_one_52 ?_
  refine lv_bipush (v := (7 : Int32)) hx hb dX12_one_55 (by decide) ?_
  refine fb_iaC (n := 7) (v := (nI zk)) X I 1 0 rfl rfl (by decide) (by decide) (Nat.le_of_ble_eq_true rfl) ((pk_un (by decide)).trans ((pk_un (by decide)).trans ((pk_un (by omega)).trans rfl))) dX12_one_57 ?_
  refine lv_aload_n hx hb dX12_one_58 rfl (lv_at hl 1 rfl) ?_
  refine fb_get X I (k := 6) (v := .int (1 : Int32)) fu_X12 0 fb_h12 rfl (Nat.le_of_ble_eq_true rfl) fw_1970 rfl rfl dX12_one_59 ?_
  refine lv_iadd hx hb dX12_one_62 ?_
  refine fb_tI (v := (nI (zk + 1))) (nI_add zk 1) ?_
  refine fb_gV (cs := [fb_o12 za zr (upd (upd (upd (upd (upd (upd (upd ze 6 (0 : Int32)) 7 (0 : Int32)) 4 (0 : Int32)) 4 (nI (0 + 2))) 4 (nI ((0 + 2) + 2))) 4 (nI (((0 + 2) + 2) + 2))) 6 (1 : Int32)), fb_aw cI (zr 0) 16205 (upd (upd (upd (fr_m zt zk) (12109 + (zk % 4096)) ((zt (zk % 4096)) + (1 : Int32))) 8 (nI (zk + 1))) 4 (nI ((zk + 1) % 4096))), fb_aw cI (zr 3) 64 w2]) (rs := []) (fun (t : fb_AR) => [fb_o12 za zr (upd (upd (upd (upd (upd (upd (upd (upd ze 6 (0 : Int32)) 7 (0 : Int32)) 4 (0 : Int32)) 4 (nI (0 + 2))) 4 (nI ((0 + 2) + 2))) 4 (nI (((0 + 2) + 2) + 2))) 6 (1 : Int32)) 4 (nI ((((0 + 2) + 2) + 2) + 2))), fb_aw cI (zr 0) 16205 (upd (upd (upd (upd (fr_m zt zk) (12109 + (zk % 4096)) ((zt (zk % 4096)) + (1 : Int32))) 8 (nI (zk + 1))) 4 (nI ((zk + 1) % 4096))) 7 (nI (zk + 1))), fb_aw cI (zr 3) 64 t]) (fun (t : fb_AR) => [fb_o12 za zr (upd (upd (upd (upd (upd (upd (upd (upd ze 6 (0 : Int32)) 7 (0 : Int32)) 4 (0 : Int32)) 4 (nI (0 + 2))) 4 (nI ((0 + 2) + 2))) 4 (nI (((0 + 2) + 2) + 2))) 6 (1 : Int32)) 4 (nI ((((0 + 2) + 2) + 2) + 2))), fb_aw cI (zr 0) 16205 (upd (upd (upd (upd (fr_m zt zk) (12109 + (zk % 4096)) ((zt (zk % 4096)) + (1 : Int32))) 8 (nI (zk + 1))) 4 (nI ((zk + 1) % 4096))) 7 (nI (zk + 1))), fb_aw cI (zr 3) 64 t]) X I [0, 1, 2] 3 rfl (by decide +kernel) rfl rfl [0, 1, 2] 3 (fun _ => rfl) (by decide +kernel) (fun _ => rfl) (fun _ => rfl) (fun I => fb_rV (As := [.int (7 : Int32), .int (nI (zk + 1))]) (rest := []) X hl (fb_goodV fw_2418 fw_2420 fw_142 fw_204 fw_2421) (c_put_l l D cI cJ za zr (upd (upd (upd (upd (upd (upd (upd ze 6 (0 : Int32)) 7 (0 : Int32)) 4 (0 : Int32)) 4 (nI (0 + 2))) 4 (nI ((0 + 2) + 2))) 4 (nI (((0 + 2) + 2) + 2))) 6 (1 : Int32)) (upd (upd (upd (fr_m zt zk) (12109 + (zk % 4096)) ((zt (zk % 4096)) + (1 : Int32))) 8 (nI (zk + 1))) 4 (nI ((zk + 1) % 4096))) 7 (nI (zk + 1)) w2 (((0 + 2) + 2) + 2) _ (by omega) h5 rfl (by omega)) rfl rfl rfl (by decide +kernel : fb_hd yX12_put 2) ⟨Nat.le_of_ble_eq_true rfl, Nat.le_of_ble_eq_true rfl⟩ rfl rfl rfl rfl rfl (Nat.le_of_ble_eq_true rfl) ⟨Nat.zero_le _, Nat.zero_le _⟩ dX12_one_63 I) ?_
  intro w6 H locs _ I
  have I : fb_In D A s.heap (([fb_o12 za zr (upd (upd (upd (upd (upd (upd (upd (upd ze 6 (0 : Int32)) 7 (0 : Int32)) 4 (0 : Int32)) 4 (nI (0 + 2))) 4 (nI ((0 + 2) + 2))) 4 (nI (((0 + 2) + 2) + 2))) 6 (1 : Int32)) 4 (nI ((((0 + 2) + 2) + 2) + 2))), fb_aw cI (zr 0) 16205 (upd (upd (upd (upd (fr_m zt zk) (12109 + (zk % 4096)) ((zt (zk % 4096)) + (1 : Int32))) 8 (nI (zk + 1))) 4 (nI ((zk + 1) % 4096))) 7 (nI (zk + 1))), fb_aw cI (zr 3) 64 w6] : List va_W).flatten) H locs := I
  have I : fb_In D A s.heap (([fb_o12 za zr (upd (upd (upd (upd (upd (upd (upd (upd ze 6 (0 : Int32)) 7 (0 : Int32)) 4 (0 : Int32)) 4 (nI (0 + 2))) 4 (nI ((0 + 2) + 2))) 4 (nI (((0 + 2) + 2) + 2))) 6 (1 : Int32)) 4 (nI ((((0 + 2) + 2) + 2) + 2))), fb_aw cI (zr 0) 16205 (fr_m (upd zt (zk % 4096) ((zt (zk % 4096)) + (1 : Int32))) (zk + 1)), fb_aw cI (zr 3) 64 w6] : List va_W).flatten) H locs := fb_In.row I 1 rfl (fun j _ => fr_step _ _ _ j) rfl
  obtain ⟨w7, ew7⟩ : ∃ z : fb_AR, (upd zt (zk % 4096) ((zt (zk % 4096)) + (1 : Int32))) = z := ⟨_, rfl⟩
  rw [ew7] at I
  refine lv_aload_n hx hb dX12_one_66 rfl (lv_at hl 1 rfl) ?_
  refine fb_get X I (k := 6) (v := .int (1 : Int32)) fu_X12 0 fb_h12 rfl (Nat.le_of_ble_eq_true rfl) fw_1970 rfl rfl dX12_one_67 ?_
  exact fb_retI (u := (w7, w6)) X I rfl rfl dX12_one_70

