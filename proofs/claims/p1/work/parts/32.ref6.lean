/-! the reference along a fresh object's road, laid by ref.py -/
theorem fr_kn {ze zq : fb_AR} (ik : ∀ k, ¬ k = 4 → ¬ k = 6 → ¬ k = 7 → zq k = ze k) (a b c d : Int32) : ∀ k, ¬ k = 4 → ¬ k = 6 → ¬ k = 7 → upd (upd (upd (upd zq 6 a) 7 b) 4 c) 6 d k = ze k := fun k h4 h6 h7 => by
  rw [pk_un h6, pk_un h4, pk_un h7, pk_un h6]; exact ik k h4 h6 h7

set_option maxHeartbeats 4000000 in
set_option maxRecDepth 100000 in
theorem c_trial (l : Launch) (D : va_G) (cI cJ : ClassId) (za : Nat) (zr : Nat → Nat) (ze : fb_AR) (zm : fb_AR) (sz : Nat)  : Met l yX12_trial (Cond.code yX12_trial cX12_trial 2 (some (.array .int)) :: fb_all) ({ frames := 1, cells := 1, slots := 16205, locals := 60 } : Room) (fb_PP D (fb_ty D cI cJ) [.ref za] (([fb_o12 za zr ze, fb_aw cI (zr 0) 16205 zm] : List va_W).flatten) sz) (fb_QR D (va_A (([fb_o12 za zr ze, fb_aw cI (zr 0) 16205 zm] : List va_W).flatten) sz) (fun (_ : Nat) => True) (fun (t : Nat) (rr : Nat) => ([fb_o12 za (va_up zr 0 t) ze, fb_aw cI rr 16205 zm, fb_aw cI t 16205 zm] : List va_W).flatten)) 1 16205 (va_A (([fb_o12 za zr ze, fb_aw cI (zr 0) 16205 zm] : List va_W).flatten) sz) := by
  refine fb_ent (Qf := fun A => (fb_QR D A (fun (_ : Nat) => True) (fun (t : Nat) (rr : Nat) => ([fb_o12 za (va_up zr 0 t) ze, fb_aw cI rr 16205 zm, fb_aw cI t 16205 zm] : List va_W).flatten))) (by decide +kernel) (Nat.le_of_ble_eq_true rfl) ?_
  intro p e s m args below meth c A ls X I hl hin
  obtain ⟨hx, hb, hr, hml, hown, hts, hlk, hA, hK, hF⟩ := id X
  have hl : lv_has ls 2 [(0, .ref za)] := hl
  refine lv_aload_n hx hb dX12_trial_0 rfl (lv_at hl 0 rfl) ?_
  refine fb_get X I (k := 0) (v := .ref (zr 0)) fu_X12 0 fb_h12 rfl (Nat.le_of_ble_eq_true rfl) fw_1964 rfl rfl dX12_trial_1 ?_
  refine lv_astore_n (lv' := [(1, .ref (zr 0)), (0, .ref za)]) hx hb dX12_trial_4 rfl hl (by decide) rfl (fun ls hl => ?_)
  refine lv_aload_n hx hb dX12_trial_5 rfl (lv_at hl 1 rfl) ?_
  refine lv_sipush (v := (16205 : Int32)) hx hb dX12_trial_6 (by decide) ?_
  refine fb_nI (N := 16205) X I fw_261 (by decide) (Nat.le_of_ble_eq_true rfl) (Nat.le_of_ble_eq_true rfl) (Nat.le_of_ble_eq_true rfl) dX12_trial_9 (fun x1 H I => ?_)
  have I : fb_In D A s.heap (([fb_o12 za zr ze, fb_aw cI (zr 0) 16205 zm, fb_aw cI x1 16205 (fun _ => 0)] : List va_W).flatten) H _ := I
  refine fb_put X I (k := 0) (wn := ([fb_o12 za (va_up zr 0 x1) ze, fb_aw cI (zr 0) 16205 zm, fb_aw cI x1 16205 (fun _ => 0)] : List va_W).flatten) fu_X12 tyX12 tyX12_ok nmX12 0 fb_h12 rfl (Nat.le_of_ble_eq_true rfl) fw_1964 rfl rfl rfl rfl rfl (Nat.le_of_ble_eq_true rfl) fb_r12_0 dX12_trial_11 (fun H locs I => ?_)
  refine lv_aload_n hx hb dX12_trial_14 rfl (lv_at hl 0 rfl) ?_
  refine lv_iconst (v := (0 : Int32)) hx hb dX12_trial_15 (by decide) ?_
  refine lv_aload_n hx hb dX12_trial_16 rfl (lv_at hl 1 rfl) ?_
  refine fb_get X I (k := 0) (v := .ref x1) fu_X12 0 fb_h12 rfl (Nat.le_of_ble_eq_true rfl) fw_1964 rfl rfl dX12_trial_17 ?_
  refine lv_iconst (v := (0 : Int32)) hx hb dX12_trial_20 (by decide) ?_
  refine lv_sipush (v := (16205 : Int32)) hx hb dX12_trial_21 (by decide) ?_
  refine fb_copyA (wn := ([fb_o12 za (va_up zr 0 x1) ze, fb_aw cI (zr 0) 16205 zm, fb_aw cI x1 16205 zm] : List va_W).flatten) X I hl fw_2337 fw_1131 fw_1130 fw_216 1 2 0 0 rfl rfl rfl rfl (by decide) rfl (Nat.le_of_ble_eq_true rfl) (Nat.le_of_ble_eq_true rfl) dX12_trial_24 (fun H locs I => ?_)
  refine lv_aload_n hx hb dX12_trial_27 rfl (lv_at hl 0 rfl) ?_
  refine W.widen (k := 1) (n := 16205) (by omega) (by omega) ?_
  exact fb_retR (u := (x1)) X I trivial (by first | exact Or.inl ⟨_, rfl⟩ | exact Or.inr ⟨_, rfl⟩) dX12_trial_28

set_option maxHeartbeats 4000000 in
set_option maxRecDepth 100000 in
theorem b_ahead_2 {p : Program} {l : Launch} {e : Env} {s : State} {m : MethodId} {args : Array Value} {below : List Frame} {meth : Method} {c : Code} {D : va_G} {cI cJ : ClassId} {A : Nat → Prop} {za : Nat} {zr : Nat → Nat} {ze : fb_AR} {zt : fb_AR} {zN : Nat}  (X : fb_Bx p s m args meth c cX12_ahead RX12 3 none D (fb_ty D cI cJ) A) (hN : 1 ≤ zN ∧ zN ≤ 5000) (h5 : ze 5 = (0 : Int32))  : ∀ (n zi : Nat) (hn : zi + n = zN) (zq : fb_AR) (zu : fb_AR) (ik : ∀ k, ¬ k = 4 → ¬ k = 6 → ¬ k = 7 → zq k = ze k) (H : Heap) (locs : List Loc) (ls : Array Slot) (I : fb_In D A s.heap (([fb_o12 za zr zq, fb_aw cI (zr 0) 16205 (fr_m zu zi)] : List va_W).flatten) H locs) (hl : lv_has ls 3 [(2, .int (nI zi)), (1, .int (nI zN)), (0, .ref za)]), W p l e ({ frames := 6, cells := 0, slots := 0, locals := 144 } : Room) s m args below meth c H locs (0) (0) (MQ below (fb_QV D A (fun (t : fb_AR × fb_AR) => ∀ k, ¬ k = 4 → ¬ k = 6 → ¬ k = 7 → (t.1) k = ze k) (fun (t : fb_AR × fb_AR) => ([fb_o12 za zr (t.1), fb_aw cI (zr 0) 16205 (fr_m (t.2) zN)] : List va_W).flatten)) args s 0 0 A) (F0 m 2 ls []) := by
  intro n
  obtain ⟨hx, hb, hr, hml, hown, hts, hlk, hA, hK, hF⟩ := id X
  induction n with
  | zero =>
    intro zi hn zq zu ik H locs ls I hl
    have ziE : zN = zi := by omega
    subst ziE
    refine lv_aload_n hx hb dX12_ahead_2 rfl (lv_at hl 2 rfl) ?_
    refine fb_gO (cs := [fb_o12 za zr zq, fb_aw cI (zr 0) 16205 (fr_m zu zN)]) (rs := []) X I [0, 1] 2 rfl (by decide +kernel) rfl rfl (fun I => fb_rV (As := []) (rest := []) X hl (fb_goodV fw_2406 fw_2408 fw_139 fw_204 fw_2409) (c_isOver l D cI cJ za zr zq (fr_m zu zN) _ rfl) rfl rfl rfl (by decide +kernel : fb_hd yX12_isOver 0) ⟨Nat.le_of_ble_eq_true rfl, Nat.le_of_ble_eq_true rfl⟩ rfl rfl rfl rfl rfl (Nat.le_of_ble_eq_true rfl) ⟨Nat.zero_le _, Nat.zero_le _⟩ dX12_ahead_3 I) ?_
    refine lv_if_ne (tgt := 24) hx hb dX12_ahead_6 (by decide) (fun c1 => absurd (by decide) c1) (fun _ => ?_)
    refine lv_iload_n hx hb dX12_ahead_9 rfl (lv_at hl 0 rfl) ?_
    refine lv_iload_n hx hb dX12_ahead_10 rfl (lv_at hl 1 rfl) ?_
    refine lv_icmp_ge (tgt := 24) hx hb dX12_ahead_11 (by decide) (fun _ => ?_) (fun c2 => absurd (nI_le (a := zN) (b := zN) (by omega) (by omega)) c2)
    exact fb_retV (u := (zq, zu)) X I ik dX12_ahead_24
  | succ n ih =>
    intro zi hn zq zu ik H locs ls I hl
    have ziL : zi < zN := by omega
    refine lv_aload_n hx hb dX12_ahead_2 rfl (lv_at hl 2 rfl) ?_
    refine fb_gO (cs := [fb_o12 za zr zq, fb_aw cI (zr 0) 16205 (fr_m zu zi)]) (rs := []) X I [0, 1] 2 rfl (by decide +kernel) rfl rfl (fun I => fb_rV (As := []) (rest := []) X hl (fb_goodV fw_2406 fw_2408 fw_139 fw_204 fw_2409) (c_isOver l D cI cJ za zr zq (fr_m zu zi) _ rfl) rfl rfl rfl (by decide +kernel : fb_hd yX12_isOver 0) ⟨Nat.le_of_ble_eq_true rfl, Nat.le_of_ble_eq_true rfl⟩ rfl rfl rfl rfl rfl (Nat.le_of_ble_eq_true rfl) ⟨Nat.zero_le _, Nat.zero_le _⟩ dX12_ahead_3 I) ?_
    refine lv_if_ne (tgt := 24) hx hb dX12_ahead_6 (by decide) (fun c3 => absurd (by decide) c3) (fun _ => ?_)
    refine lv_iload_n hx hb dX12_ahead_9 rfl (lv_at hl 0 rfl) ?_
    refine lv_iload_n hx hb dX12_ahead_10 rfl (lv_at hl 1 rfl) ?_
    refine lv_icmp_ge (tgt := 24) hx hb dX12_ahead_11 (by decide) (fun c4 => absurd c4 (nI_ge (a := zi) (b := zN) (by omega) (by omega))) (fun _ => ?_)
    refine lv_iload_n hx hb dX12_ahead_14 rfl (lv_at hl 0 rfl) ?_
    refine lv_aload_n hx hb dX12_ahead_15 rfl (lv_at hl 2 rfl) ?_
    refine fb_gI (cs := [fb_o12 za zr zq, fb_aw cI (zr 0) 16205 (fr_m zu zi)]) (rs := []) (fun (t : fb_AR) => [fb_o12 za zr (upd (upd (upd (upd zq 6 (0 : Int32)) 7 (0 : Int32)) 4 (0 : Int32)) 6 (1 : Int32)), fb_aw cI (zr 0) 16205 (fr_m t (zi + 1))]) (fun (t : fb_AR) => [fb_o12 za zr (upd (upd (upd (upd zq 6 (0 : Int32)) 7 (0 : Int32)) 4 (0 : Int32)) 6 (1 : Int32)), fb_aw cI (zr 0) 16205 (fr_m t (zi + 1))]) X I [0, 1] 2 rfl (by decide +kernel) rfl rfl [0, 1] 2 (fun _ => rfl) (by decide +kernel) (fun _ => rfl) (fun _ => rfl) (fun I => fb_rV (As := []) (rest := [.int (nI zi)]) X hl (fb_goodV fw_2410 fw_2412 fw_140 fw_204 fw_2413) (c_one_n l D cI cJ za zr zq zu zi _ (by omega) ((ik 5 (by decide) (by decide) (by decide)).trans h5)) rfl rfl rfl (by decide +kernel : fb_hd yX12_one 0) ⟨Nat.le_of_ble_eq_true rfl, Nat.le_of_ble_eq_true rfl⟩ rfl rfl rfl rfl rfl (Nat.le_of_ble_eq_true rfl) ⟨Nat.zero_le _, Nat.zero_le _⟩ dX12_ahead_16 I) ?_
    intro r6 w5 H locs e0 I
    subst e0
    have I : fb_In D A s.heap (([fb_o12 za zr (upd (upd (upd (upd zq 6 (0 : Int32)) 7 (0 : Int32)) 4 (0 : Int32)) 6 (1 : Int32)), fb_aw cI (zr 0) 16205 (fr_m w5 (zi + 1))] : List va_W).flatten) H locs := I
    refine lv_iadd hx hb dX12_ahead_19 ?_
    refine fb_tI (v := (nI (zi + 1))) (nI_add zi 1) ?_
    refine lv_istore_n (lv' := [(2, .int (nI (zi + 1))), (1, .int (nI zN)), (0, .ref za)]) hx hb dX12_ahead_20 rfl hl (by decide) rfl (fun ls hl => ?_)
    refine lv_goto (tgt := 2) hx hb dX12_ahead_21 (by decide) ?_
    exact ih (zi + 1) (by omega) (upd (upd (upd (upd zq 6 (0 : Int32)) 7 (0 : Int32)) 4 (0 : Int32)) 6 (1 : Int32)) w5 (fr_kn ik _ _ _ _) _ _ _ I (lv_sub hl [0, 1, 2] rfl)
set_option maxHeartbeats 4000000 in
set_option maxRecDepth 100000 in
theorem c_ahead (l : Launch) (D : va_G) (cI cJ : ClassId) (za : Nat) (zr : Nat → Nat) (ze : fb_AR) (zt : fb_AR) (zN : Nat) (sz : Nat) (hN : 1 ≤ zN ∧ zN ≤ 5000) (h5 : ze 5 = (0 : Int32)) : Met l yX12_ahead (Cond.code yX12_ahead cX12_ahead 3 none :: fb_all) ({ frames := 6, cells := 0, slots := 0, locals := 144 } : Room) (fb_PP D (fb_ty D cI cJ) [.ref za, .int (nI zN)] (([fb_o12 za zr ze, fb_aw cI (zr 0) 16205 (fr_m zt 0)] : List va_W).flatten) sz) (fb_QV D (va_A (([fb_o12 za zr ze, fb_aw cI (zr 0) 16205 (fr_m zt 0)] : List va_W).flatten) sz) (fun (t : fb_AR × fb_AR) => ∀ k, ¬ k = 4 → ¬ k = 6 → ¬ k = 7 → (t.1) k = ze k) (fun (t : fb_AR × fb_AR) => ([fb_o12 za zr (t.1), fb_aw cI (zr 0) 16205 (fr_m (t.2) zN)] : List va_W).flatten)) 0 0 (va_A (([fb_o12 za zr ze, fb_aw cI (zr 0) 16205 (fr_m zt 0)] : List va_W).flatten) sz) := by
  refine fb_ent (Qf := fun A => (fb_QV D A (fun (t : fb_AR × fb_AR) => ∀ k, ¬ k = 4 → ¬ k = 6 → ¬ k = 7 → (t.1) k = ze k) (fun (t : fb_AR × fb_AR) => ([fb_o12 za zr (t.1), fb_aw cI (zr 0) 16205 (fr_m (t.2) zN)] : List va_W).flatten))) (by decide +kernel) (Nat.le_of_ble_eq_true rfl) ?_
  intro p e s m args below meth c A ls X I hl hin
  obtain ⟨hx, hb, hr, hml, hown, hts, hlk, hA, hK, hF⟩ := id X
  have hl : lv_has ls 3 [(0, .ref za), (1, .int (nI zN))] := hl
  refine lv_iconst (v := (0 : Int32)) hx hb dX12_ahead_0 (by decide) ?_
  refine lv_istore_n (lv' := [(2, .int (0 : Int32)), (0, .ref za), (1, .int (nI zN))]) hx hb dX12_ahead_1 rfl hl (by decide) rfl (fun ls hl => ?_)
  exact b_ahead_2 (za := za) (zr := zr) (ze := ze) (zt := zt) (zN := zN)  X hN h5  (zN) 0 (by omega) ze zt (fun _ _ _ _ => rfl) _ _ _ I (lv_sub hl [0, 2, 1] rfl)

set_option maxHeartbeats 4000000 in
set_option maxRecDepth 100000 in
theorem c_outputsIn_out (l : Launch) (D : va_G) (cI cJ : ClassId) (za : Nat) (zr : Nat → Nat) (l1 : Int32) (sz : Nat) (q1 : f_X12_isIn l1 (1 : Int32) (5000 : Int32) = (0 : Int32)) : Met l yX12_outputsIn (Cond.code yX12_outputsIn cX12_outputsIn 4 (some .int) :: fb_all) ({ frames := 3, cells := 0, slots := 0, locals := 75 } : Room) (fb_PP D (fb_ty D cI cJ) [.ref za, .int l1] (([fb_o12 za zr fr_e0] : List va_W).flatten) sz) (fb_QI D (va_A (([fb_o12 za zr fr_e0] : List va_W).flatten) sz) (fun (r : Int32) (_ : Unit) => r = (0 : Int32)) (fun (t : Unit) => ([fb_o12 za zr (upd (upd fr_e0 19 (0 : Int32)) 19 (1 : Int32))] : List va_W).flatten)) 0 0 (va_A (([fb_o12 za zr fr_e0] : List va_W).flatten) sz) := by
  refine fb_ent (Qf := fun A => (fb_QI D A (fun (r : Int32) (_ : Unit) => r = (0 : Int32)) (fun (t : Unit) => ([fb_o12 za zr (upd (upd fr_e0 19 (0 : Int32)) 19 (1 : Int32))] : List va_W).flatten))) (by decide +kernel) (Nat.le_of_ble_eq_true rfl) ?_
  intro p e s m args below meth c A ls X I hl hin
  obtain ⟨hx, hb, hr, hml, hown, hts, hlk, hA, hK, hF⟩ := id X
  have hl : lv_has ls 4 [(0, .ref za), (1, .int l1)] := hl
  refine lv_aload_n hx hb dX12_outputsIn_0 rfl (lv_at hl 0 rfl) ?_
  refine lv_iload_n hx hb dX12_outputsIn_1 rfl (lv_at hl 1 rfl) ?_
  refine lv_iconst (v := (1 : Int32)) hx hb dX12_outputsIn_2 (by decide) ?_
  refine lv_sipush (v := (5000 : Int32)) hx hb dX12_outputsIn_3 (by decide) ?_
  refine fb_gI (cs := [fb_o12 za zr fr_e0]) (rs := []) (fun (t : Unit) => [fb_o12 za zr (upd (upd fr_e0 19 (0 : Int32)) 19 (1 : Int32))]) (fun (t : Unit) => [fb_o12 za zr (upd (upd fr_e0 19 (0 : Int32)) 19 (1 : Int32))]) X I [0] 1 rfl (by decide +kernel) rfl rfl [0] 1 (fun _ => rfl) (by decide +kernel) (fun _ => rfl) (fun _ => rfl) (fun I => fb_rV (As := [.int l1, .int (1 : Int32), .int (5000 : Int32)]) (rest := []) X hl (fb_goodV fw_2346 fw_2348 fw_136 fw_204 fw_2349) (c_isNot_out l D cI cJ za zr fr_e0 l1 (1 : Int32) (5000 : Int32) _ q1) rfl rfl rfl (by decide +kernel : fb_hd yX12_isNot 3) ⟨Nat.le_of_ble_eq_true rfl, Nat.le_of_ble_eq_true rfl⟩ rfl rfl rfl rfl rfl (Nat.le_of_ble_eq_true rfl) ⟨Nat.zero_le _, Nat.zero_le _⟩ dX12_outputsIn_6 I) ?_
  intro r2 w1 H locs e0 I
  subst e0
  have I : fb_In D A s.heap (([fb_o12 za zr (upd (upd fr_e0 19 (0 : Int32)) 19 (1 : Int32))] : List va_W).flatten) H locs := I
  refine lv_if_eq (tgt := 14) hx hb dX12_outputsIn_9 (by decide) (fun c3 => absurd c3 (by decide)) (fun _ => ?_)
  refine lv_iconst (v := (0 : Int32)) hx hb dX12_outputsIn_12 (by decide) ?_
  exact fb_retI (u := ()) X I rfl rfl dX12_outputsIn_13

set_option maxHeartbeats 4000000 in
set_option maxRecDepth 100000 in
theorem c_outputsIn_in (l : Launch) (D : va_G) (cI cJ : ClassId) (za : Nat) (zr : Nat → Nat) (zN : Nat) (sz : Nat) (hN : 1 ≤ zN ∧ zN ≤ 5000) : Met l yX12_outputsIn (Cond.code yX12_outputsIn cX12_outputsIn 4 (some .int) :: fb_all) ({ frames := 7, cells := 1, slots := 16205, locals := 166 } : Room) (fb_PP D (fb_ty D cI cJ) [.ref za, .int (nI zN)] (([fb_o12 za zr fr_e0, fb_aw cI (zr 0) 16205 (fr_m (fun _ => 0) 0)] : List va_W).flatten) sz) (fb_QI D (va_A (([fb_o12 za zr fr_e0, fb_aw cI (zr 0) 16205 (fr_m (fun _ => 0) 0)] : List va_W).flatten) sz) (fun (r : Int32) (t : Nat × Nat × fb_AR × fb_AR) => r = (0 : Int32) ∧ (t.2.2.1) 19 = (0 : Int32)) (fun (t : Nat × Nat × fb_AR × fb_AR) => ([fb_o12 za (va_up (va_up zr 0 (t.1)) 0 (t.2.1)) (t.2.2.1), fb_aw cI (t.2.1) 16205 (fr_m (fun _ => 0) 0), fb_aw cI (t.1) 16205 (fr_m (t.2.2.2) zN)] : List va_W).flatten)) 1 16205 (va_A (([fb_o12 za zr fr_e0, fb_aw cI (zr 0) 16205 (fr_m (fun _ => 0) 0)] : List va_W).flatten) sz) := by
  refine fb_ent (Qf := fun A => (fb_QI D A (fun (r : Int32) (t : Nat × Nat × fb_AR × fb_AR) => r = (0 : Int32) ∧ (t.2.2.1) 19 = (0 : Int32)) (fun (t : Nat × Nat × fb_AR × fb_AR) => ([fb_o12 za (va_up (va_up zr 0 (t.1)) 0 (t.2.1)) (t.2.2.1), fb_aw cI (t.2.1) 16205 (fr_m (fun _ => 0) 0), fb_aw cI (t.1) 16205 (fr_m (t.2.2.2) zN)] : List va_W).flatten))) (by decide +kernel) (Nat.le_of_ble_eq_true rfl) ?_
  intro p e s m args below meth c A ls X I hl hin
  obtain ⟨hx, hb, hr, hml, hown, hts, hlk, hA, hK, hF⟩ := id X
  have hl : lv_has ls 4 [(0, .ref za), (1, .int (nI zN))] := hl
  refine lv_aload_n hx hb dX12_outputsIn_0 rfl (lv_at hl 0 rfl) ?_
  refine lv_iload_n hx hb dX12_outputsIn_1 rfl (lv_at hl 1 rfl) ?_
  refine lv_iconst (v := (1 : Int32)) hx hb dX12_outputsIn_2 (by decide) ?_
  refine lv_sipush (v := (5000 : Int32)) hx hb dX12_outputsIn_3 (by decide) ?_
  refine fb_gI (cs := [fb_o12 za zr fr_e0]) (rs := [fb_aw cI (zr 0) 16205 (fr_m (fun _ => 0) 0)]) (fun (t : Unit) => [fb_o12 za zr (upd fr_e0 19 (0 : Int32)), fb_aw cI (zr 0) 16205 (fr_m (fun _ => 0) 0)]) (fun (t : Unit) => [fb_o12 za zr (upd fr_e0 19 (0 : Int32))]) X I [0, 1] 2 rfl (by decide +kernel) rfl rfl [0, 1] 2 (fun _ => rfl) (by decide +kernel) (fun _ => rfl) (fun _ => rfl) (fun I => fb_rV (As := [.int (nI zN), .int (1 : Int32), .int (5000 : Int32)]) (rest := []) X hl (fb_goodV fw_2346 fw_2348 fw_136 fw_204 fw_2349) (c_isNot_in l D cI cJ za zr fr_e0 (nI zN) (1 : Int32) (5000 : Int32) _ (fr_inN (z := zN) (a := 1) (b := 5000) (by omega) (by omega) (by omega))) rfl rfl rfl (by decide +kernel : fb_hd yX12_isNot 3) ⟨Nat.le_of_ble_eq_true rfl, Nat.le_of_ble_eq_true rfl⟩ rfl rfl rfl rfl rfl (Nat.le_of_ble_eq_true rfl) ⟨Nat.zero_le _, Nat.zero_le _⟩ dX12_outputsIn_6 I) ?_
  intro r2 w1 H locs e0 I
  subst e0
  have I : fb_In D A s.heap (([fb_o12 za zr (upd fr_e0 19 (0 : Int32)), fb_aw cI (zr 0) 16205 (fr_m (fun _ => 0) 0)] : List va_W).flatten) H locs := I
  refine lv_if_eq (tgt := 14) hx hb dX12_outputsIn_9 (by decide) (fun _ => ?_) (fun c3 => absurd (by decide) c3)
  refine lv_aload_n hx hb dX12_outputsIn_14 rfl (lv_at hl 0 rfl) ?_
  refine fb_gR (cs := [fb_o12 za zr (upd fr_e0 19 (0 : Int32)), fb_aw cI (zr 0) 16205 (fr_m (fun _ => 0) 0)]) (rs := []) (fun (t : Nat) (rr : Nat) => [fb_o12 za (va_up zr 0 t) (upd fr_e0 19 (0 : Int32)), fb_aw cI rr 16205 (fr_m (fun _ => 0) 0), fb_aw cI t 16205 (fr_m (fun _ => 0) 0)]) (fun (t : Nat) (rr : Nat) => [fb_o12 za (va_up zr 0 t) (upd fr_e0 19 (0 : Int32)), fb_aw cI rr 16205 (fr_m (fun _ => 0) 0), fb_aw cI t 16205 (fr_m (fun _ => 0) 0)]) X I [0, 1] 2 rfl (by decide +kernel) rfl rfl [0, 1, 2] 3 (fun _ _ => rfl) (by decide +kernel) (fun _ _ => rfl) (fun _ _ => rfl) (fun I => fb_rV (As := []) (rest := []) X hl (fb_goodV fw_2739 fw_2741 fw_185 fw_204 fw_2742) (c_trial l D cI cJ za zr (upd fr_e0 19 (0 : Int32)) (fr_m (fun _ => 0) 0) _ ) rfl rfl rfl (by decide +kernel : fb_hd yX12_trial 0) ⟨Nat.le_of_ble_eq_true rfl, Nat.le_of_ble_eq_true rfl⟩ rfl rfl rfl rfl rfl (Nat.le_of_ble_eq_true rfl) ⟨Nat.le_of_ble_eq_true rfl, Nat.le_of_ble_eq_true rfl⟩ dX12_outputsIn_15 I) ?_
  intro w4 x5 H locs _ I
  have I : fb_In D A s.heap (([fb_o12 za (va_up zr 0 w4) (upd fr_e0 19 (0 : Int32)), fb_aw cI x5 16205 (fr_m (fun _ => 0) 0), fb_aw cI w4 16205 (fr_m (fun _ => 0) 0)] : List va_W).flatten) H locs := I
  refine lv_astore_n (lv' := [(2, .ref x5), (0, .ref za), (1, .int (nI zN))]) hx hb dX12_outputsIn_18 rfl hl (by decide) rfl (fun ls hl => ?_)
  refine lv_aload_n hx hb dX12_outputsIn_19 rfl (lv_at hl 1 rfl) ?_
  refine lv_iload_n hx hb dX12_outputsIn_20 rfl (lv_at hl 2 rfl) ?_
  refine fb_gV (cs := [fb_o12 za (va_up zr 0 w4) (upd fr_e0 19 (0 : Int32)), fb_aw cI w4 16205 (fr_m (fun _ => 0) 0)]) (rs := [fb_aw cI x5 16205 (fr_m (fun _ => 0) 0)]) (fun (t : fb_AR × fb_AR) => [fb_o12 za (va_up zr 0 w4) (t.1), fb_aw cI x5 16205 (fr_m (fun _ => 0) 0), fb_aw cI ((va_up zr 0 w4) 0) 16205 (fr_m (t.2) zN)]) (fun (t : fb_AR × fb_AR) => [fb_o12 za (va_up zr 0 w4) (t.1), fb_aw cI ((va_up zr 0 w4) 0) 16205 (fr_m (t.2) zN)]) X I [0, 2, 1] 3 rfl (by decide +kernel) rfl rfl [0, 2, 1] 3 (fun _ => rfl) (by decide +kernel) (fun _ => rfl) (fun _ => rfl) (fun I => fb_rV (As := [.int (nI zN)]) (rest := []) X hl (fb_goodV fw_2755 fw_2757 fw_187 fw_204 fw_2758) (c_ahead l D cI cJ za (va_up zr 0 w4) (upd fr_e0 19 (0 : Int32)) (fun _ => 0) zN _ (by omega) rfl) rfl rfl rfl (by decide +kernel : fb_hd yX12_ahead 1) ⟨Nat.le_of_ble_eq_true rfl, Nat.le_of_ble_eq_true rfl⟩ rfl rfl rfl rfl rfl (Nat.le_of_ble_eq_true rfl) ⟨Nat.le_of_ble_eq_true rfl, Nat.le_of_ble_eq_true rfl⟩ dX12_outputsIn_21 I) ?_
  intro w6 H locs e0 I
  obtain ⟨w6_0, w6_1⟩ := w6
  have p7 : ∀ k, ¬ k = 4 → ¬ k = 6 → ¬ k = 7 → w6_0 k = (upd fr_e0 19 (0 : Int32)) k := e0
  have I : fb_In D A s.heap (([fb_o12 za (va_up zr 0 w4) w6_0, fb_aw cI x5 16205 (fr_m (fun _ => 0) 0), fb_aw cI w4 16205 (fr_m w6_1 zN)] : List va_W).flatten) H locs := I
  refine lv_aload_n hx hb dX12_outputsIn_24 rfl (lv_at hl 1 rfl) ?_
  refine fb_get X I (k := 0) (v := .ref w4) fu_X12 0 fb_h12 rfl (Nat.le_of_ble_eq_true rfl) fw_1964 rfl rfl dX12_outputsIn_25 ?_
  refine lv_bipush (v := (19 : Int32)) hx hb dX12_outputsIn_28 (by decide) ?_
  refine fb_iaC (n := 19) (v := (0 : Int32)) X I 2 0 rfl rfl (by decide) (by decide) (Nat.le_of_ble_eq_true rfl) rfl dX12_outputsIn_30 ?_
  refine lv_istore_n (lv' := [(3, .int (0 : Int32)), (2, .ref x5), (0, .ref za), (1, .int (nI zN))]) hx hb dX12_outputsIn_31 rfl hl (by decide) rfl (fun ls hl => ?_)
  refine lv_aload_n hx hb dX12_outputsIn_32 rfl (lv_at hl 2 rfl) ?_
  refine lv_aload_n hx hb dX12_outputsIn_33 rfl (lv_at hl 1 rfl) ?_
  refine fb_put X I (k := 0) (wn := ([fb_o12 za (va_up (va_up zr 0 w4) 0 x5) w6_0, fb_aw cI x5 16205 (fr_m (fun _ => 0) 0), fb_aw cI w4 16205 (fr_m w6_1 zN)] : List va_W).flatten) fu_X12 tyX12 tyX12_ok nmX12 0 fb_h12 rfl (Nat.le_of_ble_eq_true rfl) fw_1964 rfl rfl rfl rfl rfl (Nat.le_of_ble_eq_true rfl) fb_r12_0 dX12_outputsIn_34 (fun H locs I => ?_)
  refine lv_iload_n hx hb dX12_outputsIn_37 rfl (lv_at hl 0 rfl) ?_
  refine lv_aload_n hx hb dX12_outputsIn_38 rfl (lv_at hl 2 rfl) ?_
  refine fb_get X I (k := 0) (v := .ref x5) fu_X12 0 fb_h12 rfl (Nat.le_of_ble_eq_true rfl) fw_1964 rfl rfl dX12_outputsIn_39 ?_
  refine lv_bipush (v := (19 : Int32)) hx hb dX12_outputsIn_42 (by decide) ?_
  refine fb_iaC (n := 19) (v := (0 : Int32)) X I 1 0 rfl rfl (by decide) (by decide) (Nat.le_of_ble_eq_true rfl) rfl dX12_outputsIn_44 ?_
  refine lv_isub hx hb dX12_outputsIn_45 ?_
  refine fb_tI (v := (0 : Int32)) (by decide) ?_
  refine W.widen (k := 1) (n := 16205) (by omega) (by omega) ?_
  exact fb_retI (u := (w4, x5, w6_0, w6_1)) X I ⟨rfl, (p7 19 (by decide) (by decide) (by decide))⟩ rfl dX12_outputsIn_46

set_option maxHeartbeats 4000000 in
set_option maxRecDepth 100000 in
theorem c_writesIn_out (l : Launch) (D : va_G) (cI cJ : ClassId) (za : Nat) (zr : Nat → Nat) (l1 : Int32) (l2 : Int32) (sz : Nat) (q1 : f_X12_isIn l1 (0 : Int32) (4095 : Int32) = (0 : Int32)) : Met l yX12_writesIn (Cond.code yX12_writesIn cX12_writesIn 4 (some .int) :: fb_all) ({ frames := 3, cells := 0, slots := 0, locals := 75 } : Room) (fb_PP D (fb_ty D cI cJ) [.ref za, .int l1, .int l2] (([fb_o12 za zr fr_e0] : List va_W).flatten) sz) (fb_QI D (va_A (([fb_o12 za zr fr_e0] : List va_W).flatten) sz) (fun (r : Int32) (_ : Unit) => r = (0 : Int32)) (fun (t : Unit) => ([fb_o12 za zr (upd (upd fr_e0 19 (0 : Int32)) 19 (1 : Int32))] : List va_W).flatten)) 0 0 (va_A (([fb_o12 za zr fr_e0] : List va_W).flatten) sz) := by
  refine fb_ent (Qf := fun A => (fb_QI D A (fun (r : Int32) (_ : Unit) => r = (0 : Int32)) (fun (t : Unit) => ([fb_o12 za zr (upd (upd fr_e0 19 (0 : Int32)) 19 (1 : Int32))] : List va_W).flatten))) (by decide +kernel) (Nat.le_of_ble_eq_true rfl) ?_
  intro p e s m args below meth c A ls X I hl hin
  obtain ⟨hx, hb, hr, hml, hown, hts, hlk, hA, hK, hF⟩ := id X
  have hl : lv_has ls 4 [(0, .ref za), (1, .int l1), (2, .int l2)] := hl
  refine lv_aload_n hx hb dX12_writesIn_0 rfl (lv_at hl 0 rfl) ?_
  refine lv_iload_n hx hb dX12_writesIn_1 rfl (lv_at hl 1 rfl) ?_
  refine lv_iconst (v := (0 : Int32)) hx hb dX12_writesIn_2 (by decide) ?_
  refine lv_sipush (v := (4095 : Int32)) hx hb dX12_writesIn_3 (by decide) ?_
  refine fb_gI (cs := [fb_o12 za zr fr_e0]) (rs := []) (fun (t : Unit) => [fb_o12 za zr (upd (upd fr_e0 19 (0 : Int32)) 19 (1 : Int32))]) (fun (t : Unit) => [fb_o12 za zr (upd (upd fr_e0 19 (0 : Int32)) 19 (1 : Int32))]) X I [0] 1 rfl (by decide +kernel) rfl rfl [0] 1 (fun _ => rfl) (by decide +kernel) (fun _ => rfl) (fun _ => rfl) (fun I => fb_rV (As := [.int l1, .int (0 : Int32), .int (4095 : Int32)]) (rest := []) X hl (fb_goodV fw_2346 fw_2348 fw_136 fw_204 fw_2349) (c_isNot_out l D cI cJ za zr fr_e0 l1 (0 : Int32) (4095 : Int32) _ q1) rfl rfl rfl (by decide +kernel : fb_hd yX12_isNot 3) ⟨Nat.le_of_ble_eq_true rfl, Nat.le_of_ble_eq_true rfl⟩ rfl rfl rfl rfl rfl (Nat.le_of_ble_eq_true rfl) ⟨Nat.zero_le _, Nat.zero_le _⟩ dX12_writesIn_6 I) ?_
  intro r2 w1 H locs e0 I
  subst e0
  have I : fb_In D A s.heap (([fb_o12 za zr (upd (upd fr_e0 19 (0 : Int32)) 19 (1 : Int32))] : List va_W).flatten) H locs := I
  refine lv_if_ne (tgt := 36) hx hb dX12_writesIn_9 (by decide) (fun _ => ?_) (fun c3 => absurd c3 (by decide))
  refine lv_iconst (v := (0 : Int32)) hx hb dX12_writesIn_36 (by decide) ?_
  exact fb_retI (u := ()) X I rfl rfl dX12_writesIn_37

set_option maxHeartbeats 4000000 in
set_option maxRecDepth 100000 in
theorem c_writesIn_bad (l : Launch) (D : va_G) (cI cJ : ClassId) (za : Nat) (zr : Nat → Nat) (zj : Nat) (l2 : Int32) (sz : Nat) (hj : zj < 4096) (q1 : f_X12_isIn l2 (1 : Int32) (5000 : Int32) = (0 : Int32)) : Met l yX12_writesIn (Cond.code yX12_writesIn cX12_writesIn 4 (some .int) :: fb_all) ({ frames := 3, cells := 0, slots := 0, locals := 75 } : Room) (fb_PP D (fb_ty D cI cJ) [.ref za, .int (nI zj), .int l2] (([fb_o12 za zr fr_e0] : List va_W).flatten) sz) (fb_QI D (va_A (([fb_o12 za zr fr_e0] : List va_W).flatten) sz) (fun (r : Int32) (_ : Unit) => r = (0 : Int32)) (fun (t : Unit) => ([fb_o12 za zr (upd (upd fr_e0 19 (0 : Int32)) 19 (1 : Int32))] : List va_W).flatten)) 0 0 (va_A (([fb_o12 za zr fr_e0] : List va_W).flatten) sz) := by
  refine fb_ent (Qf := fun A => (fb_QI D A (fun (r : Int32) (_ : Unit) => r = (0 : Int32)) (fun (t : Unit) => ([fb_o12 za zr (upd (upd fr_e0 19 (0 : Int32)) 19 (1 : Int32))] : List va_W).flatten))) (by decide +kernel) (Nat.le_of_ble_eq_true rfl) ?_
  intro p e s m args below meth c A ls X I hl hin
  obtain ⟨hx, hb, hr, hml, hown, hts, hlk, hA, hK, hF⟩ := id X
  have hl : lv_has ls 4 [(0, .ref za), (1, .int (nI zj)), (2, .int l2)] := hl
  refine lv_aload_n hx hb dX12_writesIn_0 rfl (lv_at hl 0 rfl) ?_
  refine lv_iload_n hx hb dX12_writesIn_1 rfl (lv_at hl 1 rfl) ?_
  refine lv_iconst (v := (0 : Int32)) hx hb dX12_writesIn_2 (by decide) ?_
  refine lv_sipush (v := (4095 : Int32)) hx hb dX12_writesIn_3 (by decide) ?_
  refine fb_gI (cs := [fb_o12 za zr fr_e0]) (rs := []) (fun (t : Unit) => [fb_o12 za zr (upd fr_e0 19 (0 : Int32))]) (fun (t : Unit) => [fb_o12 za zr (upd fr_e0 19 (0 : Int32))]) X I [0] 1 rfl (by decide +kernel) rfl rfl [0] 1 (fun _ => rfl) (by decide +kernel) (fun _ => rfl) (fun _ => rfl) (fun I => fb_rV (As := [.int (nI zj), .int (0 : Int32), .int (4095 : Int32)]) (rest := []) X hl (fb_goodV fw_2346 fw_2348 fw_136 fw_204 fw_2349) (c_isNot_in l D cI cJ za zr fr_e0 (nI zj) (0 : Int32) (4095 : Int32) _ (fr_inN (z := zj) (a := 0) (b := 4095) (by omega) (by omega) (by omega))) rfl rfl rfl (by decide +kernel : fb_hd yX12_isNot 3) ⟨Nat.le_of_ble_eq_true rfl, Nat.le_of_ble_eq_true rfl⟩ rfl rfl rfl rfl rfl (Nat.le_of_ble_eq_true rfl) ⟨Nat.zero_le _, Nat.zero_le _⟩ dX12_writesIn_6 I) ?_
  intro r2 w1 H locs e0 I
  subst e0
  have I : fb_In D A s.heap (([fb_o12 za zr (upd fr_e0 19 (0 : Int32))] : List va_W).flatten) H locs := I
  refine lv_if_ne (tgt := 36) hx hb dX12_writesIn_9 (by decide) (fun c3 => absurd (by decide) c3) (fun _ => ?_)
  refine lv_aload_n hx hb dX12_writesIn_12 rfl (lv_at hl 0 rfl) ?_
  refine lv_iload_n hx hb dX12_writesIn_13 rfl (lv_at hl 2 rfl) ?_
  refine lv_iconst (v := (1 : Int32)) hx hb dX12_writesIn_14 (by decide) ?_
  refine lv_sipush (v := (5000 : Int32)) hx hb dX12_writesIn_15 (by decide) ?_
  refine fb_gO (cs := []) (rs := [fb_o12 za zr (upd fr_e0 19 (0 : Int32))]) X I [0] 1 rfl (by decide +kernel) rfl rfl (fun I => fb_rS (As := [.int l2, .int (1 : Int32), .int (5000 : Int32)]) (rest := [.ref za]) X hl (fb_goodS fw_2147 fw_2148 fw_204 fw_2149) (c_X12_isIn l D cI cJ l2 (1 : Int32) (5000 : Int32) _) rfl rfl (by decide +kernel : fb_hd yX12_isIn 3) ⟨Nat.le_of_ble_eq_true rfl, Nat.le_of_ble_eq_true rfl⟩ rfl rfl (Nat.le_of_ble_eq_true rfl) ⟨Nat.le_of_ble_eq_true rfl, Nat.le_of_ble_eq_true rfl⟩ dX12_writesIn_18 I) ?_
  refine fb_tI (v := (0 : Int32)) q1 ?_
  refine lv_if_ne (tgt := 28) hx hb dX12_writesIn_21 (by decide) (fun c4 => absurd (by decide) c4) (fun _ => ?_)
  refine lv_iconst (v := (1 : Int32)) hx hb dX12_writesIn_24 (by decide) ?_
  refine lv_goto (tgt := 29) hx hb dX12_writesIn_25 (by decide) ?_
  refine lv_iconst (v := (1 : Int32)) hx hb dX12_writesIn_29 (by decide) ?_
  refine fb_gI (cs := [fb_o12 za zr (upd fr_e0 19 (0 : Int32))]) (rs := []) (fun (t : Unit) => [fb_o12 za zr (upd (upd fr_e0 19 (0 : Int32)) 19 (1 : Int32))]) (fun (t : Unit) => [fb_o12 za zr (upd (upd fr_e0 19 (0 : Int32)) 19 (1 : Int32))]) X I [0] 1 rfl (by decide +kernel) rfl rfl [0] 1 (fun _ => rfl) (by decide +kernel) (fun _ => rfl) (fun _ => rfl) (fun I => fb_rV (As := [.int (1 : Int32), .int (1 : Int32)]) (rest := []) X hl (fb_goodV fw_2350 fw_2352 fw_137 fw_204 fw_2353) (c_refuse_t l D cI cJ za zr (upd fr_e0 19 (0 : Int32)) (1 : Int32) _ rfl) rfl rfl rfl (by decide +kernel : fb_hd yX12_refuse 2) ⟨Nat.le_of_ble_eq_true rfl, Nat.le_of_ble_eq_true rfl⟩ rfl rfl rfl rfl rfl (Nat.le_of_ble_eq_true rfl) ⟨Nat.zero_le _, Nat.zero_le _⟩ dX12_writesIn_30 I) ?_
  intro r6 w5 H locs e0 I
  subst e0
  have I : fb_In D A s.heap (([fb_o12 za zr (upd (upd fr_e0 19 (0 : Int32)) 19 (1 : Int32))] : List va_W).flatten) H locs := I
  refine lv_if_eq (tgt := 38) hx hb dX12_writesIn_33 (by decide) (fun c7 => absurd c7 (by decide)) (fun _ => ?_)
  refine lv_iconst (v := (0 : Int32)) hx hb dX12_writesIn_36 (by decide) ?_
  exact fb_retI (u := ()) X I rfl rfl dX12_writesIn_37

set_option maxHeartbeats 4000000 in
set_option maxRecDepth 100000 in
theorem c_writesIn_in (l : Launch) (D : va_G) (cI cJ : ClassId) (za : Nat) (zr : Nat → Nat) (zj : Nat) (zN : Nat) (sz : Nat) (hj : zj < 4096) (hN : 1 ≤ zN ∧ zN ≤ 5000) : Met l yX12_writesIn (Cond.code yX12_writesIn cX12_writesIn 4 (some .int) :: fb_all) ({ frames := 7, cells := 1, slots := 16205, locals := 166 } : Room) (fb_PP D (fb_ty D cI cJ) [.ref za, .int (nI zj), .int (nI zN)] (([fb_o12 za zr fr_e0, fb_aw cI (zr 0) 16205 (fr_m (fun _ => 0) 0)] : List va_W).flatten) sz) (fb_QI D (va_A (([fb_o12 za zr fr_e0, fb_aw cI (zr 0) 16205 (fr_m (fun _ => 0) 0)] : List va_W).flatten) sz) (fun (r : Int32) (t : Nat × Nat × fb_AR × fb_AR) => r = (0 : Int32) ∧ (upd (t.2.2.1) 8 (-1 : Int32)) 19 = (0 : Int32)) (fun (t : Nat × Nat × fb_AR × fb_AR) => ([fb_o12 za (va_up (va_up zr 0 (t.1)) 0 (t.2.1)) (upd (t.2.2.1) 8 (-1 : Int32)), fb_aw cI (t.2.1) 16205 (fr_m (fun _ => 0) 0), fb_aw cI (t.1) 16205 (fr_m (t.2.2.2) zN)] : List va_W).flatten)) 1 16205 (va_A (([fb_o12 za zr fr_e0, fb_aw cI (zr 0) 16205 (fr_m (fun _ => 0) 0)] : List va_W).flatten) sz) := by
  refine fb_ent (Qf := fun A => (fb_QI D A (fun (r : Int32) (t : Nat × Nat × fb_AR × fb_AR) => r = (0 : Int32) ∧ (upd (t.2.2.1) 8 (-1 : Int32)) 19 = (0 : Int32)) (fun (t : Nat × Nat × fb_AR × fb_AR) => ([fb_o12 za (va_up (va_up zr 0 (t.1)) 0 (t.2.1)) (upd (t.2.2.1) 8 (-1 : Int32)), fb_aw cI (t.2.1) 16205 (fr_m (fun _ => 0) 0), fb_aw cI (t.1) 16205 (fr_m (t.2.2.2) zN)] : List va_W).flatten))) (by decide +kernel) (Nat.le_of_ble_eq_true rfl) ?_
  intro p e s m args below meth c A ls X I hl hin
  obtain ⟨hx, hb, hr, hml, hown, hts, hlk, hA, hK, hF⟩ := id X
  have hl : lv_has ls 4 [(0, .ref za), (1, .int (nI zj)), (2, .int (nI zN))] := hl
  refine lv_aload_n hx hb dX12_writesIn_0 rfl (lv_at hl 0 rfl) ?_
  refine lv_iload_n hx hb dX12_writesIn_1 rfl (lv_at hl 1 rfl) ?_
  refine lv_iconst (v := (0 : Int32)) hx hb dX12_writesIn_2 (by decide) ?_
  refine lv_sipush (v := (4095 : Int32)) hx hb dX12_writesIn_3 (by decide) ?_
  refine fb_gI (cs := [fb_o12 za zr fr_e0]) (rs := [fb_aw cI (zr 0) 16205 (fr_m (fun _ => 0) 0)]) (fun (t : Unit) => [fb_o12 za zr (upd fr_e0 19 (0 : Int32)), fb_aw cI (zr 0) 16205 (fr_m (fun _ => 0) 0)]) (fun (t : Unit) => [fb_o12 za zr (upd fr_e0 19 (0 : Int32))]) X I [0, 1] 2 rfl (by decide +kernel) rfl rfl [0, 1] 2 (fun _ => rfl) (by decide +kernel) (fun _ => rfl) (fun _ => rfl) (fun I => fb_rV (As := [.int (nI zj), .int (0 : Int32), .int (4095 : Int32)]) (rest := []) X hl (fb_goodV fw_2346 fw_2348 fw_136 fw_204 fw_2349) (c_isNot_in l D cI cJ za zr fr_e0 (nI zj) (0 : Int32) (4095 : Int32) _ (fr_inN (z := zj) (a := 0) (b := 4095) (by omega) (by omega) (by omega))) rfl rfl rfl (by decide +kernel : fb_hd yX12_isNot 3) ⟨Nat.le_of_ble_eq_true rfl, Nat.le_of_ble_eq_true rfl⟩ rfl rfl rfl rfl rfl (Nat.le_of_ble_eq_true rfl) ⟨Nat.zero_le _, Nat.zero_le _⟩ dX12_writesIn_6 I) ?_
  intro r2 w1 H locs e0 I
  subst e0
  have I : fb_In D A s.heap (([fb_o12 za zr (upd fr_e0 19 (0 : Int32)), fb_aw cI (zr 0) 16205 (fr_m (fun _ => 0) 0)] : List va_W).flatten) H locs := I
  refine lv_if_ne (tgt := 36) hx hb dX12_writesIn_9 (by decide) (fun c3 => absurd (by decide) c3) (fun _ => ?_)
  refine lv_aload_n hx hb dX12_writesIn_12 rfl (lv_at hl 0 rfl) ?_
  refine lv_iload_n hx hb dX12_writesIn_13 rfl (lv_at hl 2 rfl) ?_
  refine lv_iconst (v := (1 : Int32)) hx hb dX12_writesIn_14 (by decide) ?_
  refine lv_sipush (v := (5000 : Int32)) hx hb dX12_writesIn_15 (by decide) ?_
  refine fb_gO (cs := []) (rs := [fb_o12 za zr (upd fr_e0 19 (0 : Int32)), fb_aw cI (zr 0) 16205 (fr_m (fun _ => 0) 0)]) X I [0, 1] 2 rfl (by decide +kernel) rfl rfl (fun I => fb_rS (As := [.int (nI zN), .int (1 : Int32), .int (5000 : Int32)]) (rest := [.ref za]) X hl (fb_goodS fw_2147 fw_2148 fw_204 fw_2149) (c_X12_isIn l D cI cJ (nI zN) (1 : Int32) (5000 : Int32) _) rfl rfl (by decide +kernel : fb_hd yX12_isIn 3) ⟨Nat.le_of_ble_eq_true rfl, Nat.le_of_ble_eq_true rfl⟩ rfl rfl (Nat.le_of_ble_eq_true rfl) ⟨Nat.le_of_ble_eq_true rfl, Nat.le_of_ble_eq_true rfl⟩ dX12_writesIn_18 I) ?_
  refine fb_tI (v := (1 : Int32)) (fr_inN (z := zN) (a := 1) (b := 5000) (by omega) (by omega) (by omega)) ?_
  refine lv_if_ne (tgt := 28) hx hb dX12_writesIn_21 (by decide) (fun _ => ?_) (fun c4 => absurd c4 (by decide))
  refine lv_iconst (v := (0 : Int32)) hx hb dX12_writesIn_28 (by decide) ?_
  refine lv_iconst (v := (1 : Int32)) hx hb dX12_writesIn_29 (by decide) ?_
  refine fb_gO (cs := [fb_o12 za zr (upd fr_e0 19 (0 : Int32))]) (rs := [fb_aw cI (zr 0) 16205 (fr_m (fun _ => 0) 0)]) X I [0, 1] 2 rfl (by decide +kernel) rfl rfl (fun I => fb_rV (As := [.int (0 : Int32), .int (1 : Int32)]) (rest := []) X hl (fb_goodV fw_2350 fw_2352 fw_137 fw_204 fw_2353) (c_refuse_f l D cI cJ za zr (upd fr_e0 19 (0 : Int32)) (1 : Int32) _ ) rfl rfl rfl (by decide +kernel : fb_hd yX12_refuse 2) ⟨Nat.le_of_ble_eq_true rfl, Nat.le_of_ble_eq_true rfl⟩ rfl rfl rfl rfl rfl (Nat.le_of_ble_eq_true rfl) ⟨Nat.zero_le _, Nat.zero_le _⟩ dX12_writesIn_30 I) ?_
  refine lv_if_eq (tgt := 38) hx hb dX12_writesIn_33 (by decide) (fun _ => ?_) (fun c5 => absurd (by decide) c5)
  refine lv_aload_n hx hb dX12_writesIn_38 rfl (lv_at hl 0 rfl) ?_
  refine fb_gR (cs := [fb_o12 za zr (upd fr_e0 19 (0 : Int32)), fb_aw cI (zr 0) 16205 (fr_m (fun _ => 0) 0)]) (rs := []) (fun (t : Nat) (rr : Nat) => [fb_o12 za (va_up zr 0 t) (upd fr_e0 19 (0 : Int32)), fb_aw cI rr 16205 (fr_m (fun _ => 0) 0), fb_aw cI t 16205 (fr_m (fun _ => 0) 0)]) (fun (t : Nat) (rr : Nat) => [fb_o12 za (va_up zr 0 t) (upd fr_e0 19 (0 : Int32)), fb_aw cI rr 16205 (fr_m (fun _ => 0) 0), fb_aw cI t 16205 (fr_m (fun _ => 0) 0)]) X I [0, 1] 2 rfl (by decide +kernel) rfl rfl [0, 1, 2] 3 (fun _ _ => rfl) (by decide +kernel) (fun _ _ => rfl) (fun _ _ => rfl) (fun I => fb_rV (As := []) (rest := []) X hl (fb_goodV fw_2739 fw_2741 fw_185 fw_204 fw_2742) (c_trial l D cI cJ za zr (upd fr_e0 19 (0 : Int32)) (fr_m (fun _ => 0) 0) _ ) rfl rfl rfl (by decide +kernel : fb_hd yX12_trial 0) ⟨Nat.le_of_ble_eq_true rfl, Nat.le_of_ble_eq_true rfl⟩ rfl rfl rfl rfl rfl (Nat.le_of_ble_eq_true rfl) ⟨Nat.le_of_ble_eq_true rfl, Nat.le_of_ble_eq_true rfl⟩ dX12_writesIn_39 I) ?_
  intro w6 x7 H locs _ I
  have I : fb_In D A s.heap (([fb_o12 za (va_up zr 0 w6) (upd fr_e0 19 (0 : Int32)), fb_aw cI x7 16205 (fr_m (fun _ => 0) 0), fb_aw cI w6 16205 (fr_m (fun _ => 0) 0)] : List va_W).flatten) H locs := I
  refine lv_astore_n (lv' := [(3, .ref x7), (0, .ref za), (1, .int (nI zj)), (2, .int (nI zN))]) hx hb dX12_writesIn_42 rfl hl (by decide) rfl (fun ls hl => ?_)
  refine lv_aload_n hx hb dX12_writesIn_43 rfl (lv_at hl 1 rfl) ?_
  refine lv_iload_n hx hb dX12_writesIn_44 rfl (lv_at hl 2 rfl) ?_
  refine fb_put X I (k := 8) (wn := ([fb_o12 za (va_up zr 0 w6) (upd (upd fr_e0 19 (0 : Int32)) 8 (nI zj)), fb_aw cI x7 16205 (fr_m (fun _ => 0) 0), fb_aw cI w6 16205 (fr_m (fun _ => 0) 0)] : List va_W).flatten) fu_X12 tyX12 tyX12_ok nmX12 0 fb_h12 rfl (Nat.le_of_ble_eq_true rfl) fw_1972 rfl rfl rfl rfl rfl (Nat.le_of_ble_eq_true rfl) fb_r12_8 dX12_writesIn_45 (fun H locs I => ?_)
  refine lv_aload_n hx hb dX12_writesIn_48 rfl (lv_at hl 1 rfl) ?_
  refine lv_iconst (v := (0 : Int32)) hx hb dX12_writesIn_49 (by decide) ?_
  refine fb_put X I (k := 9) (wn := ([fb_o12 za (va_up zr 0 w6) (upd (upd (upd fr_e0 19 (0 : Int32)) 8 (nI zj)) 9 (0 : Int32)), fb_aw cI x7 16205 (fr_m (fun _ => 0) 0), fb_aw cI w6 16205 (fr_m (fun _ => 0) 0)] : List va_W).flatten) fu_X12 tyX12 tyX12_ok nmX12 0 fb_h12 rfl (Nat.le_of_ble_eq_true rfl) fw_1973 rfl rfl rfl rfl rfl (Nat.le_of_ble_eq_true rfl) fb_r12_9 dX12_writesIn_50 (fun H locs I => ?_)
  refine lv_aload_n hx hb dX12_writesIn_53 rfl (lv_at hl 1 rfl) ?_
  refine lv_iload_n hx hb dX12_writesIn_54 rfl (lv_at hl 3 rfl) ?_
  refine fb_gV (cs := [fb_o12 za (va_up zr 0 w6) (upd (upd (upd fr_e0 19 (0 : Int32)) 8 (nI zj)) 9 (0 : Int32)), fb_aw cI w6 16205 (fr_m (fun _ => 0) 0)]) (rs := [fb_aw cI x7 16205 (fr_m (fun _ => 0) 0)]) (fun (t : fb_AR × fb_AR) => [fb_o12 za (va_up zr 0 w6) (t.1), fb_aw cI x7 16205 (fr_m (fun _ => 0) 0), fb_aw cI ((va_up zr 0 w6) 0) 16205 (fr_m (t.2) zN)]) (fun (t : fb_AR × fb_AR) => [fb_o12 za (va_up zr 0 w6) (t.1), fb_aw cI ((va_up zr 0 w6) 0) 16205 (fr_m (t.2) zN)]) X I [0, 2, 1] 3 rfl (by decide +kernel) rfl rfl [0, 2, 1] 3 (fun _ => rfl) (by decide +kernel) (fun _ => rfl) (fun _ => rfl) (fun I => fb_rV (As := [.int (nI zN)]) (rest := []) X hl (fb_goodV fw_2755 fw_2757 fw_187 fw_204 fw_2758) (c_ahead l D cI cJ za (va_up zr 0 w6) (upd (upd (upd fr_e0 19 (0 : Int32)) 8 (nI zj)) 9 (0 : Int32)) (fun _ => 0) zN _ (by omega) rfl) rfl rfl rfl (by decide +kernel : fb_hd yX12_ahead 1) ⟨Nat.le_of_ble_eq_true rfl, Nat.le_of_ble_eq_true rfl⟩ rfl rfl rfl rfl rfl (Nat.le_of_ble_eq_true rfl) ⟨Nat.le_of_ble_eq_true rfl, Nat.le_of_ble_eq_true rfl⟩ dX12_writesIn_55 I) ?_
  intro w8 H locs e0 I
  obtain ⟨w8_0, w8_1⟩ := w8
  have p9 : ∀ k, ¬ k = 4 → ¬ k = 6 → ¬ k = 7 → w8_0 k = (upd (upd (upd fr_e0 19 (0 : Int32)) 8 (nI zj)) 9 (0 : Int32)) k := e0
  have I : fb_In D A s.heap (([fb_o12 za (va_up zr 0 w6) w8_0, fb_aw cI x7 16205 (fr_m (fun _ => 0) 0), fb_aw cI w6 16205 (fr_m w8_1 zN)] : List va_W).flatten) H locs := I
  refine lv_aload_n hx hb dX12_writesIn_58 rfl (lv_at hl 1 rfl) ?_
  refine lv_iconst (v := (-1 : Int32)) hx hb dX12_writesIn_59 (by decide) ?_
  refine fb_put X I (k := 8) (wn := ([fb_o12 za (va_up zr 0 w6) (upd w8_0 8 (-1 : Int32)), fb_aw cI x7 16205 (fr_m (fun _ => 0) 0), fb_aw cI w6 16205 (fr_m w8_1 zN)] : List va_W).flatten) fu_X12 tyX12 tyX12_ok nmX12 0 fb_h12 rfl (Nat.le_of_ble_eq_true rfl) fw_1972 rfl rfl rfl rfl rfl (Nat.le_of_ble_eq_true rfl) fb_r12_8 dX12_writesIn_60 (fun H locs I => ?_)
  refine lv_aload_n hx hb dX12_writesIn_63 rfl (lv_at hl 1 rfl) ?_
  refine lv_aload_n hx hb dX12_writesIn_64 rfl (lv_at hl 0 rfl) ?_
  refine fb_put X I (k := 0) (wn := ([fb_o12 za (va_up (va_up zr 0 w6) 0 x7) (upd w8_0 8 (-1 : Int32)), fb_aw cI x7 16205 (fr_m (fun _ => 0) 0), fb_aw cI w6 16205 (fr_m w8_1 zN)] : List va_W).flatten) fu_X12 tyX12 tyX12_ok nmX12 0 fb_h12 rfl (Nat.le_of_ble_eq_true rfl) fw_1964 rfl rfl rfl rfl rfl (Nat.le_of_ble_eq_true rfl) fb_r12_0 dX12_writesIn_65 (fun H locs I => ?_)
  refine lv_aload_n hx hb dX12_writesIn_68 rfl (lv_at hl 1 rfl) ?_
  refine fb_get X I (k := 9) (v := .int (w8_0 9)) fu_X12 0 fb_h12 rfl (Nat.le_of_ble_eq_true rfl) fw_1973 rfl rfl dX12_writesIn_69 ?_
  refine fb_tI (v := (0 : Int32)) (p9 9 (by decide) (by decide) (by decide)) ?_
  refine W.widen (k := 1) (n := 16205) (by omega) (by omega) ?_
  exact fb_retI (u := (w6, x7, w8_0, w8_1)) X I ⟨rfl, (p9 19 (by decide) (by decide) (by decide))⟩ rfl dX12_writesIn_72

set_option maxHeartbeats 4000000 in
set_option maxRecDepth 100000 in
theorem c_cyclesToHalt_out (l : Launch) (D : va_G) (cI cJ : ClassId) (za : Nat) (zr : Nat → Nat) (l1 : Int32) (sz : Nat) (q1 : f_X12_isIn l1 (1 : Int32) (5000 : Int32) = (0 : Int32)) : Met l yX12_cyclesToHalt (Cond.code yX12_cyclesToHalt cX12_cyclesToHalt 5 (some .int) :: fb_all) ({ frames := 3, cells := 0, slots := 0, locals := 75 } : Room) (fb_PP D (fb_ty D cI cJ) [.ref za, .int l1] (([fb_o12 za zr fr_e0] : List va_W).flatten) sz) (fb_QI D (va_A (([fb_o12 za zr fr_e0] : List va_W).flatten) sz) (fun (r : Int32) (_ : Unit) => r = (0 : Int32)) (fun (t : Unit) => ([fb_o12 za zr (upd (upd fr_e0 19 (0 : Int32)) 19 (1 : Int32))] : List va_W).flatten)) 0 0 (va_A (([fb_o12 za zr fr_e0] : List va_W).flatten) sz) := by
  refine fb_ent (Qf := fun A => (fb_QI D A (fun (r : Int32) (_ : Unit) => r = (0 : Int32)) (fun (t : Unit) => ([fb_o12 za zr (upd (upd fr_e0 19 (0 : Int32)) 19 (1 : Int32))] : List va_W).flatten))) (by decide +kernel) (Nat.le_of_ble_eq_true rfl) ?_
  intro p e s m args below meth c A ls X I hl hin
  obtain ⟨hx, hb, hr, hml, hown, hts, hlk, hA, hK, hF⟩ := id X
  have hl : lv_has ls 5 [(0, .ref za), (1, .int l1)] := hl
  refine lv_aload_n hx hb dX12_cyclesToHalt_0 rfl (lv_at hl 0 rfl) ?_
  refine lv_iload_n hx hb dX12_cyclesToHalt_1 rfl (lv_at hl 1 rfl) ?_
  refine lv_iconst (v := (1 : Int32)) hx hb dX12_cyclesToHalt_2 (by decide) ?_
  refine lv_sipush (v := (5000 : Int32)) hx hb dX12_cyclesToHalt_3 (by decide) ?_
  refine fb_gI (cs := [fb_o12 za zr fr_e0]) (rs := []) (fun (t : Unit) => [fb_o12 za zr (upd (upd fr_e0 19 (0 : Int32)) 19 (1 : Int32))]) (fun (t : Unit) => [fb_o12 za zr (upd (upd fr_e0 19 (0 : Int32)) 19 (1 : Int32))]) X I [0] 1 rfl (by decide +kernel) rfl rfl [0] 1 (fun _ => rfl) (by decide +kernel) (fun _ => rfl) (fun _ => rfl) (fun I => fb_rV (As := [.int l1, .int (1 : Int32), .int (5000 : Int32)]) (rest := []) X hl (fb_goodV fw_2346 fw_2348 fw_136 fw_204 fw_2349) (c_isNot_out l D cI cJ za zr fr_e0 l1 (1 : Int32) (5000 : Int32) _ q1) rfl rfl rfl (by decide +kernel : fb_hd yX12_isNot 3) ⟨Nat.le_of_ble_eq_true rfl, Nat.le_of_ble_eq_true rfl⟩ rfl rfl rfl rfl rfl (Nat.le_of_ble_eq_true rfl) ⟨Nat.zero_le _, Nat.zero_le _⟩ dX12_cyclesToHalt_6 I) ?_
  intro r2 w1 H locs e0 I
  subst e0
  have I : fb_In D A s.heap (([fb_o12 za zr (upd (upd fr_e0 19 (0 : Int32)) 19 (1 : Int32))] : List va_W).flatten) H locs := I
  refine lv_if_eq (tgt := 14) hx hb dX12_cyclesToHalt_9 (by decide) (fun c3 => absurd c3 (by decide)) (fun _ => ?_)
  refine lv_iconst (v := (0 : Int32)) hx hb dX12_cyclesToHalt_12 (by decide) ?_
  exact fb_retI (u := ()) X I rfl rfl dX12_cyclesToHalt_13

set_option maxHeartbeats 4000000 in
set_option maxRecDepth 100000 in
theorem b_cyclesToHalt_in_21 {p : Program} {l : Launch} {e : Env} {s : State} {m : MethodId} {args : Array Value} {below : List Frame} {meth : Method} {c : Code} {D : va_G} {cI cJ : ClassId} {A : Nat → Prop} {za : Nat} {zr : Nat → Nat} {zN : Nat} {w4 : Nat} {x5 : Nat} (X : fb_Bx p s m args meth c cX12_cyclesToHalt RX12 5 (some .int) D (fb_ty D cI cJ) A) (hN : 1 ≤ zN ∧ zN ≤ 5000)  : ∀ (n zi : Nat) (hn : zi + n = zN) (zq : fb_AR) (zu : fb_AR) (ik : ∀ k, ¬ k = 4 → ¬ k = 6 → ¬ k = 7 → zq k = (upd fr_e0 19 (0 : Int32)) k) (H : Heap) (locs : List Loc) (ls : Array Slot) (I : fb_In D A s.heap (([fb_o12 za (va_up zr 0 w4) zq, fb_aw cI w4 16205 (fr_m zu zi), fb_aw cI x5 16205 (fr_m (fun _ => 0) 0)] : List va_W).flatten) H locs) (hl : lv_has ls 5 [(3, .int (nI zi)), (2, .ref x5), (1, .int (nI zN)), (0, .ref za)]), W p l e ({ frames := 6, cells := 1, slots := 16205, locals := 144 } : Room) s m args below meth c H locs (0 + 1) (0 + 16205) (MQ below (fb_QI D A (fun (r : Int32) (t : Nat × Nat × fb_AR × fb_AR) => r = (-1 : Int32) ∧ (t.2.2.1) 19 = (0 : Int32)) (fun (t : Nat × Nat × fb_AR × fb_AR) => ([fb_o12 za (va_up (va_up zr 0 (t.1)) 0 (t.2.1)) (t.2.2.1), fb_aw cI (t.1) 16205 (fr_m (t.2.2.2) zN), fb_aw cI (t.2.1) 16205 (fr_m (fun _ => 0) 0)] : List va_W).flatten)) args s 1 16205 A) (F0 m 21 ls []) := by
  intro n
  obtain ⟨hx, hb, hr, hml, hown, hts, hlk, hA, hK, hF⟩ := id X
  induction n with
  | zero =>
    intro zi hn zq zu ik H locs ls I hl
    have ziE : zN = zi := by omega
    subst ziE
    refine lv_aload_n hx hb dX12_cyclesToHalt_21 rfl (lv_at hl 3 rfl) ?_
    refine fb_gO (cs := [fb_o12 za (va_up zr 0 w4) zq, fb_aw cI w4 16205 (fr_m zu zN)]) (rs := [fb_aw cI x5 16205 (fr_m (fun _ => 0) 0)]) X I [0, 1, 2] 3 rfl (by decide +kernel) rfl rfl (fun I => fb_rV (As := []) (rest := []) X hl (fb_goodV fw_2406 fw_2408 fw_139 fw_204 fw_2409) (c_isOver l D cI cJ za (va_up zr 0 w4) zq (fr_m zu zN) _ rfl) rfl rfl rfl (by decide +kernel : fb_hd yX12_isOver 0) ⟨Nat.le_of_ble_eq_true rfl, Nat.le_of_ble_eq_true rfl⟩ rfl rfl rfl rfl rfl (Nat.le_of_ble_eq_true rfl) ⟨Nat.le_of_ble_eq_true rfl, Nat.le_of_ble_eq_true rfl⟩ dX12_cyclesToHalt_22 I) ?_
    refine lv_if_ne (tgt := 43) hx hb dX12_cyclesToHalt_25 (by decide) (fun c6 => absurd (by decide) c6) (fun _ => ?_)
    refine lv_iload_n hx hb dX12_cyclesToHalt_28 rfl (lv_at hl 0 rfl) ?_
    refine lv_iload_n hx hb dX12_cyclesToHalt_29 rfl (lv_at hl 2 rfl) ?_
    refine lv_icmp_ge (tgt := 43) hx hb dX12_cyclesToHalt_30 (by decide) (fun _ => ?_) (fun c7 => absurd (nI_le (a := zN) (b := zN) (by omega) (by omega)) c7)
    refine lv_aload_n hx hb dX12_cyclesToHalt_43 rfl (lv_at hl 3 rfl) ?_
    refine fb_gO (cs := [fb_o12 za (va_up zr 0 w4) zq, fb_aw cI w4 16205 (fr_m zu zN)]) (rs := [fb_aw cI x5 16205 (fr_m (fun _ => 0) 0)]) X I [0, 1, 2] 3 rfl (by decide +kernel) rfl rfl (fun I => fb_rV (As := []) (rest := []) X hl (fb_goodV fw_2406 fw_2408 fw_139 fw_204 fw_2409) (c_isOver l D cI cJ za (va_up zr 0 w4) zq (fr_m zu zN) _ rfl) rfl rfl rfl (by decide +kernel : fb_hd yX12_isOver 0) ⟨Nat.le_of_ble_eq_true rfl, Nat.le_of_ble_eq_true rfl⟩ rfl rfl rfl rfl rfl (Nat.le_of_ble_eq_true rfl) ⟨Nat.le_of_ble_eq_true rfl, Nat.le_of_ble_eq_true rfl⟩ dX12_cyclesToHalt_44 I) ?_
    refine lv_istore (lv' := [(4, .int (0 : Int32)), (3, .int (nI zN)), (2, .ref x5), (1, .int (nI zN)), (0, .ref za)]) hx hb dX12_cyclesToHalt_47 hl (by decide) rfl (fun ls hl => ?_)
    refine lv_aload_n hx hb dX12_cyclesToHalt_49 rfl (lv_at hl 4 rfl) ?_
    refine lv_aload_n hx hb dX12_cyclesToHalt_50 rfl (lv_at hl 2 rfl) ?_
    refine fb_put X I (k := 0) (wn := ([fb_o12 za (va_up (va_up zr 0 w4) 0 x5) zq, fb_aw cI w4 16205 (fr_m zu zN), fb_aw cI x5 16205 (fr_m (fun _ => 0) 0)] : List va_W).flatten) fu_X12 tyX12 tyX12_ok nmX12 0 fb_h12 rfl (Nat.le_of_ble_eq_true rfl) fw_1964 rfl rfl rfl rfl rfl (Nat.le_of_ble_eq_true rfl) fb_r12_0 dX12_cyclesToHalt_51 (fun H locs I => ?_)
    refine lv_iload hx hb dX12_cyclesToHalt_54 (lv_at hl 0 rfl) ?_
    refine lv_if_eq (tgt := 63) hx hb dX12_cyclesToHalt_56 (by decide) (fun _ => ?_) (fun c8 => absurd (by decide) c8)
    refine lv_iconst (v := (-1 : Int32)) hx hb dX12_cyclesToHalt_63 (by decide) ?_
    refine W.widen (k := 1) (n := 16205) (by omega) (by omega) ?_
    exact fb_retI (u := (w4, x5, zq, zu)) X I ⟨rfl, (ik 19 (by decide) (by decide) (by decide))⟩ rfl dX12_cyclesToHalt_64
  | succ n ih =>
    intro zi hn zq zu ik H locs ls I hl
    have ziL : zi < zN := by omega
    refine lv_aload_n hx hb dX12_cyclesToHalt_21 rfl (lv_at hl 3 rfl) ?_
    refine fb_gO (cs := [fb_o12 za (va_up zr 0 w4) zq, fb_aw cI w4 16205 (fr_m zu zi)]) (rs := [fb_aw cI x5 16205 (fr_m (fun _ => 0) 0)]) X I [0, 1, 2] 3 rfl (by decide +kernel) rfl rfl (fun I => fb_rV (As := []) (rest := []) X hl (fb_goodV fw_2406 fw_2408 fw_139 fw_204 fw_2409) (c_isOver l D cI cJ za (va_up zr 0 w4) zq (fr_m zu zi) _ rfl) rfl rfl rfl (by decide +kernel : fb_hd yX12_isOver 0) ⟨Nat.le_of_ble_eq_true rfl, Nat.le_of_ble_eq_true rfl⟩ rfl rfl rfl rfl rfl (Nat.le_of_ble_eq_true rfl) ⟨Nat.le_of_ble_eq_true rfl, Nat.le_of_ble_eq_true rfl⟩ dX12_cyclesToHalt_22 I) ?_
    refine lv_if_ne (tgt := 43) hx hb dX12_cyclesToHalt_25 (by decide) (fun c9 => absurd (by decide) c9) (fun _ => ?_)
    refine lv_iload_n hx hb dX12_cyclesToHalt_28 rfl (lv_at hl 0 rfl) ?_
    refine lv_iload_n hx hb dX12_cyclesToHalt_29 rfl (lv_at hl 2 rfl) ?_
    refine lv_icmp_ge (tgt := 43) hx hb dX12_cyclesToHalt_30 (by decide) (fun c10 => absurd c10 (nI_ge (a := zi) (b := zN) (by omega) (by omega))) (fun _ => ?_)
    refine lv_iload_n hx hb dX12_cyclesToHalt_33 rfl (lv_at hl 0 rfl) ?_
    refine lv_aload_n hx hb dX12_cyclesToHalt_34 rfl (lv_at hl 3 rfl) ?_
    refine fb_gI (cs := [fb_o12 za (va_up zr 0 w4) zq, fb_aw cI w4 16205 (fr_m zu zi)]) (rs := [fb_aw cI x5 16205 (fr_m (fun _ => 0) 0)]) (fun (t : fb_AR) => [fb_o12 za (va_up zr 0 w4) (upd (upd (upd (upd zq 6 (0 : Int32)) 7 (0 : Int32)) 4 (0 : Int32)) 6 (1 : Int32)), fb_aw cI ((va_up zr 0 w4) 0) 16205 (fr_m t (zi + 1)), fb_aw cI x5 16205 (fr_m (fun _ => 0) 0)]) (fun (t : fb_AR) => [fb_o12 za (va_up zr 0 w4) (upd (upd (upd (upd zq 6 (0 : Int32)) 7 (0 : Int32)) 4 (0 : Int32)) 6 (1 : Int32)), fb_aw cI ((va_up zr 0 w4) 0) 16205 (fr_m t (zi + 1))]) X I [0, 1, 2] 3 rfl (by decide +kernel) rfl rfl [0, 1, 2] 3 (fun _ => rfl) (by decide +kernel) (fun _ => rfl) (fun _ => rfl) (fun I => fb_rV (As := []) (rest := [.int (nI zi)]) X hl (fb_goodV fw_2410 fw_2412 fw_140 fw_204 fw_2413) (c_one_n l D cI cJ za (va_up zr 0 w4) zq zu zi _ (by omega) ((ik 5 (by decide) (by decide) (by decide)).trans rfl)) rfl rfl rfl (by decide +kernel : fb_hd yX12_one 0) ⟨Nat.le_of_ble_eq_true rfl, Nat.le_of_ble_eq_true rfl⟩ rfl rfl rfl rfl rfl (Nat.le_of_ble_eq_true rfl) ⟨Nat.le_of_ble_eq_true rfl, Nat.le_of_ble_eq_true rfl⟩ dX12_cyclesToHalt_35 I) ?_
    intro r12 w11 H locs e0 I
    subst e0
    have I : fb_In D A s.heap (([fb_o12 za (va_up zr 0 w4) (upd (upd (upd (upd zq 6 (0 : Int32)) 7 (0 : Int32)) 4 (0 : Int32)) 6 (1 : Int32)), fb_aw cI w4 16205 (fr_m w11 (zi + 1)), fb_aw cI x5 16205 (fr_m (fun _ => 0) 0)] : List va_W).flatten) H locs := I
    refine lv_iadd hx hb dX12_cyclesToHalt_38 ?_
    refine fb_tI (v := (nI (zi + 1))) (nI_add zi 1) ?_
    refine lv_istore_n (lv' := [(3, .int (nI (zi + 1))), (2, .ref x5), (1, .int (nI zN)), (0, .ref za)]) hx hb dX12_cyclesToHalt_39 rfl hl (by decide) rfl (fun ls hl => ?_)
    refine lv_goto (tgt := 21) hx hb dX12_cyclesToHalt_40 (by decide) ?_
    refine W.widen (k := 0 + 1) (n := 0 + 16205) (by omega) (by omega) ?_
    exact ih (zi + 1) (by omega) (upd (upd (upd (upd zq 6 (0 : Int32)) 7 (0 : Int32)) 4 (0 : Int32)) 6 (1 : Int32)) w11 (fr_kn ik _ _ _ _) _ _ _ I (lv_sub hl [0, 1, 2, 3] rfl)
set_option maxHeartbeats 4000000 in
set_option maxRecDepth 100000 in
theorem c_cyclesToHalt_in (l : Launch) (D : va_G) (cI cJ : ClassId) (za : Nat) (zr : Nat → Nat) (zN : Nat) (sz : Nat) (hN : 1 ≤ zN ∧ zN ≤ 5000) : Met l yX12_cyclesToHalt (Cond.code yX12_cyclesToHalt cX12_cyclesToHalt 5 (some .int) :: fb_all) ({ frames := 6, cells := 1, slots := 16205, locals := 144 } : Room) (fb_PP D (fb_ty D cI cJ) [.ref za, .int (nI zN)] (([fb_o12 za zr fr_e0, fb_aw cI (zr 0) 16205 (fr_m (fun _ => 0) 0)] : List va_W).flatten) sz) (fb_QI D (va_A (([fb_o12 za zr fr_e0, fb_aw cI (zr 0) 16205 (fr_m (fun _ => 0) 0)] : List va_W).flatten) sz) (fun (r : Int32) (t : Nat × Nat × fb_AR × fb_AR) => r = (-1 : Int32) ∧ (t.2.2.1) 19 = (0 : Int32)) (fun (t : Nat × Nat × fb_AR × fb_AR) => ([fb_o12 za (va_up (va_up zr 0 (t.1)) 0 (t.2.1)) (t.2.2.1), fb_aw cI (t.1) 16205 (fr_m (t.2.2.2) zN), fb_aw cI (t.2.1) 16205 (fr_m (fun _ => 0) 0)] : List va_W).flatten)) 1 16205 (va_A (([fb_o12 za zr fr_e0, fb_aw cI (zr 0) 16205 (fr_m (fun _ => 0) 0)] : List va_W).flatten) sz) := by
  refine fb_ent (Qf := fun A => (fb_QI D A (fun (r : Int32) (t : Nat × Nat × fb_AR × fb_AR) => r = (-1 : Int32) ∧ (t.2.2.1) 19 = (0 : Int32)) (fun (t : Nat × Nat × fb_AR × fb_AR) => ([fb_o12 za (va_up (va_up zr 0 (t.1)) 0 (t.2.1)) (t.2.2.1), fb_aw cI (t.1) 16205 (fr_m (t.2.2.2) zN), fb_aw cI (t.2.1) 16205 (fr_m (fun _ => 0) 0)] : List va_W).flatten))) (by decide +kernel) (Nat.le_of_ble_eq_true rfl) ?_
  intro p e s m args below meth c A ls X I hl hin
  obtain ⟨hx, hb, hr, hml, hown, hts, hlk, hA, hK, hF⟩ := id X
  have hl : lv_has ls 5 [(0, .ref za), (1, .int (nI zN))] := hl
  refine lv_aload_n hx hb dX12_cyclesToHalt_0 rfl (lv_at hl 0 rfl) ?_
  refine lv_iload_n hx hb dX12_cyclesToHalt_1 rfl (lv_at hl 1 rfl) ?_
  refine lv_iconst (v := (1 : Int32)) hx hb dX12_cyclesToHalt_2 (by decide) ?_
  refine lv_sipush (v := (5000 : Int32)) hx hb dX12_cyclesToHalt_3 (by decide) ?_
  refine fb_gI (cs := [fb_o12 za zr fr_e0]) (rs := [fb_aw cI (zr 0) 16205 (fr_m (fun _ => 0) 0)]) (fun (t : Unit) => [fb_o12 za zr (upd fr_e0 19 (0 : Int32)), fb_aw cI (zr 0) 16205 (fr_m (fun _ => 0) 0)]) (fun (t : Unit) => [fb_o12 za zr (upd fr_e0 19 (0 : Int32))]) X I [0, 1] 2 rfl (by decide +kernel) rfl rfl [0, 1] 2 (fun _ => rfl) (by decide +kernel) (fun _ => rfl) (fun _ => rfl) (fun I => fb_rV (As := [.int (nI zN), .int (1 : Int32), .int (5000 : Int32)]) (rest := []) X hl (fb_goodV fw_2346 fw_2348 fw_136 fw_204 fw_2349) (c_isNot_in l D cI cJ za zr fr_e0 (nI zN) (1 : Int32) (5000 : Int32) _ (fr_inN (z := zN) (a := 1) (b := 5000) (by omega) (by omega) (by omega))) rfl rfl rfl (by decide +kernel : fb_hd yX12_isNot 3) ⟨Nat.le_of_ble_eq_true rfl, Nat.le_of_ble_eq_true rfl⟩ rfl rfl rfl rfl rfl (Nat.le_of_ble_eq_true rfl) ⟨Nat.zero_le _, Nat.zero_le _⟩ dX12_cyclesToHalt_6 I) ?_
  intro r2 w1 H locs e0 I
  subst e0
  have I : fb_In D A s.heap (([fb_o12 za zr (upd fr_e0 19 (0 : Int32)), fb_aw cI (zr 0) 16205 (fr_m (fun _ => 0) 0)] : List va_W).flatten) H locs := I
  refine lv_if_eq (tgt := 14) hx hb dX12_cyclesToHalt_9 (by decide) (fun _ => ?_) (fun c3 => absurd (by decide) c3)
  refine lv_aload_n hx hb dX12_cyclesToHalt_14 rfl (lv_at hl 0 rfl) ?_
  refine fb_gR (cs := [fb_o12 za zr (upd fr_e0 19 (0 : Int32)), fb_aw cI (zr 0) 16205 (fr_m (fun _ => 0) 0)]) (rs := []) (fun (t : Nat) (rr : Nat) => [fb_o12 za (va_up zr 0 t) (upd fr_e0 19 (0 : Int32)), fb_aw cI rr 16205 (fr_m (fun _ => 0) 0), fb_aw cI t 16205 (fr_m (fun _ => 0) 0)]) (fun (t : Nat) (rr : Nat) => [fb_o12 za (va_up zr 0 t) (upd fr_e0 19 (0 : Int32)), fb_aw cI rr 16205 (fr_m (fun _ => 0) 0), fb_aw cI t 16205 (fr_m (fun _ => 0) 0)]) X I [0, 1] 2 rfl (by decide +kernel) rfl rfl [0, 1, 2] 3 (fun _ _ => rfl) (by decide +kernel) (fun _ _ => rfl) (fun _ _ => rfl) (fun I => fb_rV (As := []) (rest := []) X hl (fb_goodV fw_2739 fw_2741 fw_185 fw_204 fw_2742) (c_trial l D cI cJ za zr (upd fr_e0 19 (0 : Int32)) (fr_m (fun _ => 0) 0) _ ) rfl rfl rfl (by decide +kernel : fb_hd yX12_trial 0) ⟨Nat.le_of_ble_eq_true rfl, Nat.le_of_ble_eq_true rfl⟩ rfl rfl rfl rfl rfl (Nat.le_of_ble_eq_true rfl) ⟨Nat.le_of_ble_eq_true rfl, Nat.le_of_ble_eq_true rfl⟩ dX12_cyclesToHalt_15 I) ?_
  intro w4 x5 H locs _ I
  have I : fb_In D A s.heap (([fb_o12 za (va_up zr 0 w4) (upd fr_e0 19 (0 : Int32)), fb_aw cI x5 16205 (fr_m (fun _ => 0) 0), fb_aw cI w4 16205 (fr_m (fun _ => 0) 0)] : List va_W).flatten) H locs := I
  refine lv_astore_n (lv' := [(2, .ref x5), (0, .ref za), (1, .int (nI zN))]) hx hb dX12_cyclesToHalt_18 rfl hl (by decide) rfl (fun ls hl => ?_)
  refine lv_iconst (v := (0 : Int32)) hx hb dX12_cyclesToHalt_19 (by decide) ?_
  refine lv_istore_n (lv' := [(3, .int (0 : Int32)), (2, .ref x5), (0, .ref za), (1, .int (nI zN))]) hx hb dX12_cyclesToHalt_20 rfl hl (by decide) rfl (fun ls hl => ?_)
  have I : fb_In D A s.heap (([fb_o12 za (va_up zr 0 w4) (upd fr_e0 19 (0 : Int32)), fb_aw cI w4 16205 (fr_m (fun _ => 0) 0), fb_aw cI x5 16205 (fr_m (fun _ => 0) 0)] : List va_W).flatten) H _ := fb_permB (bs := [fb_o12 za (va_up zr 0 w4) (upd fr_e0 19 (0 : Int32)), fb_aw cI x5 16205 (fr_m (fun _ => 0) 0), fb_aw cI w4 16205 (fr_m (fun _ => 0) 0)]) (bs' := [fb_o12 za (va_up zr 0 w4) (upd fr_e0 19 (0 : Int32)), fb_aw cI w4 16205 (fr_m (fun _ => 0) 0), fb_aw cI x5 16205 (fr_m (fun _ => 0) 0)]) I 3 rfl [0, 2, 1] (by decide +kernel) rfl
  exact b_cyclesToHalt_in_21 (za := za) (zr := zr) (zN := zN) (w4 := w4) (x5 := x5) X hN  (zN) 0 (by omega) (upd fr_e0 19 (0 : Int32)) (fun _ => 0) (fun _ _ _ _ => rfl) _ _ _ I (lv_sub hl [0, 1, 3, 2] rfl)

set_option maxHeartbeats 4000000 in
set_option maxRecDepth 100000 in
theorem c_isAt_y (l : Launch) (D : va_G) (cI cJ : ClassId) (za : Nat) (zr : Nat → Nat) (ze : fb_AR) (zt : fb_AR) (zk : Nat) (zj : Nat) (sz : Nat) (hz : zk % 4096 = zj) : Met l yX12_isAt (Cond.code yX12_isAt cX12_isAt 2 (some .boolean) :: fb_all) ({ frames := 3, cells := 0, slots := 0, locals := 71 } : Room) (fb_PP D (fb_ty D cI cJ) [.ref za, .int (nI zj)] (([fb_o12 za zr ze, fb_aw cI (zr 0) 16205 (fr_m zt zk)] : List va_W).flatten) sz) (vp_Si (fun r => r = (1 : Int32))) 0 0 (fun _ => False) := by
  refine fb_entR (by decide +kernel) (Nat.le_of_ble_eq_true rfl) ?_
  intro p e s m args below meth c A ls X I hl hin
  obtain ⟨hx, hb, hr, hml, hown, hts, hlk, hA, hK, hF⟩ := id X
  have hl : lv_has ls 2 [(0, .ref za), (1, .int (nI zj))] := hl
  refine lv_aload_n hx hb dX12_isAt_0 rfl (lv_at hl 0 rfl) ?_
  refine fb_get X I (k := 0) (v := .ref (zr 0)) fu_X12 0 fb_h12 rfl (Nat.le_of_ble_eq_true rfl) fw_1964 rfl rfl dX12_isAt_1 ?_
  refine lv_iconst (v := (5 : Int32)) hx hb dX12_isAt_4 (by decide) ?_
  refine fb_iaC (n := 5) (v := (0 : Int32)) X I 1 0 rfl rfl (by decide) (by decide) (Nat.le_of_ble_eq_true rfl) rfl dX12_isAt_5 ?_
  refine lv_if_ne (tgt := 30) hx hb dX12_isAt_6 (by decide) (fun c1 => absurd (by decide) c1) (fun _ => ?_)
  refine lv_aload_n hx hb dX12_isAt_9 rfl (lv_at hl 0 rfl) ?_
  refine fb_gO (cs := [fb_o12 za zr ze, fb_aw cI (zr 0) 16205 (fr_m zt zk)]) (rs := []) X I [0, 1] 2 rfl (by decide +kernel) rfl rfl (fun I => fb_rV (As := []) (rest := []) X hl (fb_goodV fw_2578 fw_2580 fw_179 fw_204 fw_2581) (c_isVectorNext l D cI cJ za zr ze (fr_m zt zk) _ rfl rfl) rfl rfl rfl (by decide +kernel : fb_hd yX12_isVectorNext 0) ⟨Nat.le_of_ble_eq_true rfl, Nat.le_of_ble_eq_true rfl⟩ rfl rfl rfl rfl rfl (Nat.le_of_ble_eq_true rfl) ⟨Nat.zero_le _, Nat.zero_le _⟩ dX12_isAt_10 I) ?_
  refine lv_if_ne (tgt := 30) hx hb dX12_isAt_13 (by decide) (fun c2 => absurd (by decide) c2) (fun _ => ?_)
  refine lv_aload_n hx hb dX12_isAt_16 rfl (lv_at hl 0 rfl) ?_
  refine fb_get X I (k := 0) (v := .ref (zr 0)) fu_X12 0 fb_h12 rfl (Nat.le_of_ble_eq_true rfl) fw_1964 rfl rfl dX12_isAt_17 ?_
  refine lv_iconst (v := (4 : Int32)) hx hb dX12_isAt_20 (by decide) ?_
  refine fb_iaC (n := 4) (v := (nI (zk % 4096))) X I 1 0 rfl rfl (by decide) (by decide) (Nat.le_of_ble_eq_true rfl) rfl dX12_isAt_21 ?_
  refine lv_iload_n hx hb dX12_isAt_22 rfl (lv_at hl 1 rfl) ?_
  refine lv_icmp_ne (tgt := 30) hx hb dX12_isAt_23 (by decide) (fun c3 => absurd (congrArg nI (show (zk % 4096) = zj by omega)) c3) (fun _ => ?_)
  refine lv_iconst (v := (1 : Int32)) hx hb dX12_isAt_26 (by decide) ?_
  refine lv_goto (tgt := 31) hx hb dX12_isAt_27 (by decide) ?_
  exact fb_retRI X rfl rfl dX12_isAt_31

set_option maxHeartbeats 4000000 in
set_option maxRecDepth 100000 in
theorem c_isAt_n (l : Launch) (D : va_G) (cI cJ : ClassId) (za : Nat) (zr : Nat → Nat) (ze : fb_AR) (zt : fb_AR) (zk : Nat) (zj : Nat) (sz : Nat) (hj : zj < 4096) (hz : ¬ zk % 4096 = zj) : Met l yX12_isAt (Cond.code yX12_isAt cX12_isAt 2 (some .boolean) :: fb_all) ({ frames := 3, cells := 0, slots := 0, locals := 71 } : Room) (fb_PP D (fb_ty D cI cJ) [.ref za, .int (nI zj)] (([fb_o12 za zr ze, fb_aw cI (zr 0) 16205 (fr_m zt zk)] : List va_W).flatten) sz) (vp_Si (fun r => r = (0 : Int32))) 0 0 (fun _ => False) := by
  refine fb_entR (by decide +kernel) (Nat.le_of_ble_eq_true rfl) ?_
  intro p e s m args below meth c A ls X I hl hin
  obtain ⟨hx, hb, hr, hml, hown, hts, hlk, hA, hK, hF⟩ := id X
  have hl : lv_has ls 2 [(0, .ref za), (1, .int (nI zj))] := hl
  refine lv_aload_n hx hb dX12_isAt_0 rfl (lv_at hl 0 rfl) ?_
  refine fb_get X I (k := 0) (v := .ref (zr 0)) fu_X12 0 fb_h12 rfl (Nat.le_of_ble_eq_true rfl) fw_1964 rfl rfl dX12_isAt_1 ?_
  refine lv_iconst (v := (5 : Int32)) hx hb dX12_isAt_4 (by decide) ?_
  refine fb_iaC (n := 5) (v := (0 : Int32)) X I 1 0 rfl rfl (by decide) (by decide) (Nat.le_of_ble_eq_true rfl) rfl dX12_isAt_5 ?_
  refine lv_if_ne (tgt := 30) hx hb dX12_isAt_6 (by decide) (fun c1 => absurd (by decide) c1) (fun _ => ?_)
  refine lv_aload_n hx hb dX12_isAt_9 rfl (lv_at hl 0 rfl) ?_
  refine fb_gO (cs := [fb_o12 za zr ze, fb_aw cI (zr 0) 16205 (fr_m zt zk)]) (rs := []) X I [0, 1] 2 rfl (by decide +kernel) rfl rfl (fun I => fb_rV (As := []) (rest := []) X hl (fb_goodV fw_2578 fw_2580 fw_179 fw_204 fw_2581) (c_isVectorNext l D cI cJ za zr ze (fr_m zt zk) _ rfl rfl) rfl rfl rfl (by decide +kernel : fb_hd yX12_isVectorNext 0) ⟨Nat.le_of_ble_eq_true rfl, Nat.le_of_ble_eq_true rfl⟩ rfl rfl rfl rfl rfl (Nat.le_of_ble_eq_true rfl) ⟨Nat.zero_le _, Nat.zero_le _⟩ dX12_isAt_10 I) ?_
  refine lv_if_ne (tgt := 30) hx hb dX12_isAt_13 (by decide) (fun c2 => absurd (by decide) c2) (fun _ => ?_)
  refine lv_aload_n hx hb dX12_isAt_16 rfl (lv_at hl 0 rfl) ?_
  refine fb_get X I (k := 0) (v := .ref (zr 0)) fu_X12 0 fb_h12 rfl (Nat.le_of_ble_eq_true rfl) fw_1964 rfl rfl dX12_isAt_17 ?_
  refine lv_iconst (v := (4 : Int32)) hx hb dX12_isAt_20 (by decide) ?_
  refine fb_iaC (n := 4) (v := (nI (zk % 4096))) X I 1 0 rfl rfl (by decide) (by decide) (Nat.le_of_ble_eq_true rfl) rfl dX12_isAt_21 ?_
  refine lv_iload_n hx hb dX12_isAt_22 rfl (lv_at hl 1 rfl) ?_
  refine lv_icmp_ne (tgt := 30) hx hb dX12_isAt_23 (by decide) (fun _ => ?_) (fun c3 => absurd c3 (fun q9 => absurd ((nI_eq (a := (zk % 4096)) (b := zj) (by omega) (by omega)).mp q9) (by omega)))
  refine lv_iconst (v := (0 : Int32)) hx hb dX12_isAt_30 (by decide) ?_
  exact fb_retRI X rfl rfl dX12_isAt_31

set_option maxHeartbeats 4000000 in
set_option maxRecDepth 100000 in
theorem c_cyclesToReach_out (l : Launch) (D : va_G) (cI cJ : ClassId) (za : Nat) (zr : Nat → Nat) (l1 : Int32) (l2 : Int32) (sz : Nat) (q1 : f_X12_isIn l1 (0 : Int32) (4095 : Int32) = (0 : Int32)) : Met l yX12_cyclesToReach (Cond.code yX12_cyclesToReach cX12_cyclesToReach 6 (some .int) :: fb_all) ({ frames := 3, cells := 0, slots := 0, locals := 75 } : Room) (fb_PP D (fb_ty D cI cJ) [.ref za, .int l1, .int l2] (([fb_o12 za zr fr_e0] : List va_W).flatten) sz) (fb_QI D (va_A (([fb_o12 za zr fr_e0] : List va_W).flatten) sz) (fun (r : Int32) (_ : Unit) => r = (0 : Int32)) (fun (t : Unit) => ([fb_o12 za zr (upd (upd fr_e0 19 (0 : Int32)) 19 (1 : Int32))] : List va_W).flatten)) 0 0 (va_A (([fb_o12 za zr fr_e0] : List va_W).flatten) sz) := by
  refine fb_ent (Qf := fun A => (fb_QI D A (fun (r : Int32) (_ : Unit) => r = (0 : Int32)) (fun (t : Unit) => ([fb_o12 za zr (upd (upd fr_e0 19 (0 : Int32)) 19 (1 : Int32))] : List va_W).flatten))) (by decide +kernel) (Nat.le_of_ble_eq_true rfl) ?_
  intro p e s m args below meth c A ls X I hl hin
  obtain ⟨hx, hb, hr, hml, hown, hts, hlk, hA, hK, hF⟩ := id X
  have hl : lv_has ls 6 [(0, .ref za), (1, .int l1), (2, .int l2)] := hl
  refine lv_aload_n hx hb dX12_cyclesToReach_0 rfl (lv_at hl 0 rfl) ?_
  refine lv_iload_n hx hb dX12_cyclesToReach_1 rfl (lv_at hl 1 rfl) ?_
  refine lv_iconst (v := (0 : Int32)) hx hb dX12_cyclesToReach_2 (by decide) ?_
  refine lv_sipush (v := (4095 : Int32)) hx hb dX12_cyclesToReach_3 (by decide) ?_
  refine fb_gI (cs := [fb_o12 za zr fr_e0]) (rs := []) (fun (t : Unit) => [fb_o12 za zr (upd (upd fr_e0 19 (0 : Int32)) 19 (1 : Int32))]) (fun (t : Unit) => [fb_o12 za zr (upd (upd fr_e0 19 (0 : Int32)) 19 (1 : Int32))]) X I [0] 1 rfl (by decide +kernel) rfl rfl [0] 1 (fun _ => rfl) (by decide +kernel) (fun _ => rfl) (fun _ => rfl) (fun I => fb_rV (As := [.int l1, .int (0 : Int32), .int (4095 : Int32)]) (rest := []) X hl (fb_goodV fw_2346 fw_2348 fw_136 fw_204 fw_2349) (c_isNot_out l D cI cJ za zr fr_e0 l1 (0 : Int32) (4095 : Int32) _ q1) rfl rfl rfl (by decide +kernel : fb_hd yX12_isNot 3) ⟨Nat.le_of_ble_eq_true rfl, Nat.le_of_ble_eq_true rfl⟩ rfl rfl rfl rfl rfl (Nat.le_of_ble_eq_true rfl) ⟨Nat.zero_le _, Nat.zero_le _⟩ dX12_cyclesToReach_6 I) ?_
  intro r2 w1 H locs e0 I
  subst e0
  have I : fb_In D A s.heap (([fb_o12 za zr (upd (upd fr_e0 19 (0 : Int32)) 19 (1 : Int32))] : List va_W).flatten) H locs := I
  refine lv_if_ne (tgt := 36) hx hb dX12_cyclesToReach_9 (by decide) (fun _ => ?_) (fun c3 => absurd c3 (by decide))
  refine lv_iconst (v := (0 : Int32)) hx hb dX12_cyclesToReach_36 (by decide) ?_
  exact fb_retI (u := ()) X I rfl rfl dX12_cyclesToReach_37

set_option maxHeartbeats 4000000 in
set_option maxRecDepth 100000 in
theorem c_cyclesToReach_bad (l : Launch) (D : va_G) (cI cJ : ClassId) (za : Nat) (zr : Nat → Nat) (zj : Nat) (l2 : Int32) (sz : Nat) (hj : zj < 4096) (q1 : f_X12_isIn l2 (1 : Int32) (5000 : Int32) = (0 : Int32)) : Met l yX12_cyclesToReach (Cond.code yX12_cyclesToReach cX12_cyclesToReach 6 (some .int) :: fb_all) ({ frames := 3, cells := 0, slots := 0, locals := 75 } : Room) (fb_PP D (fb_ty D cI cJ) [.ref za, .int (nI zj), .int l2] (([fb_o12 za zr fr_e0] : List va_W).flatten) sz) (fb_QI D (va_A (([fb_o12 za zr fr_e0] : List va_W).flatten) sz) (fun (r : Int32) (_ : Unit) => r = (0 : Int32)) (fun (t : Unit) => ([fb_o12 za zr (upd (upd fr_e0 19 (0 : Int32)) 19 (1 : Int32))] : List va_W).flatten)) 0 0 (va_A (([fb_o12 za zr fr_e0] : List va_W).flatten) sz) := by
  refine fb_ent (Qf := fun A => (fb_QI D A (fun (r : Int32) (_ : Unit) => r = (0 : Int32)) (fun (t : Unit) => ([fb_o12 za zr (upd (upd fr_e0 19 (0 : Int32)) 19 (1 : Int32))] : List va_W).flatten))) (by decide +kernel) (Nat.le_of_ble_eq_true rfl) ?_
  intro p e s m args below meth c A ls X I hl hin
  obtain ⟨hx, hb, hr, hml, hown, hts, hlk, hA, hK, hF⟩ := id X
  have hl : lv_has ls 6 [(0, .ref za), (1, .int (nI zj)), (2, .int l2)] := hl
  refine lv_aload_n hx hb dX12_cyclesToReach_0 rfl (lv_at hl 0 rfl) ?_
  refine lv_iload_n hx hb dX12_cyclesToReach_1 rfl (lv_at hl 1 rfl) ?_
  refine lv_iconst (v := (0 : Int32)) hx hb dX12_cyclesToReach_2 (by decide) ?_
  refine lv_sipush (v := (4095 : Int32)) hx hb dX12_cyclesToReach_3 (by decide) ?_
  refine fb_gI (cs := [fb_o12 za zr fr_e0]) (rs := []) (fun (t : Unit) => [fb_o12 za zr (upd fr_e0 19 (0 : Int32))]) (fun (t : Unit) => [fb_o12 za zr (upd fr_e0 19 (0 : Int32))]) X I [0] 1 rfl (by decide +kernel) rfl rfl [0] 1 (fun _ => rfl) (by decide +kernel) (fun _ => rfl) (fun _ => rfl) (fun I => fb_rV (As := [.int (nI zj), .int (0 : Int32), .int (4095 : Int32)]) (rest := []) X hl (fb_goodV fw_2346 fw_2348 fw_136 fw_204 fw_2349) (c_isNot_in l D cI cJ za zr fr_e0 (nI zj) (0 : Int32) (4095 : Int32) _ (fr_inN (z := zj) (a := 0) (b := 4095) (by omega) (by omega) (by omega))) rfl rfl rfl (by decide +kernel : fb_hd yX12_isNot 3) ⟨Nat.le_of_ble_eq_true rfl, Nat.le_of_ble_eq_true rfl⟩ rfl rfl rfl rfl rfl (Nat.le_of_ble_eq_true rfl) ⟨Nat.zero_le _, Nat.zero_le _⟩ dX12_cyclesToReach_6 I) ?_
  intro r2 w1 H locs e0 I
  subst e0
  have I : fb_In D A s.heap (([fb_o12 za zr (upd fr_e0 19 (0 : Int32))] : List va_W).flatten) H locs := I
  refine lv_if_ne (tgt := 36) hx hb dX12_cyclesToReach_9 (by decide) (fun c3 => absurd (by decide) c3) (fun _ => ?_)
  refine lv_aload_n hx hb dX12_cyclesToReach_12 rfl (lv_at hl 0 rfl) ?_
  refine lv_iload_n hx hb dX12_cyclesToReach_13 rfl (lv_at hl 2 rfl) ?_
  refine lv_iconst (v := (1 : Int32)) hx hb dX12_cyclesToReach_14 (by decide) ?_
  refine lv_sipush (v := (5000 : Int32)) hx hb dX12_cyclesToReach_15 (by decide) ?_
  refine fb_gO (cs := []) (rs := [fb_o12 za zr (upd fr_e0 19 (0 : Int32))]) X I [0] 1 rfl (by decide +kernel) rfl rfl (fun I => fb_rS (As := [.int l2, .int (1 : Int32), .int (5000 : Int32)]) (rest := [.ref za]) X hl (fb_goodS fw_2147 fw_2148 fw_204 fw_2149) (c_X12_isIn l D cI cJ l2 (1 : Int32) (5000 : Int32) _) rfl rfl (by decide +kernel : fb_hd yX12_isIn 3) ⟨Nat.le_of_ble_eq_true rfl, Nat.le_of_ble_eq_true rfl⟩ rfl rfl (Nat.le_of_ble_eq_true rfl) ⟨Nat.le_of_ble_eq_true rfl, Nat.le_of_ble_eq_true rfl⟩ dX12_cyclesToReach_18 I) ?_
  refine fb_tI (v := (0 : Int32)) q1 ?_
  refine lv_if_ne (tgt := 28) hx hb dX12_cyclesToReach_21 (by decide) (fun c4 => absurd (by decide) c4) (fun _ => ?_)
  refine lv_iconst (v := (1 : Int32)) hx hb dX12_cyclesToReach_24 (by decide) ?_
  refine lv_goto (tgt := 29) hx hb dX12_cyclesToReach_25 (by decide) ?_
  refine lv_iconst (v := (1 : Int32)) hx hb dX12_cyclesToReach_29 (by decide) ?_
  refine fb_gI (cs := [fb_o12 za zr (upd fr_e0 19 (0 : Int32))]) (rs := []) (fun (t : Unit) => [fb_o12 za zr (upd (upd fr_e0 19 (0 : Int32)) 19 (1 : Int32))]) (fun (t : Unit) => [fb_o12 za zr (upd (upd fr_e0 19 (0 : Int32)) 19 (1 : Int32))]) X I [0] 1 rfl (by decide +kernel) rfl rfl [0] 1 (fun _ => rfl) (by decide +kernel) (fun _ => rfl) (fun _ => rfl) (fun I => fb_rV (As := [.int (1 : Int32), .int (1 : Int32)]) (rest := []) X hl (fb_goodV fw_2350 fw_2352 fw_137 fw_204 fw_2353) (c_refuse_t l D cI cJ za zr (upd fr_e0 19 (0 : Int32)) (1 : Int32) _ rfl) rfl rfl rfl (by decide +kernel : fb_hd yX12_refuse 2) ⟨Nat.le_of_ble_eq_true rfl, Nat.le_of_ble_eq_true rfl⟩ rfl rfl rfl rfl rfl (Nat.le_of_ble_eq_true rfl) ⟨Nat.zero_le _, Nat.zero_le _⟩ dX12_cyclesToReach_30 I) ?_
  intro r6 w5 H locs e0 I
  subst e0
  have I : fb_In D A s.heap (([fb_o12 za zr (upd (upd fr_e0 19 (0 : Int32)) 19 (1 : Int32))] : List va_W).flatten) H locs := I
  refine lv_if_eq (tgt := 38) hx hb dX12_cyclesToReach_33 (by decide) (fun c7 => absurd c7 (by decide)) (fun _ => ?_)
  refine lv_iconst (v := (0 : Int32)) hx hb dX12_cyclesToReach_36 (by decide) ?_
  exact fb_retI (u := ()) X I rfl rfl dX12_cyclesToReach_37

set_option maxHeartbeats 4000000 in
set_option maxRecDepth 100000 in
theorem b_cyclesToReach_y_46 {p : Program} {l : Launch} {e : Env} {s : State} {m : MethodId} {args : Array Value} {below : List Frame} {meth : Method} {c : Code} {D : va_G} {cI cJ : ClassId} {A : Nat → Prop} {za : Nat} {zr : Nat → Nat} {zj : Nat} {zN : Nat} {w6 : Nat} {x7 : Nat} (X : fb_Bx p s m args meth c cX12_cyclesToReach RX12 6 (some .int) D (fb_ty D cI cJ) A) (hj : zj < 4096) (hN : 1 ≤ zN ∧ zN ≤ 5000) (hz : zj ≤ zN)  : ∀ (n zi : Nat) (hn : zi + n = zj) (zq : fb_AR) (zu : fb_AR) (ik : ∀ k, ¬ k = 4 → ¬ k = 6 → ¬ k = 7 → zq k = (upd fr_e0 19 (0 : Int32)) k) (H : Heap) (locs : List Loc) (ls : Array Slot) (I : fb_In D A s.heap (([fb_o12 za (va_up zr 0 w6) zq, fb_aw cI w6 16205 (fr_m zu zi), fb_aw cI x7 16205 (fr_m (fun _ => 0) 0)] : List va_W).flatten) H locs) (hl : lv_has ls 6 [(4, .int (nI zi)), (3, .ref x7), (2, .int (nI zN)), (1, .int (nI zj)), (0, .ref za)]), W p l e ({ frames := 6, cells := 1, slots := 16205, locals := 144 } : Room) s m args below meth c H locs (0 + 1) (0 + 16205) (MQ below (fb_QI D A (fun (r : Int32) (t : Nat × Nat × fb_AR × fb_AR) => r = (nI zj) ∧ (t.2.2.1) 19 = (0 : Int32)) (fun (t : Nat × Nat × fb_AR × fb_AR) => ([fb_o12 za (va_up (va_up zr 0 (t.1)) 0 (t.2.1)) (t.2.2.1), fb_aw cI (t.1) 16205 (fr_m (t.2.2.2) zj), fb_aw cI (t.2.1) 16205 (fr_m (fun _ => 0) 0)] : List va_W).flatten)) args s 1 16205 A) (F0 m 46 ls []) := by
  intro n
  obtain ⟨hx, hb, hr, hml, hown, hts, hlk, hA, hK, hF⟩ := id X
  induction n with
  | zero =>
    intro zi hn zq zu ik H locs ls I hl
    have ziE : zj = zi := by omega
    subst ziE
    refine lv_aload_n hx hb dX12_cyclesToReach_46 rfl (lv_at hl 4 rfl) ?_
    refine lv_iload_n hx hb dX12_cyclesToReach_47 rfl (lv_at hl 3 rfl) ?_
    refine fb_gO (cs := [fb_o12 za (va_up zr 0 w6) zq, fb_aw cI w6 16205 (fr_m zu zj)]) (rs := [fb_aw cI x7 16205 (fr_m (fun _ => 0) 0)]) X I [0, 1, 2] 3 rfl (by decide +kernel) rfl rfl (fun I => fb_rV (As := [.int (nI zj)]) (rest := []) X hl (fb_goodV fw_2747 fw_2749 fw_186 fw_204 fw_2750) (c_isAt_y l D cI cJ za (va_up zr 0 w6) zq zu zj zj _ (by omega)) rfl rfl rfl (by decide +kernel : fb_hd yX12_isAt 1) ⟨Nat.le_of_ble_eq_true rfl, Nat.le_of_ble_eq_true rfl⟩ rfl rfl rfl rfl rfl (Nat.le_of_ble_eq_true rfl) ⟨Nat.le_of_ble_eq_true rfl, Nat.le_of_ble_eq_true rfl⟩ dX12_cyclesToReach_48 I) ?_
    refine lv_if_ne (tgt := 79) hx hb dX12_cyclesToReach_51 (by decide) (fun _ => ?_) (fun c8 => absurd c8 (by decide))
    refine lv_aload_n hx hb dX12_cyclesToReach_79 rfl (lv_at hl 4 rfl) ?_
    refine lv_iload_n hx hb dX12_cyclesToReach_80 rfl (lv_at hl 3 rfl) ?_
    refine fb_gO (cs := [fb_o12 za (va_up zr 0 w6) zq, fb_aw cI w6 16205 (fr_m zu zj)]) (rs := [fb_aw cI x7 16205 (fr_m (fun _ => 0) 0)]) X I [0, 1, 2] 3 rfl (by decide +kernel) rfl rfl (fun I => fb_rV (As := [.int (nI zj)]) (rest := []) X hl (fb_goodV fw_2747 fw_2749 fw_186 fw_204 fw_2750) (c_isAt_y l D cI cJ za (va_up zr 0 w6) zq zu zj zj _ (by omega)) rfl rfl rfl (by decide +kernel : fb_hd yX12_isAt 1) ⟨Nat.le_of_ble_eq_true rfl, Nat.le_of_ble_eq_true rfl⟩ rfl rfl rfl rfl rfl (Nat.le_of_ble_eq_true rfl) ⟨Nat.le_of_ble_eq_true rfl, Nat.le_of_ble_eq_true rfl⟩ dX12_cyclesToReach_81 I) ?_
    refine lv_istore (lv' := [(5, .int (1 : Int32)), (4, .int (nI zj)), (3, .ref x7), (2, .int (nI zN)), (1, .int (nI zj)), (0, .ref za)]) hx hb dX12_cyclesToReach_84 hl (by decide) rfl (fun ls hl => ?_)
    refine lv_aload_n hx hb dX12_cyclesToReach_86 rfl (lv_at hl 5 rfl) ?_
    refine lv_aload_n hx hb dX12_cyclesToReach_87 rfl (lv_at hl 2 rfl) ?_
    refine fb_put X I (k := 0) (wn := ([fb_o12 za (va_up (va_up zr 0 w6) 0 x7) zq, fb_aw cI w6 16205 (fr_m zu zj), fb_aw cI x7 16205 (fr_m (fun _ => 0) 0)] : List va_W).flatten) fu_X12 tyX12 tyX12_ok nmX12 0 fb_h12 rfl (Nat.le_of_ble_eq_true rfl) fw_1964 rfl rfl rfl rfl rfl (Nat.le_of_ble_eq_true rfl) fb_r12_0 dX12_cyclesToReach_88 (fun H locs I => ?_)
    refine lv_iload hx hb dX12_cyclesToReach_91 (lv_at hl 0 rfl) ?_
    refine lv_if_eq (tgt := 101) hx hb dX12_cyclesToReach_93 (by decide) (fun c9 => absurd c9 (by decide)) (fun _ => ?_)
    refine lv_iload hx hb dX12_cyclesToReach_96 (lv_at hl 1 rfl) ?_
    refine lv_goto (tgt := 102) hx hb dX12_cyclesToReach_98 (by decide) ?_
    refine W.widen (k := 1) (n := 16205) (by omega) (by omega) ?_
    exact fb_retI (u := (w6, x7, zq, zu)) X I ⟨rfl, (ik 19 (by decide) (by decide) (by decide))⟩ rfl dX12_cyclesToReach_102
  | succ n ih =>
    intro zi hn zq zu ik H locs ls I hl
    have ziL : zi < zj := by omega
    refine lv_aload_n hx hb dX12_cyclesToReach_46 rfl (lv_at hl 4 rfl) ?_
    refine lv_iload_n hx hb dX12_cyclesToReach_47 rfl (lv_at hl 3 rfl) ?_
    refine fb_gO (cs := [fb_o12 za (va_up zr 0 w6) zq, fb_aw cI w6 16205 (fr_m zu zi)]) (rs := [fb_aw cI x7 16205 (fr_m (fun _ => 0) 0)]) X I [0, 1, 2] 3 rfl (by decide +kernel) rfl rfl (fun I => fb_rV (As := [.int (nI zj)]) (rest := []) X hl (fb_goodV fw_2747 fw_2749 fw_186 fw_204 fw_2750) (c_isAt_n l D cI cJ za (va_up zr 0 w6) zq zu zi zj _ (by omega) (by omega)) rfl rfl rfl (by decide +kernel : fb_hd yX12_isAt 1) ⟨Nat.le_of_ble_eq_true rfl, Nat.le_of_ble_eq_true rfl⟩ rfl rfl rfl rfl rfl (Nat.le_of_ble_eq_true rfl) ⟨Nat.le_of_ble_eq_true rfl, Nat.le_of_ble_eq_true rfl⟩ dX12_cyclesToReach_48 I) ?_
    refine lv_if_ne (tgt := 79) hx hb dX12_cyclesToReach_51 (by decide) (fun c10 => absurd (by decide) c10) (fun _ => ?_)
    refine lv_aload_n hx hb dX12_cyclesToReach_54 rfl (lv_at hl 4 rfl) ?_
    refine fb_gO (cs := [fb_o12 za (va_up zr 0 w6) zq, fb_aw cI w6 16205 (fr_m zu zi)]) (rs := [fb_aw cI x7 16205 (fr_m (fun _ => 0) 0)]) X I [0, 1, 2] 3 rfl (by decide +kernel) rfl rfl (fun I => fb_rV (As := []) (rest := []) X hl (fb_goodV fw_2406 fw_2408 fw_139 fw_204 fw_2409) (c_isOver l D cI cJ za (va_up zr 0 w6) zq (fr_m zu zi) _ rfl) rfl rfl rfl (by decide +kernel : fb_hd yX12_isOver 0) ⟨Nat.le_of_ble_eq_true rfl, Nat.le_of_ble_eq_true rfl⟩ rfl rfl rfl rfl rfl (Nat.le_of_ble_eq_true rfl) ⟨Nat.le_of_ble_eq_true rfl, Nat.le_of_ble_eq_true rfl⟩ dX12_cyclesToReach_55 I) ?_
    refine lv_if_ne (tgt := 79) hx hb dX12_cyclesToReach_58 (by decide) (fun c11 => absurd (by decide) c11) (fun _ => ?_)
    refine lv_iload hx hb dX12_cyclesToReach_61 (lv_at hl 0 rfl) ?_
    refine lv_iload_n hx hb dX12_cyclesToReach_63 rfl (lv_at hl 2 rfl) ?_
    refine lv_icmp_ge (tgt := 79) hx hb dX12_cyclesToReach_64 (by decide) (fun c12 => absurd c12 (nI_ge (a := zi) (b := zN) (by omega) (by omega))) (fun _ => ?_)
    refine lv_iload hx hb dX12_cyclesToReach_67 (lv_at hl 0 rfl) ?_
    refine lv_aload_n hx hb dX12_cyclesToReach_69 rfl (lv_at hl 4 rfl) ?_
    refine fb_gI (cs := [fb_o12 za (va_up zr 0 w6) zq, fb_aw cI w6 16205 (fr_m zu zi)]) (rs := [fb_aw cI x7 16205 (fr_m (fun _ => 0) 0)]) (fun (t : fb_AR) => [fb_o12 za (va_up zr 0 w6) (upd (upd (upd (upd zq 6 (0 : Int32)) 7 (0 : Int32)) 4 (0 : Int32)) 6 (1 : Int32)), fb_aw cI ((va_up zr 0 w6) 0) 16205 (fr_m t (zi + 1)), fb_aw cI x7 16205 (fr_m (fun _ => 0) 0)]) (fun (t : fb_AR) => [fb_o12 za (va_up zr 0 w6) (upd (upd (upd (upd zq 6 (0 : Int32)) 7 (0 : Int32)) 4 (0 : Int32)) 6 (1 : Int32)), fb_aw cI ((va_up zr 0 w6) 0) 16205 (fr_m t (zi + 1))]) X I [0, 1, 2] 3 rfl (by decide +kernel) rfl rfl [0, 1, 2] 3 (fun _ => rfl) (by decide +kernel) (fun _ => rfl) (fun _ => rfl) (fun I => fb_rV (As := []) (rest := [.int (nI zi)]) X hl (fb_goodV fw_2410 fw_2412 fw_140 fw_204 fw_2413) (c_one_n l D cI cJ za (va_up zr 0 w6) zq zu zi _ (by omega) ((ik 5 (by decide) (by decide) (by decide)).trans rfl)) rfl rfl rfl (by decide +kernel : fb_hd yX12_one 0) ⟨Nat.le_of_ble_eq_true rfl, Nat.le_of_ble_eq_true rfl⟩ rfl rfl rfl rfl rfl (Nat.le_of_ble_eq_true rfl) ⟨Nat.le_of_ble_eq_true rfl, Nat.le_of_ble_eq_true rfl⟩ dX12_cyclesToReach_70 I) ?_
    intro r14 w13 H locs e0 I
    subst e0
    have I : fb_In D A s.heap (([fb_o12 za (va_up zr 0 w6) (upd (upd (upd (upd zq 6 (0 : Int32)) 7 (0 : Int32)) 4 (0 : Int32)) 6 (1 : Int32)), fb_aw cI w6 16205 (fr_m w13 (zi + 1)), fb_aw cI x7 16205 (fr_m (fun _ => 0) 0)] : List va_W).flatten) H locs := I
    refine lv_iadd hx hb dX12_cyclesToReach_73 ?_
    refine fb_tI (v := (nI (zi + 1))) (nI_add zi 1) ?_
    refine lv_istore (lv' := [(4, .int (nI (zi + 1))), (3, .ref x7), (2, .int (nI zN)), (1, .int (nI zj)), (0, .ref za)]) hx hb dX12_cyclesToReach_74 hl (by decide) rfl (fun ls hl => ?_)
    refine lv_goto (tgt := 46) hx hb dX12_cyclesToReach_76 (by decide) ?_
    refine W.widen (k := 0 + 1) (n := 0 + 16205) (by omega) (by omega) ?_
    exact ih (zi + 1) (by omega) (upd (upd (upd (upd zq 6 (0 : Int32)) 7 (0 : Int32)) 4 (0 : Int32)) 6 (1 : Int32)) w13 (fr_kn ik _ _ _ _) _ _ _ I (lv_sub hl [0, 1, 2, 3, 4] rfl)
set_option maxHeartbeats 4000000 in
set_option maxRecDepth 100000 in
theorem c_cyclesToReach_y (l : Launch) (D : va_G) (cI cJ : ClassId) (za : Nat) (zr : Nat → Nat) (zj : Nat) (zN : Nat) (sz : Nat) (hj : zj < 4096) (hN : 1 ≤ zN ∧ zN ≤ 5000) (hz : zj ≤ zN) : Met l yX12_cyclesToReach (Cond.code yX12_cyclesToReach cX12_cyclesToReach 6 (some .int) :: fb_all) ({ frames := 6, cells := 1, slots := 16205, locals := 144 } : Room) (fb_PP D (fb_ty D cI cJ) [.ref za, .int (nI zj), .int (nI zN)] (([fb_o12 za zr fr_e0, fb_aw cI (zr 0) 16205 (fr_m (fun _ => 0) 0)] : List va_W).flatten) sz) (fb_QI D (va_A (([fb_o12 za zr fr_e0, fb_aw cI (zr 0) 16205 (fr_m (fun _ => 0) 0)] : List va_W).flatten) sz) (fun (r : Int32) (t : Nat × Nat × fb_AR × fb_AR) => r = (nI zj) ∧ (t.2.2.1) 19 = (0 : Int32)) (fun (t : Nat × Nat × fb_AR × fb_AR) => ([fb_o12 za (va_up (va_up zr 0 (t.1)) 0 (t.2.1)) (t.2.2.1), fb_aw cI (t.1) 16205 (fr_m (t.2.2.2) zj), fb_aw cI (t.2.1) 16205 (fr_m (fun _ => 0) 0)] : List va_W).flatten)) 1 16205 (va_A (([fb_o12 za zr fr_e0, fb_aw cI (zr 0) 16205 (fr_m (fun _ => 0) 0)] : List va_W).flatten) sz) := by
  refine fb_ent (Qf := fun A => (fb_QI D A (fun (r : Int32) (t : Nat × Nat × fb_AR × fb_AR) => r = (nI zj) ∧ (t.2.2.1) 19 = (0 : Int32)) (fun (t : Nat × Nat × fb_AR × fb_AR) => ([fb_o12 za (va_up (va_up zr 0 (t.1)) 0 (t.2.1)) (t.2.2.1), fb_aw cI (t.1) 16205 (fr_m (t.2.2.2) zj), fb_aw cI (t.2.1) 16205 (fr_m (fun _ => 0) 0)] : List va_W).flatten))) (by decide +kernel) (Nat.le_of_ble_eq_true rfl) ?_
  intro p e s m args below meth c A ls X I hl hin
  obtain ⟨hx, hb, hr, hml, hown, hts, hlk, hA, hK, hF⟩ := id X
  have hl : lv_has ls 6 [(0, .ref za), (1, .int (nI zj)), (2, .int (nI zN))] := hl
  refine lv_aload_n hx hb dX12_cyclesToReach_0 rfl (lv_at hl 0 rfl) ?_
  refine lv_iload_n hx hb dX12_cyclesToReach_1 rfl (lv_at hl 1 rfl) ?_
  refine lv_iconst (v := (0 : Int32)) hx hb dX12_cyclesToReach_2 (by decide) ?_
  refine lv_sipush (v := (4095 : Int32)) hx hb dX12_cyclesToReach_3 (by decide) ?_
  refine fb_gI (cs := [fb_o12 za zr fr_e0]) (rs := [fb_aw cI (zr 0) 16205 (fr_m (fun _ => 0) 0)]) (fun (t : Unit) => [fb_o12 za zr (upd fr_e0 19 (0 : Int32)), fb_aw cI (zr 0) 16205 (fr_m (fun _ => 0) 0)]) (fun (t : Unit) => [fb_o12 za zr (upd fr_e0 19 (0 : Int32))]) X I [0, 1] 2 rfl (by decide +kernel) rfl rfl [0, 1] 2 (fun _ => rfl) (by decide +kernel) (fun _ => rfl) (fun _ => rfl) (fun I => fb_rV (As := [.int (nI zj), .int (0 : Int32), .int (4095 : Int32)]) (rest := []) X hl (fb_goodV fw_2346 fw_2348 fw_136 fw_204 fw_2349) (c_isNot_in l D cI cJ za zr fr_e0 (nI zj) (0 : Int32) (4095 : Int32) _ (fr_inN (z := zj) (a := 0) (b := 4095) (by omega) (by omega) (by omega))) rfl rfl rfl (by decide +kernel : fb_hd yX12_isNot 3) ⟨Nat.le_of_ble_eq_true rfl, Nat.le_of_ble_eq_true rfl⟩ rfl rfl rfl rfl rfl (Nat.le_of_ble_eq_true rfl) ⟨Nat.zero_le _, Nat.zero_le _⟩ dX12_cyclesToReach_6 I) ?_
  intro r2 w1 H locs e0 I
  subst e0
  have I : fb_In D A s.heap (([fb_o12 za zr (upd fr_e0 19 (0 : Int32)), fb_aw cI (zr 0) 16205 (fr_m (fun _ => 0) 0)] : List va_W).flatten) H locs := I
  refine lv_if_ne (tgt := 36) hx hb dX12_cyclesToReach_9 (by decide) (fun c3 => absurd (by decide) c3) (fun _ => ?_)
  refine lv_aload_n hx hb dX12_cyclesToReach_12 rfl (lv_at hl 0 rfl) ?_
  refine lv_iload_n hx hb dX12_cyclesToReach_13 rfl (lv_at hl 2 rfl) ?_
  refine lv_iconst (v := (1 : Int32)) hx hb dX12_cyclesToReach_14 (by decide) ?_
  refine lv_sipush (v := (5000 : Int32)) hx hb dX12_cyclesToReach_15 (by decide) ?_
  refine fb_gO (cs := []) (rs := [fb_o12 za zr (upd fr_e0 19 (0 : Int32)), fb_aw cI (zr 0) 16205 (fr_m (fun _ => 0) 0)]) X I [0, 1] 2 rfl (by decide +kernel) rfl rfl (fun I => fb_rS (As := [.int (nI zN), .int (1 : Int32), .int (5000 : Int32)]) (rest := [.ref za]) X hl (fb_goodS fw_2147 fw_2148 fw_204 fw_2149) (c_X12_isIn l D cI cJ (nI zN) (1 : Int32) (5000 : Int32) _) rfl rfl (by decide +kernel : fb_hd yX12_isIn 3) ⟨Nat.le_of_ble_eq_true rfl, Nat.le_of_ble_eq_true rfl⟩ rfl rfl (Nat.le_of_ble_eq_true rfl) ⟨Nat.le_of_ble_eq_true rfl, Nat.le_of_ble_eq_true rfl⟩ dX12_cyclesToReach_18 I) ?_
  refine fb_tI (v := (1 : Int32)) (fr_inN (z := zN) (a := 1) (b := 5000) (by omega) (by omega) (by omega)) ?_
  refine lv_if_ne (tgt := 28) hx hb dX12_cyclesToReach_21 (by decide) (fun _ => ?_) (fun c4 => absurd c4 (by decide))
  refine lv_iconst (v := (0 : Int32)) hx hb dX12_cyclesToReach_28 (by decide) ?_
  refine lv_iconst (v := (1 : Int32)) hx hb dX12_cyclesToReach_29 (by decide) ?_
  refine fb_gO (cs := [fb_o12 za zr (upd fr_e0 19 (0 : Int32))]) (rs := [fb_aw cI (zr 0) 16205 (fr_m (fun _ => 0) 0)]) X I [0, 1] 2 rfl (by decide +kernel) rfl rfl (fun I => fb_rV (As := [.int (0 : Int32), .int (1 : Int32)]) (rest := []) X hl (fb_goodV fw_2350 fw_2352 fw_137 fw_204 fw_2353) (c_refuse_f l D cI cJ za zr (upd fr_e0 19 (0 : Int32)) (1 : Int32) _ ) rfl rfl rfl (by decide +kernel : fb_hd yX12_refuse 2) ⟨Nat.le_of_ble_eq_true rfl, Nat.le_of_ble_eq_true rfl⟩ rfl rfl rfl rfl rfl (Nat.le_of_ble_eq_true rfl) ⟨Nat.zero_le _, Nat.zero_le _⟩ dX12_cyclesToReach_30 I) ?_
  refine lv_if_eq (tgt := 38) hx hb dX12_cyclesToReach_33 (by decide) (fun _ => ?_) (fun c5 => absurd (by decide) c5)
  refine lv_aload_n hx hb dX12_cyclesToReach_38 rfl (lv_at hl 0 rfl) ?_
  refine fb_gR (cs := [fb_o12 za zr (upd fr_e0 19 (0 : Int32)), fb_aw cI (zr 0) 16205 (fr_m (fun _ => 0) 0)]) (rs := []) (fun (t : Nat) (rr : Nat) => [fb_o12 za (va_up zr 0 t) (upd fr_e0 19 (0 : Int32)), fb_aw cI rr 16205 (fr_m (fun _ => 0) 0), fb_aw cI t 16205 (fr_m (fun _ => 0) 0)]) (fun (t : Nat) (rr : Nat) => [fb_o12 za (va_up zr 0 t) (upd fr_e0 19 (0 : Int32)), fb_aw cI rr 16205 (fr_m (fun _ => 0) 0), fb_aw cI t 16205 (fr_m (fun _ => 0) 0)]) X I [0, 1] 2 rfl (by decide +kernel) rfl rfl [0, 1, 2] 3 (fun _ _ => rfl) (by decide +kernel) (fun _ _ => rfl) (fun _ _ => rfl) (fun I => fb_rV (As := []) (rest := []) X hl (fb_goodV fw_2739 fw_2741 fw_185 fw_204 fw_2742) (c_trial l D cI cJ za zr (upd fr_e0 19 (0 : Int32)) (fr_m (fun _ => 0) 0) _ ) rfl rfl rfl (by decide +kernel : fb_hd yX12_trial 0) ⟨Nat.le_of_ble_eq_true rfl, Nat.le_of_ble_eq_true rfl⟩ rfl rfl rfl rfl rfl (Nat.le_of_ble_eq_true rfl) ⟨Nat.le_of_ble_eq_true rfl, Nat.le_of_ble_eq_true rfl⟩ dX12_cyclesToReach_39 I) ?_
  intro w6 x7 H locs _ I
  have I : fb_In D A s.heap (([fb_o12 za (va_up zr 0 w6) (upd fr_e0 19 (0 : Int32)), fb_aw cI x7 16205 (fr_m (fun _ => 0) 0), fb_aw cI w6 16205 (fr_m (fun _ => 0) 0)] : List va_W).flatten) H locs := I
  refine lv_astore_n (lv' := [(3, .ref x7), (0, .ref za), (1, .int (nI zj)), (2, .int (nI zN))]) hx hb dX12_cyclesToReach_42 rfl hl (by decide) rfl (fun ls hl => ?_)
  refine lv_iconst (v := (0 : Int32)) hx hb dX12_cyclesToReach_43 (by decide) ?_
  refine lv_istore (lv' := [(4, .int (0 : Int32)), (3, .ref x7), (0, .ref za), (1, .int (nI zj)), (2, .int (nI zN))]) hx hb dX12_cyclesToReach_44 hl (by decide) rfl (fun ls hl => ?_)
  have I : fb_In D A s.heap (([fb_o12 za (va_up zr 0 w6) (upd fr_e0 19 (0 : Int32)), fb_aw cI w6 16205 (fr_m (fun _ => 0) 0), fb_aw cI x7 16205 (fr_m (fun _ => 0) 0)] : List va_W).flatten) H _ := fb_permB (bs := [fb_o12 za (va_up zr 0 w6) (upd fr_e0 19 (0 : Int32)), fb_aw cI x7 16205 (fr_m (fun _ => 0) 0), fb_aw cI w6 16205 (fr_m (fun _ => 0) 0)]) (bs' := [fb_o12 za (va_up zr 0 w6) (upd fr_e0 19 (0 : Int32)), fb_aw cI w6 16205 (fr_m (fun _ => 0) 0), fb_aw cI x7 16205 (fr_m (fun _ => 0) 0)]) I 3 rfl [0, 2, 1] (by decide +kernel) rfl
  exact b_cyclesToReach_y_46 (za := za) (zr := zr) (zj := zj) (zN := zN) (w6 := w6) (x7 := x7) X hj hN hz  (zj) 0 (by omega) (upd fr_e0 19 (0 : Int32)) (fun _ => 0) (fun _ _ _ _ => rfl) _ _ _ I (lv_sub hl [0, 1, 4, 3, 2] rfl)

set_option maxHeartbeats 4000000 in
set_option maxRecDepth 100000 in
theorem b_cyclesToReach_n_46 {p : Program} {l : Launch} {e : Env} {s : State} {m : MethodId} {args : Array Value} {below : List Frame} {meth : Method} {c : Code} {D : va_G} {cI cJ : ClassId} {A : Nat → Prop} {za : Nat} {zr : Nat → Nat} {zj : Nat} {zN : Nat} {w6 : Nat} {x7 : Nat} (X : fb_Bx p s m args meth c cX12_cyclesToReach RX12 6 (some .int) D (fb_ty D cI cJ) A) (hj : zj < 4096) (hN : 1 ≤ zN ∧ zN ≤ 5000) (hz : zN < zj)  : ∀ (n zi : Nat) (hn : zi + n = zN) (zq : fb_AR) (zu : fb_AR) (ik : ∀ k, ¬ k = 4 → ¬ k = 6 → ¬ k = 7 → zq k = (upd fr_e0 19 (0 : Int32)) k) (H : Heap) (locs : List Loc) (ls : Array Slot) (I : fb_In D A s.heap (([fb_o12 za (va_up zr 0 w6) zq, fb_aw cI w6 16205 (fr_m zu zi), fb_aw cI x7 16205 (fr_m (fun _ => 0) 0)] : List va_W).flatten) H locs) (hl : lv_has ls 6 [(4, .int (nI zi)), (3, .ref x7), (2, .int (nI zN)), (1, .int (nI zj)), (0, .ref za)]), W p l e ({ frames := 6, cells := 1, slots := 16205, locals := 144 } : Room) s m args below meth c H locs (0 + 1) (0 + 16205) (MQ below (fb_QI D A (fun (r : Int32) (t : Nat × Nat × fb_AR × fb_AR) => r = (-1 : Int32) ∧ (t.2.2.1) 19 = (0 : Int32)) (fun (t : Nat × Nat × fb_AR × fb_AR) => ([fb_o12 za (va_up (va_up zr 0 (t.1)) 0 (t.2.1)) (t.2.2.1), fb_aw cI (t.1) 16205 (fr_m (t.2.2.2) zN), fb_aw cI (t.2.1) 16205 (fr_m (fun _ => 0) 0)] : List va_W).flatten)) args s 1 16205 A) (F0 m 46 ls []) := by
  intro n
  obtain ⟨hx, hb, hr, hml, hown, hts, hlk, hA, hK, hF⟩ := id X
  induction n with
  | zero =>
    intro zi hn zq zu ik H locs ls I hl
    have ziE : zN = zi := by omega
    subst ziE
    refine lv_aload_n hx hb dX12_cyclesToReach_46 rfl (lv_at hl 4 rfl) ?_
    refine lv_iload_n hx hb dX12_cyclesToReach_47 rfl (lv_at hl 3 rfl) ?_
    refine fb_gO (cs := [fb_o12 za (va_up zr 0 w6) zq, fb_aw cI w6 16205 (fr_m zu zN)]) (rs := [fb_aw cI x7 16205 (fr_m (fun _ => 0) 0)]) X I [0, 1, 2] 3 rfl (by decide +kernel) rfl rfl (fun I => fb_rV (As := [.int (nI zj)]) (rest := []) X hl (fb_goodV fw_2747 fw_2749 fw_186 fw_204 fw_2750) (c_isAt_n l D cI cJ za (va_up zr 0 w6) zq zu zN zj _ (by omega) (by omega)) rfl rfl rfl (by decide +kernel : fb_hd yX12_isAt 1) ⟨Nat.le_of_ble_eq_true rfl, Nat.le_of_ble_eq_true rfl⟩ rfl rfl rfl rfl rfl (Nat.le_of_ble_eq_true rfl) ⟨Nat.le_of_ble_eq_true rfl, Nat.le_of_ble_eq_true rfl⟩ dX12_cyclesToReach_48 I) ?_
    refine lv_if_ne (tgt := 79) hx hb dX12_cyclesToReach_51 (by decide) (fun c8 => absurd (by decide) c8) (fun _ => ?_)
    refine lv_aload_n hx hb dX12_cyclesToReach_54 rfl (lv_at hl 4 rfl) ?_
    refine fb_gO (cs := [fb_o12 za (va_up zr 0 w6) zq, fb_aw cI w6 16205 (fr_m zu zN)]) (rs := [fb_aw cI x7 16205 (fr_m (fun _ => 0) 0)]) X I [0, 1, 2] 3 rfl (by decide +kernel) rfl rfl (fun I => fb_rV (As := []) (rest := []) X hl (fb_goodV fw_2406 fw_2408 fw_139 fw_204 fw_2409) (c_isOver l D cI cJ za (va_up zr 0 w6) zq (fr_m zu zN) _ rfl) rfl rfl rfl (by decide +kernel : fb_hd yX12_isOver 0) ⟨Nat.le_of_ble_eq_true rfl, Nat.le_of_ble_eq_true rfl⟩ rfl rfl rfl rfl rfl (Nat.le_of_ble_eq_true rfl) ⟨Nat.le_of_ble_eq_true rfl, Nat.le_of_ble_eq_true rfl⟩ dX12_cyclesToReach_55 I) ?_
    refine lv_if_ne (tgt := 79) hx hb dX12_cyclesToReach_58 (by decide) (fun c9 => absurd (by decide) c9) (fun _ => ?_)
    refine lv_iload hx hb dX12_cyclesToReach_61 (lv_at hl 0 rfl) ?_
    refine lv_iload_n hx hb dX12_cyclesToReach_63 rfl (lv_at hl 2 rfl) ?_
    refine lv_icmp_ge (tgt := 79) hx hb dX12_cyclesToReach_64 (by decide) (fun _ => ?_) (fun c10 => absurd (nI_le (a := zN) (b := zN) (by omega) (by omega)) c10)
    refine lv_aload_n hx hb dX12_cyclesToReach_79 rfl (lv_at hl 4 rfl) ?_
    refine lv_iload_n hx hb dX12_cyclesToReach_80 rfl (lv_at hl 3 rfl) ?_
    refine fb_gO (cs := [fb_o12 za (va_up zr 0 w6) zq, fb_aw cI w6 16205 (fr_m zu zN)]) (rs := [fb_aw cI x7 16205 (fr_m (fun _ => 0) 0)]) X I [0, 1, 2] 3 rfl (by decide +kernel) rfl rfl (fun I => fb_rV (As := [.int (nI zj)]) (rest := []) X hl (fb_goodV fw_2747 fw_2749 fw_186 fw_204 fw_2750) (c_isAt_n l D cI cJ za (va_up zr 0 w6) zq zu zN zj _ (by omega) (by omega)) rfl rfl rfl (by decide +kernel : fb_hd yX12_isAt 1) ⟨Nat.le_of_ble_eq_true rfl, Nat.le_of_ble_eq_true rfl⟩ rfl rfl rfl rfl rfl (Nat.le_of_ble_eq_true rfl) ⟨Nat.le_of_ble_eq_true rfl, Nat.le_of_ble_eq_true rfl⟩ dX12_cyclesToReach_81 I) ?_
    refine lv_istore (lv' := [(5, .int (0 : Int32)), (4, .int (nI zN)), (3, .ref x7), (2, .int (nI zN)), (1, .int (nI zj)), (0, .ref za)]) hx hb dX12_cyclesToReach_84 hl (by decide) rfl (fun ls hl => ?_)
    refine lv_aload_n hx hb dX12_cyclesToReach_86 rfl (lv_at hl 5 rfl) ?_
    refine lv_aload_n hx hb dX12_cyclesToReach_87 rfl (lv_at hl 2 rfl) ?_
    refine fb_put X I (k := 0) (wn := ([fb_o12 za (va_up (va_up zr 0 w6) 0 x7) zq, fb_aw cI w6 16205 (fr_m zu zN), fb_aw cI x7 16205 (fr_m (fun _ => 0) 0)] : List va_W).flatten) fu_X12 tyX12 tyX12_ok nmX12 0 fb_h12 rfl (Nat.le_of_ble_eq_true rfl) fw_1964 rfl rfl rfl rfl rfl (Nat.le_of_ble_eq_true rfl) fb_r12_0 dX12_cyclesToReach_88 (fun H locs I => ?_)
    refine lv_iload hx hb dX12_cyclesToReach_91 (lv_at hl 0 rfl) ?_
    refine lv_if_eq (tgt := 101) hx hb dX12_cyclesToReach_93 (by decide) (fun _ => ?_) (fun c11 => absurd (by decide) c11)
    refine lv_iconst (v := (-1 : Int32)) hx hb dX12_cyclesToReach_101 (by decide) ?_
    refine W.widen (k := 1) (n := 16205) (by omega) (by omega) ?_
    exact fb_retI (u := (w6, x7, zq, zu)) X I ⟨rfl, (ik 19 (by decide) (by decide) (by decide))⟩ rfl dX12_cyclesToReach_102
  | succ n ih =>
    intro zi hn zq zu ik H locs ls I hl
    have ziL : zi < zN := by omega
    refine lv_aload_n hx hb dX12_cyclesToReach_46 rfl (lv_at hl 4 rfl) ?_
    refine lv_iload_n hx hb dX12_cyclesToReach_47 rfl (lv_at hl 3 rfl) ?_
    refine fb_gO (cs := [fb_o12 za (va_up zr 0 w6) zq, fb_aw cI w6 16205 (fr_m zu zi)]) (rs := [fb_aw cI x7 16205 (fr_m (fun _ => 0) 0)]) X I [0, 1, 2] 3 rfl (by decide +kernel) rfl rfl (fun I => fb_rV (As := [.int (nI zj)]) (rest := []) X hl (fb_goodV fw_2747 fw_2749 fw_186 fw_204 fw_2750) (c_isAt_n l D cI cJ za (va_up zr 0 w6) zq zu zi zj _ (by omega) (by omega)) rfl rfl rfl (by decide +kernel : fb_hd yX12_isAt 1) ⟨Nat.le_of_ble_eq_true rfl, Nat.le_of_ble_eq_true rfl⟩ rfl rfl rfl rfl rfl (Nat.le_of_ble_eq_true rfl) ⟨Nat.le_of_ble_eq_true rfl, Nat.le_of_ble_eq_true rfl⟩ dX12_cyclesToReach_48 I) ?_
    refine lv_if_ne (tgt := 79) hx hb dX12_cyclesToReach_51 (by decide) (fun c12 => absurd (by decide) c12) (fun _ => ?_)
    refine lv_aload_n hx hb dX12_cyclesToReach_54 rfl (lv_at hl 4 rfl) ?_
    refine fb_gO (cs := [fb_o12 za (va_up zr 0 w6) zq, fb_aw cI w6 16205 (fr_m zu zi)]) (rs := [fb_aw cI x7 16205 (fr_m (fun _ => 0) 0)]) X I [0, 1, 2] 3 rfl (by decide +kernel) rfl rfl (fun I => fb_rV (As := []) (rest := []) X hl (fb_goodV fw_2406 fw_2408 fw_139 fw_204 fw_2409) (c_isOver l D cI cJ za (va_up zr 0 w6) zq (fr_m zu zi) _ rfl) rfl rfl rfl (by decide +kernel : fb_hd yX12_isOver 0) ⟨Nat.le_of_ble_eq_true rfl, Nat.le_of_ble_eq_true rfl⟩ rfl rfl rfl rfl rfl (Nat.le_of_ble_eq_true rfl) ⟨Nat.le_of_ble_eq_true rfl, Nat.le_of_ble_eq_true rfl⟩ dX12_cyclesToReach_55 I) ?_
    refine lv_if_ne (tgt := 79) hx hb dX12_cyclesToReach_58 (by decide) (fun c13 => absurd (by decide) c13) (fun _ => ?_)
    refine lv_iload hx hb dX12_cyclesToReach_61 (lv_at hl 0 rfl) ?_
    refine lv_iload_n hx hb dX12_cyclesToReach_63 rfl (lv_at hl 2 rfl) ?_
    refine lv_icmp_ge (tgt := 79) hx hb dX12_cyclesToReach_64 (by decide) (fun c14 => absurd c14 (nI_ge (a := zi) (b := zN) (by omega) (by omega))) (fun _ => ?_)
    refine lv_iload hx hb dX12_cyclesToReach_67 (lv_at hl 0 rfl) ?_
    refine lv_aload_n hx hb dX12_cyclesToReach_69 rfl (lv_at hl 4 rfl) ?_
    refine fb_gI (cs := [fb_o12 za (va_up zr 0 w6) zq, fb_aw cI w6 16205 (fr_m zu zi)]) (rs := [fb_aw cI x7 16205 (fr_m (fun _ => 0) 0)]) (fun (t : fb_AR) => [fb_o12 za (va_up zr 0 w6) (upd (upd (upd (upd zq 6 (0 : Int32)) 7 (0 : Int32)) 4 (0 : Int32)) 6 (1 : Int32)), fb_aw cI ((va_up zr 0 w6) 0) 16205 (fr_m t (zi + 1)), fb_aw cI x7 16205 (fr_m (fun _ => 0) 0)]) (fun (t : fb_AR) => [fb_o12 za (va_up zr 0 w6) (upd (upd (upd (upd zq 6 (0 : Int32)) 7 (0 : Int32)) 4 (0 : Int32)) 6 (1 : Int32)), fb_aw cI ((va_up zr 0 w6) 0) 16205 (fr_m t (zi + 1))]) X I [0, 1, 2] 3 rfl (by decide +kernel) rfl rfl [0, 1, 2] 3 (fun _ => rfl) (by decide +kernel) (fun _ => rfl) (fun _ => rfl) (fun I => fb_rV (As := []) (rest := [.int (nI zi)]) X hl (fb_goodV fw_2410 fw_2412 fw_140 fw_204 fw_2413) (c_one_n l D cI cJ za (va_up zr 0 w6) zq zu zi _ (by omega) ((ik 5 (by decide) (by decide) (by decide)).trans rfl)) rfl rfl rfl (by decide +kernel : fb_hd yX12_one 0) ⟨Nat.le_of_ble_eq_true rfl, Nat.le_of_ble_eq_true rfl⟩ rfl rfl rfl rfl rfl (Nat.le_of_ble_eq_true rfl) ⟨Nat.le_of_ble_eq_true rfl, Nat.le_of_ble_eq_true rfl⟩ dX12_cyclesToReach_70 I) ?_
    intro r16 w15 H locs e0 I
    subst e0
    have I : fb_In D A s.heap (([fb_o12 za (va_up zr 0 w6) (upd (upd (upd (upd zq 6 (0 : Int32)) 7 (0 : Int32)) 4 (0 : Int32)) 6 (1 : Int32)), fb_aw cI w6 16205 (fr_m w15 (zi + 1)), fb_aw cI x7 16205 (fr_m (fun _ => 0) 0)] : List va_W).flatten) H locs := I
    refine lv_iadd hx hb dX12_cyclesToReach_73 ?_
    refine fb_tI (v := (nI (zi + 1))) (nI_add zi 1) ?_
    refine lv_istore (lv' := [(4, .int (nI (zi + 1))), (3, .ref x7), (2, .int (nI zN)), (1, .int (nI zj)), (0, .ref za)]) hx hb dX12_cyclesToReach_74 hl (by decide) rfl (fun ls hl => ?_)
    refine lv_goto (tgt := 46) hx hb dX12_cyclesToReach_76 (by decide) ?_
    refine W.widen (k := 0 + 1) (n := 0 + 16205) (by omega) (by omega) ?_
    exact ih (zi + 1) (by omega) (upd (upd (upd (upd zq 6 (0 : Int32)) 7 (0 : Int32)) 4 (0 : Int32)) 6 (1 : Int32)) w15 (fr_kn ik _ _ _ _) _ _ _ I (lv_sub hl [0, 1, 2, 3, 4] rfl)
set_option maxHeartbeats 4000000 in
set_option maxRecDepth 100000 in
theorem c_cyclesToReach_n (l : Launch) (D : va_G) (cI cJ : ClassId) (za : Nat) (zr : Nat → Nat) (zj : Nat) (zN : Nat) (sz : Nat) (hj : zj < 4096) (hN : 1 ≤ zN ∧ zN ≤ 5000) (hz : zN < zj) : Met l yX12_cyclesToReach (Cond.code yX12_cyclesToReach cX12_cyclesToReach 6 (some .int) :: fb_all) ({ frames := 6, cells := 1, slots := 16205, locals := 144 } : Room) (fb_PP D (fb_ty D cI cJ) [.ref za, .int (nI zj), .int (nI zN)] (([fb_o12 za zr fr_e0, fb_aw cI (zr 0) 16205 (fr_m (fun _ => 0) 0)] : List va_W).flatten) sz) (fb_QI D (va_A (([fb_o12 za zr fr_e0, fb_aw cI (zr 0) 16205 (fr_m (fun _ => 0) 0)] : List va_W).flatten) sz) (fun (r : Int32) (t : Nat × Nat × fb_AR × fb_AR) => r = (-1 : Int32) ∧ (t.2.2.1) 19 = (0 : Int32)) (fun (t : Nat × Nat × fb_AR × fb_AR) => ([fb_o12 za (va_up (va_up zr 0 (t.1)) 0 (t.2.1)) (t.2.2.1), fb_aw cI (t.1) 16205 (fr_m (t.2.2.2) zN), fb_aw cI (t.2.1) 16205 (fr_m (fun _ => 0) 0)] : List va_W).flatten)) 1 16205 (va_A (([fb_o12 za zr fr_e0, fb_aw cI (zr 0) 16205 (fr_m (fun _ => 0) 0)] : List va_W).flatten) sz) := by
  refine fb_ent (Qf := fun A => (fb_QI D A (fun (r : Int32) (t : Nat × Nat × fb_AR × fb_AR) => r = (-1 : Int32) ∧ (t.2.2.1) 19 = (0 : Int32)) (fun (t : Nat × Nat × fb_AR × fb_AR) => ([fb_o12 za (va_up (va_up zr 0 (t.1)) 0 (t.2.1)) (t.2.2.1), fb_aw cI (t.1) 16205 (fr_m (t.2.2.2) zN), fb_aw cI (t.2.1) 16205 (fr_m (fun _ => 0) 0)] : List va_W).flatten))) (by decide +kernel) (Nat.le_of_ble_eq_true rfl) ?_
  intro p e s m args below meth c A ls X I hl hin
  obtain ⟨hx, hb, hr, hml, hown, hts, hlk, hA, hK, hF⟩ := id X
  have hl : lv_has ls 6 [(0, .ref za), (1, .int (nI zj)), (2, .int (nI zN))] := hl
  refine lv_aload_n hx hb dX12_cyclesToReach_0 rfl (lv_at hl 0 rfl) ?_
  refine lv_iload_n hx hb dX12_cyclesToReach_1 rfl (lv_at hl 1 rfl) ?_
  refine lv_iconst (v := (0 : Int32)) hx hb dX12_cyclesToReach_2 (by decide) ?_
  refine lv_sipush (v := (4095 : Int32)) hx hb dX12_cyclesToReach_3 (by decide) ?_
  refine fb_gI (cs := [fb_o12 za zr fr_e0]) (rs := [fb_aw cI (zr 0) 16205 (fr_m (fun _ => 0) 0)]) (fun (t : Unit) => [fb_o12 za zr (upd fr_e0 19 (0 : Int32)), fb_aw cI (zr 0) 16205 (fr_m (fun _ => 0) 0)]) (fun (t : Unit) => [fb_o12 za zr (upd fr_e0 19 (0 : Int32))]) X I [0, 1] 2 rfl (by decide +kernel) rfl rfl [0, 1] 2 (fun _ => rfl) (by decide +kernel) (fun _ => rfl) (fun _ => rfl) (fun I => fb_rV (As := [.int (nI zj), .int (0 : Int32), .int (4095 : Int32)]) (rest := []) X hl (fb_goodV fw_2346 fw_2348 fw_136 fw_204 fw_2349) (c_isNot_in l D cI cJ za zr fr_e0 (nI zj) (0 : Int32) (4095 : Int32) _ (fr_inN (z := zj) (a := 0) (b := 4095) (by omega) (by omega) (by omega))) rfl rfl rfl (by decide +kernel : fb_hd yX12_isNot 3) ⟨Nat.le_of_ble_eq_true rfl, Nat.le_of_ble_eq_true rfl⟩ rfl rfl rfl rfl rfl (Nat.le_of_ble_eq_true rfl) ⟨Nat.zero_le _, Nat.zero_le _⟩ dX12_cyclesToReach_6 I) ?_
  intro r2 w1 H locs e0 I
  subst e0
  have I : fb_In D A s.heap (([fb_o12 za zr (upd fr_e0 19 (0 : Int32)), fb_aw cI (zr 0) 16205 (fr_m (fun _ => 0) 0)] : List va_W).flatten) H locs := I
  refine lv_if_ne (tgt := 36) hx hb dX12_cyclesToReach_9 (by decide) (fun c3 => absurd (by decide) c3) (fun _ => ?_)
  refine lv_aload_n hx hb dX12_cyclesToReach_12 rfl (lv_at hl 0 rfl) ?_
  refine lv_iload_n hx hb dX12_cyclesToReach_13 rfl (lv_at hl 2 rfl) ?_
  refine lv_iconst (v := (1 : Int32)) hx hb dX12_cyclesToReach_14 (by decide) ?_
  refine lv_sipush (v := (5000 : Int32)) hx hb dX12_cyclesToReach_15 (by decide) ?_
  refine fb_gO (cs := []) (rs := [fb_o12 za zr (upd fr_e0 19 (0 : Int32)), fb_aw cI (zr 0) 16205 (fr_m (fun _ => 0) 0)]) X I [0, 1] 2 rfl (by decide +kernel) rfl rfl (fun I => fb_rS (As := [.int (nI zN), .int (1 : Int32), .int (5000 : Int32)]) (rest := [.ref za]) X hl (fb_goodS fw_2147 fw_2148 fw_204 fw_2149) (c_X12_isIn l D cI cJ (nI zN) (1 : Int32) (5000 : Int32) _) rfl rfl (by decide +kernel : fb_hd yX12_isIn 3) ⟨Nat.le_of_ble_eq_true rfl, Nat.le_of_ble_eq_true rfl⟩ rfl rfl (Nat.le_of_ble_eq_true rfl) ⟨Nat.le_of_ble_eq_true rfl, Nat.le_of_ble_eq_true rfl⟩ dX12_cyclesToReach_18 I) ?_
  refine fb_tI (v := (1 : Int32)) (fr_inN (z := zN) (a := 1) (b := 5000) (by omega) (by omega) (by omega)) ?_
  refine lv_if_ne (tgt := 28) hx hb dX12_cyclesToReach_21 (by decide) (fun _ => ?_) (fun c4 => absurd c4 (by decide))
  refine lv_iconst (v := (0 : Int32)) hx hb dX12_cyclesToReach_28 (by decide) ?_
  refine lv_iconst (v := (1 : Int32)) hx hb dX12_cyclesToReach_29 (by decide) ?_
  refine fb_gO (cs := [fb_o12 za zr (upd fr_e0 19 (0 : Int32))]) (rs := [fb_aw cI (zr 0) 16205 (fr_m (fun _ => 0) 0)]) X I [0, 1] 2 rfl (by decide +kernel) rfl rfl (fun I => fb_rV (As := [.int (0 : Int32), .int (1 : Int32)]) (rest := []) X hl (fb_goodV fw_2350 fw_2352 fw_137 fw_204 fw_2353) (c_refuse_f l D cI cJ za zr (upd fr_e0 19 (0 : Int32)) (1 : Int32) _ ) rfl rfl rfl (by decide +kernel : fb_hd yX12_refuse 2) ⟨Nat.le_of_ble_eq_true rfl, Nat.le_of_ble_eq_true rfl⟩ rfl rfl rfl rfl rfl (Nat.le_of_ble_eq_true rfl) ⟨Nat.zero_le _, Nat.zero_le _⟩ dX12_cyclesToReach_30 I) ?_
  refine lv_if_eq (tgt := 38) hx hb dX12_cyclesToReach_33 (by decide) (fun _ => ?_) (fun c5 => absurd (by decide) c5)
  refine lv_aload_n hx hb dX12_cyclesToReach_38 rfl (lv_at hl 0 rfl) ?_
  refine fb_gR (cs := [fb_o12 za zr (upd fr_e0 19 (0 : Int32)), fb_aw cI (zr 0) 16205 (fr_m (fun _ => 0) 0)]) (rs := []) (fun (t : Nat) (rr : Nat) => [fb_o12 za (va_up zr 0 t) (upd fr_e0 19 (0 : Int32)), fb_aw cI rr 16205 (fr_m (fun _ => 0) 0), fb_aw cI t 16205 (fr_m (fun _ => 0) 0)]) (fun (t : Nat) (rr : Nat) => [fb_o12 za (va_up zr 0 t) (upd fr_e0 19 (0 : Int32)), fb_aw cI rr 16205 (fr_m (fun _ => 0) 0), fb_aw cI t 16205 (fr_m (fun _ => 0) 0)]) X I [0, 1] 2 rfl (by decide +kernel) rfl rfl [0, 1, 2] 3 (fun _ _ => rfl) (by decide +kernel) (fun _ _ => rfl) (fun _ _ => rfl) (fun I => fb_rV (As := []) (rest := []) X hl (fb_goodV fw_2739 fw_2741 fw_185 fw_204 fw_2742) (c_trial l D cI cJ za zr (upd fr_e0 19 (0 : Int32)) (fr_m (fun _ => 0) 0) _ ) rfl rfl rfl (by decide +kernel : fb_hd yX12_trial 0) ⟨Nat.le_of_ble_eq_true rfl, Nat.le_of_ble_eq_true rfl⟩ rfl rfl rfl rfl rfl (Nat.le_of_ble_eq_true rfl) ⟨Nat.le_of_ble_eq_true rfl, Nat.le_of_ble_eq_true rfl⟩ dX12_cyclesToReach_39 I) ?_
  intro w6 x7 H locs _ I
  have I : fb_In D A s.heap (([fb_o12 za (va_up zr 0 w6) (upd fr_e0 19 (0 : Int32)), fb_aw cI x7 16205 (fr_m (fun _ => 0) 0), fb_aw cI w6 16205 (fr_m (fun _ => 0) 0)] : List va_W).flatten) H locs := I
  refine lv_astore_n (lv' := [(3, .ref x7), (0, .ref za), (1, .int (nI zj)), (2, .int (nI zN))]) hx hb dX12_cyclesToReach_42 rfl hl (by decide) rfl (fun ls hl => ?_)
  refine lv_iconst (v := (0 : Int32)) hx hb dX12_cyclesToReach_43 (by decide) ?_
  refine lv_istore (lv' := [(4, .int (0 : Int32)), (3, .ref x7), (0, .ref za), (1, .int (nI zj)), (2, .int (nI zN))]) hx hb dX12_cyclesToReach_44 hl (by decide) rfl (fun ls hl => ?_)
  have I : fb_In D A s.heap (([fb_o12 za (va_up zr 0 w6) (upd fr_e0 19 (0 : Int32)), fb_aw cI w6 16205 (fr_m (fun _ => 0) 0), fb_aw cI x7 16205 (fr_m (fun _ => 0) 0)] : List va_W).flatten) H _ := fb_permB (bs := [fb_o12 za (va_up zr 0 w6) (upd fr_e0 19 (0 : Int32)), fb_aw cI x7 16205 (fr_m (fun _ => 0) 0), fb_aw cI w6 16205 (fr_m (fun _ => 0) 0)]) (bs' := [fb_o12 za (va_up zr 0 w6) (upd fr_e0 19 (0 : Int32)), fb_aw cI w6 16205 (fr_m (fun _ => 0) 0), fb_aw cI x7 16205 (fr_m (fun _ => 0) 0)]) I 3 rfl [0, 2, 1] (by decide +kernel) rfl
  exact b_cyclesToReach_n_46 (za := za) (zr := zr) (zj := zj) (zN := zN) (w6 := w6) (x7 := x7) X hj hN hz  (zN) 0 (by omega) (upd fr_e0 19 (0 : Int32)) (fun _ => 0) (fun _ _ _ _ => rfl) _ _ _ I (lv_sub hl [0, 1, 4, 3, 2] rfl)

set_option maxHeartbeats 4000000 in
set_option maxRecDepth 100000 in
theorem b_hot_4 {p : Program} {l : Launch} {e : Env} {s : State} {m : MethodId} {args : Array Value} {below : List Frame} {meth : Method} {c : Code} {D : va_G} {cI cJ : ClassId} {A : Nat → Prop} {za : Nat} {zr : Nat → Nat}  (X : fb_Bx p s m args meth c cX12_hot RX12 3 (some .int) D (fb_ty D cI cJ) A)   : ∀ (n zi : Nat) (hn : zi + n = 4096) (ls : Array Slot) (I : fb_In D A s.heap (([fb_o12 za zr fr_e0, fb_aw cI (zr 0) 16205 (fr_m (fun _ => 0) 0)] : List va_W).flatten) s.heap []) (hl : lv_has ls 3 [(2, .int (nI zi)), (1, .int (-1 : Int32)), (0, .ref za)]), W p l e ({ frames := 1, cells := 0, slots := 0, locals := 30 } : Room) s m args below meth c s.heap [] (0) (0) (MQ below (vp_Si (fun r => r = (-1 : Int32))) args s 0 0 (fun _ => False)) (F0 m 4 ls []) := by
  intro n
  obtain ⟨hx, hb, hr, hml, hown, hts, hlk, hA, hK, hF⟩ := id X
  induction n with
  | zero =>
    intro zi hn ls I hl
    have ziE : 4096 = zi := by omega
    subst ziE
    refine lv_iload_n hx hb dX12_hot_4 rfl (lv_at hl 0 rfl) ?_
    refine lv_sipush (v := (4096 : Int32)) hx hb dX12_hot_5 (by decide) ?_
    refine lv_icmp_ge (tgt := 50) hx hb dX12_hot_8 (by decide) (fun _ => ?_) (fun c1 => absurd (nI_le (a := 4096) (b := 4096) (by omega) (by omega)) c1)
    refine lv_iload_n hx hb dX12_hot_50 rfl (lv_at hl 1 rfl) ?_
    exact fb_retRI X rfl rfl dX12_hot_51
  | succ n ih =>
    intro zi hn ls I hl
    have ziL : zi < 4096 := by omega
    refine lv_iload_n hx hb dX12_hot_4 rfl (lv_at hl 0 rfl) ?_
    refine lv_sipush (v := (4096 : Int32)) hx hb dX12_hot_5 (by decide) ?_
    refine lv_icmp_ge (tgt := 50) hx hb dX12_hot_8 (by decide) (fun c2 => absurd c2 (nI_ge (a := zi) (b := 4096) (by omega) (by omega))) (fun _ => ?_)
    refine lv_aload_n hx hb dX12_hot_11 rfl (lv_at hl 2 rfl) ?_
    refine fb_get X I (k := 0) (v := .ref (zr 0)) fu_X12 0 fb_h12 rfl (Nat.le_of_ble_eq_true rfl) fw_1964 rfl rfl dX12_hot_12 ?_
    refine lv_sipush (v := (12109 : Int32)) hx hb dX12_hot_15 (by decide) ?_
    refine lv_iload_n hx hb dX12_hot_18 rfl (lv_at hl 0 rfl) ?_
    refine lv_iadd hx hb dX12_hot_19 ?_
    refine fb_tI (v := (nI (12109 + zi))) (nI_add 12109 zi) ?_
    refine fb_iaC (n := (12109 + zi)) (v := (0 : Int32)) X I 1 0 rfl rfl (nI_clamp (by omega)) (nI_pos (by omega)) (by omega) (fr_T _ _ _) dX12_hot_20 ?_
    refine lv_iload_n hx hb dX12_hot_21 rfl (lv_at hl 1 rfl) ?_
    refine lv_if_ge (tgt := 29) hx hb dX12_hot_22 (by decide) (fun c3 => absurd c3 (by decide)) (fun _ => ?_)
    refine lv_iconst (v := (0 : Int32)) hx hb dX12_hot_25 (by decide) ?_
    refine lv_goto (tgt := 39) hx hb dX12_hot_26 (by decide) ?_
    refine lv_icmp_le (tgt := 44) hx hb dX12_hot_39 (by decide) (fun _ => ?_) (fun c4 => absurd (by decide) c4)
    refine lv_iinc (v := (nI (zi + 1))) (lv' := [(2, .int (nI (zi + 1))), (1, .int (-1 : Int32)), (0, .ref za)]) hx hb dX12_hot_44 hl (k := 0) rfl (nI_add _ 1) (by decide) rfl (fun ls hl => ?_)
    refine lv_goto (tgt := 4) hx hb dX12_hot_47 (by decide) ?_
    have I : fb_In D A s.heap (([fb_o12 za zr fr_e0, fb_aw cI (zr 0) 16205 (fr_m (fun _ => 0) 0)] : List va_W).flatten) _ _ := I
    exact ih (zi + 1) (by omega) _ I (lv_sub hl [0, 1, 2] rfl)
set_option maxHeartbeats 4000000 in
set_option maxRecDepth 100000 in
theorem c_hot (l : Launch) (D : va_G) (cI cJ : ClassId) (za : Nat) (zr : Nat → Nat) (sz : Nat)  : Met l yX12_hot (Cond.code yX12_hot cX12_hot 3 (some .int) :: fb_all) ({ frames := 1, cells := 0, slots := 0, locals := 30 } : Room) (fb_PP D (fb_ty D cI cJ) [.ref za] (([fb_o12 za zr fr_e0, fb_aw cI (zr 0) 16205 (fr_m (fun _ => 0) 0)] : List va_W).flatten) sz) (vp_Si (fun r => r = (-1 : Int32))) 0 0 (fun _ => False) := by
  refine fb_entR (by decide +kernel) (Nat.le_of_ble_eq_true rfl) ?_
  intro p e s m args below meth c A ls X I hl hin
  obtain ⟨hx, hb, hr, hml, hown, hts, hlk, hA, hK, hF⟩ := id X
  have hl : lv_has ls 3 [(0, .ref za)] := hl
  refine lv_iconst (v := (-1 : Int32)) hx hb dX12_hot_0 (by decide) ?_
  refine lv_istore_n (lv' := [(1, .int (-1 : Int32)), (0, .ref za)]) hx hb dX12_hot_1 rfl hl (by decide) rfl (fun ls hl => ?_)
  refine lv_iconst (v := (0 : Int32)) hx hb dX12_hot_2 (by decide) ?_
  refine lv_istore_n (lv' := [(2, .int (0 : Int32)), (1, .int (-1 : Int32)), (0, .ref za)]) hx hb dX12_hot_3 rfl hl (by decide) rfl (fun ls hl => ?_)
  exact b_hot_4 (za := za) (zr := zr)  X   (4096) 0 (by omega) _ I (lv_sub hl [0, 1, 2] rfl)

set_option maxHeartbeats 4000000 in
set_option maxRecDepth 100000 in
theorem c_hottest (l : Launch) (D : va_G) (cI cJ : ClassId) (za : Nat) (zr : Nat → Nat) (sz : Nat)  : Met l yX12_hottest (Cond.code yX12_hottest cX12_hottest 1 (some .int) :: fb_all) ({ frames := 2, cells := 0, slots := 0, locals := 52 } : Room) (fb_PP D (fb_ty D cI cJ) [.ref za] (([fb_o12 za zr fr_e0, fb_aw cI (zr 0) 16205 (fr_m (fun _ => 0) 0)] : List va_W).flatten) sz) (fb_QI D (va_A (([fb_o12 za zr fr_e0, fb_aw cI (zr 0) 16205 (fr_m (fun _ => 0) 0)] : List va_W).flatten) sz) (fun (r : Int32) (_ : Unit) => r = (-1 : Int32)) (fun (t : Unit) => ([fb_o12 za zr (upd fr_e0 19 (0 : Int32)), fb_aw cI (zr 0) 16205 (fr_m (fun _ => 0) 0)] : List va_W).flatten)) 0 0 (va_A (([fb_o12 za zr fr_e0, fb_aw cI (zr 0) 16205 (fr_m (fun _ => 0) 0)] : List va_W).flatten) sz) := by
  refine fb_ent (Qf := fun A => (fb_QI D A (fun (r : Int32) (_ : Unit) => r = (-1 : Int32)) (fun (t : Unit) => ([fb_o12 za zr (upd fr_e0 19 (0 : Int32)), fb_aw cI (zr 0) 16205 (fr_m (fun _ => 0) 0)] : List va_W).flatten))) (by decide +kernel) (Nat.le_of_ble_eq_true rfl) ?_
  intro p e s m args below meth c A ls X I hl hin
  obtain ⟨hx, hb, hr, hml, hown, hts, hlk, hA, hK, hF⟩ := id X
  have hl : lv_has ls 1 [(0, .ref za)] := hl
  refine lv_aload_n hx hb dX12_hottest_0 rfl (lv_at hl 0 rfl) ?_
  refine lv_iconst (v := (0 : Int32)) hx hb dX12_hottest_1 (by decide) ?_
  refine fb_put X I (k := 19) (wn := ([fb_o12 za zr (upd fr_e0 19 (0 : Int32)), fb_aw cI (zr 0) 16205 (fr_m (fun _ => 0) 0)] : List va_W).flatten) fu_X12 tyX12 tyX12_ok nmX12 0 fb_h12 rfl (Nat.le_of_ble_eq_true rfl) fw_1983 rfl rfl rfl rfl rfl (Nat.le_of_ble_eq_true rfl) fb_r12_19 dX12_hottest_2 (fun H locs I => ?_)
  refine lv_aload_n hx hb dX12_hottest_5 rfl (lv_at hl 0 rfl) ?_
  refine fb_gO (cs := [fb_o12 za zr (upd fr_e0 19 (0 : Int32)), fb_aw cI (zr 0) 16205 (fr_m (fun _ => 0) 0)]) (rs := []) X I [0, 1] 2 rfl (by decide +kernel) rfl rfl (fun I => fb_rV (As := []) (rest := []) X hl (fb_goodV fw_2715 fw_2717 fw_183 fw_204 fw_2718) (c_hot l D cI cJ za zr _ ) rfl rfl rfl (by decide +kernel : fb_hd yX12_hot 0) ⟨Nat.le_of_ble_eq_true rfl, Nat.le_of_ble_eq_true rfl⟩ rfl rfl rfl rfl rfl (Nat.le_of_ble_eq_true rfl) ⟨Nat.zero_le _, Nat.zero_le _⟩ dX12_hottest_6 I) ?_
  exact fb_retI (u := ()) X I rfl rfl dX12_hottest_9

