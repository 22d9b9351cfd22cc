theorem fb_In.rowq {D : va_G} {A : Nat → Prop} {H0 : Heap} {ws : va_W} {H : Heap} {locs : List Loc} (I : fb_In D A H0 ws H locs) (k : Nat) {a : Nat} {cA : ClassId} {n : Nat} {f g : Nat → Option Nat} {wn : va_W} (ha : ws[k]? = some (a, .inl (cA, n, .inr (.inr (.inr (.inr f)))))) (h : ∀ j, j < n → f j = g j) (hwn : ws.set k (a, .inl (cA, n, .inr (.inr (.inr (.inr g))))) = wn) : fb_In D A H0 wn H locs := by
  subst hwn
  refine ⟨?_, I.2.1.set ha, I.2.2⟩
  intro i q hq
  rw [List.getElem?_set] at hq
  by_cases hki : k = i
  · rw [if_pos hki] at hq
    by_cases hl : k < ws.length
    · rw [if_pos hl] at hq
      cases hq
      have h1 := I.1 k _ ha
      show H[a]? = some (vp_cell cA (n, .inr (.inr (.inr (.inr g)))))
      rw [vp_cell_q]
      have h2 : H[a]? = some (vp_cell cA (n, .inr (.inr (.inr (.inr f))))) := h1
      rw [vp_cell_q] at h2
      rw [h2]
      unfold arrV
      have e : (fun j : Fin n => va_rf (f j.val)) = (fun j : Fin n => va_rf (g j.val)) := funext fun j => by rw [h j.val j.isLt]
      rw [e]
    · rw [if_neg hl] at hq; cases hq
  · rw [if_neg hki] at hq
    exact I.1 i q hq
/-- where a row's lines are -/
def fb_ln (f : Nat → Option Nat) (j : Nat) : Nat := (f j).getD 0
theorem fb_ln_up {f : Nat → Option Nat} {j x : Nat} (h : ∀ i, i < j → f i = some (fb_ln f i)) : ∀ i, i < j + 1 → va_up f j (some x) i = some (fb_ln (va_up f j (some x)) i) := by
  intro i hi
  unfold fb_ln
  by_cases q : i = j
  · subst q; simp [va_up]
  · simp only [va_up, if_neg q]
    exact h i (by omega)
set_option maxHeartbeats 4000000 in
set_option maxRecDepth 100000 in
theorem b_X8_init_36 {p : Program} {l : Launch} {e : Env} {s : State} {m : MethodId} {args : Array Value} {below : List Frame} {meth : Method} {c : Code} {D : va_G} {cI cJ : ClassId} {A : Nat → Prop} {zh zy1 zy2 xa xb x0 : Nat} (X : fb_Bx p s m args meth c cX8_init RX8 4 none D (fb_ty D cI cJ) A) : ∀ (n : Nat) {j : Nat} {f : Nat → Option Nat} {H : Heap} {locs : List Loc} {ls : Array Slot} (hm : 120 - j < n) (hj : j ≤ 120) (hj1 : 1 ≤ j) (hf : ∀ i, i < j → f i = some (fb_ln f i)) (hf0 : f 0 = some x0) (I : fb_In D A s.heap ([(zh, .inr (8, [.ref zy1, .ref zy2, .ref xa, .ref xb, .int 0])), (xa, .inl (D.1 23, 120, .inr (.inr (.inr (.inr f))))), (x0, .inr (1, [.int 0, .int 0, .int 0, .int 0, .int 0, .int 0, .int 0, .int 0, .int 0]))] : va_W) H locs) (hl : lv_has ls 4 [(0, .ref zh), (1, .ref zy1), (2, .ref zy2), (3, .int (nI j))]), W p l e ({ frames := 2, cells := 122, slots := 1209, locals := 50 } : Room) s m args below meth c H locs (2 + j) (129 + 9 * j) (MQ below (fb_QV D A (fun (_ : Nat × Nat × (Nat → Nat)) => True) (fun (t : Nat × Nat × (Nat → Nat)) => ([(zh, .inr (8, [.ref zy1, .ref zy2, .ref t.1, .ref t.2.1, .int 0])), (t.1, .inl (D.1 23, 120, .inr (.inr (.inr (.inr (fun j => some (t.2.2 j))))))), (t.2.2 0, .inr (1, [.int 0, .int 0, .int 0, .int 0, .int 0, .int 0, .int 0, .int 0, .int 0]))] : va_W))) args s 122 1209 A) (F0 m 36 ls []) := by
  intro n
  obtain ⟨hx, hb, hr, hml, hown, hts, hlk, hA, hK, hF⟩ := id X
  induction n with
  | zero =>
    intro j f H locs ls hm
    exact absurd hm (Nat.not_lt_zero _)
  | succ n ih =>
    intro j f H locs ls hm hj hj1 hf hf0 I hl
    refine lv_iload_n hx hb dX8_init_36 rfl (lv_at hl 3 rfl) ?_
    refine lv_aload_n hx hb dX8_init_37 rfl (lv_at hl 0 rfl) ?_
    refine fb_get X I (k := 2) fu_X8 0 rfl rfl (Nat.le_of_ble_eq_true rfl) fw_377 rfl rfl dX8_init_38 ?_
    refine va_alen (v := nI 120) hx hb hK.1 I.1 1 5 rfl rfl rfl dX8_init_41 ?_
    refine lv_icmp_ge (tgt := 64) hx hb dX8_init_42 (by decide) (fun c1 => ?_) (fun c1 => ?_)
    · have h9 : ¬ j < 120 := fun q => nI_ge q (by decide) c1
      refine W.widen (k := 122) (n := 1209) (by omega) (by omega) ?_
      have I := I.rowq 1 (g := fun i => some (fb_ln f i)) rfl (fun i hi => hf i (by omega)) rfl
      have e0 : fb_ln f 0 = x0 := by unfold fb_ln; rw [hf0]; rfl
      subst e0
      exact fb_retV (u := (xa, xb, fb_ln f)) X I trivial dX8_init_64
    · have h9 : j < 120 := Nat.lt_of_not_le fun q => c1 (nI_le q (by omega))
      have hc1 : 2 + j + 1 ≤ 122 := by omega
      have hs1 : 129 + 9 * j + 9 ≤ 1209 := by omega
      refine lv_aload_n hx hb dX8_init_45 rfl (lv_at hl 0 rfl) ?_
      refine fb_get X I (k := 2) fu_X8 0 rfl rfl (Nat.le_of_ble_eq_true rfl) fw_377 rfl rfl dX8_init_46 ?_
      refine lv_iload_n hx hb dX8_init_49 rfl (lv_at hl 3 rfl) ?_
      refine fb_newO X I (ci := 1) (fs := [.int 0, .int 0, .int 0, .int 0, .int 0, .int 0, .int 0, .int 0, .int 0]) fu_X1 tyX1 tyX1_ok fw_326 fw_328 fw_196 rfl (by decide +kernel) hc1 hs1 dX8_init_50 (fun xl H I => ?_)
      have I : fb_In D A s.heap ([(zh, .inr (8, [.ref zy1, .ref zy2, .ref xa, .ref xb, .int 0])), (xa, .inl (D.1 23, 120, .inr (.inr (.inr (.inr f))))), (x0, .inr (1, [.int 0, .int 0, .int 0, .int 0, .int 0, .int 0, .int 0, .int 0, .int 0])), (xl, .inr (1, [.int 0, .int 0, .int 0, .int 0, .int 0, .int 0, .int 0, .int 0, .int 0]))] : va_W) H _ := I
      refine lv_dup hx hb dX8_init_53 rfl ?_
      refine fb_goN (wn := fun (t : Unit) => ([(zh, .inr (8, [.ref zy1, .ref zy2, .ref xa, .ref xb, .int 0])), (xa, .inl (D.1 23, 120, .inr (.inr (.inr (.inr f))))), (x0, .inr (1, [.int 0, .int 0, .int 0, .int 0, .int 0, .int 0, .int 0, .int 0, .int 0])), (xl, .inr (1, [.int 0, .int 0, .int 0, .int 0, .int 0, .int 0, .int 0, .int 0, .int 0]))] : va_W)) X I (fb_runIN (As := []) (rest := [.ref xl, .int (nI j), .ref xa]) X I hl (c_X1_init l D cI cJ xl _) fw_331 rfl rfl (List.mem_of_getElem? (i := 2) rfl) fw_196 rfl fw_330 (by decide +kernel : fb_hd yX1_init 0) ⟨Nat.le_of_ble_eq_true rfl, Nat.le_of_ble_eq_true rfl⟩ [3] (by decide) rfl rfl rfl (Nat.le_of_ble_eq_true rfl) ⟨hc1, hs1⟩ dX8_init_54) [3] [0, 1, 2] [0, 1, 2, 3] rfl rfl (by decide) (by decide) (by decide) (fun _ => rfl) ?_
      intro t H locs _ I
      have I : fb_In D A s.heap ([(zh, .inr (8, [.ref zy1, .ref zy2, .ref xa, .ref xb, .int 0])), (xa, .inl (D.1 23, 120, .inr (.inr (.inr (.inr f))))), (x0, .inr (1, [.int 0, .int 0, .int 0, .int 0, .int 0, .int 0, .int 0, .int 0, .int 0])), (xl, .inr (1, [.int 0, .int 0, .int 0, .int 0, .int 0, .int 0, .int 0, .int 0, .int 0]))] : va_W) H locs := I
      refine va_astq hx hb hK.1 I.1 I.2.1 I.2.2 1 5 3 1 rfl rfl rfl rfl (vp_in_nI h9 (by decide)) dX8_init_57 (fun H locs k1 k2 k3 => ?_)
      have I : fb_In D A s.heap ([(zh, .inr (8, [.ref zy1, .ref zy2, .ref xa, .ref xb, .int 0])), (xa, .inl (D.1 23, 120, .inr (.inr (.inr (.inr (va_up f ((nI j)).toNatClampNeg (some xl))))))), (x0, .inr (1, [.int 0, .int 0, .int 0, .int 0, .int 0, .int 0, .int 0, .int 0, .int 0])), (xl, .inr (1, [.int 0, .int 0, .int 0, .int 0, .int 0, .int 0, .int 0, .int 0, .int 0]))] : va_W) H locs := ⟨k1, k2, k3⟩
      have I := fb_In.pick (ws' := ([(zh, .inr (8, [.ref zy1, .ref zy2, .ref xa, .ref xb, .int 0])), (xa, .inl (D.1 23, 120, .inr (.inr (.inr (.inr (va_up f ((nI j)).toNatClampNeg (some xl))))))), (x0, .inr (1, [.int 0, .int 0, .int 0, .int 0, .int 0, .int 0, .int 0, .int 0, .int 0]))] : va_W)) I [0, 1, 2] (by decide) rfl
      refine lv_iinc (v := nI (j + 1)) (lv' := [(3, .int (nI (j + 1))), (0, .ref zh), (1, .ref zy1), (2, .ref zy2)]) hx hb dX8_init_58 hl (k := 3) rfl (by exact nI_1 j) (by decide) rfl (fun ls hl => ?_)
      refine lv_goto (tgt := 36) hx hb dX8_init_61 (by decide) ?_
      refine W.widen (k := 2 + (j + 1)) (n := 129 + 9 * (j + 1)) (by omega) (by omega) ?_
      rw [nI_clamp (show j < 2 ^ 31 by omega)] at I
      refine ih (by omega) h9 (by omega) (fb_ln_up hf) ?_ I (lv_sub hl [1, 2, 3, 0] rfl)
      show va_up f j (some xl) 0 = some x0
      unfold va_up
      rw [if_neg (by omega)]
      exact hf0
set_option maxHeartbeats 4000000 in
set_option maxRecDepth 100000 in
theorem c_X8_init (l : Launch) (D : va_G) (cI cJ : ClassId) (zh zy1 zy2 : Nat) (sz : Nat) : Met l yX8_init (Cond.code yX8_init cX8_init 4 none :: fb_all) ({ frames := 2, cells := 122, slots := 1209, locals := 50 } : Room) (fb_PP D (fb_ty D cI cJ) [.ref zh, .ref zy1, .ref zy2] ([(zh, .inr (8, [.null, .null, .null, .null, .int 0]))] : va_W) sz) (fb_QV D (va_A ([(zh, .inr (8, [.null, .null, .null, .null, .int 0]))] : va_W) sz) (fun (_ : Nat × Nat × (Nat → Nat)) => True) (fun (t : Nat × Nat × (Nat → Nat)) => ([(zh, .inr (8, [.ref zy1, .ref zy2, .ref t.1, .ref t.2.1, .int 0])), (t.1, .inl (D.1 23, 120, .inr (.inr (.inr (.inr (fun j => some (t.2.2 j))))))), (t.2.2 0, .inr (1, [.int 0, .int 0, .int 0, .int 0, .int 0, .int 0, .int 0, .int 0, .int 0]))] : va_W))) 122 1209 (va_A ([(zh, .inr (8, [.null, .null, .null, .null, .int 0]))] : va_W) sz) := by
  refine fb_ent (Qf := fun A => (fb_QV D A (fun (_ : Nat × Nat × (Nat → Nat)) => True) (fun (t : Nat × Nat × (Nat → Nat)) => ([(zh, .inr (8, [.ref zy1, .ref zy2, .ref t.1, .ref t.2.1, .int 0])), (t.1, .inl (D.1 23, 120, .inr (.inr (.inr (.inr (fun j => some (t.2.2 j))))))), (t.2.2 0, .inr (1, [.int 0, .int 0, .int 0, .int 0, .int 0, .int 0, .int 0, .int 0, .int 0]))] : va_W)))) (by decide +kernel) (Nat.le_of_ble_eq_true rfl) ?_
  intro p e s m args below meth c A ls X I hl hin
  obtain ⟨hx, hb, hr, hml, hown, hts, hlk, hA, hK, hF⟩ := id X
  have hl : lv_has ls 4 [(0, .ref zh), (1, .ref zy1), (2, .ref zy2)] := hl
  refine lv_aload_n hx hb dX8_init_0 rfl (lv_at hl 0 rfl) ?_
  refine fb_obj X hl fw_325 fw_224 fw_225 dX8_init_1 (Nat.le_of_ble_eq_true rfl) (Nat.le_of_ble_eq_true rfl) ?_
  refine lv_aload_n hx hb dX8_init_4 rfl (lv_at hl 0 rfl) ?_
  refine lv_bipush (v := (120 : Int32)) hx hb dX8_init_5 (by decide) ?_
  refine fb_newQ (N := 120) X I fw_326 (by decide) (Nat.le_of_ble_eq_true rfl) (Nat.le_of_ble_eq_true rfl) (Nat.le_of_ble_eq_true rfl) dX8_init_7 (fun xa H I => ?_)
  have I : fb_In D A s.heap ([(zh, .inr (8, [.null, .null, .null, .null, .int 0])), (xa, .inl (D.1 23, 120, .inr (.inr (.inr (.inr (fun _ => none))))))] : va_W) H _ := I
  refine fb_putF X I hin (k := 2) (wn := ([(zh, .inr (8, [.null, .null, .ref xa, .null, .int 0])), (xa, .inl (D.1 23, 120, .inr (.inr (.inr (.inr (fun _ => none))))))] : va_W)) fu_X8 tyX8 tyX8_ok nmX8 0 rfl rfl (Nat.le_of_ble_eq_true rfl) fw_377 rfl rfl rfl rfl rfl rfl (Nat.le_of_ble_eq_true rfl) rfl dX8_init_10 (fun H locs I => ?_)
  refine lv_aload_n hx hb dX8_init_13 rfl (lv_at hl 0 rfl) ?_
  refine fb_newO X I (ci := 1) (fs := [.int 0, .int 0, .int 0, .int 0, .int 0, .int 0, .int 0, .int 0, .int 0]) fu_X1 tyX1 tyX1_ok fw_326 fw_328 fw_196 rfl (by decide +kernel) (Nat.le_of_ble_eq_true rfl) (Nat.le_of_ble_eq_true rfl) dX8_init_14 (fun xb H I => ?_)
  have I : fb_In D A s.heap ([(zh, .inr (8, [.null, .null, .ref xa, .null, .int 0])), (xa, .inl (D.1 23, 120, .inr (.inr (.inr (.inr (fun _ => none)))))), (xb, .inr (1, [.int 0, .int 0, .int 0, .int 0, .int 0, .int 0, .int 0, .int 0, .int 0]))] : va_W) H _ := I
  refine lv_dup hx hb dX8_init_17 rfl ?_
  refine fb_goN (wn := fun (t : Unit) => ([(zh, .inr (8, [.null, .null, .ref xa, .null, .int 0])), (xa, .inl (D.1 23, 120, .inr (.inr (.inr (.inr (fun _ => none)))))), (xb, .inr (1, [.int 0, .int 0, .int 0, .int 0, .int 0, .int 0, .int 0, .int 0, .int 0]))] : va_W)) X I (fb_runIN (As := []) (rest := [.ref xb, .ref zh]) X I hl (c_X1_init l D cI cJ xb _) fw_331 rfl rfl (List.mem_of_getElem? (i := 2) rfl) fw_196 rfl fw_330 (by decide +kernel : fb_hd yX1_init 0) ⟨Nat.le_of_ble_eq_true rfl, Nat.le_of_ble_eq_true rfl⟩ [2] (by decide) rfl rfl rfl (Nat.le_of_ble_eq_true rfl) ⟨Nat.le_of_ble_eq_true rfl, Nat.le_of_ble_eq_true rfl⟩ dX8_init_18) [2] [0, 1] [0, 1, 2] rfl rfl (by decide) (by decide) (by decide) (fun _ => rfl) ?_
  intro t H locs _ I
  have I := fb_In.pick (ws' := ([(zh, .inr (8, [.null, .null, .ref xa, .null, .int 0])), (xa, .inl (D.1 23, 120, .inr (.inr (.inr (.inr (fun _ => none))))))] : va_W)) I [0, 1] (by decide) rfl
  refine fb_putF X I hin (k := 3) (wn := ([(zh, .inr (8, [.null, .null, .ref xa, .ref xb, .int 0])), (xa, .inl (D.1 23, 120, .inr (.inr (.inr (.inr (fun _ => none))))))] : va_W)) fu_X8 tyX8 tyX8_ok nmX8 0 rfl rfl (Nat.le_of_ble_eq_true rfl) fw_378 rfl rfl rfl rfl rfl rfl (Nat.le_of_ble_eq_true rfl) rfl dX8_init_21 (fun H locs I => ?_)
  refine lv_aload_n hx hb dX8_init_24 rfl (lv_at hl 0 rfl) ?_
  refine lv_aload_n hx hb dX8_init_25 rfl (lv_at hl 1 rfl) ?_
  refine fb_putF X I hin (k := 0) (wn := ([(zh, .inr (8, [.ref zy1, .null, .ref xa, .ref xb, .int 0])), (xa, .inl (D.1 23, 120, .inr (.inr (.inr (.inr (fun _ => none))))))] : va_W)) fu_X8 tyX8 tyX8_ok nmX8 0 rfl rfl (Nat.le_of_ble_eq_true rfl) fw_375 rfl rfl rfl rfl rfl rfl (Nat.le_of_ble_eq_true rfl) rfl dX8_init_26 (fun H locs I => ?_)
  refine lv_aload_n hx hb dX8_init_29 rfl (lv_at hl 0 rfl) ?_
  refine lv_aload_n hx hb dX8_init_30 rfl (lv_at hl 2 rfl) ?_
  refine fb_putF X I hin (k := 1) (wn := ([(zh, .inr (8, [.ref zy1, .ref zy2, .ref xa, .ref xb, .int 0])), (xa, .inl (D.1 23, 120, .inr (.inr (.inr (.inr (fun _ => none))))))] : va_W)) fu_X8 tyX8 tyX8_ok nmX8 0 rfl rfl (Nat.le_of_ble_eq_true rfl) fw_376 rfl rfl rfl rfl rfl rfl (Nat.le_of_ble_eq_true rfl) rfl dX8_init_31 (fun H locs I => ?_)
  refine lv_iconst (v := (0 : Int32)) hx hb dX8_init_34 (by decide) ?_
  refine lv_istore_n (lv' := [(3, .int (0 : Int32)), (0, .ref zh), (1, .ref zy1), (2, .ref zy2)]) hx hb dX8_init_35 rfl hl (by decide) rfl (fun ls hl => ?_)
  have hc1 : 2 + 1 ≤ 122 := by omega
  have hs1 : 129 + 9 ≤ 1209 := by omega
  refine lv_iload_n hx hb dX8_init_36 rfl (lv_at hl 0 rfl) ?_
  refine lv_aload_n hx hb dX8_init_37 rfl (lv_at hl 1 rfl) ?_
  refine fb_get X I (k := 2) fu_X8 0 rfl rfl (Nat.le_of_ble_eq_true rfl) fw_377 rfl rfl dX8_init_38 ?_
  refine va_alen (v := nI 120) hx hb hK.1 I.1 1 5 rfl rfl rfl dX8_init_41 ?_
  refine lv_icmp_ge (tgt := 64) hx hb dX8_init_42 (by decide) (fun c1 => absurd c1 (by decide)) (fun _ => ?_)
  refine lv_aload_n hx hb dX8_init_45 rfl (lv_at hl 1 rfl) ?_
  refine fb_get X I (k := 2) fu_X8 0 rfl rfl (Nat.le_of_ble_eq_true rfl) fw_377 rfl rfl dX8_init_46 ?_
  refine lv_iload_n hx hb dX8_init_49 rfl (lv_at hl 0 rfl) ?_
  refine fb_newO X I (ci := 1) (fs := [.int 0, .int 0, .int 0, .int 0, .int 0, .int 0, .int 0, .int 0, .int 0]) fu_X1 tyX1 tyX1_ok fw_326 fw_328 fw_196 rfl (by decide +kernel) hc1 hs1 dX8_init_50 (fun xl H I => ?_)
  have I : fb_In D A s.heap ([(zh, .inr (8, [.ref zy1, .ref zy2, .ref xa, .ref xb, .int 0])), (xa, .inl (D.1 23, 120, .inr (.inr (.inr (.inr (fun _ => none)))))), (xl, .inr (1, [.int 0, .int 0, .int 0, .int 0, .int 0, .int 0, .int 0, .int 0, .int 0]))] : va_W) H _ := I
  refine lv_dup hx hb dX8_init_53 rfl ?_
  refine fb_goN (wn := fun (t : Unit) => ([(zh, .inr (8, [.ref zy1, .ref zy2, .ref xa, .ref xb, .int 0])), (xa, .inl (D.1 23, 120, .inr (.inr (.inr (.inr (fun _ => none)))))), (xl, .inr (1, [.int 0, .int 0, .int 0, .int 0, .int 0, .int 0, .int 0, .int 0, .int 0]))] : va_W)) X I (fb_runIN (As := []) (rest := [.ref xl, .int (0 : Int32), .ref xa]) X I hl (c_X1_init l D cI cJ xl _) fw_331 rfl rfl (List.mem_of_getElem? (i := 2) rfl) fw_196 rfl fw_330 (by decide +kernel : fb_hd yX1_init 0) ⟨Nat.le_of_ble_eq_true rfl, Nat.le_of_ble_eq_true rfl⟩ [2] (by decide) rfl rfl rfl (Nat.le_of_ble_eq_true rfl) ⟨hc1, hs1⟩ dX8_init_54) [2] [0, 1] [0, 1, 2] rfl rfl (by decide) (by decide) (by decide) (fun _ => rfl) ?_
  intro t H locs _ I
  have I : fb_In D A s.heap ([(zh, .inr (8, [.ref zy1, .ref zy2, .ref xa, .ref xb, .int 0])), (xa, .inl (D.1 23, 120, .inr (.inr (.inr (.inr (fun _ => none)))))), (xl, .inr (1, [.int 0, .int 0, .int 0, .int 0, .int 0, .int 0, .int 0, .int 0, .int 0]))] : va_W) H locs := I
  refine va_astq hx hb hK.1 I.1 I.2.1 I.2.2 1 5 2 1 rfl rfl rfl rfl (fb_ir (by decide) (by decide) (by decide)) dX8_init_57 (fun H locs k1 k2 k3 => ?_)
  have I : fb_In D A s.heap ([(zh, .inr (8, [.ref zy1, .ref zy2, .ref xa, .ref xb, .int 0])), (xa, .inl (D.1 23, 120, .inr (.inr (.inr (.inr (va_up (fun _ => none) ((0 : Int32)).toNatClampNeg (some xl))))))), (xl, .inr (1, [.int 0, .int 0, .int 0, .int 0, .int 0, .int 0, .int 0, .int 0, .int 0]))] : va_W) H locs := ⟨k1, k2, k3⟩
  refine lv_iinc (v := nI 1) (lv' := [(3, .int (nI 1)), (0, .ref zh), (1, .ref zy1), (2, .ref zy2)]) hx hb dX8_init_58 hl (k := 0) rfl (by decide) (by decide) rfl (fun ls hl => ?_)
  refine lv_goto (tgt := 36) hx hb dX8_init_61 (by decide) ?_
  exact b_X8_init_36 X 121 (j := 1) (by omega) (by omega) (by omega) (fb_ln_up (f := fun _ => none) (j := 0) (fun i hi => absurd hi (Nat.not_lt_zero _))) rfl I (lv_sub hl [1, 2, 3, 0] rfl)

