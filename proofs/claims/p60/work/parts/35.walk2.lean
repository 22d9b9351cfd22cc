/-! a round of the law, walked -/
theorem st_2 {K : Nat} {s : fb_MS} (h : fb_ok K s) : (f_X2_endReason s = 0 → ¬ (2 : Int32) ≤ s.1 10 ∧ s.1 10 ≤ (1 : Int32)) ∧ (¬ f_X2_endReason s = 0 → (2 : Int32) ≤ s.1 10) := by
  obtain ⟨b, cc, ii, h1, h2, h3, h4⟩ := h
  have r : fb_rg (s.1 10) 4 := by have := h4.1 10; rw [nm_g s (by decide) (by decide)] at this; exact this
  obtain ⟨j, hj, e⟩ := r
  unfold f_X2_endReason
  rw [e]
  match j, hj with
  | 0, _ => decide
  | 1, _ => decide
  | 2, _ => decide
  | 3, _ => decide
  | j + 4, hj => omega
theorem lw_minE {z q : Nat} (hz : z ≤ 200) (hq : q ≤ 40) : (if (nI z + nI q) < (200 : Int32) then (nI z + nI q) else (200 : Int32)) = nI (min 200 (z + q)) := by
  rw [nI_add]
  by_cases c : z + q < 200
  · rw [if_pos (show nI (z + q) < (200 : Int32) from nI_lt (b := 200) c (by decide)), Nat.min_eq_right (by omega)]
  · rw [if_neg (show ¬ nI (z + q) < (200 : Int32) from nI_nlt (a := z + q) (b := 200) (by omega) (by omega)), Nat.min_eq_left (by omega)]
    rfl
theorem lw_outE (x y : Int32) : x + (y - x) = y := by rw [Int32.add_comm, Int32.sub_add_cancel]
theorem lw_cmp0 (x : Int64) : lg_cmp x x = 0 := by simp [lg_cmp]
section LLQ
variable {p : Program} {l : Launch} {e : Env} {s : State} {m : MethodId} {args : Array Value} {below : List Frame} {meth : Method} {c : Code} {Q : State → Prop} {D : va_G} {cI cJ : ClassId} {A : Nat → Prop} {zm zo : Nat} {tm to : Nat → Nat} {b L : Nat} {xs : Nat → Int32}

set_option maxHeartbeats 4000000 in
set_option maxRecDepth 100000 in
theorem lw_In (C : fb_CX p s m args meth c D cI cJ A b L xs) {M : Nat} (hM : M ≤ 40) {s1 : fb_MS} {h : fb_HS} {e7 : fb_AR} {w13 w12 w11 w8 w6 w5 w4 : Int32} {w9 : Int64} :
    ∀ (f j q K : Nat) (t : fb_MS) (H : Heap) (locs : List Loc) (ls : Array Slot), fb_ok K t → K + f ≤ 1000000 → M ≤ j + f → j ≤ M + 600 → fb_LW D A s.heap cI zm tm zo to s1 h e7 t H locs → lv_has ls 18 [(15, .int (nI j)), (14, .int (nI q)), (13, .int w13), (12, .int w12), (11, .int w11), (9, .long w9), (8, .int w8), (7, .int (nI M)), (6, .int w6), (5, .int w5), (4, .int w4), (2, .ref zo), (1, .ref zm), (0, .ref b)] → (∀ (H : Heap) (locs : List Loc) (ls : Array Slot), fb_LW D A s.heap cI zm tm zo to s1 h e7 (fb_rn M f j t).2.2 H locs → lv_has ls 18 [(15, .int (nI (fb_rn M f j t).2.1)), (14, .int (nI (q + (fb_rn M f j t).1))), (13, .int w13), (12, .int w12), (11, .int w11), (9, .long w9), (8, .int w8), (7, .int (nI M)), (6, .int w6), (5, .int w5), (4, .int w4), (2, .ref zo), (1, .ref zm), (0, .ref b)] → W p l e room_1 s m args below meth c H locs 366 235966 Q (F0 m 472 ls [])) → W p l e room_1 s m args below meth c H locs 366 235966 Q (F0 m 442 ls []) := by
  obtain ⟨X, htb, hX, hbl, hbA, hL⟩ := id C
  obtain ⟨hx, hb, hr, hml, hown, hts, hlk, hA, hK, hF⟩ := id X
  have hcl : 366 ≤ room_1.cells ∧ 235966 ≤ room_1.slots := ⟨Nat.le_of_ble_eq_true rfl, Nat.le_of_ble_eq_true rfl⟩
  intro f
  induction f with
  | zero =>
    intro j q K t H locs ls hok hK hMj hj I hl kk
    refine lv_iload hx hb dL_law_442 (lv_at hl 0 rfl) ?_
    refine lv_iload hx hb dL_law_444 (lv_at hl 7 rfl) ?_
    refine lv_icmp_ge (tgt := 472) hx hb dL_law_446 (by decide) (fun _ => ?_) (fun cF => absurd (nI_le (a := M) (b := j) (by omega) (by omega)) cF)
    exact kk H locs ls I hl
  | succ f ih =>
    intro j q K t H locs ls hok hK hMj hj I hl kk
    refine lv_iload hx hb dL_law_442 (lv_at hl 0 rfl) ?_
    refine lv_iload hx hb dL_law_444 (lv_at hl 7 rfl) ?_
    by_cases hc : j < M ∧ f_X2_endReason t = 0
    · obtain ⟨tt, t1, t2, et, hok1⟩ := ok_adv hok (by omega) hc.2
      refine lv_icmp_ge (tgt := 472) hx hb dL_law_446 (by decide) (fun cT => absurd cT (nI_ge hc.1 (by omega))) (fun _ => ?_)
      refine lv_aload_n hx hb dL_law_449 rfl (lv_at hl 11 rfl) ?_
      refine lr_state_o X I hl (Nat.le_of_ble_eq_true rfl) hcl dL_law_450 ?_
      refine lv_iconst (v := (2 : Int32)) hx hb dL_law_453 (by decide) ?_
      refine lv_icmp_ge (tgt := 472) hx hb dL_law_454 (by decide) (fun cT => absurd cT ((st_2 hok).1 hc.2).1) (fun _ => ?_)
      refine lv_iload hx hb dL_law_457 (lv_at hl 0 rfl) ?_
      refine lv_aload_n hx hb dL_law_459 rfl (lv_at hl 11 rfl) ?_
      refine lr_step X I hl (Nat.le_of_ble_eq_true rfl) hcl hc.2 dL_law_460 (fun H locs I => ?_)
      obtain ⟨_, _, _, _, I0⟩ := id I
      rw [et]
      refine lv_iadd hx hb dL_law_463 ?_
      rw [nI_add]
      refine lv_istore (lv' := [(15, .int (nI (j + tt))), (14, .int (nI q)), (13, .int w13), (12, .int w12), (11, .int w11), (9, .long w9), (8, .int w8), (7, .int (nI M)), (6, .int w6), (5, .int w5), (4, .int w4), (2, .ref zo), (1, .ref zm), (0, .ref b)]) hx hb dL_law_464 hl (by decide) rfl (fun ls hl => ?_)
      refine lv_iinc (v := (nI (q + 1))) (lv' := [(14, .int (nI (q + 1))), (15, .int (nI (j + tt))), (13, .int w13), (12, .int w12), (11, .int w11), (9, .long w9), (8, .int w8), (7, .int (nI M)), (6, .int w6), (5, .int w5), (4, .int w4), (2, .ref zo), (1, .ref zm), (0, .ref b)]) hx hb dL_law_466 hl (k := 1) rfl (nI_succ q).symm (by decide) rfl (fun ls hl => ?_)
      refine lv_goto (tgt := 442) hx hb dL_law_469 (by decide) ?_
      refine ih (j + tt) (q + 1) (K + 1) _ H locs _ hok1 (by omega) (by omega) (by have := hc.1; omega) I (lv_sub hl [1, 0, 2, 3, 4, 5, 6, 7, 8, 9, 10, 11, 12, 13] rfl) ?_
      intro H locs ls I hl
      have e := rn_go (M := M) (f := f) hc
      rw [et, nI_clamp (by omega)] at e
      rw [e] at kk
      refine kk H locs ls I ?_
      rw [show q + ((fb_rn M f (j + tt) (f_X2_advance t).2).1 + 1) = q + 1 + (fb_rn M f (j + tt) (f_X2_advance t).2).1 from by omega]
      exact hl
    · rw [rn_no hc] at kk
      by_cases hjm : j < M
      · have hne : ¬ f_X2_endReason t = 0 := fun q => hc ⟨hjm, q⟩
        refine lv_icmp_ge (tgt := 472) hx hb dL_law_446 (by decide) (fun cT => absurd cT (nI_ge hjm (by omega))) (fun _ => ?_)
        refine lv_aload_n hx hb dL_law_449 rfl (lv_at hl 11 rfl) ?_
        refine lr_state_o X I hl (Nat.le_of_ble_eq_true rfl) hcl dL_law_450 ?_
        refine lv_iconst (v := (2 : Int32)) hx hb dL_law_453 (by decide) ?_
        refine lv_icmp_ge (tgt := 472) hx hb dL_law_454 (by decide) (fun _ => ?_) (fun cF => absurd ((st_2 hok).2 hne) cF)
        exact kk H locs ls I hl
      · skip
        refine lv_icmp_ge (tgt := 472) hx hb dL_law_446 (by decide) (fun _ => ?_) (fun cF => absurd (nI_le (a := M) (b := j) (by omega) (by omega)) cF)
        exact kk H locs ls I hl
set_option maxHeartbeats 8000000 in
set_option maxRecDepth 100000 in
theorem lw_D (C : fb_CX p s m args meth c D cI cJ A b L xs) {k : Nat} (hk12 : k < 12) {vv ow : Int32} (kN : ∀ (s1 : fb_MS) (h : fb_HS) (e7 : fb_AR) (t : fb_MS) (H : Heap) (locs : List Loc) (ls : Array Slot), fb_LI (40 * (k + 1)) s1 h e7 t → fb_LW D A s.heap cI zm tm zo to s1 h e7 t H locs → lv_has ls 18 [(4, .int (nI k)), (2, .ref zo), (1, .ref zm), (0, .ref b)] → W p l e room_1 s m args below meth c H locs 366 235966 Q (F0 m 637 ls [])) :
    ∀ (s1 : fb_MS) (h : fb_HS) (e7 : fb_AR) (t : fb_MS) (H : Heap) (locs : List Loc) (ls : Array Slot), fb_LI (40 * k) s1 h e7 t → fb_LW D A s.heap cI zm tm zo to s1 h e7 t H locs → lv_has ls 18 [(6, .int ow), (5, .int vv), (4, .int (nI k)), (2, .ref zo), (1, .ref zm), (0, .ref b)] → W p l e room_1 s m args below meth c H locs 366 235966 Q (F0 m 364 ls []) := by
  obtain ⟨X, htb, hX, hbl, hbA, hL⟩ := id C
  obtain ⟨hx, hb, hr, hml, hown, hts, hlk, hA, hK, hF⟩ := id X
  have hcl : 366 ≤ room_1.cells ∧ 235966 ≤ room_1.slots := ⟨Nat.le_of_ble_eq_true rfl, Nat.le_of_ble_eq_true rfl⟩
  intro s1 h e7 t H locs ls L I hl
  obtain ⟨_, _, _, _, I0⟩ := id I
  obtain ⟨j, hj, ej⟩ := lw_belE (vv >>> ((4 : Int32) &&& 31)) (d := 40) 40 (by decide) (by decide) rfl
  obtain ⟨M, hM1, hM2, eM⟩ : ∃ M : Nat, 1 ≤ M ∧ M ≤ 40 ∧ ((1 : Int32) + (f_L_below (vv >>> ((4 : Int32) &&& 31)) (40 : Int32))) = nI M := ⟨1 + j, by omega, by omega, by rw [ej, show (1 : Int32) = nI 1 from rfl, nI_add]⟩
  have hspan : f_X11_isNoSpan (nI M) = 0 := lw_noS hM1 (by omega)
  obtain ⟨T, d, z, hd, hz, hz5, H2, hsd, hse, hz6, hok2⟩ := li_run (M := M) L (by omega) hM2
  obtain ⟨q1, q2, q3⟩ := rn_eq (M := M) M 0 L.2.1
  have hst := rn_st (M := M) M 0 s1
  have hokt : fb_ok (40 * k) t := ok_eq L.1 L.2.1
  have Ln := li_next (M := M) (t' := (fb_rn M M 0 t).2.2) (r := fb_rs M (fb_rn M M 0 s1).2.1 (fb_rn M M 0 s1).2.2) L (by omega) hM2 q3
  obtain ⟨-, htk, hend⟩ := rn_ok (M := M) M 0 (40 * k) s1 L.1 (by omega)
  have htk := htk (by omega)
  refine lv_iconst (v := (1 : Int32)) hx hb dL_law_364 (by decide) ?_
  refine lv_iload hx hb dL_law_365 (lv_at hl 1 rfl) ?_
  refine lv_iconst (v := (4 : Int32)) hx hb dL_law_367 (by decide) ?_
  refine lv_ishr hx hb dL_law_368 ?_
  refine lv_bipush (v := (40 : Int32)) hx hb dL_law_369 (by decide) ?_
  refine lr_below X I0 hl (Nat.le_of_ble_eq_true rfl) hcl (by decide) dL_law_371 ?_
  refine lv_iadd hx hb dL_law_374 ?_
  rw [eM]
  refine lv_istore (lv' := [(7, .int (nI M)), (6, .int ow), (5, .int vv), (4, .int (nI k)), (2, .ref zo), (1, .ref zm), (0, .ref b)]) hx hb dL_law_375 hl (by decide) rfl (fun ls hl => ?_)
  refine lv_aload_n hx hb dL_law_377 rfl (lv_at hl 5 rfl) ?_
  refine lr_history X I hl (Nat.le_of_ble_eq_true rfl) hcl dL_law_378 ?_
  rw [hz5]
  refine lv_istore (lv' := [(8, .int (nI z)), (7, .int (nI M)), (6, .int ow), (5, .int vv), (4, .int (nI k)), (2, .ref zo), (1, .ref zm), (0, .ref b)]) hx hb dL_law_381 hl (by decide) rfl (fun ls hl => ?_)
  refine lv_aload_n hx hb dL_law_383 rfl (lv_at hl 6 rfl) ?_
  refine lr_digest X I hl (Nat.le_of_ble_eq_true rfl) hcl dL_law_384 (fun H locs I => ?_)
  obtain ⟨_, _, _, _, I0⟩ := id I
  refine lv_lstore (lv' := [(9, .long (f_X11_digest s1 (fun _ => 0) (fun _ => 0) (fun _ => 0) (fun _ => 0) e7 h.1 (fun _ => 0) (fun _ => 0))), (8, .int (nI z)), (7, .int (nI M)), (6, .int ow), (5, .int vv), (4, .int (nI k)), (2, .ref zo), (1, .ref zm), (0, .ref b)]) hx hb dL_law_387 hl (by decide) rfl (fun ls hl => ?_)
  refine lv_aload_n hx hb dL_law_389 rfl (lv_at hl 7 rfl) ?_
  refine lv_iload hx hb dL_law_390 (lv_at hl 4 rfl) ?_
  refine lr_ask X I hl (Nat.le_of_ble_eq_true rfl) hcl dL_law_392 (fun H locs I => ?_)
  obtain ⟨_, _, _, _, I0⟩ := id I
  refine lv_aload_n hx hb dL_law_395 rfl (lv_at hl 7 rfl) ?_
  refine lr_digest X I hl (Nat.le_of_ble_eq_true rfl) hcl dL_law_396 (fun H locs I => ?_)
  obtain ⟨_, _, _, _, I0⟩ := id I
  refine lv_lload hx hb dL_law_399 (lv_at hl 0 rfl) ?_
  refine W.lcmp hx hb dL_law_401 ?_
  refine lv_if_eq (tgt := 407) hx hb dL_law_402 (by decide) (fun _ => ?_) (fun cF => absurd (lw_cmp0 _) cF)
  refine lv_aload_n hx hb dL_law_407 rfl (lv_at hl 7 rfl) ?_
  refine lv_iload hx hb dL_law_408 (lv_at hl 2 rfl) ?_
  refine lr_cth (r0 := (if f_X2_endReason (fb_rn M M 0 s1).2.2 = 0 then (-1 : Int32) else nI (fb_rn M M 0 s1).2.1)) X I hl (Nat.le_of_ble_eq_true rfl) hcl hspan (fun z => cth_eq L.1 (by omega) hM2) dL_law_410 (fun H locs I => ?_)
  obtain ⟨_, _, _, _, I0⟩ := id I
  refine lv_istore (lv' := [(11, .int (if f_X2_endReason (fb_rn M M 0 s1).2.2 = 0 then (-1 : Int32) else nI (fb_rn M M 0 s1).2.1)), (9, .long (f_X11_digest s1 (fun _ => 0) (fun _ => 0) (fun _ => 0) (fun _ => 0) e7 h.1 (fun _ => 0) (fun _ => 0))), (8, .int (nI z)), (7, .int (nI M)), (6, .int ow), (5, .int vv), (4, .int (nI k)), (2, .ref zo), (1, .ref zm), (0, .ref b)]) hx hb dL_law_413 hl (by decide) rfl (fun ls hl => ?_)
  refine lv_aload_n hx hb dL_law_415 rfl (lv_at hl 8 rfl) ?_
  refine lr_outputs X I hl (Nat.le_of_ble_eq_true rfl) hcl dL_law_416 ?_
  refine lv_aload_n hx hb dL_law_419 rfl (lv_at hl 8 rfl) ?_
  refine lv_iload hx hb dL_law_420 (lv_at hl 3 rfl) ?_
  refine lr_outsIn (r0 := ((fb_rn M M 0 s1).2.2.2.2.2.2.2.1 6) - s1.2.2.2.2.2.1 6) X I hl (Nat.le_of_ble_eq_true rfl) hcl hspan (fun z => out_eq L.1 (by omega) hM2) dL_law_422 (fun H locs I => ?_)
  obtain ⟨_, _, _, _, I0⟩ := id I
  refine lv_iadd hx hb dL_law_425 ?_
  rw [lw_outE]
  refine lv_istore (lv' := [(12, .int ((fb_rn M M 0 s1).2.2.2.2.2.2.2.1 6)), (11, .int (if f_X2_endReason (fb_rn M M 0 s1).2.2 = 0 then (-1 : Int32) else nI (fb_rn M M 0 s1).2.1)), (9, .long (f_X11_digest s1 (fun _ => 0) (fun _ => 0) (fun _ => 0) (fun _ => 0) e7 h.1 (fun _ => 0) (fun _ => 0))), (8, .int (nI z)), (7, .int (nI M)), (6, .int ow), (5, .int vv), (4, .int (nI k)), (2, .ref zo), (1, .ref zm), (0, .ref b)]) hx hb dL_law_426 hl (by decide) rfl (fun ls hl => ?_)
  refine lv_aload_n hx hb dL_law_428 rfl (lv_at hl 9 rfl) ?_
  refine lv_iload hx hb dL_law_429 (lv_at hl 4 rfl) ?_
  refine lr_run X I hl (Nat.le_of_ble_eq_true rfl) hcl hspan L.2.2.2.1 L.2.2.2.2 (run_eq L.1 (by omega) hM1 hM2) dL_law_431 (fun H locs I => ?_)
  obtain ⟨_, _, _, _, I0⟩ := id I
  refine lv_istore (lv' := [(13, .int (nI (fb_rn M M 0 s1).2.1)), (12, .int ((fb_rn M M 0 s1).2.2.2.2.2.2.2.1 6)), (11, .int (if f_X2_endReason (fb_rn M M 0 s1).2.2 = 0 then (-1 : Int32) else nI (fb_rn M M 0 s1).2.1)), (9, .long (f_X11_digest s1 (fun _ => 0) (fun _ => 0) (fun _ => 0) (fun _ => 0) e7 h.1 (fun _ => 0) (fun _ => 0))), (8, .int (nI z)), (7, .int (nI M)), (6, .int ow), (5, .int vv), (4, .int (nI k)), (2, .ref zo), (1, .ref zm), (0, .ref b)]) hx hb dL_law_434 hl (by decide) rfl (fun ls hl => ?_)
  refine lv_iconst (v := (0 : Int32)) hx hb dL_law_436 (by decide) ?_
  refine lv_istore (lv' := [(14, .int (0 : Int32)), (13, .int (nI (fb_rn M M 0 s1).2.1)), (12, .int ((fb_rn M M 0 s1).2.2.2.2.2.2.2.1 6)), (11, .int (if f_X2_endReason (fb_rn M M 0 s1).2.2 = 0 then (-1 : Int32) else nI (fb_rn M M 0 s1).2.1)), (9, .long (f_X11_digest s1 (fun _ => 0) (fun _ => 0) (fun _ => 0) (fun _ => 0) e7 h.1 (fun _ => 0) (fun _ => 0))), (8, .int (nI z)), (7, .int (nI M)), (6, .int ow), (5, .int vv), (4, .int (nI k)), (2, .ref zo), (1, .ref zm), (0, .ref b)]) hx hb dL_law_437 hl (by decide) rfl (fun ls hl => ?_)
  refine lv_iconst (v := (0 : Int32)) hx hb dL_law_439 (by decide) ?_
  refine lv_istore (lv' := [(15, .int (0 : Int32)), (14, .int (0 : Int32)), (13, .int (nI (fb_rn M M 0 s1).2.1)), (12, .int ((fb_rn M M 0 s1).2.2.2.2.2.2.2.1 6)), (11, .int (if f_X2_endReason (fb_rn M M 0 s1).2.2 = 0 then (-1 : Int32) else nI (fb_rn M M 0 s1).2.1)), (9, .long (f_X11_digest s1 (fun _ => 0) (fun _ => 0) (fun _ => 0) (fun _ => 0) e7 h.1 (fun _ => 0) (fun _ => 0))), (8, .int (nI z)), (7, .int (nI M)), (6, .int ow), (5, .int vv), (4, .int (nI k)), (2, .ref zo), (1, .ref zm), (0, .ref b)]) hx hb dL_law_440 hl (by decide) rfl (fun ls hl => ?_)
  refine lw_In C hM2 M 0 0 (40 * k) t H locs _ hokt (by omega) (by omega) (by omega) I hl ?_
  intro H locs ls I hl
  rw [← q1, ← q2, show 0 + (fb_rn M M 0 s1).1 = (fb_rn M M 0 s1).1 from Nat.zero_add _] at hl
  obtain ⟨_, _, _, _, I0⟩ := id I
  refine lv_iload hx hb dL_law_472 (lv_at hl 2 rfl) ?_
  refine lv_iload hx hb dL_law_474 (lv_at hl 0 rfl) ?_
  refine lv_icmp_ne (tgt := 523) hx hb dL_law_476 (by decide) (fun cT => absurd rfl cT) (fun _ => ?_)
  refine lv_aload_n hx hb dL_law_479 rfl (lv_at hl 12 rfl) ?_
  refine lr_outputs X I hl (Nat.le_of_ble_eq_true rfl) hcl dL_law_480 ?_
  refine lv_iload hx hb dL_law_483 (lv_at hl 3 rfl) ?_
  refine lv_icmp_ne (tgt := 523) hx hb dL_law_485 (by decide) (fun cT => absurd rfl cT) (fun _ => ?_)
  refine lv_aload_n hx hb dL_law_488 rfl (lv_at hl 12 rfl) ?_
  refine lv_aload_n hx hb dL_law_489 rfl (lv_at hl 11 rfl) ?_
  refine lv_iload hx hb dL_law_490 (lv_at hl 9 rfl) ?_
  refine lr_isSame (x1 := vv) X I hl (Nat.le_of_ble_eq_true rfl) hcl dL_law_492 ?_
  refine lv_if_eq (tgt := 523) hx hb dL_law_495 (by decide) (fun cT => absurd cT (by rw [same_1 q3 vv]; decide)) (fun _ => ?_)
  refine lv_aload_n hx hb dL_law_498 rfl (lv_at hl 12 rfl) ?_
  refine lr_isBound X I hl (Nat.le_of_ble_eq_true rfl) hcl dL_law_499 ?_
  refine lv_if_eq (tgt := 523) hx hb dL_law_502 (by decide) (fun cT => absurd cT (by rw [bound_1 hok2 (by omega) hz6 (by omega)]; decide)) (fun _ => ?_)
  refine lv_aload_n hx hb dL_law_505 rfl (lv_at hl 12 rfl) ?_
  refine lr_history X I hl (Nat.le_of_ble_eq_true rfl) hcl dL_law_506 ?_
  refine lv_sipush (v := (200 : Int32)) hx hb dL_law_509 (by decide) ?_
  refine lv_iload hx hb dL_law_512 (lv_at hl 6 rfl) ?_
  refine lv_iload hx hb dL_law_514 (lv_at hl 1 rfl) ?_
  refine lv_iadd hx hb dL_law_516 ?_
  refine lr_min X htb hl (Nat.le_of_ble_eq_true rfl) hcl dL_law_517 ?_
  refine lv_icmp_eq (tgt := 525) hx hb dL_law_520 (by decide) (fun _ => ?_) (fun cF => absurd (hz6.trans (lw_minE hz (by omega)).symm) cF)
  have E558 : ∀ (H : Heap) (locs : List Loc) (ls : Array Slot), fb_LW D A s.heap cI zm tm zo to (fb_rn M M 0 s1).2.2 (fb_hk (fb_rn M M 0 s1).1 h s1) (upd e7 7 (fb_rs M (fb_rn M M 0 s1).2.1 (fb_rn M M 0 s1).2.2)) (fb_rn M M 0 t).2.2 H locs → lv_has ls 18 [(15, .int (nI (fb_rn M M 0 s1).2.1)), (14, .int (nI (fb_rn M M 0 s1).1)), (13, .int (nI (fb_rn M M 0 s1).2.1)), (12, .int ((fb_rn M M 0 s1).2.2.2.2.2.2.2.1 6)), (11, .int (if f_X2_endReason (fb_rn M M 0 s1).2.2 = 0 then (-1 : Int32) else nI (fb_rn M M 0 s1).2.1)), (9, .long (f_X11_digest s1 (fun _ => 0) (fun _ => 0) (fun _ => 0) (fun _ => 0) e7 h.1 (fun _ => 0) (fun _ => 0))), (8, .int (nI z)), (7, .int (nI M)), (6, .int ow), (5, .int vv), (4, .int (nI k)), (2, .ref zo), (1, .ref zm), (0, .ref b)] → W p l e room_1 s m args below meth c H locs 366 235966 Q (F0 m 558 ls []) := by
    intro H locs ls I hl
    obtain ⟨_, _, _, _, I0⟩ := id I
    refine lv_iload hx hb dL_law_558 (lv_at hl 1 rfl) ?_
    by_cases h0 : (fb_rn M M 0 s1).1 = 0
    · have hle : nI (fb_rn M M 0 s1).1 ≤ 0 := by rw [h0]; decide
      refine lv_if_le (tgt := 637) hx hb dL_law_560 (by decide) (fun _ => ?_) (fun cF => absurd hle cF)
      exact kN _ _ _ _ H locs ls (li_w Ln (by omega)) I (lv_sub hl [10, 11, 12, 13] rfl)
    · have hnl : ¬ nI (fb_rn M M 0 s1).1 ≤ 0 := nI_nle (by omega) (by omega)
      refine lv_if_le (tgt := 637) hx hb dL_law_560 (by decide) (fun cT => absurd cT hnl) (fun _ => ?_)
      refine lv_iload hx hb dL_law_563 (lv_at hl 9 rfl) ?_
      refine lv_bipush (v := (6 : Int32)) hx hb dL_law_565 (by decide) ?_
      refine lv_ishr hx hb dL_law_567 ?_
      refine lv_iconst (v := (3 : Int32)) hx hb dL_law_568 (by decide) ?_
      refine lr_below X I0 hl (Nat.le_of_ble_eq_true rfl) hcl (by decide) dL_law_569 ?_
      refine lv_if_ne (tgt := 637) hx hb dL_law_572 (by decide) (fun cT => ?_) (fun cF => ?_)
      · skip
        exact kN _ _ _ _ H locs ls (li_w Ln (by omega)) I (lv_sub hl [10, 11, 12, 13] rfl)
      · obtain ⟨e0, sb, hb1, hb2, Lb⟩ := li_back (M := M) (r := fb_rs M (fb_rn M M 0 s1).2.1 (fb_rn M M 0 s1).2.2) L (by omega) hM2 (by omega)
        obtain ⟨p1, p2, p3⟩ := rn_eq (M := M) M 0 hb2
        refine lv_aload_n hx hb dL_law_575 rfl (lv_at hl 12 rfl) ?_
        refine lr_stopped X I hl (Nat.le_of_ble_eq_true rfl) hcl dL_law_576 ?_
        refine lv_istore (lv' := [(16, .int (upd e7 7 (fb_rs M (fb_rn M M 0 s1).2.1 (fb_rn M M 0 s1).2.2) 7)), (15, .int (nI (fb_rn M M 0 s1).2.1)), (14, .int (nI (fb_rn M M 0 s1).1)), (13, .int (nI (fb_rn M M 0 s1).2.1)), (12, .int ((fb_rn M M 0 s1).2.2.2.2.2.2.2.1 6)), (11, .int (if f_X2_endReason (fb_rn M M 0 s1).2.2 = 0 then (-1 : Int32) else nI (fb_rn M M 0 s1).2.1)), (9, .long (f_X11_digest s1 (fun _ => 0) (fun _ => 0) (fun _ => 0) (fun _ => 0) e7 h.1 (fun _ => 0) (fun _ => 0))), (8, .int (nI z)), (7, .int (nI M)), (6, .int ow), (5, .int vv), (4, .int (nI k)), (2, .ref zo), (1, .ref zm), (0, .ref b)]) hx hb dL_law_579 hl (by decide) rfl (fun ls hl => ?_)
        refine lv_aload_n hx hb dL_law_581 rfl (lv_at hl 13 rfl) ?_
        refine lv_iload hx hb dL_law_582 (lv_at hl 2 rfl) ?_
        refine lr_back (r0 := nI (fb_rn M M 0 s1).1) (e0 := e0) (s2 := sb) X I hl (Nat.le_of_ble_eq_true rfl) hcl (show ¬ nI (fb_rn M M 0 s1).1 < nI 1 from nI_nlt (by omega) (by omega)) (show nI (fb_rn M M 0 s1).1 ≤ nI 200 from nI_le (by omega) (by decide)) hb1 dL_law_584 (fun H locs I => ?_)
        obtain ⟨_, _, _, _, I0⟩ := id I
        refine lv_iload hx hb dL_law_587 (lv_at hl 2 rfl) ?_
        refine lv_icmp_ne (tgt := 599) hx hb dL_law_589 (by decide) (fun cT => absurd rfl cT) (fun _ => ?_)
        refine lv_aload_n hx hb dL_law_592 rfl (lv_at hl 13 rfl) ?_
        refine lr_stopped X I hl (Nat.le_of_ble_eq_true rfl) hcl dL_law_593 ?_
        refine lv_if_eq (tgt := 601) hx hb dL_law_596 (by decide) (fun _ => ?_) (fun cF => absurd pk_us cF)
        refine lv_aload_n hx hb dL_law_601 rfl (lv_at hl 13 rfl) ?_
        refine lv_iload hx hb dL_law_602 (lv_at hl 8 rfl) ?_
        refine lr_run X I hl (Nat.le_of_ble_eq_true rfl) hcl hspan Lb.2.2.2.1 Lb.2.2.2.2 (run_eq Lb.1 (by omega) hM1 hM2) dL_law_604 (fun H locs I => ?_)
        obtain ⟨_, _, _, _, I0⟩ := id I
        refine lv_istore (lv' := [(17, .int (nI (fb_rn M M 0 sb).2.1)), (16, .int (upd e7 7 (fb_rs M (fb_rn M M 0 s1).2.1 (fb_rn M M 0 s1).2.2) 7)), (15, .int (nI (fb_rn M M 0 s1).2.1)), (14, .int (nI (fb_rn M M 0 s1).1)), (13, .int (nI (fb_rn M M 0 s1).2.1)), (12, .int ((fb_rn M M 0 s1).2.2.2.2.2.2.2.1 6)), (11, .int (if f_X2_endReason (fb_rn M M 0 s1).2.2 = 0 then (-1 : Int32) else nI (fb_rn M M 0 s1).2.1)), (9, .long (f_X11_digest s1 (fun _ => 0) (fun _ => 0) (fun _ => 0) (fun _ => 0) e7 h.1 (fun _ => 0) (fun _ => 0))), (8, .int (nI z)), (7, .int (nI M)), (6, .int ow), (5, .int vv), (4, .int (nI k)), (2, .ref zo), (1, .ref zm), (0, .ref b)]) hx hb dL_law_607 hl (by decide) rfl (fun ls hl => ?_)
        refine lv_iload hx hb dL_law_609 (lv_at hl 0 rfl) ?_
        refine lv_iload hx hb dL_law_611 (lv_at hl 4 rfl) ?_
        refine lv_icmp_ne (tgt := 635) hx hb dL_law_613 (by decide) (fun cT => absurd (congrArg nI p2) cT) (fun _ => ?_)
        refine lv_aload_n hx hb dL_law_616 rfl (lv_at hl 14 rfl) ?_
        refine lr_stopped X I hl (Nat.le_of_ble_eq_true rfl) hcl dL_law_617 ?_
        refine lv_iload hx hb dL_law_620 (lv_at hl 1 rfl) ?_
        refine lv_icmp_ne (tgt := 635) hx hb dL_law_622 (by decide) (fun cT => absurd (show upd (upd (upd e7 7 (fb_rs M (fb_rn M M 0 s1).2.1 (fb_rn M M 0 s1).2.2)) 7 (0 : Int32)) 7 (fb_rs M (fb_rn M M 0 sb).2.1 (fb_rn M M 0 sb).2.2) 7 = upd e7 7 (fb_rs M (fb_rn M M 0 s1).2.1 (fb_rn M M 0 s1).2.2) 7 from by rw [pk_us, pk_us]; unfold fb_rs; rw [p2, eq_end p3]) cT) (fun _ => ?_)
        refine lv_aload_n hx hb dL_law_625 rfl (lv_at hl 14 rfl) ?_
        refine lv_aload_n hx hb dL_law_626 rfl (lv_at hl 13 rfl) ?_
        refine lv_iload hx hb dL_law_627 (lv_at hl 11 rfl) ?_
        refine lr_isSame (x1 := vv) X I hl (Nat.le_of_ble_eq_true rfl) hcl dL_law_629 ?_
        refine lv_if_ne (tgt := 637) hx hb dL_law_632 (by decide) (fun _ => ?_) (fun cF => absurd cF (show ¬ f_L_isSame (fb_rn M M 0 sb).2.2 (fb_rn M M 0 t).2.2 vv = 0 from by rw [same_1 (Eq.trans p3 q3) vv]; decide))
        have Ln2 := li_next (M := M) (t' := (fb_rn M M 0 t).2.2) (r := (fb_rs M (fb_rn M M 0 sb).2.1 (fb_rn M M 0 sb).2.2)) Lb (by omega) hM2 (Eq.trans p3 q3)
        exact kN _ _ _ _ H locs _ (li_w Ln2 (by omega)) I (lv_sub hl [12, 13, 14, 15] rfl)
  refine lv_iload hx hb dL_law_525 (lv_at hl 4 rfl) ?_
  by_cases hE : f_X2_endReason (fb_rn M M 0 s1).2.2 = 0
  · have hh : (if f_X2_endReason (fb_rn M M 0 s1).2.2 = 0 then (-1 : Int32) else nI (fb_rn M M 0 s1).2.1) < 0 := by rw [if_pos hE]; decide
    refine lv_if_lt (tgt := 548) hx hb dL_law_527 (by decide) (fun _ => ?_) (fun cF => absurd hh cF)
    refine lv_aload_n hx hb dL_law_548 rfl (lv_at hl 12 rfl) ?_
    refine lr_state_m X I hl (Nat.le_of_ble_eq_true rfl) hcl dL_law_549 ?_
    refine lv_iconst (v := (1 : Int32)) hx hb dL_law_552 (by decide) ?_
    refine lv_icmp_le (tgt := 558) hx hb dL_law_553 (by decide) (fun _ => ?_) (fun cF => absurd ((st_2 hok2).1 hE).2 cF)
    exact E558 H locs ls I hl
  · have hh : ¬ (if f_X2_endReason (fb_rn M M 0 s1).2.2 = 0 then (-1 : Int32) else nI (fb_rn M M 0 s1).2.1) < 0 := by rw [if_neg hE]; exact nI_pos (by omega)
    refine lv_if_lt (tgt := 548) hx hb dL_law_527 (by decide) (fun cT => absurd cT hh) (fun _ => ?_)
    refine lv_aload_n hx hb dL_law_530 rfl (lv_at hl 12 rfl) ?_
    refine lr_state_m X I hl (Nat.le_of_ble_eq_true rfl) hcl dL_law_531 ?_
    refine lv_iconst (v := (2 : Int32)) hx hb dL_law_534 (by decide) ?_
    refine lv_icmp_lt (tgt := 556) hx hb dL_law_535 (by decide) (fun cT => absurd ((st_2 hok2).2 hE) (fun q => by rw [Int32.lt_iff_toInt_lt] at cT; rw [Int32.le_iff_toInt_le] at q; omega)) (fun _ => ?_)
    refine lv_iload hx hb dL_law_538 (lv_at hl 2 rfl) ?_
    refine lv_iload hx hb dL_law_540 (lv_at hl 4 rfl) ?_
    refine lv_icmp_eq (tgt := 558) hx hb dL_law_542 (by decide) (fun _ => ?_) (fun cF => absurd (if_neg hE).symm cF)
    exact E558 H locs ls I hl
set_option maxHeartbeats 8000000 in
set_option maxRecDepth 100000 in
theorem lw_C (C : fb_CX p s m args meth c D cI cJ A b L xs) (kE : ∀ (s1 : fb_MS) (h : fb_HS) (e7 : fb_AR) (t : fb_MS) (H : Heap) (locs : List Loc) (ls : Array Slot), fb_LW D A s.heap cI zm tm zo to s1 h e7 t H locs → W p l e room_1 s m args below meth c H locs 366 235966 Q (F0 m 643 ls [])) :
    ∀ (n k : Nat), k + n = 12 → ∀ (s1 : fb_MS) (h : fb_HS) (e7 : fb_AR) (t : fb_MS) (H : Heap) (locs : List Loc) (ls : Array Slot), fb_LI (40 * k) s1 h e7 t → fb_LW D A s.heap cI zm tm zo to s1 h e7 t H locs → lv_has ls 18 [(4, .int (nI k)), (2, .ref zo), (1, .ref zm), (0, .ref b)] → W p l e room_1 s m args below meth c H locs 366 235966 Q (F0 m 253 ls []) := by
  obtain ⟨X, htb, hX, hbl, hbA, hL⟩ := id C
  obtain ⟨hx, hb, hr, hml, hown, hts, hlk, hA, hK, hF⟩ := id X
  have hcl : 366 ≤ room_1.cells ∧ 235966 ≤ room_1.slots := ⟨Nat.le_of_ble_eq_true rfl, Nat.le_of_ble_eq_true rfl⟩
  intro n
  induction n with
  | zero =>
    intro k hk s1 h e7 t H locs ls L I hl
    obtain rfl : k = 12 := by omega
    refine lv_iload hx hb dL_law_253 (lv_at hl 0 rfl) ?_
    refine lv_bipush (v := (12 : Int32)) hx hb dL_law_255 (by decide) ?_
    refine lv_icmp_ge (tgt := 643) hx hb dL_law_257 (by decide) (fun _ => ?_) (fun cF => absurd (show (12 : Int32) ≤ nI 12 from nI_le (a := 12) (b := 12) (Nat.le_refl _) (by decide)) cF)
    exact kE s1 h e7 t H locs ls I
  | succ n ih =>
    intro k hk s1 h e7 t H locs ls L I hl
    have hk12 : k < 12 := by omega
    obtain ⟨_, _, _, _, I0⟩ := id I
    refine lv_iload hx hb dL_law_253 (lv_at hl 0 rfl) ?_
    refine lv_bipush (v := (12 : Int32)) hx hb dL_law_255 (by decide) ?_
    refine lv_icmp_ge (tgt := 643) hx hb dL_law_257 (by decide) (fun cT => absurd cT (nI_ge (a := k) (b := 12) hk12 (by decide))) (fun _ => ?_)
    refine lv_aload_n hx hb dL_law_260 rfl (lv_at hl 3 rfl) ?_
    refine lv_iload hx hb dL_law_261 (lv_at hl 0 rfl) ?_
    refine lr_cell X I0 hX hbl hbA hL hl (Nat.le_of_ble_eq_true rfl) hcl (nI_pos (by omega)) dL_law_263 (fun r263 => ?_)
    refine lv_iconst (v := (3 : Int32)) hx hb dL_law_266 (by decide) ?_
    refine lv_ishr hx hb dL_law_267 ?_
    refine lv_istore (lv' := [(5, .int (r263 >>> ((3 : Int32) &&& 31))), (4, .int (nI k)), (2, .ref zo), (1, .ref zm), (0, .ref b)]) hx hb dL_law_268 hl (by decide) rfl (fun ls hl => ?_)
    generalize (r263 >>> ((3 : Int32) &&& 31)) = vv at hl ⊢
    refine lv_iload hx hb dL_law_270 (lv_at hl 0 rfl) ?_
    refine lv_bipush (v := (9 : Int32)) hx hb dL_law_272 (by decide) ?_
    refine lr_below X I0 hl (Nat.le_of_ble_eq_true rfl) hcl (by decide) dL_law_274 ?_
    generalize (f_L_below vv (9 : Int32)) = ow
    refine lv_istore (lv' := [(6, .int ow), (5, .int vv), (4, .int (nI k)), (2, .ref zo), (1, .ref zm), (0, .ref b)]) hx hb dL_law_277 hl (by decide) rfl (fun ls hl => ?_)
    have E637 : ∀ (s1 : fb_MS) (h : fb_HS) (e7 : fb_AR) (t : fb_MS) (H : Heap) (locs : List Loc) (ls : Array Slot), fb_LI (40 * (k + 1)) s1 h e7 t → fb_LW D A s.heap cI zm tm zo to s1 h e7 t H locs → lv_has ls 18 [(4, .int (nI k)), (2, .ref zo), (1, .ref zm), (0, .ref b)] → W p l e room_1 s m args below meth c H locs 366 235966 Q (F0 m 637 ls []) := by
      intro s1 h e7 t H locs ls L I hl
      refine lv_iinc (v := (nI (k + 1))) (lv' := [(4, .int (nI (k + 1))), (2, .ref zo), (1, .ref zm), (0, .ref b)]) hx hb dL_law_637 hl (k := 0) rfl (nI_succ k).symm (by decide) rfl (fun ls hl => ?_)
      refine lv_goto (tgt := 253) hx hb dL_law_640 (by decide) ?_
      exact ih (k + 1) (by omega) _ _ _ _ H locs _ L I hl
    have E364 := lw_D C hk12 (vv := vv) (ow := ow) E637
    have E345 : ∀ (s1 : fb_MS) (h : fb_HS) (e7 : fb_AR) (t : fb_MS) (H : Heap) (locs : List Loc) (ls : Array Slot), fb_LI (40 * k) s1 h e7 t → fb_LW D A s.heap cI zm tm zo to s1 h e7 t H locs → lv_has ls 18 [(6, .int ow), (5, .int vv), (4, .int (nI k)), (2, .ref zo), (1, .ref zm), (0, .ref b)] → W p l e room_1 s m args below meth c H locs 366 235966 Q (F0 m 345 ls []) := by
      intro s1 h e7 t H locs ls L I hl
      obtain ⟨_, _, _, _, I0⟩ := id I
      refine lv_iload hx hb dL_law_345 (lv_at hl 0 rfl) ?_
      refine lv_iconst (v := (2 : Int32)) hx hb dL_law_347 (by decide) ?_
      refine lv_icmp_ne (tgt := 364) hx hb dL_law_348 (by decide) (fun cT => ?_) (fun cF => ?_)
      · exact E364 s1 h e7 t H locs ls L I hl
      · have L2 := li_nmi L
        refine lv_aload_n hx hb dL_law_351 rfl (lv_at hl 4 rfl) ?_
        refine lr_nmi_m X I hl (Nat.le_of_ble_eq_true rfl) hcl dL_law_352 (fun H locs I => ?_)
        obtain ⟨_, _, _, _, I0⟩ := id I
        refine lv_aload_n hx hb dL_law_355 rfl (lv_at hl 3 rfl) ?_
        refine lr_nmi_o X I hl (Nat.le_of_ble_eq_true rfl) hcl dL_law_356 (fun H locs I => ?_)
        obtain ⟨_, _, _, _, I0⟩ := id I
        refine lv_icmp_eq (tgt := 364) hx hb dL_law_359 (by decide) (fun _ => ?_) (fun cF => absurd (show fb_bI s1.2.2.2.2.1 = fb_bI t.2.2.2.2.1 from by rw [eq_b L.2.1]) cF)
        exact E364 _ _ _ _ H locs ls L2 I hl
    have E326 : ∀ (s1 : fb_MS) (h : fb_HS) (e7 : fb_AR) (t : fb_MS) (H : Heap) (locs : List Loc) (ls : Array Slot), fb_LI (40 * k) s1 h e7 t → fb_LW D A s.heap cI zm tm zo to s1 h e7 t H locs → lv_has ls 18 [(6, .int ow), (5, .int vv), (4, .int (nI k)), (2, .ref zo), (1, .ref zm), (0, .ref b)] → W p l e room_1 s m args below meth c H locs 366 235966 Q (F0 m 326 ls []) := by
      intro s1 h e7 t H locs ls L I hl
      obtain ⟨_, _, _, _, I0⟩ := id I
      refine lv_iload hx hb dL_law_326 (lv_at hl 0 rfl) ?_
      refine lv_iconst (v := (1 : Int32)) hx hb dL_law_328 (by decide) ?_
      refine lv_icmp_ne (tgt := 345) hx hb dL_law_329 (by decide) (fun cT => ?_) (fun cF => ?_)
      · exact E345 s1 h e7 t H locs ls L I hl
      · have L2 := li_signal L
        refine lv_aload_n hx hb dL_law_332 rfl (lv_at hl 4 rfl) ?_
        refine lr_signal_m X I hl (Nat.le_of_ble_eq_true rfl) hcl dL_law_333 (fun H locs I => ?_)
        obtain ⟨_, _, _, _, I0⟩ := id I
        refine lv_aload_n hx hb dL_law_336 rfl (lv_at hl 3 rfl) ?_
        refine lr_signal_o X I hl (Nat.le_of_ble_eq_true rfl) hcl dL_law_337 (fun H locs I => ?_)
        obtain ⟨_, _, _, _, I0⟩ := id I
        refine lv_icmp_eq (tgt := 345) hx hb dL_law_340 (by decide) (fun _ => ?_) (fun cF => absurd (show (f_X11_signal s1 h.1).1 = (f_X11_signal t (fun _ => 0)).1 from eq_p L2.2.1 4 (by decide)) cF)
        exact E345 _ _ _ _ H locs ls L2 I hl
    refine lv_iload hx hb dL_law_279 (lv_at hl 0 rfl) ?_
    refine lv_if_ne (tgt := 326) hx hb dL_law_281 (by decide) (fun cT => ?_) (fun cF => ?_)
    · exact E326 s1 h e7 t H locs ls L I hl
    · skip
      refine lv_aload_n hx hb dL_law_284 rfl (lv_at hl 4 rfl) ?_
      refine lr_inputs X I hl (Nat.le_of_ble_eq_true rfl) hcl dL_law_285 ?_
      refine lv_bipush (v := (16 : Int32)) hx hb dL_law_288 (by decide) ?_
      refine lv_icmp_ge (tgt := 326) hx hb dL_law_290 (by decide) (fun cT => ?_) (fun cF => ?_)
      · exact E326 s1 h e7 t H locs ls L I hl
      · have h16 : s1.2.2.2.2.2.1 5 < 16 := by rw [Int32.le_iff_toInt_le] at cF; rw [Int32.lt_iff_toInt_lt]; omega
        have h16t : t.2.2.2.2.2.1 5 < 16 := by rw [← eq_p L.2.1 5 (by decide)]; exact h16
        have hbr := lw_brg (vv >>> ((4 : Int32) &&& 31)) (d := 256) 256 (by decide) (by decide) rfl
        have L2 := li_key L hbr h16
        refine lv_aload_n hx hb dL_law_293 rfl (lv_at hl 4 rfl) ?_
        refine lv_iload hx hb dL_law_294 (lv_at hl 1 rfl) ?_
        refine lv_iconst (v := (4 : Int32)) hx hb dL_law_296 (by decide) ?_
        refine lv_ishr hx hb dL_law_297 ?_
        refine lv_sipush (v := (256 : Int32)) hx hb dL_law_298 (by decide) ?_
        refine lr_below X I0 hl (Nat.le_of_ble_eq_true rfl) hcl (by decide) dL_law_301 ?_
        refine lr_key_m (x1 := (f_L_below (vv >>> ((4 : Int32) &&& 31)) (256 : Int32))) X I hl (Nat.le_of_ble_eq_true rfl) hcl (lw_noB hbr) h16 dL_law_304 (fun H locs I => ?_)
        obtain ⟨_, _, _, _, I0⟩ := id I
        refine lv_aload_n hx hb dL_law_307 rfl (lv_at hl 3 rfl) ?_
        refine lv_iload hx hb dL_law_308 (lv_at hl 1 rfl) ?_
        refine lv_iconst (v := (4 : Int32)) hx hb dL_law_310 (by decide) ?_
        refine lv_ishr hx hb dL_law_311 ?_
        refine lv_sipush (v := (256 : Int32)) hx hb dL_law_312 (by decide) ?_
        refine lr_below X I0 hl (Nat.le_of_ble_eq_true rfl) hcl (by decide) dL_law_315 ?_
        refine lr_key_o (x1 := (f_L_below (vv >>> ((4 : Int32) &&& 31)) (256 : Int32))) X I hl (Nat.le_of_ble_eq_true rfl) hcl (lw_noB hbr) h16t dL_law_318 (fun H locs I => ?_)
        obtain ⟨_, _, _, _, I0⟩ := id I
        refine lv_icmp_eq (tgt := 326) hx hb dL_law_321 (by decide) (fun _ => ?_) (fun cF => absurd (show (f_X11_key s1 h.1 (f_L_below (vv >>> ((4 : Int32) &&& 31)) (256 : Int32))).1 = (f_X11_key t (fun _ => 0) (f_L_below (vv >>> ((4 : Int32) &&& 31)) (256 : Int32))).1 from eq_p L2.2.1 5 (by decide)) cF)
        exact E326 _ _ _ _ H locs ls L2 I hl
end LLQ
