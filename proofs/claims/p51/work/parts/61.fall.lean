/-! 67 calls of codes() on a fresh object make more than the claim allows -/
abbrev zz_room : Room := { frames := 2048, cells := 274775, slots := 1276969, locals := 84000 }
theorem zz_e0 : upd fr_e0 19 (0 : Int32) = fr_e0 := by
  funext j
  unfold upd
  by_cases h : j = 19
  · rw [if_pos h, h]; decide
  · rw [if_neg h]
def zz_E (below : List Frame) (s : State) : State → Prop := fun t => t.status = .running ∧ Ended t below (.returned (some (.int 1))) ∧ s.heap.size + 274432 ≤ t.heap.size
theorem zz_ret {p : Program} {l : Launch} {e : Env} {R0 : Room} {s : State} {m : MethodId} {below : List Frame} {meth : Method} {c : Code} {b : Nat} {cells slots : Nat} (hx : p.tables.exec = Jvm.exec) (hb : c.code = code) (hr : meth.sig.returnType = ret) (hlocks : meth.locks = false) {pc : Nat} {H : Heap} {ls : Array Slot} (hz : s.heap.size + 274432 ≤ H.size) (hdg : decode code pc = .ok (.ireturn, 1)) : W p l e R0 s m #[Value.ref b] below meth c H [] cells slots (zz_E below s) (F0 m pc ls [.int 1]) := by
  intro T hT X
  obtain ⟨fs, hret, hrun, hended, hW, hframe⟩ := X.leave (v := some (.int 1)) (hlocks := hlocks) (fun h => by rw [hr] at h; cases h)
  have hmeth' : T.vm.method? m = some meth := X.method'
  refine ⟨T.setFrames fs, ?_, hrun, hended, by show s.heap.size + 274432 ≤ T.heap.size; rw [hT]; exact hz⟩
  jvm_step X.here [X.here.top, hx, hb, hdg, hmeth', hr, ret, narrow_b1]
  (try refine ⟨rfl, ?_⟩); (try refine ⟨rfl, ?_⟩)
  first | (intro acts; rw [hret _ acts rfl rfl rfl]) | rw [hret _ _ rfl rfl rfl]
  exact Steps.refl _
set_option maxHeartbeats 4000000 in
set_option maxRecDepth 100000 in
theorem zz_loop {p : Program} {l : Launch} {e : Env} {s : State} {m : MethodId} {below : List Frame} {meth : Method} {c : Code} {b : Nat} {xs : Nat → Int32} {D : va_G} {cI cJ : ClassId} {A : Nat → Prop} {zb z0 z1 z2 z3 z4 z6 z7 z8 zre : Nat} {zq : Nat → Nat} {σ : fb_MS} {w : fb_AR} {zac zab zao za : Nat} {zr : Nat → Nat} (X : fb_Bx p s m #[Value.ref b] meth c cL_law RL 9 (some .boolean) D (fb_ty D cI cJ) A) (hX : va_X b 402 xs s s.heap) (hbl : b < s.heap.size) (hbA : ¬ A b) (hAs : ∀ q, A q → s.heap.size ≤ q) (hxs : ∀ j, j < 402 → xs j = 54) : ∀ (n i : Nat) (hn : i + n = 67) (ze6 zc zbg zop : fb_AR) (H : Heap) (locs : List Loc) (ls : Array Slot) (I : fb_In D A s.heap ([fb_o11 zb z0 z1 z2 z3 z4 (zq 0) z6 z7 z8 zre, fb_mw cI zq σ w, fb_o6 zre zac zab zao ze6, fb_aw cI zac 4096 zc, fb_aw cI zab 4096 zbg, fb_aw cI zao 4096 zop, fb_o12 za zr fr_e0, fb_aw cI (zr 0) 16205 (fr_m (fun _ => 0) 0)] : List va_W).flatten H locs) (hz : s.heap.size + 4096 * i ≤ H.size) (hl : lv_has ls 9 [(4, .int (nI (6 * i))), (2, .ref za), (1, .ref zb), (0, .ref b)]), W p l e zz_room s m #[Value.ref b] below meth c H locs (209 + 4098 * i) (179241 + 16384 * i) (zz_E below s) (F0 m 23 ls []) := by
  intro n
  obtain ⟨hx, hb, hr, hml, hown, hts, hlk, hA, hK, hF⟩ := id X
  induction n with
  | zero =>
    intro i hn ze6 zc zbg zop H locs ls I hz hl
    have hi : 67 = i := by omega
    subst hi
    refine lv_iload hx hb dL_law_23 (lv_at hl 0 rfl) ?_
    refine lv_aload_n hx hb dL_law_25 rfl (lv_at hl 3 rfl) ?_
    refine va_slen hx hb hX hbl hbA I.2.2 dL_law_26 ?_
    refine lv_bipush (v := (6 : Int32)) hx hb dL_law_27 (by decide) ?_
    refine lv_isub hx hb dL_law_29 ?_
    refine fb_tI (v := nI 396) (by decide +kernel) ?_
    refine lv_icmp_gt (tgt := 1636) hx hb dL_law_30 (by decide) (fun _ => ?_) (fun c1 => absurd (nI_lt (a := 396) (b := 402) (by omega) (by omega)) c1)
    refine lv_iconst (v := (1 : Int32)) hx hb dL_law_1636 (by decide) ?_
    refine va_forget (fun q hq => hAs _ (I.2.2.2.2 q hq)) ?_
    exact zz_ret hx hb hr hlk hz dL_law_1637
  | succ n ih =>
    intro i hn ze6 zc zbg zop H locs ls I hz hl
    have hi : i < 67 := by omega
    refine lv_iload hx hb dL_law_23 (lv_at hl 0 rfl) ?_
    refine lv_aload_n hx hb dL_law_25 rfl (lv_at hl 3 rfl) ?_
    refine va_slen hx hb hX hbl hbA I.2.2 dL_law_26 ?_
    refine lv_bipush (v := (6 : Int32)) hx hb dL_law_27 (by decide) ?_
    refine lv_isub hx hb dL_law_29 ?_
    refine fb_tI (v := nI 396) (by decide +kernel) ?_
    refine lv_icmp_gt (tgt := 1636) hx hb dL_law_30 (by decide) (fun c1 => absurd c1 (nI_nlt (a := 396) (b := 6 * i) (by omega) (by omega))) (fun _ => ?_)
    refine lv_aload_n hx hb dL_law_33 rfl (lv_at hl 3 rfl) ?_
    refine lv_iload hx hb dL_law_34 (lv_at hl 0 rfl) ?_
    refine va_sld (i := nI (6 * i)) hx hb hX hbl hbA I.2.2 (fb_inC (n := 6 * i) (nI_clamp (by omega)) (nI_pos (by omega)) (by omega)) dL_law_36 ?_
    refine fb_tI (v := (54 : Int32)) (by rw [nI_clamp (by omega)]; exact hxs _ (by omega)) ?_
    refine lv_bipush (v := (63 : Int32)) hx hb dL_law_37 (by decide) ?_
    refine lv_iand hx hb dL_law_39 ?_
    refine fb_tI (v := (54 : Int32)) (by decide) ?_
    refine lv_tableIn (tgt := 1589) hx hb dL_law_40 (by decide) (by decide) (by rfl) (by decide) ?_
    refine lv_aload_n hx hb dL_law_1589 rfl (lv_at hl 2 rfl) ?_
    refine fb_gIs (cs := [fb_o11 zb z0 z1 z2 z3 z4 (zq 0) z6 z7 z8 zre, fb_mw cI zq σ w, fb_o6 zre zac zab zao ze6, fb_aw cI zac 4096 zc, fb_aw cI zab 4096 zbg, fb_aw cI zao 4096 zop]) (rs := [fb_o12 za zr fr_e0, fb_aw cI (zr 0) 16205 (fr_m (fun _ => 0) 0)]) (fun (u : fb_AR × fb_AR × fb_AR × fb_AR) => [fb_o11 zb z0 z1 z2 z3 z4 (zq 0) z6 z7 z8 zre, fb_mw cI zq σ w, fb_o6 zre zac zab zao u.1, fb_aw cI zac 4096 u.2.1, fb_aw cI zab 4096 u.2.2.1, fb_aw cI zao 4096 u.2.2.2, fb_o12 za zr fr_e0, fb_aw cI (zr 0) 16205 (fr_m (fun _ => 0) 0)]) (fun (u : fb_AR × fb_AR × fb_AR × fb_AR) => [fb_o11 zb z0 z1 z2 z3 z4 (zq 0) z6 z7 z8 zre, fb_mw cI zq σ w, fb_o6 zre zac zab zao u.1, fb_aw cI zac 4096 u.2.1, fb_aw cI zab 4096 u.2.2.1, fb_aw cI zao 4096 u.2.2.2]) hz X I [0, 1, 2, 3, 4, 5, 6, 7] 8 rfl (by decide +kernel) rfl rfl [0, 1, 2, 3, 4, 5, 6, 7] 8 (fun _ => rfl) (by decide +kernel) (fun _ => rfl) (fun _ => rfl) (fun I => fb_rV (As := []) (rest := []) X hl (fb_goodV fw_1509 fw_1510 fw_1511 fw_191 fw_1512) (c_X11_codes l D cI cJ zb z0 z1 z2 z3 z4 z6 z7 z8 zre zq σ w zac zab zao ze6 zc zbg zop _) rfl rfl rfl (by decide +kernel : fb_hd yX11_codes 0) ⟨(Nat.le_of_ble_eq_true rfl), (Nat.le_of_ble_eq_true rfl)⟩ (rfl : vwCl[11]? = some _) rfl rfl rfl rfl (Nat.le_of_ble_eq_true rfl) ⟨by show 209 + 4098 * i + 0 ≤ 274775; omega, by show 179241 + 16384 * i + 0 ≤ 1276969; omega⟩ dL_law_1590 I) ?_
    intro r1 u H locs hz I
    have I : fb_In D A s.heap ([fb_o11 zb z0 z1 z2 z3 z4 (zq 0) z6 z7 z8 zre, fb_mw cI zq σ w, fb_o6 zre zac zab zao u.1, fb_aw cI zac 4096 u.2.1, fb_aw cI zab 4096 u.2.2.1, fb_aw cI zao 4096 u.2.2.2, fb_o12 za zr fr_e0, fb_aw cI (zr 0) 16205 (fr_m (fun _ => 0) 0)] : List va_W).flatten H locs := I
    refine lv_pop hx hb dL_law_1593 rfl ?_
    refine lv_aload_n hx hb dL_law_1594 rfl (lv_at hl 1 rfl) ?_
    refine fb_gIz (cs := [fb_o12 za zr fr_e0, fb_aw cI (zr 0) 16205 (fr_m (fun _ => 0) 0)]) (rs := [fb_o11 zb z0 z1 z2 z3 z4 (zq 0) z6 z7 z8 zre, fb_mw cI zq σ w, fb_o6 zre zac zab zao u.1, fb_aw cI zac 4096 u.2.1, fb_aw cI zab 4096 u.2.2.1, fb_aw cI zao 4096 u.2.2.2]) (fun (_ : Unit) => [fb_o11 zb z0 z1 z2 z3 z4 (zq 0) z6 z7 z8 zre, fb_mw cI zq σ w, fb_o6 zre zac zab zao u.1, fb_aw cI zac 4096 u.2.1, fb_aw cI zab 4096 u.2.2.1, fb_aw cI zao 4096 u.2.2.2, fb_o12 za zr (upd fr_e0 19 (0 : Int32)), fb_aw cI (zr 0) 16205 (fr_m (fun _ => 0) 0)]) (fun (_ : Unit) => [fb_o12 za zr (upd fr_e0 19 (0 : Int32)), fb_aw cI (zr 0) 16205 (fr_m (fun _ => 0) 0)]) X I [6, 7, 0, 1, 2, 3, 4, 5] 8 rfl (by decide +kernel) rfl rfl [6, 7, 0, 1, 2, 3, 4, 5] 8 (fun _ => rfl) (by decide +kernel) (fun _ => rfl) (fun _ => rfl) (fun I => fb_rV (As := []) (rest := []) X hl (fb_goodV fw_2771 fw_2772 fw_2773 fw_204 fw_2774) (cz_codes l D cI cJ za zr _) rfl rfl rfl (by decide +kernel : fb_hd yX12_codes 0) ⟨(Nat.le_of_ble_eq_true rfl), (Nat.le_of_ble_eq_true rfl)⟩ rfl rfl rfl rfl rfl (Nat.le_of_ble_eq_true rfl) ⟨by show 209 + 4098 * i + 0 + 4098 ≤ 274775; omega, by show 179241 + 16384 * i + 0 + 16384 ≤ 1276969; omega⟩ dL_law_1595 I) ?_
    intro r2 _ H locs _ hz2 I
    have hz : s.heap.size + 4096 * (i + 1) ≤ H.size := by omega
    have I : fb_In D A s.heap ([fb_o11 zb z0 z1 z2 z3 z4 (zq 0) z6 z7 z8 zre, fb_mw cI zq σ w, fb_o6 zre zac zab zao u.1, fb_aw cI zac 4096 u.2.1, fb_aw cI zab 4096 u.2.2.1, fb_aw cI zao 4096 u.2.2.2, fb_o12 za zr (upd fr_e0 19 (0 : Int32)), fb_aw cI (zr 0) 16205 (fr_m (fun _ => 0) 0)] : List va_W).flatten H locs := I
    rw [zz_e0] at I
    refine lv_pop hx hb dL_law_1598 rfl ?_
    refine lv_goto (tgt := 1630) hx hb dL_law_1599 (by decide) ?_
    refine lv_iinc (v := (nI (6 * (i + 1)))) (lv' := [(4, .int (nI (6 * (i + 1)))), (2, .ref za), (1, .ref zb), (0, .ref b)]) hx hb dL_law_1630 hl (k := 0) rfl (nI_add (6 * i) 6) (by decide) rfl (fun ls hl => ?_)
    refine lv_goto (tgt := 23) hx hb dL_law_1633 (by decide) ?_
    refine W.widen (k := 209 + 4098 * (i + 1)) (n := 179241 + 16384 * (i + 1)) (by omega) (by omega) ?_
    exact ih (i + 1) (by omega) _ _ _ _ H locs ls I hz hl
set_option maxHeartbeats 16000000 in
set_option maxRecDepth 100000 in
theorem zz_start {p : Program} {e : Env} {s : State} {m : MethodId} {below : List Frame} {meth : Method} {c : Code} (l : Launch) {b : Nat} {xs : Nat → Int32} (hxs : ∀ j, j < 402 → xs j = 54) (C0 : lw_At p s m meth c b 402 xs) : W p l e zz_room s m #[Value.ref b] below meth c s.heap [] 0 0 (zz_E below s) (entryFrame m ([Value.ref b] : List Value).toArray 9) := by
  obtain ⟨hx, hb, hr, hml, hown, htb, hX, hbl, hlocks, hgv⟩ := id C0
  have hts : ∀ w ∈ fb_all, w.before #[Value.ref b] s = true := fun w h => htb w (fb_allIn w h)
  obtain ⟨D, cI, cJ, hKc⟩ := fb_KOf htb hts
  have X : fb_Bx p s m #[Value.ref b] meth c cL_law RL 9 (some .boolean) D (fb_ty D cI cJ) (fun q : Nat => s.heap.size ≤ q) := ⟨hx, hb, hr, hml, hown, hts, hlocks, fun q h => h, ⟨hKc, fb_NstOf htb hgv⟩, fb_FzOf htb hgv⟩
  have hbA : ¬ (fun q : Nat => s.heap.size ≤ q) b := Nat.not_le.mpr hbl
  have I : fb_In D (fun q : Nat => s.heap.size ≤ q) s.heap ([] : va_W) s.heap [] := ⟨fun k q h => by simp at h, ⟨fun i j p q h => by simp at h, fun k q h => by simp at h⟩, va_S.rf⟩
  have hl := lv_entry ([.ref b]) (n := 9) (Nat.le_of_ble_eq_true rfl)
  rw [lg_entry_eq]
  generalize (lg_sl ([.ref b]) ++ List.replicate (9 - (lg_sl ([.ref b])).length) Slot.unset).toArray = ls at hl ⊢
  have hl : lv_has ls 9 [(0, .ref b)] := hl
  refine fb_newO X I (ci := 11) (fs := [.null, .null, .null, .null, .null, .null, .null, .null, .null, .null]) fu_X11 tyX11 tyX11_ok fw_218 fw_219 fw_191 rfl (by decide +kernel) (Nat.le_of_ble_eq_true rfl) (Nat.le_of_ble_eq_true rfl) dL_law_0 (fun zb H I => ?_)
  have I : fb_In D (fun q : Nat => s.heap.size ≤ q) s.heap (([(zb, .inr (11, [.null, .null, .null, .null, .null, .null, .null, .null, .null, .null]))] : va_W) ++ ([] : va_W)) H _ := I
  refine lv_dup hx hb dL_law_3 rfl ?_
  refine fb_goNF X I (fb_runIF (As := []) (rest := [.ref zb]) X I hl (c_X11_init l D cI cJ zb _) fw_222 rfl rfl fw_220 fw_191 rfl fw_221 (by decide +kernel : fb_hd yX11_init 0) ⟨(Nat.le_of_ble_eq_true rfl), (Nat.le_of_ble_eq_true rfl)⟩ rfl rfl (Nat.le_of_ble_eq_true rfl) ⟨(Nat.le_of_ble_eq_true rfl), (Nat.le_of_ble_eq_true rfl)⟩ dL_law_4) ?_
  intro u1 H locs _ I
  refine lv_astore_n (lv' := [(1, .ref zb), (0, .ref b)]) hx hb dL_law_7 rfl hl (by decide) rfl (fun ls hl => ?_)
  refine fb_newO X I (ci := 12) (fs := [.null, .null, .int 0, .null, .int 0, .int 0, .int 0, .int 0, .int 0, .int 0, .int 0, .null, .null, .int 0, .null, .null, .null, .null, .int 0, .int 0, .null, .int 0, .null, .null, .null, .null, .int 0, .int 0, .int 0, .int 0, .int 0, .int 0, .null, .null, .int 0, .int 0, .int 0, .int 0, .null, .null, .null, .int 0, .int 0, .int 0, .int 0, .null, .null, .null, .null, .int 0, .int 0]) fu_X12 tyX12 tyX12_ok fw_1933 fw_1934 fw_204 rfl (by decide +kernel) (Nat.le_of_ble_eq_true rfl) (Nat.le_of_ble_eq_true rfl) dL_law_8 (fun za H I => ?_)
  have I := fb_permW List.perm_append_comm I
  refine lv_dup hx hb dL_law_11 rfl ?_
  refine fb_goNF X I (fb_runIF (As := []) (rest := [.ref za]) X I hl (c_X12_init l D cI cJ za _) fw_1937 rfl rfl fw_1935 fw_204 rfl fw_1936 (by decide +kernel : fb_hd yX12_init 0) ⟨(Nat.le_of_ble_eq_true rfl), (Nat.le_of_ble_eq_true rfl)⟩ rfl rfl (Nat.le_of_ble_eq_true rfl) ⟨(Nat.le_of_ble_eq_true rfl), (Nat.le_of_ble_eq_true rfl)⟩ dL_law_12) ?_
  intro zr H locs _ I
  refine lv_astore_n (lv' := [(2, .ref za), (1, .ref zb), (0, .ref b)]) hx hb dL_law_15 rfl hl (by decide) rfl (fun ls hl => ?_)
  refine lv_iconst (v := (1 : Int32)) hx hb dL_law_16 (by decide) ?_
  refine fb_newJ (N := 1) X I fw_262 (by decide) (Nat.le_of_ble_eq_true rfl) (Nat.le_of_ble_eq_true rfl) (Nat.le_of_ble_eq_true rfl) dL_law_17 (fun zx H I => ?_)
  refine W.widen (k := 209) (n := 179241) (Nat.le_of_ble_eq_true rfl) (Nat.le_of_ble_eq_true rfl) ?_
  refine lv_astore_n (lv' := [(3, .ref zx), (2, .ref za), (1, .ref zb), (0, .ref b)]) hx hb dL_law_19 rfl hl (by decide) rfl (fun ls hl => ?_)
  refine lv_iconst (v := (0 : Int32)) hx hb dL_law_20 (by decide) ?_
  refine lv_istore (lv' := [(4, .int (0 : Int32)), (3, .ref zx), (2, .ref za), (1, .ref zb), (0, .ref b)]) hx hb dL_law_21 hl (by decide) rfl (fun ls hl => ?_)
  obtain ⟨t, tl, w⟩ := u1
  rw [List.append_nil, fb_bwB, ← List.flatten_append] at I
  have I : fb_In D (fun q : Nat => s.heap.size ≤ q) s.heap ([fb_o11 zb (t 0) (t 1) (t 2) (t 3) (t 4) (t 10) (t 20) (t 7) (t 8) (t 9), fb_o3 (t 1) (t 50) (t 51) (t 52) (fun _ => 0), fb_aw cI (t 52) 120 (fun _ => 0), fb_o4 (t 4) (t 0) (t 2) (t 1) (t 3) (t 64) (t 65) (t 66) (t 67) (t 69) fb_p0, fb_aw cI (t 66) 11008 (fun _ => 0), fb_mw cI (fun k => t (10 + k)) (f_X2_restart fb_m0) w, fb_mw cI (fun k => t (20 + k)) fb_m0 (fun _ => 0), fb_o0 (t 7) (t 30) (t 40) fb_h0, fb_mw cI (fun k => t (30 + k)) fb_m0 (fun _ => 0), fb_mw cI (fun k => t (40 + k)) fb_m0 (fun _ => 0), fb_o7 (t 8) (t 70) (t 71) (t 73) (t 74) (t 75) (fun _ => 0), fb_o6 (t 9) (t 80) (t 81) (t 82) (fun _ => 0), fb_aw cI (t 80) 4096 (fun _ => 0), fb_aw cI (t 81) 4096 (fun _ => 0), fb_aw cI (t 82) 4096 (fun _ => 0), fb_o9 (t 0) (t 100) (t 101) (t 102) (t 103) (fun _ => 0), fb_aw cI (t 100) 2000 (fun _ => 0), fb_aw cI (t 101) 2001 (fun _ => 0), fb_aw cI (t 102) 2001 (fun _ => 0), fb_jw cJ (t 103) 2001 (fun _ => 0), fb_jw cJ (t 50) 120 (fun _ => 0), fb_aw cI (t 51) 120 (fun _ => 0), fb_o10 (t 2) (t 0) (t 1) (fun _ => 0), fb_o8 (t 3) (t 0) (t 2) (t 90) (t 91) (fun _ => 0), fb_qw (D.1 23) (t 90) 120 tl, fb_o1 (tl 0) (fun _ => 0), fb_aw cI (t 64) 11008 (fun _ => 0), fb_aw cI (t 65) 11008 (fun _ => 0), fb_aw cI (t 67) 2048 (fun _ => 0), fb_aw cI (t 69) 4 (fun _ => 0), fb_aw cI (t 70) 6 (fun _ => 0), fb_aw cI (t 71) 6 (fun _ => 0), fb_aw cI (t 73) 4 (fun _ => 0), fb_aw cI (t 74) 4 (fun _ => 0), fb_aw cI (t 75) 4 (fun _ => 0), fb_o12 za zr fr_e0, fb_aw cI (zr 0) 16205 (fr_m (fun _ => 0) 0), fb_qh D (zr 1) 200 (fun _ => none), fb_aw cI (zr 3) 64 (fun _ => 0), fb_aw cI (zr 11) 6 (fun _ => 0), fb_aw cI (zr 12) 6 (fun _ => 0), fb_aw cI (zr 14) 4 (fun _ => 0), fb_aw cI (zr 15) 4 (fun _ => 0), fb_aw (D.1 20) (zr 16) 4 (fun _ => 0), fb_aw (D.1 20) (zr 17) 4 (fun _ => 0), fb_aw (D.1 21) (zr 20) 2000 (fun _ => 0), fb_aw cI (zr 22) 2200 (fun _ => 0), fb_aw cI (zr 23) 2200 (fun _ => 0), fb_aw cI (zr 24) 2200 (fun _ => 0), fb_aw cI (zr 25) 2200 (fun _ => 0), fb_aw cI (zr 32) 200 (fun _ => 0), fb_aw cI (zr 33) 200 (fun _ => 0), fb_aw cI (zr 38) 130 (fun _ => 0), fb_aw (D.1 20) (zr 39) 130 (fun _ => 0), fb_aw cI (zr 40) 8 (fun _ => 0), fb_aw cI (zr 45) 11008 (fun _ => 0), fb_aw cI (zr 46) 11008 (fun _ => 0), fb_aw cI (zr 47) 11008 (fun _ => 0), fb_aw cI (zr 48) 200 (fun _ => 0), fb_jw cJ zx 1 (fun _ => 0)] : List va_W).flatten H locs := by
    have e9 : ∀ (L1 : List va_W) (w1 : va_W), L1.flatten ++ w1 = (L1 ++ [w1]).flatten := fun L1 w1 => by rw [List.flatten_append]; simp
    rw [e9] at I
    exact fb_dropB (gs := []) I 60 rfl [24, 25, 26, 27, 28, 29, 30, 31, 32, 33, 34, 35, 36, 37, 38, 39, 40, 41, 42, 43, 44, 45, 46, 47, 48, 49, 50, 51, 52, 53, 54, 55, 56, 57, 58, 0, 1, 2, 3, 4, 5, 6, 7, 8, 9, 10, 11, 12, 13, 14, 15, 16, 17, 18, 19, 20, 21, 22, 23, 59] (by decide +kernel) rfl
  have I : fb_In D (fun q : Nat => s.heap.size ≤ q) s.heap ([fb_o11 zb (t 0) (t 1) (t 2) (t 3) (t 4) (t 10) (t 20) (t 7) (t 8) (t 9), fb_mw cI (fun k => t (10 + k)) (f_X2_restart fb_m0) w, fb_o6 (t 9) (t 80) (t 81) (t 82) (fun _ => 0), fb_aw cI (t 80) 4096 (fun _ => 0), fb_aw cI (t 81) 4096 (fun _ => 0), fb_aw cI (t 82) 4096 (fun _ => 0), fb_o12 za zr fr_e0, fb_aw cI (zr 0) 16205 (fr_m (fun _ => 0) 0)] : List va_W).flatten H locs := fb_dropB (gs := [fb_o3 (t 1) (t 50) (t 51) (t 52) (fun _ => 0), fb_aw cI (t 52) 120 (fun _ => 0), fb_o4 (t 4) (t 0) (t 2) (t 1) (t 3) (t 64) (t 65) (t 66) (t 67) (t 69) fb_p0, fb_aw cI (t 66) 11008 (fun _ => 0), fb_mw cI (fun k => t (20 + k)) fb_m0 (fun _ => 0), fb_o0 (t 7) (t 30) (t 40) fb_h0, fb_mw cI (fun k => t (30 + k)) fb_m0 (fun _ => 0), fb_mw cI (fun k => t (40 + k)) fb_m0 (fun _ => 0), fb_o7 (t 8) (t 70) (t 71) (t 73) (t 74) (t 75) (fun _ => 0), fb_o9 (t 0) (t 100) (t 101) (t 102) (t 103) (fun _ => 0), fb_aw cI (t 100) 2000 (fun _ => 0), fb_aw cI (t 101) 2001 (fun _ => 0), fb_aw cI (t 102) 2001 (fun _ => 0), fb_jw cJ (t 103) 2001 (fun _ => 0), fb_jw cJ (t 50) 120 (fun _ => 0), fb_aw cI (t 51) 120 (fun _ => 0), fb_o10 (t 2) (t 0) (t 1) (fun _ => 0), fb_o8 (t 3) (t 0) (t 2) (t 90) (t 91) (fun _ => 0), fb_qw (D.1 23) (t 90) 120 tl, fb_o1 (tl 0) (fun _ => 0), fb_aw cI (t 64) 11008 (fun _ => 0), fb_aw cI (t 65) 11008 (fun _ => 0), fb_aw cI (t 67) 2048 (fun _ => 0), fb_aw cI (t 69) 4 (fun _ => 0), fb_aw cI (t 70) 6 (fun _ => 0), fb_aw cI (t 71) 6 (fun _ => 0), fb_aw cI (t 73) 4 (fun _ => 0), fb_aw cI (t 74) 4 (fun _ => 0), fb_aw cI (t 75) 4 (fun _ => 0), fb_qh D (zr 1) 200 (fun _ => none), fb_aw cI (zr 3) 64 (fun _ => 0), fb_aw cI (zr 11) 6 (fun _ => 0), fb_aw cI (zr 12) 6 (fun _ => 0), fb_aw cI (zr 14) 4 (fun _ => 0), fb_aw cI (zr 15) 4 (fun _ => 0), fb_aw (D.1 20) (zr 16) 4 (fun _ => 0), fb_aw (D.1 20) (zr 17) 4 (fun _ => 0), fb_aw (D.1 21) (zr 20) 2000 (fun _ => 0), fb_aw cI (zr 22) 2200 (fun _ => 0), fb_aw cI (zr 23) 2200 (fun _ => 0), fb_aw cI (zr 24) 2200 (fun _ => 0), fb_aw cI (zr 25) 2200 (fun _ => 0), fb_aw cI (zr 32) 200 (fun _ => 0), fb_aw cI (zr 33) 200 (fun _ => 0), fb_aw cI (zr 38) 130 (fun _ => 0), fb_aw (D.1 20) (zr 39) 130 (fun _ => 0), fb_aw cI (zr 40) 8 (fun _ => 0), fb_aw cI (zr 45) 11008 (fun _ => 0), fb_aw cI (zr 46) 11008 (fun _ => 0), fb_aw cI (zr 47) 11008 (fun _ => 0), fb_aw cI (zr 48) 200 (fun _ => 0), fb_jw cJ zx 1 (fun _ => 0)]) I 60 rfl [0, 5, 11, 12, 13, 14, 35, 36, 1, 2, 3, 4, 6, 7, 8, 9, 10, 15, 16, 17, 18, 19, 20, 21, 22, 23, 24, 25, 26, 27, 28, 29, 30, 31, 32, 33, 34, 37, 38, 39, 40, 41, 42, 43, 44, 45, 46, 47, 48, 49, 50, 51, 52, 53, 54, 55, 56, 57, 58, 59] (by decide +kernel) rfl
  exact zz_loop (l := l) (z0 := t 0) (z1 := t 1) (z2 := t 2) (z3 := t 3) (z4 := t 4) (z6 := t 20) (z7 := t 7) (z8 := t 8) (zre := t 9) (zq := fun k => t (10 + k)) (σ := f_X2_restart fb_m0) (w := w) (zac := t 80) (zab := t 81) (zao := t 82) (za := za) (zr := zr) X hX hbl hbA (fun q h => h) hxs 67 0 (by omega) _ _ _ _ H locs ls I I.2.2.1 (lv_sub hl [0, 2, 3, 4] rfl)
/-- the script: 67 calls of codes() -/
def zz_P (b : Addr) (xs : List Int32) (args : Array Value) (s : State) : Prop := args = #[.ref b] ∧ s.IntsAt b xs ∧ xs = List.replicate 402 (54 : Int32) ∧ (Jvm.Cond.and given_1 narrow_1).before args s = true
set_option maxHeartbeats 4000000 in
theorem zz_walk (l : Launch) (b : Addr) (xs : List Int32) : MetFree l x (headSpec (Jvm.Cond.code x code maxLocals ret :: tables_1) zz_room) (zz_P b xs) (fun _ _ _ _ _ => True) (fun _ s o t => o = .returned (some (.int 1)) ∧ s.heap.size + 274432 ≤ t.heap.size) := by
  refine MetFree.of_bodyS (code := code) (maxLocals := maxLocals) (ret := ret) (by decide) ?_ ?_
  · intro args s m h hn
    obtain ⟨meth, c, h1, h2, h3, h4, h5, h6, -, -⟩ := Cond.code_spec hn (atoms_spec (ws := Jvm.Cond.code x code maxLocals ret :: tables_1) h _ List.mem_cons_self)
    exact ⟨meth, c, h1, h2, h3, h4, h5, h6⟩
  · intro p e s m args below meth c s₁ B hml0 hP _
    obtain ⟨rfl, hx, hbd, hgv⟩ := hP
    obtain ⟨scr, harrAt, hlist, hof, hsmall⟩ := hx
    obtain ⟨hcb, hkn, -, -⟩ := State.arrayAt?_spec harrAt
    have hown : s.vm.findClass R_law = some m.cls := findClass_of_methodNamed B.named
    have hts0 : ∀ c ∈ (Jvm.Cond.code x code maxLocals ret :: tables_1), c.before #[Value.ref b] s = true := atoms_spec (ws := Jvm.Cond.code x code maxLocals ret :: tables_1) B.pre
    have hts : ∀ w ∈ lw_tbl, w.before #[Value.ref b] s = true := k2_hts_sels lw_privs (fun w hw => hts0 w (List.mem_cons_of_mem _ hw)) lw_privs_ok
    have hml : c.maxLocals = 9 := B.maxLocals_eq (hts0 _ List.mem_cons_self)
    have X₀ : Stand p l e zz_room s m #[Value.ref b] below meth c s₁ [] 0 0 := Stand.of_body B
    have hh0 : s₁.heap = s.heap := by rw [B.state]; rfl
    have hlen : xs.length = 402 := by rw [hbd]; exact List.length_replicate
    have hsz : scr.slots.size = 402 := by rw [← Array.length_toList, hlist, List.length_map, hlen]
    have hval : ∀ j : Nat, j < 402 → scr.slots[j]? = some (.int (xs.getD j 0)) := fun j hj => by
      rw [← Array.getElem?_toList, hlist]
      have hj2 : j < xs.length := by rw [hlen]; exact hj
      simp [hj2]
    have hxs : ∀ j : Nat, j < 402 → xs.getD j 0 = 54 := fun j hj => by
      subst hbd
      rw [List.getD_eq_getElem?_getD, List.getElem?_replicate, if_pos hj]
      rfl
    have hbl : b < s.heap.size := (Array.getElem?_eq_some_iff.mp hcb).1
    have hX : va_X b 402 (fun j => xs.getD j 0) s s.heap := ⟨scr, hcb, hof, hkn, hsz, hval⟩
    have K : W p l e zz_room s m #[Value.ref b] below meth c s₁.heap [] 0 0 (zz_E below s) (entryFrame m ([Value.ref b] : List Value).toArray 9) := by
      rw [hh0]
      exact zz_start l hxs ⟨B.exec, B.bytes, B.returns, hml, hown, hts, hX, hbl, B.notSynchronized, hgv⟩
    obtain ⟨t, a1, b1, b2, b3⟩ := K s₁ rfl X₀
    exact ⟨t, .returned (some (.int 1)), a1, b1, b2, rfl, b3⟩
theorem zz_len {t : State} {below : List Frame} {v : Option Value} (he : Ended t below (.returned v)) : t.frames.length = below.length := by
  cases below with
  | nil => exact congrArg List.length (show v = none ∧ t.frames = [] from he).2
  | cons f r =>
    cases f with
    | java g =>
      obtain ⟨c, i, len, -, -, h⟩ := he
      rw [h]; rfl
    | native g => rw [he]; rfl
    | proc g => rw [he]; rfl
    | _ => exact congrArg List.length (show v = none ∧ t.frames = _ from he).2
/-- an end comes once -/
theorem zz_once {t : State} {below : List Frame} {o : Outcome} (hw : Within t below) (he : Ended t below o) : False := by
  obtain ⟨above, h1, h2, h3⟩ := hw
  cases o with
  | threw a =>
    have h4 : above ++ below = [.throwing a] ++ below := by rw [← h1]; exact he
    exact h3 a (List.append_cancel_right h4)
  | returned v =>
    have h5 : t.frames.length = below.length := zz_len he
    rw [h1, List.length_append] at h5
    exact h2 (List.length_eq_zero_iff.mp (by omega))
/-- the claim is false at each start that it allows whose script is that of 67 calls of codes(), and at which that many objects find room -/
theorem zz_refuted (l : Launch) (p : Program) (e : Env) (s : State) (m : MethodId) (args : Array Value) (below : List Frame) (hfl : l.flags = flags0) (h : AtStart classFile x code maxLocals ret World_1 tables_1 room_1 Calls_1 rest_1 Pre_1 l p e s m args below) (hroom : s.hasRoom e.platform zz_room = true) (b : Addr) (hargs : args = #[.ref b]) (hscr : s.IntsAt b (List.replicate 402 (54 : Int32))) : ¬ Claimed_1_1 := by
  intro hcl
  obtain ⟨hL, hWo, ha, hle, hc, hk, hf, hfit, hheap, happ, hca, hre, hpre⟩ := h
  obtain ⟨n1, o1, w1, r1, d1, q1⟩ := hcl l hfl hL hWo p e ha hc hk s m args below hf hfit hheap happ ⟨hca, hre, hpre⟩
  have happ2 : (headSpec (Jvm.Cond.code x code maxLocals ret :: tables_1) zz_room).applies x e.platform s = true := by
    obtain ⟨g1, g2, g3, g4, g5, g6, g7, g8⟩ := (Spec.applies_iff hf).mp happ
    exact (Spec.applies_iff hf).mpr ⟨g1, g2, g3, g4, g5, g6, hroom, g8⟩
  obtain ⟨n2, o2, w2, r2, d2, q2⟩ := zz_walk l b _ p e ha hc hk s m args below hf ((Spec.applies_iff_loose hf).mp happ2).1 ⟨hargs, hscr, rfl, hpre⟩ trivial
  have hn : n1 = n2 := by
    rcases Nat.lt_trichotomy n1 n2 with h | h | h
    · exact (zz_once (w2 n1 h) d1).elim
    · exact h
    · exact (zz_once (w1 n2 h) d2).elim
  subst hn
  obtain ⟨-, hfr, -, -⟩ := q1
  obtain ⟨-, -, h0⟩ := hfr
  obtain ⟨-, -, h9, -⟩ := h0
  have h8 : (stepsAlone p.tables e n1 s).heap.size ≤ s.heap.size + 271101 := h9
  have := q2.2
  omega

