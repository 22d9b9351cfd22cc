/-! the reference along a fresh object's road, laid by ref.py -/
def fr_zz (f : fb_AR) : Prop := ∀ j, ¬ j = 2 → ¬ j = 3 → ¬ j = 4 → ¬ j = 15 → f j = 0
theorem fr_zz_up {f : fb_AR} (n : Nat) (H : fr_zz f) : fr_zz (upd f n (0 : Int32)) := fun j a b c d => by
  by_cases h : j = n
  · subst h; exact pk_us
  · rw [pk_un h]; exact H j a b c d
theorem fr_zz0 : fr_zz (fr_m (fun _ => 0) 0) := fun j a b c d => by
  unfold fr_m
  rw [if_neg a, if_neg b, if_neg c]
  by_cases h7 : j = 7
  · rw [if_pos h7]; rfl
  rw [if_neg h7]
  by_cases h8 : j = 8
  · rw [if_pos h8]; rfl
  rw [if_neg h8, if_neg d]
  by_cases hj : 12109 ≤ j
  · rw [if_pos hj]
  · rw [if_neg hj]
theorem fr_zz_hm {f : fb_AR} (H : fr_zz f) : ∀ j, 1101 ≤ j → j < 12109 → f j = 0 := fun j a b => H j (by omega) (by omega) (by omega) (by omega)
theorem fr_fresh {f : fb_AR} (H : fr_zz f) : ∀ j, upd (upd (upd (upd f 2 (255 : Int32)) 3 (4 : Int32)) 15 (1 : Int32)) 4 (0 : Int32) j = fr_m (fun _ => 0) 0 j := by
  intro j
  by_cases h4 : j = 4
  · subst h4; rfl
  by_cases h15 : j = 15
  · subst h15; rfl
  by_cases h3 : j = 3
  · subst h3; rfl
  by_cases h2 : j = 2
  · subst h2; rfl
  rw [pk_un h4, pk_un h15, pk_un h3, pk_un h2, H j h2 h3 h4 h15]
  exact (fr_zz0 j h2 h3 h4 h15).symm
theorem fr_and {n : Nat} (h : n < 4096) : nI n &&& (4095 : Int32) = nI n := by
  rw [pk_andN (n := n) (by omega) (m := 4095) 12 (by decide)]
  congr 1; omega
theorem fr_r00 (j : Nat) : upd (fun _ => 0) 0 (1 : Int32) j = if j ≤ 0 then 1 else 0 := by
  by_cases h : j = 0
  · subst h; rfl
  · rw [pk_un h, if_neg (by omega)]
theorem fr_r0 (f : fb_AR) (j : Nat) (h : f j = if j ≤ 0 then 1 else 0) : upd f 0 (1 : Int32) j = if j ≤ 0 then 1 else 0 := by
  by_cases q : j = 0
  · subst q; rfl
  · rw [pk_un q]; exact h
theorem fr_rb {f : fb_AR} {z : Nat} (H : ∀ j, j < 4096 → f j = if j ≤ z then 1 else 0) : ∀ j, j < 4096 → upd f (z + 1) (1 : Int32) j = if j ≤ z + 1 then 1 else 0 := fun j hj => by
  by_cases q : j = z + 1
  · subst q; rw [pk_us, if_pos (Nat.le_refl _)]
  · rw [pk_un q, H j hj]
    by_cases r : j ≤ z
    · rw [if_pos r, if_pos (by omega)]
    · rw [if_neg r, if_neg (by omega)]
theorem fr_rc {f : fb_AR} {z : Nat} (H : ∀ j, j ≤ z → f j = nI j) : ∀ j, j ≤ z + 1 → upd f (z + 1) (nI (z + 1)) j = nI j := fun j hj => by
  by_cases q : j = z + 1
  · subst q; exact pk_us
  · rw [pk_un q]; exact H j (by omega)
set_option maxHeartbeats 4000000 in
set_option maxRecDepth 100000 in
theorem b_start_134 {p : Program} {l : Launch} {e : Env} {s : State} {m : MethodId} {args : Array Value} {below : List Frame} {meth : Method} {c : Code} {D : va_G} {cI cJ : ClassId} {A : Nat → Prop} {za : Nat} {zr : Nat → Nat} {ze : fb_AR} {zm : fb_AR}  (X : fb_Bx p s m args meth c cX12_start RX12 6 none D (fb_ty D cI cJ) A) (hz : fr_zz zm)  : ∀ (n zi : Nat) (hn : zi + n = 4096) (zw : fb_AR) (iz : fr_zz zw) (H : Heap) (locs : List Loc) (ls : Array Slot) (I : fb_In D A s.heap (([fb_o12 za zr ze, fb_aw cI (zr 0) 16205 zw] : List va_W).flatten) H locs) (hl : lv_has ls 6 [(2, .int (nI zi)), (0, .ref za)]), W p l e ({ frames := 5, cells := 1, slots := 17, locals := 122 } : Room) s m args below meth c H locs (0 + 1) (0 + 17) (MQ below (fb_QV D A (fun (_ : Unit) => True) (fun (t : Unit) => ([fb_o12 za zr (upd (upd ze 10 (0 : Int32)) 2 (0 : Int32)), fb_aw cI (zr 0) 16205 (fr_m (fun _ => 0) 0)] : List va_W).flatten)) args s 1 17 A) (F0 m 134 ls []) := by
  intro n
  obtain ⟨hx, hb, hr, hml, hown, hts, hlk, hA, hK, hF⟩ := id X
  induction n with
  | zero =>
    intro zi hn zw iz H locs ls I hl
    have ziE : 4096 = zi := by omega
    subst ziE
    refine lv_iload_n hx hb dX12_start_134 rfl (lv_at hl 0 rfl) ?_
    refine lv_sipush (v := (4096 : Int32)) hx hb dX12_start_135 (by decide) ?_
    refine lv_icmp_ge (tgt := 158) hx hb dX12_start_138 (by decide) (fun _ => ?_) (fun c21 => absurd (nI_le (a := 4096) (b := 4096) (by omega) (by omega)) c21)
    refine lv_aload_n hx hb dX12_start_158 rfl (lv_at hl 1 rfl) ?_
    refine fb_get X I (k := 0) (v := .ref (zr 0)) fu_X12 0 fb_h12 rfl (Nat.le_of_ble_eq_true rfl) fw_1964 rfl rfl dX12_start_159 ?_
    refine lv_iconst (v := (2 : Int32)) hx hb dX12_start_162 (by decide) ?_
    refine lv_sipush (v := (255 : Int32)) hx hb dX12_start_163 (by decide) ?_
    refine fb_isC (n := 2) (wn := ([fb_o12 za zr ze, fb_aw cI (zr 0) 16205 (upd zw 2 (255 : Int32))] : List va_W).flatten) X I 1 0 rfl rfl (by decide) (by decide) (Nat.le_of_ble_eq_true rfl) rfl dX12_start_166 (fun H locs I => ?_)
    refine lv_aload_n hx hb dX12_start_167 rfl (lv_at hl 1 rfl) ?_
    refine fb_get X I (k := 0) (v := .ref (zr 0)) fu_X12 0 fb_h12 rfl (Nat.le_of_ble_eq_true rfl) fw_1964 rfl rfl dX12_start_168 ?_
    refine lv_iconst (v := (3 : Int32)) hx hb dX12_start_171 (by decide) ?_
    refine lv_iconst (v := (4 : Int32)) hx hb dX12_start_172 (by decide) ?_
    refine fb_isC (n := 3) (wn := ([fb_o12 za zr ze, fb_aw cI (zr 0) 16205 (upd (upd zw 2 (255 : Int32)) 3 (4 : Int32))] : List va_W).flatten) X I 1 0 rfl rfl (by decide) (by decide) (Nat.le_of_ble_eq_true rfl) rfl dX12_start_173 (fun H locs I => ?_)
    refine lv_aload_n hx hb dX12_start_174 rfl (lv_at hl 1 rfl) ?_
    refine fb_get X I (k := 0) (v := .ref (zr 0)) fu_X12 0 fb_h12 rfl (Nat.le_of_ble_eq_true rfl) fw_1964 rfl rfl dX12_start_175 ?_
    refine lv_bipush (v := (15 : Int32)) hx hb dX12_start_178 (by decide) ?_
    refine lv_iconst (v := (1 : Int32)) hx hb dX12_start_180 (by decide) ?_
    refine fb_isC (n := 15) (wn := ([fb_o12 za zr ze, fb_aw cI (zr 0) 16205 (upd (upd (upd zw 2 (255 : Int32)) 3 (4 : Int32)) 15 (1 : Int32))] : List va_W).flatten) X I 1 0 rfl rfl (by decide) (by decide) (Nat.le_of_ble_eq_true rfl) rfl dX12_start_181 (fun H locs I => ?_)
    refine lv_aload_n hx hb dX12_start_182 rfl (lv_at hl 1 rfl) ?_
    refine fb_get X I (k := 0) (v := .ref (zr 0)) fu_X12 0 fb_h12 rfl (Nat.le_of_ble_eq_true rfl) fw_1964 rfl rfl dX12_start_183 ?_
    refine lv_iconst (v := (4 : Int32)) hx hb dX12_start_186 (by decide) ?_
    refine lv_aload_n hx hb dX12_start_187 rfl (lv_at hl 1 rfl) ?_
    refine lv_iconst (v := (0 : Int32)) hx hb dX12_start_188 (by decide) ?_
    refine fb_gO (cs := [fb_o12 za zr ze, fb_aw cI (zr 0) 16205 (upd (upd (upd zw 2 (255 : Int32)) 3 (4 : Int32)) 15 (1 : Int32))]) (rs := []) X I [0, 1] 2 rfl (by decide +kernel) rfl rfl (fun I => fb_rV (As := [.int (0 : Int32)]) (rest := [.int (4 : Int32), .ref (zr 0)]) X hl (fb_goodV fw_1945 fw_1947 fw_85 fw_204 fw_1948) (c_vector l D cI cJ za zr ze (upd (upd (upd zw 2 (255 : Int32)) 3 (4 : Int32)) 15 (1 : Int32)) (0 : Int32) _ (hm_up (by omega) (hm_up (by omega) (hm_up (by omega) (fr_zz_hm iz)))) ((pk_un (by decide)).trans ((pk_un (by decide)).trans ((pk_un (by decide)).trans (iz 9 (by decide) (by decide) (by decide) (by decide)))))) rfl rfl rfl (by decide +kernel : fb_hd yX12_vector 1) ⟨Nat.le_of_ble_eq_true rfl, Nat.le_of_ble_eq_true rfl⟩ rfl rfl rfl rfl rfl (Nat.le_of_ble_eq_true rfl) ⟨Nat.le_of_ble_eq_true rfl, Nat.le_of_ble_eq_true rfl⟩ dX12_start_189 I) ?_
    refine fb_isC (n := 4) (wn := ([fb_o12 za zr ze, fb_aw cI (zr 0) 16205 (upd (upd (upd (upd zw 2 (255 : Int32)) 3 (4 : Int32)) 15 (1 : Int32)) 4 (0 : Int32))] : List va_W).flatten) X I 1 0 rfl rfl (by decide) (by decide) (Nat.le_of_ble_eq_true rfl) rfl dX12_start_192 (fun H locs I => ?_)
    refine lv_aload_n hx hb dX12_start_193 rfl (lv_at hl 1 rfl) ?_
    refine lv_iconst (v := (0 : Int32)) hx hb dX12_start_194 (by decide) ?_
    refine fb_put X I (k := 10) (wn := ([fb_o12 za zr (upd ze 10 (0 : Int32)), fb_aw cI (zr 0) 16205 (upd (upd (upd (upd zw 2 (255 : Int32)) 3 (4 : Int32)) 15 (1 : Int32)) 4 (0 : Int32))] : List va_W).flatten) fu_X12 tyX12 tyX12_ok nmX12 0 fb_h12 rfl (Nat.le_of_ble_eq_true rfl) fw_1974 rfl rfl rfl rfl rfl (Nat.le_of_ble_eq_true rfl) fb_r12_10 dX12_start_195 (fun H locs I => ?_)
    refine lv_aload_n hx hb dX12_start_198 rfl (lv_at hl 1 rfl) ?_
    refine fb_gV (cs := [fb_o12 za zr (upd ze 10 (0 : Int32))]) (rs := [fb_aw cI (zr 0) 16205 (upd (upd (upd (upd zw 2 (255 : Int32)) 3 (4 : Int32)) 15 (1 : Int32)) 4 (0 : Int32))]) (fun (t : Unit) => [fb_o12 za zr (upd (upd ze 10 (0 : Int32)) 2 (0 : Int32)), fb_aw cI (zr 0) 16205 (upd (upd (upd (upd zw 2 (255 : Int32)) 3 (4 : Int32)) 15 (1 : Int32)) 4 (0 : Int32))]) (fun (t : Unit) => [fb_o12 za zr (upd (upd ze 10 (0 : Int32)) 2 (0 : Int32))]) X I [0, 1] 2 rfl (by decide +kernel) rfl rfl [0, 1] 2 (fun _ => rfl) (by decide +kernel) (fun _ => rfl) (fun _ => rfl) (fun I => fb_rV (As := []) (rest := []) X hl (fb_goodV fw_1960 fw_1962 fw_88 fw_204 fw_1963) (c_forget l D cI cJ za zr (upd ze 10 (0 : Int32)) _ ) rfl rfl rfl (by decide +kernel : fb_hd yX12_forget 0) ⟨Nat.le_of_ble_eq_true rfl, Nat.le_of_ble_eq_true rfl⟩ rfl rfl rfl rfl rfl (Nat.le_of_ble_eq_true rfl) ⟨Nat.le_of_ble_eq_true rfl, Nat.le_of_ble_eq_true rfl⟩ dX12_start_199 I) ?_
    intro w22 H locs _ I
    have I : fb_In D A s.heap (([fb_o12 za zr (upd (upd ze 10 (0 : Int32)) 2 (0 : Int32)), fb_aw cI (zr 0) 16205 (upd (upd (upd (upd zw 2 (255 : Int32)) 3 (4 : Int32)) 15 (1 : Int32)) 4 (0 : Int32))] : List va_W).flatten) H locs := I
    have I : fb_In D A s.heap (([fb_o12 za zr (upd (upd ze 10 (0 : Int32)) 2 (0 : Int32)), fb_aw cI (zr 0) 16205 (fr_m (fun _ => 0) 0)] : List va_W).flatten) H locs := fb_In.row I 1 rfl (fun j _ => fr_fresh iz j) rfl
    refine W.widen (k := 1) (n := 17) (by omega) (by omega) ?_
    exact fb_retV (u := ()) X I trivial dX12_start_202
  | succ n ih =>
    intro zi hn zw iz H locs ls I hl
    have ziL : zi < 4096 := by omega
    refine lv_iload_n hx hb dX12_start_134 rfl (lv_at hl 0 rfl) ?_
    refine lv_sipush (v := (4096 : Int32)) hx hb dX12_start_135 (by decide) ?_
    refine lv_icmp_ge (tgt := 158) hx hb dX12_start_138 (by decide) (fun c23 => absurd c23 (nI_ge (a := zi) (b := 4096) (by omega) (by omega))) (fun _ => ?_)
    refine lv_aload_n hx hb dX12_start_141 rfl (lv_at hl 1 rfl) ?_
    refine fb_get X I (k := 0) (v := .ref (zr 0)) fu_X12 0 fb_h12 rfl (Nat.le_of_ble_eq_true rfl) fw_1964 rfl rfl dX12_start_142 ?_
    refine lv_sipush (v := (12109 : Int32)) hx hb dX12_start_145 (by decide) ?_
    refine lv_iload_n hx hb dX12_start_148 rfl (lv_at hl 0 rfl) ?_
    refine lv_iadd hx hb dX12_start_149 ?_
    refine fb_tI (v := (nI (12109 + zi))) (nI_add 12109 zi) ?_
    refine lv_iconst (v := (0 : Int32)) hx hb dX12_start_150 (by decide) ?_
    refine fb_isC (n := (12109 + zi)) (wn := ([fb_o12 za zr ze, fb_aw cI (zr 0) 16205 (upd zw (12109 + zi) (0 : Int32))] : List va_W).flatten) X I 1 0 rfl rfl (nI_clamp (by omega)) (nI_pos (by omega)) (by omega) rfl dX12_start_151 (fun H locs I => ?_)
    refine lv_iinc (v := (nI (zi + 1))) (lv' := [(2, .int (nI (zi + 1))), (0, .ref za)]) hx hb dX12_start_152 hl (k := 0) rfl (nI_add _ 1) (by decide) rfl (fun ls hl => ?_)
    refine lv_goto (tgt := 134) hx hb dX12_start_155 (by decide) ?_
    exact ih (zi + 1) (by omega) (upd zw (12109 + zi) (0 : Int32)) (fr_zz_up _ iz) _ _ _ I (lv_sub hl [0, 1] rfl)
set_option maxHeartbeats 4000000 in
set_option maxRecDepth 100000 in
theorem c_start (l : Launch) (D : va_G) (cI cJ : ClassId) (za : Nat) (zr : Nat → Nat) (ze : fb_AR) (zm : fb_AR) (sz : Nat) (hz : fr_zz zm) : Met l yX12_start (Cond.code yX12_start cX12_start 6 none :: fb_all) ({ frames := 5, cells := 1, slots := 17, locals := 122 } : Room) (fb_PP D (fb_ty D cI cJ) [.ref za] (([fb_o12 za zr ze, fb_aw cI (zr 0) 16205 zm] : List va_W).flatten) sz) (fb_QV D (va_A (([fb_o12 za zr ze, fb_aw cI (zr 0) 16205 zm] : List va_W).flatten) sz) (fun (_ : Unit) => True) (fun (t : Unit) => ([fb_o12 za zr (upd (upd ze 10 (0 : Int32)) 2 (0 : Int32)), fb_aw cI (zr 0) 16205 (fr_m (fun _ => 0) 0)] : List va_W).flatten)) 1 17 (va_A (([fb_o12 za zr ze, fb_aw cI (zr 0) 16205 zm] : List va_W).flatten) sz) := by
  refine fb_ent (Qf := fun A => (fb_QV D A (fun (_ : Unit) => True) (fun (t : Unit) => ([fb_o12 za zr (upd (upd ze 10 (0 : Int32)) 2 (0 : Int32)), fb_aw cI (zr 0) 16205 (fr_m (fun _ => 0) 0)] : List va_W).flatten))) (by decide +kernel) (Nat.le_of_ble_eq_true rfl) ?_
  intro p e s m args below meth c A ls X I hl hin
  obtain ⟨hx, hb, hr, hml, hown, hts, hlk, hA, hK, hF⟩ := id X
  have hl : lv_has ls 6 [(0, .ref za)] := hl
  refine lv_bipush (v := (17 : Int32)) hx hb dX12_start_0 (by decide) ?_
  refine fb_nI (N := 17) X I fw_261 (by decide) (Nat.le_of_ble_eq_true rfl) (Nat.le_of_ble_eq_true rfl) (Nat.le_of_ble_eq_true rfl) dX12_start_2 (fun x1 H I => ?_)
  have I : fb_In D A s.heap (([fb_o12 za zr ze, fb_aw cI (zr 0) 16205 zm, fb_aw cI x1 17 (fun _ => 0)] : List va_W).flatten) H _ := I
  refine lv_dup hx hb dX12_start_4 rfl ?_
  refine lv_iconst (v := (0 : Int32)) hx hb dX12_start_5 (by decide) ?_
  refine lv_iconst (v := (0 : Int32)) hx hb dX12_start_6 (by decide) ?_
  refine fb_isC (n := 0) (wn := ([fb_o12 za zr ze, fb_aw cI (zr 0) 16205 zm, fb_aw cI x1 17 (upd (fun _ => 0) 0 (0 : Int32))] : List va_W).flatten) X I 2 0 rfl rfl (by decide) (by decide) (Nat.le_of_ble_eq_true rfl) rfl dX12_start_7 (fun H locs I => ?_)
  refine lv_dup hx hb dX12_start_8 rfl ?_
  refine lv_iconst (v := (1 : Int32)) hx hb dX12_start_9 (by decide) ?_
  refine lv_iconst (v := (1 : Int32)) hx hb dX12_start_10 (by decide) ?_
  refine fb_isC (n := 1) (wn := ([fb_o12 za zr ze, fb_aw cI (zr 0) 16205 zm, fb_aw cI x1 17 (upd (upd (fun _ => 0) 0 (0 : Int32)) 1 (1 : Int32))] : List va_W).flatten) X I 2 0 rfl rfl (by decide) (by decide) (Nat.le_of_ble_eq_true rfl) rfl dX12_start_11 (fun H locs I => ?_)
  refine lv_dup hx hb dX12_start_12 rfl ?_
  refine lv_iconst (v := (2 : Int32)) hx hb dX12_start_13 (by decide) ?_
  refine lv_iconst (v := (5 : Int32)) hx hb dX12_start_14 (by decide) ?_
  refine fb_isC (n := 2) (wn := ([fb_o12 za zr ze, fb_aw cI (zr 0) 16205 zm, fb_aw cI x1 17 (upd (upd (upd (fun _ => 0) 0 (0 : Int32)) 1 (1 : Int32)) 2 (5 : Int32))] : List va_W).flatten) X I 2 0 rfl rfl (by decide) (by decide) (Nat.le_of_ble_eq_true rfl) rfl dX12_start_15 (fun H locs I => ?_)
  refine lv_dup hx hb dX12_start_16 rfl ?_
  refine lv_iconst (v := (3 : Int32)) hx hb dX12_start_17 (by decide) ?_
  refine lv_bipush (v := (6 : Int32)) hx hb dX12_start_18 (by decide) ?_
  refine fb_isC (n := 3) (wn := ([fb_o12 za zr ze, fb_aw cI (zr 0) 16205 zm, fb_aw cI x1 17 (upd (upd (upd (upd (fun _ => 0) 0 (0 : Int32)) 1 (1 : Int32)) 2 (5 : Int32)) 3 (6 : Int32))] : List va_W).flatten) X I 2 0 rfl rfl (by decide) (by decide) (Nat.le_of_ble_eq_true rfl) rfl dX12_start_20 (fun H locs I => ?_)
  refine lv_dup hx hb dX12_start_21 rfl ?_
  refine lv_iconst (v := (4 : Int32)) hx hb dX12_start_22 (by decide) ?_
  refine lv_bipush (v := (7 : Int32)) hx hb dX12_start_23 (by decide) ?_
  refine fb_isC (n := 4) (wn := ([fb_o12 za zr ze, fb_aw cI (zr 0) 16205 zm, fb_aw cI x1 17 (upd (upd (upd (upd (upd (fun _ => 0) 0 (0 : Int32)) 1 (1 : Int32)) 2 (5 : Int32)) 3 (6 : Int32)) 4 (7 : Int32))] : List va_W).flatten) X I 2 0 rfl rfl (by decide) (by decide) (Nat.le_of_ble_eq_true rfl) rfl dX12_start_25 (fun H locs I => ?_)
  refine lv_dup hx hb dX12_start_26 rfl ?_
  refine lv_iconst (v := (5 : Int32)) hx hb dX12_start_27 (by decide) ?_
  refine lv_bipush (v := (8 : Int32)) hx hb dX12_start_28 (by decide) ?_
  refine fb_isC (n := 5) (wn := ([fb_o12 za zr ze, fb_aw cI (zr 0) 16205 zm, fb_aw cI x1 17 (upd (upd (upd (upd (upd (upd (fun _ => 0) 0 (0 : Int32)) 1 (1 : Int32)) 2 (5 : Int32)) 3 (6 : Int32)) 4 (7 : Int32)) 5 (8 : Int32))] : List va_W).flatten) X I 2 0 rfl rfl (by decide) (by decide) (Nat.le_of_ble_eq_true rfl) rfl dX12_start_30 (fun H locs I => ?_)
  refine lv_dup hx hb dX12_start_31 rfl ?_
  refine lv_bipush (v := (6 : Int32)) hx hb dX12_start_32 (by decide) ?_
  refine lv_bipush (v := (9 : Int32)) hx hb dX12_start_34 (by decide) ?_
  refine fb_isC (n := 6) (wn := ([fb_o12 za zr ze, fb_aw cI (zr 0) 16205 zm, fb_aw cI x1 17 (upd (upd (upd (upd (upd (upd (upd (fun _ => 0) 0 (0 : Int32)) 1 (1 : Int32)) 2 (5 : Int32)) 3 (6 : Int32)) 4 (7 : Int32)) 5 (8 : Int32)) 6 (9 : Int32))] : List va_W).flatten) X I 2 0 rfl rfl (by decide) (by decide) (Nat.le_of_ble_eq_true rfl) rfl dX12_start_36 (fun H locs I => ?_)
  refine lv_dup hx hb dX12_start_37 rfl ?_
  refine lv_bipush (v := (7 : Int32)) hx hb dX12_start_38 (by decide) ?_
  refine lv_bipush (v := (10 : Int32)) hx hb dX12_start_40 (by decide) ?_
  refine fb_isC (n := 7) (wn := ([fb_o12 za zr ze, fb_aw cI (zr 0) 16205 zm, fb_aw cI x1 17 (upd (upd (upd (upd (upd (upd (upd (upd (fun _ => 0) 0 (0 : Int32)) 1 (1 : Int32)) 2 (5 : Int32)) 3 (6 : Int32)) 4 (7 : Int32)) 5 (8 : Int32)) 6 (9 : Int32)) 7 (10 : Int32))] : List va_W).flatten) X I 2 0 rfl rfl (by decide) (by decide) (Nat.le_of_ble_eq_true rfl) rfl dX12_start_42 (fun H locs I => ?_)
  refine lv_dup hx hb dX12_start_43 rfl ?_
  refine lv_bipush (v := (8 : Int32)) hx hb dX12_start_44 (by decide) ?_
  refine lv_bipush (v := (11 : Int32)) hx hb dX12_start_46 (by decide) ?_
  refine fb_isC (n := 8) (wn := ([fb_o12 za zr ze, fb_aw cI (zr 0) 16205 zm, fb_aw cI x1 17 (upd (upd (upd (upd (upd (upd (upd (upd (upd (fun _ => 0) 0 (0 : Int32)) 1 (1 : Int32)) 2 (5 : Int32)) 3 (6 : Int32)) 4 (7 : Int32)) 5 (8 : Int32)) 6 (9 : Int32)) 7 (10 : Int32)) 8 (11 : Int32))] : List va_W).flatten) X I 2 0 rfl rfl (by decide) (by decide) (Nat.le_of_ble_eq_true rfl) rfl dX12_start_48 (fun H locs I => ?_)
  refine lv_dup hx hb dX12_start_49 rfl ?_
  refine lv_bipush (v := (9 : Int32)) hx hb dX12_start_50 (by decide) ?_
  refine lv_bipush (v := (12 : Int32)) hx hb dX12_start_52 (by decide) ?_
  refine fb_isC (n := 9) (wn := ([fb_o12 za zr ze, fb_aw cI (zr 0) 16205 zm, fb_aw cI x1 17 (upd (upd (upd (upd (upd (upd (upd (upd (upd (upd (fun _ => 0) 0 (0 : Int32)) 1 (1 : Int32)) 2 (5 : Int32)) 3 (6 : Int32)) 4 (7 : Int32)) 5 (8 : Int32)) 6 (9 : Int32)) 7 (10 : Int32)) 8 (11 : Int32)) 9 (12 : Int32))] : List va_W).flatten) X I 2 0 rfl rfl (by decide) (by decide) (Nat.le_of_ble_eq_true rfl) rfl dX12_start_54 (fun H locs I => ?_)
  refine lv_dup hx hb dX12_start_55 rfl ?_
  refine lv_bipush (v := (10 : Int32)) hx hb dX12_start_56 (by decide) ?_
  refine lv_bipush (v := (13 : Int32)) hx hb dX12_start_58 (by decide) ?_
  refine fb_isC (n := 10) (wn := ([fb_o12 za zr ze, fb_aw cI (zr 0) 16205 zm, fb_aw cI x1 17 (upd (upd (upd (upd (upd (upd (upd (upd (upd (upd (upd (fun _ => 0) 0 (0 : Int32)) 1 (1 : Int32)) 2 (5 : Int32)) 3 (6 : Int32)) 4 (7 : Int32)) 5 (8 : Int32)) 6 (9 : Int32)) 7 (10 : Int32)) 8 (11 : Int32)) 9 (12 : Int32)) 10 (13 : Int32))] : List va_W).flatten) X I 2 0 rfl rfl (by decide) (by decide) (Nat.le_of_ble_eq_true rfl) rfl dX12_start_60 (fun H locs I => ?_)
  refine lv_dup hx hb dX12_start_61 rfl ?_
  refine lv_bipush (v := (11 : Int32)) hx hb dX12_start_62 (by decide) ?_
  refine lv_bipush (v := (14 : Int32)) hx hb dX12_start_64 (by decide) ?_
  refine fb_isC (n := 11) (wn := ([fb_o12 za zr ze, fb_aw cI (zr 0) 16205 zm, fb_aw cI x1 17 (upd (upd (upd (upd (upd (upd (upd (upd (upd (upd (upd (upd (fun _ => 0) 0 (0 : Int32)) 1 (1 : Int32)) 2 (5 : Int32)) 3 (6 : Int32)) 4 (7 : Int32)) 5 (8 : Int32)) 6 (9 : Int32)) 7 (10 : Int32)) 8 (11 : Int32)) 9 (12 : Int32)) 10 (13 : Int32)) 11 (14 : Int32))] : List va_W).flatten) X I 2 0 rfl rfl (by decide) (by decide) (Nat.le_of_ble_eq_true rfl) rfl dX12_start_66 (fun H locs I => ?_)
  refine lv_dup hx hb dX12_start_67 rfl ?_
  refine lv_bipush (v := (12 : Int32)) hx hb dX12_start_68 (by decide) ?_
  refine lv_bipush (v := (16 : Int32)) hx hb dX12_start_70 (by decide) ?_
  refine fb_isC (n := 12) (wn := ([fb_o12 za zr ze, fb_aw cI (zr 0) 16205 zm, fb_aw cI x1 17 (upd (upd (upd (upd (upd (upd (upd (upd (upd (upd (upd (upd (upd (fun _ => 0) 0 (0 : Int32)) 1 (1 : Int32)) 2 (5 : Int32)) 3 (6 : Int32)) 4 (7 : Int32)) 5 (8 : Int32)) 6 (9 : Int32)) 7 (10 : Int32)) 8 (11 : Int32)) 9 (12 : Int32)) 10 (13 : Int32)) 11 (14 : Int32)) 12 (16 : Int32))] : List va_W).flatten) X I 2 0 rfl rfl (by decide) (by decide) (Nat.le_of_ble_eq_true rfl) rfl dX12_start_72 (fun H locs I => ?_)
  refine lv_dup hx hb dX12_start_73 rfl ?_
  refine lv_bipush (v := (13 : Int32)) hx hb dX12_start_74 (by decide) ?_
  refine lv_bipush (v := (17 : Int32)) hx hb dX12_start_76 (by decide) ?_
  refine fb_isC (n := 13) (wn := ([fb_o12 za zr ze, fb_aw cI (zr 0) 16205 zm, fb_aw cI x1 17 (upd (upd (upd (upd (upd (upd (upd (upd (upd (upd (upd (upd (upd (upd (fun _ => 0) 0 (0 : Int32)) 1 (1 : Int32)) 2 (5 : Int32)) 3 (6 : Int32)) 4 (7 : Int32)) 5 (8 : Int32)) 6 (9 : Int32)) 7 (10 : Int32)) 8 (11 : Int32)) 9 (12 : Int32)) 10 (13 : Int32)) 11 (14 : Int32)) 12 (16 : Int32)) 13 (17 : Int32))] : List va_W).flatten) X I 2 0 rfl rfl (by decide) (by decide) (Nat.le_of_ble_eq_true rfl) rfl dX12_start_78 (fun H locs I => ?_)
  refine lv_dup hx hb dX12_start_79 rfl ?_
  refine lv_bipush (v := (14 : Int32)) hx hb dX12_start_80 (by decide) ?_
  refine lv_bipush (v := (18 : Int32)) hx hb dX12_start_82 (by decide) ?_
  refine fb_isC (n := 14) (wn := ([fb_o12 za zr ze, fb_aw cI (zr 0) 16205 zm, fb_aw cI x1 17 (upd (upd (upd (upd (upd (upd (upd (upd (upd (upd (upd (upd (upd (upd (upd (fun _ => 0) 0 (0 : Int32)) 1 (1 : Int32)) 2 (5 : Int32)) 3 (6 : Int32)) 4 (7 : Int32)) 5 (8 : Int32)) 6 (9 : Int32)) 7 (10 : Int32)) 8 (11 : Int32)) 9 (12 : Int32)) 10 (13 : Int32)) 11 (14 : Int32)) 12 (16 : Int32)) 13 (17 : Int32)) 14 (18 : Int32))] : List va_W).flatten) X I 2 0 rfl rfl (by decide) (by decide) (Nat.le_of_ble_eq_true rfl) rfl dX12_start_84 (fun H locs I => ?_)
  refine lv_dup hx hb dX12_start_85 rfl ?_
  refine lv_bipush (v := (15 : Int32)) hx hb dX12_start_86 (by decide) ?_
  refine lv_bipush (v := (19 : Int32)) hx hb dX12_start_88 (by decide) ?_
  refine fb_isC (n := 15) (wn := ([fb_o12 za zr ze, fb_aw cI (zr 0) 16205 zm, fb_aw cI x1 17 (upd (upd (upd (upd (upd (upd (upd (upd (upd (upd (upd (upd (upd (upd (upd (upd (fun _ => 0) 0 (0 : Int32)) 1 (1 : Int32)) 2 (5 : Int32)) 3 (6 : Int32)) 4 (7 : Int32)) 5 (8 : Int32)) 6 (9 : Int32)) 7 (10 : Int32)) 8 (11 : Int32)) 9 (12 : Int32)) 10 (13 : Int32)) 11 (14 : Int32)) 12 (16 : Int32)) 13 (17 : Int32)) 14 (18 : Int32)) 15 (19 : Int32))] : List va_W).flatten) X I 2 0 rfl rfl (by decide) (by decide) (Nat.le_of_ble_eq_true rfl) rfl dX12_start_90 (fun H locs I => ?_)
  refine lv_dup hx hb dX12_start_91 rfl ?_
  refine lv_bipush (v := (16 : Int32)) hx hb dX12_start_92 (by decide) ?_
  refine lv_bipush (v := (20 : Int32)) hx hb dX12_start_94 (by decide) ?_
  refine fb_isC (n := 16) (wn := ([fb_o12 za zr ze, fb_aw cI (zr 0) 16205 zm, fb_aw cI x1 17 (upd (upd (upd (upd (upd (upd (upd (upd (upd (upd (upd (upd (upd (upd (upd (upd (upd (fun _ => 0) 0 (0 : Int32)) 1 (1 : Int32)) 2 (5 : Int32)) 3 (6 : Int32)) 4 (7 : Int32)) 5 (8 : Int32)) 6 (9 : Int32)) 7 (10 : Int32)) 8 (11 : Int32)) 9 (12 : Int32)) 10 (13 : Int32)) 11 (14 : Int32)) 12 (16 : Int32)) 13 (17 : Int32)) 14 (18 : Int32)) 15 (19 : Int32)) 16 (20 : Int32))] : List va_W).flatten) X I 2 0 rfl rfl (by decide) (by decide) (Nat.le_of_ble_eq_true rfl) rfl dX12_start_96 (fun H locs I => ?_)
  refine lv_astore_n (lv' := [(1, .ref x1), (0, .ref za)]) hx hb dX12_start_97 rfl hl (by decide) rfl (fun ls hl => ?_)
  refine lv_aload_n hx hb dX12_start_98 rfl (lv_at hl 0 rfl) ?_
  refine lv_astore_n (lv' := [(2, .ref x1), (1, .ref x1), (0, .ref za)]) hx hb dX12_start_99 rfl hl (by decide) rfl (fun ls hl => ?_)
  refine lv_aload_n hx hb dX12_start_100 rfl (lv_at hl 0 rfl) ?_
  refine fb_alen (v := (17 : Int32)) X I 2 0 rfl rfl rfl dX12_start_101 ?_
  refine lv_istore_n (lv' := [(3, .int (17 : Int32)), (2, .ref x1), (1, .ref x1), (0, .ref za)]) hx hb dX12_start_102 rfl hl (by decide) rfl (fun ls hl => ?_)
  refine lv_iconst (v := (0 : Int32)) hx hb dX12_start_103 (by decide) ?_
  refine lv_istore (lv' := [(4, .int (0 : Int32)), (3, .int (17 : Int32)), (2, .ref x1), (1, .ref x1), (0, .ref za)]) hx hb dX12_start_104 hl (by decide) rfl (fun ls hl => ?_)
  refine lv_iload hx hb dX12_start_106 (lv_at hl 0 rfl) ?_
  refine lv_iload_n hx hb dX12_start_108 rfl (lv_at hl 1 rfl) ?_
  refine lv_icmp_ge (tgt := 132) hx hb dX12_start_109 (by decide) (fun c2 => absurd c2 (by decide)) (fun _ => ?_)
  refine lv_aload_n hx hb dX12_start_112 rfl (lv_at hl 2 rfl) ?_
  refine lv_iload hx hb dX12_start_113 (lv_at hl 0 rfl) ?_
  refine fb_iaC (n := 0) (v := (0 : Int32)) X I 2 0 rfl rfl (by decide) (by decide) (Nat.le_of_ble_eq_true rfl) ((pk_un (by decide)).trans ((pk_un (by decide)).trans ((pk_un (by decide)).trans ((pk_un (by decide)).trans ((pk_un (by decide)).trans ((pk_un (by decide)).trans ((pk_un (by decide)).trans ((pk_un (by decide)).trans ((pk_un (by decide)).trans ((pk_un (by decide)).trans ((pk_un (by decide)).trans ((pk_un (by decide)).trans ((pk_un (by decide)).trans ((pk_un (by decide)).trans ((pk_un (by decide)).trans ((pk_un (by decide)).trans pk_us)))))))))))))))) dX12_start_115 ?_
  refine lv_istore (lv' := [(5, .int (0 : Int32)), (4, .int (0 : Int32)), (3, .int (17 : Int32)), (2, .ref x1), (1, .ref x1), (0, .ref za)]) hx hb dX12_start_116 hl (by decide) rfl (fun ls hl => ?_)
  refine lv_aload_n hx hb dX12_start_118 rfl (lv_at hl 5 rfl) ?_
  refine fb_get X I (k := 0) (v := .ref (zr 0)) fu_X12 0 fb_h12 rfl (Nat.le_of_ble_eq_true rfl) fw_1964 rfl rfl dX12_start_119 ?_
  refine lv_iload hx hb dX12_start_122 (lv_at hl 0 rfl) ?_
  refine lv_iconst (v := (0 : Int32)) hx hb dX12_start_124 (by decide) ?_
  refine fb_isC (n := 0) (wn := ([fb_o12 za zr ze, fb_aw cI (zr 0) 16205 (upd zm 0 (0 : Int32)), fb_aw cI x1 17 (upd (upd (upd (upd (upd (upd (upd (upd (upd (upd (upd (upd (upd (upd (upd (upd (upd (fun _ => 0) 0 (0 : Int32)) 1 (1 : Int32)) 2 (5 : Int32)) 3 (6 : Int32)) 4 (7 : Int32)) 5 (8 : Int32)) 6 (9 : Int32)) 7 (10 : Int32)) 8 (11 : Int32)) 9 (12 : Int32)) 10 (13 : Int32)) 11 (14 : Int32)) 12 (16 : Int32)) 13 (17 : Int32)) 14 (18 : Int32)) 15 (19 : Int32)) 16 (20 : Int32))] : List va_W).flatten) X I 1 0 rfl rfl (by decide) (by decide) (Nat.le_of_ble_eq_true rfl) rfl dX12_start_125 (fun H locs I => ?_)
  refine lv_iinc (v := (1 : Int32)) (lv' := [(4, .int (1 : Int32)), (5, .int (0 : Int32)), (3, .int (17 : Int32)), (2, .ref x1), (1, .ref x1), (0, .ref za)]) hx hb dX12_start_126 hl (k := 1) rfl (by decide) (by decide) rfl (fun ls hl => ?_)
  refine lv_goto (tgt := 106) hx hb dX12_start_129 (by decide) ?_
  refine lv_iload hx hb dX12_start_106 (lv_at hl 0 rfl) ?_
  refine lv_iload_n hx hb dX12_start_108 rfl (lv_at hl 2 rfl) ?_
  refine lv_icmp_ge (tgt := 132) hx hb dX12_start_109 (by decide) (fun c3 => absurd c3 (by decide)) (fun _ => ?_)
  refine lv_aload_n hx hb dX12_start_112 rfl (lv_at hl 3 rfl) ?_
  refine lv_iload hx hb dX12_start_113 (lv_at hl 0 rfl) ?_
  refine fb_iaC (n := 1) (v := (1 : Int32)) X I 2 0 rfl rfl (by decide) (by decide) (Nat.le_of_ble_eq_true rfl) ((pk_un (by decide)).trans ((pk_un (by decide)).trans ((pk_un (by decide)).trans ((pk_un (by decide)).trans ((pk_un (by decide)).trans ((pk_un (by decide)).trans ((pk_un (by decide)).trans ((pk_un (by decide)).trans ((pk_un (by decide)).trans ((pk_un (by decide)).trans ((pk_un (by decide)).trans ((pk_un (by decide)).trans ((pk_un (by decide)).trans ((pk_un (by decide)).trans ((pk_un (by decide)).trans pk_us))))))))))))))) dX12_start_115 ?_
  refine lv_istore (lv' := [(5, .int (1 : Int32)), (4, .int (1 : Int32)), (3, .int (17 : Int32)), (2, .ref x1), (1, .ref x1), (0, .ref za)]) hx hb dX12_start_116 hl (by decide) rfl (fun ls hl => ?_)
  refine lv_aload_n hx hb dX12_start_118 rfl (lv_at hl 5 rfl) ?_
  refine fb_get X I (k := 0) (v := .ref (zr 0)) fu_X12 0 fb_h12 rfl (Nat.le_of_ble_eq_true rfl) fw_1964 rfl rfl dX12_start_119 ?_
  refine lv_iload hx hb dX12_start_122 (lv_at hl 0 rfl) ?_
  refine lv_iconst (v := (0 : Int32)) hx hb dX12_start_124 (by decide) ?_
  refine fb_isC (n := 1) (wn := ([fb_o12 za zr ze, fb_aw cI (zr 0) 16205 (upd (upd zm 0 (0 : Int32)) 1 (0 : Int32)), fb_aw cI x1 17 (upd (upd (upd (upd (upd (upd (upd (upd (upd (upd (upd (upd (upd (upd (upd (upd (upd (fun _ => 0) 0 (0 : Int32)) 1 (1 : Int32)) 2 (5 : Int32)) 3 (6 : Int32)) 4 (7 : Int32)) 5 (8 : Int32)) 6 (9 : Int32)) 7 (10 : Int32)) 8 (11 : Int32)) 9 (12 : Int32)) 10 (13 : Int32)) 11 (14 : Int32)) 12 (16 : Int32)) 13 (17 : Int32)) 14 (18 : Int32)) 15 (19 : Int32)) 16 (20 : Int32))] : List va_W).flatten) X I 1 0 rfl rfl (by decide) (by decide) (Nat.le_of_ble_eq_true rfl) rfl dX12_start_125 (fun H locs I => ?_)
  refine lv_iinc (v := (2 : Int32)) (lv' := [(4, .int (2 : Int32)), (5, .int (1 : Int32)), (3, .int (17 : Int32)), (2, .ref x1), (1, .ref x1), (0, .ref za)]) hx hb dX12_start_126 hl (k := 1) rfl (by decide) (by decide) rfl (fun ls hl => ?_)
  refine lv_goto (tgt := 106) hx hb dX12_start_129 (by decide) ?_
  refine lv_iload hx hb dX12_start_106 (lv_at hl 0 rfl) ?_
  refine lv_iload_n hx hb dX12_start_108 rfl (lv_at hl 2 rfl) ?_
  refine lv_icmp_ge (tgt := 132) hx hb dX12_start_109 (by decide) (fun c4 => absurd c4 (by decide)) (fun _ => ?_)
  refine lv_aload_n hx hb dX12_start_112 rfl (lv_at hl 3 rfl) ?_
  refine lv_iload hx hb dX12_start_113 (lv_at hl 0 rfl) ?_
  refine fb_iaC (n := 2) (v := (5 : Int32)) X I 2 0 rfl rfl (by decide) (by decide) (Nat.le_of_ble_eq_true rfl) ((pk_un (by decide)).trans ((pk_un (by decide)).trans ((pk_un (by decide)).trans ((pk_un (by decide)).trans ((pk_un (by decide)).trans ((pk_un (by decide)).trans ((pk_un (by decide)).trans ((pk_un (by decide)).trans ((pk_un (by decide)).trans ((pk_un (by decide)).trans ((pk_un (by decide)).trans ((pk_un (by decide)).trans ((pk_un (by decide)).trans ((pk_un (by decide)).trans pk_us)))))))))))))) dX12_start_115 ?_
  refine lv_istore (lv' := [(5, .int (5 : Int32)), (4, .int (2 : Int32)), (3, .int (17 : Int32)), (2, .ref x1), (1, .ref x1), (0, .ref za)]) hx hb dX12_start_116 hl (by decide) rfl (fun ls hl => ?_)
  refine lv_aload_n hx hb dX12_start_118 rfl (lv_at hl 5 rfl) ?_
  refine fb_get X I (k := 0) (v := .ref (zr 0)) fu_X12 0 fb_h12 rfl (Nat.le_of_ble_eq_true rfl) fw_1964 rfl rfl dX12_start_119 ?_
  refine lv_iload hx hb dX12_start_122 (lv_at hl 0 rfl) ?_
  refine lv_iconst (v := (0 : Int32)) hx hb dX12_start_124 (by decide) ?_
  refine fb_isC (n := 5) (wn := ([fb_o12 za zr ze, fb_aw cI (zr 0) 16205 (upd (upd (upd zm 0 (0 : Int32)) 1 (0 : Int32)) 5 (0 : Int32)), fb_aw cI x1 17 (upd (upd (upd (upd (upd (upd (upd (upd (upd (upd (upd (upd (upd (upd (upd (upd (upd (fun _ => 0) 0 (0 : Int32)) 1 (1 : Int32)) 2 (5 : Int32)) 3 (6 : Int32)) 4 (7 : Int32)) 5 (8 : Int32)) 6 (9 : Int32)) 7 (10 : Int32)) 8 (11 : Int32)) 9 (12 : Int32)) 10 (13 : Int32)) 11 (14 : Int32)) 12 (16 : Int32)) 13 (17 : Int32)) 14 (18 : Int32)) 15 (19 : Int32)) 16 (20 : Int32))] : List va_W).flatten) X I 1 0 rfl rfl (by decide) (by decide) (Nat.le_of_ble_eq_true rfl) rfl dX12_start_125 (fun H locs I => ?_)
  refine lv_iinc (v := (3 : Int32)) (lv' := [(4, .int (3 : Int32)), (5, .int (5 : Int32)), (3, .int (17 : Int32)), (2, .ref x1), (1, .ref x1), (0, .ref za)]) hx hb dX12_start_126 hl (k := 1) rfl (by decide) (by decide) rfl (fun ls hl => ?_)
  refine lv_goto (tgt := 106) hx hb dX12_start_129 (by decide) ?_
  refine lv_iload hx hb dX12_start_106 (lv_at hl 0 rfl) ?_
  refine lv_iload_n hx hb dX12_start_108 rfl (lv_at hl 2 rfl) ?_
  refine lv_icmp_ge (tgt := 132) hx hb dX12_start_109 (by decide) (fun c5 => absurd c5 (by decide)) (fun _ => ?_)
  refine lv_aload_n hx hb dX12_start_112 rfl (lv_at hl 3 rfl) ?_
  refine lv_iload hx hb dX12_start_113 (lv_at hl 0 rfl) ?_
  refine fb_iaC (n := 3) (v := (6 : Int32)) X I 2 0 rfl rfl (by decide) (by decide) (Nat.le_of_ble_eq_true rfl) ((pk_un (by decide)).trans ((pk_un (by decide)).trans ((pk_un (by decide)).trans ((pk_un (by decide)).trans ((pk_un (by decide)).trans ((pk_un (by decide)).trans ((pk_un (by decide)).trans ((pk_un (by decide)).trans ((pk_un (by decide)).trans ((pk_un (by decide)).trans ((pk_un (by decide)).trans ((pk_un (by decide)).trans ((pk_un (by decide)).trans pk_us))))))))))))) dX12_start_115 ?_
  refine lv_istore (lv' := [(5, .int (6 : Int32)), (4, .int (3 : Int32)), (3, .int (17 : Int32)), (2, .ref x1), (1, .ref x1), (0, .ref za)]) hx hb dX12_start_116 hl (by decide) rfl (fun ls hl => ?_)
  refine lv_aload_n hx hb dX12_start_118 rfl (lv_at hl 5 rfl) ?_
  refine fb_get X I (k := 0) (v := .ref (zr 0)) fu_X12 0 fb_h12 rfl (Nat.le_of_ble_eq_true rfl) fw_1964 rfl rfl dX12_start_119 ?_
  refine lv_iload hx hb dX12_start_122 (lv_at hl 0 rfl) ?_
  refine lv_iconst (v := (0 : Int32)) hx hb dX12_start_124 (by decide) ?_
  refine fb_isC (n := 6) (wn := ([fb_o12 za zr ze, fb_aw cI (zr 0) 16205 (upd (upd (upd (upd zm 0 (0 : Int32)) 1 (0 : Int32)) 5 (0 : Int32)) 6 (0 : Int32)), fb_aw cI x1 17 (upd (upd (upd (upd (upd (upd (upd (upd (upd (upd (upd (upd (upd (upd (upd (upd (upd (fun _ => 0) 0 (0 : Int32)) 1 (1 : Int32)) 2 (5 : Int32)) 3 (6 : Int32)) 4 (7 : Int32)) 5 (8 : Int32)) 6 (9 : Int32)) 7 (10 : Int32)) 8 (11 : Int32)) 9 (12 : Int32)) 10 (13 : Int32)) 11 (14 : Int32)) 12 (16 : Int32)) 13 (17 : Int32)) 14 (18 : Int32)) 15 (19 : Int32)) 16 (20 : Int32))] : List va_W).flatten) X I 1 0 rfl rfl (by decide) (by decide) (Nat.le_of_ble_eq_true rfl) rfl dX12_start_125 (fun H locs I => ?_)
  refine lv_iinc (v := (4 : Int32)) (lv' := [(4, .int (4 : Int32)), (5, .int (6 : Int32)), (3, .int (17 : Int32)), (2, .ref x1), (1, .ref x1), (0, .ref za)]) hx hb dX12_start_126 hl (k := 1) rfl (by decide) (by decide) rfl (fun ls hl => ?_)
  refine lv_goto (tgt := 106) hx hb dX12_start_129 (by decide) ?_
  refine lv_iload hx hb dX12_start_106 (lv_at hl 0 rfl) ?_
  refine lv_iload_n hx hb dX12_start_108 rfl (lv_at hl 2 rfl) ?_
  refine lv_icmp_ge (tgt := 132) hx hb dX12_start_109 (by decide) (fun c6 => absurd c6 (by decide)) (fun _ => ?_)
  refine lv_aload_n hx hb dX12_start_112 rfl (lv_at hl 3 rfl) ?_
  refine lv_iload hx hb dX12_start_113 (lv_at hl 0 rfl) ?_
  refine fb_iaC (n := 4) (v := (7 : Int32)) X I 2 0 rfl rfl (by decide) (by decide) (Nat.le_of_ble_eq_true rfl) ((pk_un (by decide)).trans ((pk_un (by decide)).trans ((pk_un (by decide)).trans ((pk_un (by decide)).trans ((pk_un (by decide)).trans ((pk_un (by decide)).trans ((pk_un (by decide)).trans ((pk_un (by decide)).trans ((pk_un (by decide)).trans ((pk_un (by decide)).trans ((pk_un (by decide)).trans ((pk_un (by decide)).trans pk_us)))))))))))) dX12_start_115 ?_
  refine lv_istore (lv' := [(5, .int (7 : Int32)), (4, .int (4 : Int32)), (3, .int (17 : Int32)), (2, .ref x1), (1, .ref x1), (0, .ref za)]) hx hb dX12_start_116 hl (by decide) rfl (fun ls hl => ?_)
  refine lv_aload_n hx hb dX12_start_118 rfl (lv_at hl 5 rfl) ?_
  refine fb_get X I (k := 0) (v := .ref (zr 0)) fu_X12 0 fb_h12 rfl (Nat.le_of_ble_eq_true rfl) fw_1964 rfl rfl dX12_start_119 ?_
  refine lv_iload hx hb dX12_start_122 (lv_at hl 0 rfl) ?_
  refine lv_iconst (v := (0 : Int32)) hx hb dX12_start_124 (by decide) ?_
  refine fb_isC (n := 7) (wn := ([fb_o12 za zr ze, fb_aw cI (zr 0) 16205 (upd (upd (upd (upd (upd zm 0 (0 : Int32)) 1 (0 : Int32)) 5 (0 : Int32)) 6 (0 : Int32)) 7 (0 : Int32)), fb_aw cI x1 17 (upd (upd (upd (upd (upd (upd (upd (upd (upd (upd (upd (upd (upd (upd (upd (upd (upd (fun _ => 0) 0 (0 : Int32)) 1 (1 : Int32)) 2 (5 : Int32)) 3 (6 : Int32)) 4 (7 : Int32)) 5 (8 : Int32)) 6 (9 : Int32)) 7 (10 : Int32)) 8 (11 : Int32)) 9 (12 : Int32)) 10 (13 : Int32)) 11 (14 : Int32)) 12 (16 : Int32)) 13 (17 : Int32)) 14 (18 : Int32)) 15 (19 : Int32)) 16 (20 : Int32))] : List va_W).flatten) X I 1 0 rfl rfl (by decide) (by decide) (Nat.le_of_ble_eq_true rfl) rfl dX12_start_125 (fun H locs I => ?_)
  refine lv_iinc (v := (5 : Int32)) (lv' := [(4, .int (5 : Int32)), (5, .int (7 : Int32)), (3, .int (17 : Int32)), (2, .ref x1), (1, .ref x1), (0, .ref za)]) hx hb dX12_start_126 hl (k := 1) rfl (by decide) (by decide) rfl (fun ls hl => ?_)
  refine lv_goto (tgt := 106) hx hb dX12_start_129 (by decide) ?_
  refine lv_iload hx hb dX12_start_106 (lv_at hl 0 rfl) ?_
  refine lv_iload_n hx hb dX12_start_108 rfl (lv_at hl 2 rfl) ?_
  refine lv_icmp_ge (tgt := 132) hx hb dX12_start_109 (by decide) (fun c7 => absurd c7 (by decide)) (fun _ => ?_)
  refine lv_aload_n hx hb dX12_start_112 rfl (lv_at hl 3 rfl) ?_
  refine lv_iload hx hb dX12_start_113 (lv_at hl 0 rfl) ?_
  refine fb_iaC (n := 5) (v := (8 : Int32)) X I 2 0 rfl rfl (by decide) (by decide) (Nat.le_of_ble_eq_true rfl) ((pk_un (by decide)).trans ((pk_un (by decide)).trans ((pk_un (by decide)).trans ((pk_un (by decide)).trans ((pk_un (by decide)).trans ((pk_un (by decide)).trans ((pk_un (by decide)).trans ((pk_un (by decide)).trans ((pk_un (by decide)).trans ((pk_un (by decide)).trans ((pk_un (by decide)).trans pk_us))))))))))) dX12_start_115 ?_
  refine lv_istore (lv' := [(5, .int (8 : Int32)), (4, .int (5 : Int32)), (3, .int (17 : Int32)), (2, .ref x1), (1, .ref x1), (0, .ref za)]) hx hb dX12_start_116 hl (by decide) rfl (fun ls hl => ?_)
  refine lv_aload_n hx hb dX12_start_118 rfl (lv_at hl 5 rfl) ?_
  refine fb_get X I (k := 0) (v := .ref (zr 0)) fu_X12 0 fb_h12 rfl (Nat.le_of_ble_eq_true rfl) fw_1964 rfl rfl dX12_start_119 ?_
  refine lv_iload hx hb dX12_start_122 (lv_at hl 0 rfl) ?_
  refine lv_iconst (v := (0 : Int32)) hx hb dX12_start_124 (by decide) ?_
  refine fb_isC (n := 8) (wn := ([fb_o12 za zr ze, fb_aw cI (zr 0) 16205 (upd (upd (upd (upd (upd (upd zm 0 (0 : Int32)) 1 (0 : Int32)) 5 (0 : Int32)) 6 (0 : Int32)) 7 (0 : Int32)) 8 (0 : Int32)), fb_aw cI x1 17 (upd (upd (upd (upd (upd (upd (upd (upd (upd (upd (upd (upd (upd (upd (upd (upd (upd (fun _ => 0) 0 (0 : Int32)) 1 (1 : Int32)) 2 (5 : Int32)) 3 (6 : Int32)) 4 (7 : Int32)) 5 (8 : Int32)) 6 (9 : Int32)) 7 (10 : Int32)) 8 (11 : Int32)) 9 (12 : Int32)) 10 (13 : Int32)) 11 (14 : Int32)) 12 (16 : Int32)) 13 (17 : Int32)) 14 (18 : Int32)) 15 (19 : Int32)) 16 (20 : Int32))] : List va_W).flatten) X I 1 0 rfl rfl (by decide) (by decide) (Nat.le_of_ble_eq_true rfl) rfl dX12_start_125 (fun H locs I => ?_)
  refine lv_iinc (v := (6 : Int32)) (lv' := [(4, .int (6 : Int32)), (5, .int (8 : Int32)), (3, .int (17 : Int32)), (2, .ref x1), (1, .ref x1), (0, .ref za)]) hx hb dX12_start_126 hl (k := 1) rfl (by decide) (by decide) rfl (fun ls hl => ?_)
  refine lv_goto (tgt := 106) hx hb dX12_start_129 (by decide) ?_
  refine lv_iload hx hb dX12_start_106 (lv_at hl 0 rfl) ?_
  refine lv_iload_n hx hb dX12_start_108 rfl (lv_at hl 2 rfl) ?_
  refine lv_icmp_ge (tgt := 132) hx hb dX12_start_109 (by decide) (fun c8 => absurd c8 (by decide)) (fun _ => ?_)
  refine lv_aload_n hx hb dX12_start_112 rfl (lv_at hl 3 rfl) ?_
  refine lv_iload hx hb dX12_start_113 (lv_at hl 0 rfl) ?_
  refine fb_iaC (n := 6) (v := (9 : Int32)) X I 2 0 rfl rfl (by decide) (by decide) (Nat.le_of_ble_eq_true rfl) ((pk_un (by decide)).trans ((pk_un (by decide)).trans ((pk_un (by decide)).trans ((pk_un (by decide)).trans ((pk_un (by decide)).trans ((pk_un (by decide)).trans ((pk_un (by decide)).trans ((pk_un (by decide)).trans ((pk_un (by decide)).trans ((pk_un (by decide)).trans pk_us)))))))))) dX12_start_115 ?_
  refine lv_istore (lv' := [(5, .int (9 : Int32)), (4, .int (6 : Int32)), (3, .int (17 : Int32)), (2, .ref x1), (1, .ref x1), (0, .ref za)]) hx hb dX12_start_116 hl (by decide) rfl (fun ls hl => ?_)
  refine lv_aload_n hx hb dX12_start_118 rfl (lv_at hl 5 rfl) ?_
  refine fb_get X I (k := 0) (v := .ref (zr 0)) fu_X12 0 fb_h12 rfl (Nat.le_of_ble_eq_true rfl) fw_1964 rfl rfl dX12_start_119 ?_
  refine lv_iload hx hb dX12_start_122 (lv_at hl 0 rfl) ?_
  refine lv_iconst (v := (0 : Int32)) hx hb dX12_start_124 (by decide) ?_
  refine fb_isC (n := 9) (wn := ([fb_o12 za zr ze, fb_aw cI (zr 0) 16205 (upd (upd (upd (upd (upd (upd (upd zm 0 (0 : Int32)) 1 (0 : Int32)) 5 (0 : Int32)) 6 (0 : Int32)) 7 (0 : Int32)) 8 (0 : Int32)) 9 (0 : Int32)), fb_aw cI x1 17 (upd (upd (upd (upd (upd (upd (upd (upd (upd (upd (upd (upd (upd (upd (upd (upd (upd (fun _ => 0) 0 (0 : Int32)) 1 (1 : Int32)) 2 (5 : Int32)) 3 (6 : Int32)) 4 (7 : Int32)) 5 (8 : Int32)) 6 (9 : Int32)) 7 (10 : Int32)) 8 (11 : Int32)) 9 (12 : Int32)) 10 (13 : Int32)) 11 (14 : Int32)) 12 (16 : Int32)) 13 (17 : Int32)) 14 (18 : Int32)) 15 (19 : Int32)) 16 (20 : Int32))] : List va_W).flatten) X I 1 0 rfl rfl (by decide) (by decide) (Nat.le_of_ble_eq_true rfl) rfl dX12_start_125 (fun H locs I => ?_)
  refine lv_iinc (v := (7 : Int32)) (lv' := [(4, .int (7 : Int32)), (5, .int (9 : Int32)), (3, .int (17 : Int32)), (2, .ref x1), (1, .ref x1), (0, .ref za)]) hx hb dX12_start_126 hl (k := 1) rfl (by decide) (by decide) rfl (fun ls hl => ?_)
  refine lv_goto (tgt := 106) hx hb dX12_start_129 (by decide) ?_
  refine lv_iload hx hb dX12_start_106 (lv_at hl 0 rfl) ?_
  refine lv_iload_n hx hb dX12_start_108 rfl (lv_at hl 2 rfl) ?_
  refine lv_icmp_ge (tgt := 132) hx hb dX12_start_109 (by decide) (fun c9 => absurd c9 (by decide)) (fun _ => ?_)
  refine lv_aload_n hx hb dX12_start_112 rfl (lv_at hl 3 rfl) ?_
  refine lv_iload hx hb dX12_start_113 (lv_at hl 0 rfl) ?_
  refine fb_iaC (n := 7) (v := (10 : Int32)) X I 2 0 rfl rfl (by decide) (by decide) (Nat.le_of_ble_eq_true rfl) ((pk_un (by decide)).trans ((pk_un (by decide)).trans ((pk_un (by decide)).trans ((pk_un (by decide)).trans ((pk_un (by decide)).trans ((pk_un (by decide)).trans ((pk_un (by decide)).trans ((pk_un (by decide)).trans ((pk_un (by decide)).trans pk_us))))))))) dX12_start_115 ?_
  refine lv_istore (lv' := [(5, .int (10 : Int32)), (4, .int (7 : Int32)), (3, .int (17 : Int32)), (2, .ref x1), (1, .ref x1), (0, .ref za)]) hx hb dX12_start_116 hl (by decide) rfl (fun ls hl => ?_)
  refine lv_aload_n hx hb dX12_start_118 rfl (lv_at hl 5 rfl) ?_
  refine fb_get X I (k := 0) (v := .ref (zr 0)) fu_X12 0 fb_h12 rfl (Nat.le_of_ble_eq_true rfl) fw_1964 rfl rfl dX12_start_119 ?_
  refine lv_iload hx hb dX12_start_122 (lv_at hl 0 rfl) ?_
  refine lv_iconst (v := (0 : Int32)) hx hb dX12_start_124 (by decide) ?_
  refine fb_isC (n := 10) (wn := ([fb_o12 za zr ze, fb_aw cI (zr 0) 16205 (upd (upd (upd (upd (upd (upd (upd (upd zm 0 (0 : Int32)) 1 (0 : Int32)) 5 (0 : Int32)) 6 (0 : Int32)) 7 (0 : Int32)) 8 (0 : Int32)) 9 (0 : Int32)) 10 (0 : Int32)), fb_aw cI x1 17 (upd (upd (upd (upd (upd (upd (upd (upd (upd (upd (upd (upd (upd (upd (upd (upd (upd (fun _ => 0) 0 (0 : Int32)) 1 (1 : Int32)) 2 (5 : Int32)) 3 (6 : Int32)) 4 (7 : Int32)) 5 (8 : Int32)) 6 (9 : Int32)) 7 (10 : Int32)) 8 (11 : Int32)) 9 (12 : Int32)) 10 (13 : Int32)) 11 (14 : Int32)) 12 (16 : Int32)) 13 (17 : Int32)) 14 (18 : Int32)) 15 (19 : Int32)) 16 (20 : Int32))] : List va_W).flatten) X I 1 0 rfl rfl (by decide) (by decide) (Nat.le_of_ble_eq_true rfl) rfl dX12_start_125 (fun H locs I => ?_)
  refine lv_iinc (v := (8 : Int32)) (lv' := [(4, .int (8 : Int32)), (5, .int (10 : Int32)), (3, .int (17 : Int32)), (2, .ref x1), (1, .ref x1), (0, .ref za)]) hx hb dX12_start_126 hl (k := 1) rfl (by decide) (by decide) rfl (fun ls hl => ?_)
  refine lv_goto (tgt := 106) hx hb dX12_start_129 (by decide) ?_
  refine lv_iload hx hb dX12_start_106 (lv_at hl 0 rfl) ?_
  refine lv_iload_n hx hb dX12_start_108 rfl (lv_at hl 2 rfl) ?_
  refine lv_icmp_ge (tgt := 132) hx hb dX12_start_109 (by decide) (fun c10 => absurd c10 (by decide)) (fun _ => ?_)
  refine lv_aload_n hx hb dX12_start_112 rfl (lv_at hl 3 rfl) ?_
  refine lv_iload hx hb dX12_start_113 (lv_at hl 0 rfl) ?_
  refine fb_iaC (n := 8) (v := (11 : Int32)) X I 2 0 rfl rfl (by decide) (by decide) (Nat.le_of_ble_eq_true rfl) ((pk_un (by decide)).trans ((pk_un (by decide)).trans ((pk_un (by decide)).trans ((pk_un (by decide)).trans ((pk_un (by decide)).trans ((pk_un (by decide)).trans ((pk_un (by decide)).trans ((pk_un (by decide)).trans pk_us)))))))) dX12_start_115 ?_
  refine lv_istore (lv' := [(5, .int (11 : Int32)), (4, .int (8 : Int32)), (3, .int (17 : Int32)), (2, .ref x1), (1, .ref x1), (0, .ref za)]) hx hb dX12_start_116 hl (by decide) rfl (fun ls hl => ?_)
  refine lv_aload_n hx hb dX12_start_118 rfl (lv_at hl 5 rfl) ?_
  refine fb_get X I (k := 0) (v := .ref (zr 0)) fu_X12 0 fb_h12 rfl (Nat.le_of_ble_eq_true rfl) fw_1964 rfl rfl dX12_start_119 ?_
  refine lv_iload hx hb dX12_start_122 (lv_at hl 0 rfl) ?_
  refine lv_iconst (v := (0 : Int32)) hx hb dX12_start_124 (by decide) ?_
  refine fb_isC (n := 11) (wn := ([fb_o12 za zr ze, fb_aw cI (zr 0) 16205 (upd (upd (upd (upd (upd (upd (upd (upd (upd zm 0 (0 : Int32)) 1 (0 : Int32)) 5 (0 : Int32)) 6 (0 : Int32)) 7 (0 : Int32)) 8 (0 : Int32)) 9 (0 : Int32)) 10 (0 : Int32)) 11 (0 : Int32)), fb_aw cI x1 17 (upd (upd (upd (upd (upd (upd (upd (upd (upd (upd (upd (upd (upd (upd (upd (upd (upd (fun _ => 0) 0 (0 : Int32)) 1 (1 : Int32)) 2 (5 : Int32)) 3 (6 : Int32)) 4 (7 : Int32)) 5 (8 : Int32)) 6 (9 : Int32)) 7 (10 : Int32)) 8 (11 : Int32)) 9 (12 : Int32)) 10 (13 : Int32)) 11 (14 : Int32)) 12 (16 : Int32)) 13 (17 : Int32)) 14 (18 : Int32)) 15 (19 : Int32)) 16 (20 : Int32))] : List va_W).flatten) X I 1 0 rfl rfl (by decide) (by decide) (Nat.le_of_ble_eq_true rfl) rfl dX12_start_125 (fun H locs I => ?_)
  refine lv_iinc (v := (9 : Int32)) (lv' := [(4, .int (9 : Int32)), (5, .int (11 : Int32)), (3, .int (17 : Int32)), (2, .ref x1), (1, .ref x1), (0, .ref za)]) hx hb dX12_start_126 hl (k := 1) rfl (by decide) (by decide) rfl (fun ls hl => ?_)
  refine lv_goto (tgt := 106) hx hb dX12_start_129 (by decide) ?_
  refine lv_iload hx hb dX12_start_106 (lv_at hl 0 rfl) ?_
  refine lv_iload_n hx hb dX12_start_108 rfl (lv_at hl 2 rfl) ?_
  refine lv_icmp_ge (tgt := 132) hx hb dX12_start_109 (by decide) (fun c11 => absurd c11 (by decide)) (fun _ => ?_)
  refine lv_aload_n hx hb dX12_start_112 rfl (lv_at hl 3 rfl) ?_
  refine lv_iload hx hb dX12_start_113 (lv_at hl 0 rfl) ?_
  refine fb_iaC (n := 9) (v := (12 : Int32)) X I 2 0 rfl rfl (by decide) (by decide) (Nat.le_of_ble_eq_true rfl) ((pk_un (by decide)).trans ((pk_un (by decide)).trans ((pk_un (by decide)).trans ((pk_un (by decide)).trans ((pk_un (by decide)).trans ((pk_un (by decide)).trans ((pk_un (by decide)).trans pk_us))))))) dX12_start_115 ?_
  refine lv_istore (lv' := [(5, .int (12 : Int32)), (4, .int (9 : Int32)), (3, .int (17 : Int32)), (2, .ref x1), (1, .ref x1), (0, .ref za)]) hx hb dX12_start_116 hl (by decide) rfl (fun ls hl => ?_)
  refine lv_aload_n hx hb dX12_start_118 rfl (lv_at hl 5 rfl) ?_
  refine fb_get X I (k := 0) (v := .ref (zr 0)) fu_X12 0 fb_h12 rfl (Nat.le_of_ble_eq_true rfl) fw_1964 rfl rfl dX12_start_119 ?_
  refine lv_iload hx hb dX12_start_122 (lv_at hl 0 rfl) ?_
  refine lv_iconst (v := (0 : Int32)) hx hb dX12_start_124 (by decide) ?_
  refine fb_isC (n := 12) (wn := ([fb_o12 za zr ze, fb_aw cI (zr 0) 16205 (upd (upd (upd (upd (upd (upd (upd (upd (upd (upd zm 0 (0 : Int32)) 1 (0 : Int32)) 5 (0 : Int32)) 6 (0 : Int32)) 7 (0 : Int32)) 8 (0 : Int32)) 9 (0 : Int32)) 10 (0 : Int32)) 11 (0 : Int32)) 12 (0 : Int32)), fb_aw cI x1 17 (upd (upd (upd (upd (upd (upd (upd (upd (upd (upd (upd (upd (upd (upd (upd (upd (upd (fun _ => 0) 0 (0 : Int32)) 1 (1 : Int32)) 2 (5 : Int32)) 3 (6 : Int32)) 4 (7 : Int32)) 5 (8 : Int32)) 6 (9 : Int32)) 7 (10 : Int32)) 8 (11 : Int32)) 9 (12 : Int32)) 10 (13 : Int32)) 11 (14 : Int32)) 12 (16 : Int32)) 13 (17 : Int32)) 14 (18 : Int32)) 15 (19 : Int32)) 16 (20 : Int32))] : List va_W).flatten) X I 1 0 rfl rfl (by decide) (by decide) (Nat.le_of_ble_eq_true rfl) rfl dX12_start_125 (fun H locs I => ?_)
  refine lv_iinc (v := (10 : Int32)) (lv' := [(4, .int (10 : Int32)), (5, .int (12 : Int32)), (3, .int (17 : Int32)), (2, .ref x1), (1, .ref x1), (0, .ref za)]) hx hb dX12_start_126 hl (k := 1) rfl (by decide) (by decide) rfl (fun ls hl => ?_)
  refine lv_goto (tgt := 106) hx hb dX12_start_129 (by decide) ?_
  refine lv_iload hx hb dX12_start_106 (lv_at hl 0 rfl) ?_
  refine lv_iload_n hx hb dX12_start_108 rfl (lv_at hl 2 rfl) ?_
  refine lv_icmp_ge (tgt := 132) hx hb dX12_start_109 (by decide) (fun c12 => absurd c12 (by decide)) (fun _ => ?_)
  refine lv_aload_n hx hb dX12_start_112 rfl (lv_at hl 3 rfl) ?_
  refine lv_iload hx hb dX12_start_113 (lv_at hl 0 rfl) ?_
  refine fb_iaC (n := 10) (v := (13 : Int32)) X I 2 0 rfl rfl (by decide) (by decide) (Nat.le_of_ble_eq_true rfl) ((pk_un (by decide)).trans ((pk_un (by decide)).trans ((pk_un (by decide)).trans ((pk_un (by decide)).trans ((pk_un (by decide)).trans ((pk_un (by decide)).trans pk_us)))))) dX12_start_115 ?_
  refine lv_istore (lv' := [(5, .int (13 : Int32)), (4, .int (10 : Int32)), (3, .int (17 : Int32)), (2, .ref x1), (1, .ref x1), (0, .ref za)]) hx hb dX12_start_116 hl (by decide) rfl (fun ls hl => ?_)
  refine lv_aload_n hx hb dX12_start_118 rfl (lv_at hl 5 rfl) ?_
  refine fb_get X I (k := 0) (v := .ref (zr 0)) fu_X12 0 fb_h12 rfl (Nat.le_of_ble_eq_true rfl) fw_1964 rfl rfl dX12_start_119 ?_
  refine lv_iload hx hb dX12_start_122 (lv_at hl 0 rfl) ?_
  refine lv_iconst (v := (0 : Int32)) hx hb dX12_start_124 (by decide) ?_
  refine fb_isC (n := 13) (wn := ([fb_o12 za zr ze, fb_aw cI (zr 0) 16205 (upd (upd (upd (upd (upd (upd (upd (upd (upd (upd (upd zm 0 (0 : Int32)) 1 (0 : Int32)) 5 (0 : Int32)) 6 (0 : Int32)) 7 (0 : Int32)) 8 (0 : Int32)) 9 (0 : Int32)) 10 (0 : Int32)) 11 (0 : Int32)) 12 (0 : Int32)) 13 (0 : Int32)), fb_aw cI x1 17 (upd (upd (upd (upd (upd (upd (upd (upd (upd (upd (upd (upd (upd (upd (upd (upd (upd (fun _ => 0) 0 (0 : Int32)) 1 (1 : Int32)) 2 (5 : Int32)) 3 (6 : Int32)) 4 (7 : Int32)) 5 (8 : Int32)) 6 (9 : Int32)) 7 (10 : Int32)) 8 (11 : Int32)) 9 (12 : Int32)) 10 (13 : Int32)) 11 (14 : Int32)) 12 (16 : Int32)) 13 (17 : Int32)) 14 (18 : Int32)) 15 (19 : Int32)) 16 (20 : Int32))] : List va_W).flatten) X I 1 0 rfl rfl (by decide) (by decide) (Nat.le_of_ble_eq_true rfl) rfl dX12_start_125 (fun H locs I => ?_)
  refine lv_iinc (v := (11 : Int32)) (lv' := [(4, .int (11 : Int32)), (5, .int (13 : Int32)), (3, .int (17 : Int32)), (2, .ref x1), (1, .ref x1), (0, .ref za)]) hx hb dX12_start_126 hl (k := 1) rfl (by decide) (by decide) rfl (fun ls hl => ?_)
  refine lv_goto (tgt := 106) hx hb dX12_start_129 (by decide) ?_
  refine lv_iload hx hb dX12_start_106 (lv_at hl 0 rfl) ?_
  refine lv_iload_n hx hb dX12_start_108 rfl (lv_at hl 2 rfl) ?_
  refine lv_icmp_ge (tgt := 132) hx hb dX12_start_109 (by decide) (fun c13 => absurd c13 (by decide)) (fun _ => ?_)
  refine lv_aload_n hx hb dX12_start_112 rfl (lv_at hl 3 rfl) ?_
  refine lv_iload hx hb dX12_start_113 (lv_at hl 0 rfl) ?_
  refine fb_iaC (n := 11) (v := (14 : Int32)) X I 2 0 rfl rfl (by decide) (by decide) (Nat.le_of_ble_eq_true rfl) ((pk_un (by decide)).trans ((pk_un (by decide)).trans ((pk_un (by decide)).trans ((pk_un (by decide)).trans ((pk_un (by decide)).trans pk_us))))) dX12_start_115 ?_
  refine lv_istore (lv' := [(5, .int (14 : Int32)), (4, .int (11 : Int32)), (3, .int (17 : Int32)), (2, .ref x1), (1, .ref x1), (0, .ref za)]) hx hb dX12_start_116 hl (by decide) rfl (fun ls hl => ?_)
  refine lv_aload_n hx hb dX12_start_118 rfl (lv_at hl 5 rfl) ?_
  refine fb_get X I (k := 0) (v := .ref (zr 0)) fu_X12 0 fb_h12 rfl (Nat.le_of_ble_eq_true rfl) fw_1964 rfl rfl dX12_start_119 ?_
  refine lv_iload hx hb dX12_start_122 (lv_at hl 0 rfl) ?_
  refine lv_iconst (v := (0 : Int32)) hx hb dX12_start_124 (by decide) ?_
  refine fb_isC (n := 14) (wn := ([fb_o12 za zr ze, fb_aw cI (zr 0) 16205 (upd (upd (upd (upd (upd (upd (upd (upd (upd (upd (upd (upd zm 0 (0 : Int32)) 1 (0 : Int32)) 5 (0 : Int32)) 6 (0 : Int32)) 7 (0 : Int32)) 8 (0 : Int32)) 9 (0 : Int32)) 10 (0 : Int32)) 11 (0 : Int32)) 12 (0 : Int32)) 13 (0 : Int32)) 14 (0 : Int32)), fb_aw cI x1 17 (upd (upd (upd (upd (upd (upd (upd (upd (upd (upd (upd (upd (upd (upd (upd (upd (upd (fun _ => 0) 0 (0 : Int32)) 1 (1 : Int32)) 2 (5 : Int32)) 3 (6 : Int32)) 4 (7 : Int32)) 5 (8 : Int32)) 6 (9 : Int32)) 7 (10 : Int32)) 8 (11 : Int32)) 9 (12 : Int32)) 10 (13 : Int32)) 11 (14 : Int32)) 12 (16 : Int32)) 13 (17 : Int32)) 14 (18 : Int32)) 15 (19 : Int32)) 16 (20 : Int32))] : List va_W).flatten) X I 1 0 rfl rfl (by decide) (by decide) (Nat.le_of_ble_eq_true rfl) rfl dX12_start_125 (fun H locs I => ?_)
  refine lv_iinc (v := (12 : Int32)) (lv' := [(4, .int (12 : Int32)), (5, .int (14 : Int32)), (3, .int (17 : Int32)), (2, .ref x1), (1, .ref x1), (0, .ref za)]) hx hb dX12_start_126 hl (k := 1) rfl (by decide) (by decide) rfl (fun ls hl => ?_)
  refine lv_goto (tgt := 106) hx hb dX12_start_129 (by decide) ?_
  refine lv_iload hx hb dX12_start_106 (lv_at hl 0 rfl) ?_
  refine lv_iload_n hx hb dX12_start_108 rfl (lv_at hl 2 rfl) ?_
  refine lv_icmp_ge (tgt := 132) hx hb dX12_start_109 (by decide) (fun c14 => absurd c14 (by decide)) (fun _ => ?_)
  refine lv_aload_n hx hb dX12_start_112 rfl (lv_at hl 3 rfl) ?_
  refine lv_iload hx hb dX12_start_113 (lv_at hl 0 rfl) ?_
  refine fb_iaC (n := 12) (v := (16 : Int32)) X I 2 0 rfl rfl (by decide) (by decide) (Nat.le_of_ble_eq_true rfl) ((pk_un (by decide)).trans ((pk_un (by decide)).trans ((pk_un (by decide)).trans ((pk_un (by decide)).trans pk_us)))) dX12_start_115 ?_
  refine lv_istore (lv' := [(5, .int (16 : Int32)), (4, .int (12 : Int32)), (3, .int (17 : Int32)), (2, .ref x1), (1, .ref x1), (0, .ref za)]) hx hb dX12_start_116 hl (by decide) rfl (fun ls hl => ?_)
  refine lv_aload_n hx hb dX12_start_118 rfl (lv_at hl 5 rfl) ?_
  refine fb_get X I (k := 0) (v := .ref (zr 0)) fu_X12 0 fb_h12 rfl (Nat.le_of_ble_eq_true rfl) fw_1964 rfl rfl dX12_start_119 ?_
  refine lv_iload hx hb dX12_start_122 (lv_at hl 0 rfl) ?_
  refine lv_iconst (v := (0 : Int32)) hx hb dX12_start_124 (by decide) ?_
  refine fb_isC (n := 16) (wn := ([fb_o12 za zr ze, fb_aw cI (zr 0) 16205 (upd (upd (upd (upd (upd (upd (upd (upd (upd (upd (upd (upd (upd zm 0 (0 : Int32)) 1 (0 : Int32)) 5 (0 : Int32)) 6 (0 : Int32)) 7 (0 : Int32)) 8 (0 : Int32)) 9 (0 : Int32)) 10 (0 : Int32)) 11 (0 : Int32)) 12 (0 : Int32)) 13 (0 : Int32)) 14 (0 : Int32)) 16 (0 : Int32)), fb_aw cI x1 17 (upd (upd (upd (upd (upd (upd (upd (upd (upd (upd (upd (upd (upd (upd (upd (upd (upd (fun _ => 0) 0 (0 : Int32)) 1 (1 : Int32)) 2 (5 : Int32)) 3 (6 : Int32)) 4 (7 : Int32)) 5 (8 : Int32)) 6 (9 : Int32)) 7 (10 : Int32)) 8 (11 : Int32)) 9 (12 : Int32)) 10 (13 : Int32)) 11 (14 : Int32)) 12 (16 : Int32)) 13 (17 : Int32)) 14 (18 : Int32)) 15 (19 : Int32)) 16 (20 : Int32))] : List va_W).flatten) X I 1 0 rfl rfl (by decide) (by decide) (Nat.le_of_ble_eq_true rfl) rfl dX12_start_125 (fun H locs I => ?_)
  refine lv_iinc (v := (13 : Int32)) (lv' := [(4, .int (13 : Int32)), (5, .int (16 : Int32)), (3, .int (17 : Int32)), (2, .ref x1), (1, .ref x1), (0, .ref za)]) hx hb dX12_start_126 hl (k := 1) rfl (by decide) (by decide) rfl (fun ls hl => ?_)
  refine lv_goto (tgt := 106) hx hb dX12_start_129 (by decide) ?_
  refine lv_iload hx hb dX12_start_106 (lv_at hl 0 rfl) ?_
  refine lv_iload_n hx hb dX12_start_108 rfl (lv_at hl 2 rfl) ?_
  refine lv_icmp_ge (tgt := 132) hx hb dX12_start_109 (by decide) (fun c15 => absurd c15 (by decide)) (fun _ => ?_)
  refine lv_aload_n hx hb dX12_start_112 rfl (lv_at hl 3 rfl) ?_
  refine lv_iload hx hb dX12_start_113 (lv_at hl 0 rfl) ?_
  refine fb_iaC (n := 13) (v := (17 : Int32)) X I 2 0 rfl rfl (by decide) (by decide) (Nat.le_of_ble_eq_true rfl) ((pk_un (by decide)).trans ((pk_un (by decide)).trans ((pk_un (by decide)).trans pk_us))) dX12_start_115 ?_
  refine lv_istore (lv' := [(5, .int (17 : Int32)), (4, .int (13 : Int32)), (3, .int (17 : Int32)), (2, .ref x1), (1, .ref x1), (0, .ref za)]) hx hb dX12_start_116 hl (by decide) rfl (fun ls hl => ?_)
  refine lv_aload_n hx hb dX12_start_118 rfl (lv_at hl 5 rfl) ?_
  refine fb_get X I (k := 0) (v := .ref (zr 0)) fu_X12 0 fb_h12 rfl (Nat.le_of_ble_eq_true rfl) fw_1964 rfl rfl dX12_start_119 ?_
  refine lv_iload hx hb dX12_start_122 (lv_at hl 0 rfl) ?_
  refine lv_iconst (v := (0 : Int32)) hx hb dX12_start_124 (by decide) ?_
  refine fb_isC (n := 17) (wn := ([fb_o12 za zr ze, fb_aw cI (zr 0) 16205 (upd (upd (upd (upd (upd (upd (upd (upd (upd (upd (upd (upd (upd (upd zm 0 (0 : Int32)) 1 (0 : Int32)) 5 (0 : Int32)) 6 (0 : Int32)) 7 (0 : Int32)) 8 (0 : Int32)) 9 (0 : Int32)) 10 (0 : Int32)) 11 (0 : Int32)) 12 (0 : Int32)) 13 (0 : Int32)) 14 (0 : Int32)) 16 (0 : Int32)) 17 (0 : Int32)), fb_aw cI x1 17 (upd (upd (upd (upd (upd (upd (upd (upd (upd (upd (upd (upd (upd (upd (upd (upd (upd (fun _ => 0) 0 (0 : Int32)) 1 (1 : Int32)) 2 (5 : Int32)) 3 (6 : Int32)) 4 (7 : Int32)) 5 (8 : Int32)) 6 (9 : Int32)) 7 (10 : Int32)) 8 (11 : Int32)) 9 (12 : Int32)) 10 (13 : Int32)) 11 (14 : Int32)) 12 (16 : Int32)) 13 (17 : Int32)) 14 (18 : Int32)) 15 (19 : Int32)) 16 (20 : Int32))] : List va_W).flatten) X I 1 0 rfl rfl (by decide) (by decide) (Nat.le_of_ble_eq_true rfl) rfl dX12_start_125 (fun H locs I => ?_)
  refine lv_iinc (v := (14 : Int32)) (lv' := [(4, .int (14 : Int32)), (5, .int (17 : Int32)), (3, .int (17 : Int32)), (2, .ref x1), (1, .ref x1), (0, .ref za)]) hx hb dX12_start_126 hl (k := 1) rfl (by decide) (by decide) rfl (fun ls hl => ?_)
  refine lv_goto (tgt := 106) hx hb dX12_start_129 (by decide) ?_
  refine lv_iload hx hb dX12_start_106 (lv_at hl 0 rfl) ?_
  refine lv_iload_n hx hb dX12_start_108 rfl (lv_at hl 2 rfl) ?_
  refine lv_icmp_ge (tgt := 132) hx hb dX12_start_109 (by decide) (fun c16 => absurd c16 (by decide)) (fun _ => ?_)
  refine lv_aload_n hx hb dX12_start_112 rfl (lv_at hl 3 rfl) ?_
  refine lv_iload hx hb dX12_start_113 (lv_at hl 0 rfl) ?_
  refine fb_iaC (n := 14) (v := (18 : Int32)) X I 2 0 rfl rfl (by decide) (by decide) (Nat.le_of_ble_eq_true rfl) ((pk_un (by decide)).trans ((pk_un (by decide)).trans pk_us)) dX12_start_115 ?_
  refine lv_istore (lv' := [(5, .int (18 : Int32)), (4, .int (14 : Int32)), (3, .int (17 : Int32)), (2, .ref x1), (1, .ref x1), (0, .ref za)]) hx hb dX12_start_116 hl (by decide) rfl (fun ls hl => ?_)
  refine lv_aload_n hx hb dX12_start_118 rfl (lv_at hl 5 rfl) ?_
  refine fb_get X I (k := 0) (v := .ref (zr 0)) fu_X12 0 fb_h12 rfl (Nat.le_of_ble_eq_true rfl) fw_1964 rfl rfl dX12_start_119 ?_
  refine lv_iload hx hb dX12_start_122 (lv_at hl 0 rfl) ?_
  refine lv_iconst (v := (0 : Int32)) hx hb dX12_start_124 (by decide) ?_
  refine fb_isC (n := 18) (wn := ([fb_o12 za zr ze, fb_aw cI (zr 0) 16205 (upd (upd (upd (upd (upd (upd (upd (upd (upd (upd (upd (upd (upd (upd (upd zm 0 (0 : Int32)) 1 (0 : Int32)) 5 (0 : Int32)) 6 (0 : Int32)) 7 (0 : Int32)) 8 (0 : Int32)) 9 (0 : Int32)) 10 (0 : Int32)) 11 (0 : Int32)) 12 (0 : Int32)) 13 (0 : Int32)) 14 (0 : Int32)) 16 (0 : Int32)) 17 (0 : Int32)) 18 (0 : Int32)), fb_aw cI x1 17 (upd (upd (upd (upd (upd (upd (upd (upd (upd (upd (upd (upd (upd (upd (upd (upd (upd (fun _ => 0) 0 (0 : Int32)) 1 (1 : Int32)) 2 (5 : Int32)) 3 (6 : Int32)) 4 (7 : Int32)) 5 (8 : Int32)) 6 (9 : Int32)) 7 (10 : Int32)) 8 (11 : Int32)) 9 (12 : Int32)) 10 (13 : Int32)) 11 (14 : Int32)) 12 (16 : Int32)) 13 (17 : Int32)) 14 (18 : Int32)) 15 (19 : Int32)) 16 (20 : Int32))] : List va_W).flatten) X I 1 0 rfl rfl (by decide) (by decide) (Nat.le_of_ble_eq_true rfl) rfl dX12_start_125 (fun H locs I => ?_)
  refine lv_iinc (v := (15 : Int32)) (lv' := [(4, .int (15 : Int32)), (5, .int (18 : Int32)), (3, .int (17 : Int32)), (2, .ref x1), (1, .ref x1), (0, .ref za)]) hx hb dX12_start_126 hl (k := 1) rfl (by decide) (by decide) rfl (fun ls hl => ?_)
  refine lv_goto (tgt := 106) hx hb dX12_start_129 (by decide) ?_
  refine lv_iload hx hb dX12_start_106 (lv_at hl 0 rfl) ?_
  refine lv_iload_n hx hb dX12_start_108 rfl (lv_at hl 2 rfl) ?_
  refine lv_icmp_ge (tgt := 132) hx hb dX12_start_109 (by decide) (fun c17 => absurd c17 (by decide)) (fun _ => ?_)
  refine lv_aload_n hx hb dX12_start_112 rfl (lv_at hl 3 rfl) ?_
  refine lv_iload hx hb dX12_start_113 (lv_at hl 0 rfl) ?_
  refine fb_iaC (n := 15) (v := (19 : Int32)) X I 2 0 rfl rfl (by decide) (by decide) (Nat.le_of_ble_eq_true rfl) ((pk_un (by decide)).trans pk_us) dX12_start_115 ?_
  refine lv_istore (lv' := [(5, .int (19 : Int32)), (4, .int (15 : Int32)), (3, .int (17 : Int32)), (2, .ref x1), (1, .ref x1), (0, .ref za)]) hx hb dX12_start_116 hl (by decide) rfl (fun ls hl => ?_)
  refine lv_aload_n hx hb dX12_start_118 rfl (lv_at hl 5 rfl) ?_
  refine fb_get X I (k := 0) (v := .ref (zr 0)) fu_X12 0 fb_h12 rfl (Nat.le_of_ble_eq_true rfl) fw_1964 rfl rfl dX12_start_119 ?_
  refine lv_iload hx hb dX12_start_122 (lv_at hl 0 rfl) ?_
  refine lv_iconst (v := (0 : Int32)) hx hb dX12_start_124 (by decide) ?_
  refine fb_isC (n := 19) (wn := ([fb_o12 za zr ze, fb_aw cI (zr 0) 16205 (upd (upd (upd (upd (upd (upd (upd (upd (upd (upd (upd (upd (upd (upd (upd (upd zm 0 (0 : Int32)) 1 (0 : Int32)) 5 (0 : Int32)) 6 (0 : Int32)) 7 (0 : Int32)) 8 (0 : Int32)) 9 (0 : Int32)) 10 (0 : Int32)) 11 (0 : Int32)) 12 (0 : Int32)) 13 (0 : Int32)) 14 (0 : Int32)) 16 (0 : Int32)) 17 (0 : Int32)) 18 (0 : Int32)) 19 (0 : Int32)), fb_aw cI x1 17 (upd (upd (upd (upd (upd (upd (upd (upd (upd (upd (upd (upd (upd (upd (upd (upd (upd (fun _ => 0) 0 (0 : Int32)) 1 (1 : Int32)) 2 (5 : Int32)) 3 (6 : Int32)) 4 (7 : Int32)) 5 (8 : Int32)) 6 (9 : Int32)) 7 (10 : Int32)) 8 (11 : Int32)) 9 (12 : Int32)) 10 (13 : Int32)) 11 (14 : Int32)) 12 (16 : Int32)) 13 (17 : Int32)) 14 (18 : Int32)) 15 (19 : Int32)) 16 (20 : Int32))] : List va_W).flatten) X I 1 0 rfl rfl (by decide) (by decide) (Nat.le_of_ble_eq_true rfl) rfl dX12_start_125 (fun H locs I => ?_)
  refine lv_iinc (v := (16 : Int32)) (lv' := [(4, .int (16 : Int32)), (5, .int (19 : Int32)), (3, .int (17 : Int32)), (2, .ref x1), (1, .ref x1), (0, .ref za)]) hx hb dX12_start_126 hl (k := 1) rfl (by decide) (by decide) rfl (fun ls hl => ?_)
  refine lv_goto (tgt := 106) hx hb dX12_start_129 (by decide) ?_
  refine lv_iload hx hb dX12_start_106 (lv_at hl 0 rfl) ?_
  refine lv_iload_n hx hb dX12_start_108 rfl (lv_at hl 2 rfl) ?_
  refine lv_icmp_ge (tgt := 132) hx hb dX12_start_109 (by decide) (fun c18 => absurd c18 (by decide)) (fun _ => ?_)
  refine lv_aload_n hx hb dX12_start_112 rfl (lv_at hl 3 rfl) ?_
  refine lv_iload hx hb dX12_start_113 (lv_at hl 0 rfl) ?_
  refine fb_iaC (n := 16) (v := (20 : Int32)) X I 2 0 rfl rfl (by decide) (by decide) (Nat.le_of_ble_eq_true rfl) pk_us dX12_start_115 ?_
  refine lv_istore (lv' := [(5, .int (20 : Int32)), (4, .int (16 : Int32)), (3, .int (17 : Int32)), (2, .ref x1), (1, .ref x1), (0, .ref za)]) hx hb dX12_start_116 hl (by decide) rfl (fun ls hl => ?_)
  refine lv_aload_n hx hb dX12_start_118 rfl (lv_at hl 5 rfl) ?_
  refine fb_get X I (k := 0) (v := .ref (zr 0)) fu_X12 0 fb_h12 rfl (Nat.le_of_ble_eq_true rfl) fw_1964 rfl rfl dX12_start_119 ?_
  refine lv_iload hx hb dX12_start_122 (lv_at hl 0 rfl) ?_
  refine lv_iconst (v := (0 : Int32)) hx hb dX12_start_124 (by decide) ?_
  refine fb_isC (n := 20) (wn := ([fb_o12 za zr ze, fb_aw cI (zr 0) 16205 (upd (upd (upd (upd (upd (upd (upd (upd (upd (upd (upd (upd (upd (upd (upd (upd (upd zm 0 (0 : Int32)) 1 (0 : Int32)) 5 (0 : Int32)) 6 (0 : Int32)) 7 (0 : Int32)) 8 (0 : Int32)) 9 (0 : Int32)) 10 (0 : Int32)) 11 (0 : Int32)) 12 (0 : Int32)) 13 (0 : Int32)) 14 (0 : Int32)) 16 (0 : Int32)) 17 (0 : Int32)) 18 (0 : Int32)) 19 (0 : Int32)) 20 (0 : Int32)), fb_aw cI x1 17 (upd (upd (upd (upd (upd (upd (upd (upd (upd (upd (upd (upd (upd (upd (upd (upd (upd (fun _ => 0) 0 (0 : Int32)) 1 (1 : Int32)) 2 (5 : Int32)) 3 (6 : Int32)) 4 (7 : Int32)) 5 (8 : Int32)) 6 (9 : Int32)) 7 (10 : Int32)) 8 (11 : Int32)) 9 (12 : Int32)) 10 (13 : Int32)) 11 (14 : Int32)) 12 (16 : Int32)) 13 (17 : Int32)) 14 (18 : Int32)) 15 (19 : Int32)) 16 (20 : Int32))] : List va_W).flatten) X I 1 0 rfl rfl (by decide) (by decide) (Nat.le_of_ble_eq_true rfl) rfl dX12_start_125 (fun H locs I => ?_)
  refine lv_iinc (v := (17 : Int32)) (lv' := [(4, .int (17 : Int32)), (5, .int (20 : Int32)), (3, .int (17 : Int32)), (2, .ref x1), (1, .ref x1), (0, .ref za)]) hx hb dX12_start_126 hl (k := 1) rfl (by decide) (by decide) rfl (fun ls hl => ?_)
  refine lv_goto (tgt := 106) hx hb dX12_start_129 (by decide) ?_
  refine lv_iload hx hb dX12_start_106 (lv_at hl 0 rfl) ?_
  refine lv_iload_n hx hb dX12_start_108 rfl (lv_at hl 2 rfl) ?_
  refine lv_icmp_ge (tgt := 132) hx hb dX12_start_109 (by decide) (fun _ => ?_) (fun c19 => absurd (by decide) c19)
  have hz9 : fr_zz (upd (upd (upd (upd (upd (upd (upd (upd (upd (upd (upd (upd (upd (upd (upd (upd (upd zm 0 (0 : Int32)) 1 (0 : Int32)) 5 (0 : Int32)) 6 (0 : Int32)) 7 (0 : Int32)) 8 (0 : Int32)) 9 (0 : Int32)) 10 (0 : Int32)) 11 (0 : Int32)) 12 (0 : Int32)) 13 (0 : Int32)) 14 (0 : Int32)) 16 (0 : Int32)) 17 (0 : Int32)) 18 (0 : Int32)) 19 (0 : Int32)) 20 (0 : Int32)) := (fr_zz_up 20 (fr_zz_up 19 (fr_zz_up 18 (fr_zz_up 17 (fr_zz_up 16 (fr_zz_up 14 (fr_zz_up 13 (fr_zz_up 12 (fr_zz_up 11 (fr_zz_up 10 (fr_zz_up 9 (fr_zz_up 8 (fr_zz_up 7 (fr_zz_up 6 (fr_zz_up 5 (fr_zz_up 1 (fr_zz_up 0 hz)))))))))))))))))
  obtain ⟨w20, ew20⟩ : ∃ z : fb_AR, (upd (upd (upd (upd (upd (upd (upd (upd (upd (upd (upd (upd (upd (upd (upd (upd (upd zm 0 (0 : Int32)) 1 (0 : Int32)) 5 (0 : Int32)) 6 (0 : Int32)) 7 (0 : Int32)) 8 (0 : Int32)) 9 (0 : Int32)) 10 (0 : Int32)) 11 (0 : Int32)) 12 (0 : Int32)) 13 (0 : Int32)) 14 (0 : Int32)) 16 (0 : Int32)) 17 (0 : Int32)) 18 (0 : Int32)) 19 (0 : Int32)) 20 (0 : Int32)) = z := ⟨_, rfl⟩
  rw [ew20] at I hz9
  have I : fb_In D A s.heap (([fb_o12 za zr ze, fb_aw cI (zr 0) 16205 w20] : List va_W).flatten) H _ := fb_dropB (bs := [fb_o12 za zr ze, fb_aw cI (zr 0) 16205 w20, fb_aw cI x1 17 (upd (upd (upd (upd (upd (upd (upd (upd (upd (upd (upd (upd (upd (upd (upd (upd (upd (fun _ => 0) 0 (0 : Int32)) 1 (1 : Int32)) 2 (5 : Int32)) 3 (6 : Int32)) 4 (7 : Int32)) 5 (8 : Int32)) 6 (9 : Int32)) 7 (10 : Int32)) 8 (11 : Int32)) 9 (12 : Int32)) 10 (13 : Int32)) 11 (14 : Int32)) 12 (16 : Int32)) 13 (17 : Int32)) 14 (18 : Int32)) 15 (19 : Int32)) 16 (20 : Int32))]) (bs' := [fb_o12 za zr ze, fb_aw cI (zr 0) 16205 w20]) (gs := [fb_aw cI x1 17 (upd (upd (upd (upd (upd (upd (upd (upd (upd (upd (upd (upd (upd (upd (upd (upd (upd (fun _ => 0) 0 (0 : Int32)) 1 (1 : Int32)) 2 (5 : Int32)) 3 (6 : Int32)) 4 (7 : Int32)) 5 (8 : Int32)) 6 (9 : Int32)) 7 (10 : Int32)) 8 (11 : Int32)) 9 (12 : Int32)) 10 (13 : Int32)) 11 (14 : Int32)) 12 (16 : Int32)) 13 (17 : Int32)) 14 (18 : Int32)) 15 (19 : Int32)) 16 (20 : Int32))]) I 3 rfl [0, 1, 2] (by decide +kernel) rfl
  refine lv_iconst (v := (0 : Int32)) hx hb dX12_start_132 (by decide) ?_
  refine lv_istore_n (lv' := [(2, .int (0 : Int32)), (4, .int (17 : Int32)), (5, .int (20 : Int32)), (3, .int (17 : Int32)), (1, .ref x1), (0, .ref za)]) hx hb dX12_start_133 rfl hl (by decide) rfl (fun ls hl => ?_)
  exact b_start_134 (za := za) (zr := zr) (ze := ze) (zm := zm)  X hz  (4096) 0 (by omega) w20 hz9 _ _ _ I (lv_sub hl [0, 5] rfl)

