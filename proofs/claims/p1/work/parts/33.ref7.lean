/-! the reference along a fresh object's road, laid by ref.py -/
def fr_zz (f : fb_AR) : Prop := ∀ j, ¬ j = 2 → ¬ j = 3 → ¬ j = 4 → ¬ j = 15 → f j = 0
theorem fr_zz_up {f : fb_AR} (n : Nat) (H : fr_zz f) : fr_zz (upd f n (0 : Int32)) := fun j a b c d => by
  by_cases h : j = n
  · subst h; exact pk_us
  · rw [pk_un h]; exact H j a b c d
theorem fr_zz0 : fr_zz (fr_m (fun _ => 0) 0) := fun j a b c d => by
  unfold fr_m
  rw [if_neg a, if_neg b, if_neg c]
  by_cases h7 : j = 7
  · rw [if_pos h7]; rfl
  rw [if_neg h7]
  by_cases h8 : j = 8
  · rw [if_pos h8]; rfl
  rw [if_neg h8, if_neg d]
  by_cases hj : 12109 ≤ j
  · rw [if_pos hj]
  · rw [if_neg hj]
theorem fr_zz_hm {f : fb_AR} (H : fr_zz f) : ∀ j, 1101 ≤ j → j < 12109 → f j = 0 := fun j a b => H j (by omega) (by omega) (by omega) (by omega)
theorem fr_fresh {f : fb_AR} (H : fr_zz f) : ∀ j, upd (upd (upd (upd f 2 (255 : Int32)) 3 (4 : Int32)) 15 (1 : Int32)) 4 (0 : Int32) j = fr_m (fun _ => 0) 0 j := by
  intro j
  by_cases h4 : j = 4
  · subst h4; rfl
  by_cases h15 : j = 15
  · subst h15; rfl
  by_cases h3 : j = 3
  · subst h3; rfl
  by_cases h2 : j = 2
  · subst h2; rfl
  rw [pk_un h4, pk_un h15, pk_un h3, pk_un h2, H j h2 h3 h4 h15]
  exact (fr_zz0 j h2 h3 h4 h15).symm
theorem fr_and {n : Nat} (h : n < 4096) : nI n &&& (4095 : Int32) = nI n := by
  rw [pk_andN (n := n) (by omega) (m := 4095) 12 (by decide)]
  congr 1; omega
theorem fr_r00 (j : Nat) : upd (fun _ => 0) 0 (1 : Int32) j = if j ≤ 0 then 1 else 0 := by
  by_cases h : j = 0
  · subst h; rfl
  · rw [pk_un h, if_neg (by omega)]
theorem fr_r0 (f : fb_AR) (j : Nat) (h : f j = if j ≤ 0 then 1 else 0) : upd f 0 (1 : Int32) j = if j ≤ 0 then 1 else 0 := by
  by_cases q : j = 0
  · subst q; rfl
  · rw [pk_un q]; exact h
theorem fr_rb {f : fb_AR} {z : Nat} (H : ∀ j, j < 4096 → f j = if j ≤ z then 1 else 0) : ∀ j, j < 4096 → upd f (z + 1) (1 : Int32) j = if j ≤ z + 1 then 1 else 0 := fun j hj => by
  by_cases q : j = z + 1
  · subst q; rw [pk_us, if_pos (Nat.le_refl _)]
  · rw [pk_un q, H j hj]
    by_cases r : j ≤ z
    · rw [if_pos r, if_pos (by omega)]
    · rw [if_neg r, if_neg (by omega)]
theorem fr_rc {f : fb_AR} {z : Nat} (H : ∀ j, j ≤ z → f j = nI j) : ∀ j, j ≤ z + 1 → upd f (z + 1) (nI (z + 1)) j = nI j := fun j hj => by
  by_cases q : j = z + 1
  · subst q; exact pk_us
  · rw [pk_un q]; exact H j (by omega)
theorem fr_u0 (n j : Nat) : upd (fun _ => 0) n (0 : Int32) j = (fun _ => (0 : Int32)) j := by
  by_cases q : j = n
  · subst q; exact pk_us
  · exact pk_un q
theorem fr_cpy0 (j : Nat) : va_cpy (fun _ => (0 : Int32)) (fr_m (fun _ => 0) 0) 0 1101 11008 j = fr_m (fun _ => 0) 0 j := by
  by_cases h : 1101 ≤ j ∧ j < 1101 + 11008
  · rw [pk_cpy_in h.1 h.2]; exact (fr_hm _ _ j h.1 (by omega)).symm
  · rw [pk_cpy_out (by omega)]
def fr_dg (d : Int64) : Nat → Int64
  | 0 => d
  | n + 1 => f_X12_add_ (fr_dg d n) ((0 : Int32).toInt64)

set_option maxHeartbeats 4000000 in
set_option maxRecDepth 100000 in
theorem b_start_134 {p : Program} {l : Launch} {e : Env} {s : State} {m : MethodId} {args : Array Value} {below : List Frame} {meth : Method} {c : Code} {D : va_G} {cI cJ : ClassId} {A : Nat → Prop} {za : Nat} {zr : Nat → Nat} {ze : fb_AR} {zm : fb_AR}  (X : fb_Bx p s m args meth c cX12_start RX12 6 none D (fb_ty D cI cJ) A) (hz : fr_zz zm)  : ∀ (n zi : Nat) (hn : zi + n = 4096) (zw : fb_AR) (iz : fr_zz zw) (H : Heap) (locs : List Loc) (ls : Array Slot) (I : fb_In D A s.heap (([fb_o12 za zr ze, fb_aw cI (zr 0) 16205 zw] : List va_W).flatten) H locs) (hl : lv_has ls 6 [(2, .int (nI zi)), (0, .ref za)]), W p l e ({ frames := 5, cells := 1, slots := 17, locals := 122 } : Room) s m args below meth c H locs (0 + 1) (0 + 17) (MQ below (fb_QV D A (fun (_ : Unit) => True) (fun (t : Unit) => ([fb_o12 za zr (upd (upd ze 10 (0 : Int32)) 2 (0 : Int32)), fb_aw cI (zr 0) 16205 (fr_m (fun _ => 0) 0)] : List va_W).flatten)) args s 1 17 A) (F0 m 134 ls []) := by
  intro n
  obtain ⟨hx, hb, hr, hml, hown, hts, hlk, hA, hK, hF⟩ := id X
  induction n with
  | zero =>
    intro zi hn zw iz H locs ls I hl
    have ziE : 4096 = zi := by omega
    subst ziE
    refine lv_iload_n hx hb dX12_start_134 rfl (lv_at hl 0 rfl) ?_
    refine lv_sipush (v := (4096 : Int32)) hx hb dX12_start_135 (by decide) ?_
    refine lv_icmp_ge (tgt := 158) hx hb dX12_start_138 (by decide) (fun _ => ?_) (fun c21 => absurd (nI_le (a := 4096) (b := 4096) (by omega) (by omega)) c21)
    refine lv_aload_n hx hb dX12_start_158 rfl (lv_at hl 1 rfl) ?_
    refine fb_get X I (k := 0) (v := .ref (zr 0)) fu_X12 0 fb_h12 rfl (Nat.le_of_ble_eq_true rfl) fw_1964 rfl rfl dX12_start_159 ?_
    refine lv_iconst (v := (2 : Int32)) hx hb dX12_start_162 (by decide) ?_
    refine lv_sipush (v := (255 : Int32)) hx hb dX12_start_163 (by decide) ?_
    refine fb_isC (n := 2) (wn := ([fb_o12 za zr ze, fb_aw cI (zr 0) 16205 (upd zw 2 (255 : Int32))] : List va_W).flatten) X I 1 0 rfl rfl (by decide) (by decide) (Nat.le_of_ble_eq_true rfl) rfl dX12_start_166 (fun H locs I => ?_)
    refine lv_aload_n hx hb dX12_start_167 rfl (lv_at hl 1 rfl) ?_
    refine fb_get X I (k := 0) (v := .ref (zr 0)) fu_X12 0 fb_h12 rfl (Nat.le_of_ble_eq_true rfl) fw_1964 rfl rfl dX12_start_168 ?_
    refine lv_iconst (v := (3 : Int32)) hx hb dX12_start_171 (by decide) ?_
    refine lv_iconst (v := (4 : Int32)) hx hb dX12_start_172 (by decide) ?_
    refine fb_isC (n := 3) (wn := ([fb_o12 za zr ze, fb_aw cI (zr 0) 16205 (upd (upd zw 2 (255 : Int32)) 3 (4 : Int32))] : List va_W).flatten) X I 1 0 rfl rfl (by decide) (by decide) (Nat.le_of_ble_eq_true rfl) rfl dX12_start_173 (fun H locs I => ?_)
    refine lv_aload_n hx hb dX12_start_174 rfl (lv_at hl 1 rfl) ?_
    refine fb_get X I (k := 0) (v := .ref (zr 0)) fu_X12 0 fb_h12 rfl (Nat.le_of_ble_eq_true rfl) fw_1964 rfl rfl dX12_start_175 ?_
    refine lv_bipush (v := (15 : Int32)) hx hb dX12_start_178 (by decide) ?_
    refine lv_iconst (v := (1 : Int32)) hx hb dX12_start_180 (by decide) ?_
    refine fb_isC (n := 15) (wn := ([fb_o12 za zr ze, fb_aw cI (zr 0) 16205 (upd (upd (upd zw 2 (255 : Int32)) 3 (4 : Int32)) 15 (1 : Int32))] : List va_W).flatten) X I 1 0 rfl rfl (by decide) (by decide) (Nat.le_of_ble_eq_true rfl) rfl dX12_start_181 (fun H locs I => ?_)
    refine lv_aload_n hx hb dX12_start_182 rfl (lv_at hl 1 rfl) ?_
    refine fb_get X I (k := 0) (v := .ref (zr 0)) fu_X12 0 fb_h12 rfl (Nat.le_of_ble_eq_true rfl) fw_1964 rfl rfl dX12_start_183 ?_
    refine lv_iconst (v := (4 : Int32)) hx hb dX12_start_186 (by decide) ?_
    refine lv_aload_n hx hb dX12_start_187 rfl (lv_at hl 1 rfl) ?_
    refine lv_iconst (v := (0 : Int32)) hx hb dX12_start_188 (by decide) ?_
    refine fb_gO (cs := [fb_o12 za zr ze, fb_aw cI (zr 0) 16205 (upd (upd (upd zw 2 (255 : Int32)) 3 (4 : Int32)) 15 (1 : Int32))]) (rs := []) X I [0, 1] 2 rfl (by decide +kernel) rfl rfl (fun I => fb_rV (As := [.int (0 : Int32)]) (rest := [.int (4 : Int32), .ref (zr 0)]) X hl (fb_goodV fw_1945 fw_1947 fw_85 fw_204 fw_1948) (c_vector l D cI cJ za zr ze (upd (upd (upd zw 2 (255 : Int32)) 3 (4 : Int32)) 15 (1 : Int32)) (0 : Int32) _ (hm_up (by omega) (hm_up (by omega) (hm_up (by omega) (fr_zz_hm iz)))) ((pk_un (by decide)).trans ((pk_un (by decide)).trans ((pk_un (by decide)).trans (iz 9 (by decide) (by decide) (by decide) (by decide)))))) rfl rfl rfl (by decide +kernel : fb_hd yX12_vector 1) ⟨Nat.le_of_ble_eq_true rfl, Nat.le_of_ble_eq_true rfl⟩ rfl rfl rfl rfl rfl (Nat.le_of_ble_eq_true rfl) ⟨Nat.le_of_ble_eq_true rfl, Nat.le_of_ble_eq_true rfl⟩ dX12_start_189 I) ?_
    refine fb_isC (n := 4) (wn := ([fb_o12 za zr ze, fb_aw cI (zr 0) 16205 (upd (upd (upd (upd zw 2 (255 : Int32)) 3 (4 : Int32)) 15 (1 : Int32)) 4 (0 : Int32))] : List va_W).flatten) X I 1 0 rfl rfl (by decide) (by decide) (Nat.le_of_ble_eq_true rfl) rfl dX12_start_192 (fun H locs I => ?_)
    refine lv_aload_n hx hb dX12_start_193 rfl (lv_at hl 1 rfl) ?_
    refine lv_iconst (v := (0 : Int32)) hx hb dX12_start_194 (by decide) ?_
    refine fb_put X I (k := 10) (wn := ([fb_o12 za zr (upd ze 10 (0 : Int32)), fb_aw cI (zr 0) 16205 (upd (upd (upd (upd zw 2 (255 : Int32)) 3 (4 : Int32)) 15 (1 : Int32)) 4 (0 : Int32))] : List va_W).flatten) fu_X12 tyX12 tyX12_ok nmX12 0 fb_h12 rfl (Nat.le_of_ble_eq_true rfl) fw_1974 rfl rfl rfl rfl rfl (Nat.le_of_ble_eq_true rfl) fb_r12_10 dX12_start_195 (fun H locs I => ?_)
    refine lv_aload_n hx hb dX12_start_198 rfl (lv_at hl 1 rfl) ?_
    refine fb_gV (cs := [fb_o12 za zr (upd ze 10 (0 : Int32))]) (rs := [fb_aw cI (zr 0) 16205 (upd (upd (upd (upd zw 2 (255 : Int32)) 3 (4 : Int32)) 15 (1 : Int32)) 4 (0 : Int32))]) (fun (t : Unit) => [fb_o12 za zr (upd (upd ze 10 (0 : Int32)) 2 (0 : Int32)), fb_aw cI (zr 0) 16205 (upd (upd (upd (upd zw 2 (255 : Int32)) 3 (4 : Int32)) 15 (1 : Int32)) 4 (0 : Int32))]) (fun (t : Unit) => [fb_o12 za zr (upd (upd ze 10 (0 : Int32)) 2 (0 : Int32))]) X I [0, 1] 2 rfl (by decide +kernel) rfl rfl [0, 1] 2 (fun _ => rfl) (by decide +kernel) (fun _ => rfl) (fun _ => rfl) (fun I => fb_rV (As := []) (rest := []) X hl (fb_goodV fw_1960 fw_1962 fw_88 fw_204 fw_1963) (c_forget l D cI cJ za zr (upd ze 10 (0 : Int32)) _ ) rfl rfl rfl (by decide +kernel : fb_hd yX12_forget 0) ⟨Nat.le_of_ble_eq_true rfl, Nat.le_of_ble_eq_true rfl⟩ rfl rfl rfl rfl rfl (Nat.le_of_ble_eq_true rfl) ⟨Nat.le_of_ble_eq_true rfl, Nat.le_of_ble_eq_true rfl⟩ dX12_start_199 I) ?_
    intro w22 H locs _ I
    have I : fb_In D A s.heap (([fb_o12 za zr (upd (upd ze 10 (0 : Int32)) 2 (0 : Int32)), fb_aw cI (zr 0) 16205 (upd (upd (upd (upd zw 2 (255 : Int32)) 3 (4 : Int32)) 15 (1 : Int32)) 4 (0 : Int32))] : List va_W).flatten) H locs := I
    have I : fb_In D A s.heap (([fb_o12 za zr (upd (upd ze 10 (0 : Int32)) 2 (0 : Int32)), fb_aw cI (zr 0) 16205 (fr_m (fun _ => 0) 0)] : List va_W).flatten) H locs := fb_In.row I 1 rfl (fun j _ => fr_fresh iz j) rfl
    refine W.widen (k := 1) (n := 17) (by omega) (by omega) ?_
    exact fb_retV (u := ()) X I trivial dX12_start_202
  | succ n ih =>
    intro zi hn zw iz H locs ls I hl
    have ziL : zi < 4096 := by omega
    refine lv_iload_n hx hb dX12_start_134 rfl (lv_at hl 0 rfl) ?_
    refine lv_sipush (v := (4096 : Int32)) hx hb dX12_start_135 (by decide) ?_
    refine lv_icmp_ge (tgt := 158) hx hb dX12_start_138 (by decide) (fun c23 => absurd c23 (nI_ge (a := zi) (b := 4096) (by omega) (by omega))) (fun _ => ?_)
    refine lv_aload_n hx hb dX12_start_141 rfl (lv_at hl 1 rfl) ?_
    refine fb_get X I (k := 0) (v := .ref (zr 0)) fu_X12 0 fb_h12 rfl (Nat.le_of_ble_eq_true rfl) fw_1964 rfl rfl dX12_start_142 ?_
    refine lv_sipush (v := (12109 : Int32)) hx hb dX12_start_145 (by decide) ?_
    refine lv_iload_n hx hb dX12_start_148 rfl (lv_at hl 0 rfl) ?_
    refine lv_iadd hx hb dX12_start_149 ?_
    refine fb_tI (v := (nI (12109 + zi))) (nI_add 12109 zi) ?_
    refine lv_iconst (v := (0 : Int32)) hx hb dX12_start_150 (by decide) ?_
    refine fb_isC (n := (12109 + zi)) (wn := ([fb_o12 za zr ze, fb_aw cI (zr 0) 16205 (upd zw (12109 + zi) (0 : Int32))] : List va_W).flatten) X I 1 0 rfl rfl (nI_clamp (by omega)) (nI_pos (by omega)) (by omega) rfl dX12_start_151 (fun H locs I => ?_)
    refine lv_iinc (v := (nI (zi + 1))) (lv' := [(2, .int (nI (zi + 1))), (0, .ref za)]) hx hb dX12_start_152 hl (k := 0) rfl (nI_add _ 1) (by decide) rfl (fun ls hl => ?_)
    refine lv_goto (tgt := 134) hx hb dX12_start_155 (by decide) ?_
    exact ih (zi + 1) (by omega) (upd zw (12109 + zi) (0 : Int32)) (fr_zz_up _ iz) _ _ _ I (lv_sub hl [0, 1] rfl)
set_option maxHeartbeats 4000000 in
set_option maxRecDepth 100000 in
theorem c_start (l : Launch) (D : va_G) (cI cJ : ClassId) (za : Nat) (zr : Nat → Nat) (ze : fb_AR) (zm : fb_AR) (sz : Nat) (hz : fr_zz zm) : Met l yX12_start (Cond.code yX12_start cX12_start 6 none :: fb_all) ({ frames := 5, cells := 1, slots := 17, locals := 122 } : Room) (fb_PP D (fb_ty D cI cJ) [.ref za] (([fb_o12 za zr ze, fb_aw cI (zr 0) 16205 zm] : List va_W).flatten) sz) (fb_QV D (va_A (([fb_o12 za zr ze, fb_aw cI (zr 0) 16205 zm] : List va_W).flatten) sz) (fun (_ : Unit) => True) (fun (t : Unit) => ([fb_o12 za zr (upd (upd ze 10 (0 : Int32)) 2 (0 : Int32)), fb_aw cI (zr 0) 16205 (fr_m (fun _ => 0) 0)] : List va_W).flatten)) 1 17 (va_A (([fb_o12 za zr ze, fb_aw cI (zr 0) 16205 zm] : List va_W).flatten) sz) := by
  refine fb_ent (Qf := fun A => (fb_QV D A (fun (_ : Unit) => True) (fun (t : Unit) => ([fb_o12 za zr (upd (upd ze 10 (0 : Int32)) 2 (0 : Int32)), fb_aw cI (zr 0) 16205 (fr_m (fun _ => 0) 0)] : List va_W).flatten))) (by decide +kernel) (Nat.le_of_ble_eq_true rfl) ?_
  intro p e s m args below meth c A ls X I hl hin
  obtain ⟨hx, hb, hr, hml, hown, hts, hlk, hA, hK, hF⟩ := id X
  have hl : lv_has ls 6 [(0, .ref za)] := hl
  refine lv_bipush (v := (17 : Int32)) hx hb dX12_start_0 (by decide) ?_
  refine fb_nI (N := 17) X I fw_261 (by decide) (Nat.le_of_ble_eq_true rfl) (Nat.le_of_ble_eq_true rfl) (Nat.le_of_ble_eq_true rfl) dX12_start_2 (fun x1 H I => ?_)
  have I : fb_In D A s.heap (([fb_o12 za zr ze, fb_aw cI (zr 0) 16205 zm, fb_aw cI x1 17 (fun _ => 0)] : List va_W).flatten) H _ := I
  refine lv_dup hx hb dX12_start_4 rfl ?_
  refine lv_iconst (v := (0 : Int32)) hx hb dX12_start_5 (by decide) ?_
  refine lv_iconst (v := (0 : Int32)) hx hb dX12_start_6 (by decide) ?_
  refine fb_isC (n := 0) (wn := ([fb_o12 za zr ze, fb_aw cI (zr 0) 16205 zm, fb_aw cI x1 17 (upd (fun _ => 0) 0 (0 : Int32))] : List va_W).flatten) X I 2 0 rfl rfl (by decide) (by decide) (Nat.le_of_ble_eq_true rfl) rfl dX12_start_7 (fun H locs I => ?_)
  refine lv_dup hx hb dX12_start_8 rfl ?_
  refine lv_iconst (v := (1 : Int32)) hx hb dX12_start_9 (by decide) ?_
  refine lv_iconst (v := (1 : Int32)) hx hb dX12_start_10 (by decide) ?_
  refine fb_isC (n := 1) (wn := ([fb_o12 za zr ze, fb_aw cI (zr 0) 16205 zm, fb_aw cI x1 17 (upd (upd (fun _ => 0) 0 (0 : Int32)) 1 (1 : Int32))] : List va_W).flatten) X I 2 0 rfl rfl (by decide) (by decide) (Nat.le_of_ble_eq_true rfl) rfl dX12_start_11 (fun H locs I => ?_)
  refine lv_dup hx hb dX12_start_12 rfl ?_
  refine lv_iconst (v := (2 : Int32)) hx hb dX12_start_13 (by decide) ?_
  refine lv_iconst (v := (5 : Int32)) hx hb dX12_start_14 (by decide) ?_
  refine fb_isC (n := 2) (wn := ([fb_o12 za zr ze, fb_aw cI (zr 0) 16205 zm, fb_aw cI x1 17 (upd (upd (upd (fun _ => 0) 0 (0 : Int32)) 1 (1 : Int32)) 2 (5 : Int32))] : List va_W).flatten) X I 2 0 rfl rfl (by decide) (by decide) (Nat.le_of_ble_eq_true rfl) rfl dX12_start_15 (fun H locs I => ?_)
  refine lv_dup hx hb dX12_start_16 rfl ?_
  refine lv_iconst (v := (3 : Int32)) hx hb dX12_start_17 (by decide) ?_
  refine lv_bipush (v := (6 : Int32)) hx hb dX12_start_18 (by decide) ?_
  refine fb_isC (n := 3) (wn := ([fb_o12 za zr ze, fb_aw cI (zr 0) 16205 zm, fb_aw cI x1 17 (upd (upd (upd (upd (fun _ => 0) 0 (0 : Int32)) 1 (1 : Int32)) 2 (5 : Int32)) 3 (6 : Int32))] : List va_W).flatten) X I 2 0 rfl rfl (by decide) (by decide) (Nat.le_of_ble_eq_true rfl) rfl dX12_start_20 (fun H locs I => ?_)
  refine lv_dup hx hb dX12_start_21 rfl ?_
  refine lv_iconst (v := (4 : Int32)) hx hb dX12_start_22 (by decide) ?_
  refine lv_bipush (v := (7 : Int32)) hx hb dX12_start_23 (by decide) ?_
  refine fb_isC (n := 4) (wn := ([fb_o12 za zr ze, fb_aw cI (zr 0) 16205 zm, fb_aw cI x1 17 (upd (upd (upd (upd (upd (fun _ => 0) 0 (0 : Int32)) 1 (1 : Int32)) 2 (5 : Int32)) 3 (6 : Int32)) 4 (7 : Int32))] : List va_W).flatten) X I 2 0 rfl rfl (by decide) (by decide) (Nat.le_of_ble_eq_true rfl) rfl dX12_start_25 (fun H locs I => ?_)
  refine lv_dup hx hb dX12_start_26 rfl ?_
  refine lv_iconst (v := (5 : Int32)) hx hb dX12_start_27 (by decide) ?_
  refine lv_bipush (v := (8 : Int32)) hx hb dX12_start_28 (by decide) ?_
  refine fb_isC (n := 5) (wn := ([fb_o12 za zr ze, fb_aw cI (zr 0) 16205 zm, fb_aw cI x1 17 (upd (upd (upd (upd (upd (upd (fun _ => 0) 0 (0 : Int32)) 1 (1 : Int32)) 2 (5 : Int32)) 3 (6 : Int32)) 4 (7 : Int32)) 5 (8 : Int32))] : List va_W).flatten) X I 2 0 rfl rfl (by decide) (by decide) (Nat.le_of_ble_eq_true rfl) rfl dX12_start_30 (fun H locs I => ?_)
  refine lv_dup hx hb dX12_start_31 rfl ?_
  refine lv_bipush (v := (6 : Int32)) hx hb dX12_start_32 (by decide) ?_
  refine lv_bipush (v := (9 : Int32)) hx hb dX12_start_34 (by decide) ?_
  refine fb_isC (n := 6) (wn := ([fb_o12 za zr ze, fb_aw cI (zr 0) 16205 zm, fb_aw cI x1 17 (upd (upd (upd (upd (upd (upd (upd (fun _ => 0) 0 (0 : Int32)) 1 (1 : Int32)) 2 (5 : Int32)) 3 (6 : Int32)) 4 (7 : Int32)) 5 (8 : Int32)) 6 (9 : Int32))] : List va_W).flatten) X I 2 0 rfl rfl (by decide) (by decide) (Nat.le_of_ble_eq_true rfl) rfl dX12_start_36 (fun H locs I => ?_)
  refine lv_dup hx hb dX12_start_37 rfl ?_
  refine lv_bipush (v := (7 : Int32)) hx hb dX12_start_38 (by decide) ?_
  refine lv_bipush (v := (10 : Int32)) hx hb dX12_start_40 (by decide) ?_
  refine fb_isC (n := 7) (wn := ([fb_o12 za zr ze, fb_aw cI (zr 0) 16205 zm, fb_aw cI x1 17 (upd (upd (upd (upd (upd (upd (upd (upd (fun _ => 0) 0 (0 : Int32)) 1 (1 : Int32)) 2 (5 : Int32)) 3 (6 : Int32)) 4 (7 : Int32)) 5 (8 : Int32)) 6 (9 : Int32)) 7 (10 : Int32))] : List va_W).flatten) X I 2 0 rfl rfl (by decide) (by decide) (Nat.le_of_ble_eq_true rfl) rfl dX12_start_42 (fun H locs I => ?_)
  refine lv_dup hx hb dX12_start_43 rfl ?_
  refine lv_bipush (v := (8 : Int32)) hx hb dX12_start_44 (by decide) ?_
  refine lv_bipush (v := (11 : Int32)) hx hb dX12_start_46 (by decide) ?_
  refine fb_isC (n := 8) (wn := ([fb_o12 za zr ze, fb_aw cI (zr 0) 16205 zm, fb_aw cI x1 17 (upd (upd (upd (upd (upd (upd (upd (upd (upd (fun _ => 0) 0 (0 : Int32)) 1 (1 : Int32)) 2 (5 : Int32)) 3 (6 : Int32)) 4 (7 : Int32)) 5 (8 : Int32)) 6 (9 : Int32)) 7 (10 : Int32)) 8 (11 : Int32))] : List va_W).flatten) X I 2 0 rfl rfl (by decide) (by decide) (Nat.le_of_ble_eq_true rfl) rfl dX12_start_48 (fun H locs I => ?_)
  refine lv_dup hx hb dX12_start_49 rfl ?_
  refine lv_bipush (v := (9 : Int32)) hx hb dX12_start_50 (by decide) ?_
  refine lv_bipush (v := (12 : Int32)) hx hb dX12_start_52 (by decide) ?_
  refine fb_isC (n := 9) (wn := ([fb_o12 za zr ze, fb_aw cI (zr 0) 16205 zm, fb_aw cI x1 17 (upd (upd (upd (upd (upd (upd (upd (upd (upd (upd (fun _ => 0) 0 (0 : Int32)) 1 (1 : Int32)) 2 (5 : Int32)) 3 (6 : Int32)) 4 (7 : Int32)) 5 (8 : Int32)) 6 (9 : Int32)) 7 (10 : Int32)) 8 (11 : Int32)) 9 (12 : Int32))] : List va_W).flatten) X I 2 0 rfl rfl (by decide) (by decide) (Nat.le_of_ble_eq_true rfl) rfl dX12_start_54 (fun H locs I => ?_)
  refine lv_dup hx hb dX12_start_55 rfl ?_
  refine lv_bipush (v := (10 : Int32)) hx hb dX12_start_56 (by decide) ?_
  refine lv_bipush (v := (13 : Int32)) hx hb dX12_start_58 (by decide) ?_
  refine fb_isC (n := 10) (wn := ([fb_o12 za zr ze, fb_aw cI (zr 0) 16205 zm, fb_aw cI x1 17 (upd (upd (upd (upd (upd (upd (upd (upd (upd (upd (upd (fun _ => 0) 0 (0 : Int32)) 1 (1 : Int32)) 2 (5 : Int32)) 3 (6 : Int32)) 4 (7 : Int32)) 5 (8 : Int32)) 6 (9 : Int32)) 7 (10 : Int32)) 8 (11 : Int32)) 9 (12 : Int32)) 10 (13 : Int32))] : List va_W).flatten) X I 2 0 rfl rfl (by decide) (by decide) (Nat.le_of_ble_eq_true rfl) rfl dX12_start_60 (fun H locs I => ?_)
  refine lv_dup hx hb dX12_start_61 rfl ?_
  refine lv_bipush (v := (11 : Int32)) hx hb dX12_start_62 (by decide) ?_
  refine lv_bipush (v := (14 : Int32)) hx hb dX12_start_64 (by decide) ?_
  refine fb_isC (n := 11) (wn := ([fb_o12 za zr ze, fb_aw cI (zr 0) 16205 zm, fb_aw cI x1 17 (upd (upd (upd (upd (upd (upd (upd (upd (upd (upd (upd (upd (fun _ => 0) 0 (0 : Int32)) 1 (1 : Int32)) 2 (5 : Int32)) 3 (6 : Int32)) 4 (7 : Int32)) 5 (8 : Int32)) 6 (9 : Int32)) 7 (10 : Int32)) 8 (11 : Int32)) 9 (12 : Int32)) 10 (13 : Int32)) 11 (14 : Int32))] : List va_W).flatten) X I 2 0 rfl rfl (by decide) (by decide) (Nat.le_of_ble_eq_true rfl) rfl dX12_start_66 (fun H locs I => ?_)
  refine lv_dup hx hb dX12_start_67 rfl ?_
  refine lv_bipush (v := (12 : Int32)) hx hb dX12_start_68 (by decide) ?_
  refine lv_bipush (v := (16 : Int32)) hx hb dX12_start_70 (by decide) ?_
  refine fb_isC (n := 12) (wn := ([fb_o12 za zr ze, fb_aw cI (zr 0) 16205 zm, fb_aw cI x1 17 (upd (upd (upd (upd (upd (upd (upd (upd (upd (upd (upd (upd (upd (fun _ => 0) 0 (0 : Int32)) 1 (1 : Int32)) 2 (5 : Int32)) 3 (6 : Int32)) 4 (7 : Int32)) 5 (8 : Int32)) 6 (9 : Int32)) 7 (10 : Int32)) 8 (11 : Int32)) 9 (12 : Int32)) 10 (13 : Int32)) 11 (14 : Int32)) 12 (16 : Int32))] : List va_W).flatten) X I 2 0 rfl rfl (by decide) (by decide) (Nat.le_of_ble_eq_true rfl) rfl dX12_start_72 (fun H locs I => ?_)
  refine lv_dup hx hb dX12_start_73 rfl ?_
  refine lv_bipush (v := (13 : Int32)) hx hb dX12_start_74 (by decide) ?_
  refine lv_bipush (v := (17 : Int32)) hx hb dX12_start_76 (by decide) ?_
  refine fb_isC (n := 13) (wn := ([fb_o12 za zr ze, fb_aw cI (zr 0) 16205 zm, fb_aw cI x1 17 (upd (upd (upd (upd (upd (upd (upd (upd (upd (upd (upd (upd (upd (upd (fun _ => 0) 0 (0 : Int32)) 1 (1 : Int32)) 2 (5 : Int32)) 3 (6 : Int32)) 4 (7 : Int32)) 5 (8 : Int32)) 6 (9 : Int32)) 7 (10 : Int32)) 8 (11 : Int32)) 9 (12 : Int32)) 10 (13 : Int32)) 11 (14 : Int32)) 12 (16 : Int32)) 13 (17 : Int32))] : List va_W).flatten) X I 2 0 rfl rfl (by decide) (by decide) (Nat.le_of_ble_eq_true rfl) rfl dX12_start_78 (fun H locs I => ?_)
  refine lv_dup hx hb dX12_start_79 rfl ?_
  refine lv_bipush (v := (14 : Int32)) hx hb dX12_start_80 (by decide) ?_
  refine lv_bipush (v := (18 : Int32)) hx hb dX12_start_82 (by decide) ?_
  refine fb_isC (n := 14) (wn := ([fb_o12 za zr ze, fb_aw cI (zr 0) 16205 zm, fb_aw cI x1 17 (upd (upd (upd (upd (upd (upd (upd (upd (upd (upd (upd (upd (upd (upd (upd (fun _ => 0) 0 (0 : Int32)) 1 (1 : Int32)) 2 (5 : Int32)) 3 (6 : Int32)) 4 (7 : Int32)) 5 (8 : Int32)) 6 (9 : Int32)) 7 (10 : Int32)) 8 (11 : Int32)) 9 (12 : Int32)) 10 (13 : Int32)) 11 (14 : Int32)) 12 (16 : Int32)) 13 (17 : Int32)) 14 (18 : Int32))] : List va_W).flatten) X I 2 0 rfl rfl (by decide) (by decide) (Nat.le_of_ble_eq_true rfl) rfl dX12_start_84 (fun H locs I => ?_)
  refine lv_dup hx hb dX12_start_85 rfl ?_
  refine lv_bipush (v := (15 : Int32)) hx hb dX12_start_86 (by decide) ?_
  refine lv_bipush (v := (19 : Int32)) hx hb dX12_start_88 (by decide) ?_
  refine fb_isC (n := 15) (wn := ([fb_o12 za zr ze, fb_aw cI (zr 0) 16205 zm, fb_aw cI x1 17 (upd (upd (upd (upd (upd (upd (upd (upd (upd (upd (upd (upd (upd (upd (upd (upd (fun _ => 0) 0 (0 : Int32)) 1 (1 : Int32)) 2 (5 : Int32)) 3 (6 : Int32)) 4 (7 : Int32)) 5 (8 : Int32)) 6 (9 : Int32)) 7 (10 : Int32)) 8 (11 : Int32)) 9 (12 : Int32)) 10 (13 : Int32)) 11 (14 : Int32)) 12 (16 : Int32)) 13 (17 : Int32)) 14 (18 : Int32)) 15 (19 : Int32))] : List va_W).flatten) X I 2 0 rfl rfl (by decide) (by decide) (Nat.le_of_ble_eq_true rfl) rfl dX12_start_90 (fun H locs I => ?_)
  refine lv_dup hx hb dX12_start_91 rfl ?_
  refine lv_bipush (v := (16 : Int32)) hx hb dX12_start_92 (by decide) ?_
  refine lv_bipush (v := (20 : Int32)) hx hb dX12_start_94 (by decide) ?_
  refine fb_isC (n := 16) (wn := ([fb_o12 za zr ze, fb_aw cI (zr 0) 16205 zm, fb_aw cI x1 17 (upd (upd (upd (upd (upd (upd (upd (upd (upd (upd (upd (upd (upd (upd (upd (upd (upd (fun _ => 0) 0 (0 : Int32)) 1 (1 : Int32)) 2 (5 : Int32)) 3 (6 : Int32)) 4 (7 : Int32)) 5 (8 : Int32)) 6 (9 : Int32)) 7 (10 : Int32)) 8 (11 : Int32)) 9 (12 : Int32)) 10 (13 : Int32)) 11 (14 : Int32)) 12 (16 : Int32)) 13 (17 : Int32)) 14 (18 : Int32)) 15 (19 : Int32)) 16 (20 : Int32))] : List va_W).flatten) X I 2 0 rfl rfl (by decide) (by decide) (Nat.le_of_ble_eq_true rfl) rfl dX12_start_96 (fun H locs I => ?_)
  refine lv_astore_n (lv' := [(1, .ref x1), (0, .ref za)]) hx hb dX12_start_97 rfl hl (by decide) rfl (fun ls hl => ?_)
  refine lv_aload_n hx hb dX12_start_98 rfl (lv_at hl 0 rfl) ?_
  refine lv_astore_n (lv' := [(2, .ref x1), (1, .ref x1), (0, .ref za)]) hx hb dX12_start_99 rfl hl (by decide) rfl (fun ls hl => ?_)
  refine lv_aload_n hx hb dX12_start_100 rfl (lv_at hl 0 rfl) ?_
  refine fb_alen (v := (17 : Int32)) X I 2 0 rfl rfl rfl dX12_start_101 ?_
  refine lv_istore_n (lv' := [(3, .int (17 : Int32)), (2, .ref x1), (1, .ref x1), (0, .ref za)]) hx hb dX12_start_102 rfl hl (by decide) rfl (fun ls hl => ?_)
  refine lv_iconst (v := (0 : Int32)) hx hb dX12_start_103 (by decide) ?_
  refine lv_istore (lv' := [(4, .int (0 : Int32)), (3, .int (17 : Int32)), (2, .ref x1), (1, .ref x1), (0, .ref za)]) hx hb dX12_start_104 hl (by decide) rfl (fun ls hl => ?_)
  refine lv_iload hx hb dX12_start_106 (lv_at hl 0 rfl) ?_
  refine lv_iload_n hx hb dX12_start_108 rfl (lv_at hl 1 rfl) ?_
  refine lv_icmp_ge (tgt := 132) hx hb dX12_start_109 (by decide) (fun c2 => absurd c2 (by decide)) (fun _ => ?_)
  refine lv_aload_n hx hb dX12_start_112 rfl (lv_at hl 2 rfl) ?_
  refine lv_iload hx hb dX12_start_113 (lv_at hl 0 rfl) ?_
  refine fb_iaC (n := 0) (v := (0 : Int32)) X I 2 0 rfl rfl (by decide) (by decide) (Nat.le_of_ble_eq_true rfl) ((pk_un (by decide)).trans ((pk_un (by decide)).trans ((pk_un (by decide)).trans ((pk_un (by decide)).trans ((pk_un (by decide)).trans ((pk_un (by decide)).trans ((pk_un (by decide)).trans ((pk_un (by decide)).trans ((pk_un (by decide)).trans ((pk_un (by decide)).trans ((pk_un (by decide)).trans ((pk_un (by decide)).trans ((pk_un (by decide)).trans ((pk_un (by decide)).trans ((pk_un (by decide)).trans ((pk_un (by decide)).trans pk_us)))))))))))))))) dX12_start_115 ?_
  refine lv_istore (lv' := [(5, .int (0 : Int32)), (4, .int (0 : Int32)), (3, .int (17 : Int32)), (2, .ref x1), (1, .ref x1), (0, .ref za)]) hx hb dX12_start_116 hl (by decide) rfl (fun ls hl => ?_)
  refine lv_aload_n hx hb dX12_start_118 rfl (lv_at hl 5 rfl) ?_
  refine fb_get X I (k := 0) (v := .ref (zr 0)) fu_X12 0 fb_h12 rfl (Nat.le_of_ble_eq_true rfl) fw_1964 rfl rfl dX12_start_119 ?_
  refine lv_iload hx hb dX12_start_122 (lv_at hl 0 rfl) ?_
  refine lv_iconst (v := (0 : Int32)) hx hb dX12_start_124 (by decide) ?_
  refine fb_isC (n := 0) (wn := ([fb_o12 za zr ze, fb_aw cI (zr 0) 16205 (upd zm 0 (0 : Int32)), fb_aw cI x1 17 (upd (upd (upd (upd (upd (upd (upd (upd (upd (upd (upd (upd (upd (upd (upd (upd (upd (fun _ => 0) 0 (0 : Int32)) 1 (1 : Int32)) 2 (5 : Int32)) 3 (6 : Int32)) 4 (7 : Int32)) 5 (8 : Int32)) 6 (9 : Int32)) 7 (10 : Int32)) 8 (11 : Int32)) 9 (12 : Int32)) 10 (13 : Int32)) 11 (14 : Int32)) 12 (16 : Int32)) 13 (17 : Int32)) 14 (18 : Int32)) 15 (19 : Int32)) 16 (20 : Int32))] : List va_W).flatten) X I 1 0 rfl rfl (by decide) (by decide) (Nat.le_of_ble_eq_true rfl) rfl dX12_start_125 (fun H locs I => ?_)
  refine lv_iinc (v := (1 : Int32)) (lv' := [(4, .int (1 : Int32)), (5, .int (0 : Int32)), (3, .int (17 : Int32)), (2, .ref x1), (1, .ref x1), (0, .ref za)]) hx hb dX12_start_126 hl (k := 1) rfl (by decide) (by decide) rfl (fun ls hl => ?_)
  refine lv_goto (tgt := 106) hx hb dX12_start_129 (by decide) ?_
  refine lv_iload hx hb dX12_start_106 (lv_at hl 0 rfl) ?_
  refine lv_iload_n hx hb dX12_start_108 rfl (lv_at hl 2 rfl) ?_
  refine lv_icmp_ge (tgt := 132) hx hb dX12_start_109 (by decide) (fun c3 => absurd c3 (by decide)) (fun _ => ?_)
  refine lv_aload_n hx hb dX12_start_112 rfl (lv_at hl 3 rfl) ?_
  refine lv_iload hx hb dX12_start_113 (lv_at hl 0 rfl) ?_
  refine fb_iaC (n := 1) (v := (1 : Int32)) X I 2 0 rfl rfl (by decide) (by decide) (Nat.le_of_ble_eq_true rfl) ((pk_un (by decide)).trans ((pk_un (by decide)).trans ((pk_un (by decide)).trans ((pk_un (by decide)).trans ((pk_un (by decide)).trans ((pk_un (by decide)).trans ((pk_un (by decide)).trans ((pk_un (by decide)).trans ((pk_un (by decide)).trans ((pk_un (by decide)).trans ((pk_un (by decide)).trans ((pk_un (by decide)).trans ((pk_un (by decide)).trans ((pk_un (by decide)).trans ((pk_un (by decide)).trans pk_us))))))))))))))) dX12_start_115 ?_
  refine lv_istore (lv' := [(5, .int (1 : Int32)), (4, .int (1 : Int32)), (3, .int (17 : Int32)), (2, .ref x1), (1, .ref x1), (0, .ref za)]) hx hb dX12_start_116 hl (by decide) rfl (fun ls hl => ?_)
  refine lv_aload_n hx hb dX12_start_118 rfl (lv_at hl 5 rfl) ?_
  refine fb_get X I (k := 0) (v := .ref (zr 0)) fu_X12 0 fb_h12 rfl (Nat.le_of_ble_eq_true rfl) fw_1964 rfl rfl dX12_start_119 ?_
  refine lv_iload hx hb dX12_start_122 (lv_at hl 0 rfl) ?_
  refine lv_iconst (v := (0 : Int32)) hx hb dX12_start_124 (by decide) ?_
  refine fb_isC (n := 1) (wn := ([fb_o12 za zr ze, fb_aw cI (zr 0) 16205 (upd (upd zm 0 (0 : Int32)) 1 (0 : Int32)), fb_aw cI x1 17 (upd (upd (upd (upd (upd (upd (upd (upd (upd (upd (upd (upd (upd (upd (upd (upd (upd (fun _ => 0) 0 (0 : Int32)) 1 (1 : Int32)) 2 (5 : Int32)) 3 (6 : Int32)) 4 (7 : Int32)) 5 (8 : Int32)) 6 (9 : Int32)) 7 (10 : Int32)) 8 (11 : Int32)) 9 (12 : Int32)) 10 (13 : Int32)) 11 (14 : Int32)) 12 (16 : Int32)) 13 (17 : Int32)) 14 (18 : Int32)) 15 (19 : Int32)) 16 (20 : Int32))] : List va_W).flatten) X I 1 0 rfl rfl (by decide) (by decide) (Nat.le_of_ble_eq_true rfl) rfl dX12_start_125 (fun H locs I => ?_)
  refine lv_iinc (v := (2 : Int32)) (lv' := [(4, .int (2 : Int32)), (5, .int (1 : Int32)), (3, .int (17 : Int32)), (2, .ref x1), (1, .ref x1), (0, .ref za)]) hx hb dX12_start_126 hl (k := 1) rfl (by decide) (by decide) rfl (fun ls hl => ?_)
  refine lv_goto (tgt := 106) hx hb dX12_start_129 (by decide) ?_
  refine lv_iload hx hb dX12_start_106 (lv_at hl 0 rfl) ?_
  refine lv_iload_n hx hb dX12_start_108 rfl (lv_at hl 2 rfl) ?_
  refine lv_icmp_ge (tgt := 132) hx hb dX12_start_109 (by decide) (fun c4 => absurd c4 (by decide)) (fun _ => ?_)
  refine lv_aload_n hx hb dX12_start_112 rfl (lv_at hl 3 rfl) ?_
  refine lv_iload hx hb dX12_start_113 (lv_at hl 0 rfl) ?_
  refine fb_iaC (n := 2) (v := (5 : Int32)) X I 2 0 rfl rfl (by decide) (by decide) (Nat.le_of_ble_eq_true rfl) ((pk_un (by decide)).trans ((pk_un (by decide)).trans ((pk_un (by decide)).trans ((pk_un (by decide)).trans ((pk_un (by decide)).trans ((pk_un (by decide)).trans ((pk_un (by decide)).trans ((pk_un (by decide)).trans ((pk_un (by decide)).trans ((pk_un (by decide)).trans ((pk_un (by decide)).trans ((pk_un (by decide)).trans ((pk_un (by decide)).trans ((pk_un (by decide)).trans pk_us)))))))))))))) dX12_start_115 ?_
  refine lv_istore (lv' := [(5, .int (5 : Int32)), (4, .int (2 : Int32)), (3, .int (17 : Int32)), (2, .ref x1), (1, .ref x1), (0, .ref za)]) hx hb dX12_start_116 hl (by decide) rfl (fun ls hl => ?_)
  refine lv_aload_n hx hb dX12_start_118 rfl (lv_at hl 5 rfl) ?_
  refine fb_get X I (k := 0) (v := .ref (zr 0)) fu_X12 0 fb_h12 rfl (Nat.le_of_ble_eq_true rfl) fw_1964 rfl rfl dX12_start_119 ?_
  refine lv_iload hx hb dX12_start_122 (lv_at hl 0 rfl) ?_
  refine lv_iconst (v := (0 : Int32)) hx hb dX12_start_124 (by decide) ?_
  refine fb_isC (n := 5) (wn := ([fb_o12 za zr ze, fb_aw cI (zr 0) 16205 (upd (upd (upd zm 0 (0 : Int32)) 1 (0 : Int32)) 5 (0 : Int32)), fb_aw cI x1 17 (upd (upd (upd (upd (upd (upd (upd (upd (upd (upd (upd (upd (upd (upd (upd (upd (upd (fun _ => 0) 0 (0 : Int32)) 1 (1 : Int32)) 2 (5 : Int32)) 3 (6 : Int32)) 4 (7 : Int32)) 5 (8 : Int32)) 6 (9 : Int32)) 7 (10 : Int32)) 8 (11 : Int32)) 9 (12 : Int32)) 10 (13 : Int32)) 11 (14 : Int32)) 12 (16 : Int32)) 13 (17 : Int32)) 14 (18 : Int32)) 15 (19 : Int32)) 16 (20 : Int32))] : List va_W).flatten) X I 1 0 rfl rfl (by decide) (by decide) (Nat.le_of_ble_eq_true rfl) rfl dX12_start_125 (fun H locs I => ?_)
  refine lv_iinc (v := (3 : Int32)) (lv' := [(4, .int (3 : Int32)), (5, .int (5 : Int32)), (3, .int (17 : Int32)), (2, .ref x1), (1, .ref x1), (0, .ref za)]) hx hb dX12_start_126 hl (k := 1) rfl (by decide) (by decide) rfl (fun ls hl => ?_)
  refine lv_goto (tgt := 106) hx hb dX12_start_129 (by decide) ?_
  refine lv_iload hx hb dX12_start_106 (lv_at hl 0 rfl) ?_
  refine lv_iload_n hx hb dX12_start_108 rfl (lv_at hl 2 rfl) ?_
  refine lv_icmp_ge (tgt := 132) hx hb dX12_start_109 (by decide) (fun c5 => absurd c5 (by decide)) (fun _ => ?_)
  refine lv_aload_n hx hb dX12_start_112 rfl (lv_at hl 3 rfl) ?_
  refine lv_iload hx hb dX12_start_113 (lv_at hl 0 rfl) ?_
  refine fb_iaC (n := 3) (v := (6 : Int32)) X I 2 0 rfl rfl (by decide) (by decide) (Nat.le_of_ble_eq_true rfl) ((pk_un (by decide)).trans ((pk_un (by decide)).trans ((pk_un (by decide)).trans ((pk_un (by decide)).trans ((pk_un (by decide)).trans ((pk_un (by decide)).trans ((pk_un (by decide)).trans ((pk_un (by decide)).trans ((pk_un (by decide)).trans ((pk_un (by decide)).trans ((pk_un (by decide)).trans ((pk_un (by decide)).trans ((pk_un (by decide)).trans pk_us))))))))))))) dX12_start_115 ?_
  refine lv_istore (lv' := [(5, .int (6 : Int32)), (4, .int (3 : Int32)), (3, .int (17 : Int32)), (2, .ref x1), (1, .ref x1), (0, .ref za)]) hx hb dX12_start_116 hl (by decide) rfl (fun ls hl => ?_)
  refine lv_aload_n hx hb dX12_start_118 rfl (lv_at hl 5 rfl) ?_
  refine fb_get X I (k := 0) (v := .ref (zr 0)) fu_X12 0 fb_h12 rfl (Nat.le_of_ble_eq_true rfl) fw_1964 rfl rfl dX12_start_119 ?_
  refine lv_iload hx hb dX12_start_122 (lv_at hl 0 rfl) ?_
  refine lv_iconst (v := (0 : Int32)) hx hb dX12_start_124 (by decide) ?_
  refine fb_isC (n := 6) (wn := ([fb_o12 za zr ze, fb_aw cI (zr 0) 16205 (upd (upd (upd (upd zm 0 (0 : Int32)) 1 (0 : Int32)) 5 (0 : Int32)) 6 (0 : Int32)), fb_aw cI x1 17 (upd (upd (upd (upd (upd (upd (upd (upd (upd (upd (upd (upd (upd (upd (upd (upd (upd (fun _ => 0) 0 (0 : Int32)) 1 (1 : Int32)) 2 (5 : Int32)) 3 (6 : Int32)) 4 (7 : Int32)) 5 (8 : Int32)) 6 (9 : Int32)) 7 (10 : Int32)) 8 (11 : Int32)) 9 (12 : Int32)) 10 (13 : Int32)) 11 (14 : Int32)) 12 (16 : Int32)) 13 (17 : Int32)) 14 (18 : Int32)) 15 (19 : Int32)) 16 (20 : Int32))] : List va_W).flatten) X I 1 0 rfl rfl (by decide) (by decide) (Nat.le_of_ble_eq_true rfl) rfl dX12_start_125 (fun H locs I => ?_)
  refine lv_iinc (v := (4 : Int32)) (lv' := [(4, .int (4 : Int32)), (5, .int (6 : Int32)), (3, .int (17 : Int32)), (2, .ref x1), (1, .ref x1), (0, .ref za)]) hx hb dX12_start_126 hl (k := 1) rfl (by decide) (by decide) rfl (fun ls hl => ?_)
  refine lv_goto (tgt := 106) hx hb dX12_start_129 (by decide) ?_
  refine lv_iload hx hb dX12_start_106 (lv_at hl 0 rfl) ?_
  refine lv_iload_n hx hb dX12_start_108 rfl (lv_at hl 2 rfl) ?_
  refine lv_icmp_ge (tgt := 132) hx hb dX12_start_109 (by decide) (fun c6 => absurd c6 (by decide)) (fun _ => ?_)
  refine lv_aload_n hx hb dX12_start_112 rfl (lv_at hl 3 rfl) ?_
  refine lv_iload hx hb dX12_start_113 (lv_at hl 0 rfl) ?_
  refine fb_iaC (n := 4) (v := (7 : Int32)) X I 2 0 rfl rfl (by decide) (by decide) (Nat.le_of_ble_eq_true rfl) ((pk_un (by decide)).trans ((pk_un (by decide)).trans ((pk_un (by decide)).trans ((pk_un (by decide)).trans ((pk_un (by decide)).trans ((pk_un (by decide)).trans ((pk_un (by decide)).trans ((pk_un (by decide)).trans ((pk_un (by decide)).trans ((pk_un (by decide)).trans ((pk_un (by decide)).trans ((pk_un (by decide)).trans pk_us)))))))))))) dX12_start_115 ?_
  refine lv_istore (lv' := [(5, .int (7 : Int32)), (4, .int (4 : Int32)), (3, .int (17 : Int32)), (2, .ref x1), (1, .ref x1), (0, .ref za)]) hx hb dX12_start_116 hl (by decide) rfl (fun ls hl => ?_)
  refine lv_aload_n hx hb dX12_start_118 rfl (lv_at hl 5 rfl) ?_
  refine fb_get X I (k := 0) (v := .ref (zr 0)) fu_X12 0 fb_h12 rfl (Nat.le_of_ble_eq_true rfl) fw_1964 rfl rfl dX12_start_119 ?_
  refine lv_iload hx hb dX12_start_122 (lv_at hl 0 rfl) ?_
  refine lv_iconst (v := (0 : Int32)) hx hb dX12_start_124 (by decide) ?_
  refine fb_isC (n := 7) (wn := ([fb_o12 za zr ze, fb_aw cI (zr 0) 16205 (upd (upd (upd (upd (upd zm 0 (0 : Int32)) 1 (0 : Int32)) 5 (0 : Int32)) 6 (0 : Int32)) 7 (0 : Int32)), fb_aw cI x1 17 (upd (upd (upd (upd (upd (upd (upd (upd (upd (upd (upd (upd (upd (upd (upd (upd (upd (fun _ => 0) 0 (0 : Int32)) 1 (1 : Int32)) 2 (5 : Int32)) 3 (6 : Int32)) 4 (7 : Int32)) 5 (8 : Int32)) 6 (9 : Int32)) 7 (10 : Int32)) 8 (11 : Int32)) 9 (12 : Int32)) 10 (13 : Int32)) 11 (14 : Int32)) 12 (16 : Int32)) 13 (17 : Int32)) 14 (18 : Int32)) 15 (19 : Int32)) 16 (20 : Int32))] : List va_W).flatten) X I 1 0 rfl rfl (by decide) (by decide) (Nat.le_of_ble_eq_true rfl) rfl dX12_start_125 (fun H locs I => ?_)
  refine lv_iinc (v := (5 : Int32)) (lv' := [(4, .int (5 : Int32)), (5, .int (7 : Int32)), (3, .int (17 : Int32)), (2, .ref x1), (1, .ref x1), (0, .ref za)]) hx hb dX12_start_126 hl (k := 1) rfl (by decide) (by decide) rfl (fun ls hl => ?_)
  refine lv_goto (tgt := 106) hx hb dX12_start_129 (by decide) ?_
  refine lv_iload hx hb dX12_start_106 (lv_at hl 0 rfl) ?_
  refine lv_iload_n hx hb dX12_start_108 rfl (lv_at hl 2 rfl) ?_
  refine lv_icmp_ge (tgt := 132) hx hb dX12_start_109 (by decide) (fun c7 => absurd c7 (by decide)) (fun _ => ?_)
  refine lv_aload_n hx hb dX12_start_112 rfl (lv_at hl 3 rfl) ?_
  refine lv_iload hx hb dX12_start_113 (lv_at hl 0 rfl) ?_
  refine fb_iaC (n := 5) (v := (8 : Int32)) X I 2 0 rfl rfl (by decide) (by decide) (Nat.le_of_ble_eq_true rfl) ((pk_un (by decide)).trans ((pk_un (by decide)).trans ((pk_un (by decide)).trans ((pk_un (by decide)).trans ((pk_un (by decide)).trans ((pk_un (by decide)).trans ((pk_un (by decide)).trans ((pk_un (by decide)).trans ((pk_un (by decide)).trans ((pk_un (by decide)).trans ((pk_un (by decide)).trans pk_us))))))))))) dX12_start_115 ?_
  refine lv_istore (lv' := [(5, .int (8 : Int32)), (4, .int (5 : Int32)), (3, .int (17 : Int32)), (2, .ref x1), (1, .ref x1), (0, .ref za)]) hx hb dX12_start_116 hl (by decide) rfl (fun ls hl => ?_)
  refine lv_aload_n hx hb dX12_start_118 rfl (lv_at hl 5 rfl) ?_
  refine fb_get X I (k := 0) (v := .ref (zr 0)) fu_X12 0 fb_h12 rfl (Nat.le_of_ble_eq_true rfl) fw_1964 rfl rfl dX12_start_119 ?_
  refine lv_iload hx hb dX12_start_122 (lv_at hl 0 rfl) ?_
  refine lv_iconst (v := (0 : Int32)) hx hb dX12_start_124 (by decide) ?_
  refine fb_isC (n := 8) (wn := ([fb_o12 za zr ze, fb_aw cI (zr 0) 16205 (upd (upd (upd (upd (upd (upd zm 0 (0 : Int32)) 1 (0 : Int32)) 5 (0 : Int32)) 6 (0 : Int32)) 7 (0 : Int32)) 8 (0 : Int32)), fb_aw cI x1 17 (upd (upd (upd (upd (upd (upd (upd (upd (upd (upd (upd (upd (upd (upd (upd (upd (upd (fun _ => 0) 0 (0 : Int32)) 1 (1 : Int32)) 2 (5 : Int32)) 3 (6 : Int32)) 4 (7 : Int32)) 5 (8 : Int32)) 6 (9 : Int32)) 7 (10 : Int32)) 8 (11 : Int32)) 9 (12 : Int32)) 10 (13 : Int32)) 11 (14 : Int32)) 12 (16 : Int32)) 13 (17 : Int32)) 14 (18 : Int32)) 15 (19 : Int32)) 16 (20 : Int32))] : List va_W).flatten) X I 1 0 rfl rfl (by decide) (by decide) (Nat.le_of_ble_eq_true rfl) rfl dX12_start_125 (fun H locs I => ?_)
  refine lv_iinc (v := (6 : Int32)) (lv' := [(4, .int (6 : Int32)), (5, .int (8 : Int32)), (3, .int (17 : Int32)), (2, .ref x1), (1, .ref x1), (0, .ref za)]) hx hb dX12_start_126 hl (k := 1) rfl (by decide) (by decide) rfl (fun ls hl => ?_)
  refine lv_goto (tgt := 106) hx hb dX12_start_129 (by decide) ?_
  refine lv_iload hx hb dX12_start_106 (lv_at hl 0 rfl) ?_
  refine lv_iload_n hx hb dX12_start_108 rfl (lv_at hl 2 rfl) ?_
  refine lv_icmp_ge (tgt := 132) hx hb dX12_start_109 (by decide) (fun c8 => absurd c8 (by decide)) (fun _ => ?_)
  refine lv_aload_n hx hb dX12_start_112 rfl (lv_at hl 3 rfl) ?_
  refine lv_iload hx hb dX12_start_113 (lv_at hl 0 rfl) ?_
  refine fb_iaC (n := 6) (v := (9 : Int32)) X I 2 0 rfl rfl (by decide) (by decide) (Nat.le_of_ble_eq_true rfl) ((pk_un (by decide)).trans ((pk_un (by decide)).trans ((pk_un (by decide)).trans ((pk_un (by decide)).trans ((pk_un (by decide)).trans ((pk_un (by decide)).trans ((pk_un (by decide)).trans ((pk_un (by decide)).trans ((pk_un (by decide)).trans ((pk_un (by decide)).trans pk_us)))))))))) dX12_start_115 ?_
  refine lv_istore (lv' := [(5, .int (9 : Int32)), (4, .int (6 : Int32)), (3, .int (17 : Int32)), (2, .ref x1), (1, .ref x1), (0, .ref za)]) hx hb dX12_start_116 hl (by decide) rfl (fun ls hl => ?_)
  refine lv_aload_n hx hb dX12_start_118 rfl (lv_at hl 5 rfl) ?_
  refine fb_get X I (k := 0) (v := .ref (zr 0)) fu_X12 0 fb_h12 rfl (Nat.le_of_ble_eq_true rfl) fw_1964 rfl rfl dX12_start_119 ?_
  refine lv_iload hx hb dX12_start_122 (lv_at hl 0 rfl) ?_
  refine lv_iconst (v := (0 : Int32)) hx hb dX12_start_124 (by decide) ?_
  refine fb_isC (n := 9) (wn := ([fb_o12 za zr ze, fb_aw cI (zr 0) 16205 (upd (upd (upd (upd (upd (upd (upd zm 0 (0 : Int32)) 1 (0 : Int32)) 5 (0 : Int32)) 6 (0 : Int32)) 7 (0 : Int32)) 8 (0 : Int32)) 9 (0 : Int32)), fb_aw cI x1 17 (upd (upd (upd (upd (upd (upd (upd (upd (upd (upd (upd (upd (upd (upd (upd (upd (upd (fun _ => 0) 0 (0 : Int32)) 1 (1 : Int32)) 2 (5 : Int32)) 3 (6 : Int32)) 4 (7 : Int32)) 5 (8 : Int32)) 6 (9 : Int32)) 7 (10 : Int32)) 8 (11 : Int32)) 9 (12 : Int32)) 10 (13 : Int32)) 11 (14 : Int32)) 12 (16 : Int32)) 13 (17 : Int32)) 14 (18 : Int32)) 15 (19 : Int32)) 16 (20 : Int32))] : List va_W).flatten) X I 1 0 rfl rfl (by decide) (by decide) (Nat.le_of_ble_eq_true rfl) rfl dX12_start_125 (fun H locs I => ?_)
  refine lv_iinc (v := (7 : Int32)) (lv' := [(4, .int (7 : Int32)), (5, .int (9 : Int32)), (3, .int (17 : Int32)), (2, .ref x1), (1, .ref x1), (0, .ref za)]) hx hb dX12_start_126 hl (k := 1) rfl (by decide) (by decide) rfl (fun ls hl => ?_)
  refine lv_goto (tgt := 106) hx hb dX12_start_129 (by decide) ?_
  refine lv_iload hx hb dX12_start_106 (lv_at hl 0 rfl) ?_
  refine lv_iload_n hx hb dX12_start_108 rfl (lv_at hl 2 rfl) ?_
  refine lv_icmp_ge (tgt := 132) hx hb dX12_start_109 (by decide) (fun c9 => absurd c9 (by decide)) (fun _ => ?_)
  refine lv_aload_n hx hb dX12_start_112 rfl (lv_at hl 3 rfl) ?_
  refine lv_iload hx hb dX12_start_113 (lv_at hl 0 rfl) ?_
  refine fb_iaC (n := 7) (v := (10 : Int32)) X I 2 0 rfl rfl (by decide) (by decide) (Nat.le_of_ble_eq_true rfl) ((pk_un (by decide)).trans ((pk_un (by decide)).trans ((pk_un (by decide)).trans ((pk_un (by decide)).trans ((pk_un (by decide)).trans ((pk_un (by decide)).trans ((pk_un (by decide)).trans ((pk_un (by decide)).trans ((pk_un (by decide)).trans pk_us))))))))) dX12_start_115 ?_
  refine lv_istore (lv' := [(5, .int (10 : Int32)), (4, .int (7 : Int32)), (3, .int (17 : Int32)), (2, .ref x1), (1, .ref x1), (0, .ref za)]) hx hb dX12_start_116 hl (by decide) rfl (fun ls hl => ?_)
  refine lv_aload_n hx hb dX12_start_118 rfl (lv_at hl 5 rfl) ?_
  refine fb_get X I (k := 0) (v := .ref (zr 0)) fu_X12 0 fb_h12 rfl (Nat.le_of_ble_eq_true rfl) fw_1964 rfl rfl dX12_start_119 ?_
  refine lv_iload hx hb dX12_start_122 (lv_at hl 0 rfl) ?_
  refine lv_iconst (v := (0 : Int32)) hx hb dX12_start_124 (by decide) ?_
  refine fb_isC (n := 10) (wn := ([fb_o12 za zr ze, fb_aw cI (zr 0) 16205 (upd (upd (upd (upd (upd (upd (upd (upd zm 0 (0 : Int32)) 1 (0 : Int32)) 5 (0 : Int32)) 6 (0 : Int32)) 7 (0 : Int32)) 8 (0 : Int32)) 9 (0 : Int32)) 10 (0 : Int32)), fb_aw cI x1 17 (upd (upd (upd (upd (upd (upd (upd (upd (upd (upd (upd (upd (upd (upd (upd (upd (upd (fun _ => 0) 0 (0 : Int32)) 1 (1 : Int32)) 2 (5 : Int32)) 3 (6 : Int32)) 4 (7 : Int32)) 5 (8 : Int32)) 6 (9 : Int32)) 7 (10 : Int32)) 8 (11 : Int32)) 9 (12 : Int32)) 10 (13 : Int32)) 11 (14 : Int32)) 12 (16 : Int32)) 13 (17 : Int32)) 14 (18 : Int32)) 15 (19 : Int32)) 16 (20 : Int32))] : List va_W).flatten) X I 1 0 rfl rfl (by decide) (by decide) (Nat.le_of_ble_eq_true rfl) rfl dX12_start_125 (fun H locs I => ?_)
  refine lv_iinc (v := (8 : Int32)) (lv' := [(4, .int (8 : Int32)), (5, .int (10 : Int32)), (3, .int (17 : Int32)), (2, .ref x1), (1, .ref x1), (0, .ref za)]) hx hb dX12_start_126 hl (k := 1) rfl (by decide) (by decide) rfl (fun ls hl => ?_)
  refine lv_goto (tgt := 106) hx hb dX12_start_129 (by decide) ?_
  refine lv_iload hx hb dX12_start_106 (lv_at hl 0 rfl) ?_
  refine lv_iload_n hx hb dX12_start_108 rfl (lv_at hl 2 rfl) ?_
  refine lv_icmp_ge (tgt := 132) hx hb dX12_start_109 (by decide) (fun c10 => absurd c10 (by decide)) (fun _ => ?_)
  refine lv_aload_n hx hb dX12_start_112 rfl (lv_at hl 3 rfl) ?_
  refine lv_iload hx hb dX12_start_113 (lv_at hl 0 rfl) ?_
  refine fb_iaC (n := 8) (v := (11 : Int32)) X I 2 0 rfl rfl (by decide) (by decide) (Nat.le_of_ble_eq_true rfl) ((pk_un (by decide)).trans ((pk_un (by decide)).trans ((pk_un (by decide)).trans ((pk_un (by decide)).trans ((pk_un (by decide)).trans ((pk_un (by decide)).trans ((pk_un (by decide)).trans ((pk_un (by decide)).trans pk_us)))))))) dX12_start_115 ?_
  refine lv_istore (lv' := [(5, .int (11 : Int32)), (4, .int (8 : Int32)), (3, .int (17 : Int32)), (2, .ref x1), (1, .ref x1), (0, .ref za)]) hx hb dX12_start_116 hl (by decide) rfl (fun ls hl => ?_)
  refine lv_aload_n hx hb dX12_start_118 rfl (lv_at hl 5 rfl) ?_
  refine fb_get X I (k := 0) (v := .ref (zr 0)) fu_X12 0 fb_h12 rfl (Nat.le_of_ble_eq_true rfl) fw_1964 rfl rfl dX12_start_119 ?_
  refine lv_iload hx hb dX12_start_122 (lv_at hl 0 rfl) ?_
  refine lv_iconst (v := (0 : Int32)) hx hb dX12_start_124 (by decide) ?_
  refine fb_isC (n := 11) (wn := ([fb_o12 za zr ze, fb_aw cI (zr 0) 16205 (upd (upd (upd (upd (upd (upd (upd (upd (upd zm 0 (0 : Int32)) 1 (0 : Int32)) 5 (0 : Int32)) 6 (0 : Int32)) 7 (0 : Int32)) 8 (0 : Int32)) 9 (0 : Int32)) 10 (0 : Int32)) 11 (0 : Int32)), fb_aw cI x1 17 (upd (upd (upd (upd (upd (upd (upd (upd (upd (upd (upd (upd (upd (upd (upd (upd (upd (fun _ => 0) 0 (0 : Int32)) 1 (1 : Int32)) 2 (5 : Int32)) 3 (6 : Int32)) 4 (7 : Int32)) 5 (8 : Int32)) 6 (9 : Int32)) 7 (10 : Int32)) 8 (11 : Int32)) 9 (12 : Int32)) 10 (13 : Int32)) 11 (14 : Int32)) 12 (16 : Int32)) 13 (17 : Int32)) 14 (18 : Int32)) 15 (19 : Int32)) 16 (20 : Int32))] : List va_W).flatten) X I 1 0 rfl rfl (by decide) (by decide) (Nat.le_of_ble_eq_true rfl) rfl dX12_start_125 (fun H locs I => ?_)
  refine lv_iinc (v := (9 : Int32)) (lv' := [(4, .int (9 : Int32)), (5, .int (11 : Int32)), (3, .int (17 : Int32)), (2, .ref x1), (1, .ref x1), (0, .ref za)]) hx hb dX12_start_126 hl (k := 1) rfl (by decide) (by decide) rfl (fun ls hl => ?_)
  refine lv_goto (tgt := 106) hx hb dX12_start_129 (by decide) ?_
  refine lv_iload hx hb dX12_start_106 (lv_at hl 0 rfl) ?_
  refine lv_iload_n hx hb dX12_start_108 rfl (lv_at hl 2 rfl) ?_
  refine lv_icmp_ge (tgt := 132) hx hb dX12_start_109 (by decide) (fun c11 => absurd c11 (by decide)) (fun _ => ?_)
  refine lv_aload_n hx hb dX12_start_112 rfl (lv_at hl 3 rfl) ?_
  refine lv_iload hx hb dX12_start_113 (lv_at hl 0 rfl) ?_
  refine fb_iaC (n := 9) (v := (12 : Int32)) X I 2 0 rfl rfl (by decide) (by decide) (Nat.le_of_ble_eq_true rfl) ((pk_un (by decide)).trans ((pk_un (by decide)).trans ((pk_un (by decide)).trans ((pk_un (by decide)).trans ((pk_un (by decide)).trans ((pk_un (by decide)).trans ((pk_un (by decide)).trans pk_us))))))) dX12_start_115 ?_
  refine lv_istore (lv' := [(5, .int (12 : Int32)), (4, .int (9 : Int32)), (3, .int (17 : Int32)), (2, .ref x1), (1, .ref x1), (0, .ref za)]) hx hb dX12_start_116 hl (by decide) rfl (fun ls hl => ?_)
  refine lv_aload_n hx hb dX12_start_118 rfl (lv_at hl 5 rfl) ?_
  refine fb_get X I (k := 0) (v := .ref (zr 0)) fu_X12 0 fb_h12 rfl (Nat.le_of_ble_eq_true rfl) fw_1964 rfl rfl dX12_start_119 ?_
  refine lv_iload hx hb dX12_start_122 (lv_at hl 0 rfl) ?_
  refine lv_iconst (v := (0 : Int32)) hx hb dX12_start_124 (by decide) ?_
  refine fb_isC (n := 12) (wn := ([fb_o12 za zr ze, fb_aw cI (zr 0) 16205 (upd (upd (upd (upd (upd (upd (upd (upd (upd (upd zm 0 (0 : Int32)) 1 (0 : Int32)) 5 (0 : Int32)) 6 (0 : Int32)) 7 (0 : Int32)) 8 (0 : Int32)) 9 (0 : Int32)) 10 (0 : Int32)) 11 (0 : Int32)) 12 (0 : Int32)), fb_aw cI x1 17 (upd (upd (upd (upd (upd (upd (upd (upd (upd (upd (upd (upd (upd (upd (upd (upd (upd (fun _ => 0) 0 (0 : Int32)) 1 (1 : Int32)) 2 (5 : Int32)) 3 (6 : Int32)) 4 (7 : Int32)) 5 (8 : Int32)) 6 (9 : Int32)) 7 (10 : Int32)) 8 (11 : Int32)) 9 (12 : Int32)) 10 (13 : Int32)) 11 (14 : Int32)) 12 (16 : Int32)) 13 (17 : Int32)) 14 (18 : Int32)) 15 (19 : Int32)) 16 (20 : Int32))] : List va_W).flatten) X I 1 0 rfl rfl (by decide) (by decide) (Nat.le_of_ble_eq_true rfl) rfl dX12_start_125 (fun H locs I => ?_)
  refine lv_iinc (v := (10 : Int32)) (lv' := [(4, .int (10 : Int32)), (5, .int (12 : Int32)), (3, .int (17 : Int32)), (2, .ref x1), (1, .ref x1), (0, .ref za)]) hx hb dX12_start_126 hl (k := 1) rfl (by decide) (by decide) rfl (fun ls hl => ?_)
  refine lv_goto (tgt := 106) hx hb dX12_start_129 (by decide) ?_
  refine lv_iload hx hb dX12_start_106 (lv_at hl 0 rfl) ?_
  refine lv_iload_n hx hb dX12_start_108 rfl (lv_at hl 2 rfl) ?_
  refine lv_icmp_ge (tgt := 132) hx hb dX12_start_109 (by decide) (fun c12 => absurd c12 (by decide)) (fun _ => ?_)
  refine lv_aload_n hx hb dX12_start_112 rfl (lv_at hl 3 rfl) ?_
  refine lv_iload hx hb dX12_start_113 (lv_at hl 0 rfl) ?_
  refine fb_iaC (n := 10) (v := (13 : Int32)) X I 2 0 rfl rfl (by decide) (by decide) (Nat.le_of_ble_eq_true rfl) ((pk_un (by decide)).trans ((pk_un (by decide)).trans ((pk_un (by decide)).trans ((pk_un (by decide)).trans ((pk_un (by decide)).trans ((pk_un (by decide)).trans pk_us)))))) dX12_start_115 ?_
  refine lv_istore (lv' := [(5, .int (13 : Int32)), (4, .int (10 : Int32)), (3, .int (17 : Int32)), (2, .ref x1), (1, .ref x1), (0, .ref za)]) hx hb dX12_start_116 hl (by decide) rfl (fun ls hl => ?_)
  refine lv_aload_n hx hb dX12_start_118 rfl (lv_at hl 5 rfl) ?_
  refine fb_get X I (k := 0) (v := .ref (zr 0)) fu_X12 0 fb_h12 rfl (Nat.le_of_ble_eq_true rfl) fw_1964 rfl rfl dX12_start_119 ?_
  refine lv_iload hx hb dX12_start_122 (lv_at hl 0 rfl) ?_
  refine lv_iconst (v := (0 : Int32)) hx hb dX12_start_124 (by decide) ?_
  refine fb_isC (n := 13) (wn := ([fb_o12 za zr ze, fb_aw cI (zr 0) 16205 (upd (upd (upd (upd (upd (upd (upd (upd (upd (upd (upd zm 0 (0 : Int32)) 1 (0 : Int32)) 5 (0 : Int32)) 6 (0 : Int32)) 7 (0 : Int32)) 8 (0 : Int32)) 9 (0 : Int32)) 10 (0 : Int32)) 11 (0 : Int32)) 12 (0 : Int32)) 13 (0 : Int32)), fb_aw cI x1 17 (upd (upd (upd (upd (upd (upd (upd (upd (upd (upd (upd (upd (upd (upd (upd (upd (upd (fun _ => 0) 0 (0 : Int32)) 1 (1 : Int32)) 2 (5 : Int32)) 3 (6 : Int32)) 4 (7 : Int32)) 5 (8 : Int32)) 6 (9 : Int32)) 7 (10 : Int32)) 8 (11 : Int32)) 9 (12 : Int32)) 10 (13 : Int32)) 11 (14 : Int32)) 12 (16 : Int32)) 13 (17 : Int32)) 14 (18 : Int32)) 15 (19 : Int32)) 16 (20 : Int32))] : List va_W).flatten) X I 1 0 rfl rfl (by decide) (by decide) (Nat.le_of_ble_eq_true rfl) rfl dX12_start_125 (fun H locs I => ?_)
  refine lv_iinc (v := (11 : Int32)) (lv' := [(4, .int (11 : Int32)), (5, .int (13 : Int32)), (3, .int (17 : Int32)), (2, .ref x1), (1, .ref x1), (0, .ref za)]) hx hb dX12_start_126 hl (k := 1) rfl (by decide) (by decide) rfl (fun ls hl => ?_)
  refine lv_goto (tgt := 106) hx hb dX12_start_129 (by decide) ?_
  refine lv_iload hx hb dX12_start_106 (lv_at hl 0 rfl) ?_
  refine lv_iload_n hx hb dX12_start_108 rfl (lv_at hl 2 rfl) ?_
  refine lv_icmp_ge (tgt := 132) hx hb dX12_start_109 (by decide) (fun c13 => absurd c13 (by decide)) (fun _ => ?_)
  refine lv_aload_n hx hb dX12_start_112 rfl (lv_at hl 3 rfl) ?_
  refine lv_iload hx hb dX12_start_113 (lv_at hl 0 rfl) ?_
  refine fb_iaC (n := 11) (v := (14 : Int32)) X I 2 0 rfl rfl (by decide) (by decide) (Nat.le_of_ble_eq_true rfl) ((pk_un (by decide)).trans ((pk_un (by decide)).trans ((pk_un (by decide)).trans ((pk_un (by decide)).trans ((pk_un (by decide)).trans pk_us))))) dX12_start_115 ?_
  refine lv_istore (lv' := [(5, .int (14 : Int32)), (4, .int (11 : Int32)), (3, .int (17 : Int32)), (2, .ref x1), (1, .ref x1), (0, .ref za)]) hx hb dX12_start_116 hl (by decide) rfl (fun ls hl => ?_)
  refine lv_aload_n hx hb dX12_start_118 rfl (lv_at hl 5 rfl) ?_
  refine fb_get X I (k := 0) (v := .ref (zr 0)) fu_X12 0 fb_h12 rfl (Nat.le_of_ble_eq_true rfl) fw_1964 rfl rfl dX12_start_119 ?_
  refine lv_iload hx hb dX12_start_122 (lv_at hl 0 rfl) ?_
  refine lv_iconst (v := (0 : Int32)) hx hb dX12_start_124 (by decide) ?_
  refine fb_isC (n := 14) (wn := ([fb_o12 za zr ze, fb_aw cI (zr 0) 16205 (upd (upd (upd (upd (upd (upd (upd (upd (upd (upd (upd (upd zm 0 (0 : Int32)) 1 (0 : Int32)) 5 (0 : Int32)) 6 (0 : Int32)) 7 (0 : Int32)) 8 (0 : Int32)) 9 (0 : Int32)) 10 (0 : Int32)) 11 (0 : Int32)) 12 (0 : Int32)) 13 (0 : Int32)) 14 (0 : Int32)), fb_aw cI x1 17 (upd (upd (upd (upd (upd (upd (upd (upd (upd (upd (upd (upd (upd (upd (upd (upd (upd (fun _ => 0) 0 (0 : Int32)) 1 (1 : Int32)) 2 (5 : Int32)) 3 (6 : Int32)) 4 (7 : Int32)) 5 (8 : Int32)) 6 (9 : Int32)) 7 (10 : Int32)) 8 (11 : Int32)) 9 (12 : Int32)) 10 (13 : Int32)) 11 (14 : Int32)) 12 (16 : Int32)) 13 (17 : Int32)) 14 (18 : Int32)) 15 (19 : Int32)) 16 (20 : Int32))] : List va_W).flatten) X I 1 0 rfl rfl (by decide) (by decide) (Nat.le_of_ble_eq_true rfl) rfl dX12_start_125 (fun H locs I => ?_)
  refine lv_iinc (v := (12 : Int32)) (lv' := [(4, .int (12 : Int32)), (5, .int (14 : Int32)), (3, .int (17 : Int32)), (2, .ref x1), (1, .ref x1), (0, .ref za)]) hx hb dX12_start_126 hl (k := 1) rfl (by decide) (by decide) rfl (fun ls hl => ?_)
  refine lv_goto (tgt := 106) hx hb dX12_start_129 (by decide) ?_
  refine lv_iload hx hb dX12_start_106 (lv_at hl 0 rfl) ?_
  refine lv_iload_n hx hb dX12_start_108 rfl (lv_at hl 2 rfl) ?_
  refine lv_icmp_ge (tgt := 132) hx hb dX12_start_109 (by decide) (fun c14 => absurd c14 (by decide)) (fun _ => ?_)
  refine lv_aload_n hx hb dX12_start_112 rfl (lv_at hl 3 rfl) ?_
  refine lv_iload hx hb dX12_start_113 (lv_at hl 0 rfl) ?_
  refine fb_iaC (n := 12) (v := (16 : Int32)) X I 2 0 rfl rfl (by decide) (by decide) (Nat.le_of_ble_eq_true rfl) ((pk_un (by decide)).trans ((pk_un (by decide)).trans ((pk_un (by decide)).trans ((pk_un (by decide)).trans pk_us)))) dX12_start_115 ?_
  refine lv_istore (lv' := [(5, .int (16 : Int32)), (4, .int (12 : Int32)), (3, .int (17 : Int32)), (2, .ref x1), (1, .ref x1), (0, .ref za)]) hx hb dX12_start_116 hl (by decide) rfl (fun ls hl => ?_)
  refine lv_aload_n hx hb dX12_start_118 rfl (lv_at hl 5 rfl) ?_
  refine fb_get X I (k := 0) (v := .ref (zr 0)) fu_X12 0 fb_h12 rfl (Nat.le_of_ble_eq_true rfl) fw_1964 rfl rfl dX12_start_119 ?_
  refine lv_iload hx hb dX12_start_122 (lv_at hl 0 rfl) ?_
  refine lv_iconst (v := (0 : Int32)) hx hb dX12_start_124 (by decide) ?_
  refine fb_isC (n := 16) (wn := ([fb_o12 za zr ze, fb_aw cI (zr 0) 16205 (upd (upd (upd (upd (upd (upd (upd (upd (upd (upd (upd (upd (upd zm 0 (0 : Int32)) 1 (0 : Int32)) 5 (0 : Int32)) 6 (0 : Int32)) 7 (0 : Int32)) 8 (0 : Int32)) 9 (0 : Int32)) 10 (0 : Int32)) 11 (0 : Int32)) 12 (0 : Int32)) 13 (0 : Int32)) 14 (0 : Int32)) 16 (0 : Int32)), fb_aw cI x1 17 (upd (upd (upd (upd (upd (upd (upd (upd (upd (upd (upd (upd (upd (upd (upd (upd (upd (fun _ => 0) 0 (0 : Int32)) 1 (1 : Int32)) 2 (5 : Int32)) 3 (6 : Int32)) 4 (7 : Int32)) 5 (8 : Int32)) 6 (9 : Int32)) 7 (10 : Int32)) 8 (11 : Int32)) 9 (12 : Int32)) 10 (13 : Int32)) 11 (14 : Int32)) 12 (16 : Int32)) 13 (17 : Int32)) 14 (18 : Int32)) 15 (19 : Int32)) 16 (20 : Int32))] : List va_W).flatten) X I 1 0 rfl rfl (by decide) (by decide) (Nat.le_of_ble_eq_true rfl) rfl dX12_start_125 (fun H locs I => ?_)
  refine lv_iinc (v := (13 : Int32)) (lv' := [(4, .int (13 : Int32)), (5, .int (16 : Int32)), (3, .int (17 : Int32)), (2, .ref x1), (1, .ref x1), (0, .ref za)]) hx hb dX12_start_126 hl (k := 1) rfl (by decide) (by decide) rfl (fun ls hl => ?_)
  refine lv_goto (tgt := 106) hx hb dX12_start_129 (by decide) ?_
  refine lv_iload hx hb dX12_start_106 (lv_at hl 0 rfl) ?_
  refine lv_iload_n hx hb dX12_start_108 rfl (lv_at hl 2 rfl) ?_
  refine lv_icmp_ge (tgt := 132) hx hb dX12_start_109 (by decide) (fun c15 => absurd c15 (by decide)) (fun _ => ?_)
  refine lv_aload_n hx hb dX12_start_112 rfl (lv_at hl 3 rfl) ?_
  refine lv_iload hx hb dX12_start_113 (lv_at hl 0 rfl) ?_
  refine fb_iaC (n := 13) (v := (17 : Int32)) X I 2 0 rfl rfl (by decide) (by decide) (Nat.le_of_ble_eq_true rfl) ((pk_un (by decide)).trans ((pk_un (by decide)).trans ((pk_un (by decide)).trans pk_us))) dX12_start_115 ?_
  refine lv_istore (lv' := [(5, .int (17 : Int32)), (4, .int (13 : Int32)), (3, .int (17 : Int32)), (2, .ref x1), (1, .ref x1), (0, .ref za)]) hx hb dX12_start_116 hl (by decide) rfl (fun ls hl => ?_)
  refine lv_aload_n hx hb dX12_start_118 rfl (lv_at hl 5 rfl) ?_
  refine fb_get X I (k := 0) (v := .ref (zr 0)) fu_X12 0 fb_h12 rfl (Nat.le_of_ble_eq_true rfl) fw_1964 rfl rfl dX12_start_119 ?_
  refine lv_iload hx hb dX12_start_122 (lv_at hl 0 rfl) ?_
  refine lv_iconst (v := (0 : Int32)) hx hb dX12_start_124 (by decide) ?_
  refine fb_isC (n := 17) (wn := ([fb_o12 za zr ze, fb_aw cI (zr 0) 16205 (upd (upd (upd (upd (upd (upd (upd (upd (upd (upd (upd (upd (upd (upd zm 0 (0 : Int32)) 1 (0 : Int32)) 5 (0 : Int32)) 6 (0 : Int32)) 7 (0 : Int32)) 8 (0 : Int32)) 9 (0 : Int32)) 10 (0 : Int32)) 11 (0 : Int32)) 12 (0 : Int32)) 13 (0 : Int32)) 14 (0 : Int32)) 16 (0 : Int32)) 17 (0 : Int32)), fb_aw cI x1 17 (upd (upd (upd (upd (upd (upd (upd (upd (upd (upd (upd (upd (upd (upd (upd (upd (upd (fun _ => 0) 0 (0 : Int32)) 1 (1 : Int32)) 2 (5 : Int32)) 3 (6 : Int32)) 4 (7 : Int32)) 5 (8 : Int32)) 6 (9 : Int32)) 7 (10 : Int32)) 8 (11 : Int32)) 9 (12 : Int32)) 10 (13 : Int32)) 11 (14 : Int32)) 12 (16 : Int32)) 13 (17 : Int32)) 14 (18 : Int32)) 15 (19 : Int32)) 16 (20 : Int32))] : List va_W).flatten) X I 1 0 rfl rfl (by decide) (by decide) (Nat.le_of_ble_eq_true rfl) rfl dX12_start_125 (fun H locs I => ?_)
  refine lv_iinc (v := (14 : Int32)) (lv' := [(4, .int (14 : Int32)), (5, .int (17 : Int32)), (3, .int (17 : Int32)), (2, .ref x1), (1, .ref x1), (0, .ref za)]) hx hb dX12_start_126 hl (k := 1) rfl (by decide) (by decide) rfl (fun ls hl => ?_)
  refine lv_goto (tgt := 106) hx hb dX12_start_129 (by decide) ?_
  refine lv_iload hx hb dX12_start_106 (lv_at hl 0 rfl) ?_
  refine lv_iload_n hx hb dX12_start_108 rfl (lv_at hl 2 rfl) ?_
  refine lv_icmp_ge (tgt := 132) hx hb dX12_start_109 (by decide) (fun c16 => absurd c16 (by decide)) (fun _ => ?_)
  refine lv_aload_n hx hb dX12_start_112 rfl (lv_at hl 3 rfl) ?_
  refine lv_iload hx hb dX12_start_113 (lv_at hl 0 rfl) ?_
  refine fb_iaC (n := 14) (v := (18 : Int32)) X I 2 0 rfl rfl (by decide) (by decide) (Nat.le_of_ble_eq_true rfl) ((pk_un (by decide)).trans ((pk_un (by decide)).trans pk_us)) dX12_start_115 ?_
  refine lv_istore (lv' := [(5, .int (18 : Int32)), (4, .int (14 : Int32)), (3, .int (17 : Int32)), (2, .ref x1), (1, .ref x1), (0, .ref za)]) hx hb dX12_start_116 hl (by decide) rfl (fun ls hl => ?_)
  refine lv_aload_n hx hb dX12_start_118 rfl (lv_at hl 5 rfl) ?_
  refine fb_get X I (k := 0) (v := .ref (zr 0)) fu_X12 0 fb_h12 rfl (Nat.le_of_ble_eq_true rfl) fw_1964 rfl rfl dX12_start_119 ?_
  refine lv_iload hx hb dX12_start_122 (lv_at hl 0 rfl) ?_
  refine lv_iconst (v := (0 : Int32)) hx hb dX12_start_124 (by decide) ?_
  refine fb_isC (n := 18) (wn := ([fb_o12 za zr ze, fb_aw cI (zr 0) 16205 (upd (upd (upd (upd (upd (upd (upd (upd (upd (upd (upd (upd (upd (upd (upd zm 0 (0 : Int32)) 1 (0 : Int32)) 5 (0 : Int32)) 6 (0 : Int32)) 7 (0 : Int32)) 8 (0 : Int32)) 9 (0 : Int32)) 10 (0 : Int32)) 11 (0 : Int32)) 12 (0 : Int32)) 13 (0 : Int32)) 14 (0 : Int32)) 16 (0 : Int32)) 17 (0 : Int32)) 18 (0 : Int32)), fb_aw cI x1 17 (upd (upd (upd (upd (upd (upd (upd (upd (upd (upd (upd (upd (upd (upd (upd (upd (upd (fun _ => 0) 0 (0 : Int32)) 1 (1 : Int32)) 2 (5 : Int32)) 3 (6 : Int32)) 4 (7 : Int32)) 5 (8 : Int32)) 6 (9 : Int32)) 7 (10 : Int32)) 8 (11 : Int32)) 9 (12 : Int32)) 10 (13 : Int32)) 11 (14 : Int32)) 12 (16 : Int32)) 13 (17 : Int32)) 14 (18 : Int32)) 15 (19 : Int32)) 16 (20 : Int32))] : List va_W).flatten) X I 1 0 rfl rfl (by decide) (by decide) (Nat.le_of_ble_eq_true rfl) rfl dX12_start_125 (fun H locs I => ?_)
  refine lv_iinc (v := (15 : Int32)) (lv' := [(4, .int (15 : Int32)), (5, .int (18 : Int32)), (3, .int (17 : Int32)), (2, .ref x1), (1, .ref x1), (0, .ref za)]) hx hb dX12_start_126 hl (k := 1) rfl (by decide) (by decide) rfl (fun ls hl => ?_)
  refine lv_goto (tgt := 106) hx hb dX12_start_129 (by decide) ?_
  refine lv_iload hx hb dX12_start_106 (lv_at hl 0 rfl) ?_
  refine lv_iload_n hx hb dX12_start_108 rfl (lv_at hl 2 rfl) ?_
  refine lv_icmp_ge (tgt := 132) hx hb dX12_start_109 (by decide) (fun c17 => absurd c17 (by decide)) (fun _ => ?_)
  refine lv_aload_n hx hb dX12_start_112 rfl (lv_at hl 3 rfl) ?_
  refine lv_iload hx hb dX12_start_113 (lv_at hl 0 rfl) ?_
  refine fb_iaC (n := 15) (v := (19 : Int32)) X I 2 0 rfl rfl (by decide) (by decide) (Nat.le_of_ble_eq_true rfl) ((pk_un (by decide)).trans pk_us) dX12_start_115 ?_
  refine lv_istore (lv' := [(5, .int (19 : Int32)), (4, .int (15 : Int32)), (3, .int (17 : Int32)), (2, .ref x1), (1, .ref x1), (0, .ref za)]) hx hb dX12_start_116 hl (by decide) rfl (fun ls hl => ?_)
  refine lv_aload_n hx hb dX12_start_118 rfl (lv_at hl 5 rfl) ?_
  refine fb_get X I (k := 0) (v := .ref (zr 0)) fu_X12 0 fb_h12 rfl (Nat.le_of_ble_eq_true rfl) fw_1964 rfl rfl dX12_start_119 ?_
  refine lv_iload hx hb dX12_start_122 (lv_at hl 0 rfl) ?_
  refine lv_iconst (v := (0 : Int32)) hx hb dX12_start_124 (by decide) ?_
  refine fb_isC (n := 19) (wn := ([fb_o12 za zr ze, fb_aw cI (zr 0) 16205 (upd (upd (upd (upd (upd (upd (upd (upd (upd (upd (upd (upd (upd (upd (upd (upd zm 0 (0 : Int32)) 1 (0 : Int32)) 5 (0 : Int32)) 6 (0 : Int32)) 7 (0 : Int32)) 8 (0 : Int32)) 9 (0 : Int32)) 10 (0 : Int32)) 11 (0 : Int32)) 12 (0 : Int32)) 13 (0 : Int32)) 14 (0 : Int32)) 16 (0 : Int32)) 17 (0 : Int32)) 18 (0 : Int32)) 19 (0 : Int32)), fb_aw cI x1 17 (upd (upd (upd (upd (upd (upd (upd (upd (upd (upd (upd (upd (upd (upd (upd (upd (upd (fun _ => 0) 0 (0 : Int32)) 1 (1 : Int32)) 2 (5 : Int32)) 3 (6 : Int32)) 4 (7 : Int32)) 5 (8 : Int32)) 6 (9 : Int32)) 7 (10 : Int32)) 8 (11 : Int32)) 9 (12 : Int32)) 10 (13 : Int32)) 11 (14 : Int32)) 12 (16 : Int32)) 13 (17 : Int32)) 14 (18 : Int32)) 15 (19 : Int32)) 16 (20 : Int32))] : List va_W).flatten) X I 1 0 rfl rfl (by decide) (by decide) (Nat.le_of_ble_eq_true rfl) rfl dX12_start_125 (fun H locs I => ?_)
  refine lv_iinc (v := (16 : Int32)) (lv' := [(4, .int (16 : Int32)), (5, .int (19 : Int32)), (3, .int (17 : Int32)), (2, .ref x1), (1, .ref x1), (0, .ref za)]) hx hb dX12_start_126 hl (k := 1) rfl (by decide) (by decide) rfl (fun ls hl => ?_)
  refine lv_goto (tgt := 106) hx hb dX12_start_129 (by decide) ?_
  refine lv_iload hx hb dX12_start_106 (lv_at hl 0 rfl) ?_
  refine lv_iload_n hx hb dX12_start_108 rfl (lv_at hl 2 rfl) ?_
  refine lv_icmp_ge (tgt := 132) hx hb dX12_start_109 (by decide) (fun c18 => absurd c18 (by decide)) (fun _ => ?_)
  refine lv_aload_n hx hb dX12_start_112 rfl (lv_at hl 3 rfl) ?_
  refine lv_iload hx hb dX12_start_113 (lv_at hl 0 rfl) ?_
  refine fb_iaC (n := 16) (v := (20 : Int32)) X I 2 0 rfl rfl (by decide) (by decide) (Nat.le_of_ble_eq_true rfl) pk_us dX12_start_115 ?_
  refine lv_istore (lv' := [(5, .int (20 : Int32)), (4, .int (16 : Int32)), (3, .int (17 : Int32)), (2, .ref x1), (1, .ref x1), (0, .ref za)]) hx hb dX12_start_116 hl (by decide) rfl (fun ls hl => ?_)
  refine lv_aload_n hx hb dX12_start_118 rfl (lv_at hl 5 rfl) ?_
  refine fb_get X I (k := 0) (v := .ref (zr 0)) fu_X12 0 fb_h12 rfl (Nat.le_of_ble_eq_true rfl) fw_1964 rfl rfl dX12_start_119 ?_
  refine lv_iload hx hb dX12_start_122 (lv_at hl 0 rfl) ?_
  refine lv_iconst (v := (0 : Int32)) hx hb dX12_start_124 (by decide) ?_
  refine fb_isC (n := 20) (wn := ([fb_o12 za zr ze, fb_aw cI (zr 0) 16205 (upd (upd (upd (upd (upd (upd (upd (upd (upd (upd (upd (upd (upd (upd (upd (upd (upd zm 0 (0 : Int32)) 1 (0 : Int32)) 5 (0 : Int32)) 6 (0 : Int32)) 7 (0 : Int32)) 8 (0 : Int32)) 9 (0 : Int32)) 10 (0 : Int32)) 11 (0 : Int32)) 12 (0 : Int32)) 13 (0 : Int32)) 14 (0 : Int32)) 16 (0 : Int32)) 17 (0 : Int32)) 18 (0 : Int32)) 19 (0 : Int32)) 20 (0 : Int32)), fb_aw cI x1 17 (upd (upd (upd (upd (upd (upd (upd (upd (upd (upd (upd (upd (upd (upd (upd (upd (upd (fun _ => 0) 0 (0 : Int32)) 1 (1 : Int32)) 2 (5 : Int32)) 3 (6 : Int32)) 4 (7 : Int32)) 5 (8 : Int32)) 6 (9 : Int32)) 7 (10 : Int32)) 8 (11 : Int32)) 9 (12 : Int32)) 10 (13 : Int32)) 11 (14 : Int32)) 12 (16 : Int32)) 13 (17 : Int32)) 14 (18 : Int32)) 15 (19 : Int32)) 16 (20 : Int32))] : List va_W).flatten) X I 1 0 rfl rfl (by decide) (by decide) (Nat.le_of_ble_eq_true rfl) rfl dX12_start_125 (fun H locs I => ?_)
  refine lv_iinc (v := (17 : Int32)) (lv' := [(4, .int (17 : Int32)), (5, .int (20 : Int32)), (3, .int (17 : Int32)), (2, .ref x1), (1, .ref x1), (0, .ref za)]) hx hb dX12_start_126 hl (k := 1) rfl (by decide) (by decide) rfl (fun ls hl => ?_)
  refine lv_goto (tgt := 106) hx hb dX12_start_129 (by decide) ?_
  refine lv_iload hx hb dX12_start_106 (lv_at hl 0 rfl) ?_
  refine lv_iload_n hx hb dX12_start_108 rfl (lv_at hl 2 rfl) ?_
  refine lv_icmp_ge (tgt := 132) hx hb dX12_start_109 (by decide) (fun _ => ?_) (fun c19 => absurd (by decide) c19)
  have hz9 : fr_zz (upd (upd (upd (upd (upd (upd (upd (upd (upd (upd (upd (upd (upd (upd (upd (upd (upd zm 0 (0 : Int32)) 1 (0 : Int32)) 5 (0 : Int32)) 6 (0 : Int32)) 7 (0 : Int32)) 8 (0 : Int32)) 9 (0 : Int32)) 10 (0 : Int32)) 11 (0 : Int32)) 12 (0 : Int32)) 13 (0 : Int32)) 14 (0 : Int32)) 16 (0 : Int32)) 17 (0 : Int32)) 18 (0 : Int32)) 19 (0 : Int32)) 20 (0 : Int32)) := (fr_zz_up 20 (fr_zz_up 19 (fr_zz_up 18 (fr_zz_up 17 (fr_zz_up 16 (fr_zz_up 14 (fr_zz_up 13 (fr_zz_up 12 (fr_zz_up 11 (fr_zz_up 10 (fr_zz_up 9 (fr_zz_up 8 (fr_zz_up 7 (fr_zz_up 6 (fr_zz_up 5 (fr_zz_up 1 (fr_zz_up 0 hz)))))))))))))))))
  obtain ⟨w20, ew20⟩ : ∃ z : fb_AR, (upd (upd (upd (upd (upd (upd (upd (upd (upd (upd (upd (upd (upd (upd (upd (upd (upd zm 0 (0 : Int32)) 1 (0 : Int32)) 5 (0 : Int32)) 6 (0 : Int32)) 7 (0 : Int32)) 8 (0 : Int32)) 9 (0 : Int32)) 10 (0 : Int32)) 11 (0 : Int32)) 12 (0 : Int32)) 13 (0 : Int32)) 14 (0 : Int32)) 16 (0 : Int32)) 17 (0 : Int32)) 18 (0 : Int32)) 19 (0 : Int32)) 20 (0 : Int32)) = z := ⟨_, rfl⟩
  rw [ew20] at I hz9
  have I : fb_In D A s.heap (([fb_o12 za zr ze, fb_aw cI (zr 0) 16205 w20] : List va_W).flatten) H _ := fb_dropB (bs := [fb_o12 za zr ze, fb_aw cI (zr 0) 16205 w20, fb_aw cI x1 17 (upd (upd (upd (upd (upd (upd (upd (upd (upd (upd (upd (upd (upd (upd (upd (upd (upd (fun _ => 0) 0 (0 : Int32)) 1 (1 : Int32)) 2 (5 : Int32)) 3 (6 : Int32)) 4 (7 : Int32)) 5 (8 : Int32)) 6 (9 : Int32)) 7 (10 : Int32)) 8 (11 : Int32)) 9 (12 : Int32)) 10 (13 : Int32)) 11 (14 : Int32)) 12 (16 : Int32)) 13 (17 : Int32)) 14 (18 : Int32)) 15 (19 : Int32)) 16 (20 : Int32))]) (bs' := [fb_o12 za zr ze, fb_aw cI (zr 0) 16205 w20]) (gs := [fb_aw cI x1 17 (upd (upd (upd (upd (upd (upd (upd (upd (upd (upd (upd (upd (upd (upd (upd (upd (upd (fun _ => 0) 0 (0 : Int32)) 1 (1 : Int32)) 2 (5 : Int32)) 3 (6 : Int32)) 4 (7 : Int32)) 5 (8 : Int32)) 6 (9 : Int32)) 7 (10 : Int32)) 8 (11 : Int32)) 9 (12 : Int32)) 10 (13 : Int32)) 11 (14 : Int32)) 12 (16 : Int32)) 13 (17 : Int32)) 14 (18 : Int32)) 15 (19 : Int32)) 16 (20 : Int32))]) I 3 rfl [0, 1, 2] (by decide +kernel) rfl
  refine lv_iconst (v := (0 : Int32)) hx hb dX12_start_132 (by decide) ?_
  refine lv_istore_n (lv' := [(2, .int (0 : Int32)), (4, .int (17 : Int32)), (5, .int (20 : Int32)), (3, .int (17 : Int32)), (1, .ref x1), (0, .ref za)]) hx hb dX12_start_133 rfl hl (by decide) rfl (fun ls hl => ?_)
  exact b_start_134 (za := za) (zr := zr) (ze := ze) (zm := zm)  X hz  (4096) 0 (by omega) w20 hz9 _ _ _ I (lv_sub hl [0, 5] rfl)

set_option maxHeartbeats 4000000 in
set_option maxRecDepth 100000 in
theorem c_reset (l : Launch) (D : va_G) (cI cJ : ClassId) (za : Nat) (zr : Nat → Nat) (sz : Nat)  : Met l yX12_reset (Cond.code yX12_reset cX12_reset 1 (some .int) :: fb_all) ({ frames := 6, cells := 1, slots := 17, locals := 147 } : Room) (fb_PP D (fb_ty D cI cJ) [.ref za] (([fb_o12 za zr fr_e0, fb_aw cI (zr 0) 16205 (fr_m (fun _ => 0) 0)] : List va_W).flatten) sz) (fb_QI D (va_A (([fb_o12 za zr fr_e0, fb_aw cI (zr 0) 16205 (fr_m (fun _ => 0) 0)] : List va_W).flatten) sz) (fun (r : Int32) (_ : Unit) => r = (0 : Int32)) (fun (t : Unit) => ([fb_o12 za zr (upd (upd (upd fr_e0 19 (0 : Int32)) 10 (0 : Int32)) 2 (0 : Int32)), fb_aw cI (zr 0) 16205 (fr_m (fun _ => 0) 0)] : List va_W).flatten)) 1 17 (va_A (([fb_o12 za zr fr_e0, fb_aw cI (zr 0) 16205 (fr_m (fun _ => 0) 0)] : List va_W).flatten) sz) := by
  refine fb_ent (Qf := fun A => (fb_QI D A (fun (r : Int32) (_ : Unit) => r = (0 : Int32)) (fun (t : Unit) => ([fb_o12 za zr (upd (upd (upd fr_e0 19 (0 : Int32)) 10 (0 : Int32)) 2 (0 : Int32)), fb_aw cI (zr 0) 16205 (fr_m (fun _ => 0) 0)] : List va_W).flatten))) (by decide +kernel) (Nat.le_of_ble_eq_true rfl) ?_
  intro p e s m args below meth c A ls X I hl hin
  obtain ⟨hx, hb, hr, hml, hown, hts, hlk, hA, hK, hF⟩ := id X
  have hl : lv_has ls 1 [(0, .ref za)] := hl
  refine lv_aload_n hx hb dX12_reset_0 rfl (lv_at hl 0 rfl) ?_
  refine lv_iconst (v := (0 : Int32)) hx hb dX12_reset_1 (by decide) ?_
  refine fb_put X I (k := 19) (wn := ([fb_o12 za zr (upd fr_e0 19 (0 : Int32)), fb_aw cI (zr 0) 16205 (fr_m (fun _ => 0) 0)] : List va_W).flatten) fu_X12 tyX12 tyX12_ok nmX12 0 fb_h12 rfl (Nat.le_of_ble_eq_true rfl) fw_1983 rfl rfl rfl rfl rfl (Nat.le_of_ble_eq_true rfl) fb_r12_19 dX12_reset_2 (fun H locs I => ?_)
  refine lv_aload_n hx hb dX12_reset_5 rfl (lv_at hl 0 rfl) ?_
  refine fb_gV (cs := [fb_o12 za zr (upd fr_e0 19 (0 : Int32)), fb_aw cI (zr 0) 16205 (fr_m (fun _ => 0) 0)]) (rs := []) (fun (t : Unit) => [fb_o12 za zr (upd (upd (upd fr_e0 19 (0 : Int32)) 10 (0 : Int32)) 2 (0 : Int32)), fb_aw cI (zr 0) 16205 (fr_m (fun _ => 0) 0)]) (fun (t : Unit) => [fb_o12 za zr (upd (upd (upd fr_e0 19 (0 : Int32)) 10 (0 : Int32)) 2 (0 : Int32)), fb_aw cI (zr 0) 16205 (fr_m (fun _ => 0) 0)]) X I [0, 1] 2 rfl (by decide +kernel) rfl rfl [0, 1] 2 (fun _ => rfl) (by decide +kernel) (fun _ => rfl) (fun _ => rfl) (fun I => fb_rV (As := []) (rest := []) X hl (fb_goodV fw_1941 fw_1943 fw_84 fw_204 fw_1944) (c_start l D cI cJ za zr (upd fr_e0 19 (0 : Int32)) (fr_m (fun _ => 0) 0) _ fr_zz0) rfl rfl rfl (by decide +kernel : fb_hd yX12_start 0) ⟨Nat.le_of_ble_eq_true rfl, Nat.le_of_ble_eq_true rfl⟩ rfl rfl rfl rfl rfl (Nat.le_of_ble_eq_true rfl) ⟨Nat.le_of_ble_eq_true rfl, Nat.le_of_ble_eq_true rfl⟩ dX12_reset_6 I) ?_
  intro w1 H locs _ I
  have I : fb_In D A s.heap (([fb_o12 za zr (upd (upd (upd fr_e0 19 (0 : Int32)) 10 (0 : Int32)) 2 (0 : Int32)), fb_aw cI (zr 0) 16205 (fr_m (fun _ => 0) 0)] : List va_W).flatten) H locs := I
  refine lv_aload_n hx hb dX12_reset_9 rfl (lv_at hl 0 rfl) ?_
  refine fb_get X I (k := 0) (v := .ref (zr 0)) fu_X12 0 fb_h12 rfl (Nat.le_of_ble_eq_true rfl) fw_1964 rfl rfl dX12_reset_10 ?_
  refine lv_iconst (v := (4 : Int32)) hx hb dX12_reset_13 (by decide) ?_
  refine fb_iaC (n := 4) (v := (0 : Int32)) X I 1 0 rfl rfl (by decide) (by decide) (Nat.le_of_ble_eq_true rfl) rfl dX12_reset_14 ?_
  refine W.widen (k := 1) (n := 17) (by omega) (by omega) ?_
  exact fb_retI (u := ()) X I rfl rfl dX12_reset_15

set_option maxHeartbeats 4000000 in
set_option maxRecDepth 100000 in
theorem c_feed (l : Launch) (D : va_G) (cI cJ : ClassId) (za : Nat) (zr : Nat → Nat) (l1 : Int32) (l2 : Int32) (l3 : Int32) (l4 : Int32) (l5 : Int32) (zb : fb_AR) (sz : Nat)  : Met l yX12_feed (Cond.code yX12_feed cX12_feed 8 (some .int) :: fb_all) ({ frames := 2, cells := 1, slots := 5, locals := 50 } : Room) (fb_PP D (fb_ty D cI cJ) [.ref za, .int l1, .int l2, .int l3, .int l4, .int l5] (([fb_o12 za zr fr_e0, fb_aw (D.1 21) (zr 20) 2000 zb] : List va_W).flatten) sz) (fb_QI D (va_A (([fb_o12 za zr fr_e0, fb_aw (D.1 21) (zr 20) 2000 zb] : List va_W).flatten) sz) (fun (r : Int32) (_ : fb_AR × Nat) => r = (20 : Int32)) (fun (t : fb_AR × Nat) => ([fb_o12 za zr (upd (upd (upd fr_e0 19 (0 : Int32)) 21 (20 : Int32)) 2 (0 : Int32)), fb_aw (D.1 21) (zr 20) 2000 (t.1), fb_aw cI (t.2) 5 (upd (upd (upd (upd (upd (fun _ => 0) 0 l1) 1 l2) 2 l3) 3 l4) 4 l5)] : List va_W).flatten)) 1 5 (va_A (([fb_o12 za zr fr_e0, fb_aw (D.1 21) (zr 20) 2000 zb] : List va_W).flatten) sz) := by
  refine fb_ent (Qf := fun A => (fb_QI D A (fun (r : Int32) (_ : fb_AR × Nat) => r = (20 : Int32)) (fun (t : fb_AR × Nat) => ([fb_o12 za zr (upd (upd (upd fr_e0 19 (0 : Int32)) 21 (20 : Int32)) 2 (0 : Int32)), fb_aw (D.1 21) (zr 20) 2000 (t.1), fb_aw cI (t.2) 5 (upd (upd (upd (upd (upd (fun _ => 0) 0 l1) 1 l2) 2 l3) 3 l4) 4 l5)] : List va_W).flatten))) (by decide +kernel) (Nat.le_of_ble_eq_true rfl) ?_
  intro p e s m args below meth c A ls X I hl hin
  obtain ⟨hx, hb, hr, hml, hown, hts, hlk, hA, hK, hF⟩ := id X
  have hl : lv_has ls 8 [(0, .ref za), (1, .int l1), (2, .int l2), (3, .int l3), (4, .int l4), (5, .int l5)] := hl
  refine lv_aload_n hx hb dX12_feed_0 rfl (lv_at hl 0 rfl) ?_
  refine lv_aload_n hx hb dX12_feed_1 rfl (lv_at hl 0 rfl) ?_
  refine fb_get X I (k := 21) (v := .int (fr_e0 21)) fu_X12 0 fb_h12 rfl (Nat.le_of_ble_eq_true rfl) fw_1985 rfl rfl dX12_feed_2 ?_
  refine fb_tI (v := (0 : Int32)) rfl ?_
  refine lv_bipush (v := (20 : Int32)) hx hb dX12_feed_5 (by decide) ?_
  refine lv_iadd hx hb dX12_feed_7 ?_
  refine fb_tI (v := (20 : Int32)) (by decide) ?_
  refine lv_sipush (v := (2000 : Int32)) hx hb dX12_feed_8 (by decide) ?_
  refine lv_icmp_le (tgt := 18) hx hb dX12_feed_11 (by decide) (fun _ => ?_) (fun c1 => absurd (by decide) c1)
  refine lv_iconst (v := (0 : Int32)) hx hb dX12_feed_18 (by decide) ?_
  refine fb_put X I (k := 19) (wn := ([fb_o12 za zr (upd fr_e0 19 (0 : Int32)), fb_aw (D.1 21) (zr 20) 2000 zb] : List va_W).flatten) fu_X12 tyX12 tyX12_ok nmX12 0 fb_h12 rfl (Nat.le_of_ble_eq_true rfl) fw_1983 rfl rfl rfl rfl rfl (Nat.le_of_ble_eq_true rfl) fb_r12_19 dX12_feed_19 (fun H locs I => ?_)
  refine lv_aload_n hx hb dX12_feed_22 rfl (lv_at hl 0 rfl) ?_
  refine fb_get X I (k := 19) (v := .int (0 : Int32)) fu_X12 0 fb_h12 rfl (Nat.le_of_ble_eq_true rfl) fw_1983 rfl rfl dX12_feed_23 ?_
  refine lv_if_le (tgt := 31) hx hb dX12_feed_26 (by decide) (fun _ => ?_) (fun c2 => absurd (by decide) c2)
  refine lv_iconst (v := (5 : Int32)) hx hb dX12_feed_31 (by decide) ?_
  refine fb_nI (N := 5) X I fw_261 (by decide) (Nat.le_of_ble_eq_true rfl) (Nat.le_of_ble_eq_true rfl) (Nat.le_of_ble_eq_true rfl) dX12_feed_32 (fun x3 H I => ?_)
  have I : fb_In D A s.heap (([fb_o12 za zr (upd fr_e0 19 (0 : Int32)), fb_aw (D.1 21) (zr 20) 2000 zb, fb_aw cI x3 5 (fun _ => 0)] : List va_W).flatten) H _ := I
  refine lv_dup hx hb dX12_feed_34 rfl ?_
  refine lv_iconst (v := (0 : Int32)) hx hb dX12_feed_35 (by decide) ?_
  refine lv_iload_n hx hb dX12_feed_36 rfl (lv_at hl 1 rfl) ?_
  refine fb_isC (n := 0) (wn := ([fb_o12 za zr (upd fr_e0 19 (0 : Int32)), fb_aw (D.1 21) (zr 20) 2000 zb, fb_aw cI x3 5 (upd (fun _ => 0) 0 l1)] : List va_W).flatten) X I 2 0 rfl rfl (by decide) (by decide) (Nat.le_of_ble_eq_true rfl) rfl dX12_feed_37 (fun H locs I => ?_)
  refine lv_dup hx hb dX12_feed_38 rfl ?_
  refine lv_iconst (v := (1 : Int32)) hx hb dX12_feed_39 (by decide) ?_
  refine lv_iload_n hx hb dX12_feed_40 rfl (lv_at hl 2 rfl) ?_
  refine fb_isC (n := 1) (wn := ([fb_o12 za zr (upd fr_e0 19 (0 : Int32)), fb_aw (D.1 21) (zr 20) 2000 zb, fb_aw cI x3 5 (upd (upd (fun _ => 0) 0 l1) 1 l2)] : List va_W).flatten) X I 2 0 rfl rfl (by decide) (by decide) (Nat.le_of_ble_eq_true rfl) rfl dX12_feed_41 (fun H locs I => ?_)
  refine lv_dup hx hb dX12_feed_42 rfl ?_
  refine lv_iconst (v := (2 : Int32)) hx hb dX12_feed_43 (by decide) ?_
  refine lv_iload_n hx hb dX12_feed_44 rfl (lv_at hl 3 rfl) ?_
  refine fb_isC (n := 2) (wn := ([fb_o12 za zr (upd fr_e0 19 (0 : Int32)), fb_aw (D.1 21) (zr 20) 2000 zb, fb_aw cI x3 5 (upd (upd (upd (fun _ => 0) 0 l1) 1 l2) 2 l3)] : List va_W).flatten) X I 2 0 rfl rfl (by decide) (by decide) (Nat.le_of_ble_eq_true rfl) rfl dX12_feed_45 (fun H locs I => ?_)
  refine lv_dup hx hb dX12_feed_46 rfl ?_
  refine lv_iconst (v := (3 : Int32)) hx hb dX12_feed_47 (by decide) ?_
  refine lv_iload hx hb dX12_feed_48 (lv_at hl 4 rfl) ?_
  refine fb_isC (n := 3) (wn := ([fb_o12 za zr (upd fr_e0 19 (0 : Int32)), fb_aw (D.1 21) (zr 20) 2000 zb, fb_aw cI x3 5 (upd (upd (upd (upd (fun _ => 0) 0 l1) 1 l2) 2 l3) 3 l4)] : List va_W).flatten) X I 2 0 rfl rfl (by decide) (by decide) (Nat.le_of_ble_eq_true rfl) rfl dX12_feed_50 (fun H locs I => ?_)
  refine lv_dup hx hb dX12_feed_51 rfl ?_
  refine lv_iconst (v := (4 : Int32)) hx hb dX12_feed_52 (by decide) ?_
  refine lv_iload hx hb dX12_feed_53 (lv_at hl 5 rfl) ?_
  refine fb_isC (n := 4) (wn := ([fb_o12 za zr (upd fr_e0 19 (0 : Int32)), fb_aw (D.1 21) (zr 20) 2000 zb, fb_aw cI x3 5 (upd (upd (upd (upd (upd (fun _ => 0) 0 l1) 1 l2) 2 l3) 3 l4) 4 l5)] : List va_W).flatten) X I 2 0 rfl rfl (by decide) (by decide) (Nat.le_of_ble_eq_true rfl) rfl dX12_feed_55 (fun H locs I => ?_)
  refine lv_astore (lv' := [(6, .ref x3), (0, .ref za), (1, .int l1), (2, .int l2), (3, .int l3), (4, .int l4), (5, .int l5)]) hx hb dX12_feed_56 hl (by decide) rfl (fun ls hl => ?_)
  refine lv_iconst (v := (0 : Int32)) hx hb dX12_feed_58 (by decide) ?_
  refine lv_istore (lv' := [(7, .int (0 : Int32)), (6, .ref x3), (0, .ref za), (1, .int l1), (2, .int l2), (3, .int l3), (4, .int l4), (5, .int l5)]) hx hb dX12_feed_59 hl (by decide) rfl (fun ls hl => ?_)
  refine lv_iload hx hb dX12_feed_61 (lv_at hl 0 rfl) ?_
  refine lv_bipush (v := (20 : Int32)) hx hb dX12_feed_63 (by decide) ?_
  refine lv_icmp_ge (tgt := 105) hx hb dX12_feed_65 (by decide) (fun c4 => absurd c4 (by decide)) (fun _ => ?_)
  refine lv_aload_n hx hb dX12_feed_68 rfl (lv_at hl 2 rfl) ?_
  refine fb_get X I (k := 20) (v := .ref (zr 20)) fu_X12 0 fb_h12 rfl (Nat.le_of_ble_eq_true rfl) fw_1984 rfl rfl dX12_feed_69 ?_
  refine lv_aload_n hx hb dX12_feed_72 rfl (lv_at hl 2 rfl) ?_
  refine fb_get X I (k := 21) (v := .int (fr_e0 21)) fu_X12 0 fb_h12 rfl (Nat.le_of_ble_eq_true rfl) fw_1985 rfl rfl dX12_feed_73 ?_
  refine fb_tI (v := (0 : Int32)) rfl ?_
  refine lv_iload hx hb dX12_feed_76 (lv_at hl 0 rfl) ?_
  refine lv_iadd hx hb dX12_feed_78 ?_
  refine fb_tI (v := (0 : Int32)) (by decide) ?_
  refine lv_aload hx hb dX12_feed_79 (lv_at hl 1 rfl) ?_
  refine lv_iload hx hb dX12_feed_81 (lv_at hl 0 rfl) ?_
  refine lv_iconst (v := (4 : Int32)) hx hb dX12_feed_83 (by decide) ?_
  refine lv_idiv hx hb dX12_feed_84 (by decide) ?_
  refine fb_tI (v := (0 : Int32)) (by decide) ?_
  refine fb_iaC (n := 0) (v := l1) X I 2 0 rfl rfl (by decide) (by decide) (Nat.le_of_ble_eq_true rfl) ((pk_un (by decide)).trans ((pk_un (by decide)).trans ((pk_un (by decide)).trans ((pk_un (by decide)).trans pk_us)))) dX12_feed_85 ?_
  refine lv_bipush (v := (24 : Int32)) hx hb dX12_feed_86 (by decide) ?_
  refine lv_iload hx hb dX12_feed_88 (lv_at hl 0 rfl) ?_
  refine lv_iconst (v := (4 : Int32)) hx hb dX12_feed_90 (by decide) ?_
  refine lv_irem hx hb dX12_feed_91 (by decide) ?_
  refine fb_tI (v := (0 : Int32)) (by decide) ?_
  refine lv_bipush (v := (8 : Int32)) hx hb dX12_feed_92 (by decide) ?_
  refine lv_imul hx hb dX12_feed_94 ?_
  refine fb_tI (v := (0 : Int32)) (by decide) ?_
  refine lv_isub hx hb dX12_feed_95 ?_
  refine fb_tI (v := (24 : Int32)) (by decide) ?_
  refine lv_ishr hx hb dX12_feed_96 ?_
  refine lv_i2b (v := (((l1 >>> ((24 : Int32) &&& 31))).toInt8.toInt32)) hx hb dX12_feed_97 rfl ?_
  refine fb_bsC (n := 0) (wn := ([fb_o12 za zr (upd fr_e0 19 (0 : Int32)), fb_aw (D.1 21) (zr 20) 2000 (upd zb 0 (vp_nar .byte (((l1 >>> ((24 : Int32) &&& 31))).toInt8.toInt32))), fb_aw cI x3 5 (upd (upd (upd (upd (upd (fun _ => 0) 0 l1) 1 l2) 2 l3) 3 l4) 4 l5)] : List va_W).flatten) X I 1 3 rfl rfl (by decide) (by decide) (Nat.le_of_ble_eq_true rfl) rfl dX12_feed_98 (fun H locs I => ?_)
  refine lv_iinc (v := (1 : Int32)) (lv' := [(7, .int (1 : Int32)), (6, .ref x3), (0, .ref za), (1, .int l1), (2, .int l2), (3, .int l3), (4, .int l4), (5, .int l5)]) hx hb dX12_feed_99 hl (k := 0) rfl (by decide) (by decide) rfl (fun ls hl => ?_)
  refine lv_goto (tgt := 61) hx hb dX12_feed_102 (by decide) ?_
  obtain ⟨w5, ew5⟩ : ∃ z : fb_AR, (upd zb 0 (vp_nar .byte (((l1 >>> ((24 : Int32) &&& 31))).toInt8.toInt32))) = z := ⟨_, rfl⟩
  rw [ew5] at I
  refine lv_iload hx hb dX12_feed_61 (lv_at hl 0 rfl) ?_
  refine lv_bipush (v := (20 : Int32)) hx hb dX12_feed_63 (by decide) ?_
  refine lv_icmp_ge (tgt := 105) hx hb dX12_feed_65 (by decide) (fun c6 => absurd c6 (by decide)) (fun _ => ?_)
  refine lv_aload_n hx hb dX12_feed_68 rfl (lv_at hl 2 rfl) ?_
  refine fb_get X I (k := 20) (v := .ref (zr 20)) fu_X12 0 fb_h12 rfl (Nat.le_of_ble_eq_true rfl) fw_1984 rfl rfl dX12_feed_69 ?_
  refine lv_aload_n hx hb dX12_feed_72 rfl (lv_at hl 2 rfl) ?_
  refine fb_get X I (k := 21) (v := .int (fr_e0 21)) fu_X12 0 fb_h12 rfl (Nat.le_of_ble_eq_true rfl) fw_1985 rfl rfl dX12_feed_73 ?_
  refine fb_tI (v := (0 : Int32)) rfl ?_
  refine lv_iload hx hb dX12_feed_76 (lv_at hl 0 rfl) ?_
  refine lv_iadd hx hb dX12_feed_78 ?_
  refine fb_tI (v := (1 : Int32)) (by decide) ?_
  refine lv_aload hx hb dX12_feed_79 (lv_at hl 1 rfl) ?_
  refine lv_iload hx hb dX12_feed_81 (lv_at hl 0 rfl) ?_
  refine lv_iconst (v := (4 : Int32)) hx hb dX12_feed_83 (by decide) ?_
  refine lv_idiv hx hb dX12_feed_84 (by decide) ?_
  refine fb_tI (v := (0 : Int32)) (by decide) ?_
  refine fb_iaC (n := 0) (v := l1) X I 2 0 rfl rfl (by decide) (by decide) (Nat.le_of_ble_eq_true rfl) ((pk_un (by decide)).trans ((pk_un (by decide)).trans ((pk_un (by decide)).trans ((pk_un (by decide)).trans pk_us)))) dX12_feed_85 ?_
  refine lv_bipush (v := (24 : Int32)) hx hb dX12_feed_86 (by decide) ?_
  refine lv_iload hx hb dX12_feed_88 (lv_at hl 0 rfl) ?_
  refine lv_iconst (v := (4 : Int32)) hx hb dX12_feed_90 (by decide) ?_
  refine lv_irem hx hb dX12_feed_91 (by decide) ?_
  refine fb_tI (v := (1 : Int32)) (by decide) ?_
  refine lv_bipush (v := (8 : Int32)) hx hb dX12_feed_92 (by decide) ?_
  refine lv_imul hx hb dX12_feed_94 ?_
  refine fb_tI (v := (8 : Int32)) (by decide) ?_
  refine lv_isub hx hb dX12_feed_95 ?_
  refine fb_tI (v := (16 : Int32)) (by decide) ?_
  refine lv_ishr hx hb dX12_feed_96 ?_
  refine lv_i2b (v := (((l1 >>> ((16 : Int32) &&& 31))).toInt8.toInt32)) hx hb dX12_feed_97 rfl ?_
  refine fb_bsC (n := 1) (wn := ([fb_o12 za zr (upd fr_e0 19 (0 : Int32)), fb_aw (D.1 21) (zr 20) 2000 (upd w5 1 (vp_nar .byte (((l1 >>> ((16 : Int32) &&& 31))).toInt8.toInt32))), fb_aw cI x3 5 (upd (upd (upd (upd (upd (fun _ => 0) 0 l1) 1 l2) 2 l3) 3 l4) 4 l5)] : List va_W).flatten) X I 1 3 rfl rfl (by decide) (by decide) (Nat.le_of_ble_eq_true rfl) rfl dX12_feed_98 (fun H locs I => ?_)
  refine lv_iinc (v := (2 : Int32)) (lv' := [(7, .int (2 : Int32)), (6, .ref x3), (0, .ref za), (1, .int l1), (2, .int l2), (3, .int l3), (4, .int l4), (5, .int l5)]) hx hb dX12_feed_99 hl (k := 0) rfl (by decide) (by decide) rfl (fun ls hl => ?_)
  refine lv_goto (tgt := 61) hx hb dX12_feed_102 (by decide) ?_
  obtain ⟨w7, ew7⟩ : ∃ z : fb_AR, (upd w5 1 (vp_nar .byte (((l1 >>> ((16 : Int32) &&& 31))).toInt8.toInt32))) = z := ⟨_, rfl⟩
  rw [ew7] at I
  refine lv_iload hx hb dX12_feed_61 (lv_at hl 0 rfl) ?_
  refine lv_bipush (v := (20 : Int32)) hx hb dX12_feed_63 (by decide) ?_
  refine lv_icmp_ge (tgt := 105) hx hb dX12_feed_65 (by decide) (fun c8 => absurd c8 (by decide)) (fun _ => ?_)
  refine lv_aload_n hx hb dX12_feed_68 rfl (lv_at hl 2 rfl) ?_
  refine fb_get X I (k := 20) (v := .ref (zr 20)) fu_X12 0 fb_h12 rfl (Nat.le_of_ble_eq_true rfl) fw_1984 rfl rfl dX12_feed_69 ?_
  refine lv_aload_n hx hb dX12_feed_72 rfl (lv_at hl 2 rfl) ?_
  refine fb_get X I (k := 21) (v := .int (fr_e0 21)) fu_X12 0 fb_h12 rfl (Nat.le_of_ble_eq_true rfl) fw_1985 rfl rfl dX12_feed_73 ?_
  refine fb_tI (v := (0 : Int32)) rfl ?_
  refine lv_iload hx hb dX12_feed_76 (lv_at hl 0 rfl) ?_
  refine lv_iadd hx hb dX12_feed_78 ?_
  refine fb_tI (v := (2 : Int32)) (by decide) ?_
  refine lv_aload hx hb dX12_feed_79 (lv_at hl 1 rfl) ?_
  refine lv_iload hx hb dX12_feed_81 (lv_at hl 0 rfl) ?_
  refine lv_iconst (v := (4 : Int32)) hx hb dX12_feed_83 (by decide) ?_
  refine lv_idiv hx hb dX12_feed_84 (by decide) ?_
  refine fb_tI (v := (0 : Int32)) (by decide) ?_
  refine fb_iaC (n := 0) (v := l1) X I 2 0 rfl rfl (by decide) (by decide) (Nat.le_of_ble_eq_true rfl) ((pk_un (by decide)).trans ((pk_un (by decide)).trans ((pk_un (by decide)).trans ((pk_un (by decide)).trans pk_us)))) dX12_feed_85 ?_
  refine lv_bipush (v := (24 : Int32)) hx hb dX12_feed_86 (by decide) ?_
  refine lv_iload hx hb dX12_feed_88 (lv_at hl 0 rfl) ?_
  refine lv_iconst (v := (4 : Int32)) hx hb dX12_feed_90 (by decide) ?_
  refine lv_irem hx hb dX12_feed_91 (by decide) ?_
  refine fb_tI (v := (2 : Int32)) (by decide) ?_
  refine lv_bipush (v := (8 : Int32)) hx hb dX12_feed_92 (by decide) ?_
  refine lv_imul hx hb dX12_feed_94 ?_
  refine fb_tI (v := (16 : Int32)) (by decide) ?_
  refine lv_isub hx hb dX12_feed_95 ?_
  refine fb_tI (v := (8 : Int32)) (by decide) ?_
  refine lv_ishr hx hb dX12_feed_96 ?_
  refine lv_i2b (v := (((l1 >>> ((8 : Int32) &&& 31))).toInt8.toInt32)) hx hb dX12_feed_97 rfl ?_
  refine fb_bsC (n := 2) (wn := ([fb_o12 za zr (upd fr_e0 19 (0 : Int32)), fb_aw (D.1 21) (zr 20) 2000 (upd w7 2 (vp_nar .byte (((l1 >>> ((8 : Int32) &&& 31))).toInt8.toInt32))), fb_aw cI x3 5 (upd (upd (upd (upd (upd (fun _ => 0) 0 l1) 1 l2) 2 l3) 3 l4) 4 l5)] : List va_W).flatten) X I 1 3 rfl rfl (by decide) (by decide) (Nat.le_of_ble_eq_true rfl) rfl dX12_feed_98 (fun H locs I => ?_)
  refine lv_iinc (v := (3 : Int32)) (lv' := [(7, .int (3 : Int32)), (6, .ref x3), (0, .ref za), (1, .int l1), (2, .int l2), (3, .int l3), (4, .int l4), (5, .int l5)]) hx hb dX12_feed_99 hl (k := 0) rfl (by decide) (by decide) rfl (fun ls hl => ?_)
  refine lv_goto (tgt := 61) hx hb dX12_feed_102 (by decide) ?_
  obtain ⟨w9, ew9⟩ : ∃ z : fb_AR, (upd w7 2 (vp_nar .byte (((l1 >>> ((8 : Int32) &&& 31))).toInt8.toInt32))) = z := ⟨_, rfl⟩
  rw [ew9] at I
  refine lv_iload hx hb dX12_feed_61 (lv_at hl 0 rfl) ?_
  refine lv_bipush (v := (20 : Int32)) hx hb dX12_feed_63 (by decide) ?_
  refine lv_icmp_ge (tgt := 105) hx hb dX12_feed_65 (by decide) (fun c10 => absurd c10 (by decide)) (fun _ => ?_)
  refine lv_aload_n hx hb dX12_feed_68 rfl (lv_at hl 2 rfl) ?_
  refine fb_get X I (k := 20) (v := .ref (zr 20)) fu_X12 0 fb_h12 rfl (Nat.le_of_ble_eq_true rfl) fw_1984 rfl rfl dX12_feed_69 ?_
  refine lv_aload_n hx hb dX12_feed_72 rfl (lv_at hl 2 rfl) ?_
  refine fb_get X I (k := 21) (v := .int (fr_e0 21)) fu_X12 0 fb_h12 rfl (Nat.le_of_ble_eq_true rfl) fw_1985 rfl rfl dX12_feed_73 ?_
  refine fb_tI (v := (0 : Int32)) rfl ?_
  refine lv_iload hx hb dX12_feed_76 (lv_at hl 0 rfl) ?_
  refine lv_iadd hx hb dX12_feed_78 ?_
  refine fb_tI (v := (3 : Int32)) (by decide) ?_
  refine lv_aload hx hb dX12_feed_79 (lv_at hl 1 rfl) ?_
  refine lv_iload hx hb dX12_feed_81 (lv_at hl 0 rfl) ?_
  refine lv_iconst (v := (4 : Int32)) hx hb dX12_feed_83 (by decide) ?_
  refine lv_idiv hx hb dX12_feed_84 (by decide) ?_
  refine fb_tI (v := (0 : Int32)) (by decide) ?_
  refine fb_iaC (n := 0) (v := l1) X I 2 0 rfl rfl (by decide) (by decide) (Nat.le_of_ble_eq_true rfl) ((pk_un (by decide)).trans ((pk_un (by decide)).trans ((pk_un (by decide)).trans ((pk_un (by decide)).trans pk_us)))) dX12_feed_85 ?_
  refine lv_bipush (v := (24 : Int32)) hx hb dX12_feed_86 (by decide) ?_
  refine lv_iload hx hb dX12_feed_88 (lv_at hl 0 rfl) ?_
  refine lv_iconst (v := (4 : Int32)) hx hb dX12_feed_90 (by decide) ?_
  refine lv_irem hx hb dX12_feed_91 (by decide) ?_
  refine fb_tI (v := (3 : Int32)) (by decide) ?_
  refine lv_bipush (v := (8 : Int32)) hx hb dX12_feed_92 (by decide) ?_
  refine lv_imul hx hb dX12_feed_94 ?_
  refine fb_tI (v := (24 : Int32)) (by decide) ?_
  refine lv_isub hx hb dX12_feed_95 ?_
  refine fb_tI (v := (0 : Int32)) (by decide) ?_
  refine lv_ishr hx hb dX12_feed_96 ?_
  refine lv_i2b (v := (((l1 >>> ((0 : Int32) &&& 31))).toInt8.toInt32)) hx hb dX12_feed_97 rfl ?_
  refine fb_bsC (n := 3) (wn := ([fb_o12 za zr (upd fr_e0 19 (0 : Int32)), fb_aw (D.1 21) (zr 20) 2000 (upd w9 3 (vp_nar .byte (((l1 >>> ((0 : Int32) &&& 31))).toInt8.toInt32))), fb_aw cI x3 5 (upd (upd (upd (upd (upd (fun _ => 0) 0 l1) 1 l2) 2 l3) 3 l4) 4 l5)] : List va_W).flatten) X I 1 3 rfl rfl (by decide) (by decide) (Nat.le_of_ble_eq_true rfl) rfl dX12_feed_98 (fun H locs I => ?_)
  refine lv_iinc (v := (4 : Int32)) (lv' := [(7, .int (4 : Int32)), (6, .ref x3), (0, .ref za), (1, .int l1), (2, .int l2), (3, .int l3), (4, .int l4), (5, .int l5)]) hx hb dX12_feed_99 hl (k := 0) rfl (by decide) (by decide) rfl (fun ls hl => ?_)
  refine lv_goto (tgt := 61) hx hb dX12_feed_102 (by decide) ?_
  obtain ⟨w11, ew11⟩ : ∃ z : fb_AR, (upd w9 3 (vp_nar .byte (((l1 >>> ((0 : Int32) &&& 31))).toInt8.toInt32))) = z := ⟨_, rfl⟩
  rw [ew11] at I
  refine lv_iload hx hb dX12_feed_61 (lv_at hl 0 rfl) ?_
  refine lv_bipush (v := (20 : Int32)) hx hb dX12_feed_63 (by decide) ?_
  refine lv_icmp_ge (tgt := 105) hx hb dX12_feed_65 (by decide) (fun c12 => absurd c12 (by decide)) (fun _ => ?_)
  refine lv_aload_n hx hb dX12_feed_68 rfl (lv_at hl 2 rfl) ?_
  refine fb_get X I (k := 20) (v := .ref (zr 20)) fu_X12 0 fb_h12 rfl (Nat.le_of_ble_eq_true rfl) fw_1984 rfl rfl dX12_feed_69 ?_
  refine lv_aload_n hx hb dX12_feed_72 rfl (lv_at hl 2 rfl) ?_
  refine fb_get X I (k := 21) (v := .int (fr_e0 21)) fu_X12 0 fb_h12 rfl (Nat.le_of_ble_eq_true rfl) fw_1985 rfl rfl dX12_feed_73 ?_
  refine fb_tI (v := (0 : Int32)) rfl ?_
  refine lv_iload hx hb dX12_feed_76 (lv_at hl 0 rfl) ?_
  refine lv_iadd hx hb dX12_feed_78 ?_
  refine fb_tI (v := (4 : Int32)) (by decide) ?_
  refine lv_aload hx hb dX12_feed_79 (lv_at hl 1 rfl) ?_
  refine lv_iload hx hb dX12_feed_81 (lv_at hl 0 rfl) ?_
  refine lv_iconst (v := (4 : Int32)) hx hb dX12_feed_83 (by decide) ?_
  refine lv_idiv hx hb dX12_feed_84 (by decide) ?_
  refine fb_tI (v := (1 : Int32)) (by decide) ?_
  refine fb_iaC (n := 1) (v := l2) X I 2 0 rfl rfl (by decide) (by decide) (Nat.le_of_ble_eq_true rfl) ((pk_un (by decide)).trans ((pk_un (by decide)).trans ((pk_un (by decide)).trans pk_us))) dX12_feed_85 ?_
  refine lv_bipush (v := (24 : Int32)) hx hb dX12_feed_86 (by decide) ?_
  refine lv_iload hx hb dX12_feed_88 (lv_at hl 0 rfl) ?_
  refine lv_iconst (v := (4 : Int32)) hx hb dX12_feed_90 (by decide) ?_
  refine lv_irem hx hb dX12_feed_91 (by decide) ?_
  refine fb_tI (v := (0 : Int32)) (by decide) ?_
  refine lv_bipush (v := (8 : Int32)) hx hb dX12_feed_92 (by decide) ?_
  refine lv_imul hx hb dX12_feed_94 ?_
  refine fb_tI (v := (0 : Int32)) (by decide) ?_
  refine lv_isub hx hb dX12_feed_95 ?_
  refine fb_tI (v := (24 : Int32)) (by decide) ?_
  refine lv_ishr hx hb dX12_feed_96 ?_
  refine lv_i2b (v := (((l2 >>> ((24 : Int32) &&& 31))).toInt8.toInt32)) hx hb dX12_feed_97 rfl ?_
  refine fb_bsC (n := 4) (wn := ([fb_o12 za zr (upd fr_e0 19 (0 : Int32)), fb_aw (D.1 21) (zr 20) 2000 (upd w11 4 (vp_nar .byte (((l2 >>> ((24 : Int32) &&& 31))).toInt8.toInt32))), fb_aw cI x3 5 (upd (upd (upd (upd (upd (fun _ => 0) 0 l1) 1 l2) 2 l3) 3 l4) 4 l5)] : List va_W).flatten) X I 1 3 rfl rfl (by decide) (by decide) (Nat.le_of_ble_eq_true rfl) rfl dX12_feed_98 (fun H locs I => ?_)
  refine lv_iinc (v := (5 : Int32)) (lv' := [(7, .int (5 : Int32)), (6, .ref x3), (0, .ref za), (1, .int l1), (2, .int l2), (3, .int l3), (4, .int l4), (5, .int l5)]) hx hb dX12_feed_99 hl (k := 0) rfl (by decide) (by decide) rfl (fun ls hl => ?_)
  refine lv_goto (tgt := 61) hx hb dX12_feed_102 (by decide) ?_
  obtain ⟨w13, ew13⟩ : ∃ z : fb_AR, (upd w11 4 (vp_nar .byte (((l2 >>> ((24 : Int32) &&& 31))).toInt8.toInt32))) = z := ⟨_, rfl⟩
  rw [ew13] at I
  refine lv_iload hx hb dX12_feed_61 (lv_at hl 0 rfl) ?_
  refine lv_bipush (v := (20 : Int32)) hx hb dX12_feed_63 (by decide) ?_
  refine lv_icmp_ge (tgt := 105) hx hb dX12_feed_65 (by decide) (fun c14 => absurd c14 (by decide)) (fun _ => ?_)
  refine lv_aload_n hx hb dX12_feed_68 rfl (lv_at hl 2 rfl) ?_
  refine fb_get X I (k := 20) (v := .ref (zr 20)) fu_X12 0 fb_h12 rfl (Nat.le_of_ble_eq_true rfl) fw_1984 rfl rfl dX12_feed_69 ?_
  refine lv_aload_n hx hb dX12_feed_72 rfl (lv_at hl 2 rfl) ?_
  refine fb_get X I (k := 21) (v := .int (fr_e0 21)) fu_X12 0 fb_h12 rfl (Nat.le_of_ble_eq_true rfl) fw_1985 rfl rfl dX12_feed_73 ?_
  refine fb_tI (v := (0 : Int32)) rfl ?_
  refine lv_iload hx hb dX12_feed_76 (lv_at hl 0 rfl) ?_
  refine lv_iadd hx hb dX12_feed_78 ?_
  refine fb_tI (v := (5 : Int32)) (by decide) ?_
  refine lv_aload hx hb dX12_feed_79 (lv_at hl 1 rfl) ?_
  refine lv_iload hx hb dX12_feed_81 (lv_at hl 0 rfl) ?_
  refine lv_iconst (v := (4 : Int32)) hx hb dX12_feed_83 (by decide) ?_
  refine lv_idiv hx hb dX12_feed_84 (by decide) ?_
  refine fb_tI (v := (1 : Int32)) (by decide) ?_
  refine fb_iaC (n := 1) (v := l2) X I 2 0 rfl rfl (by decide) (by decide) (Nat.le_of_ble_eq_true rfl) ((pk_un (by decide)).trans ((pk_un (by decide)).trans ((pk_un (by decide)).trans pk_us))) dX12_feed_85 ?_
  refine lv_bipush (v := (24 : Int32)) hx hb dX12_feed_86 (by decide) ?_
  refine lv_iload hx hb dX12_feed_88 (lv_at hl 0 rfl) ?_
  refine lv_iconst (v := (4 : Int32)) hx hb dX12_feed_90 (by decide) ?_
  refine lv_irem hx hb dX12_feed_91 (by decide) ?_
  refine fb_tI (v := (1 : Int32)) (by decide) ?_
  refine lv_bipush (v := (8 : Int32)) hx hb dX12_feed_92 (by decide) ?_
  refine lv_imul hx hb dX12_feed_94 ?_
  refine fb_tI (v := (8 : Int32)) (by decide) ?_
  refine lv_isub hx hb dX12_feed_95 ?_
  refine fb_tI (v := (16 : Int32)) (by decide) ?_
  refine lv_ishr hx hb dX12_feed_96 ?_
  refine lv_i2b (v := (((l2 >>> ((16 : Int32) &&& 31))).toInt8.toInt32)) hx hb dX12_feed_97 rfl ?_
  refine fb_bsC (n := 5) (wn := ([fb_o12 za zr (upd fr_e0 19 (0 : Int32)), fb_aw (D.1 21) (zr 20) 2000 (upd w13 5 (vp_nar .byte (((l2 >>> ((16 : Int32) &&& 31))).toInt8.toInt32))), fb_aw cI x3 5 (upd (upd (upd (upd (upd (fun _ => 0) 0 l1) 1 l2) 2 l3) 3 l4) 4 l5)] : List va_W).flatten) X I 1 3 rfl rfl (by decide) (by decide) (Nat.le_of_ble_eq_true rfl) rfl dX12_feed_98 (fun H locs I => ?_)
  refine lv_iinc (v := (6 : Int32)) (lv' := [(7, .int (6 : Int32)), (6, .ref x3), (0, .ref za), (1, .int l1), (2, .int l2), (3, .int l3), (4, .int l4), (5, .int l5)]) hx hb dX12_feed_99 hl (k := 0) rfl (by decide) (by decide) rfl (fun ls hl => ?_)
  refine lv_goto (tgt := 61) hx hb dX12_feed_102 (by decide) ?_
  obtain ⟨w15, ew15⟩ : ∃ z : fb_AR, (upd w13 5 (vp_nar .byte (((l2 >>> ((16 : Int32) &&& 31))).toInt8.toInt32))) = z := ⟨_, rfl⟩
  rw [ew15] at I
  refine lv_iload hx hb dX12_feed_61 (lv_at hl 0 rfl) ?_
  refine lv_bipush (v := (20 : Int32)) hx hb dX12_feed_63 (by decide) ?_
  refine lv_icmp_ge (tgt := 105) hx hb dX12_feed_65 (by decide) (fun c16 => absurd c16 (by decide)) (fun _ => ?_)
  refine lv_aload_n hx hb dX12_feed_68 rfl (lv_at hl 2 rfl) ?_
  refine fb_get X I (k := 20) (v := .ref (zr 20)) fu_X12 0 fb_h12 rfl (Nat.le_of_ble_eq_true rfl) fw_1984 rfl rfl dX12_feed_69 ?_
  refine lv_aload_n hx hb dX12_feed_72 rfl (lv_at hl 2 rfl) ?_
  refine fb_get X I (k := 21) (v := .int (fr_e0 21)) fu_X12 0 fb_h12 rfl (Nat.le_of_ble_eq_true rfl) fw_1985 rfl rfl dX12_feed_73 ?_
  refine fb_tI (v := (0 : Int32)) rfl ?_
  refine lv_iload hx hb dX12_feed_76 (lv_at hl 0 rfl) ?_
  refine lv_iadd hx hb dX12_feed_78 ?_
  refine fb_tI (v := (6 : Int32)) (by decide) ?_
  refine lv_aload hx hb dX12_feed_79 (lv_at hl 1 rfl) ?_
  refine lv_iload hx hb dX12_feed_81 (lv_at hl 0 rfl) ?_
  refine lv_iconst (v := (4 : Int32)) hx hb dX12_feed_83 (by decide) ?_
  refine lv_idiv hx hb dX12_feed_84 (by decide) ?_
  refine fb_tI (v := (1 : Int32)) (by decide) ?_
  refine fb_iaC (n := 1) (v := l2) X I 2 0 rfl rfl (by decide) (by decide) (Nat.le_of_ble_eq_true rfl) ((pk_un (by decide)).trans ((pk_un (by decide)).trans ((pk_un (by decide)).trans pk_us))) dX12_feed_85 ?_
  refine lv_bipush (v := (24 : Int32)) hx hb dX12_feed_86 (by decide) ?_
  refine lv_iload hx hb dX12_feed_88 (lv_at hl 0 rfl) ?_
  refine lv_iconst (v := (4 : Int32)) hx hb dX12_feed_90 (by decide) ?_
  refine lv_irem hx hb dX12_feed_91 (by decide) ?_
  refine fb_tI (v := (2 : Int32)) (by decide) ?_
  refine lv_bipush (v := (8 : Int32)) hx hb dX12_feed_92 (by decide) ?_
  refine lv_imul hx hb dX12_feed_94 ?_
  refine fb_tI (v := (16 : Int32)) (by decide) ?_
  refine lv_isub hx hb dX12_feed_95 ?_
  refine fb_tI (v := (8 : Int32)) (by decide) ?_
  refine lv_ishr hx hb dX12_feed_96 ?_
  refine lv_i2b (v := (((l2 >>> ((8 : Int32) &&& 31))).toInt8.toInt32)) hx hb dX12_feed_97 rfl ?_
  refine fb_bsC (n := 6) (wn := ([fb_o12 za zr (upd fr_e0 19 (0 : Int32)), fb_aw (D.1 21) (zr 20) 2000 (upd w15 6 (vp_nar .byte (((l2 >>> ((8 : Int32) &&& 31))).toInt8.toInt32))), fb_aw cI x3 5 (upd (upd (upd (upd (upd (fun _ => 0) 0 l1) 1 l2) 2 l3) 3 l4) 4 l5)] : List va_W).flatten) X I 1 3 rfl rfl (by decide) (by decide) (Nat.le_of_ble_eq_true rfl) rfl dX12_feed_98 (fun H locs I => ?_)
  refine lv_iinc (v := (7 : Int32)) (lv' := [(7, .int (7 : Int32)), (6, .ref x3), (0, .ref za), (1, .int l1), (2, .int l2), (3, .int l3), (4, .int l4), (5, .int l5)]) hx hb dX12_feed_99 hl (k := 0) rfl (by decide) (by decide) rfl (fun ls hl => ?_)
  refine lv_goto (tgt := 61) hx hb dX12_feed_102 (by decide) ?_
  obtain ⟨w17, ew17⟩ : ∃ z : fb_AR, (upd w15 6 (vp_nar .byte (((l2 >>> ((8 : Int32) &&& 31))).toInt8.toInt32))) = z := ⟨_, rfl⟩
  rw [ew17] at I
  refine lv_iload hx hb dX12_feed_61 (lv_at hl 0 rfl) ?_
  refine lv_bipush (v := (20 : Int32)) hx hb dX12_feed_63 (by decide) ?_
  refine lv_icmp_ge (tgt := 105) hx hb dX12_feed_65 (by decide) (fun c18 => absurd c18 (by decide)) (fun _ => ?_)
  refine lv_aload_n hx hb dX12_feed_68 rfl (lv_at hl 2 rfl) ?_
  refine fb_get X I (k := 20) (v := .ref (zr 20)) fu_X12 0 fb_h12 rfl (Nat.le_of_ble_eq_true rfl) fw_1984 rfl rfl dX12_feed_69 ?_
  refine lv_aload_n hx hb dX12_feed_72 rfl (lv_at hl 2 rfl) ?_
  refine fb_get X I (k := 21) (v := .int (fr_e0 21)) fu_X12 0 fb_h12 rfl (Nat.le_of_ble_eq_true rfl) fw_1985 rfl rfl dX12_feed_73 ?_
  refine fb_tI (v := (0 : Int32)) rfl ?_
  refine lv_iload hx hb dX12_feed_76 (lv_at hl 0 rfl) ?_
  refine lv_iadd hx hb dX12_feed_78 ?_
  refine fb_tI (v := (7 : Int32)) (by decide) ?_
  refine lv_aload hx hb dX12_feed_79 (lv_at hl 1 rfl) ?_
  refine lv_iload hx hb dX12_feed_81 (lv_at hl 0 rfl) ?_
  refine lv_iconst (v := (4 : Int32)) hx hb dX12_feed_83 (by decide) ?_
  refine lv_idiv hx hb dX12_feed_84 (by decide) ?_
  refine fb_tI (v := (1 : Int32)) (by decide) ?_
  refine fb_iaC (n := 1) (v := l2) X I 2 0 rfl rfl (by decide) (by decide) (Nat.le_of_ble_eq_true rfl) ((pk_un (by decide)).trans ((pk_un (by decide)).trans ((pk_un (by decide)).trans pk_us))) dX12_feed_85 ?_
  refine lv_bipush (v := (24 : Int32)) hx hb dX12_feed_86 (by decide) ?_
  refine lv_iload hx hb dX12_feed_88 (lv_at hl 0 rfl) ?_
  refine lv_iconst (v := (4 : Int32)) hx hb dX12_feed_90 (by decide) ?_
  refine lv_irem hx hb dX12_feed_91 (by decide) ?_
  refine fb_tI (v := (3 : Int32)) (by decide) ?_
  refine lv_bipush (v := (8 : Int32)) hx hb dX12_feed_92 (by decide) ?_
  refine lv_imul hx hb dX12_feed_94 ?_
  refine fb_tI (v := (24 : Int32)) (by decide) ?_
  refine lv_isub hx hb dX12_feed_95 ?_
  refine fb_tI (v := (0 : Int32)) (by decide) ?_
  refine lv_ishr hx hb dX12_feed_96 ?_
  refine lv_i2b (v := (((l2 >>> ((0 : Int32) &&& 31))).toInt8.toInt32)) hx hb dX12_feed_97 rfl ?_
  refine fb_bsC (n := 7) (wn := ([fb_o12 za zr (upd fr_e0 19 (0 : Int32)), fb_aw (D.1 21) (zr 20) 2000 (upd w17 7 (vp_nar .byte (((l2 >>> ((0 : Int32) &&& 31))).toInt8.toInt32))), fb_aw cI x3 5 (upd (upd (upd (upd (upd (fun _ => 0) 0 l1) 1 l2) 2 l3) 3 l4) 4 l5)] : List va_W).flatten) X I 1 3 rfl rfl (by decide) (by decide) (Nat.le_of_ble_eq_true rfl) rfl dX12_feed_98 (fun H locs I => ?_)
  refine lv_iinc (v := (8 : Int32)) (lv' := [(7, .int (8 : Int32)), (6, .ref x3), (0, .ref za), (1, .int l1), (2, .int l2), (3, .int l3), (4, .int l4), (5, .int l5)]) hx hb dX12_feed_99 hl (k := 0) rfl (by decide) (by decide) rfl (fun ls hl => ?_)
  refine lv_goto (tgt := 61) hx hb dX12_feed_102 (by decide) ?_
  obtain ⟨w19, ew19⟩ : ∃ z : fb_AR, (upd w17 7 (vp_nar .byte (((l2 >>> ((0 : Int32) &&& 31))).toInt8.toInt32))) = z := ⟨_, rfl⟩
  rw [ew19] at I
  refine lv_iload hx hb dX12_feed_61 (lv_at hl 0 rfl) ?_
  refine lv_bipush (v := (20 : Int32)) hx hb dX12_feed_63 (by decide) ?_
  refine lv_icmp_ge (tgt := 105) hx hb dX12_feed_65 (by decide) (fun c20 => absurd c20 (by decide)) (fun _ => ?_)
  refine lv_aload_n hx hb dX12_feed_68 rfl (lv_at hl 2 rfl) ?_
  refine fb_get X I (k := 20) (v := .ref (zr 20)) fu_X12 0 fb_h12 rfl (Nat.le_of_ble_eq_true rfl) fw_1984 rfl rfl dX12_feed_69 ?_
  refine lv_aload_n hx hb dX12_feed_72 rfl (lv_at hl 2 rfl) ?_
  refine fb_get X I (k := 21) (v := .int (fr_e0 21)) fu_X12 0 fb_h12 rfl (Nat.le_of_ble_eq_true rfl) fw_1985 rfl rfl dX12_feed_73 ?_
  refine fb_tI (v := (0 : Int32)) rfl ?_
  refine lv_iload hx hb dX12_feed_76 (lv_at hl 0 rfl) ?_
  refine lv_iadd hx hb dX12_feed_78 ?_
  refine fb_tI (v := (8 : Int32)) (by decide) ?_
  refine lv_aload hx hb dX12_feed_79 (lv_at hl 1 rfl) ?_
  refine lv_iload hx hb dX12_feed_81 (lv_at hl 0 rfl) ?_
  refine lv_iconst (v := (4 : Int32)) hx hb dX12_feed_83 (by decide) ?_
  refine lv_idiv hx hb dX12_feed_84 (by decide) ?_
  refine fb_tI (v := (2 : Int32)) (by decide) ?_
  refine fb_iaC (n := 2) (v := l3) X I 2 0 rfl rfl (by decide) (by decide) (Nat.le_of_ble_eq_true rfl) ((pk_un (by decide)).trans ((pk_un (by decide)).trans pk_us)) dX12_feed_85 ?_
  refine lv_bipush (v := (24 : Int32)) hx hb dX12_feed_86 (by decide) ?_
  refine lv_iload hx hb dX12_feed_88 (lv_at hl 0 rfl) ?_
  refine lv_iconst (v := (4 : Int32)) hx hb dX12_feed_90 (by decide) ?_
  refine lv_irem hx hb dX12_feed_91 (by decide) ?_
  refine fb_tI (v := (0 : Int32)) (by decide) ?_
  refine lv_bipush (v := (8 : Int32)) hx hb dX12_feed_92 (by decide) ?_
  refine lv_imul hx hb dX12_feed_94 ?_
  refine fb_tI (v := (0 : Int32)) (by decide) ?_
  refine lv_isub hx hb dX12_feed_95 ?_
  refine fb_tI (v := (24 : Int32)) (by decide) ?_
  refine lv_ishr hx hb dX12_feed_96 ?_
  refine lv_i2b (v := (((l3 >>> ((24 : Int32) &&& 31))).toInt8.toInt32)) hx hb dX12_feed_97 rfl ?_
  refine fb_bsC (n := 8) (wn := ([fb_o12 za zr (upd fr_e0 19 (0 : Int32)), fb_aw (D.1 21) (zr 20) 2000 (upd w19 8 (vp_nar .byte (((l3 >>> ((24 : Int32) &&& 31))).toInt8.toInt32))), fb_aw cI x3 5 (upd (upd (upd (upd (upd (fun _ => 0) 0 l1) 1 l2) 2 l3) 3 l4) 4 l5)] : List va_W).flatten) X I 1 3 rfl rfl (by decide) (by decide) (Nat.le_of_ble_eq_true rfl) rfl dX12_feed_98 (fun H locs I => ?_)
  refine lv_iinc (v := (9 : Int32)) (lv' := [(7, .int (9 : Int32)), (6, .ref x3), (0, .ref za), (1, .int l1), (2, .int l2), (3, .int l3), (4, .int l4), (5, .int l5)]) hx hb dX12_feed_99 hl (k := 0) rfl (by decide) (by decide) rfl (fun ls hl => ?_)
  refine lv_goto (tgt := 61) hx hb dX12_feed_102 (by decide) ?_
  obtain ⟨w21, ew21⟩ : ∃ z : fb_AR, (upd w19 8 (vp_nar .byte (((l3 >>> ((24 : Int32) &&& 31))).toInt8.toInt32))) = z := ⟨_, rfl⟩
  rw [ew21] at I
  refine lv_iload hx hb dX12_feed_61 (lv_at hl 0 rfl) ?_
  refine lv_bipush (v := (20 : Int32)) hx hb dX12_feed_63 (by decide) ?_
  refine lv_icmp_ge (tgt := 105) hx hb dX12_feed_65 (by decide) (fun c22 => absurd c22 (by decide)) (fun _ => ?_)
  refine lv_aload_n hx hb dX12_feed_68 rfl (lv_at hl 2 rfl) ?_
  refine fb_get X I (k := 20) (v := .ref (zr 20)) fu_X12 0 fb_h12 rfl (Nat.le_of_ble_eq_true rfl) fw_1984 rfl rfl dX12_feed_69 ?_
  refine lv_aload_n hx hb dX12_feed_72 rfl (lv_at hl 2 rfl) ?_
  refine fb_get X I (k := 21) (v := .int (fr_e0 21)) fu_X12 0 fb_h12 rfl (Nat.le_of_ble_eq_true rfl) fw_1985 rfl rfl dX12_feed_73 ?_
  refine fb_tI (v := (0 : Int32)) rfl ?_
  refine lv_iload hx hb dX12_feed_76 (lv_at hl 0 rfl) ?_
  refine lv_iadd hx hb dX12_feed_78 ?_
  refine fb_tI (v := (9 : Int32)) (by decide) ?_
  refine lv_aload hx hb dX12_feed_79 (lv_at hl 1 rfl) ?_
  refine lv_iload hx hb dX12_feed_81 (lv_at hl 0 rfl) ?_
  refine lv_iconst (v := (4 : Int32)) hx hb dX12_feed_83 (by decide) ?_
  refine lv_idiv hx hb dX12_feed_84 (by decide) ?_
  refine fb_tI (v := (2 : Int32)) (by decide) ?_
  refine fb_iaC (n := 2) (v := l3) X I 2 0 rfl rfl (by decide) (by decide) (Nat.le_of_ble_eq_true rfl) ((pk_un (by decide)).trans ((pk_un (by decide)).trans pk_us)) dX12_feed_85 ?_
  refine lv_bipush (v := (24 : Int32)) hx hb dX12_feed_86 (by decide) ?_
  refine lv_iload hx hb dX12_feed_88 (lv_at hl 0 rfl) ?_
  refine lv_iconst (v := (4 : Int32)) hx hb dX12_feed_90 (by decide) ?_
  refine lv_irem hx hb dX12_feed_91 (by decide) ?_
  refine fb_tI (v := (1 : Int32)) (by decide) ?_
  refine lv_bipush (v := (8 : Int32)) hx hb dX12_feed_92 (by decide) ?_
  refine lv_imul hx hb dX12_feed_94 ?_
  refine fb_tI (v := (8 : Int32)) (by decide) ?_
  refine lv_isub hx hb dX12_feed_95 ?_
  refine fb_tI (v := (16 : Int32)) (by decide) ?_
  refine lv_ishr hx hb dX12_feed_96 ?_
  refine lv_i2b (v := (((l3 >>> ((16 : Int32) &&& 31))).toInt8.toInt32)) hx hb dX12_feed_97 rfl ?_
  refine fb_bsC (n := 9) (wn := ([fb_o12 za zr (upd fr_e0 19 (0 : Int32)), fb_aw (D.1 21) (zr 20) 2000 (upd w21 9 (vp_nar .byte (((l3 >>> ((16 : Int32) &&& 31))).toInt8.toInt32))), fb_aw cI x3 5 (upd (upd (upd (upd (upd (fun _ => 0) 0 l1) 1 l2) 2 l3) 3 l4) 4 l5)] : List va_W).flatten) X I 1 3 rfl rfl (by decide) (by decide) (Nat.le_of_ble_eq_true rfl) rfl dX12_feed_98 (fun H locs I => ?_)
  refine lv_iinc (v := (10 : Int32)) (lv' := [(7, .int (10 : Int32)), (6, .ref x3), (0, .ref za), (1, .int l1), (2, .int l2), (3, .int l3), (4, .int l4), (5, .int l5)]) hx hb dX12_feed_99 hl (k := 0) rfl (by decide) (by decide) rfl (fun ls hl => ?_)
  refine lv_goto (tgt := 61) hx hb dX12_feed_102 (by decide) ?_
  obtain ⟨w23, ew23⟩ : ∃ z : fb_AR, (upd w21 9 (vp_nar .byte (((l3 >>> ((16 : Int32) &&& 31))).toInt8.toInt32))) = z := ⟨_, rfl⟩
  rw [ew23] at I
  refine lv_iload hx hb dX12_feed_61 (lv_at hl 0 rfl) ?_
  refine lv_bipush (v := (20 : Int32)) hx hb dX12_feed_63 (by decide) ?_
  refine lv_icmp_ge (tgt := 105) hx hb dX12_feed_65 (by decide) (fun c24 => absurd c24 (by decide)) (fun _ => ?_)
  refine lv_aload_n hx hb dX12_feed_68 rfl (lv_at hl 2 rfl) ?_
  refine fb_get X I (k := 20) (v := .ref (zr 20)) fu_X12 0 fb_h12 rfl (Nat.le_of_ble_eq_true rfl) fw_1984 rfl rfl dX12_feed_69 ?_
  refine lv_aload_n hx hb dX12_feed_72 rfl (lv_at hl 2 rfl) ?_
  refine fb_get X I (k := 21) (v := .int (fr_e0 21)) fu_X12 0 fb_h12 rfl (Nat.le_of_ble_eq_true rfl) fw_1985 rfl rfl dX12_feed_73 ?_
  refine fb_tI (v := (0 : Int32)) rfl ?_
  refine lv_iload hx hb dX12_feed_76 (lv_at hl 0 rfl) ?_
  refine lv_iadd hx hb dX12_feed_78 ?_
  refine fb_tI (v := (10 : Int32)) (by decide) ?_
  refine lv_aload hx hb dX12_feed_79 (lv_at hl 1 rfl) ?_
  refine lv_iload hx hb dX12_feed_81 (lv_at hl 0 rfl) ?_
  refine lv_iconst (v := (4 : Int32)) hx hb dX12_feed_83 (by decide) ?_
  refine lv_idiv hx hb dX12_feed_84 (by decide) ?_
  refine fb_tI (v := (2 : Int32)) (by decide) ?_
  refine fb_iaC (n := 2) (v := l3) X I 2 0 rfl rfl (by decide) (by decide) (Nat.le_of_ble_eq_true rfl) ((pk_un (by decide)).trans ((pk_un (by decide)).trans pk_us)) dX12_feed_85 ?_
  refine lv_bipush (v := (24 : Int32)) hx hb dX12_feed_86 (by decide) ?_
  refine lv_iload hx hb dX12_feed_88 (lv_at hl 0 rfl) ?_
  refine lv_iconst (v := (4 : Int32)) hx hb dX12_feed_90 (by decide) ?_
  refine lv_irem hx hb dX12_feed_91 (by decide) ?_
  refine fb_tI (v := (2 : Int32)) (by decide) ?_
  refine lv_bipush (v := (8 : Int32)) hx hb dX12_feed_92 (by decide) ?_
  refine lv_imul hx hb dX12_feed_94 ?_
  refine fb_tI (v := (16 : Int32)) (by decide) ?_
  refine lv_isub hx hb dX12_feed_95 ?_
  refine fb_tI (v := (8 : Int32)) (by decide) ?_
  refine lv_ishr hx hb dX12_feed_96 ?_
  refine lv_i2b (v := (((l3 >>> ((8 : Int32) &&& 31))).toInt8.toInt32)) hx hb dX12_feed_97 rfl ?_
  refine fb_bsC (n := 10) (wn := ([fb_o12 za zr (upd fr_e0 19 (0 : Int32)), fb_aw (D.1 21) (zr 20) 2000 (upd w23 10 (vp_nar .byte (((l3 >>> ((8 : Int32) &&& 31))).toInt8.toInt32))), fb_aw cI x3 5 (upd (upd (upd (upd (upd (fun _ => 0) 0 l1) 1 l2) 2 l3) 3 l4) 4 l5)] : List va_W).flatten) X I 1 3 rfl rfl (by decide) (by decide) (Nat.le_of_ble_eq_true rfl) rfl dX12_feed_98 (fun H locs I => ?_)
  refine lv_iinc (v := (11 : Int32)) (lv' := [(7, .int (11 : Int32)), (6, .ref x3), (0, .ref za), (1, .int l1), (2, .int l2), (3, .int l3), (4, .int l4), (5, .int l5)]) hx hb dX12_feed_99 hl (k := 0) rfl (by decide) (by decide) rfl (fun ls hl => ?_)
  refine lv_goto (tgt := 61) hx hb dX12_feed_102 (by decide) ?_
  obtain ⟨w25, ew25⟩ : ∃ z : fb_AR, (upd w23 10 (vp_nar .byte (((l3 >>> ((8 : Int32) &&& 31))).toInt8.toInt32))) = z := ⟨_, rfl⟩
  rw [ew25] at I
  refine lv_iload hx hb dX12_feed_61 (lv_at hl 0 rfl) ?_
  refine lv_bipush (v := (20 : Int32)) hx hb dX12_feed_63 (by decide) ?_
  refine lv_icmp_ge (tgt := 105) hx hb dX12_feed_65 (by decide) (fun c26 => absurd c26 (by decide)) (fun _ => ?_)
  refine lv_aload_n hx hb dX12_feed_68 rfl (lv_at hl 2 rfl) ?_
  refine fb_get X I (k := 20) (v := .ref (zr 20)) fu_X12 0 fb_h12 rfl (Nat.le_of_ble_eq_true rfl) fw_1984 rfl rfl dX12_feed_69 ?_
  refine lv_aload_n hx hb dX12_feed_72 rfl (lv_at hl 2 rfl) ?_
  refine fb_get X I (k := 21) (v := .int (fr_e0 21)) fu_X12 0 fb_h12 rfl (Nat.le_of_ble_eq_true rfl) fw_1985 rfl rfl dX12_feed_73 ?_
  refine fb_tI (v := (0 : Int32)) rfl ?_
  refine lv_iload hx hb dX12_feed_76 (lv_at hl 0 rfl) ?_
  refine lv_iadd hx hb dX12_feed_78 ?_
  refine fb_tI (v := (11 : Int32)) (by decide) ?_
  refine lv_aload hx hb dX12_feed_79 (lv_at hl 1 rfl) ?_
  refine lv_iload hx hb dX12_feed_81 (lv_at hl 0 rfl) ?_
  refine lv_iconst (v := (4 : Int32)) hx hb dX12_feed_83 (by decide) ?_
  refine lv_idiv hx hb dX12_feed_84 (by decide) ?_
  refine fb_tI (v := (2 : Int32)) (by decide) ?_
  refine fb_iaC (n := 2) (v := l3) X I 2 0 rfl rfl (by decide) (by decide) (Nat.le_of_ble_eq_true rfl) ((pk_un (by decide)).trans ((pk_un (by decide)).trans pk_us)) dX12_feed_85 ?_
  refine lv_bipush (v := (24 : Int32)) hx hb dX12_feed_86 (by decide) ?_
  refine lv_iload hx hb dX12_feed_88 (lv_at hl 0 rfl) ?_
  refine lv_iconst (v := (4 : Int32)) hx hb dX12_feed_90 (by decide) ?_
  refine lv_irem hx hb dX12_feed_91 (by decide) ?_
  refine fb_tI (v := (3 : Int32)) (by decide) ?_
  refine lv_bipush (v := (8 : Int32)) hx hb dX12_feed_92 (by decide) ?_
  refine lv_imul hx hb dX12_feed_94 ?_
  refine fb_tI (v := (24 : Int32)) (by decide) ?_
  refine lv_isub hx hb dX12_feed_95 ?_
  refine fb_tI (v := (0 : Int32)) (by decide) ?_
  refine lv_ishr hx hb dX12_feed_96 ?_
  refine lv_i2b (v := (((l3 >>> ((0 : Int32) &&& 31))).toInt8.toInt32)) hx hb dX12_feed_97 rfl ?_
  refine fb_bsC (n := 11) (wn := ([fb_o12 za zr (upd fr_e0 19 (0 : Int32)), fb_aw (D.1 21) (zr 20) 2000 (upd w25 11 (vp_nar .byte (((l3 >>> ((0 : Int32) &&& 31))).toInt8.toInt32))), fb_aw cI x3 5 (upd (upd (upd (upd (upd (fun _ => 0) 0 l1) 1 l2) 2 l3) 3 l4) 4 l5)] : List va_W).flatten) X I 1 3 rfl rfl (by decide) (by decide) (Nat.le_of_ble_eq_true rfl) rfl dX12_feed_98 (fun H locs I => ?_)
  refine lv_iinc (v := (12 : Int32)) (lv' := [(7, .int (12 : Int32)), (6, .ref x3), (0, .ref za), (1, .int l1), (2, .int l2), (3, .int l3), (4, .int l4), (5, .int l5)]) hx hb dX12_feed_99 hl (k := 0) rfl (by decide) (by decide) rfl (fun ls hl => ?_)
  refine lv_goto (tgt := 61) hx hb dX12_feed_102 (by decide) ?_
  obtain ⟨w27, ew27⟩ : ∃ z : fb_AR, (upd w25 11 (vp_nar .byte (((l3 >>> ((0 : Int32) &&& 31))).toInt8.toInt32))) = z := ⟨_, rfl⟩
  rw [ew27] at I
  refine lv_iload hx hb dX12_feed_61 (lv_at hl 0 rfl) ?_
  refine lv_bipush (v := (20 : Int32)) hx hb dX12_feed_63 (by decide) ?_
  refine lv_icmp_ge (tgt := 105) hx hb dX12_feed_65 (by decide) (fun c28 => absurd c28 (by decide)) (fun _ => ?_)
  refine lv_aload_n hx hb dX12_feed_68 rfl (lv_at hl 2 rfl) ?_
  refine fb_get X I (k := 20) (v := .ref (zr 20)) fu_X12 0 fb_h12 rfl (Nat.le_of_ble_eq_true rfl) fw_1984 rfl rfl dX12_feed_69 ?_
  refine lv_aload_n hx hb dX12_feed_72 rfl (lv_at hl 2 rfl) ?_
  refine fb_get X I (k := 21) (v := .int (fr_e0 21)) fu_X12 0 fb_h12 rfl (Nat.le_of_ble_eq_true rfl) fw_1985 rfl rfl dX12_feed_73 ?_
  refine fb_tI (v := (0 : Int32)) rfl ?_
  refine lv_iload hx hb dX12_feed_76 (lv_at hl 0 rfl) ?_
  refine lv_iadd hx hb dX12_feed_78 ?_
  refine fb_tI (v := (12 : Int32)) (by decide) ?_
  refine lv_aload hx hb dX12_feed_79 (lv_at hl 1 rfl) ?_
  refine lv_iload hx hb dX12_feed_81 (lv_at hl 0 rfl) ?_
  refine lv_iconst (v := (4 : Int32)) hx hb dX12_feed_83 (by decide) ?_
  refine lv_idiv hx hb dX12_feed_84 (by decide) ?_
  refine fb_tI (v := (3 : Int32)) (by decide) ?_
  refine fb_iaC (n := 3) (v := l4) X I 2 0 rfl rfl (by decide) (by decide) (Nat.le_of_ble_eq_true rfl) ((pk_un (by decide)).trans pk_us) dX12_feed_85 ?_
  refine lv_bipush (v := (24 : Int32)) hx hb dX12_feed_86 (by decide) ?_
  refine lv_iload hx hb dX12_feed_88 (lv_at hl 0 rfl) ?_
  refine lv_iconst (v := (4 : Int32)) hx hb dX12_feed_90 (by decide) ?_
  refine lv_irem hx hb dX12_feed_91 (by decide) ?_
  refine fb_tI (v := (0 : Int32)) (by decide) ?_
  refine lv_bipush (v := (8 : Int32)) hx hb dX12_feed_92 (by decide) ?_
  refine lv_imul hx hb dX12_feed_94 ?_
  refine fb_tI (v := (0 : Int32)) (by decide) ?_
  refine lv_isub hx hb dX12_feed_95 ?_
  refine fb_tI (v := (24 : Int32)) (by decide) ?_
  refine lv_ishr hx hb dX12_feed_96 ?_
  refine lv_i2b (v := (((l4 >>> ((24 : Int32) &&& 31))).toInt8.toInt32)) hx hb dX12_feed_97 rfl ?_
  refine fb_bsC (n := 12) (wn := ([fb_o12 za zr (upd fr_e0 19 (0 : Int32)), fb_aw (D.1 21) (zr 20) 2000 (upd w27 12 (vp_nar .byte (((l4 >>> ((24 : Int32) &&& 31))).toInt8.toInt32))), fb_aw cI x3 5 (upd (upd (upd (upd (upd (fun _ => 0) 0 l1) 1 l2) 2 l3) 3 l4) 4 l5)] : List va_W).flatten) X I 1 3 rfl rfl (by decide) (by decide) (Nat.le_of_ble_eq_true rfl) rfl dX12_feed_98 (fun H locs I => ?_)
  refine lv_iinc (v := (13 : Int32)) (lv' := [(7, .int (13 : Int32)), (6, .ref x3), (0, .ref za), (1, .int l1), (2, .int l2), (3, .int l3), (4, .int l4), (5, .int l5)]) hx hb dX12_feed_99 hl (k := 0) rfl (by decide) (by decide) rfl (fun ls hl => ?_)
  refine lv_goto (tgt := 61) hx hb dX12_feed_102 (by decide) ?_
  obtain ⟨w29, ew29⟩ : ∃ z : fb_AR, (upd w27 12 (vp_nar .byte (((l4 >>> ((24 : Int32) &&& 31))).toInt8.toInt32))) = z := ⟨_, rfl⟩
  rw [ew29] at I
  refine lv_iload hx hb dX12_feed_61 (lv_at hl 0 rfl) ?_
  refine lv_bipush (v := (20 : Int32)) hx hb dX12_feed_63 (by decide) ?_
  refine lv_icmp_ge (tgt := 105) hx hb dX12_feed_65 (by decide) (fun c30 => absurd c30 (by decide)) (fun _ => ?_)
  refine lv_aload_n hx hb dX12_feed_68 rfl (lv_at hl 2 rfl) ?_
  refine fb_get X I (k := 20) (v := .ref (zr 20)) fu_X12 0 fb_h12 rfl (Nat.le_of_ble_eq_true rfl) fw_1984 rfl rfl dX12_feed_69 ?_
  refine lv_aload_n hx hb dX12_feed_72 rfl (lv_at hl 2 rfl) ?_
  refine fb_get X I (k := 21) (v := .int (fr_e0 21)) fu_X12 0 fb_h12 rfl (Nat.le_of_ble_eq_true rfl) fw_1985 rfl rfl dX12_feed_73 ?_
  refine fb_tI (v := (0 : Int32)) rfl ?_
  refine lv_iload hx hb dX12_feed_76 (lv_at hl 0 rfl) ?_
  refine lv_iadd hx hb dX12_feed_78 ?_
  refine fb_tI (v := (13 : Int32)) (by decide) ?_
  refine lv_aload hx hb dX12_feed_79 (lv_at hl 1 rfl) ?_
  refine lv_iload hx hb dX12_feed_81 (lv_at hl 0 rfl) ?_
  refine lv_iconst (v := (4 : Int32)) hx hb dX12_feed_83 (by decide) ?_
  refine lv_idiv hx hb dX12_feed_84 (by decide) ?_
  refine fb_tI (v := (3 : Int32)) (by decide) ?_
  refine fb_iaC (n := 3) (v := l4) X I 2 0 rfl rfl (by decide) (by decide) (Nat.le_of_ble_eq_true rfl) ((pk_un (by decide)).trans pk_us) dX12_feed_85 ?_
  refine lv_bipush (v := (24 : Int32)) hx hb dX12_feed_86 (by decide) ?_
  refine lv_iload hx hb dX12_feed_88 (lv_at hl 0 rfl) ?_
  refine lv_iconst (v := (4 : Int32)) hx hb dX12_feed_90 (by decide) ?_
  refine lv_irem hx hb dX12_feed_91 (by decide) ?_
  refine fb_tI (v := (1 : Int32)) (by decide) ?_
  refine lv_bipush (v := (8 : Int32)) hx hb dX12_feed_92 (by decide) ?_
  refine lv_imul hx hb dX12_feed_94 ?_
  refine fb_tI (v := (8 : Int32)) (by decide) ?_
  refine lv_isub hx hb dX12_feed_95 ?_
  refine fb_tI (v := (16 : Int32)) (by decide) ?_
  refine lv_ishr hx hb dX12_feed_96 ?_
  refine lv_i2b (v := (((l4 >>> ((16 : Int32) &&& 31))).toInt8.toInt32)) hx hb dX12_feed_97 rfl ?_
  refine fb_bsC (n := 13) (wn := ([fb_o12 za zr (upd fr_e0 19 (0 : Int32)), fb_aw (D.1 21) (zr 20) 2000 (upd w29 13 (vp_nar .byte (((l4 >>> ((16 : Int32) &&& 31))).toInt8.toInt32))), fb_aw cI x3 5 (upd (upd (upd (upd (upd (fun _ => 0) 0 l1) 1 l2) 2 l3) 3 l4) 4 l5)] : List va_W).flatten) X I 1 3 rfl rfl (by decide) (by decide) (Nat.le_of_ble_eq_true rfl) rfl dX12_feed_98 (fun H locs I => ?_)
  refine lv_iinc (v := (14 : Int32)) (lv' := [(7, .int (14 : Int32)), (6, .ref x3), (0, .ref za), (1, .int l1), (2, .int l2), (3, .int l3), (4, .int l4), (5, .int l5)]) hx hb dX12_feed_99 hl (k := 0) rfl (by decide) (by decide) rfl (fun ls hl => ?_)
  refine lv_goto (tgt := 61) hx hb dX12_feed_102 (by decide) ?_
  obtain ⟨w31, ew31⟩ : ∃ z : fb_AR, (upd w29 13 (vp_nar .byte (((l4 >>> ((16 : Int32) &&& 31))).toInt8.toInt32))) = z := ⟨_, rfl⟩
  rw [ew31] at I
  refine lv_iload hx hb dX12_feed_61 (lv_at hl 0 rfl) ?_
  refine lv_bipush (v := (20 : Int32)) hx hb dX12_feed_63 (by decide) ?_
  refine lv_icmp_ge (tgt := 105) hx hb dX12_feed_65 (by decide) (fun c32 => absurd c32 (by decide)) (fun _ => ?_)
  refine lv_aload_n hx hb dX12_feed_68 rfl (lv_at hl 2 rfl) ?_
  refine fb_get X I (k := 20) (v := .ref (zr 20)) fu_X12 0 fb_h12 rfl (Nat.le_of_ble_eq_true rfl) fw_1984 rfl rfl dX12_feed_69 ?_
  refine lv_aload_n hx hb dX12_feed_72 rfl (lv_at hl 2 rfl) ?_
  refine fb_get X I (k := 21) (v := .int (fr_e0 21)) fu_X12 0 fb_h12 rfl (Nat.le_of_ble_eq_true rfl) fw_1985 rfl rfl dX12_feed_73 ?_
  refine fb_tI (v := (0 : Int32)) rfl ?_
  refine lv_iload hx hb dX12_feed_76 (lv_at hl 0 rfl) ?_
  refine lv_iadd hx hb dX12_feed_78 ?_
  refine fb_tI (v := (14 : Int32)) (by decide) ?_
  refine lv_aload hx hb dX12_feed_79 (lv_at hl 1 rfl) ?_
  refine lv_iload hx hb dX12_feed_81 (lv_at hl 0 rfl) ?_
  refine lv_iconst (v := (4 : Int32)) hx hb dX12_feed_83 (by decide) ?_
  refine lv_idiv hx hb dX12_feed_84 (by decide) ?_
  refine fb_tI (v := (3 : Int32)) (by decide) ?_
  refine fb_iaC (n := 3) (v := l4) X I 2 0 rfl rfl (by decide) (by decide) (Nat.le_of_ble_eq_true rfl) ((pk_un (by decide)).trans pk_us) dX12_feed_85 ?_
  refine lv_bipush (v := (24 : Int32)) hx hb dX12_feed_86 (by decide) ?_
  refine lv_iload hx hb dX12_feed_88 (lv_at hl 0 rfl) ?_
  refine lv_iconst (v := (4 : Int32)) hx hb dX12_feed_90 (by decide) ?_
  refine lv_irem hx hb dX12_feed_91 (by decide) ?_
  refine fb_tI (v := (2 : Int32)) (by decide) ?_
  refine lv_bipush (v := (8 : Int32)) hx hb dX12_feed_92 (by decide) ?_
  refine lv_imul hx hb dX12_feed_94 ?_
  refine fb_tI (v := (16 : Int32)) (by decide) ?_
  refine lv_isub hx hb dX12_feed_95 ?_
  refine fb_tI (v := (8 : Int32)) (by decide) ?_
  refine lv_ishr hx hb dX12_feed_96 ?_
  refine lv_i2b (v := (((l4 >>> ((8 : Int32) &&& 31))).toInt8.toInt32)) hx hb dX12_feed_97 rfl ?_
  refine fb_bsC (n := 14) (wn := ([fb_o12 za zr (upd fr_e0 19 (0 : Int32)), fb_aw (D.1 21) (zr 20) 2000 (upd w31 14 (vp_nar .byte (((l4 >>> ((8 : Int32) &&& 31))).toInt8.toInt32))), fb_aw cI x3 5 (upd (upd (upd (upd (upd (fun _ => 0) 0 l1) 1 l2) 2 l3) 3 l4) 4 l5)] : List va_W).flatten) X I 1 3 rfl rfl (by decide) (by decide) (Nat.le_of_ble_eq_true rfl) rfl dX12_feed_98 (fun H locs I => ?_)
  refine lv_iinc (v := (15 : Int32)) (lv' := [(7, .int (15 : Int32)), (6, .ref x3), (0, .ref za), (1, .int l1), (2, .int l2), (3, .int l3), (4, .int l4), (5, .int l5)]) hx hb dX12_feed_99 hl (k := 0) rfl (by decide) (by decide) rfl (fun ls hl => ?_)
  refine lv_goto (tgt := 61) hx hb dX12_feed_102 (by decide) ?_
  obtain ⟨w33, ew33⟩ : ∃ z : fb_AR, (upd w31 14 (vp_nar .byte (((l4 >>> ((8 : Int32) &&& 31))).toInt8.toInt32))) = z := ⟨_, rfl⟩
  rw [ew33] at I
  refine lv_iload hx hb dX12_feed_61 (lv_at hl 0 rfl) ?_
  refine lv_bipush (v := (20 : Int32)) hx hb dX12_feed_63 (by decide) ?_
  refine lv_icmp_ge (tgt := 105) hx hb dX12_feed_65 (by decide) (fun c34 => absurd c34 (by decide)) (fun _ => ?_)
  refine lv_aload_n hx hb dX12_feed_68 rfl (lv_at hl 2 rfl) ?_
  refine fb_get X I (k := 20) (v := .ref (zr 20)) fu_X12 0 fb_h12 rfl (Nat.le_of_ble_eq_true rfl) fw_1984 rfl rfl dX12_feed_69 ?_
  refine lv_aload_n hx hb dX12_feed_72 rfl (lv_at hl 2 rfl) ?_
  refine fb_get X I (k := 21) (v := .int (fr_e0 21)) fu_X12 0 fb_h12 rfl (Nat.le_of_ble_eq_true rfl) fw_1985 rfl rfl dX12_feed_73 ?_
  refine fb_tI (v := (0 : Int32)) rfl ?_
  refine lv_iload hx hb dX12_feed_76 (lv_at hl 0 rfl) ?_
  refine lv_iadd hx hb dX12_feed_78 ?_
  refine fb_tI (v := (15 : Int32)) (by decide) ?_
  refine lv_aload hx hb dX12_feed_79 (lv_at hl 1 rfl) ?_
  refine lv_iload hx hb dX12_feed_81 (lv_at hl 0 rfl) ?_
  refine lv_iconst (v := (4 : Int32)) hx hb dX12_feed_83 (by decide) ?_
  refine lv_idiv hx hb dX12_feed_84 (by decide) ?_
  refine fb_tI (v := (3 : Int32)) (by decide) ?_
  refine fb_iaC (n := 3) (v := l4) X I 2 0 rfl rfl (by decide) (by decide) (Nat.le_of_ble_eq_true rfl) ((pk_un (by decide)).trans pk_us) dX12_feed_85 ?_
  refine lv_bipush (v := (24 : Int32)) hx hb dX12_feed_86 (by decide) ?_
  refine lv_iload hx hb dX12_feed_88 (lv_at hl 0 rfl) ?_
  refine lv_iconst (v := (4 : Int32)) hx hb dX12_feed_90 (by decide) ?_
  refine lv_irem hx hb dX12_feed_91 (by decide) ?_
  refine fb_tI (v := (3 : Int32)) (by decide) ?_
  refine lv_bipush (v := (8 : Int32)) hx hb dX12_feed_92 (by decide) ?_
  refine lv_imul hx hb dX12_feed_94 ?_
  refine fb_tI (v := (24 : Int32)) (by decide) ?_
  refine lv_isub hx hb dX12_feed_95 ?_
  refine fb_tI (v := (0 : Int32)) (by decide) ?_
  refine lv_ishr hx hb dX12_feed_96 ?_
  refine lv_i2b (v := (((l4 >>> ((0 : Int32) &&& 31))).toInt8.toInt32)) hx hb dX12_feed_97 rfl ?_
  refine fb_bsC (n := 15) (wn := ([fb_o12 za zr (upd fr_e0 19 (0 : Int32)), fb_aw (D.1 21) (zr 20) 2000 (upd w33 15 (vp_nar .byte (((l4 >>> ((0 : Int32) &&& 31))).toInt8.toInt32))), fb_aw cI x3 5 (upd (upd (upd (upd (upd (fun _ => 0) 0 l1) 1 l2) 2 l3) 3 l4) 4 l5)] : List va_W).flatten) X I 1 3 rfl rfl (by decide) (by decide) (Nat.le_of_ble_eq_true rfl) rfl dX12_feed_98 (fun H locs I => ?_)
  refine lv_iinc (v := (16 : Int32)) (lv' := [(7, .int (16 : Int32)), (6, .ref x3), (0, .ref za), (1, .int l1), (2, .int l2), (3, .int l3), (4, .int l4), (5, .int l5)]) hx hb dX12_feed_99 hl (k := 0) rfl (by decide) (by decide) rfl (fun ls hl => ?_)
  refine lv_goto (tgt := 61) hx hb dX12_feed_102 (by decide) ?_
  obtain ⟨w35, ew35⟩ : ∃ z : fb_AR, (upd w33 15 (vp_nar .byte (((l4 >>> ((0 : Int32) &&& 31))).toInt8.toInt32))) = z := ⟨_, rfl⟩
  rw [ew35] at I
  refine lv_iload hx hb dX12_feed_61 (lv_at hl 0 rfl) ?_
  refine lv_bipush (v := (20 : Int32)) hx hb dX12_feed_63 (by decide) ?_
  refine lv_icmp_ge (tgt := 105) hx hb dX12_feed_65 (by decide) (fun c36 => absurd c36 (by decide)) (fun _ => ?_)
  refine lv_aload_n hx hb dX12_feed_68 rfl (lv_at hl 2 rfl) ?_
  refine fb_get X I (k := 20) (v := .ref (zr 20)) fu_X12 0 fb_h12 rfl (Nat.le_of_ble_eq_true rfl) fw_1984 rfl rfl dX12_feed_69 ?_
  refine lv_aload_n hx hb dX12_feed_72 rfl (lv_at hl 2 rfl) ?_
  refine fb_get X I (k := 21) (v := .int (fr_e0 21)) fu_X12 0 fb_h12 rfl (Nat.le_of_ble_eq_true rfl) fw_1985 rfl rfl dX12_feed_73 ?_
  refine fb_tI (v := (0 : Int32)) rfl ?_
  refine lv_iload hx hb dX12_feed_76 (lv_at hl 0 rfl) ?_
  refine lv_iadd hx hb dX12_feed_78 ?_
  refine fb_tI (v := (16 : Int32)) (by decide) ?_
  refine lv_aload hx hb dX12_feed_79 (lv_at hl 1 rfl) ?_
  refine lv_iload hx hb dX12_feed_81 (lv_at hl 0 rfl) ?_
  refine lv_iconst (v := (4 : Int32)) hx hb dX12_feed_83 (by decide) ?_
  refine lv_idiv hx hb dX12_feed_84 (by decide) ?_
  refine fb_tI (v := (4 : Int32)) (by decide) ?_
  refine fb_iaC (n := 4) (v := l5) X I 2 0 rfl rfl (by decide) (by decide) (Nat.le_of_ble_eq_true rfl) pk_us dX12_feed_85 ?_
  refine lv_bipush (v := (24 : Int32)) hx hb dX12_feed_86 (by decide) ?_
  refine lv_iload hx hb dX12_feed_88 (lv_at hl 0 rfl) ?_
  refine lv_iconst (v := (4 : Int32)) hx hb dX12_feed_90 (by decide) ?_
  refine lv_irem hx hb dX12_feed_91 (by decide) ?_
  refine fb_tI (v := (0 : Int32)) (by decide) ?_
  refine lv_bipush (v := (8 : Int32)) hx hb dX12_feed_92 (by decide) ?_
  refine lv_imul hx hb dX12_feed_94 ?_
  refine fb_tI (v := (0 : Int32)) (by decide) ?_
  refine lv_isub hx hb dX12_feed_95 ?_
  refine fb_tI (v := (24 : Int32)) (by decide) ?_
  refine lv_ishr hx hb dX12_feed_96 ?_
  refine lv_i2b (v := (((l5 >>> ((24 : Int32) &&& 31))).toInt8.toInt32)) hx hb dX12_feed_97 rfl ?_
  refine fb_bsC (n := 16) (wn := ([fb_o12 za zr (upd fr_e0 19 (0 : Int32)), fb_aw (D.1 21) (zr 20) 2000 (upd w35 16 (vp_nar .byte (((l5 >>> ((24 : Int32) &&& 31))).toInt8.toInt32))), fb_aw cI x3 5 (upd (upd (upd (upd (upd (fun _ => 0) 0 l1) 1 l2) 2 l3) 3 l4) 4 l5)] : List va_W).flatten) X I 1 3 rfl rfl (by decide) (by decide) (Nat.le_of_ble_eq_true rfl) rfl dX12_feed_98 (fun H locs I => ?_)
  refine lv_iinc (v := (17 : Int32)) (lv' := [(7, .int (17 : Int32)), (6, .ref x3), (0, .ref za), (1, .int l1), (2, .int l2), (3, .int l3), (4, .int l4), (5, .int l5)]) hx hb dX12_feed_99 hl (k := 0) rfl (by decide) (by decide) rfl (fun ls hl => ?_)
  refine lv_goto (tgt := 61) hx hb dX12_feed_102 (by decide) ?_
  obtain ⟨w37, ew37⟩ : ∃ z : fb_AR, (upd w35 16 (vp_nar .byte (((l5 >>> ((24 : Int32) &&& 31))).toInt8.toInt32))) = z := ⟨_, rfl⟩
  rw [ew37] at I
  refine lv_iload hx hb dX12_feed_61 (lv_at hl 0 rfl) ?_
  refine lv_bipush (v := (20 : Int32)) hx hb dX12_feed_63 (by decide) ?_
  refine lv_icmp_ge (tgt := 105) hx hb dX12_feed_65 (by decide) (fun c38 => absurd c38 (by decide)) (fun _ => ?_)
  refine lv_aload_n hx hb dX12_feed_68 rfl (lv_at hl 2 rfl) ?_
  refine fb_get X I (k := 20) (v := .ref (zr 20)) fu_X12 0 fb_h12 rfl (Nat.le_of_ble_eq_true rfl) fw_1984 rfl rfl dX12_feed_69 ?_
  refine lv_aload_n hx hb dX12_feed_72 rfl (lv_at hl 2 rfl) ?_
  refine fb_get X I (k := 21) (v := .int (fr_e0 21)) fu_X12 0 fb_h12 rfl (Nat.le_of_ble_eq_true rfl) fw_1985 rfl rfl dX12_feed_73 ?_
  refine fb_tI (v := (0 : Int32)) rfl ?_
  refine lv_iload hx hb dX12_feed_76 (lv_at hl 0 rfl) ?_
  refine lv_iadd hx hb dX12_feed_78 ?_
  refine fb_tI (v := (17 : Int32)) (by decide) ?_
  refine lv_aload hx hb dX12_feed_79 (lv_at hl 1 rfl) ?_
  refine lv_iload hx hb dX12_feed_81 (lv_at hl 0 rfl) ?_
  refine lv_iconst (v := (4 : Int32)) hx hb dX12_feed_83 (by decide) ?_
  refine lv_idiv hx hb dX12_feed_84 (by decide) ?_
  refine fb_tI (v := (4 : Int32)) (by decide) ?_
  refine fb_iaC (n := 4) (v := l5) X I 2 0 rfl rfl (by decide) (by decide) (Nat.le_of_ble_eq_true rfl) pk_us dX12_feed_85 ?_
  refine lv_bipush (v := (24 : Int32)) hx hb dX12_feed_86 (by decide) ?_
  refine lv_iload hx hb dX12_feed_88 (lv_at hl 0 rfl) ?_
  refine lv_iconst (v := (4 : Int32)) hx hb dX12_feed_90 (by decide) ?_
  refine lv_irem hx hb dX12_feed_91 (by decide) ?_
  refine fb_tI (v := (1 : Int32)) (by decide) ?_
  refine lv_bipush (v := (8 : Int32)) hx hb dX12_feed_92 (by decide) ?_
  refine lv_imul hx hb dX12_feed_94 ?_
  refine fb_tI (v := (8 : Int32)) (by decide) ?_
  refine lv_isub hx hb dX12_feed_95 ?_
  refine fb_tI (v := (16 : Int32)) (by decide) ?_
  refine lv_ishr hx hb dX12_feed_96 ?_
  refine lv_i2b (v := (((l5 >>> ((16 : Int32) &&& 31))).toInt8.toInt32)) hx hb dX12_feed_97 rfl ?_
  refine fb_bsC (n := 17) (wn := ([fb_o12 za zr (upd fr_e0 19 (0 : Int32)), fb_aw (D.1 21) (zr 20) 2000 (upd w37 17 (vp_nar .byte (((l5 >>> ((16 : Int32) &&& 31))).toInt8.toInt32))), fb_aw cI x3 5 (upd (upd (upd (upd (upd (fun _ => 0) 0 l1) 1 l2) 2 l3) 3 l4) 4 l5)] : List va_W).flatten) X I 1 3 rfl rfl (by decide) (by decide) (Nat.le_of_ble_eq_true rfl) rfl dX12_feed_98 (fun H locs I => ?_)
  refine lv_iinc (v := (18 : Int32)) (lv' := [(7, .int (18 : Int32)), (6, .ref x3), (0, .ref za), (1, .int l1), (2, .int l2), (3, .int l3), (4, .int l4), (5, .int l5)]) hx hb dX12_feed_99 hl (k := 0) rfl (by decide) (by decide) rfl (fun ls hl => ?_)
  refine lv_goto (tgt := 61) hx hb dX12_feed_102 (by decide) ?_
  obtain ⟨w39, ew39⟩ : ∃ z : fb_AR, (upd w37 17 (vp_nar .byte (((l5 >>> ((16 : Int32) &&& 31))).toInt8.toInt32))) = z := ⟨_, rfl⟩
  rw [ew39] at I
  refine lv_iload hx hb dX12_feed_61 (lv_at hl 0 rfl) ?_
  refine lv_bipush (v := (20 : Int32)) hx hb dX12_feed_63 (by decide) ?_
  refine lv_icmp_ge (tgt := 105) hx hb dX12_feed_65 (by decide) (fun c40 => absurd c40 (by decide)) (fun _ => ?_)
  refine lv_aload_n hx hb dX12_feed_68 rfl (lv_at hl 2 rfl) ?_
  refine fb_get X I (k := 20) (v := .ref (zr 20)) fu_X12 0 fb_h12 rfl (Nat.le_of_ble_eq_true rfl) fw_1984 rfl rfl dX12_feed_69 ?_
  refine lv_aload_n hx hb dX12_feed_72 rfl (lv_at hl 2 rfl) ?_
  refine fb_get X I (k := 21) (v := .int (fr_e0 21)) fu_X12 0 fb_h12 rfl (Nat.le_of_ble_eq_true rfl) fw_1985 rfl rfl dX12_feed_73 ?_
  refine fb_tI (v := (0 : Int32)) rfl ?_
  refine lv_iload hx hb dX12_feed_76 (lv_at hl 0 rfl) ?_
  refine lv_iadd hx hb dX12_feed_78 ?_
  refine fb_tI (v := (18 : Int32)) (by decide) ?_
  refine lv_aload hx hb dX12_feed_79 (lv_at hl 1 rfl) ?_
  refine lv_iload hx hb dX12_feed_81 (lv_at hl 0 rfl) ?_
  refine lv_iconst (v := (4 : Int32)) hx hb dX12_feed_83 (by decide) ?_
  refine lv_idiv hx hb dX12_feed_84 (by decide) ?_
  refine fb_tI (v := (4 : Int32)) (by decide) ?_
  refine fb_iaC (n := 4) (v := l5) X I 2 0 rfl rfl (by decide) (by decide) (Nat.le_of_ble_eq_true rfl) pk_us dX12_feed_85 ?_
  refine lv_bipush (v := (24 : Int32)) hx hb dX12_feed_86 (by decide) ?_
  refine lv_iload hx hb dX12_feed_88 (lv_at hl 0 rfl) ?_
  refine lv_iconst (v := (4 : Int32)) hx hb dX12_feed_90 (by decide) ?_
  refine lv_irem hx hb dX12_feed_91 (by decide) ?_
  refine fb_tI (v := (2 : Int32)) (by decide) ?_
  refine lv_bipush (v := (8 : Int32)) hx hb dX12_feed_92 (by decide) ?_
  refine lv_imul hx hb dX12_feed_94 ?_
  refine fb_tI (v := (16 : Int32)) (by decide) ?_
  refine lv_isub hx hb dX12_feed_95 ?_
  refine fb_tI (v := (8 : Int32)) (by decide) ?_
  refine lv_ishr hx hb dX12_feed_96 ?_
  refine lv_i2b (v := (((l5 >>> ((8 : Int32) &&& 31))).toInt8.toInt32)) hx hb dX12_feed_97 rfl ?_
  refine fb_bsC (n := 18) (wn := ([fb_o12 za zr (upd fr_e0 19 (0 : Int32)), fb_aw (D.1 21) (zr 20) 2000 (upd w39 18 (vp_nar .byte (((l5 >>> ((8 : Int32) &&& 31))).toInt8.toInt32))), fb_aw cI x3 5 (upd (upd (upd (upd (upd (fun _ => 0) 0 l1) 1 l2) 2 l3) 3 l4) 4 l5)] : List va_W).flatten) X I 1 3 rfl rfl (by decide) (by decide) (Nat.le_of_ble_eq_true rfl) rfl dX12_feed_98 (fun H locs I => ?_)
  refine lv_iinc (v := (19 : Int32)) (lv' := [(7, .int (19 : Int32)), (6, .ref x3), (0, .ref za), (1, .int l1), (2, .int l2), (3, .int l3), (4, .int l4), (5, .int l5)]) hx hb dX12_feed_99 hl (k := 0) rfl (by decide) (by decide) rfl (fun ls hl => ?_)
  refine lv_goto (tgt := 61) hx hb dX12_feed_102 (by decide) ?_
  obtain ⟨w41, ew41⟩ : ∃ z : fb_AR, (upd w39 18 (vp_nar .byte (((l5 >>> ((8 : Int32) &&& 31))).toInt8.toInt32))) = z := ⟨_, rfl⟩
  rw [ew41] at I
  refine lv_iload hx hb dX12_feed_61 (lv_at hl 0 rfl) ?_
  refine lv_bipush (v := (20 : Int32)) hx hb dX12_feed_63 (by decide) ?_
  refine lv_icmp_ge (tgt := 105) hx hb dX12_feed_65 (by decide) (fun c42 => absurd c42 (by decide)) (fun _ => ?_)
  refine lv_aload_n hx hb dX12_feed_68 rfl (lv_at hl 2 rfl) ?_
  refine fb_get X I (k := 20) (v := .ref (zr 20)) fu_X12 0 fb_h12 rfl (Nat.le_of_ble_eq_true rfl) fw_1984 rfl rfl dX12_feed_69 ?_
  refine lv_aload_n hx hb dX12_feed_72 rfl (lv_at hl 2 rfl) ?_
  refine fb_get X I (k := 21) (v := .int (fr_e0 21)) fu_X12 0 fb_h12 rfl (Nat.le_of_ble_eq_true rfl) fw_1985 rfl rfl dX12_feed_73 ?_
  refine fb_tI (v := (0 : Int32)) rfl ?_
  refine lv_iload hx hb dX12_feed_76 (lv_at hl 0 rfl) ?_
  refine lv_iadd hx hb dX12_feed_78 ?_
  refine fb_tI (v := (19 : Int32)) (by decide) ?_
  refine lv_aload hx hb dX12_feed_79 (lv_at hl 1 rfl) ?_
  refine lv_iload hx hb dX12_feed_81 (lv_at hl 0 rfl) ?_
  refine lv_iconst (v := (4 : Int32)) hx hb dX12_feed_83 (by decide) ?_
  refine lv_idiv hx hb dX12_feed_84 (by decide) ?_
  refine fb_tI (v := (4 : Int32)) (by decide) ?_
  refine fb_iaC (n := 4) (v := l5) X I 2 0 rfl rfl (by decide) (by decide) (Nat.le_of_ble_eq_true rfl) pk_us dX12_feed_85 ?_
  refine lv_bipush (v := (24 : Int32)) hx hb dX12_feed_86 (by decide) ?_
  refine lv_iload hx hb dX12_feed_88 (lv_at hl 0 rfl) ?_
  refine lv_iconst (v := (4 : Int32)) hx hb dX12_feed_90 (by decide) ?_
  refine lv_irem hx hb dX12_feed_91 (by decide) ?_
  refine fb_tI (v := (3 : Int32)) (by decide) ?_
  refine lv_bipush (v := (8 : Int32)) hx hb dX12_feed_92 (by decide) ?_
  refine lv_imul hx hb dX12_feed_94 ?_
  refine fb_tI (v := (24 : Int32)) (by decide) ?_
  refine lv_isub hx hb dX12_feed_95 ?_
  refine fb_tI (v := (0 : Int32)) (by decide) ?_
  refine lv_ishr hx hb dX12_feed_96 ?_
  refine lv_i2b (v := (((l5 >>> ((0 : Int32) &&& 31))).toInt8.toInt32)) hx hb dX12_feed_97 rfl ?_
  refine fb_bsC (n := 19) (wn := ([fb_o12 za zr (upd fr_e0 19 (0 : Int32)), fb_aw (D.1 21) (zr 20) 2000 (upd w41 19 (vp_nar .byte (((l5 >>> ((0 : Int32) &&& 31))).toInt8.toInt32))), fb_aw cI x3 5 (upd (upd (upd (upd (upd (fun _ => 0) 0 l1) 1 l2) 2 l3) 3 l4) 4 l5)] : List va_W).flatten) X I 1 3 rfl rfl (by decide) (by decide) (Nat.le_of_ble_eq_true rfl) rfl dX12_feed_98 (fun H locs I => ?_)
  refine lv_iinc (v := (20 : Int32)) (lv' := [(7, .int (20 : Int32)), (6, .ref x3), (0, .ref za), (1, .int l1), (2, .int l2), (3, .int l3), (4, .int l4), (5, .int l5)]) hx hb dX12_feed_99 hl (k := 0) rfl (by decide) (by decide) rfl (fun ls hl => ?_)
  refine lv_goto (tgt := 61) hx hb dX12_feed_102 (by decide) ?_
  obtain ⟨w43, ew43⟩ : ∃ z : fb_AR, (upd w41 19 (vp_nar .byte (((l5 >>> ((0 : Int32) &&& 31))).toInt8.toInt32))) = z := ⟨_, rfl⟩
  rw [ew43] at I
  refine lv_iload hx hb dX12_feed_61 (lv_at hl 0 rfl) ?_
  refine lv_bipush (v := (20 : Int32)) hx hb dX12_feed_63 (by decide) ?_
  refine lv_icmp_ge (tgt := 105) hx hb dX12_feed_65 (by decide) (fun _ => ?_) (fun c44 => absurd (by decide) c44)
  refine lv_aload_n hx hb dX12_feed_105 rfl (lv_at hl 2 rfl) ?_
  refine lv_dup hx hb dX12_feed_106 rfl ?_
  refine fb_get X I (k := 21) (v := .int (fr_e0 21)) fu_X12 0 fb_h12 rfl (Nat.le_of_ble_eq_true rfl) fw_1985 rfl rfl dX12_feed_107 ?_
  refine fb_tI (v := (0 : Int32)) rfl ?_
  refine lv_bipush (v := (20 : Int32)) hx hb dX12_feed_110 (by decide) ?_
  refine lv_iadd hx hb dX12_feed_112 ?_
  refine fb_tI (v := (20 : Int32)) (by decide) ?_
  refine fb_put X I (k := 21) (wn := ([fb_o12 za zr (upd (upd fr_e0 19 (0 : Int32)) 21 (20 : Int32)), fb_aw (D.1 21) (zr 20) 2000 w43, fb_aw cI x3 5 (upd (upd (upd (upd (upd (fun _ => 0) 0 l1) 1 l2) 2 l3) 3 l4) 4 l5)] : List va_W).flatten) fu_X12 tyX12 tyX12_ok nmX12 0 fb_h12 rfl (Nat.le_of_ble_eq_true rfl) fw_1985 rfl rfl rfl rfl rfl (Nat.le_of_ble_eq_true rfl) fb_r12_21 dX12_feed_113 (fun H locs I => ?_)
  refine lv_aload_n hx hb dX12_feed_116 rfl (lv_at hl 2 rfl) ?_
  refine fb_gV (cs := [fb_o12 za zr (upd (upd fr_e0 19 (0 : Int32)) 21 (20 : Int32))]) (rs := [fb_aw (D.1 21) (zr 20) 2000 w43, fb_aw cI x3 5 (upd (upd (upd (upd (upd (fun _ => 0) 0 l1) 1 l2) 2 l3) 3 l4) 4 l5)]) (fun (t : Unit) => [fb_o12 za zr (upd (upd (upd fr_e0 19 (0 : Int32)) 21 (20 : Int32)) 2 (0 : Int32)), fb_aw (D.1 21) (zr 20) 2000 w43, fb_aw cI x3 5 (upd (upd (upd (upd (upd (fun _ => 0) 0 l1) 1 l2) 2 l3) 3 l4) 4 l5)]) (fun (t : Unit) => [fb_o12 za zr (upd (upd (upd fr_e0 19 (0 : Int32)) 21 (20 : Int32)) 2 (0 : Int32))]) X I [0, 1, 2] 3 rfl (by decide +kernel) rfl rfl [0, 1, 2] 3 (fun _ => rfl) (by decide +kernel) (fun _ => rfl) (fun _ => rfl) (fun I => fb_rV (As := []) (rest := []) X hl (fb_goodV fw_1960 fw_1962 fw_88 fw_204 fw_1963) (c_forget l D cI cJ za zr (upd (upd fr_e0 19 (0 : Int32)) 21 (20 : Int32)) _ ) rfl rfl rfl (by decide +kernel : fb_hd yX12_forget 0) ⟨Nat.le_of_ble_eq_true rfl, Nat.le_of_ble_eq_true rfl⟩ rfl rfl rfl rfl rfl (Nat.le_of_ble_eq_true rfl) ⟨Nat.le_of_ble_eq_true rfl, Nat.le_of_ble_eq_true rfl⟩ dX12_feed_117 I) ?_
  intro w45 H locs _ I
  have I : fb_In D A s.heap (([fb_o12 za zr (upd (upd (upd fr_e0 19 (0 : Int32)) 21 (20 : Int32)) 2 (0 : Int32)), fb_aw (D.1 21) (zr 20) 2000 w43, fb_aw cI x3 5 (upd (upd (upd (upd (upd (fun _ => 0) 0 l1) 1 l2) 2 l3) 3 l4) 4 l5)] : List va_W).flatten) H locs := I
  refine lv_aload_n hx hb dX12_feed_120 rfl (lv_at hl 2 rfl) ?_
  refine fb_get X I (k := 21) (v := .int (20 : Int32)) fu_X12 0 fb_h12 rfl (Nat.le_of_ble_eq_true rfl) fw_1985 rfl rfl dX12_feed_121 ?_
  refine W.widen (k := 1) (n := 5) (by omega) (by omega) ?_
  exact fb_retI (u := (w43, x3)) X I rfl rfl dX12_feed_124

set_option maxHeartbeats 4000000 in
set_option maxRecDepth 100000 in
theorem b_reached_75 {p : Program} {l : Launch} {e : Env} {s : State} {m : MethodId} {args : Array Value} {below : List Frame} {meth : Method} {c : Code} {D : va_G} {cI cJ : ClassId} {A : Nat → Prop} {za : Nat} {zr : Nat → Nat} {x1 : Nat} {x2 : Nat} (X : fb_Bx p s m args meth c cX12_reached RX12 14 (some (.array .boolean)) D (fb_ty D cI cJ) A)   : ∀ (n zi : Nat) (hn : zi + n = 4095) (zb : fb_AR) (zc : fb_AR) (ib : ∀ j, j < 4096 → zb j = if j ≤ zi then 1 else 0) (ic : ∀ j, j ≤ zi → zc j = nI j) (H : Heap) (locs : List Loc) (ls : Array Slot) (I : fb_In D A s.heap (([fb_o12 za zr fr_e0, fb_aw cI (zr 0) 16205 (fr_m (fun _ => 0) 0), fb_aw (D.1 20) x1 4096 zb, fb_aw cI x2 4096 zc] : List va_W).flatten) H locs) (hl : lv_has ls 14 [(4, .int (nI zi)), (3, .int (nI (zi + 1))), (2, .ref x2), (1, .ref x1), (0, .ref za)]), W p l e ({ frames := 5, cells := 4098, slots := 16384, locals := 122 } : Room) s m args below meth c H locs ((0 + 1 + 1 + 1 * zi)) ((0 + 4096 + 4096 + 2 * zi)) (MQ below (fb_QR D A (fun (t : fb_AR) => ∀ j, j < 4096 → t j = 1) (fun (t : fb_AR) (rr : Nat) => ([fb_o12 za zr fr_e0, fb_aw cI (zr 0) 16205 (fr_m (fun _ => 0) 0), fb_aw (D.1 20) rr 4096 t] : List va_W).flatten)) args s 4098 16384 A) (F0 m 75 ls []) := by
  intro n
  obtain ⟨hx, hb, hr, hml, hown, hts, hlk, hA, hK, hF⟩ := id X
  induction n with
  | zero =>
    intro zi hn zb zc ib ic H locs ls I hl
    have ziE : 4095 = zi := by omega
    subst ziE
    refine lv_iload hx hb dX12_reached_75 (lv_at hl 0 rfl) ?_
    refine lv_iload_n hx hb dX12_reached_77 rfl (lv_at hl 1 rfl) ?_
    refine lv_icmp_ge (tgt := 348) hx hb dX12_reached_78 (by decide) (fun c31 => absurd c31 (nI_ge (a := 4095) (b := (4095 + 1)) (by omega) (by omega))) (fun _ => ?_)
    refine lv_aload_n hx hb dX12_reached_81 rfl (lv_at hl 2 rfl) ?_
    refine lv_iload hx hb dX12_reached_82 (lv_at hl 0 rfl) ?_
    refine fb_iaC (n := 4095) (v := (nI 4095)) X I 3 0 rfl rfl (nI_clamp (by omega)) (nI_pos (by omega)) (by omega) (ic 4095 (by omega)) dX12_reached_84 ?_
    refine lv_istore (lv' := [(5, .int (nI 4095)), (4, .int (nI 4095)), (3, .int (nI (4095 + 1))), (2, .ref x2), (1, .ref x1), (0, .ref za)]) hx hb dX12_reached_85 hl (by decide) rfl (fun ls hl => ?_)
    refine lv_aload_n hx hb dX12_reached_87 rfl (lv_at hl 5 rfl) ?_
    refine lv_iload hx hb dX12_reached_88 (lv_at hl 0 rfl) ?_
    refine fb_gO (cs := [fb_o12 za zr fr_e0, fb_aw cI (zr 0) 16205 (fr_m (fun _ => 0) 0)]) (rs := [fb_aw (D.1 20) x1 4096 zb, fb_aw cI x2 4096 zc]) X I [0, 1, 2, 3] 4 rfl (by decide +kernel) rfl rfl (fun I => fb_rV (As := [.int (nI 4095)]) (rest := []) X hl (fb_goodV fw_1949 fw_1951 fw_86 fw_204 fw_1952) (c_code l D cI cJ za zr fr_e0 (fr_m (fun _ => 0) 0) (nI 4095) _ (fr_hm _ _) rfl) rfl rfl rfl (by decide +kernel : fb_hd yX12_code 1) ⟨Nat.le_of_ble_eq_true rfl, Nat.le_of_ble_eq_true rfl⟩ rfl rfl rfl rfl rfl (Nat.le_of_ble_eq_true rfl) ⟨by show (0 + 1 + 1 + 1 * 4095) + 0 ≤ 4098; omega, by show (0 + 4096 + 4096 + 2 * 4095) + 0 ≤ 16384; omega⟩ dX12_reached_90 I) ?_
    refine lv_istore (lv' := [(6, .int (0 : Int32)), (5, .int (nI 4095)), (4, .int (nI 4095)), (3, .int (nI (4095 + 1))), (2, .ref x2), (1, .ref x1), (0, .ref za)]) hx hb dX12_reached_93 hl (by decide) rfl (fun ls hl => ?_)
    refine lv_iload hx hb dX12_reached_95 (lv_at hl 0 rfl) ?_
    refine fb_gO (cs := []) (rs := [fb_o12 za zr fr_e0, fb_aw cI (zr 0) 16205 (fr_m (fun _ => 0) 0), fb_aw (D.1 20) x1 4096 zb, fb_aw cI x2 4096 zc]) X I [0, 1, 2, 3] 4 rfl (by decide +kernel) rfl rfl (fun I => fb_rS (As := [.int (0 : Int32)]) (rest := []) X hl (fb_goodS fw_2492 fw_2493 fw_204 fw_2494) (c_X12_isInstruction l D cI cJ (0 : Int32) _) rfl rfl (by decide +kernel : fb_hd yX12_isInstruction 1) ⟨Nat.le_of_ble_eq_true rfl, Nat.le_of_ble_eq_true rfl⟩ rfl rfl (Nat.le_of_ble_eq_true rfl) ⟨by show (0 + 1 + 1 + 1 * 4095) + 0 ≤ 4098; omega, by show (0 + 4096 + 4096 + 2 * 4095) + 0 ≤ 16384; omega⟩ dX12_reached_97 I) ?_
    refine fb_tI (v := (1 : Int32)) (by decide) ?_
    refine lv_if_ne (tgt := 111) hx hb dX12_reached_100 (by decide) (fun _ => ?_) (fun c32 => absurd c32 (by decide))
    refine lv_iload hx hb dX12_reached_111 (lv_at hl 0 rfl) ?_
    refine lv_bipush (v := (8 : Int32)) hx hb dX12_reached_113 (by decide) ?_
    refine lv_idiv hx hb dX12_reached_115 (by decide) ?_
    refine fb_tI (v := (0 : Int32)) (by decide) ?_
    refine lv_istore (lv' := [(7, .int (0 : Int32)), (6, .int (0 : Int32)), (5, .int (nI 4095)), (4, .int (nI 4095)), (3, .int (nI (4095 + 1))), (2, .ref x2), (1, .ref x1), (0, .ref za)]) hx hb dX12_reached_116 hl (by decide) rfl (fun ls hl => ?_)
    refine lv_iload hx hb dX12_reached_118 (lv_at hl 1 rfl) ?_
    refine lv_iconst (v := (1 : Int32)) hx hb dX12_reached_120 (by decide) ?_
    refine lv_icmp_eq (tgt := 151) hx hb dX12_reached_121 (by decide) (fun c33 => absurd c33 (by decide)) (fun _ => ?_)
    refine lv_iload hx hb dX12_reached_124 (lv_at hl 1 rfl) ?_
    refine lv_iconst (v := (3 : Int32)) hx hb dX12_reached_126 (by decide) ?_
    refine lv_icmp_eq (tgt := 151) hx hb dX12_reached_127 (by decide) (fun c34 => absurd c34 (by decide)) (fun _ => ?_)
    refine lv_iload hx hb dX12_reached_130 (lv_at hl 1 rfl) ?_
    refine lv_iconst (v := (4 : Int32)) hx hb dX12_reached_132 (by decide) ?_
    refine lv_icmp_eq (tgt := 151) hx hb dX12_reached_133 (by decide) (fun c35 => absurd c35 (by decide)) (fun _ => ?_)
    refine lv_iload hx hb dX12_reached_136 (lv_at hl 0 rfl) ?_
    refine lv_bipush (v := (24 : Int32)) hx hb dX12_reached_138 (by decide) ?_
    refine lv_icmp_eq (tgt := 151) hx hb dX12_reached_140 (by decide) (fun c36 => absurd c36 (by decide)) (fun _ => ?_)
    refine lv_iload hx hb dX12_reached_143 (lv_at hl 1 rfl) ?_
    refine lv_sipush (v := (216 : Int32)) hx hb dX12_reached_145 (by decide) ?_
    refine lv_icmp_ne (tgt := 155) hx hb dX12_reached_148 (by decide) (fun _ => ?_) (fun c37 => absurd c37 (by decide))
    refine lv_iconst (v := (0 : Int32)) hx hb dX12_reached_155 (by decide) ?_
    refine lv_istore (lv' := [(8, .int (0 : Int32)), (7, .int (0 : Int32)), (6, .int (0 : Int32)), (5, .int (nI 4095)), (4, .int (nI 4095)), (3, .int (nI (4095 + 1))), (2, .ref x2), (1, .ref x1), (0, .ref za)]) hx hb dX12_reached_156 hl (by decide) rfl (fun ls hl => ?_)
    refine lv_iconst (v := (2 : Int32)) hx hb dX12_reached_158 (by decide) ?_
    refine fb_nI (N := 2) X I fw_261 (by decide) (Nat.le_of_ble_eq_true rfl) (by show (0 + 1 + 1 + 1 * 4095) + 1 ≤ 4098; omega) (by show (0 + 4096 + 4096 + 2 * 4095) + 2 ≤ 16384; omega) dX12_reached_159 (fun x38 H I => ?_)
    have I : fb_In D A s.heap (([fb_o12 za zr fr_e0, fb_aw cI (zr 0) 16205 (fr_m (fun _ => 0) 0), fb_aw (D.1 20) x1 4096 zb, fb_aw cI x2 4096 zc, fb_aw cI x38 2 (fun _ => 0)] : List va_W).flatten) H _ := I
    refine lv_dup hx hb dX12_reached_161 rfl ?_
    refine lv_iconst (v := (0 : Int32)) hx hb dX12_reached_162 (by decide) ?_
    refine lv_iload hx hb dX12_reached_163 (lv_at hl 0 rfl) ?_
    refine lv_if_eq (tgt := 172) hx hb dX12_reached_165 (by decide) (fun _ => ?_) (fun c39 => absurd (by decide) c39)
    refine lv_iload hx hb dX12_reached_172 (lv_at hl 3 rfl) ?_
    refine lv_iload hx hb dX12_reached_174 (lv_at hl 2 rfl) ?_
    refine fb_gO (cs := []) (rs := [fb_o12 za zr fr_e0, fb_aw cI (zr 0) 16205 (fr_m (fun _ => 0) 0), fb_aw (D.1 20) x1 4096 zb, fb_aw cI x2 4096 zc, fb_aw cI x38 2 (fun _ => 0)]) X I [0, 1, 2, 3, 4] 5 rfl (by decide +kernel) rfl rfl (fun I => fb_rS (As := [.int (0 : Int32)]) (rest := [.int (nI 4095), .int (0 : Int32), .ref x38, .ref x38]) X hl (fb_goodS fw_2499 fw_2500 fw_204 fw_2501) (c_X12_length l D cI cJ (0 : Int32) _) rfl rfl (by decide +kernel : fb_hd yX12_length 1) ⟨Nat.le_of_ble_eq_true rfl, Nat.le_of_ble_eq_true rfl⟩ rfl rfl (Nat.le_of_ble_eq_true rfl) ⟨by show (0 + 1 + 1 + 1 * 4095) + 1 + 0 ≤ 4098; omega, by show (0 + 4096 + 4096 + 2 * 4095) + 2 + 0 ≤ 16384; omega⟩ dX12_reached_176 I) ?_
    refine fb_tI (v := (1 : Int32)) (by decide) ?_
    refine lv_iadd hx hb dX12_reached_179 ?_
    refine fb_tI (v := (nI (4095 + 1))) (nI_add 4095 1) ?_
    refine lv_sipush (v := (4095 : Int32)) hx hb dX12_reached_180 (by decide) ?_
    refine lv_iand hx hb dX12_reached_183 ?_
    refine fb_tI (v := (0 : Int32)) (by decide) ?_
    refine fb_isC (n := 0) (wn := ([fb_o12 za zr fr_e0, fb_aw cI (zr 0) 16205 (fr_m (fun _ => 0) 0), fb_aw (D.1 20) x1 4096 zb, fb_aw cI x2 4096 zc, fb_aw cI x38 2 (upd (fun _ => 0) 0 (0 : Int32))] : List va_W).flatten) X I 4 0 rfl rfl (by decide) (by decide) (Nat.le_of_ble_eq_true rfl) rfl dX12_reached_184 (fun H locs I => ?_)
    refine lv_dup hx hb dX12_reached_185 rfl ?_
    refine lv_iconst (v := (1 : Int32)) hx hb dX12_reached_186 (by decide) ?_
    refine lv_iload hx hb dX12_reached_187 (lv_at hl 1 rfl) ?_
    refine lv_bipush (v := (24 : Int32)) hx hb dX12_reached_189 (by decide) ?_
    refine lv_icmp_eq (tgt := 201) hx hb dX12_reached_191 (by decide) (fun c40 => absurd c40 (by decide)) (fun _ => ?_)
    refine lv_iload hx hb dX12_reached_194 (lv_at hl 1 rfl) ?_
    refine lv_bipush (v := (25 : Int32)) hx hb dX12_reached_196 (by decide) ?_
    refine lv_icmp_ne (tgt := 238) hx hb dX12_reached_198 (by decide) (fun _ => ?_) (fun c41 => absurd c41 (by decide))
    refine lv_iload hx hb dX12_reached_238 (lv_at hl 1 rfl) ?_
    refine lv_bipush (v := (25 : Int32)) hx hb dX12_reached_240 (by decide) ?_
    refine lv_icmp_le (tgt := 254) hx hb dX12_reached_242 (by decide) (fun _ => ?_) (fun c42 => absurd (by decide) c42)
    refine lv_iload hx hb dX12_reached_254 (lv_at hl 2 rfl) ?_
    refine lv_iconst (v := (5 : Int32)) hx hb dX12_reached_256 (by decide) ?_
    refine lv_icmp_ne (tgt := 269) hx hb dX12_reached_257 (by decide) (fun _ => ?_) (fun c43 => absurd c43 (by decide))
    refine lv_iconst (v := (-1 : Int32)) hx hb dX12_reached_269 (by decide) ?_
    refine fb_isC (n := 1) (wn := ([fb_o12 za zr fr_e0, fb_aw cI (zr 0) 16205 (fr_m (fun _ => 0) 0), fb_aw (D.1 20) x1 4096 zb, fb_aw cI x2 4096 zc, fb_aw cI x38 2 (upd (upd (fun _ => 0) 0 (0 : Int32)) 1 (-1 : Int32))] : List va_W).flatten) X I 4 0 rfl rfl (by decide) (by decide) (Nat.le_of_ble_eq_true rfl) rfl dX12_reached_270 (fun H locs I => ?_)
    refine lv_astore (lv' := [(9, .ref x38), (8, .int (0 : Int32)), (7, .int (0 : Int32)), (6, .int (0 : Int32)), (5, .int (nI 4095)), (4, .int (nI 4095)), (3, .int (nI (4095 + 1))), (2, .ref x2), (1, .ref x1), (0, .ref za)]) hx hb dX12_reached_271 hl (by decide) rfl (fun ls hl => ?_)
    refine lv_aload hx hb dX12_reached_273 (lv_at hl 0 rfl) ?_
    refine lv_astore (lv' := [(10, .ref x38), (9, .ref x38), (8, .int (0 : Int32)), (7, .int (0 : Int32)), (6, .int (0 : Int32)), (5, .int (nI 4095)), (4, .int (nI 4095)), (3, .int (nI (4095 + 1))), (2, .ref x2), (1, .ref x1), (0, .ref za)]) hx hb dX12_reached_275 hl (by decide) rfl (fun ls hl => ?_)
    refine lv_aload hx hb dX12_reached_277 (lv_at hl 0 rfl) ?_
    refine fb_alen (v := (2 : Int32)) X I 4 0 rfl rfl rfl dX12_reached_279 ?_
    refine lv_istore (lv' := [(11, .int (2 : Int32)), (10, .ref x38), (9, .ref x38), (8, .int (0 : Int32)), (7, .int (0 : Int32)), (6, .int (0 : Int32)), (5, .int (nI 4095)), (4, .int (nI 4095)), (3, .int (nI (4095 + 1))), (2, .ref x2), (1, .ref x1), (0, .ref za)]) hx hb dX12_reached_280 hl (by decide) rfl (fun ls hl => ?_)
    refine lv_iconst (v := (0 : Int32)) hx hb dX12_reached_282 (by decide) ?_
    refine lv_istore (lv' := [(12, .int (0 : Int32)), (11, .int (2 : Int32)), (10, .ref x38), (9, .ref x38), (8, .int (0 : Int32)), (7, .int (0 : Int32)), (6, .int (0 : Int32)), (5, .int (nI 4095)), (4, .int (nI 4095)), (3, .int (nI (4095 + 1))), (2, .ref x2), (1, .ref x1), (0, .ref za)]) hx hb dX12_reached_283 hl (by decide) rfl (fun ls hl => ?_)
    refine lv_iload hx hb dX12_reached_285 (lv_at hl 0 rfl) ?_
    refine lv_iload hx hb dX12_reached_287 (lv_at hl 1 rfl) ?_
    refine lv_icmp_ge (tgt := 342) hx hb dX12_reached_289 (by decide) (fun c44 => absurd c44 (by decide)) (fun _ => ?_)
    refine lv_aload hx hb dX12_reached_292 (lv_at hl 2 rfl) ?_
    refine lv_iload hx hb dX12_reached_294 (lv_at hl 0 rfl) ?_
    refine fb_iaC (n := 0) (v := (0 : Int32)) X I 4 0 rfl rfl (by decide) (by decide) (Nat.le_of_ble_eq_true rfl) ((pk_un (by decide)).trans pk_us) dX12_reached_296 ?_
    refine lv_istore (lv' := [(13, .int (0 : Int32)), (12, .int (0 : Int32)), (11, .int (2 : Int32)), (10, .ref x38), (9, .ref x38), (8, .int (0 : Int32)), (7, .int (0 : Int32)), (6, .int (0 : Int32)), (5, .int (nI 4095)), (4, .int (nI 4095)), (3, .int (nI (4095 + 1))), (2, .ref x2), (1, .ref x1), (0, .ref za)]) hx hb dX12_reached_297 hl (by decide) rfl (fun ls hl => ?_)
    refine lv_iload hx hb dX12_reached_299 (lv_at hl 0 rfl) ?_
    refine lv_if_lt (tgt := 336) hx hb dX12_reached_301 (by decide) (fun c45 => absurd c45 (by decide)) (fun _ => ?_)
    refine lv_aload_n hx hb dX12_reached_304 rfl (lv_at hl 12 rfl) ?_
    refine lv_iload hx hb dX12_reached_305 (lv_at hl 0 rfl) ?_
    refine fb_zaC (n := 0) (v := (1 : Int32)) X I 2 2 rfl rfl (by decide) (by decide) (Nat.le_of_ble_eq_true rfl) ((ib 0 (by omega)).trans (if_pos (by omega))) dX12_reached_307 ?_
    refine lv_if_ne (tgt := 336) hx hb dX12_reached_308 (by decide) (fun _ => ?_) (fun c46 => absurd c46 (by decide))
    refine lv_iinc (v := (1 : Int32)) (lv' := [(12, .int (1 : Int32)), (13, .int (0 : Int32)), (11, .int (2 : Int32)), (10, .ref x38), (9, .ref x38), (8, .int (0 : Int32)), (7, .int (0 : Int32)), (6, .int (0 : Int32)), (5, .int (nI 4095)), (4, .int (nI 4095)), (3, .int (nI (4095 + 1))), (2, .ref x2), (1, .ref x1), (0, .ref za)]) hx hb dX12_reached_336 hl (k := 1) rfl (by decide) (by decide) rfl (fun ls hl => ?_)
    refine lv_goto (tgt := 285) hx hb dX12_reached_339 (by decide) ?_
    refine lv_iload hx hb dX12_reached_285 (lv_at hl 0 rfl) ?_
    refine lv_iload hx hb dX12_reached_287 (lv_at hl 2 rfl) ?_
    refine lv_icmp_ge (tgt := 342) hx hb dX12_reached_289 (by decide) (fun c47 => absurd c47 (by decide)) (fun _ => ?_)
    refine lv_aload hx hb dX12_reached_292 (lv_at hl 3 rfl) ?_
    refine lv_iload hx hb dX12_reached_294 (lv_at hl 0 rfl) ?_
    refine fb_iaC (n := 1) (v := (-1 : Int32)) X I 4 0 rfl rfl (by decide) (by decide) (Nat.le_of_ble_eq_true rfl) pk_us dX12_reached_296 ?_
    refine lv_istore (lv' := [(13, .int (-1 : Int32)), (12, .int (1 : Int32)), (11, .int (2 : Int32)), (10, .ref x38), (9, .ref x38), (8, .int (0 : Int32)), (7, .int (0 : Int32)), (6, .int (0 : Int32)), (5, .int (nI 4095)), (4, .int (nI 4095)), (3, .int (nI (4095 + 1))), (2, .ref x2), (1, .ref x1), (0, .ref za)]) hx hb dX12_reached_297 hl (by decide) rfl (fun ls hl => ?_)
    refine lv_iload hx hb dX12_reached_299 (lv_at hl 0 rfl) ?_
    refine lv_if_lt (tgt := 336) hx hb dX12_reached_301 (by decide) (fun _ => ?_) (fun c48 => absurd (by decide) c48)
    refine lv_iinc (v := (2 : Int32)) (lv' := [(12, .int (2 : Int32)), (13, .int (-1 : Int32)), (11, .int (2 : Int32)), (10, .ref x38), (9, .ref x38), (8, .int (0 : Int32)), (7, .int (0 : Int32)), (6, .int (0 : Int32)), (5, .int (nI 4095)), (4, .int (nI 4095)), (3, .int (nI (4095 + 1))), (2, .ref x2), (1, .ref x1), (0, .ref za)]) hx hb dX12_reached_336 hl (k := 1) rfl (by decide) (by decide) rfl (fun ls hl => ?_)
    refine lv_goto (tgt := 285) hx hb dX12_reached_339 (by decide) ?_
    refine lv_iload hx hb dX12_reached_285 (lv_at hl 0 rfl) ?_
    refine lv_iload hx hb dX12_reached_287 (lv_at hl 2 rfl) ?_
    refine lv_icmp_ge (tgt := 342) hx hb dX12_reached_289 (by decide) (fun _ => ?_) (fun c49 => absurd (by decide) c49)
    refine lv_iinc (v := (nI (4095 + 1))) (lv' := [(4, .int (nI (4095 + 1))), (12, .int (2 : Int32)), (13, .int (-1 : Int32)), (11, .int (2 : Int32)), (10, .ref x38), (9, .ref x38), (8, .int (0 : Int32)), (7, .int (0 : Int32)), (6, .int (0 : Int32)), (5, .int (nI 4095)), (3, .int (nI (4095 + 1))), (2, .ref x2), (1, .ref x1), (0, .ref za)]) hx hb dX12_reached_342 hl (k := 9) rfl (nI_add _ 1) (by decide) rfl (fun ls hl => ?_)
    refine lv_goto (tgt := 75) hx hb dX12_reached_345 (by decide) ?_
    refine lv_iload hx hb dX12_reached_75 (lv_at hl 0 rfl) ?_
    refine lv_iload_n hx hb dX12_reached_77 rfl (lv_at hl 10 rfl) ?_
    refine lv_icmp_ge (tgt := 348) hx hb dX12_reached_78 (by decide) (fun _ => ?_) (fun c50 => absurd (nI_le (a := (4095 + 1)) (b := (4095 + 1)) (by omega) (by omega)) c50)
    refine lv_aload_n hx hb dX12_reached_348 rfl (lv_at hl 12 rfl) ?_
    have I : fb_In D A s.heap (([fb_o12 za zr fr_e0, fb_aw cI (zr 0) 16205 (fr_m (fun _ => 0) 0), fb_aw (D.1 20) x1 4096 zb] : List va_W).flatten) H _ := fb_dropB (bs := [fb_o12 za zr fr_e0, fb_aw cI (zr 0) 16205 (fr_m (fun _ => 0) 0), fb_aw (D.1 20) x1 4096 zb, fb_aw cI x2 4096 zc, fb_aw cI x38 2 (upd (upd (fun _ => 0) 0 (0 : Int32)) 1 (-1 : Int32))]) (bs' := [fb_o12 za zr fr_e0, fb_aw cI (zr 0) 16205 (fr_m (fun _ => 0) 0), fb_aw (D.1 20) x1 4096 zb]) (gs := [fb_aw cI x2 4096 zc, fb_aw cI x38 2 (upd (upd (fun _ => 0) 0 (0 : Int32)) 1 (-1 : Int32))]) I 5 rfl [0, 1, 2, 3, 4] (by decide +kernel) rfl
    refine W.widen (k := 4098) (n := 16384) (by omega) (by omega) ?_
    exact fb_retR (u := (zb)) X I (fun j hj => (ib j hj).trans (if_pos (by omega))) (by first | exact Or.inl ⟨_, rfl⟩ | exact Or.inr ⟨_, rfl⟩) dX12_reached_349
  | succ n ih =>
    intro zi hn zb zc ib ic H locs ls I hl
    have ziL : zi < 4095 := by omega
    refine lv_iload hx hb dX12_reached_75 (lv_at hl 0 rfl) ?_
    refine lv_iload_n hx hb dX12_reached_77 rfl (lv_at hl 1 rfl) ?_
    refine lv_icmp_ge (tgt := 348) hx hb dX12_reached_78 (by decide) (fun c51 => absurd c51 (nI_ge (a := zi) (b := (zi + 1)) (by omega) (by omega))) (fun _ => ?_)
    refine lv_aload_n hx hb dX12_reached_81 rfl (lv_at hl 2 rfl) ?_
    refine lv_iload hx hb dX12_reached_82 (lv_at hl 0 rfl) ?_
    refine fb_iaC (n := zi) (v := (nI zi)) X I 3 0 rfl rfl (nI_clamp (by omega)) (nI_pos (by omega)) (by omega) (ic zi (by omega)) dX12_reached_84 ?_
    refine lv_istore (lv' := [(5, .int (nI zi)), (4, .int (nI zi)), (3, .int (nI (zi + 1))), (2, .ref x2), (1, .ref x1), (0, .ref za)]) hx hb dX12_reached_85 hl (by decide) rfl (fun ls hl => ?_)
    refine lv_aload_n hx hb dX12_reached_87 rfl (lv_at hl 5 rfl) ?_
    refine lv_iload hx hb dX12_reached_88 (lv_at hl 0 rfl) ?_
    refine fb_gO (cs := [fb_o12 za zr fr_e0, fb_aw cI (zr 0) 16205 (fr_m (fun _ => 0) 0)]) (rs := [fb_aw (D.1 20) x1 4096 zb, fb_aw cI x2 4096 zc]) X I [0, 1, 2, 3] 4 rfl (by decide +kernel) rfl rfl (fun I => fb_rV (As := [.int (nI zi)]) (rest := []) X hl (fb_goodV fw_1949 fw_1951 fw_86 fw_204 fw_1952) (c_code l D cI cJ za zr fr_e0 (fr_m (fun _ => 0) 0) (nI zi) _ (fr_hm _ _) rfl) rfl rfl rfl (by decide +kernel : fb_hd yX12_code 1) ⟨Nat.le_of_ble_eq_true rfl, Nat.le_of_ble_eq_true rfl⟩ rfl rfl rfl rfl rfl (Nat.le_of_ble_eq_true rfl) ⟨by show (0 + 1 + 1 + 1 * zi) + 0 ≤ 4098; omega, by show (0 + 4096 + 4096 + 2 * zi) + 0 ≤ 16384; omega⟩ dX12_reached_90 I) ?_
    refine lv_istore (lv' := [(6, .int (0 : Int32)), (5, .int (nI zi)), (4, .int (nI zi)), (3, .int (nI (zi + 1))), (2, .ref x2), (1, .ref x1), (0, .ref za)]) hx hb dX12_reached_93 hl (by decide) rfl (fun ls hl => ?_)
    refine lv_iload hx hb dX12_reached_95 (lv_at hl 0 rfl) ?_
    refine fb_gO (cs := []) (rs := [fb_o12 za zr fr_e0, fb_aw cI (zr 0) 16205 (fr_m (fun _ => 0) 0), fb_aw (D.1 20) x1 4096 zb, fb_aw cI x2 4096 zc]) X I [0, 1, 2, 3] 4 rfl (by decide +kernel) rfl rfl (fun I => fb_rS (As := [.int (0 : Int32)]) (rest := []) X hl (fb_goodS fw_2492 fw_2493 fw_204 fw_2494) (c_X12_isInstruction l D cI cJ (0 : Int32) _) rfl rfl (by decide +kernel : fb_hd yX12_isInstruction 1) ⟨Nat.le_of_ble_eq_true rfl, Nat.le_of_ble_eq_true rfl⟩ rfl rfl (Nat.le_of_ble_eq_true rfl) ⟨by show (0 + 1 + 1 + 1 * zi) + 0 ≤ 4098; omega, by show (0 + 4096 + 4096 + 2 * zi) + 0 ≤ 16384; omega⟩ dX12_reached_97 I) ?_
    refine fb_tI (v := (1 : Int32)) (by decide) ?_
    refine lv_if_ne (tgt := 111) hx hb dX12_reached_100 (by decide) (fun _ => ?_) (fun c52 => absurd c52 (by decide))
    refine lv_iload hx hb dX12_reached_111 (lv_at hl 0 rfl) ?_
    refine lv_bipush (v := (8 : Int32)) hx hb dX12_reached_113 (by decide) ?_
    refine lv_idiv hx hb dX12_reached_115 (by decide) ?_
    refine fb_tI (v := (0 : Int32)) (by decide) ?_
    refine lv_istore (lv' := [(7, .int (0 : Int32)), (6, .int (0 : Int32)), (5, .int (nI zi)), (4, .int (nI zi)), (3, .int (nI (zi + 1))), (2, .ref x2), (1, .ref x1), (0, .ref za)]) hx hb dX12_reached_116 hl (by decide) rfl (fun ls hl => ?_)
    refine lv_iload hx hb dX12_reached_118 (lv_at hl 1 rfl) ?_
    refine lv_iconst (v := (1 : Int32)) hx hb dX12_reached_120 (by decide) ?_
    refine lv_icmp_eq (tgt := 151) hx hb dX12_reached_121 (by decide) (fun c53 => absurd c53 (by decide)) (fun _ => ?_)
    refine lv_iload hx hb dX12_reached_124 (lv_at hl 1 rfl) ?_
    refine lv_iconst (v := (3 : Int32)) hx hb dX12_reached_126 (by decide) ?_
    refine lv_icmp_eq (tgt := 151) hx hb dX12_reached_127 (by decide) (fun c54 => absurd c54 (by decide)) (fun _ => ?_)
    refine lv_iload hx hb dX12_reached_130 (lv_at hl 1 rfl) ?_
    refine lv_iconst (v := (4 : Int32)) hx hb dX12_reached_132 (by decide) ?_
    refine lv_icmp_eq (tgt := 151) hx hb dX12_reached_133 (by decide) (fun c55 => absurd c55 (by decide)) (fun _ => ?_)
    refine lv_iload hx hb dX12_reached_136 (lv_at hl 0 rfl) ?_
    refine lv_bipush (v := (24 : Int32)) hx hb dX12_reached_138 (by decide) ?_
    refine lv_icmp_eq (tgt := 151) hx hb dX12_reached_140 (by decide) (fun c56 => absurd c56 (by decide)) (fun _ => ?_)
    refine lv_iload hx hb dX12_reached_143 (lv_at hl 1 rfl) ?_
    refine lv_sipush (v := (216 : Int32)) hx hb dX12_reached_145 (by decide) ?_
    refine lv_icmp_ne (tgt := 155) hx hb dX12_reached_148 (by decide) (fun _ => ?_) (fun c57 => absurd c57 (by decide))
    refine lv_iconst (v := (0 : Int32)) hx hb dX12_reached_155 (by decide) ?_
    refine lv_istore (lv' := [(8, .int (0 : Int32)), (7, .int (0 : Int32)), (6, .int (0 : Int32)), (5, .int (nI zi)), (4, .int (nI zi)), (3, .int (nI (zi + 1))), (2, .ref x2), (1, .ref x1), (0, .ref za)]) hx hb dX12_reached_156 hl (by decide) rfl (fun ls hl => ?_)
    refine lv_iconst (v := (2 : Int32)) hx hb dX12_reached_158 (by decide) ?_
    refine fb_nI (N := 2) X I fw_261 (by decide) (Nat.le_of_ble_eq_true rfl) (by show (0 + 1 + 1 + 1 * zi) + 1 ≤ 4098; omega) (by show (0 + 4096 + 4096 + 2 * zi) + 2 ≤ 16384; omega) dX12_reached_159 (fun x58 H I => ?_)
    have I : fb_In D A s.heap (([fb_o12 za zr fr_e0, fb_aw cI (zr 0) 16205 (fr_m (fun _ => 0) 0), fb_aw (D.1 20) x1 4096 zb, fb_aw cI x2 4096 zc, fb_aw cI x58 2 (fun _ => 0)] : List va_W).flatten) H _ := I
    refine lv_dup hx hb dX12_reached_161 rfl ?_
    refine lv_iconst (v := (0 : Int32)) hx hb dX12_reached_162 (by decide) ?_
    refine lv_iload hx hb dX12_reached_163 (lv_at hl 0 rfl) ?_
    refine lv_if_eq (tgt := 172) hx hb dX12_reached_165 (by decide) (fun _ => ?_) (fun c59 => absurd (by decide) c59)
    refine lv_iload hx hb dX12_reached_172 (lv_at hl 3 rfl) ?_
    refine lv_iload hx hb dX12_reached_174 (lv_at hl 2 rfl) ?_
    refine fb_gO (cs := []) (rs := [fb_o12 za zr fr_e0, fb_aw cI (zr 0) 16205 (fr_m (fun _ => 0) 0), fb_aw (D.1 20) x1 4096 zb, fb_aw cI x2 4096 zc, fb_aw cI x58 2 (fun _ => 0)]) X I [0, 1, 2, 3, 4] 5 rfl (by decide +kernel) rfl rfl (fun I => fb_rS (As := [.int (0 : Int32)]) (rest := [.int (nI zi), .int (0 : Int32), .ref x58, .ref x58]) X hl (fb_goodS fw_2499 fw_2500 fw_204 fw_2501) (c_X12_length l D cI cJ (0 : Int32) _) rfl rfl (by decide +kernel : fb_hd yX12_length 1) ⟨Nat.le_of_ble_eq_true rfl, Nat.le_of_ble_eq_true rfl⟩ rfl rfl (Nat.le_of_ble_eq_true rfl) ⟨by show (0 + 1 + 1 + 1 * zi) + 1 + 0 ≤ 4098; omega, by show (0 + 4096 + 4096 + 2 * zi) + 2 + 0 ≤ 16384; omega⟩ dX12_reached_176 I) ?_
    refine fb_tI (v := (1 : Int32)) (by decide) ?_
    refine lv_iadd hx hb dX12_reached_179 ?_
    refine fb_tI (v := (nI (zi + 1))) (nI_add zi 1) ?_
    refine lv_sipush (v := (4095 : Int32)) hx hb dX12_reached_180 (by decide) ?_
    refine lv_iand hx hb dX12_reached_183 ?_
    refine fb_tI (v := (nI (zi + 1))) (fr_and (by omega)) ?_
    refine fb_isC (n := 0) (wn := ([fb_o12 za zr fr_e0, fb_aw cI (zr 0) 16205 (fr_m (fun _ => 0) 0), fb_aw (D.1 20) x1 4096 zb, fb_aw cI x2 4096 zc, fb_aw cI x58 2 (upd (fun _ => 0) 0 (nI (zi + 1)))] : List va_W).flatten) X I 4 0 rfl rfl (by decide) (by decide) (Nat.le_of_ble_eq_true rfl) rfl dX12_reached_184 (fun H locs I => ?_)
    refine lv_dup hx hb dX12_reached_185 rfl ?_
    refine lv_iconst (v := (1 : Int32)) hx hb dX12_reached_186 (by decide) ?_
    refine lv_iload hx hb dX12_reached_187 (lv_at hl 1 rfl) ?_
    refine lv_bipush (v := (24 : Int32)) hx hb dX12_reached_189 (by decide) ?_
    refine lv_icmp_eq (tgt := 201) hx hb dX12_reached_191 (by decide) (fun c60 => absurd c60 (by decide)) (fun _ => ?_)
    refine lv_iload hx hb dX12_reached_194 (lv_at hl 1 rfl) ?_
    refine lv_bipush (v := (25 : Int32)) hx hb dX12_reached_196 (by decide) ?_
    refine lv_icmp_ne (tgt := 238) hx hb dX12_reached_198 (by decide) (fun _ => ?_) (fun c61 => absurd c61 (by decide))
    refine lv_iload hx hb dX12_reached_238 (lv_at hl 1 rfl) ?_
    refine lv_bipush (v := (25 : Int32)) hx hb dX12_reached_240 (by decide) ?_
    refine lv_icmp_le (tgt := 254) hx hb dX12_reached_242 (by decide) (fun _ => ?_) (fun c62 => absurd (by decide) c62)
    refine lv_iload hx hb dX12_reached_254 (lv_at hl 2 rfl) ?_
    refine lv_iconst (v := (5 : Int32)) hx hb dX12_reached_256 (by decide) ?_
    refine lv_icmp_ne (tgt := 269) hx hb dX12_reached_257 (by decide) (fun _ => ?_) (fun c63 => absurd c63 (by decide))
    refine lv_iconst (v := (-1 : Int32)) hx hb dX12_reached_269 (by decide) ?_
    refine fb_isC (n := 1) (wn := ([fb_o12 za zr fr_e0, fb_aw cI (zr 0) 16205 (fr_m (fun _ => 0) 0), fb_aw (D.1 20) x1 4096 zb, fb_aw cI x2 4096 zc, fb_aw cI x58 2 (upd (upd (fun _ => 0) 0 (nI (zi + 1))) 1 (-1 : Int32))] : List va_W).flatten) X I 4 0 rfl rfl (by decide) (by decide) (Nat.le_of_ble_eq_true rfl) rfl dX12_reached_270 (fun H locs I => ?_)
    refine lv_astore (lv' := [(9, .ref x58), (8, .int (0 : Int32)), (7, .int (0 : Int32)), (6, .int (0 : Int32)), (5, .int (nI zi)), (4, .int (nI zi)), (3, .int (nI (zi + 1))), (2, .ref x2), (1, .ref x1), (0, .ref za)]) hx hb dX12_reached_271 hl (by decide) rfl (fun ls hl => ?_)
    refine lv_aload hx hb dX12_reached_273 (lv_at hl 0 rfl) ?_
    refine lv_astore (lv' := [(10, .ref x58), (9, .ref x58), (8, .int (0 : Int32)), (7, .int (0 : Int32)), (6, .int (0 : Int32)), (5, .int (nI zi)), (4, .int (nI zi)), (3, .int (nI (zi + 1))), (2, .ref x2), (1, .ref x1), (0, .ref za)]) hx hb dX12_reached_275 hl (by decide) rfl (fun ls hl => ?_)
    refine lv_aload hx hb dX12_reached_277 (lv_at hl 0 rfl) ?_
    refine fb_alen (v := (2 : Int32)) X I 4 0 rfl rfl rfl dX12_reached_279 ?_
    refine lv_istore (lv' := [(11, .int (2 : Int32)), (10, .ref x58), (9, .ref x58), (8, .int (0 : Int32)), (7, .int (0 : Int32)), (6, .int (0 : Int32)), (5, .int (nI zi)), (4, .int (nI zi)), (3, .int (nI (zi + 1))), (2, .ref x2), (1, .ref x1), (0, .ref za)]) hx hb dX12_reached_280 hl (by decide) rfl (fun ls hl => ?_)
    refine lv_iconst (v := (0 : Int32)) hx hb dX12_reached_282 (by decide) ?_
    refine lv_istore (lv' := [(12, .int (0 : Int32)), (11, .int (2 : Int32)), (10, .ref x58), (9, .ref x58), (8, .int (0 : Int32)), (7, .int (0 : Int32)), (6, .int (0 : Int32)), (5, .int (nI zi)), (4, .int (nI zi)), (3, .int (nI (zi + 1))), (2, .ref x2), (1, .ref x1), (0, .ref za)]) hx hb dX12_reached_283 hl (by decide) rfl (fun ls hl => ?_)
    refine lv_iload hx hb dX12_reached_285 (lv_at hl 0 rfl) ?_
    refine lv_iload hx hb dX12_reached_287 (lv_at hl 1 rfl) ?_
    refine lv_icmp_ge (tgt := 342) hx hb dX12_reached_289 (by decide) (fun c64 => absurd c64 (by decide)) (fun _ => ?_)
    refine lv_aload hx hb dX12_reached_292 (lv_at hl 2 rfl) ?_
    refine lv_iload hx hb dX12_reached_294 (lv_at hl 0 rfl) ?_
    refine fb_iaC (n := 0) (v := (nI (zi + 1))) X I 4 0 rfl rfl (by decide) (by decide) (Nat.le_of_ble_eq_true rfl) ((pk_un (by decide)).trans pk_us) dX12_reached_296 ?_
    refine lv_istore (lv' := [(13, .int (nI (zi + 1))), (12, .int (0 : Int32)), (11, .int (2 : Int32)), (10, .ref x58), (9, .ref x58), (8, .int (0 : Int32)), (7, .int (0 : Int32)), (6, .int (0 : Int32)), (5, .int (nI zi)), (4, .int (nI zi)), (3, .int (nI (zi + 1))), (2, .ref x2), (1, .ref x1), (0, .ref za)]) hx hb dX12_reached_297 hl (by decide) rfl (fun ls hl => ?_)
    refine lv_iload hx hb dX12_reached_299 (lv_at hl 0 rfl) ?_
    refine lv_if_lt (tgt := 336) hx hb dX12_reached_301 (by decide) (fun c65 => absurd c65 (nI_nlt (a := (zi + 1)) (b := 0) (by omega) (by omega))) (fun _ => ?_)
    refine lv_aload_n hx hb dX12_reached_304 rfl (lv_at hl 12 rfl) ?_
    refine lv_iload hx hb dX12_reached_305 (lv_at hl 0 rfl) ?_
    refine fb_zaC (n := (zi + 1)) (v := (0 : Int32)) X I 2 2 rfl rfl (nI_clamp (by omega)) (nI_pos (by omega)) (by omega) ((ib _ (by omega)).trans (if_neg (by omega))) dX12_reached_307 ?_
    refine lv_if_ne (tgt := 336) hx hb dX12_reached_308 (by decide) (fun c66 => absurd (by decide) c66) (fun _ => ?_)
    refine lv_aload_n hx hb dX12_reached_311 rfl (lv_at hl 13 rfl) ?_
    refine lv_iload hx hb dX12_reached_312 (lv_at hl 0 rfl) ?_
    refine fb_gO (cs := [fb_o12 za zr fr_e0, fb_aw cI (zr 0) 16205 (fr_m (fun _ => 0) 0)]) (rs := [fb_aw (D.1 20) x1 4096 zb, fb_aw cI x2 4096 zc, fb_aw cI x58 2 (upd (upd (fun _ => 0) 0 (nI (zi + 1))) 1 (-1 : Int32))]) X I [0, 1, 2, 3, 4] 5 rfl (by decide +kernel) rfl rfl (fun I => fb_rV (As := [.int (nI (zi + 1))]) (rest := []) X hl (fb_goodV fw_1949 fw_1951 fw_86 fw_204 fw_1952) (c_code l D cI cJ za zr fr_e0 (fr_m (fun _ => 0) 0) (nI (zi + 1)) _ (fr_hm _ _) rfl) rfl rfl rfl (by decide +kernel : fb_hd yX12_code 1) ⟨Nat.le_of_ble_eq_true rfl, Nat.le_of_ble_eq_true rfl⟩ rfl rfl rfl rfl rfl (Nat.le_of_ble_eq_true rfl) ⟨by show (0 + 1 + 1 + 1 * zi) + 1 + 0 ≤ 4098; omega, by show (0 + 4096 + 4096 + 2 * zi) + 2 + 0 ≤ 16384; omega⟩ dX12_reached_314 I) ?_
    refine fb_gO (cs := []) (rs := [fb_o12 za zr fr_e0, fb_aw cI (zr 0) 16205 (fr_m (fun _ => 0) 0), fb_aw (D.1 20) x1 4096 zb, fb_aw cI x2 4096 zc, fb_aw cI x58 2 (upd (upd (fun _ => 0) 0 (nI (zi + 1))) 1 (-1 : Int32))]) X I [0, 1, 2, 3, 4] 5 rfl (by decide +kernel) rfl rfl (fun I => fb_rS (As := [.int (0 : Int32)]) (rest := []) X hl (fb_goodS fw_2492 fw_2493 fw_204 fw_2494) (c_X12_isInstruction l D cI cJ (0 : Int32) _) rfl rfl (by decide +kernel : fb_hd yX12_isInstruction 1) ⟨Nat.le_of_ble_eq_true rfl, Nat.le_of_ble_eq_true rfl⟩ rfl rfl (Nat.le_of_ble_eq_true rfl) ⟨by show (0 + 1 + 1 + 1 * zi) + 1 + 0 ≤ 4098; omega, by show (0 + 4096 + 4096 + 2 * zi) + 2 + 0 ≤ 16384; omega⟩ dX12_reached_317 I) ?_
    refine fb_tI (v := (1 : Int32)) (by decide) ?_
    refine lv_if_eq (tgt := 336) hx hb dX12_reached_320 (by decide) (fun c67 => absurd c67 (by decide)) (fun _ => ?_)
    refine lv_aload_n hx hb dX12_reached_323 rfl (lv_at hl 12 rfl) ?_
    refine lv_iload hx hb dX12_reached_324 (lv_at hl 0 rfl) ?_
    refine lv_iconst (v := (1 : Int32)) hx hb dX12_reached_326 (by decide) ?_
    refine fb_zsC (n := (zi + 1)) (wn := ([fb_o12 za zr fr_e0, fb_aw cI (zr 0) 16205 (fr_m (fun _ => 0) 0), fb_aw (D.1 20) x1 4096 (upd zb (zi + 1) (1 : Int32)), fb_aw cI x2 4096 zc, fb_aw cI x58 2 (upd (upd (fun _ => 0) 0 (nI (zi + 1))) 1 (-1 : Int32))] : List va_W).flatten) X I 2 2 rfl rfl (nI_clamp (by omega)) (nI_pos (by omega)) (by omega) rfl rfl dX12_reached_327 (fun H locs I => ?_)
    refine lv_aload_n hx hb dX12_reached_328 rfl (lv_at hl 11 rfl) ?_
    refine lv_iload_n hx hb dX12_reached_329 rfl (lv_at hl 10 rfl) ?_
    refine lv_iinc (v := (nI ((zi + 1) + 1))) (lv' := [(3, .int (nI ((zi + 1) + 1))), (13, .int (nI (zi + 1))), (12, .int (0 : Int32)), (11, .int (2 : Int32)), (10, .ref x58), (9, .ref x58), (8, .int (0 : Int32)), (7, .int (0 : Int32)), (6, .int (0 : Int32)), (5, .int (nI zi)), (4, .int (nI zi)), (2, .ref x2), (1, .ref x1), (0, .ref za)]) hx hb dX12_reached_330 hl (k := 10) rfl (nI_add _ 1) (by decide) rfl (fun ls hl => ?_)
    refine lv_iload hx hb dX12_reached_333 (lv_at hl 1 rfl) ?_
    refine fb_isC (n := (zi + 1)) (wn := ([fb_o12 za zr fr_e0, fb_aw cI (zr 0) 16205 (fr_m (fun _ => 0) 0), fb_aw (D.1 20) x1 4096 (upd zb (zi + 1) (1 : Int32)), fb_aw cI x2 4096 (upd zc (zi + 1) (nI (zi + 1))), fb_aw cI x58 2 (upd (upd (fun _ => 0) 0 (nI (zi + 1))) 1 (-1 : Int32))] : List va_W).flatten) X I 3 0 rfl rfl (nI_clamp (by omega)) (nI_pos (by omega)) (by omega) rfl dX12_reached_335 (fun H locs I => ?_)
    refine lv_iinc (v := (1 : Int32)) (lv' := [(12, .int (1 : Int32)), (3, .int (nI ((zi + 1) + 1))), (13, .int (nI (zi + 1))), (11, .int (2 : Int32)), (10, .ref x58), (9, .ref x58), (8, .int (0 : Int32)), (7, .int (0 : Int32)), (6, .int (0 : Int32)), (5, .int (nI zi)), (4, .int (nI zi)), (2, .ref x2), (1, .ref x1), (0, .ref za)]) hx hb dX12_reached_336 hl (k := 2) rfl (by decide) (by decide) rfl (fun ls hl => ?_)
    refine lv_goto (tgt := 285) hx hb dX12_reached_339 (by decide) ?_
    refine lv_iload hx hb dX12_reached_285 (lv_at hl 0 rfl) ?_
    refine lv_iload hx hb dX12_reached_287 (lv_at hl 3 rfl) ?_
    refine lv_icmp_ge (tgt := 342) hx hb dX12_reached_289 (by decide) (fun c68 => absurd c68 (by decide)) (fun _ => ?_)
    refine lv_aload hx hb dX12_reached_292 (lv_at hl 4 rfl) ?_
    refine lv_iload hx hb dX12_reached_294 (lv_at hl 0 rfl) ?_
    refine fb_iaC (n := 1) (v := (-1 : Int32)) X I 4 0 rfl rfl (by decide) (by decide) (Nat.le_of_ble_eq_true rfl) pk_us dX12_reached_296 ?_
    refine lv_istore (lv' := [(13, .int (-1 : Int32)), (12, .int (1 : Int32)), (3, .int (nI ((zi + 1) + 1))), (11, .int (2 : Int32)), (10, .ref x58), (9, .ref x58), (8, .int (0 : Int32)), (7, .int (0 : Int32)), (6, .int (0 : Int32)), (5, .int (nI zi)), (4, .int (nI zi)), (2, .ref x2), (1, .ref x1), (0, .ref za)]) hx hb dX12_reached_297 hl (by decide) rfl (fun ls hl => ?_)
    refine lv_iload hx hb dX12_reached_299 (lv_at hl 0 rfl) ?_
    refine lv_if_lt (tgt := 336) hx hb dX12_reached_301 (by decide) (fun _ => ?_) (fun c69 => absurd (by decide) c69)
    refine lv_iinc (v := (2 : Int32)) (lv' := [(12, .int (2 : Int32)), (13, .int (-1 : Int32)), (3, .int (nI ((zi + 1) + 1))), (11, .int (2 : Int32)), (10, .ref x58), (9, .ref x58), (8, .int (0 : Int32)), (7, .int (0 : Int32)), (6, .int (0 : Int32)), (5, .int (nI zi)), (4, .int (nI zi)), (2, .ref x2), (1, .ref x1), (0, .ref za)]) hx hb dX12_reached_336 hl (k := 1) rfl (by decide) (by decide) rfl (fun ls hl => ?_)
    refine lv_goto (tgt := 285) hx hb dX12_reached_339 (by decide) ?_
    refine lv_iload hx hb dX12_reached_285 (lv_at hl 0 rfl) ?_
    refine lv_iload hx hb dX12_reached_287 (lv_at hl 3 rfl) ?_
    refine lv_icmp_ge (tgt := 342) hx hb dX12_reached_289 (by decide) (fun _ => ?_) (fun c70 => absurd (by decide) c70)
    refine lv_iinc (v := (nI (zi + 1))) (lv' := [(4, .int (nI (zi + 1))), (12, .int (2 : Int32)), (13, .int (-1 : Int32)), (3, .int (nI ((zi + 1) + 1))), (11, .int (2 : Int32)), (10, .ref x58), (9, .ref x58), (8, .int (0 : Int32)), (7, .int (0 : Int32)), (6, .int (0 : Int32)), (5, .int (nI zi)), (2, .ref x2), (1, .ref x1), (0, .ref za)]) hx hb dX12_reached_342 hl (k := 10) rfl (nI_add _ 1) (by decide) rfl (fun ls hl => ?_)
    refine lv_goto (tgt := 75) hx hb dX12_reached_345 (by decide) ?_
    have I : fb_In D A s.heap (([fb_o12 za zr fr_e0, fb_aw cI (zr 0) 16205 (fr_m (fun _ => 0) 0), fb_aw (D.1 20) x1 4096 (upd zb (zi + 1) (1 : Int32)), fb_aw cI x2 4096 (upd zc (zi + 1) (nI (zi + 1)))] : List va_W).flatten) H _ := fb_dropB (bs := [fb_o12 za zr fr_e0, fb_aw cI (zr 0) 16205 (fr_m (fun _ => 0) 0), fb_aw (D.1 20) x1 4096 (upd zb (zi + 1) (1 : Int32)), fb_aw cI x2 4096 (upd zc (zi + 1) (nI (zi + 1))), fb_aw cI x58 2 (upd (upd (fun _ => 0) 0 (nI (zi + 1))) 1 (-1 : Int32))]) (bs' := [fb_o12 za zr fr_e0, fb_aw cI (zr 0) 16205 (fr_m (fun _ => 0) 0), fb_aw (D.1 20) x1 4096 (upd zb (zi + 1) (1 : Int32)), fb_aw cI x2 4096 (upd zc (zi + 1) (nI (zi + 1)))]) (gs := [fb_aw cI x58 2 (upd (upd (fun _ => 0) 0 (nI (zi + 1))) 1 (-1 : Int32))]) I 5 rfl [0, 1, 2, 3, 4] (by decide +kernel) rfl
    refine W.widen (k := (0 + 1 + 1 + 1 * (zi + 1))) (n := (0 + 4096 + 4096 + 2 * (zi + 1))) (by omega) (by omega) ?_
    exact ih (zi + 1) (by omega) (upd zb (zi + 1) (1 : Int32)) (upd zc (zi + 1) (nI (zi + 1))) (fr_rb ib) (fr_rc ic) _ _ _ I (lv_sub hl [0, 3, 11, 12, 13] rfl)
set_option maxHeartbeats 4000000 in
set_option maxRecDepth 100000 in
theorem c_reached (l : Launch) (D : va_G) (cI cJ : ClassId) (za : Nat) (zr : Nat → Nat) (sz : Nat)  : Met l yX12_reached (Cond.code yX12_reached cX12_reached 14 (some (.array .boolean)) :: fb_all) ({ frames := 5, cells := 4098, slots := 16384, locals := 122 } : Room) (fb_PP D (fb_ty D cI cJ) [.ref za] (([fb_o12 za zr fr_e0, fb_aw cI (zr 0) 16205 (fr_m (fun _ => 0) 0)] : List va_W).flatten) sz) (fb_QR D (va_A (([fb_o12 za zr fr_e0, fb_aw cI (zr 0) 16205 (fr_m (fun _ => 0) 0)] : List va_W).flatten) sz) (fun (t : fb_AR) => ∀ j, j < 4096 → t j = 1) (fun (t : fb_AR) (rr : Nat) => ([fb_o12 za zr fr_e0, fb_aw cI (zr 0) 16205 (fr_m (fun _ => 0) 0), fb_aw (D.1 20) rr 4096 t] : List va_W).flatten)) 4098 16384 (va_A (([fb_o12 za zr fr_e0, fb_aw cI (zr 0) 16205 (fr_m (fun _ => 0) 0)] : List va_W).flatten) sz) := by
  refine fb_ent (Qf := fun A => (fb_QR D A (fun (t : fb_AR) => ∀ j, j < 4096 → t j = 1) (fun (t : fb_AR) (rr : Nat) => ([fb_o12 za zr fr_e0, fb_aw cI (zr 0) 16205 (fr_m (fun _ => 0) 0), fb_aw (D.1 20) rr 4096 t] : List va_W).flatten))) (by decide +kernel) (Nat.le_of_ble_eq_true rfl) ?_
  intro p e s m args below meth c A ls X I hl hin
  obtain ⟨hx, hb, hr, hml, hown, hts, hlk, hA, hK, hF⟩ := id X
  have hl : lv_has ls 14 [(0, .ref za)] := hl
  refine lv_sipush (v := (4096 : Int32)) hx hb dX12_reached_0 (by decide) ?_
  refine fb_nZ (N := 4096) X I fw_2118 (by decide) (Nat.le_of_ble_eq_true rfl) (Nat.le_of_ble_eq_true rfl) (Nat.le_of_ble_eq_true rfl) dX12_reached_3 (fun x1 H I => ?_)
  have I : fb_In D A s.heap (([fb_o12 za zr fr_e0, fb_aw cI (zr 0) 16205 (fr_m (fun _ => 0) 0), fb_aw (D.1 20) x1 4096 (fun _ => 0)] : List va_W).flatten) H _ := I
  refine lv_astore_n (lv' := [(1, .ref x1), (0, .ref za)]) hx hb dX12_reached_5 rfl hl (by decide) rfl (fun ls hl => ?_)
  refine lv_sipush (v := (4096 : Int32)) hx hb dX12_reached_6 (by decide) ?_
  refine fb_nI (N := 4096) X I fw_261 (by decide) (Nat.le_of_ble_eq_true rfl) (Nat.le_of_ble_eq_true rfl) (Nat.le_of_ble_eq_true rfl) dX12_reached_9 (fun x2 H I => ?_)
  have I : fb_In D A s.heap (([fb_o12 za zr fr_e0, fb_aw cI (zr 0) 16205 (fr_m (fun _ => 0) 0), fb_aw (D.1 20) x1 4096 (fun _ => 0), fb_aw cI x2 4096 (fun _ => 0)] : List va_W).flatten) H _ := I
  refine lv_astore_n (lv' := [(2, .ref x2), (1, .ref x1), (0, .ref za)]) hx hb dX12_reached_11 rfl hl (by decide) rfl (fun ls hl => ?_)
  refine lv_iconst (v := (0 : Int32)) hx hb dX12_reached_12 (by decide) ?_
  refine lv_istore_n (lv' := [(3, .int (0 : Int32)), (2, .ref x2), (1, .ref x1), (0, .ref za)]) hx hb dX12_reached_13 rfl hl (by decide) rfl (fun ls hl => ?_)
  refine lv_iconst (v := (-1 : Int32)) hx hb dX12_reached_14 (by decide) ?_
  refine lv_istore (lv' := [(4, .int (-1 : Int32)), (3, .int (0 : Int32)), (2, .ref x2), (1, .ref x1), (0, .ref za)]) hx hb dX12_reached_15 hl (by decide) rfl (fun ls hl => ?_)
  refine lv_iload hx hb dX12_reached_17 (lv_at hl 0 rfl) ?_
  refine lv_bipush (v := (8 : Int32)) hx hb dX12_reached_19 (by decide) ?_
  refine lv_icmp_ge (tgt := 72) hx hb dX12_reached_21 (by decide) (fun c3 => absurd c3 (by decide)) (fun _ => ?_)
  refine lv_iload hx hb dX12_reached_24 (lv_at hl 0 rfl) ?_
  refine lv_if_ge (tgt := 38) hx hb dX12_reached_26 (by decide) (fun c4 => absurd c4 (by decide)) (fun _ => ?_)
  refine lv_aload_n hx hb dX12_reached_29 rfl (lv_at hl 4 rfl) ?_
  refine fb_get X I (k := 0) (v := .ref (zr 0)) fu_X12 0 fb_h12 rfl (Nat.le_of_ble_eq_true rfl) fw_1964 rfl rfl dX12_reached_30 ?_
  refine lv_iconst (v := (4 : Int32)) hx hb dX12_reached_33 (by decide) ?_
  refine fb_iaC (n := 4) (v := (0 : Int32)) X I 1 0 rfl rfl (by decide) (by decide) (Nat.le_of_ble_eq_true rfl) rfl dX12_reached_34 ?_
  refine lv_goto (tgt := 44) hx hb dX12_reached_35 (by decide) ?_
  refine lv_istore (lv' := [(5, .int (0 : Int32)), (4, .int (-1 : Int32)), (3, .int (0 : Int32)), (2, .ref x2), (1, .ref x1), (0, .ref za)]) hx hb dX12_reached_44 hl (by decide) rfl (fun ls hl => ?_)
  refine lv_aload_n hx hb dX12_reached_46 rfl (lv_at hl 4 rfl) ?_
  refine lv_iload hx hb dX12_reached_47 (lv_at hl 0 rfl) ?_
  refine fb_zaC (n := 0) (v := (0 : Int32)) X I 2 2 rfl rfl (by decide) (by decide) (Nat.le_of_ble_eq_true rfl) rfl dX12_reached_49 ?_
  refine lv_if_ne (tgt := 61) hx hb dX12_reached_50 (by decide) (fun c5 => absurd (by decide) c5) (fun _ => ?_)
  refine lv_aload_n hx hb dX12_reached_53 rfl (lv_at hl 3 rfl) ?_
  refine lv_iload_n hx hb dX12_reached_54 rfl (lv_at hl 2 rfl) ?_
  refine lv_iinc (v := (1 : Int32)) (lv' := [(3, .int (1 : Int32)), (5, .int (0 : Int32)), (4, .int (-1 : Int32)), (2, .ref x2), (1, .ref x1), (0, .ref za)]) hx hb dX12_reached_55 hl (k := 2) rfl (by decide) (by decide) rfl (fun ls hl => ?_)
  refine lv_iload hx hb dX12_reached_58 (lv_at hl 1 rfl) ?_
  refine fb_isC (n := 0) (wn := ([fb_o12 za zr fr_e0, fb_aw cI (zr 0) 16205 (fr_m (fun _ => 0) 0), fb_aw (D.1 20) x1 4096 (fun _ => 0), fb_aw cI x2 4096 (upd (fun _ => 0) 0 (0 : Int32))] : List va_W).flatten) X I 3 0 rfl rfl (by decide) (by decide) (Nat.le_of_ble_eq_true rfl) rfl dX12_reached_60 (fun H locs I => ?_)
  refine lv_aload_n hx hb dX12_reached_61 rfl (lv_at hl 4 rfl) ?_
  refine lv_iload hx hb dX12_reached_62 (lv_at hl 1 rfl) ?_
  refine lv_iconst (v := (1 : Int32)) hx hb dX12_reached_64 (by decide) ?_
  refine fb_zsC (n := 0) (wn := ([fb_o12 za zr fr_e0, fb_aw cI (zr 0) 16205 (fr_m (fun _ => 0) 0), fb_aw (D.1 20) x1 4096 (upd (fun _ => 0) 0 (1 : Int32)), fb_aw cI x2 4096 (upd (fun _ => 0) 0 (0 : Int32))] : List va_W).flatten) X I 2 2 rfl rfl (by decide) (by decide) (Nat.le_of_ble_eq_true rfl) rfl rfl dX12_reached_65 (fun H locs I => ?_)
  refine lv_iinc (v := (0 : Int32)) (lv' := [(4, .int (0 : Int32)), (3, .int (1 : Int32)), (5, .int (0 : Int32)), (2, .ref x2), (1, .ref x1), (0, .ref za)]) hx hb dX12_reached_66 hl (k := 2) rfl (by decide) (by decide) rfl (fun ls hl => ?_)
  refine lv_goto (tgt := 17) hx hb dX12_reached_69 (by decide) ?_
  refine lv_iload hx hb dX12_reached_17 (lv_at hl 0 rfl) ?_
  refine lv_bipush (v := (8 : Int32)) hx hb dX12_reached_19 (by decide) ?_
  refine lv_icmp_ge (tgt := 72) hx hb dX12_reached_21 (by decide) (fun c6 => absurd c6 (by decide)) (fun _ => ?_)
  refine lv_iload hx hb dX12_reached_24 (lv_at hl 0 rfl) ?_
  refine lv_if_ge (tgt := 38) hx hb dX12_reached_26 (by decide) (fun _ => ?_) (fun c7 => absurd (by decide) c7)
  refine lv_aload_n hx hb dX12_reached_38 rfl (lv_at hl 5 rfl) ?_
  refine lv_iload hx hb dX12_reached_39 (lv_at hl 0 rfl) ?_
  refine fb_gO (cs := [fb_o12 za zr fr_e0, fb_aw cI (zr 0) 16205 (fr_m (fun _ => 0) 0)]) (rs := [fb_aw (D.1 20) x1 4096 (upd (fun _ => 0) 0 (1 : Int32)), fb_aw cI x2 4096 (upd (fun _ => 0) 0 (0 : Int32))]) X I [0, 1, 2, 3] 4 rfl (by decide +kernel) rfl rfl (fun I => fb_rV (As := [.int (0 : Int32)]) (rest := []) X hl (fb_goodV fw_1945 fw_1947 fw_85 fw_204 fw_1948) (c_vector l D cI cJ za zr fr_e0 (fr_m (fun _ => 0) 0) (0 : Int32) _ (fr_hm _ _) rfl) rfl rfl rfl (by decide +kernel : fb_hd yX12_vector 1) ⟨Nat.le_of_ble_eq_true rfl, Nat.le_of_ble_eq_true rfl⟩ rfl rfl rfl rfl rfl (Nat.le_of_ble_eq_true rfl) ⟨Nat.le_of_ble_eq_true rfl, Nat.le_of_ble_eq_true rfl⟩ dX12_reached_41 I) ?_
  refine lv_istore (lv' := [(5, .int (0 : Int32)), (4, .int (0 : Int32)), (3, .int (1 : Int32)), (2, .ref x2), (1, .ref x1), (0, .ref za)]) hx hb dX12_reached_44 hl (by decide) rfl (fun ls hl => ?_)
  refine lv_aload_n hx hb dX12_reached_46 rfl (lv_at hl 4 rfl) ?_
  refine lv_iload hx hb dX12_reached_47 (lv_at hl 0 rfl) ?_
  refine fb_zaC (n := 0) (v := (1 : Int32)) X I 2 2 rfl rfl (by decide) (by decide) (Nat.le_of_ble_eq_true rfl) pk_us dX12_reached_49 ?_
  refine lv_if_ne (tgt := 61) hx hb dX12_reached_50 (by decide) (fun _ => ?_) (fun c8 => absurd c8 (by decide))
  refine lv_aload_n hx hb dX12_reached_61 rfl (lv_at hl 4 rfl) ?_
  refine lv_iload hx hb dX12_reached_62 (lv_at hl 0 rfl) ?_
  refine lv_iconst (v := (1 : Int32)) hx hb dX12_reached_64 (by decide) ?_
  refine fb_zsC (n := 0) (wn := ([fb_o12 za zr fr_e0, fb_aw cI (zr 0) 16205 (fr_m (fun _ => 0) 0), fb_aw (D.1 20) x1 4096 (upd (upd (fun _ => 0) 0 (1 : Int32)) 0 (1 : Int32)), fb_aw cI x2 4096 (upd (fun _ => 0) 0 (0 : Int32))] : List va_W).flatten) X I 2 2 rfl rfl (by decide) (by decide) (Nat.le_of_ble_eq_true rfl) rfl rfl dX12_reached_65 (fun H locs I => ?_)
  refine lv_iinc (v := (1 : Int32)) (lv' := [(4, .int (1 : Int32)), (5, .int (0 : Int32)), (3, .int (1 : Int32)), (2, .ref x2), (1, .ref x1), (0, .ref za)]) hx hb dX12_reached_66 hl (k := 1) rfl (by decide) (by decide) rfl (fun ls hl => ?_)
  refine lv_goto (tgt := 17) hx hb dX12_reached_69 (by decide) ?_
  refine lv_iload hx hb dX12_reached_17 (lv_at hl 0 rfl) ?_
  refine lv_bipush (v := (8 : Int32)) hx hb dX12_reached_19 (by decide) ?_
  refine lv_icmp_ge (tgt := 72) hx hb dX12_reached_21 (by decide) (fun c9 => absurd c9 (by decide)) (fun _ => ?_)
  refine lv_iload hx hb dX12_reached_24 (lv_at hl 0 rfl) ?_
  refine lv_if_ge (tgt := 38) hx hb dX12_reached_26 (by decide) (fun _ => ?_) (fun c10 => absurd (by decide) c10)
  refine lv_aload_n hx hb dX12_reached_38 rfl (lv_at hl 5 rfl) ?_
  refine lv_iload hx hb dX12_reached_39 (lv_at hl 0 rfl) ?_
  refine fb_gO (cs := [fb_o12 za zr fr_e0, fb_aw cI (zr 0) 16205 (fr_m (fun _ => 0) 0)]) (rs := [fb_aw (D.1 20) x1 4096 (upd (upd (fun _ => 0) 0 (1 : Int32)) 0 (1 : Int32)), fb_aw cI x2 4096 (upd (fun _ => 0) 0 (0 : Int32))]) X I [0, 1, 2, 3] 4 rfl (by decide +kernel) rfl rfl (fun I => fb_rV (As := [.int (1 : Int32)]) (rest := []) X hl (fb_goodV fw_1945 fw_1947 fw_85 fw_204 fw_1948) (c_vector l D cI cJ za zr fr_e0 (fr_m (fun _ => 0) 0) (1 : Int32) _ (fr_hm _ _) rfl) rfl rfl rfl (by decide +kernel : fb_hd yX12_vector 1) ⟨Nat.le_of_ble_eq_true rfl, Nat.le_of_ble_eq_true rfl⟩ rfl rfl rfl rfl rfl (Nat.le_of_ble_eq_true rfl) ⟨Nat.le_of_ble_eq_true rfl, Nat.le_of_ble_eq_true rfl⟩ dX12_reached_41 I) ?_
  refine lv_istore (lv' := [(5, .int (0 : Int32)), (4, .int (1 : Int32)), (3, .int (1 : Int32)), (2, .ref x2), (1, .ref x1), (0, .ref za)]) hx hb dX12_reached_44 hl (by decide) rfl (fun ls hl => ?_)
  refine lv_aload_n hx hb dX12_reached_46 rfl (lv_at hl 4 rfl) ?_
  refine lv_iload hx hb dX12_reached_47 (lv_at hl 0 rfl) ?_
  refine fb_zaC (n := 0) (v := (1 : Int32)) X I 2 2 rfl rfl (by decide) (by decide) (Nat.le_of_ble_eq_true rfl) pk_us dX12_reached_49 ?_
  refine lv_if_ne (tgt := 61) hx hb dX12_reached_50 (by decide) (fun _ => ?_) (fun c11 => absurd c11 (by decide))
  refine lv_aload_n hx hb dX12_reached_61 rfl (lv_at hl 4 rfl) ?_
  refine lv_iload hx hb dX12_reached_62 (lv_at hl 0 rfl) ?_
  refine lv_iconst (v := (1 : Int32)) hx hb dX12_reached_64 (by decide) ?_
  refine fb_zsC (n := 0) (wn := ([fb_o12 za zr fr_e0, fb_aw cI (zr 0) 16205 (fr_m (fun _ => 0) 0), fb_aw (D.1 20) x1 4096 (upd (upd (upd (fun _ => 0) 0 (1 : Int32)) 0 (1 : Int32)) 0 (1 : Int32)), fb_aw cI x2 4096 (upd (fun _ => 0) 0 (0 : Int32))] : List va_W).flatten) X I 2 2 rfl rfl (by decide) (by decide) (Nat.le_of_ble_eq_true rfl) rfl rfl dX12_reached_65 (fun H locs I => ?_)
  refine lv_iinc (v := (2 : Int32)) (lv' := [(4, .int (2 : Int32)), (5, .int (0 : Int32)), (3, .int (1 : Int32)), (2, .ref x2), (1, .ref x1), (0, .ref za)]) hx hb dX12_reached_66 hl (k := 1) rfl (by decide) (by decide) rfl (fun ls hl => ?_)
  refine lv_goto (tgt := 17) hx hb dX12_reached_69 (by decide) ?_
  refine lv_iload hx hb dX12_reached_17 (lv_at hl 0 rfl) ?_
  refine lv_bipush (v := (8 : Int32)) hx hb dX12_reached_19 (by decide) ?_
  refine lv_icmp_ge (tgt := 72) hx hb dX12_reached_21 (by decide) (fun c12 => absurd c12 (by decide)) (fun _ => ?_)
  refine lv_iload hx hb dX12_reached_24 (lv_at hl 0 rfl) ?_
  refine lv_if_ge (tgt := 38) hx hb dX12_reached_26 (by decide) (fun _ => ?_) (fun c13 => absurd (by decide) c13)
  refine lv_aload_n hx hb dX12_reached_38 rfl (lv_at hl 5 rfl) ?_
  refine lv_iload hx hb dX12_reached_39 (lv_at hl 0 rfl) ?_
  refine fb_gO (cs := [fb_o12 za zr fr_e0, fb_aw cI (zr 0) 16205 (fr_m (fun _ => 0) 0)]) (rs := [fb_aw (D.1 20) x1 4096 (upd (upd (upd (fun _ => 0) 0 (1 : Int32)) 0 (1 : Int32)) 0 (1 : Int32)), fb_aw cI x2 4096 (upd (fun _ => 0) 0 (0 : Int32))]) X I [0, 1, 2, 3] 4 rfl (by decide +kernel) rfl rfl (fun I => fb_rV (As := [.int (2 : Int32)]) (rest := []) X hl (fb_goodV fw_1945 fw_1947 fw_85 fw_204 fw_1948) (c_vector l D cI cJ za zr fr_e0 (fr_m (fun _ => 0) 0) (2 : Int32) _ (fr_hm _ _) rfl) rfl rfl rfl (by decide +kernel : fb_hd yX12_vector 1) ⟨Nat.le_of_ble_eq_true rfl, Nat.le_of_ble_eq_true rfl⟩ rfl rfl rfl rfl rfl (Nat.le_of_ble_eq_true rfl) ⟨Nat.le_of_ble_eq_true rfl, Nat.le_of_ble_eq_true rfl⟩ dX12_reached_41 I) ?_
  refine lv_istore (lv' := [(5, .int (0 : Int32)), (4, .int (2 : Int32)), (3, .int (1 : Int32)), (2, .ref x2), (1, .ref x1), (0, .ref za)]) hx hb dX12_reached_44 hl (by decide) rfl (fun ls hl => ?_)
  refine lv_aload_n hx hb dX12_reached_46 rfl (lv_at hl 4 rfl) ?_
  refine lv_iload hx hb dX12_reached_47 (lv_at hl 0 rfl) ?_
  refine fb_zaC (n := 0) (v := (1 : Int32)) X I 2 2 rfl rfl (by decide) (by decide) (Nat.le_of_ble_eq_true rfl) pk_us dX12_reached_49 ?_
  refine lv_if_ne (tgt := 61) hx hb dX12_reached_50 (by decide) (fun _ => ?_) (fun c14 => absurd c14 (by decide))
  refine lv_aload_n hx hb dX12_reached_61 rfl (lv_at hl 4 rfl) ?_
  refine lv_iload hx hb dX12_reached_62 (lv_at hl 0 rfl) ?_
  refine lv_iconst (v := (1 : Int32)) hx hb dX12_reached_64 (by decide) ?_
  refine fb_zsC (n := 0) (wn := ([fb_o12 za zr fr_e0, fb_aw cI (zr 0) 16205 (fr_m (fun _ => 0) 0), fb_aw (D.1 20) x1 4096 (upd (upd (upd (upd (fun _ => 0) 0 (1 : Int32)) 0 (1 : Int32)) 0 (1 : Int32)) 0 (1 : Int32)), fb_aw cI x2 4096 (upd (fun _ => 0) 0 (0 : Int32))] : List va_W).flatten) X I 2 2 rfl rfl (by decide) (by decide) (Nat.le_of_ble_eq_true rfl) rfl rfl dX12_reached_65 (fun H locs I => ?_)
  refine lv_iinc (v := (3 : Int32)) (lv' := [(4, .int (3 : Int32)), (5, .int (0 : Int32)), (3, .int (1 : Int32)), (2, .ref x2), (1, .ref x1), (0, .ref za)]) hx hb dX12_reached_66 hl (k := 1) rfl (by decide) (by decide) rfl (fun ls hl => ?_)
  refine lv_goto (tgt := 17) hx hb dX12_reached_69 (by decide) ?_
  refine lv_iload hx hb dX12_reached_17 (lv_at hl 0 rfl) ?_
  refine lv_bipush (v := (8 : Int32)) hx hb dX12_reached_19 (by decide) ?_
  refine lv_icmp_ge (tgt := 72) hx hb dX12_reached_21 (by decide) (fun c15 => absurd c15 (by decide)) (fun _ => ?_)
  refine lv_iload hx hb dX12_reached_24 (lv_at hl 0 rfl) ?_
  refine lv_if_ge (tgt := 38) hx hb dX12_reached_26 (by decide) (fun _ => ?_) (fun c16 => absurd (by decide) c16)
  refine lv_aload_n hx hb dX12_reached_38 rfl (lv_at hl 5 rfl) ?_
  refine lv_iload hx hb dX12_reached_39 (lv_at hl 0 rfl) ?_
  refine fb_gO (cs := [fb_o12 za zr fr_e0, fb_aw cI (zr 0) 16205 (fr_m (fun _ => 0) 0)]) (rs := [fb_aw (D.1 20) x1 4096 (upd (upd (upd (upd (fun _ => 0) 0 (1 : Int32)) 0 (1 : Int32)) 0 (1 : Int32)) 0 (1 : Int32)), fb_aw cI x2 4096 (upd (fun _ => 0) 0 (0 : Int32))]) X I [0, 1, 2, 3] 4 rfl (by decide +kernel) rfl rfl (fun I => fb_rV (As := [.int (3 : Int32)]) (rest := []) X hl (fb_goodV fw_1945 fw_1947 fw_85 fw_204 fw_1948) (c_vector l D cI cJ za zr fr_e0 (fr_m (fun _ => 0) 0) (3 : Int32) _ (fr_hm _ _) rfl) rfl rfl rfl (by decide +kernel : fb_hd yX12_vector 1) ⟨Nat.le_of_ble_eq_true rfl, Nat.le_of_ble_eq_true rfl⟩ rfl rfl rfl rfl rfl (Nat.le_of_ble_eq_true rfl) ⟨Nat.le_of_ble_eq_true rfl, Nat.le_of_ble_eq_true rfl⟩ dX12_reached_41 I) ?_
  refine lv_istore (lv' := [(5, .int (0 : Int32)), (4, .int (3 : Int32)), (3, .int (1 : Int32)), (2, .ref x2), (1, .ref x1), (0, .ref za)]) hx hb dX12_reached_44 hl (by decide) rfl (fun ls hl => ?_)
  refine lv_aload_n hx hb dX12_reached_46 rfl (lv_at hl 4 rfl) ?_
  refine lv_iload hx hb dX12_reached_47 (lv_at hl 0 rfl) ?_
  refine fb_zaC (n := 0) (v := (1 : Int32)) X I 2 2 rfl rfl (by decide) (by decide) (Nat.le_of_ble_eq_true rfl) pk_us dX12_reached_49 ?_
  refine lv_if_ne (tgt := 61) hx hb dX12_reached_50 (by decide) (fun _ => ?_) (fun c17 => absurd c17 (by decide))
  refine lv_aload_n hx hb dX12_reached_61 rfl (lv_at hl 4 rfl) ?_
  refine lv_iload hx hb dX12_reached_62 (lv_at hl 0 rfl) ?_
  refine lv_iconst (v := (1 : Int32)) hx hb dX12_reached_64 (by decide) ?_
  refine fb_zsC (n := 0) (wn := ([fb_o12 za zr fr_e0, fb_aw cI (zr 0) 16205 (fr_m (fun _ => 0) 0), fb_aw (D.1 20) x1 4096 (upd (upd (upd (upd (upd (fun _ => 0) 0 (1 : Int32)) 0 (1 : Int32)) 0 (1 : Int32)) 0 (1 : Int32)) 0 (1 : Int32)), fb_aw cI x2 4096 (upd (fun _ => 0) 0 (0 : Int32))] : List va_W).flatten) X I 2 2 rfl rfl (by decide) (by decide) (Nat.le_of_ble_eq_true rfl) rfl rfl dX12_reached_65 (fun H locs I => ?_)
  refine lv_iinc (v := (4 : Int32)) (lv' := [(4, .int (4 : Int32)), (5, .int (0 : Int32)), (3, .int (1 : Int32)), (2, .ref x2), (1, .ref x1), (0, .ref za)]) hx hb dX12_reached_66 hl (k := 1) rfl (by decide) (by decide) rfl (fun ls hl => ?_)
  refine lv_goto (tgt := 17) hx hb dX12_reached_69 (by decide) ?_
  refine lv_iload hx hb dX12_reached_17 (lv_at hl 0 rfl) ?_
  refine lv_bipush (v := (8 : Int32)) hx hb dX12_reached_19 (by decide) ?_
  refine lv_icmp_ge (tgt := 72) hx hb dX12_reached_21 (by decide) (fun c18 => absurd c18 (by decide)) (fun _ => ?_)
  refine lv_iload hx hb dX12_reached_24 (lv_at hl 0 rfl) ?_
  refine lv_if_ge (tgt := 38) hx hb dX12_reached_26 (by decide) (fun _ => ?_) (fun c19 => absurd (by decide) c19)
  refine lv_aload_n hx hb dX12_reached_38 rfl (lv_at hl 5 rfl) ?_
  refine lv_iload hx hb dX12_reached_39 (lv_at hl 0 rfl) ?_
  refine fb_gO (cs := [fb_o12 za zr fr_e0, fb_aw cI (zr 0) 16205 (fr_m (fun _ => 0) 0)]) (rs := [fb_aw (D.1 20) x1 4096 (upd (upd (upd (upd (upd (fun _ => 0) 0 (1 : Int32)) 0 (1 : Int32)) 0 (1 : Int32)) 0 (1 : Int32)) 0 (1 : Int32)), fb_aw cI x2 4096 (upd (fun _ => 0) 0 (0 : Int32))]) X I [0, 1, 2, 3] 4 rfl (by decide +kernel) rfl rfl (fun I => fb_rV (As := [.int (4 : Int32)]) (rest := []) X hl (fb_goodV fw_1945 fw_1947 fw_85 fw_204 fw_1948) (c_vector l D cI cJ za zr fr_e0 (fr_m (fun _ => 0) 0) (4 : Int32) _ (fr_hm _ _) rfl) rfl rfl rfl (by decide +kernel : fb_hd yX12_vector 1) ⟨Nat.le_of_ble_eq_true rfl, Nat.le_of_ble_eq_true rfl⟩ rfl rfl rfl rfl rfl (Nat.le_of_ble_eq_true rfl) ⟨Nat.le_of_ble_eq_true rfl, Nat.le_of_ble_eq_true rfl⟩ dX12_reached_41 I) ?_
  refine lv_istore (lv' := [(5, .int (0 : Int32)), (4, .int (4 : Int32)), (3, .int (1 : Int32)), (2, .ref x2), (1, .ref x1), (0, .ref za)]) hx hb dX12_reached_44 hl (by decide) rfl (fun ls hl => ?_)
  refine lv_aload_n hx hb dX12_reached_46 rfl (lv_at hl 4 rfl) ?_
  refine lv_iload hx hb dX12_reached_47 (lv_at hl 0 rfl) ?_
  refine fb_zaC (n := 0) (v := (1 : Int32)) X I 2 2 rfl rfl (by decide) (by decide) (Nat.le_of_ble_eq_true rfl) pk_us dX12_reached_49 ?_
  refine lv_if_ne (tgt := 61) hx hb dX12_reached_50 (by decide) (fun _ => ?_) (fun c20 => absurd c20 (by decide))
  refine lv_aload_n hx hb dX12_reached_61 rfl (lv_at hl 4 rfl) ?_
  refine lv_iload hx hb dX12_reached_62 (lv_at hl 0 rfl) ?_
  refine lv_iconst (v := (1 : Int32)) hx hb dX12_reached_64 (by decide) ?_
  refine fb_zsC (n := 0) (wn := ([fb_o12 za zr fr_e0, fb_aw cI (zr 0) 16205 (fr_m (fun _ => 0) 0), fb_aw (D.1 20) x1 4096 (upd (upd (upd (upd (upd (upd (fun _ => 0) 0 (1 : Int32)) 0 (1 : Int32)) 0 (1 : Int32)) 0 (1 : Int32)) 0 (1 : Int32)) 0 (1 : Int32)), fb_aw cI x2 4096 (upd (fun _ => 0) 0 (0 : Int32))] : List va_W).flatten) X I 2 2 rfl rfl (by decide) (by decide) (Nat.le_of_ble_eq_true rfl) rfl rfl dX12_reached_65 (fun H locs I => ?_)
  refine lv_iinc (v := (5 : Int32)) (lv' := [(4, .int (5 : Int32)), (5, .int (0 : Int32)), (3, .int (1 : Int32)), (2, .ref x2), (1, .ref x1), (0, .ref za)]) hx hb dX12_reached_66 hl (k := 1) rfl (by decide) (by decide) rfl (fun ls hl => ?_)
  refine lv_goto (tgt := 17) hx hb dX12_reached_69 (by decide) ?_
  refine lv_iload hx hb dX12_reached_17 (lv_at hl 0 rfl) ?_
  refine lv_bipush (v := (8 : Int32)) hx hb dX12_reached_19 (by decide) ?_
  refine lv_icmp_ge (tgt := 72) hx hb dX12_reached_21 (by decide) (fun c21 => absurd c21 (by decide)) (fun _ => ?_)
  refine lv_iload hx hb dX12_reached_24 (lv_at hl 0 rfl) ?_
  refine lv_if_ge (tgt := 38) hx hb dX12_reached_26 (by decide) (fun _ => ?_) (fun c22 => absurd (by decide) c22)
  refine lv_aload_n hx hb dX12_reached_38 rfl (lv_at hl 5 rfl) ?_
  refine lv_iload hx hb dX12_reached_39 (lv_at hl 0 rfl) ?_
  refine fb_gO (cs := [fb_o12 za zr fr_e0, fb_aw cI (zr 0) 16205 (fr_m (fun _ => 0) 0)]) (rs := [fb_aw (D.1 20) x1 4096 (upd (upd (upd (upd (upd (upd (fun _ => 0) 0 (1 : Int32)) 0 (1 : Int32)) 0 (1 : Int32)) 0 (1 : Int32)) 0 (1 : Int32)) 0 (1 : Int32)), fb_aw cI x2 4096 (upd (fun _ => 0) 0 (0 : Int32))]) X I [0, 1, 2, 3] 4 rfl (by decide +kernel) rfl rfl (fun I => fb_rV (As := [.int (5 : Int32)]) (rest := []) X hl (fb_goodV fw_1945 fw_1947 fw_85 fw_204 fw_1948) (c_vector l D cI cJ za zr fr_e0 (fr_m (fun _ => 0) 0) (5 : Int32) _ (fr_hm _ _) rfl) rfl rfl rfl (by decide +kernel : fb_hd yX12_vector 1) ⟨Nat.le_of_ble_eq_true rfl, Nat.le_of_ble_eq_true rfl⟩ rfl rfl rfl rfl rfl (Nat.le_of_ble_eq_true rfl) ⟨Nat.le_of_ble_eq_true rfl, Nat.le_of_ble_eq_true rfl⟩ dX12_reached_41 I) ?_
  refine lv_istore (lv' := [(5, .int (0 : Int32)), (4, .int (5 : Int32)), (3, .int (1 : Int32)), (2, .ref x2), (1, .ref x1), (0, .ref za)]) hx hb dX12_reached_44 hl (by decide) rfl (fun ls hl => ?_)
  refine lv_aload_n hx hb dX12_reached_46 rfl (lv_at hl 4 rfl) ?_
  refine lv_iload hx hb dX12_reached_47 (lv_at hl 0 rfl) ?_
  refine fb_zaC (n := 0) (v := (1 : Int32)) X I 2 2 rfl rfl (by decide) (by decide) (Nat.le_of_ble_eq_true rfl) pk_us dX12_reached_49 ?_
  refine lv_if_ne (tgt := 61) hx hb dX12_reached_50 (by decide) (fun _ => ?_) (fun c23 => absurd c23 (by decide))
  refine lv_aload_n hx hb dX12_reached_61 rfl (lv_at hl 4 rfl) ?_
  refine lv_iload hx hb dX12_reached_62 (lv_at hl 0 rfl) ?_
  refine lv_iconst (v := (1 : Int32)) hx hb dX12_reached_64 (by decide) ?_
  refine fb_zsC (n := 0) (wn := ([fb_o12 za zr fr_e0, fb_aw cI (zr 0) 16205 (fr_m (fun _ => 0) 0), fb_aw (D.1 20) x1 4096 (upd (upd (upd (upd (upd (upd (upd (fun _ => 0) 0 (1 : Int32)) 0 (1 : Int32)) 0 (1 : Int32)) 0 (1 : Int32)) 0 (1 : Int32)) 0 (1 : Int32)) 0 (1 : Int32)), fb_aw cI x2 4096 (upd (fun _ => 0) 0 (0 : Int32))] : List va_W).flatten) X I 2 2 rfl rfl (by decide) (by decide) (Nat.le_of_ble_eq_true rfl) rfl rfl dX12_reached_65 (fun H locs I => ?_)
  refine lv_iinc (v := (6 : Int32)) (lv' := [(4, .int (6 : Int32)), (5, .int (0 : Int32)), (3, .int (1 : Int32)), (2, .ref x2), (1, .ref x1), (0, .ref za)]) hx hb dX12_reached_66 hl (k := 1) rfl (by decide) (by decide) rfl (fun ls hl => ?_)
  refine lv_goto (tgt := 17) hx hb dX12_reached_69 (by decide) ?_
  refine lv_iload hx hb dX12_reached_17 (lv_at hl 0 rfl) ?_
  refine lv_bipush (v := (8 : Int32)) hx hb dX12_reached_19 (by decide) ?_
  refine lv_icmp_ge (tgt := 72) hx hb dX12_reached_21 (by decide) (fun c24 => absurd c24 (by decide)) (fun _ => ?_)
  refine lv_iload hx hb dX12_reached_24 (lv_at hl 0 rfl) ?_
  refine lv_if_ge (tgt := 38) hx hb dX12_reached_26 (by decide) (fun _ => ?_) (fun c25 => absurd (by decide) c25)
  refine lv_aload_n hx hb dX12_reached_38 rfl (lv_at hl 5 rfl) ?_
  refine lv_iload hx hb dX12_reached_39 (lv_at hl 0 rfl) ?_
  refine fb_gO (cs := [fb_o12 za zr fr_e0, fb_aw cI (zr 0) 16205 (fr_m (fun _ => 0) 0)]) (rs := [fb_aw (D.1 20) x1 4096 (upd (upd (upd (upd (upd (upd (upd (fun _ => 0) 0 (1 : Int32)) 0 (1 : Int32)) 0 (1 : Int32)) 0 (1 : Int32)) 0 (1 : Int32)) 0 (1 : Int32)) 0 (1 : Int32)), fb_aw cI x2 4096 (upd (fun _ => 0) 0 (0 : Int32))]) X I [0, 1, 2, 3] 4 rfl (by decide +kernel) rfl rfl (fun I => fb_rV (As := [.int (6 : Int32)]) (rest := []) X hl (fb_goodV fw_1945 fw_1947 fw_85 fw_204 fw_1948) (c_vector l D cI cJ za zr fr_e0 (fr_m (fun _ => 0) 0) (6 : Int32) _ (fr_hm _ _) rfl) rfl rfl rfl (by decide +kernel : fb_hd yX12_vector 1) ⟨Nat.le_of_ble_eq_true rfl, Nat.le_of_ble_eq_true rfl⟩ rfl rfl rfl rfl rfl (Nat.le_of_ble_eq_true rfl) ⟨Nat.le_of_ble_eq_true rfl, Nat.le_of_ble_eq_true rfl⟩ dX12_reached_41 I) ?_
  refine lv_istore (lv' := [(5, .int (0 : Int32)), (4, .int (6 : Int32)), (3, .int (1 : Int32)), (2, .ref x2), (1, .ref x1), (0, .ref za)]) hx hb dX12_reached_44 hl (by decide) rfl (fun ls hl => ?_)
  refine lv_aload_n hx hb dX12_reached_46 rfl (lv_at hl 4 rfl) ?_
  refine lv_iload hx hb dX12_reached_47 (lv_at hl 0 rfl) ?_
  refine fb_zaC (n := 0) (v := (1 : Int32)) X I 2 2 rfl rfl (by decide) (by decide) (Nat.le_of_ble_eq_true rfl) pk_us dX12_reached_49 ?_
  refine lv_if_ne (tgt := 61) hx hb dX12_reached_50 (by decide) (fun _ => ?_) (fun c26 => absurd c26 (by decide))
  refine lv_aload_n hx hb dX12_reached_61 rfl (lv_at hl 4 rfl) ?_
  refine lv_iload hx hb dX12_reached_62 (lv_at hl 0 rfl) ?_
  refine lv_iconst (v := (1 : Int32)) hx hb dX12_reached_64 (by decide) ?_
  refine fb_zsC (n := 0) (wn := ([fb_o12 za zr fr_e0, fb_aw cI (zr 0) 16205 (fr_m (fun _ => 0) 0), fb_aw (D.1 20) x1 4096 (upd (upd (upd (upd (upd (upd (upd (upd (fun _ => 0) 0 (1 : Int32)) 0 (1 : Int32)) 0 (1 : Int32)) 0 (1 : Int32)) 0 (1 : Int32)) 0 (1 : Int32)) 0 (1 : Int32)) 0 (1 : Int32)), fb_aw cI x2 4096 (upd (fun _ => 0) 0 (0 : Int32))] : List va_W).flatten) X I 2 2 rfl rfl (by decide) (by decide) (Nat.le_of_ble_eq_true rfl) rfl rfl dX12_reached_65 (fun H locs I => ?_)
  refine lv_iinc (v := (7 : Int32)) (lv' := [(4, .int (7 : Int32)), (5, .int (0 : Int32)), (3, .int (1 : Int32)), (2, .ref x2), (1, .ref x1), (0, .ref za)]) hx hb dX12_reached_66 hl (k := 1) rfl (by decide) (by decide) rfl (fun ls hl => ?_)
  refine lv_goto (tgt := 17) hx hb dX12_reached_69 (by decide) ?_
  refine lv_iload hx hb dX12_reached_17 (lv_at hl 0 rfl) ?_
  refine lv_bipush (v := (8 : Int32)) hx hb dX12_reached_19 (by decide) ?_
  refine lv_icmp_ge (tgt := 72) hx hb dX12_reached_21 (by decide) (fun c27 => absurd c27 (by decide)) (fun _ => ?_)
  refine lv_iload hx hb dX12_reached_24 (lv_at hl 0 rfl) ?_
  refine lv_if_ge (tgt := 38) hx hb dX12_reached_26 (by decide) (fun _ => ?_) (fun c28 => absurd (by decide) c28)
  refine lv_aload_n hx hb dX12_reached_38 rfl (lv_at hl 5 rfl) ?_
  refine lv_iload hx hb dX12_reached_39 (lv_at hl 0 rfl) ?_
  refine fb_gO (cs := [fb_o12 za zr fr_e0, fb_aw cI (zr 0) 16205 (fr_m (fun _ => 0) 0)]) (rs := [fb_aw (D.1 20) x1 4096 (upd (upd (upd (upd (upd (upd (upd (upd (fun _ => 0) 0 (1 : Int32)) 0 (1 : Int32)) 0 (1 : Int32)) 0 (1 : Int32)) 0 (1 : Int32)) 0 (1 : Int32)) 0 (1 : Int32)) 0 (1 : Int32)), fb_aw cI x2 4096 (upd (fun _ => 0) 0 (0 : Int32))]) X I [0, 1, 2, 3] 4 rfl (by decide +kernel) rfl rfl (fun I => fb_rV (As := [.int (7 : Int32)]) (rest := []) X hl (fb_goodV fw_1945 fw_1947 fw_85 fw_204 fw_1948) (c_vector l D cI cJ za zr fr_e0 (fr_m (fun _ => 0) 0) (7 : Int32) _ (fr_hm _ _) rfl) rfl rfl rfl (by decide +kernel : fb_hd yX12_vector 1) ⟨Nat.le_of_ble_eq_true rfl, Nat.le_of_ble_eq_true rfl⟩ rfl rfl rfl rfl rfl (Nat.le_of_ble_eq_true rfl) ⟨Nat.le_of_ble_eq_true rfl, Nat.le_of_ble_eq_true rfl⟩ dX12_reached_41 I) ?_
  refine lv_istore (lv' := [(5, .int (0 : Int32)), (4, .int (7 : Int32)), (3, .int (1 : Int32)), (2, .ref x2), (1, .ref x1), (0, .ref za)]) hx hb dX12_reached_44 hl (by decide) rfl (fun ls hl => ?_)
  refine lv_aload_n hx hb dX12_reached_46 rfl (lv_at hl 4 rfl) ?_
  refine lv_iload hx hb dX12_reached_47 (lv_at hl 0 rfl) ?_
  refine fb_zaC (n := 0) (v := (1 : Int32)) X I 2 2 rfl rfl (by decide) (by decide) (Nat.le_of_ble_eq_true rfl) pk_us dX12_reached_49 ?_
  refine lv_if_ne (tgt := 61) hx hb dX12_reached_50 (by decide) (fun _ => ?_) (fun c29 => absurd c29 (by decide))
  refine lv_aload_n hx hb dX12_reached_61 rfl (lv_at hl 4 rfl) ?_
  refine lv_iload hx hb dX12_reached_62 (lv_at hl 0 rfl) ?_
  refine lv_iconst (v := (1 : Int32)) hx hb dX12_reached_64 (by decide) ?_
  refine fb_zsC (n := 0) (wn := ([fb_o12 za zr fr_e0, fb_aw cI (zr 0) 16205 (fr_m (fun _ => 0) 0), fb_aw (D.1 20) x1 4096 (upd (upd (upd (upd (upd (upd (upd (upd (upd (fun _ => 0) 0 (1 : Int32)) 0 (1 : Int32)) 0 (1 : Int32)) 0 (1 : Int32)) 0 (1 : Int32)) 0 (1 : Int32)) 0 (1 : Int32)) 0 (1 : Int32)) 0 (1 : Int32)), fb_aw cI x2 4096 (upd (fun _ => 0) 0 (0 : Int32))] : List va_W).flatten) X I 2 2 rfl rfl (by decide) (by decide) (Nat.le_of_ble_eq_true rfl) rfl rfl dX12_reached_65 (fun H locs I => ?_)
  refine lv_iinc (v := (8 : Int32)) (lv' := [(4, .int (8 : Int32)), (5, .int (0 : Int32)), (3, .int (1 : Int32)), (2, .ref x2), (1, .ref x1), (0, .ref za)]) hx hb dX12_reached_66 hl (k := 1) rfl (by decide) (by decide) rfl (fun ls hl => ?_)
  refine lv_goto (tgt := 17) hx hb dX12_reached_69 (by decide) ?_
  refine lv_iload hx hb dX12_reached_17 (lv_at hl 0 rfl) ?_
  refine lv_bipush (v := (8 : Int32)) hx hb dX12_reached_19 (by decide) ?_
  refine lv_icmp_ge (tgt := 72) hx hb dX12_reached_21 (by decide) (fun _ => ?_) (fun c30 => absurd (by decide) c30)
  refine lv_iconst (v := (0 : Int32)) hx hb dX12_reached_72 (by decide) ?_
  refine lv_istore (lv' := [(4, .int (0 : Int32)), (5, .int (0 : Int32)), (3, .int (1 : Int32)), (2, .ref x2), (1, .ref x1), (0, .ref za)]) hx hb dX12_reached_73 hl (by decide) rfl (fun ls hl => ?_)
  exact b_reached_75 (za := za) (zr := zr) (x1 := x1) (x2 := x2) X   (4095) 0 (by omega) (upd (upd (upd (upd (upd (upd (upd (upd (upd (fun _ => 0) 0 (1 : Int32)) 0 (1 : Int32)) 0 (1 : Int32)) 0 (1 : Int32)) 0 (1 : Int32)) 0 (1 : Int32)) 0 (1 : Int32)) 0 (1 : Int32)) 0 (1 : Int32)) (upd (fun _ => 0) 0 (0 : Int32)) (fun j _ => (fr_r0 _ j (fr_r0 _ j (fr_r0 _ j (fr_r0 _ j (fr_r0 _ j (fr_r0 _ j (fr_r0 _ j (fr_r0 _ j (fr_r00 j)))))))))) (fun j hj => by obtain rfl : j = 0 := (by omega); rfl) _ _ _ I (lv_sub hl [0, 2, 3, 4, 5] rfl)

set_option maxHeartbeats 4000000 in
set_option maxRecDepth 100000 in
theorem c_isCode_out (l : Launch) (D : va_G) (cI cJ : ClassId) (za : Nat) (zr : Nat → Nat) (l1 : Int32) (sz : Nat) (q1 : f_X12_isIn l1 (0 : Int32) (4095 : Int32) = (0 : Int32)) : Met l yX12_isCode (Cond.code yX12_isCode cX12_isCode 2 (some .boolean) :: fb_all) ({ frames := 3, cells := 0, slots := 0, locals := 75 } : Room) (fb_PP D (fb_ty D cI cJ) [.ref za, .int l1] (([fb_o12 za zr fr_e0] : List va_W).flatten) sz) (fb_QI D (va_A (([fb_o12 za zr fr_e0] : List va_W).flatten) sz) (fun (r : Int32) (_ : Unit) => r = (0 : Int32)) (fun (t : Unit) => ([fb_o12 za zr (upd (upd fr_e0 19 (0 : Int32)) 19 (1 : Int32))] : List va_W).flatten)) 0 0 (va_A (([fb_o12 za zr fr_e0] : List va_W).flatten) sz) := by
  refine fb_ent (Qf := fun A => (fb_QI D A (fun (r : Int32) (_ : Unit) => r = (0 : Int32)) (fun (t : Unit) => ([fb_o12 za zr (upd (upd fr_e0 19 (0 : Int32)) 19 (1 : Int32))] : List va_W).flatten))) (by decide +kernel) (Nat.le_of_ble_eq_true rfl) ?_
  intro p e s m args below meth c A ls X I hl hin
  obtain ⟨hx, hb, hr, hml, hown, hts, hlk, hA, hK, hF⟩ := id X
  have hl : lv_has ls 2 [(0, .ref za), (1, .int l1)] := hl
  refine lv_aload_n hx hb dX12_isCode_0 rfl (lv_at hl 0 rfl) ?_
  refine lv_iload_n hx hb dX12_isCode_1 rfl (lv_at hl 1 rfl) ?_
  refine lv_iconst (v := (0 : Int32)) hx hb dX12_isCode_2 (by decide) ?_
  refine lv_sipush (v := (4095 : Int32)) hx hb dX12_isCode_3 (by decide) ?_
  refine fb_gI (cs := [fb_o12 za zr fr_e0]) (rs := []) (fun (t : Unit) => [fb_o12 za zr (upd (upd fr_e0 19 (0 : Int32)) 19 (1 : Int32))]) (fun (t : Unit) => [fb_o12 za zr (upd (upd fr_e0 19 (0 : Int32)) 19 (1 : Int32))]) X I [0] 1 rfl (by decide +kernel) rfl rfl [0] 1 (fun _ => rfl) (by decide +kernel) (fun _ => rfl) (fun _ => rfl) (fun I => fb_rV (As := [.int l1, .int (0 : Int32), .int (4095 : Int32)]) (rest := []) X hl (fb_goodV fw_2346 fw_2348 fw_136 fw_204 fw_2349) (c_isNot_out l D cI cJ za zr fr_e0 l1 (0 : Int32) (4095 : Int32) _ q1) rfl rfl rfl (by decide +kernel : fb_hd yX12_isNot 3) ⟨Nat.le_of_ble_eq_true rfl, Nat.le_of_ble_eq_true rfl⟩ rfl rfl rfl rfl rfl (Nat.le_of_ble_eq_true rfl) ⟨Nat.zero_le _, Nat.zero_le _⟩ dX12_isCode_6 I) ?_
  intro r2 w1 H locs e0 I
  subst e0
  have I : fb_In D A s.heap (([fb_o12 za zr (upd (upd fr_e0 19 (0 : Int32)) 19 (1 : Int32))] : List va_W).flatten) H locs := I
  refine lv_if_ne (tgt := 25) hx hb dX12_isCode_9 (by decide) (fun _ => ?_) (fun c3 => absurd c3 (by decide))
  refine lv_iconst (v := (0 : Int32)) hx hb dX12_isCode_25 (by decide) ?_
  exact fb_retI (u := ()) X I rfl rfl dX12_isCode_26

set_option maxHeartbeats 4000000 in
set_option maxRecDepth 100000 in
theorem c_isCode_in (l : Launch) (D : va_G) (cI cJ : ClassId) (za : Nat) (zr : Nat → Nat) (zj : Nat) (sz : Nat) (hj : zj < 4096) : Met l yX12_isCode (Cond.code yX12_isCode cX12_isCode 2 (some .boolean) :: fb_all) ({ frames := 6, cells := 4098, slots := 16384, locals := 155 } : Room) (fb_PP D (fb_ty D cI cJ) [.ref za, .int (nI zj)] (([fb_o12 za zr fr_e0, fb_aw cI (zr 0) 16205 (fr_m (fun _ => 0) 0)] : List va_W).flatten) sz) (fb_QI D (va_A (([fb_o12 za zr fr_e0, fb_aw cI (zr 0) 16205 (fr_m (fun _ => 0) 0)] : List va_W).flatten) sz) (fun (r : Int32) (_ : Nat × fb_AR) => r = (1 : Int32)) (fun (t : Nat × fb_AR) => ([fb_o12 za zr (upd fr_e0 19 (0 : Int32)), fb_aw cI (zr 0) 16205 (fr_m (fun _ => 0) 0), fb_aw (D.1 20) (t.1) 4096 (t.2)] : List va_W).flatten)) 4098 16384 (va_A (([fb_o12 za zr fr_e0, fb_aw cI (zr 0) 16205 (fr_m (fun _ => 0) 0)] : List va_W).flatten) sz) := by
  refine fb_ent (Qf := fun A => (fb_QI D A (fun (r : Int32) (_ : Nat × fb_AR) => r = (1 : Int32)) (fun (t : Nat × fb_AR) => ([fb_o12 za zr (upd fr_e0 19 (0 : Int32)), fb_aw cI (zr 0) 16205 (fr_m (fun _ => 0) 0), fb_aw (D.1 20) (t.1) 4096 (t.2)] : List va_W).flatten))) (by decide +kernel) (Nat.le_of_ble_eq_true rfl) ?_
  intro p e s m args below meth c A ls X I hl hin
  obtain ⟨hx, hb, hr, hml, hown, hts, hlk, hA, hK, hF⟩ := id X
  have hl : lv_has ls 2 [(0, .ref za), (1, .int (nI zj))] := hl
  refine lv_aload_n hx hb dX12_isCode_0 rfl (lv_at hl 0 rfl) ?_
  refine lv_iload_n hx hb dX12_isCode_1 rfl (lv_at hl 1 rfl) ?_
  refine lv_iconst (v := (0 : Int32)) hx hb dX12_isCode_2 (by decide) ?_
  refine lv_sipush (v := (4095 : Int32)) hx hb dX12_isCode_3 (by decide) ?_
  refine fb_gI (cs := [fb_o12 za zr fr_e0]) (rs := [fb_aw cI (zr 0) 16205 (fr_m (fun _ => 0) 0)]) (fun (t : Unit) => [fb_o12 za zr (upd fr_e0 19 (0 : Int32)), fb_aw cI (zr 0) 16205 (fr_m (fun _ => 0) 0)]) (fun (t : Unit) => [fb_o12 za zr (upd fr_e0 19 (0 : Int32))]) X I [0, 1] 2 rfl (by decide +kernel) rfl rfl [0, 1] 2 (fun _ => rfl) (by decide +kernel) (fun _ => rfl) (fun _ => rfl) (fun I => fb_rV (As := [.int (nI zj), .int (0 : Int32), .int (4095 : Int32)]) (rest := []) X hl (fb_goodV fw_2346 fw_2348 fw_136 fw_204 fw_2349) (c_isNot_in l D cI cJ za zr fr_e0 (nI zj) (0 : Int32) (4095 : Int32) _ (fr_inN (z := zj) (a := 0) (b := 4095) (by omega) (by omega) (by omega))) rfl rfl rfl (by decide +kernel : fb_hd yX12_isNot 3) ⟨Nat.le_of_ble_eq_true rfl, Nat.le_of_ble_eq_true rfl⟩ rfl rfl rfl rfl rfl (Nat.le_of_ble_eq_true rfl) ⟨Nat.zero_le _, Nat.zero_le _⟩ dX12_isCode_6 I) ?_
  intro r2 w1 H locs e0 I
  subst e0
  have I : fb_In D A s.heap (([fb_o12 za zr (upd fr_e0 19 (0 : Int32)), fb_aw cI (zr 0) 16205 (fr_m (fun _ => 0) 0)] : List va_W).flatten) H locs := I
  refine lv_if_ne (tgt := 25) hx hb dX12_isCode_9 (by decide) (fun c3 => absurd (by decide) c3) (fun _ => ?_)
  refine lv_aload_n hx hb dX12_isCode_12 rfl (lv_at hl 0 rfl) ?_
  refine fb_gR (cs := [fb_o12 za zr (upd fr_e0 19 (0 : Int32)), fb_aw cI (zr 0) 16205 (fr_m (fun _ => 0) 0)]) (rs := []) (fun (t : fb_AR) (rr : Nat) => [fb_o12 za zr (upd fr_e0 19 (0 : Int32)), fb_aw cI (zr 0) 16205 (fr_m (fun _ => 0) 0), fb_aw (D.1 20) rr 4096 t]) (fun (t : fb_AR) (rr : Nat) => [fb_o12 za zr (upd fr_e0 19 (0 : Int32)), fb_aw cI (zr 0) 16205 (fr_m (fun _ => 0) 0), fb_aw (D.1 20) rr 4096 t]) X I [0, 1] 2 rfl (by decide +kernel) rfl rfl [0, 1, 2] 3 (fun _ _ => rfl) (by decide +kernel) (fun _ _ => rfl) (fun _ _ => rfl) (fun I => fb_rV (As := []) (rest := []) X hl (fb_goodV fw_2767 fw_2769 fw_188 fw_204 fw_2770) (c_reached l D cI cJ za zr _ ) rfl rfl rfl (by decide +kernel : fb_hd yX12_reached 0) ⟨Nat.le_of_ble_eq_true rfl, Nat.le_of_ble_eq_true rfl⟩ rfl rfl rfl rfl rfl (Nat.le_of_ble_eq_true rfl) ⟨Nat.le_of_ble_eq_true rfl, Nat.le_of_ble_eq_true rfl⟩ dX12_isCode_13 I) ?_
  intro w4 x5 H locs e0 I
  have p6 : ∀ j, j < 4096 → w4 j = 1 := e0
  have I : fb_In D A s.heap (([fb_o12 za zr (upd fr_e0 19 (0 : Int32)), fb_aw cI (zr 0) 16205 (fr_m (fun _ => 0) 0), fb_aw (D.1 20) x5 4096 w4] : List va_W).flatten) H locs := I
  refine lv_iload_n hx hb dX12_isCode_16 rfl (lv_at hl 1 rfl) ?_
  refine fb_zaC (n := zj) (v := (1 : Int32)) X I 2 2 rfl rfl (nI_clamp (by omega)) (nI_pos (by omega)) (by omega) (p6 zj (by omega)) dX12_isCode_17 ?_
  refine lv_if_eq (tgt := 25) hx hb dX12_isCode_18 (by decide) (fun c7 => absurd c7 (by decide)) (fun _ => ?_)
  refine lv_iconst (v := (1 : Int32)) hx hb dX12_isCode_21 (by decide) ?_
  refine lv_goto (tgt := 26) hx hb dX12_isCode_22 (by decide) ?_
  refine W.widen (k := 4098) (n := 16384) (by omega) (by omega) ?_
  exact fb_retI (u := (x5, w4)) X I rfl rfl dX12_isCode_26

set_option maxHeartbeats 4000000 in
set_option maxRecDepth 100000 in
theorem b_reachable_13 {p : Program} {l : Launch} {e : Env} {s : State} {m : MethodId} {args : Array Value} {below : List Frame} {meth : Method} {c : Code} {D : va_G} {cI cJ : ClassId} {A : Nat → Prop} {za : Nat} {zr : Nat → Nat} {x2 : Nat} {w1 : fb_AR} (X : fb_Bx p s m args meth c cX12_reachable RX12 6 (some .int) D (fb_ty D cI cJ) A)  (hpr : ∀ j, j < 4096 → w1 j = 1) : ∀ (n zi : Nat) (hn : zi + n = 4096) (H : Heap) (locs : List Loc) (ls : Array Slot) (I : fb_In D A s.heap (([fb_o12 za zr fr_e0, fb_aw cI (zr 0) 16205 (fr_m (fun _ => 0) 0), fb_aw (D.1 20) x2 4096 w1] : List va_W).flatten) H locs) (hl : lv_has ls 6 [(4, .int (nI zi)), (3, .int (4096 : Int32)), (2, .ref x2), (1, .int (nI zi)), (0, .ref za)]), W p l e ({ frames := 6, cells := 4098, slots := 16384, locals := 155 } : Room) s m args below meth c H locs (0 + 4098) (0 + 16384) (MQ below (fb_QI D A (fun (r : Int32) (_ : Unit) => r = (nI 4096)) (fun (t : Unit) => ([fb_o12 za zr fr_e0, fb_aw cI (zr 0) 16205 (fr_m (fun _ => 0) 0)] : List va_W).flatten)) args s 4098 16384 A) (F0 m 13 ls []) := by
  intro n
  obtain ⟨hx, hb, hr, hml, hown, hts, hlk, hA, hK, hF⟩ := id X
  induction n with
  | zero =>
    intro zi hn H locs ls I hl
    have ziE : 4096 = zi := by omega
    subst ziE
    refine lv_iload hx hb dX12_reachable_13 (lv_at hl 0 rfl) ?_
    refine lv_iload_n hx hb dX12_reachable_15 rfl (lv_at hl 1 rfl) ?_
    refine lv_icmp_ge (tgt := 44) hx hb dX12_reachable_16 (by decide) (fun _ => ?_) (fun c4 => absurd (nI_le (a := 4096) (b := 4096) (by omega) (by omega)) c4)
    refine lv_iload_n hx hb dX12_reachable_44 rfl (lv_at hl 3 rfl) ?_
    have I : fb_In D A s.heap (([fb_o12 za zr fr_e0, fb_aw cI (zr 0) 16205 (fr_m (fun _ => 0) 0)] : List va_W).flatten) H _ := fb_dropB (bs := [fb_o12 za zr fr_e0, fb_aw cI (zr 0) 16205 (fr_m (fun _ => 0) 0), fb_aw (D.1 20) x2 4096 w1]) (bs' := [fb_o12 za zr fr_e0, fb_aw cI (zr 0) 16205 (fr_m (fun _ => 0) 0)]) (gs := [fb_aw (D.1 20) x2 4096 w1]) I 3 rfl [0, 1, 2] (by decide +kernel) rfl
    refine W.widen (k := 4098) (n := 16384) (by omega) (by omega) ?_
    exact fb_retI (u := ()) X I rfl rfl dX12_reachable_45
  | succ n ih =>
    intro zi hn H locs ls I hl
    have ziL : zi < 4096 := by omega
    refine lv_iload hx hb dX12_reachable_13 (lv_at hl 0 rfl) ?_
    refine lv_iload_n hx hb dX12_reachable_15 rfl (lv_at hl 1 rfl) ?_
    refine lv_icmp_ge (tgt := 44) hx hb dX12_reachable_16 (by decide) (fun c5 => absurd c5 (nI_ge (a := zi) (b := 4096) (by omega) (by omega))) (fun _ => ?_)
    refine lv_aload_n hx hb dX12_reachable_19 rfl (lv_at hl 2 rfl) ?_
    refine lv_iload hx hb dX12_reachable_20 (lv_at hl 0 rfl) ?_
    refine fb_zaC (n := zi) (v := (1 : Int32)) X I 2 2 rfl rfl (nI_clamp (by omega)) (nI_pos (by omega)) (by omega) (hpr zi (by omega)) dX12_reachable_22 ?_
    refine lv_istore (lv' := [(5, .int (1 : Int32)), (4, .int (nI zi)), (3, .int (4096 : Int32)), (2, .ref x2), (1, .int (nI zi)), (0, .ref za)]) hx hb dX12_reachable_23 hl (by decide) rfl (fun ls hl => ?_)
    refine lv_iload_n hx hb dX12_reachable_25 rfl (lv_at hl 4 rfl) ?_
    refine lv_iload hx hb dX12_reachable_26 (lv_at hl 0 rfl) ?_
    refine lv_if_eq (tgt := 35) hx hb dX12_reachable_28 (by decide) (fun c6 => absurd c6 (by decide)) (fun _ => ?_)
    refine lv_iconst (v := (1 : Int32)) hx hb dX12_reachable_31 (by decide) ?_
    refine lv_goto (tgt := 36) hx hb dX12_reachable_32 (by decide) ?_
    refine lv_iadd hx hb dX12_reachable_36 ?_
    refine fb_tI (v := (nI (zi + 1))) (nI_add zi 1) ?_
    refine lv_istore_n (lv' := [(1, .int (nI (zi + 1))), (5, .int (1 : Int32)), (4, .int (nI zi)), (3, .int (4096 : Int32)), (2, .ref x2), (0, .ref za)]) hx hb dX12_reachable_37 rfl hl (by decide) rfl (fun ls hl => ?_)
    refine lv_iinc (v := (nI (zi + 1))) (lv' := [(4, .int (nI (zi + 1))), (1, .int (nI (zi + 1))), (5, .int (1 : Int32)), (3, .int (4096 : Int32)), (2, .ref x2), (0, .ref za)]) hx hb dX12_reachable_38 hl (k := 2) rfl (nI_add _ 1) (by decide) rfl (fun ls hl => ?_)
    refine lv_goto (tgt := 13) hx hb dX12_reachable_41 (by decide) ?_
    have I : fb_In D A s.heap (([fb_o12 za zr fr_e0, fb_aw cI (zr 0) 16205 (fr_m (fun _ => 0) 0), fb_aw (D.1 20) x2 4096 w1] : List va_W).flatten) _ _ := I
    exact ih (zi + 1) (by omega) _ _ _ I (lv_sub hl [0, 3, 4, 1, 5] rfl)
set_option maxHeartbeats 4000000 in
set_option maxRecDepth 100000 in
theorem c_reachable (l : Launch) (D : va_G) (cI cJ : ClassId) (za : Nat) (zr : Nat → Nat) (sz : Nat)  : Met l yX12_reachable (Cond.code yX12_reachable cX12_reachable 6 (some .int) :: fb_all) ({ frames := 6, cells := 4098, slots := 16384, locals := 155 } : Room) (fb_PP D (fb_ty D cI cJ) [.ref za] (([fb_o12 za zr fr_e0, fb_aw cI (zr 0) 16205 (fr_m (fun _ => 0) 0)] : List va_W).flatten) sz) (fb_QI D (va_A (([fb_o12 za zr fr_e0, fb_aw cI (zr 0) 16205 (fr_m (fun _ => 0) 0)] : List va_W).flatten) sz) (fun (r : Int32) (_ : Unit) => r = (nI 4096)) (fun (t : Unit) => ([fb_o12 za zr fr_e0, fb_aw cI (zr 0) 16205 (fr_m (fun _ => 0) 0)] : List va_W).flatten)) 4098 16384 (va_A (([fb_o12 za zr fr_e0, fb_aw cI (zr 0) 16205 (fr_m (fun _ => 0) 0)] : List va_W).flatten) sz) := by
  refine fb_ent (Qf := fun A => (fb_QI D A (fun (r : Int32) (_ : Unit) => r = (nI 4096)) (fun (t : Unit) => ([fb_o12 za zr fr_e0, fb_aw cI (zr 0) 16205 (fr_m (fun _ => 0) 0)] : List va_W).flatten))) (by decide +kernel) (Nat.le_of_ble_eq_true rfl) ?_
  intro p e s m args below meth c A ls X I hl hin
  obtain ⟨hx, hb, hr, hml, hown, hts, hlk, hA, hK, hF⟩ := id X
  have hl : lv_has ls 6 [(0, .ref za)] := hl
  refine lv_iconst (v := (0 : Int32)) hx hb dX12_reachable_0 (by decide) ?_
  refine lv_istore_n (lv' := [(1, .int (0 : Int32)), (0, .ref za)]) hx hb dX12_reachable_1 rfl hl (by decide) rfl (fun ls hl => ?_)
  refine lv_aload_n hx hb dX12_reachable_2 rfl (lv_at hl 1 rfl) ?_
  refine fb_gR (cs := [fb_o12 za zr fr_e0, fb_aw cI (zr 0) 16205 (fr_m (fun _ => 0) 0)]) (rs := []) (fun (t : fb_AR) (rr : Nat) => [fb_o12 za zr fr_e0, fb_aw cI (zr 0) 16205 (fr_m (fun _ => 0) 0), fb_aw (D.1 20) rr 4096 t]) (fun (t : fb_AR) (rr : Nat) => [fb_o12 za zr fr_e0, fb_aw cI (zr 0) 16205 (fr_m (fun _ => 0) 0), fb_aw (D.1 20) rr 4096 t]) X I [0, 1] 2 rfl (by decide +kernel) rfl rfl [0, 1, 2] 3 (fun _ _ => rfl) (by decide +kernel) (fun _ _ => rfl) (fun _ _ => rfl) (fun I => fb_rV (As := []) (rest := []) X hl (fb_goodV fw_2767 fw_2769 fw_188 fw_204 fw_2770) (c_reached l D cI cJ za zr _ ) rfl rfl rfl (by decide +kernel : fb_hd yX12_reached 0) ⟨Nat.le_of_ble_eq_true rfl, Nat.le_of_ble_eq_true rfl⟩ rfl rfl rfl rfl rfl (Nat.le_of_ble_eq_true rfl) ⟨Nat.le_of_ble_eq_true rfl, Nat.le_of_ble_eq_true rfl⟩ dX12_reachable_3 I) ?_
  intro w1 x2 H locs e0 I
  have p3 : ∀ j, j < 4096 → w1 j = 1 := e0
  have I : fb_In D A s.heap (([fb_o12 za zr fr_e0, fb_aw cI (zr 0) 16205 (fr_m (fun _ => 0) 0), fb_aw (D.1 20) x2 4096 w1] : List va_W).flatten) H locs := I
  refine lv_astore_n (lv' := [(2, .ref x2), (1, .int (0 : Int32)), (0, .ref za)]) hx hb dX12_reachable_6 rfl hl (by decide) rfl (fun ls hl => ?_)
  refine lv_aload_n hx hb dX12_reachable_7 rfl (lv_at hl 0 rfl) ?_
  refine fb_alen (v := (4096 : Int32)) X I 2 2 rfl rfl rfl dX12_reachable_8 ?_
  refine lv_istore_n (lv' := [(3, .int (4096 : Int32)), (2, .ref x2), (1, .int (0 : Int32)), (0, .ref za)]) hx hb dX12_reachable_9 rfl hl (by decide) rfl (fun ls hl => ?_)
  refine lv_iconst (v := (0 : Int32)) hx hb dX12_reachable_10 (by decide) ?_
  refine lv_istore (lv' := [(4, .int (0 : Int32)), (3, .int (4096 : Int32)), (2, .ref x2), (1, .int (0 : Int32)), (0, .ref za)]) hx hb dX12_reachable_11 hl (by decide) rfl (fun ls hl => ?_)
  have I : fb_In D A s.heap (([fb_o12 za zr fr_e0, fb_aw cI (zr 0) 16205 (fr_m (fun _ => 0) 0), fb_aw (D.1 20) x2 4096 w1] : List va_W).flatten) _ _ := I
  exact b_reachable_13 (za := za) (zr := zr) (x2 := x2) (w1 := w1) X  p3 (4096) 0 (by omega) _ _ _ I (lv_sub hl [0, 1, 2, 3, 4] rfl)

set_option maxHeartbeats 4000000 in
set_option maxRecDepth 100000 in
theorem c_codes (l : Launch) (D : va_G) (cI cJ : ClassId) (za : Nat) (zr : Nat → Nat) (sz : Nat)  : Met l yX12_codes (Cond.code yX12_codes cX12_codes 1 (some .int) :: fb_all) ({ frames := 7, cells := 4098, slots := 16384, locals := 180 } : Room) (fb_PP D (fb_ty D cI cJ) [.ref za] (([fb_o12 za zr fr_e0, fb_aw cI (zr 0) 16205 (fr_m (fun _ => 0) 0)] : List va_W).flatten) sz) (fb_QI D (va_A (([fb_o12 za zr fr_e0, fb_aw cI (zr 0) 16205 (fr_m (fun _ => 0) 0)] : List va_W).flatten) sz) (fun (r : Int32) (_ : Unit) => r = (nI 4096)) (fun (t : Unit) => ([fb_o12 za zr (upd fr_e0 19 (0 : Int32)), fb_aw cI (zr 0) 16205 (fr_m (fun _ => 0) 0)] : List va_W).flatten)) 4098 16384 (va_A (([fb_o12 za zr fr_e0, fb_aw cI (zr 0) 16205 (fr_m (fun _ => 0) 0)] : List va_W).flatten) sz) := by
  refine fb_ent (Qf := fun A => (fb_QI D A (fun (r : Int32) (_ : Unit) => r = (nI 4096)) (fun (t : Unit) => ([fb_o12 za zr (upd fr_e0 19 (0 : Int32)), fb_aw cI (zr 0) 16205 (fr_m (fun _ => 0) 0)] : List va_W).flatten))) (by decide +kernel) (Nat.le_of_ble_eq_true rfl) ?_
  intro p e s m args below meth c A ls X I hl hin
  obtain ⟨hx, hb, hr, hml, hown, hts, hlk, hA, hK, hF⟩ := id X
  have hl : lv_has ls 1 [(0, .ref za)] := hl
  refine lv_aload_n hx hb dX12_codes_0 rfl (lv_at hl 0 rfl) ?_
  refine lv_iconst (v := (0 : Int32)) hx hb dX12_codes_1 (by decide) ?_
  refine fb_put X I (k := 19) (wn := ([fb_o12 za zr (upd fr_e0 19 (0 : Int32)), fb_aw cI (zr 0) 16205 (fr_m (fun _ => 0) 0)] : List va_W).flatten) fu_X12 tyX12 tyX12_ok nmX12 0 fb_h12 rfl (Nat.le_of_ble_eq_true rfl) fw_1983 rfl rfl rfl rfl rfl (Nat.le_of_ble_eq_true rfl) fb_r12_19 dX12_codes_2 (fun H locs I => ?_)
  refine lv_aload_n hx hb dX12_codes_5 rfl (lv_at hl 0 rfl) ?_
  refine fb_gI (cs := [fb_o12 za zr (upd fr_e0 19 (0 : Int32)), fb_aw cI (zr 0) 16205 (fr_m (fun _ => 0) 0)]) (rs := []) (fun (t : Unit) => [fb_o12 za zr (upd fr_e0 19 (0 : Int32)), fb_aw cI (zr 0) 16205 (fr_m (fun _ => 0) 0)]) (fun (t : Unit) => [fb_o12 za zr (upd fr_e0 19 (0 : Int32)), fb_aw cI (zr 0) 16205 (fr_m (fun _ => 0) 0)]) X I [0, 1] 2 rfl (by decide +kernel) rfl rfl [0, 1] 2 (fun _ => rfl) (by decide +kernel) (fun _ => rfl) (fun _ => rfl) (fun I => fb_rV (As := []) (rest := []) X hl (fb_goodV fw_2775 fw_2777 fw_189 fw_204 fw_2778) (c_reachable l D cI cJ za zr _ ) rfl rfl rfl (by decide +kernel : fb_hd yX12_reachable 0) ⟨Nat.le_of_ble_eq_true rfl, Nat.le_of_ble_eq_true rfl⟩ rfl rfl rfl rfl rfl (Nat.le_of_ble_eq_true rfl) ⟨Nat.le_of_ble_eq_true rfl, Nat.le_of_ble_eq_true rfl⟩ dX12_codes_6 I) ?_
  intro r2 w1 H locs e0 I
  subst e0
  have I : fb_In D A s.heap (([fb_o12 za zr (upd fr_e0 19 (0 : Int32)), fb_aw cI (zr 0) 16205 (fr_m (fun _ => 0) 0)] : List va_W).flatten) H locs := I
  refine W.widen (k := 4098) (n := 16384) (by omega) (by omega) ?_
  exact fb_retI (u := ()) X I rfl rfl dX12_codes_9

set_option maxHeartbeats 4000000 in
set_option maxRecDepth 100000 in
theorem b_digest_322 {p : Program} {l : Launch} {e : Env} {s : State} {m : MethodId} {args : Array Value} {below : List Frame} {meth : Method} {c : Code} {D : va_G} {cI cJ : ClassId} {A : Nat → Prop} {za : Nat} {zr : Nat → Nat} {x1 : Nat} (X : fb_Bx p s m args meth c cX12_digest RX12 8 (some .long) D (fb_ty D cI cJ) A)   : ∀ (n zi : Nat) (hn : zi + n = 11008) (H : Heap) (locs : List Loc) (ls : Array Slot) (I : fb_In D A s.heap (([fb_o12 za zr (upd fr_e0 19 (0 : Int32)), fb_aw cI (zr 0) 16205 (fr_m (fun _ => 0) 0), fb_aw cI x1 17 (upd (upd (upd (upd (upd (upd (upd (upd (upd (upd (upd (upd (upd (upd (upd (upd (upd (fun _ => 0) 0 (0 : Int32)) 1 (0 : Int32)) 2 (255 : Int32)) 3 (4 : Int32)) 4 (0 : Int32)) 5 (0 : Int32)) 6 (0 : Int32)) 7 (0 : Int32)) 8 (0 : Int32)) 9 (0 : Int32)) 10 (0 : Int32)) 11 (0 : Int32)) 12 (0 : Int32)) 13 (0 : Int32)) 14 (0 : Int32)) 15 (0 : Int32)) 16 (0 : Int32))] : List va_W).flatten) H locs) (hl : lv_has ls 8 [(4, .int (nI zi)), (2, .long (fr_dg (f_X12_add_ (f_X12_add_ (f_X12_add_ (f_X12_add_ (f_X12_add_ (f_X12_add_ (f_X12_add_ (f_X12_add_ (f_X12_add_ (f_X12_add_ (f_X12_add_ (f_X12_add_ (f_X12_add_ (f_X12_add_ (f_X12_add_ (f_X12_add_ (f_X12_add_ (f_X12_add_ (f_X12_add_ (f_X12_add_ (58008 : Int64) (((0 : Int32)).toInt64)) (((0 : Int32)).toInt64)) (((255 : Int32)).toInt64)) (((4 : Int32)).toInt64)) (((0 : Int32)).toInt64)) (((0 : Int32)).toInt64)) (((0 : Int32)).toInt64)) (((0 : Int32)).toInt64)) (((0 : Int32)).toInt64)) (((0 : Int32)).toInt64)) (((0 : Int32)).toInt64)) (((0 : Int32)).toInt64)) (((0 : Int32)).toInt64)) (((0 : Int32)).toInt64)) (((0 : Int32)).toInt64)) (((0 : Int32)).toInt64)) (((0 : Int32)).toInt64)) (((0 : Int32)).toInt64)) (((-1 : Int32)).toInt64)) (((nI 4096)).toInt64)) zi)), (0, .ref za)]), W p l e ({ frames := 7, cells := 4099, slots := 16401, locals := 180 } : Room) s m args below meth c H locs (0 + 1 + 4098) (0 + 17 + 16384) (MQ below (fb_QL D A (fun (r : Int64) (_ : Unit) => r = (fr_dg (f_X12_add_ (f_X12_add_ (f_X12_add_ (f_X12_add_ (f_X12_add_ (f_X12_add_ (f_X12_add_ (f_X12_add_ (f_X12_add_ (f_X12_add_ (f_X12_add_ (f_X12_add_ (f_X12_add_ (f_X12_add_ (f_X12_add_ (f_X12_add_ (f_X12_add_ (f_X12_add_ (f_X12_add_ (f_X12_add_ (58008 : Int64) (((0 : Int32)).toInt64)) (((0 : Int32)).toInt64)) (((255 : Int32)).toInt64)) (((4 : Int32)).toInt64)) (((0 : Int32)).toInt64)) (((0 : Int32)).toInt64)) (((0 : Int32)).toInt64)) (((0 : Int32)).toInt64)) (((0 : Int32)).toInt64)) (((0 : Int32)).toInt64)) (((0 : Int32)).toInt64)) (((0 : Int32)).toInt64)) (((0 : Int32)).toInt64)) (((0 : Int32)).toInt64)) (((0 : Int32)).toInt64)) (((0 : Int32)).toInt64)) (((0 : Int32)).toInt64)) (((0 : Int32)).toInt64)) (((-1 : Int32)).toInt64)) (((nI 4096)).toInt64)) 11008)) (fun (t : Unit) => ([fb_o12 za zr (upd fr_e0 19 (0 : Int32)), fb_aw cI (zr 0) 16205 (fr_m (fun _ => 0) 0)] : List va_W).flatten)) args s 4099 16401 A) (F0 m 322 ls []) := by
  intro n
  obtain ⟨hx, hb, hr, hml, hown, hts, hlk, hA, hK, hF⟩ := id X
  induction n with
  | zero =>
    intro zi hn H locs ls I hl
    have ziE : 11008 = zi := by omega
    subst ziE
    refine lv_iload hx hb dX12_digest_322 (lv_at hl 0 rfl) ?_
    refine lv_sipush (v := (11008 : Int32)) hx hb dX12_digest_324 (by decide) ?_
    refine lv_icmp_ge (tgt := 353) hx hb dX12_digest_327 (by decide) (fun _ => ?_) (fun c24 => absurd (nI_le (a := 11008) (b := 11008) (by omega) (by omega)) c24)
    refine lv_iconst (v := (0 : Int32)) hx hb dX12_digest_353 (by decide) ?_
    refine lv_istore (lv' := [(4, .int (0 : Int32)), (2, .long (fr_dg (f_X12_add_ (f_X12_add_ (f_X12_add_ (f_X12_add_ (f_X12_add_ (f_X12_add_ (f_X12_add_ (f_X12_add_ (f_X12_add_ (f_X12_add_ (f_X12_add_ (f_X12_add_ (f_X12_add_ (f_X12_add_ (f_X12_add_ (f_X12_add_ (f_X12_add_ (f_X12_add_ (f_X12_add_ (f_X12_add_ (58008 : Int64) (((0 : Int32)).toInt64)) (((0 : Int32)).toInt64)) (((255 : Int32)).toInt64)) (((4 : Int32)).toInt64)) (((0 : Int32)).toInt64)) (((0 : Int32)).toInt64)) (((0 : Int32)).toInt64)) (((0 : Int32)).toInt64)) (((0 : Int32)).toInt64)) (((0 : Int32)).toInt64)) (((0 : Int32)).toInt64)) (((0 : Int32)).toInt64)) (((0 : Int32)).toInt64)) (((0 : Int32)).toInt64)) (((0 : Int32)).toInt64)) (((0 : Int32)).toInt64)) (((0 : Int32)).toInt64)) (((0 : Int32)).toInt64)) (((-1 : Int32)).toInt64)) (((nI 4096)).toInt64)) 11008)), (0, .ref za)]) hx hb dX12_digest_354 hl (by decide) rfl (fun ls hl => ?_)
    refine lv_iload hx hb dX12_digest_356 (lv_at hl 0 rfl) ?_
    refine lv_bipush (v := (40 : Int32)) hx hb dX12_digest_358 (by decide) ?_
    refine lv_aload_n hx hb dX12_digest_360 rfl (lv_at hl 2 rfl) ?_
    refine fb_get X I (k := 0) (v := .ref (zr 0)) fu_X12 0 fb_h12 rfl (Nat.le_of_ble_eq_true rfl) fw_1964 rfl rfl dX12_digest_361 ?_
    refine lv_bipush (v := (19 : Int32)) hx hb dX12_digest_364 (by decide) ?_
    refine fb_iaC (n := 19) (v := (0 : Int32)) X I 1 0 rfl rfl (by decide) (by decide) (Nat.le_of_ble_eq_true rfl) rfl dX12_digest_366 ?_
    refine fb_min X hl fw_2598 fw_860 fw_214 fw_861 (Nat.le_of_ble_eq_true rfl) (Nat.le_of_ble_eq_true rfl) (Nat.le_of_ble_eq_true rfl) (Nat.le_of_ble_eq_true rfl) dX12_digest_367 ?_
    refine fb_tI (v := (0 : Int32)) (by decide) ?_
    refine lv_icmp_ge (tgt := 391) hx hb dX12_digest_370 (by decide) (fun _ => ?_) (fun c25 => absurd (by decide) c25)
    refine lv_lload_n hx hb dX12_digest_391 rfl (lv_at hl 1 rfl) ?_
    have I : fb_In D A s.heap (([fb_o12 za zr (upd fr_e0 19 (0 : Int32)), fb_aw cI (zr 0) 16205 (fr_m (fun _ => 0) 0)] : List va_W).flatten) H _ := fb_dropB (bs := [fb_o12 za zr (upd fr_e0 19 (0 : Int32)), fb_aw cI (zr 0) 16205 (fr_m (fun _ => 0) 0), fb_aw cI x1 17 (upd (upd (upd (upd (upd (upd (upd (upd (upd (upd (upd (upd (upd (upd (upd (upd (upd (fun _ => 0) 0 (0 : Int32)) 1 (0 : Int32)) 2 (255 : Int32)) 3 (4 : Int32)) 4 (0 : Int32)) 5 (0 : Int32)) 6 (0 : Int32)) 7 (0 : Int32)) 8 (0 : Int32)) 9 (0 : Int32)) 10 (0 : Int32)) 11 (0 : Int32)) 12 (0 : Int32)) 13 (0 : Int32)) 14 (0 : Int32)) 15 (0 : Int32)) 16 (0 : Int32))]) (bs' := [fb_o12 za zr (upd fr_e0 19 (0 : Int32)), fb_aw cI (zr 0) 16205 (fr_m (fun _ => 0) 0)]) (gs := [fb_aw cI x1 17 (upd (upd (upd (upd (upd (upd (upd (upd (upd (upd (upd (upd (upd (upd (upd (upd (upd (fun _ => 0) 0 (0 : Int32)) 1 (0 : Int32)) 2 (255 : Int32)) 3 (4 : Int32)) 4 (0 : Int32)) 5 (0 : Int32)) 6 (0 : Int32)) 7 (0 : Int32)) 8 (0 : Int32)) 9 (0 : Int32)) 10 (0 : Int32)) 11 (0 : Int32)) 12 (0 : Int32)) 13 (0 : Int32)) 14 (0 : Int32)) 15 (0 : Int32)) 16 (0 : Int32))]) I 3 rfl [0, 1, 2] (by decide +kernel) rfl
    refine W.widen (k := 4099) (n := 16401) (by omega) (by omega) ?_
    exact fb_retL (u := ()) X I rfl dX12_digest_392
  | succ n ih =>
    intro zi hn H locs ls I hl
    have ziL : zi < 11008 := by omega
    refine lv_iload hx hb dX12_digest_322 (lv_at hl 0 rfl) ?_
    refine lv_sipush (v := (11008 : Int32)) hx hb dX12_digest_324 (by decide) ?_
    refine lv_icmp_ge (tgt := 353) hx hb dX12_digest_327 (by decide) (fun c26 => absurd c26 (nI_ge (a := zi) (b := 11008) (by omega) (by omega))) (fun _ => ?_)
    refine lv_lload_n hx hb dX12_digest_330 rfl (lv_at hl 1 rfl) ?_
    refine lv_aload_n hx hb dX12_digest_331 rfl (lv_at hl 2 rfl) ?_
    refine fb_get X I (k := 0) (v := .ref (zr 0)) fu_X12 0 fb_h12 rfl (Nat.le_of_ble_eq_true rfl) fw_1964 rfl rfl dX12_digest_332 ?_
    refine lv_sipush (v := (1101 : Int32)) hx hb dX12_digest_335 (by decide) ?_
    refine lv_iload hx hb dX12_digest_338 (lv_at hl 0 rfl) ?_
    refine lv_iadd hx hb dX12_digest_340 ?_
    refine fb_tI (v := (nI (1101 + zi))) (nI_add 1101 zi) ?_
    refine fb_iaC (n := (1101 + zi)) (v := (0 : Int32)) X I 1 0 rfl rfl (nI_clamp (by omega)) (nI_pos (by omega)) (by omega) (fr_hm _ _ (1101 + zi) (by omega) (by omega)) dX12_digest_341 ?_
    refine lv_i2l (v := (((0 : Int32)).toInt64)) hx hb dX12_digest_342 rfl ?_
    refine fb_gOL (cs := []) (rs := [fb_o12 za zr (upd fr_e0 19 (0 : Int32)), fb_aw cI (zr 0) 16205 (fr_m (fun _ => 0) 0), fb_aw cI x1 17 (upd (upd (upd (upd (upd (upd (upd (upd (upd (upd (upd (upd (upd (upd (upd (upd (upd (fun _ => 0) 0 (0 : Int32)) 1 (0 : Int32)) 2 (255 : Int32)) 3 (4 : Int32)) 4 (0 : Int32)) 5 (0 : Int32)) 6 (0 : Int32)) 7 (0 : Int32)) 8 (0 : Int32)) 9 (0 : Int32)) 10 (0 : Int32)) 11 (0 : Int32)) 12 (0 : Int32)) 13 (0 : Int32)) 14 (0 : Int32)) 15 (0 : Int32)) 16 (0 : Int32))]) X I [0, 1, 2] 3 rfl (by decide +kernel) rfl rfl (fun I => fb_rS (As := [.long (fr_dg (f_X12_add_ (f_X12_add_ (f_X12_add_ (f_X12_add_ (f_X12_add_ (f_X12_add_ (f_X12_add_ (f_X12_add_ (f_X12_add_ (f_X12_add_ (f_X12_add_ (f_X12_add_ (f_X12_add_ (f_X12_add_ (f_X12_add_ (f_X12_add_ (f_X12_add_ (f_X12_add_ (f_X12_add_ (f_X12_add_ (58008 : Int64) (((0 : Int32)).toInt64)) (((0 : Int32)).toInt64)) (((255 : Int32)).toInt64)) (((4 : Int32)).toInt64)) (((0 : Int32)).toInt64)) (((0 : Int32)).toInt64)) (((0 : Int32)).toInt64)) (((0 : Int32)).toInt64)) (((0 : Int32)).toInt64)) (((0 : Int32)).toInt64)) (((0 : Int32)).toInt64)) (((0 : Int32)).toInt64)) (((0 : Int32)).toInt64)) (((0 : Int32)).toInt64)) (((0 : Int32)).toInt64)) (((0 : Int32)).toInt64)) (((0 : Int32)).toInt64)) (((0 : Int32)).toInt64)) (((-1 : Int32)).toInt64)) (((nI 4096)).toInt64)) zi), .long (((0 : Int32)).toInt64)]) (rest := []) X hl (fb_goodS fw_2788 fw_2789 fw_204 fw_2790) (c_X12_add_ l D cI cJ (fr_dg (f_X12_add_ (f_X12_add_ (f_X12_add_ (f_X12_add_ (f_X12_add_ (f_X12_add_ (f_X12_add_ (f_X12_add_ (f_X12_add_ (f_X12_add_ (f_X12_add_ (f_X12_add_ (f_X12_add_ (f_X12_add_ (f_X12_add_ (f_X12_add_ (f_X12_add_ (f_X12_add_ (f_X12_add_ (f_X12_add_ (58008 : Int64) (((0 : Int32)).toInt64)) (((0 : Int32)).toInt64)) (((255 : Int32)).toInt64)) (((4 : Int32)).toInt64)) (((0 : Int32)).toInt64)) (((0 : Int32)).toInt64)) (((0 : Int32)).toInt64)) (((0 : Int32)).toInt64)) (((0 : Int32)).toInt64)) (((0 : Int32)).toInt64)) (((0 : Int32)).toInt64)) (((0 : Int32)).toInt64)) (((0 : Int32)).toInt64)) (((0 : Int32)).toInt64)) (((0 : Int32)).toInt64)) (((0 : Int32)).toInt64)) (((0 : Int32)).toInt64)) (((0 : Int32)).toInt64)) (((-1 : Int32)).toInt64)) (((nI 4096)).toInt64)) zi) (((0 : Int32)).toInt64) _) rfl rfl (by decide +kernel : fb_hd yX12_add_ 2) ⟨Nat.le_of_ble_eq_true rfl, Nat.le_of_ble_eq_true rfl⟩ rfl rfl (Nat.le_of_ble_eq_true rfl) ⟨Nat.le_of_ble_eq_true rfl, Nat.le_of_ble_eq_true rfl⟩ dX12_digest_343 I) ?_
    refine lv_lstore_n (lv' := [(2, .long (f_X12_add_ (fr_dg (f_X12_add_ (f_X12_add_ (f_X12_add_ (f_X12_add_ (f_X12_add_ (f_X12_add_ (f_X12_add_ (f_X12_add_ (f_X12_add_ (f_X12_add_ (f_X12_add_ (f_X12_add_ (f_X12_add_ (f_X12_add_ (f_X12_add_ (f_X12_add_ (f_X12_add_ (f_X12_add_ (f_X12_add_ (f_X12_add_ (58008 : Int64) (((0 : Int32)).toInt64)) (((0 : Int32)).toInt64)) (((255 : Int32)).toInt64)) (((4 : Int32)).toInt64)) (((0 : Int32)).toInt64)) (((0 : Int32)).toInt64)) (((0 : Int32)).toInt64)) (((0 : Int32)).toInt64)) (((0 : Int32)).toInt64)) (((0 : Int32)).toInt64)) (((0 : Int32)).toInt64)) (((0 : Int32)).toInt64)) (((0 : Int32)).toInt64)) (((0 : Int32)).toInt64)) (((0 : Int32)).toInt64)) (((0 : Int32)).toInt64)) (((0 : Int32)).toInt64)) (((0 : Int32)).toInt64)) (((-1 : Int32)).toInt64)) (((nI 4096)).toInt64)) zi) (((0 : Int32)).toInt64))), (4, .int (nI zi)), (0, .ref za)]) hx hb dX12_digest_346 rfl hl (by decide) rfl (fun ls hl => ?_)
    refine lv_iinc (v := (nI (zi + 1))) (lv' := [(4, .int (nI (zi + 1))), (2, .long (f_X12_add_ (fr_dg (f_X12_add_ (f_X12_add_ (f_X12_add_ (f_X12_add_ (f_X12_add_ (f_X12_add_ (f_X12_add_ (f_X12_add_ (f_X12_add_ (f_X12_add_ (f_X12_add_ (f_X12_add_ (f_X12_add_ (f_X12_add_ (f_X12_add_ (f_X12_add_ (f_X12_add_ (f_X12_add_ (f_X12_add_ (f_X12_add_ (58008 : Int64) (((0 : Int32)).toInt64)) (((0 : Int32)).toInt64)) (((255 : Int32)).toInt64)) (((4 : Int32)).toInt64)) (((0 : Int32)).toInt64)) (((0 : Int32)).toInt64)) (((0 : Int32)).toInt64)) (((0 : Int32)).toInt64)) (((0 : Int32)).toInt64)) (((0 : Int32)).toInt64)) (((0 : Int32)).toInt64)) (((0 : Int32)).toInt64)) (((0 : Int32)).toInt64)) (((0 : Int32)).toInt64)) (((0 : Int32)).toInt64)) (((0 : Int32)).toInt64)) (((0 : Int32)).toInt64)) (((0 : Int32)).toInt64)) (((-1 : Int32)).toInt64)) (((nI 4096)).toInt64)) zi) (((0 : Int32)).toInt64))), (0, .ref za)]) hx hb dX12_digest_347 hl (k := 1) rfl (nI_add _ 1) (by decide) rfl (fun ls hl => ?_)
    refine lv_goto (tgt := 322) hx hb dX12_digest_350 (by decide) ?_
    have I : fb_In D A s.heap (([fb_o12 za zr (upd fr_e0 19 (0 : Int32)), fb_aw cI (zr 0) 16205 (fr_m (fun _ => 0) 0), fb_aw cI x1 17 (upd (upd (upd (upd (upd (upd (upd (upd (upd (upd (upd (upd (upd (upd (upd (upd (upd (fun _ => 0) 0 (0 : Int32)) 1 (0 : Int32)) 2 (255 : Int32)) 3 (4 : Int32)) 4 (0 : Int32)) 5 (0 : Int32)) 6 (0 : Int32)) 7 (0 : Int32)) 8 (0 : Int32)) 9 (0 : Int32)) 10 (0 : Int32)) 11 (0 : Int32)) 12 (0 : Int32)) 13 (0 : Int32)) 14 (0 : Int32)) 15 (0 : Int32)) 16 (0 : Int32))] : List va_W).flatten) _ _ := I
    exact ih (zi + 1) (by omega) _ _ _ I (lv_sub hl [0, 1, 2] rfl)
set_option maxHeartbeats 4000000 in
set_option maxRecDepth 100000 in
theorem c_digest (l : Launch) (D : va_G) (cI cJ : ClassId) (za : Nat) (zr : Nat → Nat) (sz : Nat)  : Met l yX12_digest (Cond.code yX12_digest cX12_digest 8 (some .long) :: fb_all) ({ frames := 7, cells := 4099, slots := 16401, locals := 180 } : Room) (fb_PP D (fb_ty D cI cJ) [.ref za] (([fb_o12 za zr fr_e0, fb_aw cI (zr 0) 16205 (fr_m (fun _ => 0) 0)] : List va_W).flatten) sz) (fb_QL D (va_A (([fb_o12 za zr fr_e0, fb_aw cI (zr 0) 16205 (fr_m (fun _ => 0) 0)] : List va_W).flatten) sz) (fun (r : Int64) (_ : Unit) => r = (fr_dg (f_X12_add_ (f_X12_add_ (f_X12_add_ (f_X12_add_ (f_X12_add_ (f_X12_add_ (f_X12_add_ (f_X12_add_ (f_X12_add_ (f_X12_add_ (f_X12_add_ (f_X12_add_ (f_X12_add_ (f_X12_add_ (f_X12_add_ (f_X12_add_ (f_X12_add_ (f_X12_add_ (f_X12_add_ (f_X12_add_ (58008 : Int64) (((0 : Int32)).toInt64)) (((0 : Int32)).toInt64)) (((255 : Int32)).toInt64)) (((4 : Int32)).toInt64)) (((0 : Int32)).toInt64)) (((0 : Int32)).toInt64)) (((0 : Int32)).toInt64)) (((0 : Int32)).toInt64)) (((0 : Int32)).toInt64)) (((0 : Int32)).toInt64)) (((0 : Int32)).toInt64)) (((0 : Int32)).toInt64)) (((0 : Int32)).toInt64)) (((0 : Int32)).toInt64)) (((0 : Int32)).toInt64)) (((0 : Int32)).toInt64)) (((0 : Int32)).toInt64)) (((0 : Int32)).toInt64)) (((-1 : Int32)).toInt64)) (((nI 4096)).toInt64)) 11008)) (fun (t : Unit) => ([fb_o12 za zr (upd fr_e0 19 (0 : Int32)), fb_aw cI (zr 0) 16205 (fr_m (fun _ => 0) 0)] : List va_W).flatten)) 4099 16401 (va_A (([fb_o12 za zr fr_e0, fb_aw cI (zr 0) 16205 (fr_m (fun _ => 0) 0)] : List va_W).flatten) sz) := by
  refine fb_ent (Qf := fun A => (fb_QL D A (fun (r : Int64) (_ : Unit) => r = (fr_dg (f_X12_add_ (f_X12_add_ (f_X12_add_ (f_X12_add_ (f_X12_add_ (f_X12_add_ (f_X12_add_ (f_X12_add_ (f_X12_add_ (f_X12_add_ (f_X12_add_ (f_X12_add_ (f_X12_add_ (f_X12_add_ (f_X12_add_ (f_X12_add_ (f_X12_add_ (f_X12_add_ (f_X12_add_ (f_X12_add_ (58008 : Int64) (((0 : Int32)).toInt64)) (((0 : Int32)).toInt64)) (((255 : Int32)).toInt64)) (((4 : Int32)).toInt64)) (((0 : Int32)).toInt64)) (((0 : Int32)).toInt64)) (((0 : Int32)).toInt64)) (((0 : Int32)).toInt64)) (((0 : Int32)).toInt64)) (((0 : Int32)).toInt64)) (((0 : Int32)).toInt64)) (((0 : Int32)).toInt64)) (((0 : Int32)).toInt64)) (((0 : Int32)).toInt64)) (((0 : Int32)).toInt64)) (((0 : Int32)).toInt64)) (((0 : Int32)).toInt64)) (((0 : Int32)).toInt64)) (((-1 : Int32)).toInt64)) (((nI 4096)).toInt64)) 11008)) (fun (t : Unit) => ([fb_o12 za zr (upd fr_e0 19 (0 : Int32)), fb_aw cI (zr 0) 16205 (fr_m (fun _ => 0) 0)] : List va_W).flatten))) (by decide +kernel) (Nat.le_of_ble_eq_true rfl) ?_
  intro p e s m args below meth c A ls X I hl hin
  obtain ⟨hx, hb, hr, hml, hown, hts, hlk, hA, hK, hF⟩ := id X
  have hl : lv_has ls 8 [(0, .ref za)] := hl
  refine lv_aload_n hx hb dX12_digest_0 rfl (lv_at hl 0 rfl) ?_
  refine lv_iconst (v := (0 : Int32)) hx hb dX12_digest_1 (by decide) ?_
  refine fb_put X I (k := 19) (wn := ([fb_o12 za zr (upd fr_e0 19 (0 : Int32)), fb_aw cI (zr 0) 16205 (fr_m (fun _ => 0) 0)] : List va_W).flatten) fu_X12 tyX12 tyX12_ok nmX12 0 fb_h12 rfl (Nat.le_of_ble_eq_true rfl) fw_1983 rfl rfl rfl rfl rfl (Nat.le_of_ble_eq_true rfl) fb_r12_19 dX12_digest_2 (fun H locs I => ?_)
  refine lv_bipush (v := (17 : Int32)) hx hb dX12_digest_5 (by decide) ?_
  refine fb_nI (N := 17) X I fw_261 (by decide) (Nat.le_of_ble_eq_true rfl) (Nat.le_of_ble_eq_true rfl) (Nat.le_of_ble_eq_true rfl) dX12_digest_7 (fun x1 H I => ?_)
  have I : fb_In D A s.heap (([fb_o12 za zr (upd fr_e0 19 (0 : Int32)), fb_aw cI (zr 0) 16205 (fr_m (fun _ => 0) 0), fb_aw cI x1 17 (fun _ => 0)] : List va_W).flatten) H _ := I
  refine lv_dup hx hb dX12_digest_9 rfl ?_
  refine lv_iconst (v := (0 : Int32)) hx hb dX12_digest_10 (by decide) ?_
  refine lv_aload_n hx hb dX12_digest_11 rfl (lv_at hl 0 rfl) ?_
  refine fb_get X I (k := 0) (v := .ref (zr 0)) fu_X12 0 fb_h12 rfl (Nat.le_of_ble_eq_true rfl) fw_1964 rfl rfl dX12_digest_12 ?_
  refine lv_iconst (v := (0 : Int32)) hx hb dX12_digest_15 (by decide) ?_
  refine fb_iaC (n := 0) (v := (0 : Int32)) X I 1 0 rfl rfl (by decide) (by decide) (Nat.le_of_ble_eq_true rfl) rfl dX12_digest_16 ?_
  refine fb_isC (n := 0) (wn := ([fb_o12 za zr (upd fr_e0 19 (0 : Int32)), fb_aw cI (zr 0) 16205 (fr_m (fun _ => 0) 0), fb_aw cI x1 17 (upd (fun _ => 0) 0 (0 : Int32))] : List va_W).flatten) X I 2 0 rfl rfl (by decide) (by decide) (Nat.le_of_ble_eq_true rfl) rfl dX12_digest_17 (fun H locs I => ?_)
  refine lv_dup hx hb dX12_digest_18 rfl ?_
  refine lv_iconst (v := (1 : Int32)) hx hb dX12_digest_19 (by decide) ?_
  refine lv_aload_n hx hb dX12_digest_20 rfl (lv_at hl 0 rfl) ?_
  refine fb_get X I (k := 0) (v := .ref (zr 0)) fu_X12 0 fb_h12 rfl (Nat.le_of_ble_eq_true rfl) fw_1964 rfl rfl dX12_digest_21 ?_
  refine lv_iconst (v := (1 : Int32)) hx hb dX12_digest_24 (by decide) ?_
  refine fb_iaC (n := 1) (v := (0 : Int32)) X I 1 0 rfl rfl (by decide) (by decide) (Nat.le_of_ble_eq_true rfl) rfl dX12_digest_25 ?_
  refine fb_isC (n := 1) (wn := ([fb_o12 za zr (upd fr_e0 19 (0 : Int32)), fb_aw cI (zr 0) 16205 (fr_m (fun _ => 0) 0), fb_aw cI x1 17 (upd (upd (fun _ => 0) 0 (0 : Int32)) 1 (0 : Int32))] : List va_W).flatten) X I 2 0 rfl rfl (by decide) (by decide) (Nat.le_of_ble_eq_true rfl) rfl dX12_digest_26 (fun H locs I => ?_)
  refine lv_dup hx hb dX12_digest_27 rfl ?_
  refine lv_iconst (v := (2 : Int32)) hx hb dX12_digest_28 (by decide) ?_
  refine lv_aload_n hx hb dX12_digest_29 rfl (lv_at hl 0 rfl) ?_
  refine fb_get X I (k := 0) (v := .ref (zr 0)) fu_X12 0 fb_h12 rfl (Nat.le_of_ble_eq_true rfl) fw_1964 rfl rfl dX12_digest_30 ?_
  refine lv_iconst (v := (2 : Int32)) hx hb dX12_digest_33 (by decide) ?_
  refine fb_iaC (n := 2) (v := (255 : Int32)) X I 1 0 rfl rfl (by decide) (by decide) (Nat.le_of_ble_eq_true rfl) rfl dX12_digest_34 ?_
  refine fb_isC (n := 2) (wn := ([fb_o12 za zr (upd fr_e0 19 (0 : Int32)), fb_aw cI (zr 0) 16205 (fr_m (fun _ => 0) 0), fb_aw cI x1 17 (upd (upd (upd (fun _ => 0) 0 (0 : Int32)) 1 (0 : Int32)) 2 (255 : Int32))] : List va_W).flatten) X I 2 0 rfl rfl (by decide) (by decide) (Nat.le_of_ble_eq_true rfl) rfl dX12_digest_35 (fun H locs I => ?_)
  refine lv_dup hx hb dX12_digest_36 rfl ?_
  refine lv_iconst (v := (3 : Int32)) hx hb dX12_digest_37 (by decide) ?_
  refine lv_aload_n hx hb dX12_digest_38 rfl (lv_at hl 0 rfl) ?_
  refine fb_get X I (k := 0) (v := .ref (zr 0)) fu_X12 0 fb_h12 rfl (Nat.le_of_ble_eq_true rfl) fw_1964 rfl rfl dX12_digest_39 ?_
  refine lv_iconst (v := (3 : Int32)) hx hb dX12_digest_42 (by decide) ?_
  refine fb_iaC (n := 3) (v := (4 : Int32)) X I 1 0 rfl rfl (by decide) (by decide) (Nat.le_of_ble_eq_true rfl) rfl dX12_digest_43 ?_
  refine fb_isC (n := 3) (wn := ([fb_o12 za zr (upd fr_e0 19 (0 : Int32)), fb_aw cI (zr 0) 16205 (fr_m (fun _ => 0) 0), fb_aw cI x1 17 (upd (upd (upd (upd (fun _ => 0) 0 (0 : Int32)) 1 (0 : Int32)) 2 (255 : Int32)) 3 (4 : Int32))] : List va_W).flatten) X I 2 0 rfl rfl (by decide) (by decide) (Nat.le_of_ble_eq_true rfl) rfl dX12_digest_44 (fun H locs I => ?_)
  refine lv_dup hx hb dX12_digest_45 rfl ?_
  refine lv_iconst (v := (4 : Int32)) hx hb dX12_digest_46 (by decide) ?_
  refine lv_aload_n hx hb dX12_digest_47 rfl (lv_at hl 0 rfl) ?_
  refine fb_get X I (k := 0) (v := .ref (zr 0)) fu_X12 0 fb_h12 rfl (Nat.le_of_ble_eq_true rfl) fw_1964 rfl rfl dX12_digest_48 ?_
  refine lv_iconst (v := (4 : Int32)) hx hb dX12_digest_51 (by decide) ?_
  refine fb_iaC (n := 4) (v := (0 : Int32)) X I 1 0 rfl rfl (by decide) (by decide) (Nat.le_of_ble_eq_true rfl) rfl dX12_digest_52 ?_
  refine fb_isC (n := 4) (wn := ([fb_o12 za zr (upd fr_e0 19 (0 : Int32)), fb_aw cI (zr 0) 16205 (fr_m (fun _ => 0) 0), fb_aw cI x1 17 (upd (upd (upd (upd (upd (fun _ => 0) 0 (0 : Int32)) 1 (0 : Int32)) 2 (255 : Int32)) 3 (4 : Int32)) 4 (0 : Int32))] : List va_W).flatten) X I 2 0 rfl rfl (by decide) (by decide) (Nat.le_of_ble_eq_true rfl) rfl dX12_digest_53 (fun H locs I => ?_)
  refine lv_dup hx hb dX12_digest_54 rfl ?_
  refine lv_iconst (v := (5 : Int32)) hx hb dX12_digest_55 (by decide) ?_
  refine lv_aload_n hx hb dX12_digest_56 rfl (lv_at hl 0 rfl) ?_
  refine fb_get X I (k := 0) (v := .ref (zr 0)) fu_X12 0 fb_h12 rfl (Nat.le_of_ble_eq_true rfl) fw_1964 rfl rfl dX12_digest_57 ?_
  refine lv_iconst (v := (5 : Int32)) hx hb dX12_digest_60 (by decide) ?_
  refine fb_iaC (n := 5) (v := (0 : Int32)) X I 1 0 rfl rfl (by decide) (by decide) (Nat.le_of_ble_eq_true rfl) rfl dX12_digest_61 ?_
  refine fb_isC (n := 5) (wn := ([fb_o12 za zr (upd fr_e0 19 (0 : Int32)), fb_aw cI (zr 0) 16205 (fr_m (fun _ => 0) 0), fb_aw cI x1 17 (upd (upd (upd (upd (upd (upd (fun _ => 0) 0 (0 : Int32)) 1 (0 : Int32)) 2 (255 : Int32)) 3 (4 : Int32)) 4 (0 : Int32)) 5 (0 : Int32))] : List va_W).flatten) X I 2 0 rfl rfl (by decide) (by decide) (Nat.le_of_ble_eq_true rfl) rfl dX12_digest_62 (fun H locs I => ?_)
  refine lv_dup hx hb dX12_digest_63 rfl ?_
  refine lv_bipush (v := (6 : Int32)) hx hb dX12_digest_64 (by decide) ?_
  refine lv_aload_n hx hb dX12_digest_66 rfl (lv_at hl 0 rfl) ?_
  refine fb_get X I (k := 0) (v := .ref (zr 0)) fu_X12 0 fb_h12 rfl (Nat.le_of_ble_eq_true rfl) fw_1964 rfl rfl dX12_digest_67 ?_
  refine lv_bipush (v := (7 : Int32)) hx hb dX12_digest_70 (by decide) ?_
  refine fb_iaC (n := 7) (v := (0 : Int32)) X I 1 0 rfl rfl (by decide) (by decide) (Nat.le_of_ble_eq_true rfl) rfl dX12_digest_72 ?_
  refine fb_isC (n := 6) (wn := ([fb_o12 za zr (upd fr_e0 19 (0 : Int32)), fb_aw cI (zr 0) 16205 (fr_m (fun _ => 0) 0), fb_aw cI x1 17 (upd (upd (upd (upd (upd (upd (upd (fun _ => 0) 0 (0 : Int32)) 1 (0 : Int32)) 2 (255 : Int32)) 3 (4 : Int32)) 4 (0 : Int32)) 5 (0 : Int32)) 6 (0 : Int32))] : List va_W).flatten) X I 2 0 rfl rfl (by decide) (by decide) (Nat.le_of_ble_eq_true rfl) rfl dX12_digest_73 (fun H locs I => ?_)
  refine lv_dup hx hb dX12_digest_74 rfl ?_
  refine lv_bipush (v := (7 : Int32)) hx hb dX12_digest_75 (by decide) ?_
  refine lv_aload_n hx hb dX12_digest_77 rfl (lv_at hl 0 rfl) ?_
  refine fb_get X I (k := 0) (v := .ref (zr 0)) fu_X12 0 fb_h12 rfl (Nat.le_of_ble_eq_true rfl) fw_1964 rfl rfl dX12_digest_78 ?_
  refine lv_bipush (v := (8 : Int32)) hx hb dX12_digest_81 (by decide) ?_
  refine fb_iaC (n := 8) (v := (0 : Int32)) X I 1 0 rfl rfl (by decide) (by decide) (Nat.le_of_ble_eq_true rfl) rfl dX12_digest_83 ?_
  refine fb_isC (n := 7) (wn := ([fb_o12 za zr (upd fr_e0 19 (0 : Int32)), fb_aw cI (zr 0) 16205 (fr_m (fun _ => 0) 0), fb_aw cI x1 17 (upd (upd (upd (upd (upd (upd (upd (upd (fun _ => 0) 0 (0 : Int32)) 1 (0 : Int32)) 2 (255 : Int32)) 3 (4 : Int32)) 4 (0 : Int32)) 5 (0 : Int32)) 6 (0 : Int32)) 7 (0 : Int32))] : List va_W).flatten) X I 2 0 rfl rfl (by decide) (by decide) (Nat.le_of_ble_eq_true rfl) rfl dX12_digest_84 (fun H locs I => ?_)
  refine lv_dup hx hb dX12_digest_85 rfl ?_
  refine lv_bipush (v := (8 : Int32)) hx hb dX12_digest_86 (by decide) ?_
  refine lv_aload_n hx hb dX12_digest_88 rfl (lv_at hl 0 rfl) ?_
  refine fb_get X I (k := 0) (v := .ref (zr 0)) fu_X12 0 fb_h12 rfl (Nat.le_of_ble_eq_true rfl) fw_1964 rfl rfl dX12_digest_89 ?_
  refine lv_bipush (v := (9 : Int32)) hx hb dX12_digest_92 (by decide) ?_
  refine fb_iaC (n := 9) (v := (0 : Int32)) X I 1 0 rfl rfl (by decide) (by decide) (Nat.le_of_ble_eq_true rfl) rfl dX12_digest_94 ?_
  refine fb_isC (n := 8) (wn := ([fb_o12 za zr (upd fr_e0 19 (0 : Int32)), fb_aw cI (zr 0) 16205 (fr_m (fun _ => 0) 0), fb_aw cI x1 17 (upd (upd (upd (upd (upd (upd (upd (upd (upd (fun _ => 0) 0 (0 : Int32)) 1 (0 : Int32)) 2 (255 : Int32)) 3 (4 : Int32)) 4 (0 : Int32)) 5 (0 : Int32)) 6 (0 : Int32)) 7 (0 : Int32)) 8 (0 : Int32))] : List va_W).flatten) X I 2 0 rfl rfl (by decide) (by decide) (Nat.le_of_ble_eq_true rfl) rfl dX12_digest_95 (fun H locs I => ?_)
  refine lv_dup hx hb dX12_digest_96 rfl ?_
  refine lv_bipush (v := (9 : Int32)) hx hb dX12_digest_97 (by decide) ?_
  refine lv_aload_n hx hb dX12_digest_99 rfl (lv_at hl 0 rfl) ?_
  refine fb_get X I (k := 0) (v := .ref (zr 0)) fu_X12 0 fb_h12 rfl (Nat.le_of_ble_eq_true rfl) fw_1964 rfl rfl dX12_digest_100 ?_
  refine lv_bipush (v := (10 : Int32)) hx hb dX12_digest_103 (by decide) ?_
  refine fb_iaC (n := 10) (v := (0 : Int32)) X I 1 0 rfl rfl (by decide) (by decide) (Nat.le_of_ble_eq_true rfl) rfl dX12_digest_105 ?_
  refine fb_isC (n := 9) (wn := ([fb_o12 za zr (upd fr_e0 19 (0 : Int32)), fb_aw cI (zr 0) 16205 (fr_m (fun _ => 0) 0), fb_aw cI x1 17 (upd (upd (upd (upd (upd (upd (upd (upd (upd (upd (fun _ => 0) 0 (0 : Int32)) 1 (0 : Int32)) 2 (255 : Int32)) 3 (4 : Int32)) 4 (0 : Int32)) 5 (0 : Int32)) 6 (0 : Int32)) 7 (0 : Int32)) 8 (0 : Int32)) 9 (0 : Int32))] : List va_W).flatten) X I 2 0 rfl rfl (by decide) (by decide) (Nat.le_of_ble_eq_true rfl) rfl dX12_digest_106 (fun H locs I => ?_)
  refine lv_dup hx hb dX12_digest_107 rfl ?_
  refine lv_bipush (v := (10 : Int32)) hx hb dX12_digest_108 (by decide) ?_
  refine lv_aload_n hx hb dX12_digest_110 rfl (lv_at hl 0 rfl) ?_
  refine fb_get X I (k := 0) (v := .ref (zr 0)) fu_X12 0 fb_h12 rfl (Nat.le_of_ble_eq_true rfl) fw_1964 rfl rfl dX12_digest_111 ?_
  refine lv_bipush (v := (11 : Int32)) hx hb dX12_digest_114 (by decide) ?_
  refine fb_iaC (n := 11) (v := (0 : Int32)) X I 1 0 rfl rfl (by decide) (by decide) (Nat.le_of_ble_eq_true rfl) rfl dX12_digest_116 ?_
  refine fb_isC (n := 10) (wn := ([fb_o12 za zr (upd fr_e0 19 (0 : Int32)), fb_aw cI (zr 0) 16205 (fr_m (fun _ => 0) 0), fb_aw cI x1 17 (upd (upd (upd (upd (upd (upd (upd (upd (upd (upd (upd (fun _ => 0) 0 (0 : Int32)) 1 (0 : Int32)) 2 (255 : Int32)) 3 (4 : Int32)) 4 (0 : Int32)) 5 (0 : Int32)) 6 (0 : Int32)) 7 (0 : Int32)) 8 (0 : Int32)) 9 (0 : Int32)) 10 (0 : Int32))] : List va_W).flatten) X I 2 0 rfl rfl (by decide) (by decide) (Nat.le_of_ble_eq_true rfl) rfl dX12_digest_117 (fun H locs I => ?_)
  refine lv_dup hx hb dX12_digest_118 rfl ?_
  refine lv_bipush (v := (11 : Int32)) hx hb dX12_digest_119 (by decide) ?_
  refine lv_aload_n hx hb dX12_digest_121 rfl (lv_at hl 0 rfl) ?_
  refine fb_get X I (k := 0) (v := .ref (zr 0)) fu_X12 0 fb_h12 rfl (Nat.le_of_ble_eq_true rfl) fw_1964 rfl rfl dX12_digest_122 ?_
  refine lv_bipush (v := (12 : Int32)) hx hb dX12_digest_125 (by decide) ?_
  refine fb_iaC (n := 12) (v := (0 : Int32)) X I 1 0 rfl rfl (by decide) (by decide) (Nat.le_of_ble_eq_true rfl) rfl dX12_digest_127 ?_
  refine fb_isC (n := 11) (wn := ([fb_o12 za zr (upd fr_e0 19 (0 : Int32)), fb_aw cI (zr 0) 16205 (fr_m (fun _ => 0) 0), fb_aw cI x1 17 (upd (upd (upd (upd (upd (upd (upd (upd (upd (upd (upd (upd (fun _ => 0) 0 (0 : Int32)) 1 (0 : Int32)) 2 (255 : Int32)) 3 (4 : Int32)) 4 (0 : Int32)) 5 (0 : Int32)) 6 (0 : Int32)) 7 (0 : Int32)) 8 (0 : Int32)) 9 (0 : Int32)) 10 (0 : Int32)) 11 (0 : Int32))] : List va_W).flatten) X I 2 0 rfl rfl (by decide) (by decide) (Nat.le_of_ble_eq_true rfl) rfl dX12_digest_128 (fun H locs I => ?_)
  refine lv_dup hx hb dX12_digest_129 rfl ?_
  refine lv_bipush (v := (12 : Int32)) hx hb dX12_digest_130 (by decide) ?_
  refine lv_aload_n hx hb dX12_digest_132 rfl (lv_at hl 0 rfl) ?_
  refine fb_get X I (k := 0) (v := .ref (zr 0)) fu_X12 0 fb_h12 rfl (Nat.le_of_ble_eq_true rfl) fw_1964 rfl rfl dX12_digest_133 ?_
  refine lv_bipush (v := (18 : Int32)) hx hb dX12_digest_136 (by decide) ?_
  refine fb_iaC (n := 18) (v := (0 : Int32)) X I 1 0 rfl rfl (by decide) (by decide) (Nat.le_of_ble_eq_true rfl) rfl dX12_digest_138 ?_
  refine fb_isC (n := 12) (wn := ([fb_o12 za zr (upd fr_e0 19 (0 : Int32)), fb_aw cI (zr 0) 16205 (fr_m (fun _ => 0) 0), fb_aw cI x1 17 (upd (upd (upd (upd (upd (upd (upd (upd (upd (upd (upd (upd (upd (fun _ => 0) 0 (0 : Int32)) 1 (0 : Int32)) 2 (255 : Int32)) 3 (4 : Int32)) 4 (0 : Int32)) 5 (0 : Int32)) 6 (0 : Int32)) 7 (0 : Int32)) 8 (0 : Int32)) 9 (0 : Int32)) 10 (0 : Int32)) 11 (0 : Int32)) 12 (0 : Int32))] : List va_W).flatten) X I 2 0 rfl rfl (by decide) (by decide) (Nat.le_of_ble_eq_true rfl) rfl dX12_digest_139 (fun H locs I => ?_)
  refine lv_dup hx hb dX12_digest_140 rfl ?_
  refine lv_bipush (v := (13 : Int32)) hx hb dX12_digest_141 (by decide) ?_
  refine lv_aload_n hx hb dX12_digest_143 rfl (lv_at hl 0 rfl) ?_
  refine fb_get X I (k := 0) (v := .ref (zr 0)) fu_X12 0 fb_h12 rfl (Nat.le_of_ble_eq_true rfl) fw_1964 rfl rfl dX12_digest_144 ?_
  refine lv_bipush (v := (19 : Int32)) hx hb dX12_digest_147 (by decide) ?_
  refine fb_iaC (n := 19) (v := (0 : Int32)) X I 1 0 rfl rfl (by decide) (by decide) (Nat.le_of_ble_eq_true rfl) rfl dX12_digest_149 ?_
  refine fb_isC (n := 13) (wn := ([fb_o12 za zr (upd fr_e0 19 (0 : Int32)), fb_aw cI (zr 0) 16205 (fr_m (fun _ => 0) 0), fb_aw cI x1 17 (upd (upd (upd (upd (upd (upd (upd (upd (upd (upd (upd (upd (upd (upd (fun _ => 0) 0 (0 : Int32)) 1 (0 : Int32)) 2 (255 : Int32)) 3 (4 : Int32)) 4 (0 : Int32)) 5 (0 : Int32)) 6 (0 : Int32)) 7 (0 : Int32)) 8 (0 : Int32)) 9 (0 : Int32)) 10 (0 : Int32)) 11 (0 : Int32)) 12 (0 : Int32)) 13 (0 : Int32))] : List va_W).flatten) X I 2 0 rfl rfl (by decide) (by decide) (Nat.le_of_ble_eq_true rfl) rfl dX12_digest_150 (fun H locs I => ?_)
  refine lv_dup hx hb dX12_digest_151 rfl ?_
  refine lv_bipush (v := (14 : Int32)) hx hb dX12_digest_152 (by decide) ?_
  refine lv_aload_n hx hb dX12_digest_154 rfl (lv_at hl 0 rfl) ?_
  refine fb_get X I (k := 10) (v := .int (fr_e0 10)) fu_X12 0 fb_h12 rfl (Nat.le_of_ble_eq_true rfl) fw_1974 rfl rfl dX12_digest_155 ?_
  refine fb_tI (v := (0 : Int32)) rfl ?_
  refine fb_isC (n := 14) (wn := ([fb_o12 za zr (upd fr_e0 19 (0 : Int32)), fb_aw cI (zr 0) 16205 (fr_m (fun _ => 0) 0), fb_aw cI x1 17 (upd (upd (upd (upd (upd (upd (upd (upd (upd (upd (upd (upd (upd (upd (upd (fun _ => 0) 0 (0 : Int32)) 1 (0 : Int32)) 2 (255 : Int32)) 3 (4 : Int32)) 4 (0 : Int32)) 5 (0 : Int32)) 6 (0 : Int32)) 7 (0 : Int32)) 8 (0 : Int32)) 9 (0 : Int32)) 10 (0 : Int32)) 11 (0 : Int32)) 12 (0 : Int32)) 13 (0 : Int32)) 14 (0 : Int32))] : List va_W).flatten) X I 2 0 rfl rfl (by decide) (by decide) (Nat.le_of_ble_eq_true rfl) rfl dX12_digest_158 (fun H locs I => ?_)
  refine lv_dup hx hb dX12_digest_159 rfl ?_
  refine lv_bipush (v := (15 : Int32)) hx hb dX12_digest_160 (by decide) ?_
  refine lv_aload_n hx hb dX12_digest_162 rfl (lv_at hl 0 rfl) ?_
  refine fb_get X I (k := 2) (v := .int (fr_e0 2)) fu_X12 0 fb_h12 rfl (Nat.le_of_ble_eq_true rfl) fw_1966 rfl rfl dX12_digest_163 ?_
  refine fb_tI (v := (0 : Int32)) rfl ?_
  refine fb_isC (n := 15) (wn := ([fb_o12 za zr (upd fr_e0 19 (0 : Int32)), fb_aw cI (zr 0) 16205 (fr_m (fun _ => 0) 0), fb_aw cI x1 17 (upd (upd (upd (upd (upd (upd (upd (upd (upd (upd (upd (upd (upd (upd (upd (upd (fun _ => 0) 0 (0 : Int32)) 1 (0 : Int32)) 2 (255 : Int32)) 3 (4 : Int32)) 4 (0 : Int32)) 5 (0 : Int32)) 6 (0 : Int32)) 7 (0 : Int32)) 8 (0 : Int32)) 9 (0 : Int32)) 10 (0 : Int32)) 11 (0 : Int32)) 12 (0 : Int32)) 13 (0 : Int32)) 14 (0 : Int32)) 15 (0 : Int32))] : List va_W).flatten) X I 2 0 rfl rfl (by decide) (by decide) (Nat.le_of_ble_eq_true rfl) rfl dX12_digest_166 (fun H locs I => ?_)
  refine lv_dup hx hb dX12_digest_167 rfl ?_
  refine lv_bipush (v := (16 : Int32)) hx hb dX12_digest_168 (by decide) ?_
  refine lv_aload_n hx hb dX12_digest_170 rfl (lv_at hl 0 rfl) ?_
  refine fb_get X I (k := 0) (v := .ref (zr 0)) fu_X12 0 fb_h12 rfl (Nat.le_of_ble_eq_true rfl) fw_1964 rfl rfl dX12_digest_171 ?_
  refine lv_bipush (v := (20 : Int32)) hx hb dX12_digest_174 (by decide) ?_
  refine fb_iaC (n := 20) (v := (0 : Int32)) X I 1 0 rfl rfl (by decide) (by decide) (Nat.le_of_ble_eq_true rfl) rfl dX12_digest_176 ?_
  refine fb_isC (n := 16) (wn := ([fb_o12 za zr (upd fr_e0 19 (0 : Int32)), fb_aw cI (zr 0) 16205 (fr_m (fun _ => 0) 0), fb_aw cI x1 17 (upd (upd (upd (upd (upd (upd (upd (upd (upd (upd (upd (upd (upd (upd (upd (upd (upd (fun _ => 0) 0 (0 : Int32)) 1 (0 : Int32)) 2 (255 : Int32)) 3 (4 : Int32)) 4 (0 : Int32)) 5 (0 : Int32)) 6 (0 : Int32)) 7 (0 : Int32)) 8 (0 : Int32)) 9 (0 : Int32)) 10 (0 : Int32)) 11 (0 : Int32)) 12 (0 : Int32)) 13 (0 : Int32)) 14 (0 : Int32)) 15 (0 : Int32)) 16 (0 : Int32))] : List va_W).flatten) X I 2 0 rfl rfl (by decide) (by decide) (Nat.le_of_ble_eq_true rfl) rfl dX12_digest_177 (fun H locs I => ?_)
  refine lv_astore_n (lv' := [(1, .ref x1), (0, .ref za)]) hx hb dX12_digest_178 rfl hl (by decide) rfl (fun ls hl => ?_)
  refine lv_ldc2 hx hb hown (hts _ fw_2787) dX12_digest_179 ?_
  refine lv_lstore_n (lv' := [(2, .long (58008 : Int64)), (1, .ref x1), (0, .ref za)]) hx hb dX12_digest_182 rfl hl (by decide) rfl (fun ls hl => ?_)
  refine lv_aload_n hx hb dX12_digest_183 rfl (lv_at hl 1 rfl) ?_
  refine lv_astore (lv' := [(4, .ref x1), (2, .long (58008 : Int64)), (1, .ref x1), (0, .ref za)]) hx hb dX12_digest_184 hl (by decide) rfl (fun ls hl => ?_)
  refine lv_aload hx hb dX12_digest_186 (lv_at hl 0 rfl) ?_
  refine fb_alen (v := (17 : Int32)) X I 2 0 rfl rfl rfl dX12_digest_188 ?_
  refine lv_istore (lv' := [(5, .int (17 : Int32)), (4, .ref x1), (2, .long (58008 : Int64)), (1, .ref x1), (0, .ref za)]) hx hb dX12_digest_189 hl (by decide) rfl (fun ls hl => ?_)
  refine lv_iconst (v := (0 : Int32)) hx hb dX12_digest_191 (by decide) ?_
  refine lv_istore (lv' := [(6, .int (0 : Int32)), (5, .int (17 : Int32)), (4, .ref x1), (2, .long (58008 : Int64)), (1, .ref x1), (0, .ref za)]) hx hb dX12_digest_192 hl (by decide) rfl (fun ls hl => ?_)
  refine lv_iload hx hb dX12_digest_194 (lv_at hl 0 rfl) ?_
  refine lv_iload hx hb dX12_digest_196 (lv_at hl 1 rfl) ?_
  refine lv_icmp_ge (tgt := 222) hx hb dX12_digest_198 (by decide) (fun c2 => absurd c2 (by decide)) (fun _ => ?_)
  refine lv_aload hx hb dX12_digest_201 (lv_at hl 2 rfl) ?_
  refine lv_iload hx hb dX12_digest_203 (lv_at hl 0 rfl) ?_
  refine fb_iaC (n := 0) (v := (0 : Int32)) X I 2 0 rfl rfl (by decide) (by decide) (Nat.le_of_ble_eq_true rfl) ((pk_un (by decide)).trans ((pk_un (by decide)).trans ((pk_un (by decide)).trans ((pk_un (by decide)).trans ((pk_un (by decide)).trans ((pk_un (by decide)).trans ((pk_un (by decide)).trans ((pk_un (by decide)).trans ((pk_un (by decide)).trans ((pk_un (by decide)).trans ((pk_un (by decide)).trans ((pk_un (by decide)).trans ((pk_un (by decide)).trans ((pk_un (by decide)).trans ((pk_un (by decide)).trans ((pk_un (by decide)).trans pk_us)))))))))))))))) dX12_digest_205 ?_
  refine lv_istore (lv' := [(7, .int (0 : Int32)), (6, .int (0 : Int32)), (5, .int (17 : Int32)), (4, .ref x1), (2, .long (58008 : Int64)), (1, .ref x1), (0, .ref za)]) hx hb dX12_digest_206 hl (by decide) rfl (fun ls hl => ?_)
  refine lv_lload_n hx hb dX12_digest_208 rfl (lv_at hl 4 rfl) ?_
  refine lv_iload hx hb dX12_digest_209 (lv_at hl 0 rfl) ?_
  refine lv_i2l (v := (((0 : Int32)).toInt64)) hx hb dX12_digest_211 rfl ?_
  refine fb_gOL (cs := []) (rs := [fb_o12 za zr (upd fr_e0 19 (0 : Int32)), fb_aw cI (zr 0) 16205 (fr_m (fun _ => 0) 0), fb_aw cI x1 17 (upd (upd (upd (upd (upd (upd (upd (upd (upd (upd (upd (upd (upd (upd (upd (upd (upd (fun _ => 0) 0 (0 : Int32)) 1 (0 : Int32)) 2 (255 : Int32)) 3 (4 : Int32)) 4 (0 : Int32)) 5 (0 : Int32)) 6 (0 : Int32)) 7 (0 : Int32)) 8 (0 : Int32)) 9 (0 : Int32)) 10 (0 : Int32)) 11 (0 : Int32)) 12 (0 : Int32)) 13 (0 : Int32)) 14 (0 : Int32)) 15 (0 : Int32)) 16 (0 : Int32))]) X I [0, 1, 2] 3 rfl (by decide +kernel) rfl rfl (fun I => fb_rS (As := [.long (58008 : Int64), .long (((0 : Int32)).toInt64)]) (rest := []) X hl (fb_goodS fw_2788 fw_2789 fw_204 fw_2790) (c_X12_add_ l D cI cJ (58008 : Int64) (((0 : Int32)).toInt64) _) rfl rfl (by decide +kernel : fb_hd yX12_add_ 2) ⟨Nat.le_of_ble_eq_true rfl, Nat.le_of_ble_eq_true rfl⟩ rfl rfl (Nat.le_of_ble_eq_true rfl) ⟨Nat.le_of_ble_eq_true rfl, Nat.le_of_ble_eq_true rfl⟩ dX12_digest_212 I) ?_
  refine lv_lstore_n (lv' := [(2, .long (f_X12_add_ (58008 : Int64) (((0 : Int32)).toInt64))), (7, .int (0 : Int32)), (6, .int (0 : Int32)), (5, .int (17 : Int32)), (4, .ref x1), (1, .ref x1), (0, .ref za)]) hx hb dX12_digest_215 rfl hl (by decide) rfl (fun ls hl => ?_)
  refine lv_iinc (v := (1 : Int32)) (lv' := [(6, .int (1 : Int32)), (2, .long (f_X12_add_ (58008 : Int64) (((0 : Int32)).toInt64))), (7, .int (0 : Int32)), (5, .int (17 : Int32)), (4, .ref x1), (1, .ref x1), (0, .ref za)]) hx hb dX12_digest_216 hl (k := 2) rfl (by decide) (by decide) rfl (fun ls hl => ?_)
  refine lv_goto (tgt := 194) hx hb dX12_digest_219 (by decide) ?_
  refine lv_iload hx hb dX12_digest_194 (lv_at hl 0 rfl) ?_
  refine lv_iload hx hb dX12_digest_196 (lv_at hl 3 rfl) ?_
  refine lv_icmp_ge (tgt := 222) hx hb dX12_digest_198 (by decide) (fun c3 => absurd c3 (by decide)) (fun _ => ?_)
  refine lv_aload hx hb dX12_digest_201 (lv_at hl 4 rfl) ?_
  refine lv_iload hx hb dX12_digest_203 (lv_at hl 0 rfl) ?_
  refine fb_iaC (n := 1) (v := (0 : Int32)) X I 2 0 rfl rfl (by decide) (by decide) (Nat.le_of_ble_eq_true rfl) ((pk_un (by decide)).trans ((pk_un (by decide)).trans ((pk_un (by decide)).trans ((pk_un (by decide)).trans ((pk_un (by decide)).trans ((pk_un (by decide)).trans ((pk_un (by decide)).trans ((pk_un (by decide)).trans ((pk_un (by decide)).trans ((pk_un (by decide)).trans ((pk_un (by decide)).trans ((pk_un (by decide)).trans ((pk_un (by decide)).trans ((pk_un (by decide)).trans ((pk_un (by decide)).trans pk_us))))))))))))))) dX12_digest_205 ?_
  refine lv_istore (lv' := [(7, .int (0 : Int32)), (6, .int (1 : Int32)), (2, .long (f_X12_add_ (58008 : Int64) (((0 : Int32)).toInt64))), (5, .int (17 : Int32)), (4, .ref x1), (1, .ref x1), (0, .ref za)]) hx hb dX12_digest_206 hl (by decide) rfl (fun ls hl => ?_)
  refine lv_lload_n hx hb dX12_digest_208 rfl (lv_at hl 2 rfl) ?_
  refine lv_iload hx hb dX12_digest_209 (lv_at hl 0 rfl) ?_
  refine lv_i2l (v := (((0 : Int32)).toInt64)) hx hb dX12_digest_211 rfl ?_
  refine fb_gOL (cs := []) (rs := [fb_o12 za zr (upd fr_e0 19 (0 : Int32)), fb_aw cI (zr 0) 16205 (fr_m (fun _ => 0) 0), fb_aw cI x1 17 (upd (upd (upd (upd (upd (upd (upd (upd (upd (upd (upd (upd (upd (upd (upd (upd (upd (fun _ => 0) 0 (0 : Int32)) 1 (0 : Int32)) 2 (255 : Int32)) 3 (4 : Int32)) 4 (0 : Int32)) 5 (0 : Int32)) 6 (0 : Int32)) 7 (0 : Int32)) 8 (0 : Int32)) 9 (0 : Int32)) 10 (0 : Int32)) 11 (0 : Int32)) 12 (0 : Int32)) 13 (0 : Int32)) 14 (0 : Int32)) 15 (0 : Int32)) 16 (0 : Int32))]) X I [0, 1, 2] 3 rfl (by decide +kernel) rfl rfl (fun I => fb_rS (As := [.long (f_X12_add_ (58008 : Int64) (((0 : Int32)).toInt64)), .long (((0 : Int32)).toInt64)]) (rest := []) X hl (fb_goodS fw_2788 fw_2789 fw_204 fw_2790) (c_X12_add_ l D cI cJ (f_X12_add_ (58008 : Int64) (((0 : Int32)).toInt64)) (((0 : Int32)).toInt64) _) rfl rfl (by decide +kernel : fb_hd yX12_add_ 2) ⟨Nat.le_of_ble_eq_true rfl, Nat.le_of_ble_eq_true rfl⟩ rfl rfl (Nat.le_of_ble_eq_true rfl) ⟨Nat.le_of_ble_eq_true rfl, Nat.le_of_ble_eq_true rfl⟩ dX12_digest_212 I) ?_
  refine lv_lstore_n (lv' := [(2, .long (f_X12_add_ (f_X12_add_ (58008 : Int64) (((0 : Int32)).toInt64)) (((0 : Int32)).toInt64))), (7, .int (0 : Int32)), (6, .int (1 : Int32)), (5, .int (17 : Int32)), (4, .ref x1), (1, .ref x1), (0, .ref za)]) hx hb dX12_digest_215 rfl hl (by decide) rfl (fun ls hl => ?_)
  refine lv_iinc (v := (2 : Int32)) (lv' := [(6, .int (2 : Int32)), (2, .long (f_X12_add_ (f_X12_add_ (58008 : Int64) (((0 : Int32)).toInt64)) (((0 : Int32)).toInt64))), (7, .int (0 : Int32)), (5, .int (17 : Int32)), (4, .ref x1), (1, .ref x1), (0, .ref za)]) hx hb dX12_digest_216 hl (k := 2) rfl (by decide) (by decide) rfl (fun ls hl => ?_)
  refine lv_goto (tgt := 194) hx hb dX12_digest_219 (by decide) ?_
  refine lv_iload hx hb dX12_digest_194 (lv_at hl 0 rfl) ?_
  refine lv_iload hx hb dX12_digest_196 (lv_at hl 3 rfl) ?_
  refine lv_icmp_ge (tgt := 222) hx hb dX12_digest_198 (by decide) (fun c4 => absurd c4 (by decide)) (fun _ => ?_)
  refine lv_aload hx hb dX12_digest_201 (lv_at hl 4 rfl) ?_
  refine lv_iload hx hb dX12_digest_203 (lv_at hl 0 rfl) ?_
  refine fb_iaC (n := 2) (v := (255 : Int32)) X I 2 0 rfl rfl (by decide) (by decide) (Nat.le_of_ble_eq_true rfl) ((pk_un (by decide)).trans ((pk_un (by decide)).trans ((pk_un (by decide)).trans ((pk_un (by decide)).trans ((pk_un (by decide)).trans ((pk_un (by decide)).trans ((pk_un (by decide)).trans ((pk_un (by decide)).trans ((pk_un (by decide)).trans ((pk_un (by decide)).trans ((pk_un (by decide)).trans ((pk_un (by decide)).trans ((pk_un (by decide)).trans ((pk_un (by decide)).trans pk_us)))))))))))))) dX12_digest_205 ?_
  refine lv_istore (lv' := [(7, .int (255 : Int32)), (6, .int (2 : Int32)), (2, .long (f_X12_add_ (f_X12_add_ (58008 : Int64) (((0 : Int32)).toInt64)) (((0 : Int32)).toInt64))), (5, .int (17 : Int32)), (4, .ref x1), (1, .ref x1), (0, .ref za)]) hx hb dX12_digest_206 hl (by decide) rfl (fun ls hl => ?_)
  refine lv_lload_n hx hb dX12_digest_208 rfl (lv_at hl 2 rfl) ?_
  refine lv_iload hx hb dX12_digest_209 (lv_at hl 0 rfl) ?_
  refine lv_i2l (v := (((255 : Int32)).toInt64)) hx hb dX12_digest_211 rfl ?_
  refine fb_gOL (cs := []) (rs := [fb_o12 za zr (upd fr_e0 19 (0 : Int32)), fb_aw cI (zr 0) 16205 (fr_m (fun _ => 0) 0), fb_aw cI x1 17 (upd (upd (upd (upd (upd (upd (upd (upd (upd (upd (upd (upd (upd (upd (upd (upd (upd (fun _ => 0) 0 (0 : Int32)) 1 (0 : Int32)) 2 (255 : Int32)) 3 (4 : Int32)) 4 (0 : Int32)) 5 (0 : Int32)) 6 (0 : Int32)) 7 (0 : Int32)) 8 (0 : Int32)) 9 (0 : Int32)) 10 (0 : Int32)) 11 (0 : Int32)) 12 (0 : Int32)) 13 (0 : Int32)) 14 (0 : Int32)) 15 (0 : Int32)) 16 (0 : Int32))]) X I [0, 1, 2] 3 rfl (by decide +kernel) rfl rfl (fun I => fb_rS (As := [.long (f_X12_add_ (f_X12_add_ (58008 : Int64) (((0 : Int32)).toInt64)) (((0 : Int32)).toInt64)), .long (((255 : Int32)).toInt64)]) (rest := []) X hl (fb_goodS fw_2788 fw_2789 fw_204 fw_2790) (c_X12_add_ l D cI cJ (f_X12_add_ (f_X12_add_ (58008 : Int64) (((0 : Int32)).toInt64)) (((0 : Int32)).toInt64)) (((255 : Int32)).toInt64) _) rfl rfl (by decide +kernel : fb_hd yX12_add_ 2) ⟨Nat.le_of_ble_eq_true rfl, Nat.le_of_ble_eq_true rfl⟩ rfl rfl (Nat.le_of_ble_eq_true rfl) ⟨Nat.le_of_ble_eq_true rfl, Nat.le_of_ble_eq_true rfl⟩ dX12_digest_212 I) ?_
  refine lv_lstore_n (lv' := [(2, .long (f_X12_add_ (f_X12_add_ (f_X12_add_ (58008 : Int64) (((0 : Int32)).toInt64)) (((0 : Int32)).toInt64)) (((255 : Int32)).toInt64))), (7, .int (255 : Int32)), (6, .int (2 : Int32)), (5, .int (17 : Int32)), (4, .ref x1), (1, .ref x1), (0, .ref za)]) hx hb dX12_digest_215 rfl hl (by decide) rfl (fun ls hl => ?_)
  refine lv_iinc (v := (3 : Int32)) (lv' := [(6, .int (3 : Int32)), (2, .long (f_X12_add_ (f_X12_add_ (f_X12_add_ (58008 : Int64) (((0 : Int32)).toInt64)) (((0 : Int32)).toInt64)) (((255 : Int32)).toInt64))), (7, .int (255 : Int32)), (5, .int (17 : Int32)), (4, .ref x1), (1, .ref x1), (0, .ref za)]) hx hb dX12_digest_216 hl (k := 2) rfl (by decide) (by decide) rfl (fun ls hl => ?_)
  refine lv_goto (tgt := 194) hx hb dX12_digest_219 (by decide) ?_
  refine lv_iload hx hb dX12_digest_194 (lv_at hl 0 rfl) ?_
  refine lv_iload hx hb dX12_digest_196 (lv_at hl 3 rfl) ?_
  refine lv_icmp_ge (tgt := 222) hx hb dX12_digest_198 (by decide) (fun c5 => absurd c5 (by decide)) (fun _ => ?_)
  refine lv_aload hx hb dX12_digest_201 (lv_at hl 4 rfl) ?_
  refine lv_iload hx hb dX12_digest_203 (lv_at hl 0 rfl) ?_
  refine fb_iaC (n := 3) (v := (4 : Int32)) X I 2 0 rfl rfl (by decide) (by decide) (Nat.le_of_ble_eq_true rfl) ((pk_un (by decide)).trans ((pk_un (by decide)).trans ((pk_un (by decide)).trans ((pk_un (by decide)).trans ((pk_un (by decide)).trans ((pk_un (by decide)).trans ((pk_un (by decide)).trans ((pk_un (by decide)).trans ((pk_un (by decide)).trans ((pk_un (by decide)).trans ((pk_un (by decide)).trans ((pk_un (by decide)).trans ((pk_un (by decide)).trans pk_us))))))))))))) dX12_digest_205 ?_
  refine lv_istore (lv' := [(7, .int (4 : Int32)), (6, .int (3 : Int32)), (2, .long (f_X12_add_ (f_X12_add_ (f_X12_add_ (58008 : Int64) (((0 : Int32)).toInt64)) (((0 : Int32)).toInt64)) (((255 : Int32)).toInt64))), (5, .int (17 : Int32)), (4, .ref x1), (1, .ref x1), (0, .ref za)]) hx hb dX12_digest_206 hl (by decide) rfl (fun ls hl => ?_)
  refine lv_lload_n hx hb dX12_digest_208 rfl (lv_at hl 2 rfl) ?_
  refine lv_iload hx hb dX12_digest_209 (lv_at hl 0 rfl) ?_
  refine lv_i2l (v := (((4 : Int32)).toInt64)) hx hb dX12_digest_211 rfl ?_
  refine fb_gOL (cs := []) (rs := [fb_o12 za zr (upd fr_e0 19 (0 : Int32)), fb_aw cI (zr 0) 16205 (fr_m (fun _ => 0) 0), fb_aw cI x1 17 (upd (upd (upd (upd (upd (upd (upd (upd (upd (upd (upd (upd (upd (upd (upd (upd (upd (fun _ => 0) 0 (0 : Int32)) 1 (0 : Int32)) 2 (255 : Int32)) 3 (4 : Int32)) 4 (0 : Int32)) 5 (0 : Int32)) 6 (0 : Int32)) 7 (0 : Int32)) 8 (0 : Int32)) 9 (0 : Int32)) 10 (0 : Int32)) 11 (0 : Int32)) 12 (0 : Int32)) 13 (0 : Int32)) 14 (0 : Int32)) 15 (0 : Int32)) 16 (0 : Int32))]) X I [0, 1, 2] 3 rfl (by decide +kernel) rfl rfl (fun I => fb_rS (As := [.long (f_X12_add_ (f_X12_add_ (f_X12_add_ (58008 : Int64) (((0 : Int32)).toInt64)) (((0 : Int32)).toInt64)) (((255 : Int32)).toInt64)), .long (((4 : Int32)).toInt64)]) (rest := []) X hl (fb_goodS fw_2788 fw_2789 fw_204 fw_2790) (c_X12_add_ l D cI cJ (f_X12_add_ (f_X12_add_ (f_X12_add_ (58008 : Int64) (((0 : Int32)).toInt64)) (((0 : Int32)).toInt64)) (((255 : Int32)).toInt64)) (((4 : Int32)).toInt64) _) rfl rfl (by decide +kernel : fb_hd yX12_add_ 2) ⟨Nat.le_of_ble_eq_true rfl, Nat.le_of_ble_eq_true rfl⟩ rfl rfl (Nat.le_of_ble_eq_true rfl) ⟨Nat.le_of_ble_eq_true rfl, Nat.le_of_ble_eq_true rfl⟩ dX12_digest_212 I) ?_
  refine lv_lstore_n (lv' := [(2, .long (f_X12_add_ (f_X12_add_ (f_X12_add_ (f_X12_add_ (58008 : Int64) (((0 : Int32)).toInt64)) (((0 : Int32)).toInt64)) (((255 : Int32)).toInt64)) (((4 : Int32)).toInt64))), (7, .int (4 : Int32)), (6, .int (3 : Int32)), (5, .int (17 : Int32)), (4, .ref x1), (1, .ref x1), (0, .ref za)]) hx hb dX12_digest_215 rfl hl (by decide) rfl (fun ls hl => ?_)
  refine lv_iinc (v := (4 : Int32)) (lv' := [(6, .int (4 : Int32)), (2, .long (f_X12_add_ (f_X12_add_ (f_X12_add_ (f_X12_add_ (58008 : Int64) (((0 : Int32)).toInt64)) (((0 : Int32)).toInt64)) (((255 : Int32)).toInt64)) (((4 : Int32)).toInt64))), (7, .int (4 : Int32)), (5, .int (17 : Int32)), (4, .ref x1), (1, .ref x1), (0, .ref za)]) hx hb dX12_digest_216 hl (k := 2) rfl (by decide) (by decide) rfl (fun ls hl => ?_)
  refine lv_goto (tgt := 194) hx hb dX12_digest_219 (by decide) ?_
  refine lv_iload hx hb dX12_digest_194 (lv_at hl 0 rfl) ?_
  refine lv_iload hx hb dX12_digest_196 (lv_at hl 3 rfl) ?_
  refine lv_icmp_ge (tgt := 222) hx hb dX12_digest_198 (by decide) (fun c6 => absurd c6 (by decide)) (fun _ => ?_)
  refine lv_aload hx hb dX12_digest_201 (lv_at hl 4 rfl) ?_
  refine lv_iload hx hb dX12_digest_203 (lv_at hl 0 rfl) ?_
  refine fb_iaC (n := 4) (v := (0 : Int32)) X I 2 0 rfl rfl (by decide) (by decide) (Nat.le_of_ble_eq_true rfl) ((pk_un (by decide)).trans ((pk_un (by decide)).trans ((pk_un (by decide)).trans ((pk_un (by decide)).trans ((pk_un (by decide)).trans ((pk_un (by decide)).trans ((pk_un (by decide)).trans ((pk_un (by decide)).trans ((pk_un (by decide)).trans ((pk_un (by decide)).trans ((pk_un (by decide)).trans ((pk_un (by decide)).trans pk_us)))))))))))) dX12_digest_205 ?_
  refine lv_istore (lv' := [(7, .int (0 : Int32)), (6, .int (4 : Int32)), (2, .long (f_X12_add_ (f_X12_add_ (f_X12_add_ (f_X12_add_ (58008 : Int64) (((0 : Int32)).toInt64)) (((0 : Int32)).toInt64)) (((255 : Int32)).toInt64)) (((4 : Int32)).toInt64))), (5, .int (17 : Int32)), (4, .ref x1), (1, .ref x1), (0, .ref za)]) hx hb dX12_digest_206 hl (by decide) rfl (fun ls hl => ?_)
  refine lv_lload_n hx hb dX12_digest_208 rfl (lv_at hl 2 rfl) ?_
  refine lv_iload hx hb dX12_digest_209 (lv_at hl 0 rfl) ?_
  refine lv_i2l (v := (((0 : Int32)).toInt64)) hx hb dX12_digest_211 rfl ?_
  refine fb_gOL (cs := []) (rs := [fb_o12 za zr (upd fr_e0 19 (0 : Int32)), fb_aw cI (zr 0) 16205 (fr_m (fun _ => 0) 0), fb_aw cI x1 17 (upd (upd (upd (upd (upd (upd (upd (upd (upd (upd (upd (upd (upd (upd (upd (upd (upd (fun _ => 0) 0 (0 : Int32)) 1 (0 : Int32)) 2 (255 : Int32)) 3 (4 : Int32)) 4 (0 : Int32)) 5 (0 : Int32)) 6 (0 : Int32)) 7 (0 : Int32)) 8 (0 : Int32)) 9 (0 : Int32)) 10 (0 : Int32)) 11 (0 : Int32)) 12 (0 : Int32)) 13 (0 : Int32)) 14 (0 : Int32)) 15 (0 : Int32)) 16 (0 : Int32))]) X I [0, 1, 2] 3 rfl (by decide +kernel) rfl rfl (fun I => fb_rS (As := [.long (f_X12_add_ (f_X12_add_ (f_X12_add_ (f_X12_add_ (58008 : Int64) (((0 : Int32)).toInt64)) (((0 : Int32)).toInt64)) (((255 : Int32)).toInt64)) (((4 : Int32)).toInt64)), .long (((0 : Int32)).toInt64)]) (rest := []) X hl (fb_goodS fw_2788 fw_2789 fw_204 fw_2790) (c_X12_add_ l D cI cJ (f_X12_add_ (f_X12_add_ (f_X12_add_ (f_X12_add_ (58008 : Int64) (((0 : Int32)).toInt64)) (((0 : Int32)).toInt64)) (((255 : Int32)).toInt64)) (((4 : Int32)).toInt64)) (((0 : Int32)).toInt64) _) rfl rfl (by decide +kernel : fb_hd yX12_add_ 2) ⟨Nat.le_of_ble_eq_true rfl, Nat.le_of_ble_eq_true rfl⟩ rfl rfl (Nat.le_of_ble_eq_true rfl) ⟨Nat.le_of_ble_eq_true rfl, Nat.le_of_ble_eq_true rfl⟩ dX12_digest_212 I) ?_
  refine lv_lstore_n (lv' := [(2, .long (f_X12_add_ (f_X12_add_ (f_X12_add_ (f_X12_add_ (f_X12_add_ (58008 : Int64) (((0 : Int32)).toInt64)) (((0 : Int32)).toInt64)) (((255 : Int32)).toInt64)) (((4 : Int32)).toInt64)) (((0 : Int32)).toInt64))), (7, .int (0 : Int32)), (6, .int (4 : Int32)), (5, .int (17 : Int32)), (4, .ref x1), (1, .ref x1), (0, .ref za)]) hx hb dX12_digest_215 rfl hl (by decide) rfl (fun ls hl => ?_)
  refine lv_iinc (v := (5 : Int32)) (lv' := [(6, .int (5 : Int32)), (2, .long (f_X12_add_ (f_X12_add_ (f_X12_add_ (f_X12_add_ (f_X12_add_ (58008 : Int64) (((0 : Int32)).toInt64)) (((0 : Int32)).toInt64)) (((255 : Int32)).toInt64)) (((4 : Int32)).toInt64)) (((0 : Int32)).toInt64))), (7, .int (0 : Int32)), (5, .int (17 : Int32)), (4, .ref x1), (1, .ref x1), (0, .ref za)]) hx hb dX12_digest_216 hl (k := 2) rfl (by decide) (by decide) rfl (fun ls hl => ?_)
  refine lv_goto (tgt := 194) hx hb dX12_digest_219 (by decide) ?_
  refine lv_iload hx hb dX12_digest_194 (lv_at hl 0 rfl) ?_
  refine lv_iload hx hb dX12_digest_196 (lv_at hl 3 rfl) ?_
  refine lv_icmp_ge (tgt := 222) hx hb dX12_digest_198 (by decide) (fun c7 => absurd c7 (by decide)) (fun _ => ?_)
  refine lv_aload hx hb dX12_digest_201 (lv_at hl 4 rfl) ?_
  refine lv_iload hx hb dX12_digest_203 (lv_at hl 0 rfl) ?_
  refine fb_iaC (n := 5) (v := (0 : Int32)) X I 2 0 rfl rfl (by decide) (by decide) (Nat.le_of_ble_eq_true rfl) ((pk_un (by decide)).trans ((pk_un (by decide)).trans ((pk_un (by decide)).trans ((pk_un (by decide)).trans ((pk_un (by decide)).trans ((pk_un (by decide)).trans ((pk_un (by decide)).trans ((pk_un (by decide)).trans ((pk_un (by decide)).trans ((pk_un (by decide)).trans ((pk_un (by decide)).trans pk_us))))))))))) dX12_digest_205 ?_
  refine lv_istore (lv' := [(7, .int (0 : Int32)), (6, .int (5 : Int32)), (2, .long (f_X12_add_ (f_X12_add_ (f_X12_add_ (f_X12_add_ (f_X12_add_ (58008 : Int64) (((0 : Int32)).toInt64)) (((0 : Int32)).toInt64)) (((255 : Int32)).toInt64)) (((4 : Int32)).toInt64)) (((0 : Int32)).toInt64))), (5, .int (17 : Int32)), (4, .ref x1), (1, .ref x1), (0, .ref za)]) hx hb dX12_digest_206 hl (by decide) rfl (fun ls hl => ?_)
  refine lv_lload_n hx hb dX12_digest_208 rfl (lv_at hl 2 rfl) ?_
  refine lv_iload hx hb dX12_digest_209 (lv_at hl 0 rfl) ?_
  refine lv_i2l (v := (((0 : Int32)).toInt64)) hx hb dX12_digest_211 rfl ?_
  refine fb_gOL (cs := []) (rs := [fb_o12 za zr (upd fr_e0 19 (0 : Int32)), fb_aw cI (zr 0) 16205 (fr_m (fun _ => 0) 0), fb_aw cI x1 17 (upd (upd (upd (upd (upd (upd (upd (upd (upd (upd (upd (upd (upd (upd (upd (upd (upd (fun _ => 0) 0 (0 : Int32)) 1 (0 : Int32)) 2 (255 : Int32)) 3 (4 : Int32)) 4 (0 : Int32)) 5 (0 : Int32)) 6 (0 : Int32)) 7 (0 : Int32)) 8 (0 : Int32)) 9 (0 : Int32)) 10 (0 : Int32)) 11 (0 : Int32)) 12 (0 : Int32)) 13 (0 : Int32)) 14 (0 : Int32)) 15 (0 : Int32)) 16 (0 : Int32))]) X I [0, 1, 2] 3 rfl (by decide +kernel) rfl rfl (fun I => fb_rS (As := [.long (f_X12_add_ (f_X12_add_ (f_X12_add_ (f_X12_add_ (f_X12_add_ (58008 : Int64) (((0 : Int32)).toInt64)) (((0 : Int32)).toInt64)) (((255 : Int32)).toInt64)) (((4 : Int32)).toInt64)) (((0 : Int32)).toInt64)), .long (((0 : Int32)).toInt64)]) (rest := []) X hl (fb_goodS fw_2788 fw_2789 fw_204 fw_2790) (c_X12_add_ l D cI cJ (f_X12_add_ (f_X12_add_ (f_X12_add_ (f_X12_add_ (f_X12_add_ (58008 : Int64) (((0 : Int32)).toInt64)) (((0 : Int32)).toInt64)) (((255 : Int32)).toInt64)) (((4 : Int32)).toInt64)) (((0 : Int32)).toInt64)) (((0 : Int32)).toInt64) _) rfl rfl (by decide +kernel : fb_hd yX12_add_ 2) ⟨Nat.le_of_ble_eq_true rfl, Nat.le_of_ble_eq_true rfl⟩ rfl rfl (Nat.le_of_ble_eq_true rfl) ⟨Nat.le_of_ble_eq_true rfl, Nat.le_of_ble_eq_true rfl⟩ dX12_digest_212 I) ?_
  refine lv_lstore_n (lv' := [(2, .long (f_X12_add_ (f_X12_add_ (f_X12_add_ (f_X12_add_ (f_X12_add_ (f_X12_add_ (58008 : Int64) (((0 : Int32)).toInt64)) (((0 : Int32)).toInt64)) (((255 : Int32)).toInt64)) (((4 : Int32)).toInt64)) (((0 : Int32)).toInt64)) (((0 : Int32)).toInt64))), (7, .int (0 : Int32)), (6, .int (5 : Int32)), (5, .int (17 : Int32)), (4, .ref x1), (1, .ref x1), (0, .ref za)]) hx hb dX12_digest_215 rfl hl (by decide) rfl (fun ls hl => ?_)
  refine lv_iinc (v := (6 : Int32)) (lv' := [(6, .int (6 : Int32)), (2, .long (f_X12_add_ (f_X12_add_ (f_X12_add_ (f_X12_add_ (f_X12_add_ (f_X12_add_ (58008 : Int64) (((0 : Int32)).toInt64)) (((0 : Int32)).toInt64)) (((255 : Int32)).toInt64)) (((4 : Int32)).toInt64)) (((0 : Int32)).toInt64)) (((0 : Int32)).toInt64))), (7, .int (0 : Int32)), (5, .int (17 : Int32)), (4, .ref x1), (1, .ref x1), (0, .ref za)]) hx hb dX12_digest_216 hl (k := 2) rfl (by decide) (by decide) rfl (fun ls hl => ?_)
  refine lv_goto (tgt := 194) hx hb dX12_digest_219 (by decide) ?_
  refine lv_iload hx hb dX12_digest_194 (lv_at hl 0 rfl) ?_
  refine lv_iload hx hb dX12_digest_196 (lv_at hl 3 rfl) ?_
  refine lv_icmp_ge (tgt := 222) hx hb dX12_digest_198 (by decide) (fun c8 => absurd c8 (by decide)) (fun _ => ?_)
  refine lv_aload hx hb dX12_digest_201 (lv_at hl 4 rfl) ?_
  refine lv_iload hx hb dX12_digest_203 (lv_at hl 0 rfl) ?_
  refine fb_iaC (n := 6) (v := (0 : Int32)) X I 2 0 rfl rfl (by decide) (by decide) (Nat.le_of_ble_eq_true rfl) ((pk_un (by decide)).trans ((pk_un (by decide)).trans ((pk_un (by decide)).trans ((pk_un (by decide)).trans ((pk_un (by decide)).trans ((pk_un (by decide)).trans ((pk_un (by decide)).trans ((pk_un (by decide)).trans ((pk_un (by decide)).trans ((pk_un (by decide)).trans pk_us)))))))))) dX12_digest_205 ?_
  refine lv_istore (lv' := [(7, .int (0 : Int32)), (6, .int (6 : Int32)), (2, .long (f_X12_add_ (f_X12_add_ (f_X12_add_ (f_X12_add_ (f_X12_add_ (f_X12_add_ (58008 : Int64) (((0 : Int32)).toInt64)) (((0 : Int32)).toInt64)) (((255 : Int32)).toInt64)) (((4 : Int32)).toInt64)) (((0 : Int32)).toInt64)) (((0 : Int32)).toInt64))), (5, .int (17 : Int32)), (4, .ref x1), (1, .ref x1), (0, .ref za)]) hx hb dX12_digest_206 hl (by decide) rfl (fun ls hl => ?_)
  refine lv_lload_n hx hb dX12_digest_208 rfl (lv_at hl 2 rfl) ?_
  refine lv_iload hx hb dX12_digest_209 (lv_at hl 0 rfl) ?_
  refine lv_i2l (v := (((0 : Int32)).toInt64)) hx hb dX12_digest_211 rfl ?_
  refine fb_gOL (cs := []) (rs := [fb_o12 za zr (upd fr_e0 19 (0 : Int32)), fb_aw cI (zr 0) 16205 (fr_m (fun _ => 0) 0), fb_aw cI x1 17 (upd (upd (upd (upd (upd (upd (upd (upd (upd (upd (upd (upd (upd (upd (upd (upd (upd (fun _ => 0) 0 (0 : Int32)) 1 (0 : Int32)) 2 (255 : Int32)) 3 (4 : Int32)) 4 (0 : Int32)) 5 (0 : Int32)) 6 (0 : Int32)) 7 (0 : Int32)) 8 (0 : Int32)) 9 (0 : Int32)) 10 (0 : Int32)) 11 (0 : Int32)) 12 (0 : Int32)) 13 (0 : Int32)) 14 (0 : Int32)) 15 (0 : Int32)) 16 (0 : Int32))]) X I [0, 1, 2] 3 rfl (by decide +kernel) rfl rfl (fun I => fb_rS (As := [.long (f_X12_add_ (f_X12_add_ (f_X12_add_ (f_X12_add_ (f_X12_add_ (f_X12_add_ (58008 : Int64) (((0 : Int32)).toInt64)) (((0 : Int32)).toInt64)) (((255 : Int32)).toInt64)) (((4 : Int32)).toInt64)) (((0 : Int32)).toInt64)) (((0 : Int32)).toInt64)), .long (((0 : Int32)).toInt64)]) (rest := []) X hl (fb_goodS fw_2788 fw_2789 fw_204 fw_2790) (c_X12_add_ l D cI cJ (f_X12_add_ (f_X12_add_ (f_X12_add_ (f_X12_add_ (f_X12_add_ (f_X12_add_ (58008 : Int64) (((0 : Int32)).toInt64)) (((0 : Int32)).toInt64)) (((255 : Int32)).toInt64)) (((4 : Int32)).toInt64)) (((0 : Int32)).toInt64)) (((0 : Int32)).toInt64)) (((0 : Int32)).toInt64) _) rfl rfl (by decide +kernel : fb_hd yX12_add_ 2) ⟨Nat.le_of_ble_eq_true rfl, Nat.le_of_ble_eq_true rfl⟩ rfl rfl (Nat.le_of_ble_eq_true rfl) ⟨Nat.le_of_ble_eq_true rfl, Nat.le_of_ble_eq_true rfl⟩ dX12_digest_212 I) ?_
  refine lv_lstore_n (lv' := [(2, .long (f_X12_add_ (f_X12_add_ (f_X12_add_ (f_X12_add_ (f_X12_add_ (f_X12_add_ (f_X12_add_ (58008 : Int64) (((0 : Int32)).toInt64)) (((0 : Int32)).toInt64)) (((255 : Int32)).toInt64)) (((4 : Int32)).toInt64)) (((0 : Int32)).toInt64)) (((0 : Int32)).toInt64)) (((0 : Int32)).toInt64))), (7, .int (0 : Int32)), (6, .int (6 : Int32)), (5, .int (17 : Int32)), (4, .ref x1), (1, .ref x1), (0, .ref za)]) hx hb dX12_digest_215 rfl hl (by decide) rfl (fun ls hl => ?_)
  refine lv_iinc (v := (7 : Int32)) (lv' := [(6, .int (7 : Int32)), (2, .long (f_X12_add_ (f_X12_add_ (f_X12_add_ (f_X12_add_ (f_X12_add_ (f_X12_add_ (f_X12_add_ (58008 : Int64) (((0 : Int32)).toInt64)) (((0 : Int32)).toInt64)) (((255 : Int32)).toInt64)) (((4 : Int32)).toInt64)) (((0 : Int32)).toInt64)) (((0 : Int32)).toInt64)) (((0 : Int32)).toInt64))), (7, .int (0 : Int32)), (5, .int (17 : Int32)), (4, .ref x1), (1, .ref x1), (0, .ref za)]) hx hb dX12_digest_216 hl (k := 2) rfl (by decide) (by decide) rfl (fun ls hl => ?_)
  refine lv_goto (tgt := 194) hx hb dX12_digest_219 (by decide) ?_
  refine lv_iload hx hb dX12_digest_194 (lv_at hl 0 rfl) ?_
  refine lv_iload hx hb dX12_digest_196 (lv_at hl 3 rfl) ?_
  refine lv_icmp_ge (tgt := 222) hx hb dX12_digest_198 (by decide) (fun c9 => absurd c9 (by decide)) (fun _ => ?_)
  refine lv_aload hx hb dX12_digest_201 (lv_at hl 4 rfl) ?_
  refine lv_iload hx hb dX12_digest_203 (lv_at hl 0 rfl) ?_
  refine fb_iaC (n := 7) (v := (0 : Int32)) X I 2 0 rfl rfl (by decide) (by decide) (Nat.le_of_ble_eq_true rfl) ((pk_un (by decide)).trans ((pk_un (by decide)).trans ((pk_un (by decide)).trans ((pk_un (by decide)).trans ((pk_un (by decide)).trans ((pk_un (by decide)).trans ((pk_un (by decide)).trans ((pk_un (by decide)).trans ((pk_un (by decide)).trans pk_us))))))))) dX12_digest_205 ?_
  refine lv_istore (lv' := [(7, .int (0 : Int32)), (6, .int (7 : Int32)), (2, .long (f_X12_add_ (f_X12_add_ (f_X12_add_ (f_X12_add_ (f_X12_add_ (f_X12_add_ (f_X12_add_ (58008 : Int64) (((0 : Int32)).toInt64)) (((0 : Int32)).toInt64)) (((255 : Int32)).toInt64)) (((4 : Int32)).toInt64)) (((0 : Int32)).toInt64)) (((0 : Int32)).toInt64)) (((0 : Int32)).toInt64))), (5, .int (17 : Int32)), (4, .ref x1), (1, .ref x1), (0, .ref za)]) hx hb dX12_digest_206 hl (by decide) rfl (fun ls hl => ?_)
  refine lv_lload_n hx hb dX12_digest_208 rfl (lv_at hl 2 rfl) ?_
  refine lv_iload hx hb dX12_digest_209 (lv_at hl 0 rfl) ?_
  refine lv_i2l (v := (((0 : Int32)).toInt64)) hx hb dX12_digest_211 rfl ?_
  refine fb_gOL (cs := []) (rs := [fb_o12 za zr (upd fr_e0 19 (0 : Int32)), fb_aw cI (zr 0) 16205 (fr_m (fun _ => 0) 0), fb_aw cI x1 17 (upd (upd (upd (upd (upd (upd (upd (upd (upd (upd (upd (upd (upd (upd (upd (upd (upd (fun _ => 0) 0 (0 : Int32)) 1 (0 : Int32)) 2 (255 : Int32)) 3 (4 : Int32)) 4 (0 : Int32)) 5 (0 : Int32)) 6 (0 : Int32)) 7 (0 : Int32)) 8 (0 : Int32)) 9 (0 : Int32)) 10 (0 : Int32)) 11 (0 : Int32)) 12 (0 : Int32)) 13 (0 : Int32)) 14 (0 : Int32)) 15 (0 : Int32)) 16 (0 : Int32))]) X I [0, 1, 2] 3 rfl (by decide +kernel) rfl rfl (fun I => fb_rS (As := [.long (f_X12_add_ (f_X12_add_ (f_X12_add_ (f_X12_add_ (f_X12_add_ (f_X12_add_ (f_X12_add_ (58008 : Int64) (((0 : Int32)).toInt64)) (((0 : Int32)).toInt64)) (((255 : Int32)).toInt64)) (((4 : Int32)).toInt64)) (((0 : Int32)).toInt64)) (((0 : Int32)).toInt64)) (((0 : Int32)).toInt64)), .long (((0 : Int32)).toInt64)]) (rest := []) X hl (fb_goodS fw_2788 fw_2789 fw_204 fw_2790) (c_X12_add_ l D cI cJ (f_X12_add_ (f_X12_add_ (f_X12_add_ (f_X12_add_ (f_X12_add_ (f_X12_add_ (f_X12_add_ (58008 : Int64) (((0 : Int32)).toInt64)) (((0 : Int32)).toInt64)) (((255 : Int32)).toInt64)) (((4 : Int32)).toInt64)) (((0 : Int32)).toInt64)) (((0 : Int32)).toInt64)) (((0 : Int32)).toInt64)) (((0 : Int32)).toInt64) _) rfl rfl (by decide +kernel : fb_hd yX12_add_ 2) ⟨Nat.le_of_ble_eq_true rfl, Nat.le_of_ble_eq_true rfl⟩ rfl rfl (Nat.le_of_ble_eq_true rfl) ⟨Nat.le_of_ble_eq_true rfl, Nat.le_of_ble_eq_true rfl⟩ dX12_digest_212 I) ?_
  refine lv_lstore_n (lv' := [(2, .long (f_X12_add_ (f_X12_add_ (f_X12_add_ (f_X12_add_ (f_X12_add_ (f_X12_add_ (f_X12_add_ (f_X12_add_ (58008 : Int64) (((0 : Int32)).toInt64)) (((0 : Int32)).toInt64)) (((255 : Int32)).toInt64)) (((4 : Int32)).toInt64)) (((0 : Int32)).toInt64)) (((0 : Int32)).toInt64)) (((0 : Int32)).toInt64)) (((0 : Int32)).toInt64))), (7, .int (0 : Int32)), (6, .int (7 : Int32)), (5, .int (17 : Int32)), (4, .ref x1), (1, .ref x1), (0, .ref za)]) hx hb dX12_digest_215 rfl hl (by decide) rfl (fun ls hl => ?_)
  refine lv_iinc (v := (8 : Int32)) (lv' := [(6, .int (8 : Int32)), (2, .long (f_X12_add_ (f_X12_add_ (f_X12_add_ (f_X12_add_ (f_X12_add_ (f_X12_add_ (f_X12_add_ (f_X12_add_ (58008 : Int64) (((0 : Int32)).toInt64)) (((0 : Int32)).toInt64)) (((255 : Int32)).toInt64)) (((4 : Int32)).toInt64)) (((0 : Int32)).toInt64)) (((0 : Int32)).toInt64)) (((0 : Int32)).toInt64)) (((0 : Int32)).toInt64))), (7, .int (0 : Int32)), (5, .int (17 : Int32)), (4, .ref x1), (1, .ref x1), (0, .ref za)]) hx hb dX12_digest_216 hl (k := 2) rfl (by decide) (by decide) rfl (fun ls hl => ?_)
  refine lv_goto (tgt := 194) hx hb dX12_digest_219 (by decide) ?_
  refine lv_iload hx hb dX12_digest_194 (lv_at hl 0 rfl) ?_
  refine lv_iload hx hb dX12_digest_196 (lv_at hl 3 rfl) ?_
  refine lv_icmp_ge (tgt := 222) hx hb dX12_digest_198 (by decide) (fun c10 => absurd c10 (by decide)) (fun _ => ?_)
  refine lv_aload hx hb dX12_digest_201 (lv_at hl 4 rfl) ?_
  refine lv_iload hx hb dX12_digest_203 (lv_at hl 0 rfl) ?_
  refine fb_iaC (n := 8) (v := (0 : Int32)) X I 2 0 rfl rfl (by decide) (by decide) (Nat.le_of_ble_eq_true rfl) ((pk_un (by decide)).trans ((pk_un (by decide)).trans ((pk_un (by decide)).trans ((pk_un (by decide)).trans ((pk_un (by decide)).trans ((pk_un (by decide)).trans ((pk_un (by decide)).trans ((pk_un (by decide)).trans pk_us)))))))) dX12_digest_205 ?_
  refine lv_istore (lv' := [(7, .int (0 : Int32)), (6, .int (8 : Int32)), (2, .long (f_X12_add_ (f_X12_add_ (f_X12_add_ (f_X12_add_ (f_X12_add_ (f_X12_add_ (f_X12_add_ (f_X12_add_ (58008 : Int64) (((0 : Int32)).toInt64)) (((0 : Int32)).toInt64)) (((255 : Int32)).toInt64)) (((4 : Int32)).toInt64)) (((0 : Int32)).toInt64)) (((0 : Int32)).toInt64)) (((0 : Int32)).toInt64)) (((0 : Int32)).toInt64))), (5, .int (17 : Int32)), (4, .ref x1), (1, .ref x1), (0, .ref za)]) hx hb dX12_digest_206 hl (by decide) rfl (fun ls hl => ?_)
  refine lv_lload_n hx hb dX12_digest_208 rfl (lv_at hl 2 rfl) ?_
  refine lv_iload hx hb dX12_digest_209 (lv_at hl 0 rfl) ?_
  refine lv_i2l (v := (((0 : Int32)).toInt64)) hx hb dX12_digest_211 rfl ?_
  refine fb_gOL (cs := []) (rs := [fb_o12 za zr (upd fr_e0 19 (0 : Int32)), fb_aw cI (zr 0) 16205 (fr_m (fun _ => 0) 0), fb_aw cI x1 17 (upd (upd (upd (upd (upd (upd (upd (upd (upd (upd (upd (upd (upd (upd (upd (upd (upd (fun _ => 0) 0 (0 : Int32)) 1 (0 : Int32)) 2 (255 : Int32)) 3 (4 : Int32)) 4 (0 : Int32)) 5 (0 : Int32)) 6 (0 : Int32)) 7 (0 : Int32)) 8 (0 : Int32)) 9 (0 : Int32)) 10 (0 : Int32)) 11 (0 : Int32)) 12 (0 : Int32)) 13 (0 : Int32)) 14 (0 : Int32)) 15 (0 : Int32)) 16 (0 : Int32))]) X I [0, 1, 2] 3 rfl (by decide +kernel) rfl rfl (fun I => fb_rS (As := [.long (f_X12_add_ (f_X12_add_ (f_X12_add_ (f_X12_add_ (f_X12_add_ (f_X12_add_ (f_X12_add_ (f_X12_add_ (58008 : Int64) (((0 : Int32)).toInt64)) (((0 : Int32)).toInt64)) (((255 : Int32)).toInt64)) (((4 : Int32)).toInt64)) (((0 : Int32)).toInt64)) (((0 : Int32)).toInt64)) (((0 : Int32)).toInt64)) (((0 : Int32)).toInt64)), .long (((0 : Int32)).toInt64)]) (rest := []) X hl (fb_goodS fw_2788 fw_2789 fw_204 fw_2790) (c_X12_add_ l D cI cJ (f_X12_add_ (f_X12_add_ (f_X12_add_ (f_X12_add_ (f_X12_add_ (f_X12_add_ (f_X12_add_ (f_X12_add_ (58008 : Int64) (((0 : Int32)).toInt64)) (((0 : Int32)).toInt64)) (((255 : Int32)).toInt64)) (((4 : Int32)).toInt64)) (((0 : Int32)).toInt64)) (((0 : Int32)).toInt64)) (((0 : Int32)).toInt64)) (((0 : Int32)).toInt64)) (((0 : Int32)).toInt64) _) rfl rfl (by decide +kernel : fb_hd yX12_add_ 2) ⟨Nat.le_of_ble_eq_true rfl, Nat.le_of_ble_eq_true rfl⟩ rfl rfl (Nat.le_of_ble_eq_true rfl) ⟨Nat.le_of_ble_eq_true rfl, Nat.le_of_ble_eq_true rfl⟩ dX12_digest_212 I) ?_
  refine lv_lstore_n (lv' := [(2, .long (f_X12_add_ (f_X12_add_ (f_X12_add_ (f_X12_add_ (f_X12_add_ (f_X12_add_ (f_X12_add_ (f_X12_add_ (f_X12_add_ (58008 : Int64) (((0 : Int32)).toInt64)) (((0 : Int32)).toInt64)) (((255 : Int32)).toInt64)) (((4 : Int32)).toInt64)) (((0 : Int32)).toInt64)) (((0 : Int32)).toInt64)) (((0 : Int32)).toInt64)) (((0 : Int32)).toInt64)) (((0 : Int32)).toInt64))), (7, .int (0 : Int32)), (6, .int (8 : Int32)), (5, .int (17 : Int32)), (4, .ref x1), (1, .ref x1), (0, .ref za)]) hx hb dX12_digest_215 rfl hl (by decide) rfl (fun ls hl => ?_)
  refine lv_iinc (v := (9 : Int32)) (lv' := [(6, .int (9 : Int32)), (2, .long (f_X12_add_ (f_X12_add_ (f_X12_add_ (f_X12_add_ (f_X12_add_ (f_X12_add_ (f_X12_add_ (f_X12_add_ (f_X12_add_ (58008 : Int64) (((0 : Int32)).toInt64)) (((0 : Int32)).toInt64)) (((255 : Int32)).toInt64)) (((4 : Int32)).toInt64)) (((0 : Int32)).toInt64)) (((0 : Int32)).toInt64)) (((0 : Int32)).toInt64)) (((0 : Int32)).toInt64)) (((0 : Int32)).toInt64))), (7, .int (0 : Int32)), (5, .int (17 : Int32)), (4, .ref x1), (1, .ref x1), (0, .ref za)]) hx hb dX12_digest_216 hl (k := 2) rfl (by decide) (by decide) rfl (fun ls hl => ?_)
  refine lv_goto (tgt := 194) hx hb dX12_digest_219 (by decide) ?_
  refine lv_iload hx hb dX12_digest_194 (lv_at hl 0 rfl) ?_
  refine lv_iload hx hb dX12_digest_196 (lv_at hl 3 rfl) ?_
  refine lv_icmp_ge (tgt := 222) hx hb dX12_digest_198 (by decide) (fun c11 => absurd c11 (by decide)) (fun _ => ?_)
  refine lv_aload hx hb dX12_digest_201 (lv_at hl 4 rfl) ?_
  refine lv_iload hx hb dX12_digest_203 (lv_at hl 0 rfl) ?_
  refine fb_iaC (n := 9) (v := (0 : Int32)) X I 2 0 rfl rfl (by decide) (by decide) (Nat.le_of_ble_eq_true rfl) ((pk_un (by decide)).trans ((pk_un (by decide)).trans ((pk_un (by decide)).trans ((pk_un (by decide)).trans ((pk_un (by decide)).trans ((pk_un (by decide)).trans ((pk_un (by decide)).trans pk_us))))))) dX12_digest_205 ?_
  refine lv_istore (lv' := [(7, .int (0 : Int32)), (6, .int (9 : Int32)), (2, .long (f_X12_add_ (f_X12_add_ (f_X12_add_ (f_X12_add_ (f_X12_add_ (f_X12_add_ (f_X12_add_ (f_X12_add_ (f_X12_add_ (58008 : Int64) (((0 : Int32)).toInt64)) (((0 : Int32)).toInt64)) (((255 : Int32)).toInt64)) (((4 : Int32)).toInt64)) (((0 : Int32)).toInt64)) (((0 : Int32)).toInt64)) (((0 : Int32)).toInt64)) (((0 : Int32)).toInt64)) (((0 : Int32)).toInt64))), (5, .int (17 : Int32)), (4, .ref x1), (1, .ref x1), (0, .ref za)]) hx hb dX12_digest_206 hl (by decide) rfl (fun ls hl => ?_)
  refine lv_lload_n hx hb dX12_digest_208 rfl (lv_at hl 2 rfl) ?_
  refine lv_iload hx hb dX12_digest_209 (lv_at hl 0 rfl) ?_
  refine lv_i2l (v := (((0 : Int32)).toInt64)) hx hb dX12_digest_211 rfl ?_
  refine fb_gOL (cs := []) (rs := [fb_o12 za zr (upd fr_e0 19 (0 : Int32)), fb_aw cI (zr 0) 16205 (fr_m (fun _ => 0) 0), fb_aw cI x1 17 (upd (upd (upd (upd (upd (upd (upd (upd (upd (upd (upd (upd (upd (upd (upd (upd (upd (fun _ => 0) 0 (0 : Int32)) 1 (0 : Int32)) 2 (255 : Int32)) 3 (4 : Int32)) 4 (0 : Int32)) 5 (0 : Int32)) 6 (0 : Int32)) 7 (0 : Int32)) 8 (0 : Int32)) 9 (0 : Int32)) 10 (0 : Int32)) 11 (0 : Int32)) 12 (0 : Int32)) 13 (0 : Int32)) 14 (0 : Int32)) 15 (0 : Int32)) 16 (0 : Int32))]) X I [0, 1, 2] 3 rfl (by decide +kernel) rfl rfl (fun I => fb_rS (As := [.long (f_X12_add_ (f_X12_add_ (f_X12_add_ (f_X12_add_ (f_X12_add_ (f_X12_add_ (f_X12_add_ (f_X12_add_ (f_X12_add_ (58008 : Int64) (((0 : Int32)).toInt64)) (((0 : Int32)).toInt64)) (((255 : Int32)).toInt64)) (((4 : Int32)).toInt64)) (((0 : Int32)).toInt64)) (((0 : Int32)).toInt64)) (((0 : Int32)).toInt64)) (((0 : Int32)).toInt64)) (((0 : Int32)).toInt64)), .long (((0 : Int32)).toInt64)]) (rest := []) X hl (fb_goodS fw_2788 fw_2789 fw_204 fw_2790) (c_X12_add_ l D cI cJ (f_X12_add_ (f_X12_add_ (f_X12_add_ (f_X12_add_ (f_X12_add_ (f_X12_add_ (f_X12_add_ (f_X12_add_ (f_X12_add_ (58008 : Int64) (((0 : Int32)).toInt64)) (((0 : Int32)).toInt64)) (((255 : Int32)).toInt64)) (((4 : Int32)).toInt64)) (((0 : Int32)).toInt64)) (((0 : Int32)).toInt64)) (((0 : Int32)).toInt64)) (((0 : Int32)).toInt64)) (((0 : Int32)).toInt64)) (((0 : Int32)).toInt64) _) rfl rfl (by decide +kernel : fb_hd yX12_add_ 2) ⟨Nat.le_of_ble_eq_true rfl, Nat.le_of_ble_eq_true rfl⟩ rfl rfl (Nat.le_of_ble_eq_true rfl) ⟨Nat.le_of_ble_eq_true rfl, Nat.le_of_ble_eq_true rfl⟩ dX12_digest_212 I) ?_
  refine lv_lstore_n (lv' := [(2, .long (f_X12_add_ (f_X12_add_ (f_X12_add_ (f_X12_add_ (f_X12_add_ (f_X12_add_ (f_X12_add_ (f_X12_add_ (f_X12_add_ (f_X12_add_ (58008 : Int64) (((0 : Int32)).toInt64)) (((0 : Int32)).toInt64)) (((255 : Int32)).toInt64)) (((4 : Int32)).toInt64)) (((0 : Int32)).toInt64)) (((0 : Int32)).toInt64)) (((0 : Int32)).toInt64)) (((0 : Int32)).toInt64)) (((0 : Int32)).toInt64)) (((0 : Int32)).toInt64))), (7, .int (0 : Int32)), (6, .int (9 : Int32)), (5, .int (17 : Int32)), (4, .ref x1), (1, .ref x1), (0, .ref za)]) hx hb dX12_digest_215 rfl hl (by decide) rfl (fun ls hl => ?_)
  refine lv_iinc (v := (10 : Int32)) (lv' := [(6, .int (10 : Int32)), (2, .long (f_X12_add_ (f_X12_add_ (f_X12_add_ (f_X12_add_ (f_X12_add_ (f_X12_add_ (f_X12_add_ (f_X12_add_ (f_X12_add_ (f_X12_add_ (58008 : Int64) (((0 : Int32)).toInt64)) (((0 : Int32)).toInt64)) (((255 : Int32)).toInt64)) (((4 : Int32)).toInt64)) (((0 : Int32)).toInt64)) (((0 : Int32)).toInt64)) (((0 : Int32)).toInt64)) (((0 : Int32)).toInt64)) (((0 : Int32)).toInt64)) (((0 : Int32)).toInt64))), (7, .int (0 : Int32)), (5, .int (17 : Int32)), (4, .ref x1), (1, .ref x1), (0, .ref za)]) hx hb dX12_digest_216 hl (k := 2) rfl (by decide) (by decide) rfl (fun ls hl => ?_)
  refine lv_goto (tgt := 194) hx hb dX12_digest_219 (by decide) ?_
  refine lv_iload hx hb dX12_digest_194 (lv_at hl 0 rfl) ?_
  refine lv_iload hx hb dX12_digest_196 (lv_at hl 3 rfl) ?_
  refine lv_icmp_ge (tgt := 222) hx hb dX12_digest_198 (by decide) (fun c12 => absurd c12 (by decide)) (fun _ => ?_)
  refine lv_aload hx hb dX12_digest_201 (lv_at hl 4 rfl) ?_
  refine lv_iload hx hb dX12_digest_203 (lv_at hl 0 rfl) ?_
  refine fb_iaC (n := 10) (v := (0 : Int32)) X I 2 0 rfl rfl (by decide) (by decide) (Nat.le_of_ble_eq_true rfl) ((pk_un (by decide)).trans ((pk_un (by decide)).trans ((pk_un (by decide)).trans ((pk_un (by decide)).trans ((pk_un (by decide)).trans ((pk_un (by decide)).trans pk_us)))))) dX12_digest_205 ?_
  refine lv_istore (lv' := [(7, .int (0 : Int32)), (6, .int (10 : Int32)), (2, .long (f_X12_add_ (f_X12_add_ (f_X12_add_ (f_X12_add_ (f_X12_add_ (f_X12_add_ (f_X12_add_ (f_X12_add_ (f_X12_add_ (f_X12_add_ (58008 : Int64) (((0 : Int32)).toInt64)) (((0 : Int32)).toInt64)) (((255 : Int32)).toInt64)) (((4 : Int32)).toInt64)) (((0 : Int32)).toInt64)) (((0 : Int32)).toInt64)) (((0 : Int32)).toInt64)) (((0 : Int32)).toInt64)) (((0 : Int32)).toInt64)) (((0 : Int32)).toInt64))), (5, .int (17 : Int32)), (4, .ref x1), (1, .ref x1), (0, .ref za)]) hx hb dX12_digest_206 hl (by decide) rfl (fun ls hl => ?_)
  refine lv_lload_n hx hb dX12_digest_208 rfl (lv_at hl 2 rfl) ?_
  refine lv_iload hx hb dX12_digest_209 (lv_at hl 0 rfl) ?_
  refine lv_i2l (v := (((0 : Int32)).toInt64)) hx hb dX12_digest_211 rfl ?_
  refine fb_gOL (cs := []) (rs := [fb_o12 za zr (upd fr_e0 19 (0 : Int32)), fb_aw cI (zr 0) 16205 (fr_m (fun _ => 0) 0), fb_aw cI x1 17 (upd (upd (upd (upd (upd (upd (upd (upd (upd (upd (upd (upd (upd (upd (upd (upd (upd (fun _ => 0) 0 (0 : Int32)) 1 (0 : Int32)) 2 (255 : Int32)) 3 (4 : Int32)) 4 (0 : Int32)) 5 (0 : Int32)) 6 (0 : Int32)) 7 (0 : Int32)) 8 (0 : Int32)) 9 (0 : Int32)) 10 (0 : Int32)) 11 (0 : Int32)) 12 (0 : Int32)) 13 (0 : Int32)) 14 (0 : Int32)) 15 (0 : Int32)) 16 (0 : Int32))]) X I [0, 1, 2] 3 rfl (by decide +kernel) rfl rfl (fun I => fb_rS (As := [.long (f_X12_add_ (f_X12_add_ (f_X12_add_ (f_X12_add_ (f_X12_add_ (f_X12_add_ (f_X12_add_ (f_X12_add_ (f_X12_add_ (f_X12_add_ (58008 : Int64) (((0 : Int32)).toInt64)) (((0 : Int32)).toInt64)) (((255 : Int32)).toInt64)) (((4 : Int32)).toInt64)) (((0 : Int32)).toInt64)) (((0 : Int32)).toInt64)) (((0 : Int32)).toInt64)) (((0 : Int32)).toInt64)) (((0 : Int32)).toInt64)) (((0 : Int32)).toInt64)), .long (((0 : Int32)).toInt64)]) (rest := []) X hl (fb_goodS fw_2788 fw_2789 fw_204 fw_2790) (c_X12_add_ l D cI cJ (f_X12_add_ (f_X12_add_ (f_X12_add_ (f_X12_add_ (f_X12_add_ (f_X12_add_ (f_X12_add_ (f_X12_add_ (f_X12_add_ (f_X12_add_ (58008 : Int64) (((0 : Int32)).toInt64)) (((0 : Int32)).toInt64)) (((255 : Int32)).toInt64)) (((4 : Int32)).toInt64)) (((0 : Int32)).toInt64)) (((0 : Int32)).toInt64)) (((0 : Int32)).toInt64)) (((0 : Int32)).toInt64)) (((0 : Int32)).toInt64)) (((0 : Int32)).toInt64)) (((0 : Int32)).toInt64) _) rfl rfl (by decide +kernel : fb_hd yX12_add_ 2) ⟨Nat.le_of_ble_eq_true rfl, Nat.le_of_ble_eq_true rfl⟩ rfl rfl (Nat.le_of_ble_eq_true rfl) ⟨Nat.le_of_ble_eq_true rfl, Nat.le_of_ble_eq_true rfl⟩ dX12_digest_212 I) ?_
  refine lv_lstore_n (lv' := [(2, .long (f_X12_add_ (f_X12_add_ (f_X12_add_ (f_X12_add_ (f_X12_add_ (f_X12_add_ (f_X12_add_ (f_X12_add_ (f_X12_add_ (f_X12_add_ (f_X12_add_ (58008 : Int64) (((0 : Int32)).toInt64)) (((0 : Int32)).toInt64)) (((255 : Int32)).toInt64)) (((4 : Int32)).toInt64)) (((0 : Int32)).toInt64)) (((0 : Int32)).toInt64)) (((0 : Int32)).toInt64)) (((0 : Int32)).toInt64)) (((0 : Int32)).toInt64)) (((0 : Int32)).toInt64)) (((0 : Int32)).toInt64))), (7, .int (0 : Int32)), (6, .int (10 : Int32)), (5, .int (17 : Int32)), (4, .ref x1), (1, .ref x1), (0, .ref za)]) hx hb dX12_digest_215 rfl hl (by decide) rfl (fun ls hl => ?_)
  refine lv_iinc (v := (11 : Int32)) (lv' := [(6, .int (11 : Int32)), (2, .long (f_X12_add_ (f_X12_add_ (f_X12_add_ (f_X12_add_ (f_X12_add_ (f_X12_add_ (f_X12_add_ (f_X12_add_ (f_X12_add_ (f_X12_add_ (f_X12_add_ (58008 : Int64) (((0 : Int32)).toInt64)) (((0 : Int32)).toInt64)) (((255 : Int32)).toInt64)) (((4 : Int32)).toInt64)) (((0 : Int32)).toInt64)) (((0 : Int32)).toInt64)) (((0 : Int32)).toInt64)) (((0 : Int32)).toInt64)) (((0 : Int32)).toInt64)) (((0 : Int32)).toInt64)) (((0 : Int32)).toInt64))), (7, .int (0 : Int32)), (5, .int (17 : Int32)), (4, .ref x1), (1, .ref x1), (0, .ref za)]) hx hb dX12_digest_216 hl (k := 2) rfl (by decide) (by decide) rfl (fun ls hl => ?_)
  refine lv_goto (tgt := 194) hx hb dX12_digest_219 (by decide) ?_
  refine lv_iload hx hb dX12_digest_194 (lv_at hl 0 rfl) ?_
  refine lv_iload hx hb dX12_digest_196 (lv_at hl 3 rfl) ?_
  refine lv_icmp_ge (tgt := 222) hx hb dX12_digest_198 (by decide) (fun c13 => absurd c13 (by decide)) (fun _ => ?_)
  refine lv_aload hx hb dX12_digest_201 (lv_at hl 4 rfl) ?_
  refine lv_iload hx hb dX12_digest_203 (lv_at hl 0 rfl) ?_
  refine fb_iaC (n := 11) (v := (0 : Int32)) X I 2 0 rfl rfl (by decide) (by decide) (Nat.le_of_ble_eq_true rfl) ((pk_un (by decide)).trans ((pk_un (by decide)).trans ((pk_un (by decide)).trans ((pk_un (by decide)).trans ((pk_un (by decide)).trans pk_us))))) dX12_digest_205 ?_
  refine lv_istore (lv' := [(7, .int (0 : Int32)), (6, .int (11 : Int32)), (2, .long (f_X12_add_ (f_X12_add_ (f_X12_add_ (f_X12_add_ (f_X12_add_ (f_X12_add_ (f_X12_add_ (f_X12_add_ (f_X12_add_ (f_X12_add_ (f_X12_add_ (58008 : Int64) (((0 : Int32)).toInt64)) (((0 : Int32)).toInt64)) (((255 : Int32)).toInt64)) (((4 : Int32)).toInt64)) (((0 : Int32)).toInt64)) (((0 : Int32)).toInt64)) (((0 : Int32)).toInt64)) (((0 : Int32)).toInt64)) (((0 : Int32)).toInt64)) (((0 : Int32)).toInt64)) (((0 : Int32)).toInt64))), (5, .int (17 : Int32)), (4, .ref x1), (1, .ref x1), (0, .ref za)]) hx hb dX12_digest_206 hl (by decide) rfl (fun ls hl => ?_)
  refine lv_lload_n hx hb dX12_digest_208 rfl (lv_at hl 2 rfl) ?_
  refine lv_iload hx hb dX12_digest_209 (lv_at hl 0 rfl) ?_
  refine lv_i2l (v := (((0 : Int32)).toInt64)) hx hb dX12_digest_211 rfl ?_
  refine fb_gOL (cs := []) (rs := [fb_o12 za zr (upd fr_e0 19 (0 : Int32)), fb_aw cI (zr 0) 16205 (fr_m (fun _ => 0) 0), fb_aw cI x1 17 (upd (upd (upd (upd (upd (upd (upd (upd (upd (upd (upd (upd (upd (upd (upd (upd (upd (fun _ => 0) 0 (0 : Int32)) 1 (0 : Int32)) 2 (255 : Int32)) 3 (4 : Int32)) 4 (0 : Int32)) 5 (0 : Int32)) 6 (0 : Int32)) 7 (0 : Int32)) 8 (0 : Int32)) 9 (0 : Int32)) 10 (0 : Int32)) 11 (0 : Int32)) 12 (0 : Int32)) 13 (0 : Int32)) 14 (0 : Int32)) 15 (0 : Int32)) 16 (0 : Int32))]) X I [0, 1, 2] 3 rfl (by decide +kernel) rfl rfl (fun I => fb_rS (As := [.long (f_X12_add_ (f_X12_add_ (f_X12_add_ (f_X12_add_ (f_X12_add_ (f_X12_add_ (f_X12_add_ (f_X12_add_ (f_X12_add_ (f_X12_add_ (f_X12_add_ (58008 : Int64) (((0 : Int32)).toInt64)) (((0 : Int32)).toInt64)) (((255 : Int32)).toInt64)) (((4 : Int32)).toInt64)) (((0 : Int32)).toInt64)) (((0 : Int32)).toInt64)) (((0 : Int32)).toInt64)) (((0 : Int32)).toInt64)) (((0 : Int32)).toInt64)) (((0 : Int32)).toInt64)) (((0 : Int32)).toInt64)), .long (((0 : Int32)).toInt64)]) (rest := []) X hl (fb_goodS fw_2788 fw_2789 fw_204 fw_2790) (c_X12_add_ l D cI cJ (f_X12_add_ (f_X12_add_ (f_X12_add_ (f_X12_add_ (f_X12_add_ (f_X12_add_ (f_X12_add_ (f_X12_add_ (f_X12_add_ (f_X12_add_ (f_X12_add_ (58008 : Int64) (((0 : Int32)).toInt64)) (((0 : Int32)).toInt64)) (((255 : Int32)).toInt64)) (((4 : Int32)).toInt64)) (((0 : Int32)).toInt64)) (((0 : Int32)).toInt64)) (((0 : Int32)).toInt64)) (((0 : Int32)).toInt64)) (((0 : Int32)).toInt64)) (((0 : Int32)).toInt64)) (((0 : Int32)).toInt64)) (((0 : Int32)).toInt64) _) rfl rfl (by decide +kernel : fb_hd yX12_add_ 2) ⟨Nat.le_of_ble_eq_true rfl, Nat.le_of_ble_eq_true rfl⟩ rfl rfl (Nat.le_of_ble_eq_true rfl) ⟨Nat.le_of_ble_eq_true rfl, Nat.le_of_ble_eq_true rfl⟩ dX12_digest_212 I) ?_
  refine lv_lstore_n (lv' := [(2, .long (f_X12_add_ (f_X12_add_ (f_X12_add_ (f_X12_add_ (f_X12_add_ (f_X12_add_ (f_X12_add_ (f_X12_add_ (f_X12_add_ (f_X12_add_ (f_X12_add_ (f_X12_add_ (58008 : Int64) (((0 : Int32)).toInt64)) (((0 : Int32)).toInt64)) (((255 : Int32)).toInt64)) (((4 : Int32)).toInt64)) (((0 : Int32)).toInt64)) (((0 : Int32)).toInt64)) (((0 : Int32)).toInt64)) (((0 : Int32)).toInt64)) (((0 : Int32)).toInt64)) (((0 : Int32)).toInt64)) (((0 : Int32)).toInt64)) (((0 : Int32)).toInt64))), (7, .int (0 : Int32)), (6, .int (11 : Int32)), (5, .int (17 : Int32)), (4, .ref x1), (1, .ref x1), (0, .ref za)]) hx hb dX12_digest_215 rfl hl (by decide) rfl (fun ls hl => ?_)
  refine lv_iinc (v := (12 : Int32)) (lv' := [(6, .int (12 : Int32)), (2, .long (f_X12_add_ (f_X12_add_ (f_X12_add_ (f_X12_add_ (f_X12_add_ (f_X12_add_ (f_X12_add_ (f_X12_add_ (f_X12_add_ (f_X12_add_ (f_X12_add_ (f_X12_add_ (58008 : Int64) (((0 : Int32)).toInt64)) (((0 : Int32)).toInt64)) (((255 : Int32)).toInt64)) (((4 : Int32)).toInt64)) (((0 : Int32)).toInt64)) (((0 : Int32)).toInt64)) (((0 : Int32)).toInt64)) (((0 : Int32)).toInt64)) (((0 : Int32)).toInt64)) (((0 : Int32)).toInt64)) (((0 : Int32)).toInt64)) (((0 : Int32)).toInt64))), (7, .int (0 : Int32)), (5, .int (17 : Int32)), (4, .ref x1), (1, .ref x1), (0, .ref za)]) hx hb dX12_digest_216 hl (k := 2) rfl (by decide) (by decide) rfl (fun ls hl => ?_)
  refine lv_goto (tgt := 194) hx hb dX12_digest_219 (by decide) ?_
  refine lv_iload hx hb dX12_digest_194 (lv_at hl 0 rfl) ?_
  refine lv_iload hx hb dX12_digest_196 (lv_at hl 3 rfl) ?_
  refine lv_icmp_ge (tgt := 222) hx hb dX12_digest_198 (by decide) (fun c14 => absurd c14 (by decide)) (fun _ => ?_)
  refine lv_aload hx hb dX12_digest_201 (lv_at hl 4 rfl) ?_
  refine lv_iload hx hb dX12_digest_203 (lv_at hl 0 rfl) ?_
  refine fb_iaC (n := 12) (v := (0 : Int32)) X I 2 0 rfl rfl (by decide) (by decide) (Nat.le_of_ble_eq_true rfl) ((pk_un (by decide)).trans ((pk_un (by decide)).trans ((pk_un (by decide)).trans ((pk_un (by decide)).trans pk_us)))) dX12_digest_205 ?_
  refine lv_istore (lv' := [(7, .int (0 : Int32)), (6, .int (12 : Int32)), (2, .long (f_X12_add_ (f_X12_add_ (f_X12_add_ (f_X12_add_ (f_X12_add_ (f_X12_add_ (f_X12_add_ (f_X12_add_ (f_X12_add_ (f_X12_add_ (f_X12_add_ (f_X12_add_ (58008 : Int64) (((0 : Int32)).toInt64)) (((0 : Int32)).toInt64)) (((255 : Int32)).toInt64)) (((4 : Int32)).toInt64)) (((0 : Int32)).toInt64)) (((0 : Int32)).toInt64)) (((0 : Int32)).toInt64)) (((0 : Int32)).toInt64)) (((0 : Int32)).toInt64)) (((0 : Int32)).toInt64)) (((0 : Int32)).toInt64)) (((0 : Int32)).toInt64))), (5, .int (17 : Int32)), (4, .ref x1), (1, .ref x1), (0, .ref za)]) hx hb dX12_digest_206 hl (by decide) rfl (fun ls hl => ?_)
  refine lv_lload_n hx hb dX12_digest_208 rfl (lv_at hl 2 rfl) ?_
  refine lv_iload hx hb dX12_digest_209 (lv_at hl 0 rfl) ?_
  refine lv_i2l (v := (((0 : Int32)).toInt64)) hx hb dX12_digest_211 rfl ?_
  refine fb_gOL (cs := []) (rs := [fb_o12 za zr (upd fr_e0 19 (0 : Int32)), fb_aw cI (zr 0) 16205 (fr_m (fun _ => 0) 0), fb_aw cI x1 17 (upd (upd (upd (upd (upd (upd (upd (upd (upd (upd (upd (upd (upd (upd (upd (upd (upd (fun _ => 0) 0 (0 : Int32)) 1 (0 : Int32)) 2 (255 : Int32)) 3 (4 : Int32)) 4 (0 : Int32)) 5 (0 : Int32)) 6 (0 : Int32)) 7 (0 : Int32)) 8 (0 : Int32)) 9 (0 : Int32)) 10 (0 : Int32)) 11 (0 : Int32)) 12 (0 : Int32)) 13 (0 : Int32)) 14 (0 : Int32)) 15 (0 : Int32)) 16 (0 : Int32))]) X I [0, 1, 2] 3 rfl (by decide +kernel) rfl rfl (fun I => fb_rS (As := [.long (f_X12_add_ (f_X12_add_ (f_X12_add_ (f_X12_add_ (f_X12_add_ (f_X12_add_ (f_X12_add_ (f_X12_add_ (f_X12_add_ (f_X12_add_ (f_X12_add_ (f_X12_add_ (58008 : Int64) (((0 : Int32)).toInt64)) (((0 : Int32)).toInt64)) (((255 : Int32)).toInt64)) (((4 : Int32)).toInt64)) (((0 : Int32)).toInt64)) (((0 : Int32)).toInt64)) (((0 : Int32)).toInt64)) (((0 : Int32)).toInt64)) (((0 : Int32)).toInt64)) (((0 : Int32)).toInt64)) (((0 : Int32)).toInt64)) (((0 : Int32)).toInt64)), .long (((0 : Int32)).toInt64)]) (rest := []) X hl (fb_goodS fw_2788 fw_2789 fw_204 fw_2790) (c_X12_add_ l D cI cJ (f_X12_add_ (f_X12_add_ (f_X12_add_ (f_X12_add_ (f_X12_add_ (f_X12_add_ (f_X12_add_ (f_X12_add_ (f_X12_add_ (f_X12_add_ (f_X12_add_ (f_X12_add_ (58008 : Int64) (((0 : Int32)).toInt64)) (((0 : Int32)).toInt64)) (((255 : Int32)).toInt64)) (((4 : Int32)).toInt64)) (((0 : Int32)).toInt64)) (((0 : Int32)).toInt64)) (((0 : Int32)).toInt64)) (((0 : Int32)).toInt64)) (((0 : Int32)).toInt64)) (((0 : Int32)).toInt64)) (((0 : Int32)).toInt64)) (((0 : Int32)).toInt64)) (((0 : Int32)).toInt64) _) rfl rfl (by decide +kernel : fb_hd yX12_add_ 2) ⟨Nat.le_of_ble_eq_true rfl, Nat.le_of_ble_eq_true rfl⟩ rfl rfl (Nat.le_of_ble_eq_true rfl) ⟨Nat.le_of_ble_eq_true rfl, Nat.le_of_ble_eq_true rfl⟩ dX12_digest_212 I) ?_
  refine lv_lstore_n (lv' := [(2, .long (f_X12_add_ (f_X12_add_ (f_X12_add_ (f_X12_add_ (f_X12_add_ (f_X12_add_ (f_X12_add_ (f_X12_add_ (f_X12_add_ (f_X12_add_ (f_X12_add_ (f_X12_add_ (f_X12_add_ (58008 : Int64) (((0 : Int32)).toInt64)) (((0 : Int32)).toInt64)) (((255 : Int32)).toInt64)) (((4 : Int32)).toInt64)) (((0 : Int32)).toInt64)) (((0 : Int32)).toInt64)) (((0 : Int32)).toInt64)) (((0 : Int32)).toInt64)) (((0 : Int32)).toInt64)) (((0 : Int32)).toInt64)) (((0 : Int32)).toInt64)) (((0 : Int32)).toInt64)) (((0 : Int32)).toInt64))), (7, .int (0 : Int32)), (6, .int (12 : Int32)), (5, .int (17 : Int32)), (4, .ref x1), (1, .ref x1), (0, .ref za)]) hx hb dX12_digest_215 rfl hl (by decide) rfl (fun ls hl => ?_)
  refine lv_iinc (v := (13 : Int32)) (lv' := [(6, .int (13 : Int32)), (2, .long (f_X12_add_ (f_X12_add_ (f_X12_add_ (f_X12_add_ (f_X12_add_ (f_X12_add_ (f_X12_add_ (f_X12_add_ (f_X12_add_ (f_X12_add_ (f_X12_add_ (f_X12_add_ (f_X12_add_ (58008 : Int64) (((0 : Int32)).toInt64)) (((0 : Int32)).toInt64)) (((255 : Int32)).toInt64)) (((4 : Int32)).toInt64)) (((0 : Int32)).toInt64)) (((0 : Int32)).toInt64)) (((0 : Int32)).toInt64)) (((0 : Int32)).toInt64)) (((0 : Int32)).toInt64)) (((0 : Int32)).toInt64)) (((0 : Int32)).toInt64)) (((0 : Int32)).toInt64)) (((0 : Int32)).toInt64))), (7, .int (0 : Int32)), (5, .int (17 : Int32)), (4, .ref x1), (1, .ref x1), (0, .ref za)]) hx hb dX12_digest_216 hl (k := 2) rfl (by decide) (by decide) rfl (fun ls hl => ?_)
  refine lv_goto (tgt := 194) hx hb dX12_digest_219 (by decide) ?_
  refine lv_iload hx hb dX12_digest_194 (lv_at hl 0 rfl) ?_
  refine lv_iload hx hb dX12_digest_196 (lv_at hl 3 rfl) ?_
  refine lv_icmp_ge (tgt := 222) hx hb dX12_digest_198 (by decide) (fun c15 => absurd c15 (by decide)) (fun _ => ?_)
  refine lv_aload hx hb dX12_digest_201 (lv_at hl 4 rfl) ?_
  refine lv_iload hx hb dX12_digest_203 (lv_at hl 0 rfl) ?_
  refine fb_iaC (n := 13) (v := (0 : Int32)) X I 2 0 rfl rfl (by decide) (by decide) (Nat.le_of_ble_eq_true rfl) ((pk_un (by decide)).trans ((pk_un (by decide)).trans ((pk_un (by decide)).trans pk_us))) dX12_digest_205 ?_
  refine lv_istore (lv' := [(7, .int (0 : Int32)), (6, .int (13 : Int32)), (2, .long (f_X12_add_ (f_X12_add_ (f_X12_add_ (f_X12_add_ (f_X12_add_ (f_X12_add_ (f_X12_add_ (f_X12_add_ (f_X12_add_ (f_X12_add_ (f_X12_add_ (f_X12_add_ (f_X12_add_ (58008 : Int64) (((0 : Int32)).toInt64)) (((0 : Int32)).toInt64)) (((255 : Int32)).toInt64)) (((4 : Int32)).toInt64)) (((0 : Int32)).toInt64)) (((0 : Int32)).toInt64)) (((0 : Int32)).toInt64)) (((0 : Int32)).toInt64)) (((0 : Int32)).toInt64)) (((0 : Int32)).toInt64)) (((0 : Int32)).toInt64)) (((0 : Int32)).toInt64)) (((0 : Int32)).toInt64))), (5, .int (17 : Int32)), (4, .ref x1), (1, .ref x1), (0, .ref za)]) hx hb dX12_digest_206 hl (by decide) rfl (fun ls hl => ?_)
  refine lv_lload_n hx hb dX12_digest_208 rfl (lv_at hl 2 rfl) ?_
  refine lv_iload hx hb dX12_digest_209 (lv_at hl 0 rfl) ?_
  refine lv_i2l (v := (((0 : Int32)).toInt64)) hx hb dX12_digest_211 rfl ?_
  refine fb_gOL (cs := []) (rs := [fb_o12 za zr (upd fr_e0 19 (0 : Int32)), fb_aw cI (zr 0) 16205 (fr_m (fun _ => 0) 0), fb_aw cI x1 17 (upd (upd (upd (upd (upd (upd (upd (upd (upd (upd (upd (upd (upd (upd (upd (upd (upd (fun _ => 0) 0 (0 : Int32)) 1 (0 : Int32)) 2 (255 : Int32)) 3 (4 : Int32)) 4 (0 : Int32)) 5 (0 : Int32)) 6 (0 : Int32)) 7 (0 : Int32)) 8 (0 : Int32)) 9 (0 : Int32)) 10 (0 : Int32)) 11 (0 : Int32)) 12 (0 : Int32)) 13 (0 : Int32)) 14 (0 : Int32)) 15 (0 : Int32)) 16 (0 : Int32))]) X I [0, 1, 2] 3 rfl (by decide +kernel) rfl rfl (fun I => fb_rS (As := [.long (f_X12_add_ (f_X12_add_ (f_X12_add_ (f_X12_add_ (f_X12_add_ (f_X12_add_ (f_X12_add_ (f_X12_add_ (f_X12_add_ (f_X12_add_ (f_X12_add_ (f_X12_add_ (f_X12_add_ (58008 : Int64) (((0 : Int32)).toInt64)) (((0 : Int32)).toInt64)) (((255 : Int32)).toInt64)) (((4 : Int32)).toInt64)) (((0 : Int32)).toInt64)) (((0 : Int32)).toInt64)) (((0 : Int32)).toInt64)) (((0 : Int32)).toInt64)) (((0 : Int32)).toInt64)) (((0 : Int32)).toInt64)) (((0 : Int32)).toInt64)) (((0 : Int32)).toInt64)) (((0 : Int32)).toInt64)), .long (((0 : Int32)).toInt64)]) (rest := []) X hl (fb_goodS fw_2788 fw_2789 fw_204 fw_2790) (c_X12_add_ l D cI cJ (f_X12_add_ (f_X12_add_ (f_X12_add_ (f_X12_add_ (f_X12_add_ (f_X12_add_ (f_X12_add_ (f_X12_add_ (f_X12_add_ (f_X12_add_ (f_X12_add_ (f_X12_add_ (f_X12_add_ (58008 : Int64) (((0 : Int32)).toInt64)) (((0 : Int32)).toInt64)) (((255 : Int32)).toInt64)) (((4 : Int32)).toInt64)) (((0 : Int32)).toInt64)) (((0 : Int32)).toInt64)) (((0 : Int32)).toInt64)) (((0 : Int32)).toInt64)) (((0 : Int32)).toInt64)) (((0 : Int32)).toInt64)) (((0 : Int32)).toInt64)) (((0 : Int32)).toInt64)) (((0 : Int32)).toInt64)) (((0 : Int32)).toInt64) _) rfl rfl (by decide +kernel : fb_hd yX12_add_ 2) ⟨Nat.le_of_ble_eq_true rfl, Nat.le_of_ble_eq_true rfl⟩ rfl rfl (Nat.le_of_ble_eq_true rfl) ⟨Nat.le_of_ble_eq_true rfl, Nat.le_of_ble_eq_true rfl⟩ dX12_digest_212 I) ?_
  refine lv_lstore_n (lv' := [(2, .long (f_X12_add_ (f_X12_add_ (f_X12_add_ (f_X12_add_ (f_X12_add_ (f_X12_add_ (f_X12_add_ (f_X12_add_ (f_X12_add_ (f_X12_add_ (f_X12_add_ (f_X12_add_ (f_X12_add_ (f_X12_add_ (58008 : Int64) (((0 : Int32)).toInt64)) (((0 : Int32)).toInt64)) (((255 : Int32)).toInt64)) (((4 : Int32)).toInt64)) (((0 : Int32)).toInt64)) (((0 : Int32)).toInt64)) (((0 : Int32)).toInt64)) (((0 : Int32)).toInt64)) (((0 : Int32)).toInt64)) (((0 : Int32)).toInt64)) (((0 : Int32)).toInt64)) (((0 : Int32)).toInt64)) (((0 : Int32)).toInt64)) (((0 : Int32)).toInt64))), (7, .int (0 : Int32)), (6, .int (13 : Int32)), (5, .int (17 : Int32)), (4, .ref x1), (1, .ref x1), (0, .ref za)]) hx hb dX12_digest_215 rfl hl (by decide) rfl (fun ls hl => ?_)
  refine lv_iinc (v := (14 : Int32)) (lv' := [(6, .int (14 : Int32)), (2, .long (f_X12_add_ (f_X12_add_ (f_X12_add_ (f_X12_add_ (f_X12_add_ (f_X12_add_ (f_X12_add_ (f_X12_add_ (f_X12_add_ (f_X12_add_ (f_X12_add_ (f_X12_add_ (f_X12_add_ (f_X12_add_ (58008 : Int64) (((0 : Int32)).toInt64)) (((0 : Int32)).toInt64)) (((255 : Int32)).toInt64)) (((4 : Int32)).toInt64)) (((0 : Int32)).toInt64)) (((0 : Int32)).toInt64)) (((0 : Int32)).toInt64)) (((0 : Int32)).toInt64)) (((0 : Int32)).toInt64)) (((0 : Int32)).toInt64)) (((0 : Int32)).toInt64)) (((0 : Int32)).toInt64)) (((0 : Int32)).toInt64)) (((0 : Int32)).toInt64))), (7, .int (0 : Int32)), (5, .int (17 : Int32)), (4, .ref x1), (1, .ref x1), (0, .ref za)]) hx hb dX12_digest_216 hl (k := 2) rfl (by decide) (by decide) rfl (fun ls hl => ?_)
  refine lv_goto (tgt := 194) hx hb dX12_digest_219 (by decide) ?_
  refine lv_iload hx hb dX12_digest_194 (lv_at hl 0 rfl) ?_
  refine lv_iload hx hb dX12_digest_196 (lv_at hl 3 rfl) ?_
  refine lv_icmp_ge (tgt := 222) hx hb dX12_digest_198 (by decide) (fun c16 => absurd c16 (by decide)) (fun _ => ?_)
  refine lv_aload hx hb dX12_digest_201 (lv_at hl 4 rfl) ?_
  refine lv_iload hx hb dX12_digest_203 (lv_at hl 0 rfl) ?_
  refine fb_iaC (n := 14) (v := (0 : Int32)) X I 2 0 rfl rfl (by decide) (by decide) (Nat.le_of_ble_eq_true rfl) ((pk_un (by decide)).trans ((pk_un (by decide)).trans pk_us)) dX12_digest_205 ?_
  refine lv_istore (lv' := [(7, .int (0 : Int32)), (6, .int (14 : Int32)), (2, .long (f_X12_add_ (f_X12_add_ (f_X12_add_ (f_X12_add_ (f_X12_add_ (f_X12_add_ (f_X12_add_ (f_X12_add_ (f_X12_add_ (f_X12_add_ (f_X12_add_ (f_X12_add_ (f_X12_add_ (f_X12_add_ (58008 : Int64) (((0 : Int32)).toInt64)) (((0 : Int32)).toInt64)) (((255 : Int32)).toInt64)) (((4 : Int32)).toInt64)) (((0 : Int32)).toInt64)) (((0 : Int32)).toInt64)) (((0 : Int32)).toInt64)) (((0 : Int32)).toInt64)) (((0 : Int32)).toInt64)) (((0 : Int32)).toInt64)) (((0 : Int32)).toInt64)) (((0 : Int32)).toInt64)) (((0 : Int32)).toInt64)) (((0 : Int32)).toInt64))), (5, .int (17 : Int32)), (4, .ref x1), (1, .ref x1), (0, .ref za)]) hx hb dX12_digest_206 hl (by decide) rfl (fun ls hl => ?_)
  refine lv_lload_n hx hb dX12_digest_208 rfl (lv_at hl 2 rfl) ?_
  refine lv_iload hx hb dX12_digest_209 (lv_at hl 0 rfl) ?_
  refine lv_i2l (v := (((0 : Int32)).toInt64)) hx hb dX12_digest_211 rfl ?_
  refine fb_gOL (cs := []) (rs := [fb_o12 za zr (upd fr_e0 19 (0 : Int32)), fb_aw cI (zr 0) 16205 (fr_m (fun _ => 0) 0), fb_aw cI x1 17 (upd (upd (upd (upd (upd (upd (upd (upd (upd (upd (upd (upd (upd (upd (upd (upd (upd (fun _ => 0) 0 (0 : Int32)) 1 (0 : Int32)) 2 (255 : Int32)) 3 (4 : Int32)) 4 (0 : Int32)) 5 (0 : Int32)) 6 (0 : Int32)) 7 (0 : Int32)) 8 (0 : Int32)) 9 (0 : Int32)) 10 (0 : Int32)) 11 (0 : Int32)) 12 (0 : Int32)) 13 (0 : Int32)) 14 (0 : Int32)) 15 (0 : Int32)) 16 (0 : Int32))]) X I [0, 1, 2] 3 rfl (by decide +kernel) rfl rfl (fun I => fb_rS (As := [.long (f_X12_add_ (f_X12_add_ (f_X12_add_ (f_X12_add_ (f_X12_add_ (f_X12_add_ (f_X12_add_ (f_X12_add_ (f_X12_add_ (f_X12_add_ (f_X12_add_ (f_X12_add_ (f_X12_add_ (f_X12_add_ (58008 : Int64) (((0 : Int32)).toInt64)) (((0 : Int32)).toInt64)) (((255 : Int32)).toInt64)) (((4 : Int32)).toInt64)) (((0 : Int32)).toInt64)) (((0 : Int32)).toInt64)) (((0 : Int32)).toInt64)) (((0 : Int32)).toInt64)) (((0 : Int32)).toInt64)) (((0 : Int32)).toInt64)) (((0 : Int32)).toInt64)) (((0 : Int32)).toInt64)) (((0 : Int32)).toInt64)) (((0 : Int32)).toInt64)), .long (((0 : Int32)).toInt64)]) (rest := []) X hl (fb_goodS fw_2788 fw_2789 fw_204 fw_2790) (c_X12_add_ l D cI cJ (f_X12_add_ (f_X12_add_ (f_X12_add_ (f_X12_add_ (f_X12_add_ (f_X12_add_ (f_X12_add_ (f_X12_add_ (f_X12_add_ (f_X12_add_ (f_X12_add_ (f_X12_add_ (f_X12_add_ (f_X12_add_ (58008 : Int64) (((0 : Int32)).toInt64)) (((0 : Int32)).toInt64)) (((255 : Int32)).toInt64)) (((4 : Int32)).toInt64)) (((0 : Int32)).toInt64)) (((0 : Int32)).toInt64)) (((0 : Int32)).toInt64)) (((0 : Int32)).toInt64)) (((0 : Int32)).toInt64)) (((0 : Int32)).toInt64)) (((0 : Int32)).toInt64)) (((0 : Int32)).toInt64)) (((0 : Int32)).toInt64)) (((0 : Int32)).toInt64)) (((0 : Int32)).toInt64) _) rfl rfl (by decide +kernel : fb_hd yX12_add_ 2) ⟨Nat.le_of_ble_eq_true rfl, Nat.le_of_ble_eq_true rfl⟩ rfl rfl (Nat.le_of_ble_eq_true rfl) ⟨Nat.le_of_ble_eq_true rfl, Nat.le_of_ble_eq_true rfl⟩ dX12_digest_212 I) ?_
  refine lv_lstore_n (lv' := [(2, .long (f_X12_add_ (f_X12_add_ (f_X12_add_ (f_X12_add_ (f_X12_add_ (f_X12_add_ (f_X12_add_ (f_X12_add_ (f_X12_add_ (f_X12_add_ (f_X12_add_ (f_X12_add_ (f_X12_add_ (f_X12_add_ (f_X12_add_ (58008 : Int64) (((0 : Int32)).toInt64)) (((0 : Int32)).toInt64)) (((255 : Int32)).toInt64)) (((4 : Int32)).toInt64)) (((0 : Int32)).toInt64)) (((0 : Int32)).toInt64)) (((0 : Int32)).toInt64)) (((0 : Int32)).toInt64)) (((0 : Int32)).toInt64)) (((0 : Int32)).toInt64)) (((0 : Int32)).toInt64)) (((0 : Int32)).toInt64)) (((0 : Int32)).toInt64)) (((0 : Int32)).toInt64)) (((0 : Int32)).toInt64))), (7, .int (0 : Int32)), (6, .int (14 : Int32)), (5, .int (17 : Int32)), (4, .ref x1), (1, .ref x1), (0, .ref za)]) hx hb dX12_digest_215 rfl hl (by decide) rfl (fun ls hl => ?_)
  refine lv_iinc (v := (15 : Int32)) (lv' := [(6, .int (15 : Int32)), (2, .long (f_X12_add_ (f_X12_add_ (f_X12_add_ (f_X12_add_ (f_X12_add_ (f_X12_add_ (f_X12_add_ (f_X12_add_ (f_X12_add_ (f_X12_add_ (f_X12_add_ (f_X12_add_ (f_X12_add_ (f_X12_add_ (f_X12_add_ (58008 : Int64) (((0 : Int32)).toInt64)) (((0 : Int32)).toInt64)) (((255 : Int32)).toInt64)) (((4 : Int32)).toInt64)) (((0 : Int32)).toInt64)) (((0 : Int32)).toInt64)) (((0 : Int32)).toInt64)) (((0 : Int32)).toInt64)) (((0 : Int32)).toInt64)) (((0 : Int32)).toInt64)) (((0 : Int32)).toInt64)) (((0 : Int32)).toInt64)) (((0 : Int32)).toInt64)) (((0 : Int32)).toInt64)) (((0 : Int32)).toInt64))), (7, .int (0 : Int32)), (5, .int (17 : Int32)), (4, .ref x1), (1, .ref x1), (0, .ref za)]) hx hb dX12_digest_216 hl (k := 2) rfl (by decide) (by decide) rfl (fun ls hl => ?_)
  refine lv_goto (tgt := 194) hx hb dX12_digest_219 (by decide) ?_
  refine lv_iload hx hb dX12_digest_194 (lv_at hl 0 rfl) ?_
  refine lv_iload hx hb dX12_digest_196 (lv_at hl 3 rfl) ?_
  refine lv_icmp_ge (tgt := 222) hx hb dX12_digest_198 (by decide) (fun c17 => absurd c17 (by decide)) (fun _ => ?_)
  refine lv_aload hx hb dX12_digest_201 (lv_at hl 4 rfl) ?_
  refine lv_iload hx hb dX12_digest_203 (lv_at hl 0 rfl) ?_
  refine fb_iaC (n := 15) (v := (0 : Int32)) X I 2 0 rfl rfl (by decide) (by decide) (Nat.le_of_ble_eq_true rfl) ((pk_un (by decide)).trans pk_us) dX12_digest_205 ?_
  refine lv_istore (lv' := [(7, .int (0 : Int32)), (6, .int (15 : Int32)), (2, .long (f_X12_add_ (f_X12_add_ (f_X12_add_ (f_X12_add_ (f_X12_add_ (f_X12_add_ (f_X12_add_ (f_X12_add_ (f_X12_add_ (f_X12_add_ (f_X12_add_ (f_X12_add_ (f_X12_add_ (f_X12_add_ (f_X12_add_ (58008 : Int64) (((0 : Int32)).toInt64)) (((0 : Int32)).toInt64)) (((255 : Int32)).toInt64)) (((4 : Int32)).toInt64)) (((0 : Int32)).toInt64)) (((0 : Int32)).toInt64)) (((0 : Int32)).toInt64)) (((0 : Int32)).toInt64)) (((0 : Int32)).toInt64)) (((0 : Int32)).toInt64)) (((0 : Int32)).toInt64)) (((0 : Int32)).toInt64)) (((0 : Int32)).toInt64)) (((0 : Int32)).toInt64)) (((0 : Int32)).toInt64))), (5, .int (17 : Int32)), (4, .ref x1), (1, .ref x1), (0, .ref za)]) hx hb dX12_digest_206 hl (by decide) rfl (fun ls hl => ?_)
  refine lv_lload_n hx hb dX12_digest_208 rfl (lv_at hl 2 rfl) ?_
  refine lv_iload hx hb dX12_digest_209 (lv_at hl 0 rfl) ?_
  refine lv_i2l (v := (((0 : Int32)).toInt64)) hx hb dX12_digest_211 rfl ?_
  refine fb_gOL (cs := []) (rs := [fb_o12 za zr (upd fr_e0 19 (0 : Int32)), fb_aw cI (zr 0) 16205 (fr_m (fun _ => 0) 0), fb_aw cI x1 17 (upd (upd (upd (upd (upd (upd (upd (upd (upd (upd (upd (upd (upd (upd (upd (upd (upd (fun _ => 0) 0 (0 : Int32)) 1 (0 : Int32)) 2 (255 : Int32)) 3 (4 : Int32)) 4 (0 : Int32)) 5 (0 : Int32)) 6 (0 : Int32)) 7 (0 : Int32)) 8 (0 : Int32)) 9 (0 : Int32)) 10 (0 : Int32)) 11 (0 : Int32)) 12 (0 : Int32)) 13 (0 : Int32)) 14 (0 : Int32)) 15 (0 : Int32)) 16 (0 : Int32))]) X I [0, 1, 2] 3 rfl (by decide +kernel) rfl rfl (fun I => fb_rS (As := [.long (f_X12_add_ (f_X12_add_ (f_X12_add_ (f_X12_add_ (f_X12_add_ (f_X12_add_ (f_X12_add_ (f_X12_add_ (f_X12_add_ (f_X12_add_ (f_X12_add_ (f_X12_add_ (f_X12_add_ (f_X12_add_ (f_X12_add_ (58008 : Int64) (((0 : Int32)).toInt64)) (((0 : Int32)).toInt64)) (((255 : Int32)).toInt64)) (((4 : Int32)).toInt64)) (((0 : Int32)).toInt64)) (((0 : Int32)).toInt64)) (((0 : Int32)).toInt64)) (((0 : Int32)).toInt64)) (((0 : Int32)).toInt64)) (((0 : Int32)).toInt64)) (((0 : Int32)).toInt64)) (((0 : Int32)).toInt64)) (((0 : Int32)).toInt64)) (((0 : Int32)).toInt64)) (((0 : Int32)).toInt64)), .long (((0 : Int32)).toInt64)]) (rest := []) X hl (fb_goodS fw_2788 fw_2789 fw_204 fw_2790) (c_X12_add_ l D cI cJ (f_X12_add_ (f_X12_add_ (f_X12_add_ (f_X12_add_ (f_X12_add_ (f_X12_add_ (f_X12_add_ (f_X12_add_ (f_X12_add_ (f_X12_add_ (f_X12_add_ (f_X12_add_ (f_X12_add_ (f_X12_add_ (f_X12_add_ (58008 : Int64) (((0 : Int32)).toInt64)) (((0 : Int32)).toInt64)) (((255 : Int32)).toInt64)) (((4 : Int32)).toInt64)) (((0 : Int32)).toInt64)) (((0 : Int32)).toInt64)) (((0 : Int32)).toInt64)) (((0 : Int32)).toInt64)) (((0 : Int32)).toInt64)) (((0 : Int32)).toInt64)) (((0 : Int32)).toInt64)) (((0 : Int32)).toInt64)) (((0 : Int32)).toInt64)) (((0 : Int32)).toInt64)) (((0 : Int32)).toInt64)) (((0 : Int32)).toInt64) _) rfl rfl (by decide +kernel : fb_hd yX12_add_ 2) ⟨Nat.le_of_ble_eq_true rfl, Nat.le_of_ble_eq_true rfl⟩ rfl rfl (Nat.le_of_ble_eq_true rfl) ⟨Nat.le_of_ble_eq_true rfl, Nat.le_of_ble_eq_true rfl⟩ dX12_digest_212 I) ?_
  refine lv_lstore_n (lv' := [(2, .long (f_X12_add_ (f_X12_add_ (f_X12_add_ (f_X12_add_ (f_X12_add_ (f_X12_add_ (f_X12_add_ (f_X12_add_ (f_X12_add_ (f_X12_add_ (f_X12_add_ (f_X12_add_ (f_X12_add_ (f_X12_add_ (f_X12_add_ (f_X12_add_ (58008 : Int64) (((0 : Int32)).toInt64)) (((0 : Int32)).toInt64)) (((255 : Int32)).toInt64)) (((4 : Int32)).toInt64)) (((0 : Int32)).toInt64)) (((0 : Int32)).toInt64)) (((0 : Int32)).toInt64)) (((0 : Int32)).toInt64)) (((0 : Int32)).toInt64)) (((0 : Int32)).toInt64)) (((0 : Int32)).toInt64)) (((0 : Int32)).toInt64)) (((0 : Int32)).toInt64)) (((0 : Int32)).toInt64)) (((0 : Int32)).toInt64)) (((0 : Int32)).toInt64))), (7, .int (0 : Int32)), (6, .int (15 : Int32)), (5, .int (17 : Int32)), (4, .ref x1), (1, .ref x1), (0, .ref za)]) hx hb dX12_digest_215 rfl hl (by decide) rfl (fun ls hl => ?_)
  refine lv_iinc (v := (16 : Int32)) (lv' := [(6, .int (16 : Int32)), (2, .long (f_X12_add_ (f_X12_add_ (f_X12_add_ (f_X12_add_ (f_X12_add_ (f_X12_add_ (f_X12_add_ (f_X12_add_ (f_X12_add_ (f_X12_add_ (f_X12_add_ (f_X12_add_ (f_X12_add_ (f_X12_add_ (f_X12_add_ (f_X12_add_ (58008 : Int64) (((0 : Int32)).toInt64)) (((0 : Int32)).toInt64)) (((255 : Int32)).toInt64)) (((4 : Int32)).toInt64)) (((0 : Int32)).toInt64)) (((0 : Int32)).toInt64)) (((0 : Int32)).toInt64)) (((0 : Int32)).toInt64)) (((0 : Int32)).toInt64)) (((0 : Int32)).toInt64)) (((0 : Int32)).toInt64)) (((0 : Int32)).toInt64)) (((0 : Int32)).toInt64)) (((0 : Int32)).toInt64)) (((0 : Int32)).toInt64)) (((0 : Int32)).toInt64))), (7, .int (0 : Int32)), (5, .int (17 : Int32)), (4, .ref x1), (1, .ref x1), (0, .ref za)]) hx hb dX12_digest_216 hl (k := 2) rfl (by decide) (by decide) rfl (fun ls hl => ?_)
  refine lv_goto (tgt := 194) hx hb dX12_digest_219 (by decide) ?_
  refine lv_iload hx hb dX12_digest_194 (lv_at hl 0 rfl) ?_
  refine lv_iload hx hb dX12_digest_196 (lv_at hl 3 rfl) ?_
  refine lv_icmp_ge (tgt := 222) hx hb dX12_digest_198 (by decide) (fun c18 => absurd c18 (by decide)) (fun _ => ?_)
  refine lv_aload hx hb dX12_digest_201 (lv_at hl 4 rfl) ?_
  refine lv_iload hx hb dX12_digest_203 (lv_at hl 0 rfl) ?_
  refine fb_iaC (n := 16) (v := (0 : Int32)) X I 2 0 rfl rfl (by decide) (by decide) (Nat.le_of_ble_eq_true rfl) pk_us dX12_digest_205 ?_
  refine lv_istore (lv' := [(7, .int (0 : Int32)), (6, .int (16 : Int32)), (2, .long (f_X12_add_ (f_X12_add_ (f_X12_add_ (f_X12_add_ (f_X12_add_ (f_X12_add_ (f_X12_add_ (f_X12_add_ (f_X12_add_ (f_X12_add_ (f_X12_add_ (f_X12_add_ (f_X12_add_ (f_X12_add_ (f_X12_add_ (f_X12_add_ (58008 : Int64) (((0 : Int32)).toInt64)) (((0 : Int32)).toInt64)) (((255 : Int32)).toInt64)) (((4 : Int32)).toInt64)) (((0 : Int32)).toInt64)) (((0 : Int32)).toInt64)) (((0 : Int32)).toInt64)) (((0 : Int32)).toInt64)) (((0 : Int32)).toInt64)) (((0 : Int32)).toInt64)) (((0 : Int32)).toInt64)) (((0 : Int32)).toInt64)) (((0 : Int32)).toInt64)) (((0 : Int32)).toInt64)) (((0 : Int32)).toInt64)) (((0 : Int32)).toInt64))), (5, .int (17 : Int32)), (4, .ref x1), (1, .ref x1), (0, .ref za)]) hx hb dX12_digest_206 hl (by decide) rfl (fun ls hl => ?_)
  refine lv_lload_n hx hb dX12_digest_208 rfl (lv_at hl 2 rfl) ?_
  refine lv_iload hx hb dX12_digest_209 (lv_at hl 0 rfl) ?_
  refine lv_i2l (v := (((0 : Int32)).toInt64)) hx hb dX12_digest_211 rfl ?_
  refine fb_gOL (cs := []) (rs := [fb_o12 za zr (upd fr_e0 19 (0 : Int32)), fb_aw cI (zr 0) 16205 (fr_m (fun _ => 0) 0), fb_aw cI x1 17 (upd (upd (upd (upd (upd (upd (upd (upd (upd (upd (upd (upd (upd (upd (upd (upd (upd (fun _ => 0) 0 (0 : Int32)) 1 (0 : Int32)) 2 (255 : Int32)) 3 (4 : Int32)) 4 (0 : Int32)) 5 (0 : Int32)) 6 (0 : Int32)) 7 (0 : Int32)) 8 (0 : Int32)) 9 (0 : Int32)) 10 (0 : Int32)) 11 (0 : Int32)) 12 (0 : Int32)) 13 (0 : Int32)) 14 (0 : Int32)) 15 (0 : Int32)) 16 (0 : Int32))]) X I [0, 1, 2] 3 rfl (by decide +kernel) rfl rfl (fun I => fb_rS (As := [.long (f_X12_add_ (f_X12_add_ (f_X12_add_ (f_X12_add_ (f_X12_add_ (f_X12_add_ (f_X12_add_ (f_X12_add_ (f_X12_add_ (f_X12_add_ (f_X12_add_ (f_X12_add_ (f_X12_add_ (f_X12_add_ (f_X12_add_ (f_X12_add_ (58008 : Int64) (((0 : Int32)).toInt64)) (((0 : Int32)).toInt64)) (((255 : Int32)).toInt64)) (((4 : Int32)).toInt64)) (((0 : Int32)).toInt64)) (((0 : Int32)).toInt64)) (((0 : Int32)).toInt64)) (((0 : Int32)).toInt64)) (((0 : Int32)).toInt64)) (((0 : Int32)).toInt64)) (((0 : Int32)).toInt64)) (((0 : Int32)).toInt64)) (((0 : Int32)).toInt64)) (((0 : Int32)).toInt64)) (((0 : Int32)).toInt64)) (((0 : Int32)).toInt64)), .long (((0 : Int32)).toInt64)]) (rest := []) X hl (fb_goodS fw_2788 fw_2789 fw_204 fw_2790) (c_X12_add_ l D cI cJ (f_X12_add_ (f_X12_add_ (f_X12_add_ (f_X12_add_ (f_X12_add_ (f_X12_add_ (f_X12_add_ (f_X12_add_ (f_X12_add_ (f_X12_add_ (f_X12_add_ (f_X12_add_ (f_X12_add_ (f_X12_add_ (f_X12_add_ (f_X12_add_ (58008 : Int64) (((0 : Int32)).toInt64)) (((0 : Int32)).toInt64)) (((255 : Int32)).toInt64)) (((4 : Int32)).toInt64)) (((0 : Int32)).toInt64)) (((0 : Int32)).toInt64)) (((0 : Int32)).toInt64)) (((0 : Int32)).toInt64)) (((0 : Int32)).toInt64)) (((0 : Int32)).toInt64)) (((0 : Int32)).toInt64)) (((0 : Int32)).toInt64)) (((0 : Int32)).toInt64)) (((0 : Int32)).toInt64)) (((0 : Int32)).toInt64)) (((0 : Int32)).toInt64)) (((0 : Int32)).toInt64) _) rfl rfl (by decide +kernel : fb_hd yX12_add_ 2) ⟨Nat.le_of_ble_eq_true rfl, Nat.le_of_ble_eq_true rfl⟩ rfl rfl (Nat.le_of_ble_eq_true rfl) ⟨Nat.le_of_ble_eq_true rfl, Nat.le_of_ble_eq_true rfl⟩ dX12_digest_212 I) ?_
  refine lv_lstore_n (lv' := [(2, .long (f_X12_add_ (f_X12_add_ (f_X12_add_ (f_X12_add_ (f_X12_add_ (f_X12_add_ (f_X12_add_ (f_X12_add_ (f_X12_add_ (f_X12_add_ (f_X12_add_ (f_X12_add_ (f_X12_add_ (f_X12_add_ (f_X12_add_ (f_X12_add_ (f_X12_add_ (58008 : Int64) (((0 : Int32)).toInt64)) (((0 : Int32)).toInt64)) (((255 : Int32)).toInt64)) (((4 : Int32)).toInt64)) (((0 : Int32)).toInt64)) (((0 : Int32)).toInt64)) (((0 : Int32)).toInt64)) (((0 : Int32)).toInt64)) (((0 : Int32)).toInt64)) (((0 : Int32)).toInt64)) (((0 : Int32)).toInt64)) (((0 : Int32)).toInt64)) (((0 : Int32)).toInt64)) (((0 : Int32)).toInt64)) (((0 : Int32)).toInt64)) (((0 : Int32)).toInt64)) (((0 : Int32)).toInt64))), (7, .int (0 : Int32)), (6, .int (16 : Int32)), (5, .int (17 : Int32)), (4, .ref x1), (1, .ref x1), (0, .ref za)]) hx hb dX12_digest_215 rfl hl (by decide) rfl (fun ls hl => ?_)
  refine lv_iinc (v := (17 : Int32)) (lv' := [(6, .int (17 : Int32)), (2, .long (f_X12_add_ (f_X12_add_ (f_X12_add_ (f_X12_add_ (f_X12_add_ (f_X12_add_ (f_X12_add_ (f_X12_add_ (f_X12_add_ (f_X12_add_ (f_X12_add_ (f_X12_add_ (f_X12_add_ (f_X12_add_ (f_X12_add_ (f_X12_add_ (f_X12_add_ (58008 : Int64) (((0 : Int32)).toInt64)) (((0 : Int32)).toInt64)) (((255 : Int32)).toInt64)) (((4 : Int32)).toInt64)) (((0 : Int32)).toInt64)) (((0 : Int32)).toInt64)) (((0 : Int32)).toInt64)) (((0 : Int32)).toInt64)) (((0 : Int32)).toInt64)) (((0 : Int32)).toInt64)) (((0 : Int32)).toInt64)) (((0 : Int32)).toInt64)) (((0 : Int32)).toInt64)) (((0 : Int32)).toInt64)) (((0 : Int32)).toInt64)) (((0 : Int32)).toInt64)) (((0 : Int32)).toInt64))), (7, .int (0 : Int32)), (5, .int (17 : Int32)), (4, .ref x1), (1, .ref x1), (0, .ref za)]) hx hb dX12_digest_216 hl (k := 2) rfl (by decide) (by decide) rfl (fun ls hl => ?_)
  refine lv_goto (tgt := 194) hx hb dX12_digest_219 (by decide) ?_
  refine lv_iload hx hb dX12_digest_194 (lv_at hl 0 rfl) ?_
  refine lv_iload hx hb dX12_digest_196 (lv_at hl 3 rfl) ?_
  refine lv_icmp_ge (tgt := 222) hx hb dX12_digest_198 (by decide) (fun _ => ?_) (fun c19 => absurd (by decide) c19)
  refine lv_aload_n hx hb dX12_digest_222 rfl (lv_at hl 6 rfl) ?_
  refine fb_get X I (k := 0) (v := .ref (zr 0)) fu_X12 0 fb_h12 rfl (Nat.le_of_ble_eq_true rfl) fw_1964 rfl rfl dX12_digest_223 ?_
  refine lv_bipush (v := (20 : Int32)) hx hb dX12_digest_226 (by decide) ?_
  refine fb_iaC (n := 20) (v := (0 : Int32)) X I 1 0 rfl rfl (by decide) (by decide) (Nat.le_of_ble_eq_true rfl) rfl dX12_digest_228 ?_
  refine lv_iconst (v := (1 : Int32)) hx hb dX12_digest_229 (by decide) ?_
  refine lv_isub hx hb dX12_digest_230 ?_
  refine fb_tI (v := (-1 : Int32)) (by decide) ?_
  refine lv_istore (lv' := [(4, .int (-1 : Int32)), (6, .int (17 : Int32)), (2, .long (f_X12_add_ (f_X12_add_ (f_X12_add_ (f_X12_add_ (f_X12_add_ (f_X12_add_ (f_X12_add_ (f_X12_add_ (f_X12_add_ (f_X12_add_ (f_X12_add_ (f_X12_add_ (f_X12_add_ (f_X12_add_ (f_X12_add_ (f_X12_add_ (f_X12_add_ (58008 : Int64) (((0 : Int32)).toInt64)) (((0 : Int32)).toInt64)) (((255 : Int32)).toInt64)) (((4 : Int32)).toInt64)) (((0 : Int32)).toInt64)) (((0 : Int32)).toInt64)) (((0 : Int32)).toInt64)) (((0 : Int32)).toInt64)) (((0 : Int32)).toInt64)) (((0 : Int32)).toInt64)) (((0 : Int32)).toInt64)) (((0 : Int32)).toInt64)) (((0 : Int32)).toInt64)) (((0 : Int32)).toInt64)) (((0 : Int32)).toInt64)) (((0 : Int32)).toInt64)) (((0 : Int32)).toInt64))), (7, .int (0 : Int32)), (5, .int (17 : Int32)), (1, .ref x1), (0, .ref za)]) hx hb dX12_digest_231 hl (by decide) rfl (fun ls hl => ?_)
  refine lv_iload hx hb dX12_digest_233 (lv_at hl 0 rfl) ?_
  refine lv_if_lt (tgt := 260) hx hb dX12_digest_235 (by decide) (fun _ => ?_) (fun c20 => absurd (by decide) c20)
  refine lv_lload_n hx hb dX12_digest_260 rfl (lv_at hl 2 rfl) ?_
  refine lv_aload_n hx hb dX12_digest_261 rfl (lv_at hl 6 rfl) ?_
  refine fb_get X I (k := 49) (v := .int (fr_e0 49)) fu_X12 0 fb_h12 rfl (Nat.le_of_ble_eq_true rfl) fw_2013 rfl rfl dX12_digest_262 ?_
  refine fb_tI (v := (0 : Int32)) rfl ?_
  refine lv_i2l (v := (((0 : Int32)).toInt64)) hx hb dX12_digest_265 rfl ?_
  refine fb_gOL (cs := []) (rs := [fb_o12 za zr (upd fr_e0 19 (0 : Int32)), fb_aw cI (zr 0) 16205 (fr_m (fun _ => 0) 0), fb_aw cI x1 17 (upd (upd (upd (upd (upd (upd (upd (upd (upd (upd (upd (upd (upd (upd (upd (upd (upd (fun _ => 0) 0 (0 : Int32)) 1 (0 : Int32)) 2 (255 : Int32)) 3 (4 : Int32)) 4 (0 : Int32)) 5 (0 : Int32)) 6 (0 : Int32)) 7 (0 : Int32)) 8 (0 : Int32)) 9 (0 : Int32)) 10 (0 : Int32)) 11 (0 : Int32)) 12 (0 : Int32)) 13 (0 : Int32)) 14 (0 : Int32)) 15 (0 : Int32)) 16 (0 : Int32))]) X I [0, 1, 2] 3 rfl (by decide +kernel) rfl rfl (fun I => fb_rS (As := [.long (f_X12_add_ (f_X12_add_ (f_X12_add_ (f_X12_add_ (f_X12_add_ (f_X12_add_ (f_X12_add_ (f_X12_add_ (f_X12_add_ (f_X12_add_ (f_X12_add_ (f_X12_add_ (f_X12_add_ (f_X12_add_ (f_X12_add_ (f_X12_add_ (f_X12_add_ (58008 : Int64) (((0 : Int32)).toInt64)) (((0 : Int32)).toInt64)) (((255 : Int32)).toInt64)) (((4 : Int32)).toInt64)) (((0 : Int32)).toInt64)) (((0 : Int32)).toInt64)) (((0 : Int32)).toInt64)) (((0 : Int32)).toInt64)) (((0 : Int32)).toInt64)) (((0 : Int32)).toInt64)) (((0 : Int32)).toInt64)) (((0 : Int32)).toInt64)) (((0 : Int32)).toInt64)) (((0 : Int32)).toInt64)) (((0 : Int32)).toInt64)) (((0 : Int32)).toInt64)) (((0 : Int32)).toInt64)), .long (((0 : Int32)).toInt64)]) (rest := []) X hl (fb_goodS fw_2788 fw_2789 fw_204 fw_2790) (c_X12_add_ l D cI cJ (f_X12_add_ (f_X12_add_ (f_X12_add_ (f_X12_add_ (f_X12_add_ (f_X12_add_ (f_X12_add_ (f_X12_add_ (f_X12_add_ (f_X12_add_ (f_X12_add_ (f_X12_add_ (f_X12_add_ (f_X12_add_ (f_X12_add_ (f_X12_add_ (f_X12_add_ (58008 : Int64) (((0 : Int32)).toInt64)) (((0 : Int32)).toInt64)) (((255 : Int32)).toInt64)) (((4 : Int32)).toInt64)) (((0 : Int32)).toInt64)) (((0 : Int32)).toInt64)) (((0 : Int32)).toInt64)) (((0 : Int32)).toInt64)) (((0 : Int32)).toInt64)) (((0 : Int32)).toInt64)) (((0 : Int32)).toInt64)) (((0 : Int32)).toInt64)) (((0 : Int32)).toInt64)) (((0 : Int32)).toInt64)) (((0 : Int32)).toInt64)) (((0 : Int32)).toInt64)) (((0 : Int32)).toInt64)) (((0 : Int32)).toInt64) _) rfl rfl (by decide +kernel : fb_hd yX12_add_ 2) ⟨Nat.le_of_ble_eq_true rfl, Nat.le_of_ble_eq_true rfl⟩ rfl rfl (Nat.le_of_ble_eq_true rfl) ⟨Nat.le_of_ble_eq_true rfl, Nat.le_of_ble_eq_true rfl⟩ dX12_digest_266 I) ?_
  refine lv_lstore_n (lv' := [(2, .long (f_X12_add_ (f_X12_add_ (f_X12_add_ (f_X12_add_ (f_X12_add_ (f_X12_add_ (f_X12_add_ (f_X12_add_ (f_X12_add_ (f_X12_add_ (f_X12_add_ (f_X12_add_ (f_X12_add_ (f_X12_add_ (f_X12_add_ (f_X12_add_ (f_X12_add_ (f_X12_add_ (58008 : Int64) (((0 : Int32)).toInt64)) (((0 : Int32)).toInt64)) (((255 : Int32)).toInt64)) (((4 : Int32)).toInt64)) (((0 : Int32)).toInt64)) (((0 : Int32)).toInt64)) (((0 : Int32)).toInt64)) (((0 : Int32)).toInt64)) (((0 : Int32)).toInt64)) (((0 : Int32)).toInt64)) (((0 : Int32)).toInt64)) (((0 : Int32)).toInt64)) (((0 : Int32)).toInt64)) (((0 : Int32)).toInt64)) (((0 : Int32)).toInt64)) (((0 : Int32)).toInt64)) (((0 : Int32)).toInt64)) (((0 : Int32)).toInt64))), (4, .int (-1 : Int32)), (6, .int (17 : Int32)), (7, .int (0 : Int32)), (5, .int (17 : Int32)), (1, .ref x1), (0, .ref za)]) hx hb dX12_digest_269 rfl hl (by decide) rfl (fun ls hl => ?_)
  refine lv_iconst (v := (0 : Int32)) hx hb dX12_digest_270 (by decide) ?_
  refine lv_istore (lv' := [(4, .int (0 : Int32)), (2, .long (f_X12_add_ (f_X12_add_ (f_X12_add_ (f_X12_add_ (f_X12_add_ (f_X12_add_ (f_X12_add_ (f_X12_add_ (f_X12_add_ (f_X12_add_ (f_X12_add_ (f_X12_add_ (f_X12_add_ (f_X12_add_ (f_X12_add_ (f_X12_add_ (f_X12_add_ (f_X12_add_ (58008 : Int64) (((0 : Int32)).toInt64)) (((0 : Int32)).toInt64)) (((255 : Int32)).toInt64)) (((4 : Int32)).toInt64)) (((0 : Int32)).toInt64)) (((0 : Int32)).toInt64)) (((0 : Int32)).toInt64)) (((0 : Int32)).toInt64)) (((0 : Int32)).toInt64)) (((0 : Int32)).toInt64)) (((0 : Int32)).toInt64)) (((0 : Int32)).toInt64)) (((0 : Int32)).toInt64)) (((0 : Int32)).toInt64)) (((0 : Int32)).toInt64)) (((0 : Int32)).toInt64)) (((0 : Int32)).toInt64)) (((0 : Int32)).toInt64))), (6, .int (17 : Int32)), (7, .int (0 : Int32)), (5, .int (17 : Int32)), (1, .ref x1), (0, .ref za)]) hx hb dX12_digest_271 hl (by decide) rfl (fun ls hl => ?_)
  refine lv_iload hx hb dX12_digest_273 (lv_at hl 0 rfl) ?_
  refine lv_aload_n hx hb dX12_digest_275 rfl (lv_at hl 6 rfl) ?_
  refine fb_get X I (k := 49) (v := .int (fr_e0 49)) fu_X12 0 fb_h12 rfl (Nat.le_of_ble_eq_true rfl) fw_2013 rfl rfl dX12_digest_276 ?_
  refine fb_tI (v := (0 : Int32)) rfl ?_
  refine lv_icmp_ge (tgt := 301) hx hb dX12_digest_279 (by decide) (fun _ => ?_) (fun c21 => absurd (by decide) c21)
  refine lv_lload_n hx hb dX12_digest_301 rfl (lv_at hl 1 rfl) ?_
  refine lv_aload_n hx hb dX12_digest_302 rfl (lv_at hl 6 rfl) ?_
  refine fb_gO (cs := [fb_o12 za zr (upd fr_e0 19 (0 : Int32)), fb_aw cI (zr 0) 16205 (fr_m (fun _ => 0) 0)]) (rs := [fb_aw cI x1 17 (upd (upd (upd (upd (upd (upd (upd (upd (upd (upd (upd (upd (upd (upd (upd (upd (upd (fun _ => 0) 0 (0 : Int32)) 1 (0 : Int32)) 2 (255 : Int32)) 3 (4 : Int32)) 4 (0 : Int32)) 5 (0 : Int32)) 6 (0 : Int32)) 7 (0 : Int32)) 8 (0 : Int32)) 9 (0 : Int32)) 10 (0 : Int32)) 11 (0 : Int32)) 12 (0 : Int32)) 13 (0 : Int32)) 14 (0 : Int32)) 15 (0 : Int32)) 16 (0 : Int32))]) X I [0, 1, 2] 3 rfl (by decide +kernel) rfl rfl (fun I => fb_rV (As := []) (rest := [.long (f_X12_add_ (f_X12_add_ (f_X12_add_ (f_X12_add_ (f_X12_add_ (f_X12_add_ (f_X12_add_ (f_X12_add_ (f_X12_add_ (f_X12_add_ (f_X12_add_ (f_X12_add_ (f_X12_add_ (f_X12_add_ (f_X12_add_ (f_X12_add_ (f_X12_add_ (f_X12_add_ (58008 : Int64) (((0 : Int32)).toInt64)) (((0 : Int32)).toInt64)) (((255 : Int32)).toInt64)) (((4 : Int32)).toInt64)) (((0 : Int32)).toInt64)) (((0 : Int32)).toInt64)) (((0 : Int32)).toInt64)) (((0 : Int32)).toInt64)) (((0 : Int32)).toInt64)) (((0 : Int32)).toInt64)) (((0 : Int32)).toInt64)) (((0 : Int32)).toInt64)) (((0 : Int32)).toInt64)) (((0 : Int32)).toInt64)) (((0 : Int32)).toInt64)) (((0 : Int32)).toInt64)) (((0 : Int32)).toInt64)) (((0 : Int32)).toInt64))]) X hl (fb_goodV fw_2715 fw_2717 fw_183 fw_204 fw_2718) (c_hot l D cI cJ za zr _ ) rfl rfl rfl (by decide +kernel : fb_hd yX12_hot 0) ⟨Nat.le_of_ble_eq_true rfl, Nat.le_of_ble_eq_true rfl⟩ rfl rfl rfl rfl rfl (Nat.le_of_ble_eq_true rfl) ⟨Nat.le_of_ble_eq_true rfl, Nat.le_of_ble_eq_true rfl⟩ dX12_digest_303 I) ?_
  refine lv_i2l (v := (((-1 : Int32)).toInt64)) hx hb dX12_digest_306 rfl ?_
  refine fb_gOL (cs := []) (rs := [fb_o12 za zr (upd fr_e0 19 (0 : Int32)), fb_aw cI (zr 0) 16205 (fr_m (fun _ => 0) 0), fb_aw cI x1 17 (upd (upd (upd (upd (upd (upd (upd (upd (upd (upd (upd (upd (upd (upd (upd (upd (upd (fun _ => 0) 0 (0 : Int32)) 1 (0 : Int32)) 2 (255 : Int32)) 3 (4 : Int32)) 4 (0 : Int32)) 5 (0 : Int32)) 6 (0 : Int32)) 7 (0 : Int32)) 8 (0 : Int32)) 9 (0 : Int32)) 10 (0 : Int32)) 11 (0 : Int32)) 12 (0 : Int32)) 13 (0 : Int32)) 14 (0 : Int32)) 15 (0 : Int32)) 16 (0 : Int32))]) X I [0, 1, 2] 3 rfl (by decide +kernel) rfl rfl (fun I => fb_rS (As := [.long (f_X12_add_ (f_X12_add_ (f_X12_add_ (f_X12_add_ (f_X12_add_ (f_X12_add_ (f_X12_add_ (f_X12_add_ (f_X12_add_ (f_X12_add_ (f_X12_add_ (f_X12_add_ (f_X12_add_ (f_X12_add_ (f_X12_add_ (f_X12_add_ (f_X12_add_ (f_X12_add_ (58008 : Int64) (((0 : Int32)).toInt64)) (((0 : Int32)).toInt64)) (((255 : Int32)).toInt64)) (((4 : Int32)).toInt64)) (((0 : Int32)).toInt64)) (((0 : Int32)).toInt64)) (((0 : Int32)).toInt64)) (((0 : Int32)).toInt64)) (((0 : Int32)).toInt64)) (((0 : Int32)).toInt64)) (((0 : Int32)).toInt64)) (((0 : Int32)).toInt64)) (((0 : Int32)).toInt64)) (((0 : Int32)).toInt64)) (((0 : Int32)).toInt64)) (((0 : Int32)).toInt64)) (((0 : Int32)).toInt64)) (((0 : Int32)).toInt64)), .long (((-1 : Int32)).toInt64)]) (rest := []) X hl (fb_goodS fw_2788 fw_2789 fw_204 fw_2790) (c_X12_add_ l D cI cJ (f_X12_add_ (f_X12_add_ (f_X12_add_ (f_X12_add_ (f_X12_add_ (f_X12_add_ (f_X12_add_ (f_X12_add_ (f_X12_add_ (f_X12_add_ (f_X12_add_ (f_X12_add_ (f_X12_add_ (f_X12_add_ (f_X12_add_ (f_X12_add_ (f_X12_add_ (f_X12_add_ (58008 : Int64) (((0 : Int32)).toInt64)) (((0 : Int32)).toInt64)) (((255 : Int32)).toInt64)) (((4 : Int32)).toInt64)) (((0 : Int32)).toInt64)) (((0 : Int32)).toInt64)) (((0 : Int32)).toInt64)) (((0 : Int32)).toInt64)) (((0 : Int32)).toInt64)) (((0 : Int32)).toInt64)) (((0 : Int32)).toInt64)) (((0 : Int32)).toInt64)) (((0 : Int32)).toInt64)) (((0 : Int32)).toInt64)) (((0 : Int32)).toInt64)) (((0 : Int32)).toInt64)) (((0 : Int32)).toInt64)) (((0 : Int32)).toInt64)) (((-1 : Int32)).toInt64) _) rfl rfl (by decide +kernel : fb_hd yX12_add_ 2) ⟨Nat.le_of_ble_eq_true rfl, Nat.le_of_ble_eq_true rfl⟩ rfl rfl (Nat.le_of_ble_eq_true rfl) ⟨Nat.le_of_ble_eq_true rfl, Nat.le_of_ble_eq_true rfl⟩ dX12_digest_307 I) ?_
  refine lv_aload_n hx hb dX12_digest_310 rfl (lv_at hl 6 rfl) ?_
  refine fb_gI (cs := [fb_o12 za zr (upd fr_e0 19 (0 : Int32)), fb_aw cI (zr 0) 16205 (fr_m (fun _ => 0) 0)]) (rs := [fb_aw cI x1 17 (upd (upd (upd (upd (upd (upd (upd (upd (upd (upd (upd (upd (upd (upd (upd (upd (upd (fun _ => 0) 0 (0 : Int32)) 1 (0 : Int32)) 2 (255 : Int32)) 3 (4 : Int32)) 4 (0 : Int32)) 5 (0 : Int32)) 6 (0 : Int32)) 7 (0 : Int32)) 8 (0 : Int32)) 9 (0 : Int32)) 10 (0 : Int32)) 11 (0 : Int32)) 12 (0 : Int32)) 13 (0 : Int32)) 14 (0 : Int32)) 15 (0 : Int32)) 16 (0 : Int32))]) (fun (t : Unit) => [fb_o12 za zr (upd fr_e0 19 (0 : Int32)), fb_aw cI (zr 0) 16205 (fr_m (fun _ => 0) 0), fb_aw cI x1 17 (upd (upd (upd (upd (upd (upd (upd (upd (upd (upd (upd (upd (upd (upd (upd (upd (upd (fun _ => 0) 0 (0 : Int32)) 1 (0 : Int32)) 2 (255 : Int32)) 3 (4 : Int32)) 4 (0 : Int32)) 5 (0 : Int32)) 6 (0 : Int32)) 7 (0 : Int32)) 8 (0 : Int32)) 9 (0 : Int32)) 10 (0 : Int32)) 11 (0 : Int32)) 12 (0 : Int32)) 13 (0 : Int32)) 14 (0 : Int32)) 15 (0 : Int32)) 16 (0 : Int32))]) (fun (t : Unit) => [fb_o12 za zr (upd fr_e0 19 (0 : Int32)), fb_aw cI (zr 0) 16205 (fr_m (fun _ => 0) 0)]) X I [0, 1, 2] 3 rfl (by decide +kernel) rfl rfl [0, 1, 2] 3 (fun _ => rfl) (by decide +kernel) (fun _ => rfl) (fun _ => rfl) (fun I => fb_rV (As := []) (rest := [.long (f_X12_add_ (f_X12_add_ (f_X12_add_ (f_X12_add_ (f_X12_add_ (f_X12_add_ (f_X12_add_ (f_X12_add_ (f_X12_add_ (f_X12_add_ (f_X12_add_ (f_X12_add_ (f_X12_add_ (f_X12_add_ (f_X12_add_ (f_X12_add_ (f_X12_add_ (f_X12_add_ (f_X12_add_ (58008 : Int64) (((0 : Int32)).toInt64)) (((0 : Int32)).toInt64)) (((255 : Int32)).toInt64)) (((4 : Int32)).toInt64)) (((0 : Int32)).toInt64)) (((0 : Int32)).toInt64)) (((0 : Int32)).toInt64)) (((0 : Int32)).toInt64)) (((0 : Int32)).toInt64)) (((0 : Int32)).toInt64)) (((0 : Int32)).toInt64)) (((0 : Int32)).toInt64)) (((0 : Int32)).toInt64)) (((0 : Int32)).toInt64)) (((0 : Int32)).toInt64)) (((0 : Int32)).toInt64)) (((0 : Int32)).toInt64)) (((0 : Int32)).toInt64)) (((-1 : Int32)).toInt64))]) X hl (fb_goodV fw_2775 fw_2777 fw_189 fw_204 fw_2778) (c_reachable l D cI cJ za zr _ ) rfl rfl rfl (by decide +kernel : fb_hd yX12_reachable 0) ⟨Nat.le_of_ble_eq_true rfl, Nat.le_of_ble_eq_true rfl⟩ rfl rfl rfl rfl rfl (Nat.le_of_ble_eq_true rfl) ⟨Nat.le_of_ble_eq_true rfl, Nat.le_of_ble_eq_true rfl⟩ dX12_digest_311 I) ?_
  intro r23 w22 H locs e0 I
  subst e0
  have I : fb_In D A s.heap (([fb_o12 za zr (upd fr_e0 19 (0 : Int32)), fb_aw cI (zr 0) 16205 (fr_m (fun _ => 0) 0), fb_aw cI x1 17 (upd (upd (upd (upd (upd (upd (upd (upd (upd (upd (upd (upd (upd (upd (upd (upd (upd (fun _ => 0) 0 (0 : Int32)) 1 (0 : Int32)) 2 (255 : Int32)) 3 (4 : Int32)) 4 (0 : Int32)) 5 (0 : Int32)) 6 (0 : Int32)) 7 (0 : Int32)) 8 (0 : Int32)) 9 (0 : Int32)) 10 (0 : Int32)) 11 (0 : Int32)) 12 (0 : Int32)) 13 (0 : Int32)) 14 (0 : Int32)) 15 (0 : Int32)) 16 (0 : Int32))] : List va_W).flatten) H locs := I
  refine lv_i2l (v := (((nI 4096)).toInt64)) hx hb dX12_digest_314 rfl ?_
  refine fb_gOL (cs := []) (rs := [fb_o12 za zr (upd fr_e0 19 (0 : Int32)), fb_aw cI (zr 0) 16205 (fr_m (fun _ => 0) 0), fb_aw cI x1 17 (upd (upd (upd (upd (upd (upd (upd (upd (upd (upd (upd (upd (upd (upd (upd (upd (upd (fun _ => 0) 0 (0 : Int32)) 1 (0 : Int32)) 2 (255 : Int32)) 3 (4 : Int32)) 4 (0 : Int32)) 5 (0 : Int32)) 6 (0 : Int32)) 7 (0 : Int32)) 8 (0 : Int32)) 9 (0 : Int32)) 10 (0 : Int32)) 11 (0 : Int32)) 12 (0 : Int32)) 13 (0 : Int32)) 14 (0 : Int32)) 15 (0 : Int32)) 16 (0 : Int32))]) X I [0, 1, 2] 3 rfl (by decide +kernel) rfl rfl (fun I => fb_rS (As := [.long (f_X12_add_ (f_X12_add_ (f_X12_add_ (f_X12_add_ (f_X12_add_ (f_X12_add_ (f_X12_add_ (f_X12_add_ (f_X12_add_ (f_X12_add_ (f_X12_add_ (f_X12_add_ (f_X12_add_ (f_X12_add_ (f_X12_add_ (f_X12_add_ (f_X12_add_ (f_X12_add_ (f_X12_add_ (58008 : Int64) (((0 : Int32)).toInt64)) (((0 : Int32)).toInt64)) (((255 : Int32)).toInt64)) (((4 : Int32)).toInt64)) (((0 : Int32)).toInt64)) (((0 : Int32)).toInt64)) (((0 : Int32)).toInt64)) (((0 : Int32)).toInt64)) (((0 : Int32)).toInt64)) (((0 : Int32)).toInt64)) (((0 : Int32)).toInt64)) (((0 : Int32)).toInt64)) (((0 : Int32)).toInt64)) (((0 : Int32)).toInt64)) (((0 : Int32)).toInt64)) (((0 : Int32)).toInt64)) (((0 : Int32)).toInt64)) (((0 : Int32)).toInt64)) (((-1 : Int32)).toInt64)), .long (((nI 4096)).toInt64)]) (rest := []) X hl (fb_goodS fw_2788 fw_2789 fw_204 fw_2790) (c_X12_add_ l D cI cJ (f_X12_add_ (f_X12_add_ (f_X12_add_ (f_X12_add_ (f_X12_add_ (f_X12_add_ (f_X12_add_ (f_X12_add_ (f_X12_add_ (f_X12_add_ (f_X12_add_ (f_X12_add_ (f_X12_add_ (f_X12_add_ (f_X12_add_ (f_X12_add_ (f_X12_add_ (f_X12_add_ (f_X12_add_ (58008 : Int64) (((0 : Int32)).toInt64)) (((0 : Int32)).toInt64)) (((255 : Int32)).toInt64)) (((4 : Int32)).toInt64)) (((0 : Int32)).toInt64)) (((0 : Int32)).toInt64)) (((0 : Int32)).toInt64)) (((0 : Int32)).toInt64)) (((0 : Int32)).toInt64)) (((0 : Int32)).toInt64)) (((0 : Int32)).toInt64)) (((0 : Int32)).toInt64)) (((0 : Int32)).toInt64)) (((0 : Int32)).toInt64)) (((0 : Int32)).toInt64)) (((0 : Int32)).toInt64)) (((0 : Int32)).toInt64)) (((0 : Int32)).toInt64)) (((-1 : Int32)).toInt64)) (((nI 4096)).toInt64) _) rfl rfl (by decide +kernel : fb_hd yX12_add_ 2) ⟨Nat.le_of_ble_eq_true rfl, Nat.le_of_ble_eq_true rfl⟩ rfl rfl (Nat.le_of_ble_eq_true rfl) ⟨Nat.le_of_ble_eq_true rfl, Nat.le_of_ble_eq_true rfl⟩ dX12_digest_315 I) ?_
  refine lv_lstore_n (lv' := [(2, .long (f_X12_add_ (f_X12_add_ (f_X12_add_ (f_X12_add_ (f_X12_add_ (f_X12_add_ (f_X12_add_ (f_X12_add_ (f_X12_add_ (f_X12_add_ (f_X12_add_ (f_X12_add_ (f_X12_add_ (f_X12_add_ (f_X12_add_ (f_X12_add_ (f_X12_add_ (f_X12_add_ (f_X12_add_ (f_X12_add_ (58008 : Int64) (((0 : Int32)).toInt64)) (((0 : Int32)).toInt64)) (((255 : Int32)).toInt64)) (((4 : Int32)).toInt64)) (((0 : Int32)).toInt64)) (((0 : Int32)).toInt64)) (((0 : Int32)).toInt64)) (((0 : Int32)).toInt64)) (((0 : Int32)).toInt64)) (((0 : Int32)).toInt64)) (((0 : Int32)).toInt64)) (((0 : Int32)).toInt64)) (((0 : Int32)).toInt64)) (((0 : Int32)).toInt64)) (((0 : Int32)).toInt64)) (((0 : Int32)).toInt64)) (((0 : Int32)).toInt64)) (((0 : Int32)).toInt64)) (((-1 : Int32)).toInt64)) (((nI 4096)).toInt64))), (4, .int (0 : Int32)), (6, .int (17 : Int32)), (7, .int (0 : Int32)), (5, .int (17 : Int32)), (1, .ref x1), (0, .ref za)]) hx hb dX12_digest_318 rfl hl (by decide) rfl (fun ls hl => ?_)
  refine lv_iconst (v := (0 : Int32)) hx hb dX12_digest_319 (by decide) ?_
  refine lv_istore (lv' := [(4, .int (0 : Int32)), (2, .long (f_X12_add_ (f_X12_add_ (f_X12_add_ (f_X12_add_ (f_X12_add_ (f_X12_add_ (f_X12_add_ (f_X12_add_ (f_X12_add_ (f_X12_add_ (f_X12_add_ (f_X12_add_ (f_X12_add_ (f_X12_add_ (f_X12_add_ (f_X12_add_ (f_X12_add_ (f_X12_add_ (f_X12_add_ (f_X12_add_ (58008 : Int64) (((0 : Int32)).toInt64)) (((0 : Int32)).toInt64)) (((255 : Int32)).toInt64)) (((4 : Int32)).toInt64)) (((0 : Int32)).toInt64)) (((0 : Int32)).toInt64)) (((0 : Int32)).toInt64)) (((0 : Int32)).toInt64)) (((0 : Int32)).toInt64)) (((0 : Int32)).toInt64)) (((0 : Int32)).toInt64)) (((0 : Int32)).toInt64)) (((0 : Int32)).toInt64)) (((0 : Int32)).toInt64)) (((0 : Int32)).toInt64)) (((0 : Int32)).toInt64)) (((0 : Int32)).toInt64)) (((0 : Int32)).toInt64)) (((-1 : Int32)).toInt64)) (((nI 4096)).toInt64))), (6, .int (17 : Int32)), (7, .int (0 : Int32)), (5, .int (17 : Int32)), (1, .ref x1), (0, .ref za)]) hx hb dX12_digest_320 hl (by decide) rfl (fun ls hl => ?_)
  have I : fb_In D A s.heap (([fb_o12 za zr (upd fr_e0 19 (0 : Int32)), fb_aw cI (zr 0) 16205 (fr_m (fun _ => 0) 0), fb_aw cI x1 17 (upd (upd (upd (upd (upd (upd (upd (upd (upd (upd (upd (upd (upd (upd (upd (upd (upd (fun _ => 0) 0 (0 : Int32)) 1 (0 : Int32)) 2 (255 : Int32)) 3 (4 : Int32)) 4 (0 : Int32)) 5 (0 : Int32)) 6 (0 : Int32)) 7 (0 : Int32)) 8 (0 : Int32)) 9 (0 : Int32)) 10 (0 : Int32)) 11 (0 : Int32)) 12 (0 : Int32)) 13 (0 : Int32)) 14 (0 : Int32)) 15 (0 : Int32)) 16 (0 : Int32))] : List va_W).flatten) _ _ := I
  exact b_digest_322 (za := za) (zr := zr) (x1 := x1) X   (11008) 0 (by omega) _ _ _ I (lv_sub hl [0, 1, 6] rfl)

