/-! the reference along a fresh object's road, laid by ref.py -/
def fr_hok (cI : ClassId) (h : Nat → Option Nat) (ws : va_W) : Prop := ∀ (i y : Nat), h i = some y → ∃ (k N : Nat) (g : fb_AR), ws[k]? = some (y, .inl (cI, N, .inl g))
theorem fr_hok0 (cI : ClassId) : fr_hok cI (fun _ => none) [] := fun i y h => by cases h
theorem fr_hok_put {cI : ClassId} {h : Nat → Option Nat} {ws : va_W} (n x N : Nat) (c : fb_AR) (H : fr_hok cI h ws) : fr_hok cI (va_up h n (some x)) (fb_aw cI x N c ++ ws) := by
  intro i y hy
  by_cases hi : i = n
  · subst hi
    rw [va_up_self] at hy
    cases hy
    exact ⟨0, N, c, rfl⟩
  · rw [va_up_ne _ _ hi] at hy
    obtain ⟨k, M, g, e⟩ := H i y hy
    exact ⟨k + 1, M, g, e⟩
theorem fr_hok_cpy {cI : ClassId} {h : Nat → Option Nat} {ws : va_W} (H : fr_hok cI h ws) : fr_hok cI (va_cpy h h 1 0 199) ws := by
  intro i y hy
  by_cases hi : i < 0 + 199
  · rw [pk_cpy_in (Nat.zero_le _) hi] at hy; exact H _ y hy
  · rw [pk_cpy_out (Or.inr (by omega))] at hy; exact H _ y hy
theorem fr_hel {D : va_G} {cI : ClassId} {za zb zc ze : Nat} {zr : Nat → Nat} {η m lg : fb_AR} {h : Nat → Option Nat} {ws : va_W} (H : fr_hok cI h ws) {i y : Nat} (hy : h i = some y) : ∃ (qk N : Nat) (g : fb_AR), ([fb_o12 za zr η, fb_aw cI zb 16205 m, fb_aw cI zc 64 lg, fb_qh D ze 200 h, ws] : List va_W).flatten[qk]? = some (y, .inl (cI, N, .inl g)) := by
  obtain ⟨k, N, g, e⟩ := H i y hy
  refine ⟨k + 4, N, g, ?_⟩
  show (ws ++ [])[k]? = _
  rw [List.append_nil]; exact e
/-- what a kept step leaves of the object's numbers -/
def fr_kp (ze η : fb_AR) : Prop := (∃ s : Nat, s ≤ 200 ∧ η 2 = nI s) ∧ η 5 = 0 ∧ η 7 = 0 ∧ ∀ k, ¬ k = 2 → ¬ k = 4 → ¬ k = 5 → ¬ k = 6 → ¬ k = 7 → η k = ze k

set_option maxHeartbeats 4000000 in
set_option maxRecDepth 100000 in
theorem c_oneKept_a (l : Launch) (D : va_G) (cI cJ : ClassId) (za : Nat) (zr : Nat → Nat) (ze : fb_AR) (zt : fb_AR) (zk : Nat) (zl : fb_AR) (zh : Nat → Option Nat) (zhs : va_W) (zs : Nat) (sz : Nat) (hk : zk < 1000000) (h2 : ze 2 = (nI zs)) (hs : zs < 200) (hh : fr_hok cI zh zhs) : Met l yX12_oneKept (Cond.code yX12_oneKept cX12_oneKept 3 (some .int) :: fb_all) ({ frames := 10, cells := 1, slots := 8, locals := 200 } : Room) (fb_PP D (fb_ty D cI cJ) [.ref za] (([fb_o12 za zr ze, fb_aw cI (zr 0) 16205 (fr_m zt zk), fb_aw cI (zr 3) 64 zl, fb_qh D (zr 1) 200 zh, zhs] : List va_W).flatten) sz) (fb_QI D (va_A (([fb_o12 za zr ze, fb_aw cI (zr 0) 16205 (fr_m zt zk), fb_aw cI (zr 3) 64 zl, fb_qh D (zr 1) 200 zh, zhs] : List va_W).flatten) sz) (fun (r : Int32) (t : fb_AR × fb_AR × fb_AR × (Nat → Option Nat) × va_W) => r = (1 : Int32) ∧ fr_kp ze (t.1) ∧ fr_hok cI (t.2.2.2.1) (t.2.2.2.2)) (fun (t : fb_AR × fb_AR × fb_AR × (Nat → Option Nat) × va_W) => ([fb_o12 za zr (t.1), fb_aw cI (zr 0) 16205 (fr_m (t.2.1) (zk + 1)), fb_aw cI (zr 3) 64 (t.2.2.1), fb_qh D (zr 1) 200 (t.2.2.2.1), (t.2.2.2.2)] : List va_W).flatten)) 1 8 (va_A (([fb_o12 za zr ze, fb_aw cI (zr 0) 16205 (fr_m zt zk), fb_aw cI (zr 3) 64 zl, fb_qh D (zr 1) 200 zh, zhs] : List va_W).flatten) sz) := by
  refine fb_ent (Qf := fun A => (fb_QI D A (fun (r : Int32) (t : fb_AR × fb_AR × fb_AR × (Nat → Option Nat) × va_W) => r = (1 : Int32) ∧ fr_kp ze (t.1) ∧ fr_hok cI (t.2.2.2.1) (t.2.2.2.2)) (fun (t : fb_AR × fb_AR × fb_AR × (Nat → Option Nat) × va_W) => ([fb_o12 za zr (t.1), fb_aw cI (zr 0) 16205 (fr_m (t.2.1) (zk + 1)), fb_aw cI (zr 3) 64 (t.2.2.1), fb_qh D (zr 1) 200 (t.2.2.2.1), (t.2.2.2.2)] : List va_W).flatten))) (by decide +kernel) (Nat.le_of_ble_eq_true rfl) ?_
  intro p e s m args below meth c A ls X I hl hin
  obtain ⟨hx, hb, hr, hml, hown, hts, hlk, hA, hK, hF⟩ := id X
  have hl : lv_has ls 3 [(0, .ref za)] := hl
  refine lv_aload_n hx hb dX12_oneKept_0 rfl (lv_at hl 0 rfl) ?_
  refine fb_gO (cs := [fb_o12 za zr ze, fb_aw cI (zr 0) 16205 (fr_m zt zk)]) (rs := [fb_aw cI (zr 3) 64 zl, fb_qh D (zr 1) 200 zh, zhs]) X I [0, 1, 2, 3, 4] 5 rfl (by decide +kernel) rfl rfl (fun I => fb_rV (As := []) (rest := []) X hl (fb_goodV fw_2406 fw_2408 fw_139 fw_204 fw_2409) (c_isOver l D cI cJ za zr ze (fr_m zt zk) _ rfl) rfl rfl rfl (by decide +kernel : fb_hd yX12_isOver 0) ⟨Nat.le_of_ble_eq_true rfl, Nat.le_of_ble_eq_true rfl⟩ rfl rfl rfl rfl rfl (Nat.le_of_ble_eq_true rfl) ⟨Nat.zero_le _, Nat.zero_le _⟩ dX12_oneKept_1 I) ?_
  refine lv_istore_n (lv' := [(1, .int (0 : Int32)), (0, .ref za)]) hx hb dX12_oneKept_4 rfl hl (by decide) rfl (fun ls hl => ?_)
  refine lv_aload_n hx hb dX12_oneKept_5 rfl (lv_at hl 1 rfl) ?_
  refine lv_iconst (v := (1 : Int32)) hx hb dX12_oneKept_6 (by decide) ?_
  refine fb_put X I (k := 5) (wn := ([fb_o12 za zr (upd ze 5 (1 : Int32)), fb_aw cI (zr 0) 16205 (fr_m zt zk), fb_aw cI (zr 3) 64 zl, fb_qh D (zr 1) 200 zh, zhs] : List va_W).flatten) fu_X12 tyX12 tyX12_ok nmX12 0 fb_h12 rfl (Nat.le_of_ble_eq_true rfl) fw_1969 rfl rfl rfl rfl rfl (Nat.le_of_ble_eq_true rfl) fb_r12_5 dX12_oneKept_7 (fun H locs I => ?_)
  refine lv_aload_n hx hb dX12_oneKept_10 rfl (lv_at hl 1 rfl) ?_
  refine fb_gI (cs := [fb_o12 za zr (upd ze 5 (1 : Int32)), fb_aw cI (zr 0) 16205 (fr_m zt zk), fb_aw cI (zr 3) 64 zl]) (rs := [fb_qh D (zr 1) 200 zh, zhs]) (fun (t : fb_AR × fb_AR) => [fb_o12 za zr (upd (upd (upd (upd (upd (upd (upd (upd (upd ze 5 (1 : Int32)) 6 (0 : Int32)) 7 (0 : Int32)) 4 (0 : Int32)) 4 (nI (0 + 2))) 4 (nI ((0 + 2) + 2))) 4 (nI (((0 + 2) + 2) + 2))) 6 (1 : Int32)) 4 (nI ((((0 + 2) + 2) + 2) + 2))), fb_aw cI (zr 0) 16205 (fr_m (t.1) (zk + 1)), fb_aw cI (zr 3) 64 (t.2), fb_qh D (zr 1) 200 zh, zhs]) (fun (t : fb_AR × fb_AR) => [fb_o12 za zr (upd (upd (upd (upd (upd (upd (upd (upd (upd ze 5 (1 : Int32)) 6 (0 : Int32)) 7 (0 : Int32)) 4 (0 : Int32)) 4 (nI (0 + 2))) 4 (nI ((0 + 2) + 2))) 4 (nI (((0 + 2) + 2) + 2))) 6 (1 : Int32)) 4 (nI ((((0 + 2) + 2) + 2) + 2))), fb_aw cI (zr 0) 16205 (fr_m (t.1) (zk + 1)), fb_aw cI (zr 3) 64 (t.2)]) X I [0, 1, 2, 3, 4] 5 rfl (by decide +kernel) rfl rfl [0, 1, 2, 3, 4] 5 (fun _ => rfl) (by decide +kernel) (fun _ => rfl) (fun _ => rfl) (fun I => fb_rV (As := []) (rest := []) X hl (fb_goodV fw_2410 fw_2412 fw_140 fw_204 fw_2413) (c_one_l l D cI cJ za zr (upd ze 5 (1 : Int32)) zt zk zl _ (by omega) rfl) rfl rfl rfl (by decide +kernel : fb_hd yX12_one 0) ⟨Nat.le_of_ble_eq_true rfl, Nat.le_of_ble_eq_true rfl⟩ rfl rfl rfl rfl rfl (Nat.le_of_ble_eq_true rfl) ⟨Nat.zero_le _, Nat.zero_le _⟩ dX12_oneKept_11 I) ?_
  intro r2 w1 H locs e0 I
  subst e0
  obtain ⟨w1_0, w1_1⟩ := w1
  have I : fb_In D A s.heap (([fb_o12 za zr (upd (upd (upd (upd (upd (upd (upd (upd (upd ze 5 (1 : Int32)) 6 (0 : Int32)) 7 (0 : Int32)) 4 (0 : Int32)) 4 (nI (0 + 2))) 4 (nI ((0 + 2) + 2))) 4 (nI (((0 + 2) + 2) + 2))) 6 (1 : Int32)) 4 (nI ((((0 + 2) + 2) + 2) + 2))), fb_aw cI (zr 0) 16205 (fr_m w1_0 (zk + 1)), fb_aw cI (zr 3) 64 w1_1, fb_qh D (zr 1) 200 zh, zhs] : List va_W).flatten) H locs := I
  refine lv_istore_n (lv' := [(2, .int (1 : Int32)), (1, .int (0 : Int32)), (0, .ref za)]) hx hb dX12_oneKept_14 rfl hl (by decide) rfl (fun ls hl => ?_)
  refine lv_aload_n hx hb dX12_oneKept_15 rfl (lv_at hl 2 rfl) ?_
  refine lv_iconst (v := (0 : Int32)) hx hb dX12_oneKept_16 (by decide) ?_
  refine fb_put X I (k := 5) (wn := ([fb_o12 za zr (upd (upd (upd (upd (upd (upd (upd (upd (upd (upd ze 5 (1 : Int32)) 6 (0 : Int32)) 7 (0 : Int32)) 4 (0 : Int32)) 4 (nI (0 + 2))) 4 (nI ((0 + 2) + 2))) 4 (nI (((0 + 2) + 2) + 2))) 6 (1 : Int32)) 4 (nI ((((0 + 2) + 2) + 2) + 2))) 5 (0 : Int32)), fb_aw cI (zr 0) 16205 (fr_m w1_0 (zk + 1)), fb_aw cI (zr 3) 64 w1_1, fb_qh D (zr 1) 200 zh, zhs] : List va_W).flatten) fu_X12 tyX12 tyX12_ok nmX12 0 fb_h12 rfl (Nat.le_of_ble_eq_true rfl) fw_1969 rfl rfl rfl rfl rfl (Nat.le_of_ble_eq_true rfl) fb_r12_5 dX12_oneKept_17 (fun H locs I => ?_)
  refine lv_iload_n hx hb dX12_oneKept_20 rfl (lv_at hl 1 rfl) ?_
  refine lv_if_eq (tgt := 26) hx hb dX12_oneKept_21 (by decide) (fun _ => ?_) (fun c3 => absurd (by decide) c3)
  refine lv_aload_n hx hb dX12_oneKept_26 rfl (lv_at hl 2 rfl) ?_
  refine fb_get X I (k := 2) (v := .int (ze 2)) fu_X12 0 fb_h12 rfl (Nat.le_of_ble_eq_true rfl) fw_1966 rfl rfl dX12_oneKept_27 ?_
  refine fb_tI (v := (nI zs)) h2 ?_
  refine lv_sipush (v := (200 : Int32)) hx hb dX12_oneKept_30 (by decide) ?_
  refine lv_icmp_ne (tgt := 62) hx hb dX12_oneKept_33 (by decide) (fun _ => ?_) (fun c4 => absurd c4 (fun q9 => absurd ((nI_eq (a := zs) (b := 200) (by omega) (by omega)).mp q9) (by omega)))
  refine lv_aload_n hx hb dX12_oneKept_62 rfl (lv_at hl 2 rfl) ?_
  refine fb_get X I (k := 1) (v := .ref (zr 1)) fu_X12 0 fb_h12 rfl (Nat.le_of_ble_eq_true rfl) fw_1965 rfl rfl dX12_oneKept_63 ?_
  refine lv_aload_n hx hb dX12_oneKept_66 rfl (lv_at hl 2 rfl) ?_
  refine fb_get X I (k := 2) (v := .int (ze 2)) fu_X12 0 fb_h12 rfl (Nat.le_of_ble_eq_true rfl) fw_1966 rfl rfl dX12_oneKept_67 ?_
  refine fb_tI (v := (nI zs)) h2 ?_
  refine lv_aload_n hx hb dX12_oneKept_70 rfl (lv_at hl 2 rfl) ?_
  refine fb_get X I (k := 4) (v := .int (nI ((((0 + 2) + 2) + 2) + 2))) fu_X12 0 fb_h12 rfl (Nat.le_of_ble_eq_true rfl) fw_1968 rfl rfl dX12_oneKept_71 ?_
  refine fb_tI (v := (8 : Int32)) rfl ?_
  refine fb_nI (N := 8) X I fw_261 (by decide) (Nat.le_of_ble_eq_true rfl) (Nat.le_of_ble_eq_true rfl) (Nat.le_of_ble_eq_true rfl) dX12_oneKept_74 (fun x5 H I => ?_)
  have I : fb_In D A s.heap (([fb_o12 za zr (upd (upd (upd (upd (upd (upd (upd (upd (upd (upd ze 5 (1 : Int32)) 6 (0 : Int32)) 7 (0 : Int32)) 4 (0 : Int32)) 4 (nI (0 + 2))) 4 (nI ((0 + 2) + 2))) 4 (nI (((0 + 2) + 2) + 2))) 6 (1 : Int32)) 4 (nI ((((0 + 2) + 2) + 2) + 2))) 5 (0 : Int32)), fb_aw cI (zr 0) 16205 (fr_m w1_0 (zk + 1)), fb_aw cI (zr 3) 64 w1_1, fb_qh D (zr 1) 200 zh, zhs, fb_aw cI x5 8 (fun _ => 0)] : List va_W).flatten) H _ := I
  have I : fb_In D A s.heap (([fb_o12 za zr (upd (upd (upd (upd (upd (upd (upd (upd (upd (upd ze 5 (1 : Int32)) 6 (0 : Int32)) 7 (0 : Int32)) 4 (0 : Int32)) 4 (nI (0 + 2))) 4 (nI ((0 + 2) + 2))) 4 (nI (((0 + 2) + 2) + 2))) 6 (1 : Int32)) 4 (nI ((((0 + 2) + 2) + 2) + 2))) 5 (0 : Int32)), fb_aw cI (zr 0) 16205 (fr_m w1_0 (zk + 1)), fb_aw cI (zr 3) 64 w1_1, fb_qh D (zr 1) 200 zh, fb_aw cI x5 8 (fun _ => 0), zhs] : List va_W).flatten) H _ := fb_permB (bs := [fb_o12 za zr (upd (upd (upd (upd (upd (upd (upd (upd (upd (upd ze 5 (1 : Int32)) 6 (0 : Int32)) 7 (0 : Int32)) 4 (0 : Int32)) 4 (nI (0 + 2))) 4 (nI ((0 + 2) + 2))) 4 (nI (((0 + 2) + 2) + 2))) 6 (1 : Int32)) 4 (nI ((((0 + 2) + 2) + 2) + 2))) 5 (0 : Int32)), fb_aw cI (zr 0) 16205 (fr_m w1_0 (zk + 1)), fb_aw cI (zr 3) 64 w1_1, fb_qh D (zr 1) 200 zh, zhs, fb_aw cI x5 8 (fun _ => 0)]) (bs' := [fb_o12 za zr (upd (upd (upd (upd (upd (upd (upd (upd (upd (upd ze 5 (1 : Int32)) 6 (0 : Int32)) 7 (0 : Int32)) 4 (0 : Int32)) 4 (nI (0 + 2))) 4 (nI ((0 + 2) + 2))) 4 (nI (((0 + 2) + 2) + 2))) 6 (1 : Int32)) 4 (nI ((((0 + 2) + 2) + 2) + 2))) 5 (0 : Int32)), fb_aw cI (zr 0) 16205 (fr_m w1_0 (zk + 1)), fb_aw cI (zr 3) 64 w1_1, fb_qh D (zr 1) 200 zh, fb_aw cI x5 8 (fun _ => 0), zhs]) I 6 rfl [0, 1, 2, 3, 5, 4] (by decide +kernel) rfl
  refine fb_stH (k := zs) (wn := ([fb_o12 za zr (upd (upd (upd (upd (upd (upd (upd (upd (upd (upd ze 5 (1 : Int32)) 6 (0 : Int32)) 7 (0 : Int32)) 4 (0 : Int32)) 4 (nI (0 + 2))) 4 (nI ((0 + 2) + 2))) 4 (nI (((0 + 2) + 2) + 2))) 6 (1 : Int32)) 4 (nI ((((0 + 2) + 2) + 2) + 2))) 5 (0 : Int32)), fb_aw cI (zr 0) 16205 (fr_m w1_0 (zk + 1)), fb_aw cI (zr 3) 64 w1_1, fb_qh D (zr 1) 200 (va_up zh zs (some x5)), fb_aw cI x5 8 (fun _ => 0), zhs] : List va_W).flatten) X I 3 4 rfl rfl (nI_clamp (by omega)) (nI_pos (by omega)) (by omega) rfl dX12_oneKept_76 (fun H locs I => ?_)
  refine lv_aload_n hx hb dX12_oneKept_77 rfl (lv_at hl 2 rfl) ?_
  refine fb_get X I (k := 3) (v := .ref (zr 3)) fu_X12 0 fb_h12 rfl (Nat.le_of_ble_eq_true rfl) fw_1967 rfl rfl dX12_oneKept_78 ?_
  refine lv_iconst (v := (0 : Int32)) hx hb dX12_oneKept_81 (by decide) ?_
  refine lv_aload_n hx hb dX12_oneKept_82 rfl (lv_at hl 2 rfl) ?_
  refine fb_get X I (k := 1) (v := .ref (zr 1)) fu_X12 0 fb_h12 rfl (Nat.le_of_ble_eq_true rfl) fw_1965 rfl rfl dX12_oneKept_83 ?_
  refine lv_aload_n hx hb dX12_oneKept_86 rfl (lv_at hl 2 rfl) ?_
  refine fb_get X I (k := 2) (v := .int (ze 2)) fu_X12 0 fb_h12 rfl (Nat.le_of_ble_eq_true rfl) fw_1966 rfl rfl dX12_oneKept_87 ?_
  refine fb_tI (v := (nI zs)) h2 ?_
  refine fb_ldH (k := zs) (v := x5) X I 3 rfl (nI_clamp (by omega)) (nI_pos (by omega)) (by omega) (va_up_self _ _ _) dX12_oneKept_90 ?_
  refine lv_iconst (v := (0 : Int32)) hx hb dX12_oneKept_91 (by decide) ?_
  refine lv_aload_n hx hb dX12_oneKept_92 rfl (lv_at hl 2 rfl) ?_
  refine fb_get X I (k := 4) (v := .int (nI ((((0 + 2) + 2) + 2) + 2))) fu_X12 0 fb_h12 rfl (Nat.le_of_ble_eq_true rfl) fw_1968 rfl rfl dX12_oneKept_93 ?_
  refine fb_tI (v := (8 : Int32)) rfl ?_
  refine fb_copy (wn := ([fb_o12 za zr (upd (upd (upd (upd (upd (upd (upd (upd (upd (upd ze 5 (1 : Int32)) 6 (0 : Int32)) 7 (0 : Int32)) 4 (0 : Int32)) 4 (nI (0 + 2))) 4 (nI ((0 + 2) + 2))) 4 (nI (((0 + 2) + 2) + 2))) 6 (1 : Int32)) 4 (nI ((((0 + 2) + 2) + 2) + 2))) 5 (0 : Int32)), fb_aw cI (zr 0) 16205 (fr_m w1_0 (zk + 1)), fb_aw cI (zr 3) 64 w1_1, fb_qh D (zr 1) 200 (va_up zh zs (some x5)), fb_aw cI x5 8 (va_cpy w1_1 (fun _ => 0) 0 0 8), zhs] : List va_W).flatten) X I hl fw_2337 fw_1131 fw_1130 fw_216 2 4 0 0 rfl rfl rfl rfl (by decide) (by decide) (by decide) (by decide) (by decide) rfl (Nat.le_of_ble_eq_true rfl) (Nat.le_of_ble_eq_true rfl) dX12_oneKept_96 (fun H locs I => ?_)
  refine lv_aload_n hx hb dX12_oneKept_99 rfl (lv_at hl 2 rfl) ?_
  refine lv_dup hx hb dX12_oneKept_100 rfl ?_
  refine fb_get X I (k := 2) (v := .int (ze 2)) fu_X12 0 fb_h12 rfl (Nat.le_of_ble_eq_true rfl) fw_1966 rfl rfl dX12_oneKept_101 ?_
  refine fb_tI (v := (nI zs)) h2 ?_
  refine lv_iconst (v := (1 : Int32)) hx hb dX12_oneKept_104 (by decide) ?_
  refine lv_iadd hx hb dX12_oneKept_105 ?_
  refine fb_tI (v := (nI (zs + 1))) (nI_add zs 1) ?_
  refine fb_put X I (k := 2) (wn := ([fb_o12 za zr (upd (upd (upd (upd (upd (upd (upd (upd (upd (upd (upd ze 5 (1 : Int32)) 6 (0 : Int32)) 7 (0 : Int32)) 4 (0 : Int32)) 4 (nI (0 + 2))) 4 (nI ((0 + 2) + 2))) 4 (nI (((0 + 2) + 2) + 2))) 6 (1 : Int32)) 4 (nI ((((0 + 2) + 2) + 2) + 2))) 5 (0 : Int32)) 2 (nI (zs + 1))), fb_aw cI (zr 0) 16205 (fr_m w1_0 (zk + 1)), fb_aw cI (zr 3) 64 w1_1, fb_qh D (zr 1) 200 (va_up zh zs (some x5)), fb_aw cI x5 8 (va_cpy w1_1 (fun _ => 0) 0 0 8), zhs] : List va_W).flatten) fu_X12 tyX12 tyX12_ok nmX12 0 fb_h12 rfl (Nat.le_of_ble_eq_true rfl) fw_1966 rfl rfl rfl rfl rfl (Nat.le_of_ble_eq_true rfl) fb_r12_2 dX12_oneKept_106 (fun H locs I => ?_)
  refine lv_iload_n hx hb dX12_oneKept_109 rfl (lv_at hl 0 rfl) ?_
  have hq9 : fr_hok cI (va_up zh zs (some x5)) (fb_aw cI x5 8 (va_cpy w1_1 (fun _ => 0) 0 0 8) ++ zhs) := fr_hok_put _ _ _ _ hh
  have I : fb_In D A s.heap (([fb_o12 za zr (upd (upd (upd (upd (upd (upd (upd (upd (upd (upd (upd ze 5 (1 : Int32)) 6 (0 : Int32)) 7 (0 : Int32)) 4 (0 : Int32)) 4 (nI (0 + 2))) 4 (nI ((0 + 2) + 2))) 4 (nI (((0 + 2) + 2) + 2))) 6 (1 : Int32)) 4 (nI ((((0 + 2) + 2) + 2) + 2))) 5 (0 : Int32)) 2 (nI (zs + 1))), fb_aw cI (zr 0) 16205 (fr_m w1_0 (zk + 1)), fb_aw cI (zr 3) 64 w1_1, fb_qh D (zr 1) 200 (va_up zh zs (some x5)), (fb_aw cI x5 8 (va_cpy w1_1 (fun _ => 0) 0 0 8) ++ zhs)] : List va_W).flatten) H locs := I
  obtain ⟨w6, ew6⟩ : ∃ z : (Nat → Option Nat), (va_up zh zs (some x5)) = z := ⟨_, rfl⟩
  rw [ew6] at I hq9
  obtain ⟨w7, ew7⟩ : ∃ z : va_W, (fb_aw cI x5 8 (va_cpy w1_1 (fun _ => 0) 0 0 8) ++ zhs) = z := ⟨_, rfl⟩
  rw [ew7] at I hq9
  obtain ⟨w8, ew8⟩ : ∃ z : fb_AR, (upd (upd (upd (upd (upd (upd (upd (upd (upd (upd (upd ze 5 (1 : Int32)) 6 (0 : Int32)) 7 (0 : Int32)) 4 (0 : Int32)) 4 (nI (0 + 2))) 4 (nI ((0 + 2) + 2))) 4 (nI (((0 + 2) + 2) + 2))) 6 (1 : Int32)) 4 (nI ((((0 + 2) + 2) + 2) + 2))) 5 (0 : Int32)) 2 (nI (zs + 1))) = z := ⟨_, rfl⟩
  have hp9 : fr_kp ze w8 := by rw [← ew8]; exact ⟨⟨(zs + 1), by omega, rfl⟩, rfl, rfl, fun k a b c d e => by simp only [upd, if_neg a, if_neg b, if_neg c, if_neg d, if_neg e]⟩
  rw [ew8] at I
  refine W.widen (k := 1) (n := 8) (by omega) (by omega) ?_
  exact fb_retI (u := (w8, w1_0, w1_1, w6, w7)) X I ⟨rfl, ⟨hp9, hq9⟩⟩ rfl dX12_oneKept_110

set_option maxHeartbeats 4000000 in
set_option maxRecDepth 100000 in
theorem c_oneKept_b (l : Launch) (D : va_G) (cI cJ : ClassId) (za : Nat) (zr : Nat → Nat) (ze : fb_AR) (zt : fb_AR) (zk : Nat) (zl : fb_AR) (zh : Nat → Option Nat) (zhs : va_W) (zs : Nat) (sz : Nat) (hk : zk < 1000000) (h2 : ze 2 = (200 : Int32)) (hs : zs = 200) (hh : fr_hok cI zh zhs) : Met l yX12_oneKept (Cond.code yX12_oneKept cX12_oneKept 3 (some .int) :: fb_all) ({ frames := 10, cells := 1, slots := 8, locals := 200 } : Room) (fb_PP D (fb_ty D cI cJ) [.ref za] (([fb_o12 za zr ze, fb_aw cI (zr 0) 16205 (fr_m zt zk), fb_aw cI (zr 3) 64 zl, fb_qh D (zr 1) 200 zh, zhs] : List va_W).flatten) sz) (fb_QI D (va_A (([fb_o12 za zr ze, fb_aw cI (zr 0) 16205 (fr_m zt zk), fb_aw cI (zr 3) 64 zl, fb_qh D (zr 1) 200 zh, zhs] : List va_W).flatten) sz) (fun (r : Int32) (t : fb_AR × fb_AR × fb_AR × (Nat → Option Nat) × va_W) => r = (1 : Int32) ∧ fr_kp ze (t.1) ∧ fr_hok cI (t.2.2.2.1) (t.2.2.2.2)) (fun (t : fb_AR × fb_AR × fb_AR × (Nat → Option Nat) × va_W) => ([fb_o12 za zr (t.1), fb_aw cI (zr 0) 16205 (fr_m (t.2.1) (zk + 1)), fb_aw cI (zr 3) 64 (t.2.2.1), fb_qh D (zr 1) 200 (t.2.2.2.1), (t.2.2.2.2)] : List va_W).flatten)) 1 8 (va_A (([fb_o12 za zr ze, fb_aw cI (zr 0) 16205 (fr_m zt zk), fb_aw cI (zr 3) 64 zl, fb_qh D (zr 1) 200 zh, zhs] : List va_W).flatten) sz) := by
  refine fb_ent (Qf := fun A => (fb_QI D A (fun (r : Int32) (t : fb_AR × fb_AR × fb_AR × (Nat → Option Nat) × va_W) => r = (1 : Int32) ∧ fr_kp ze (t.1) ∧ fr_hok cI (t.2.2.2.1) (t.2.2.2.2)) (fun (t : fb_AR × fb_AR × fb_AR × (Nat → Option Nat) × va_W) => ([fb_o12 za zr (t.1), fb_aw cI (zr 0) 16205 (fr_m (t.2.1) (zk + 1)), fb_aw cI (zr 3) 64 (t.2.2.1), fb_qh D (zr 1) 200 (t.2.2.2.1), (t.2.2.2.2)] : List va_W).flatten))) (by decide +kernel) (Nat.le_of_ble_eq_true rfl) ?_
  intro p e s m args below meth c A ls X I hl hin
  obtain ⟨hx, hb, hr, hml, hown, hts, hlk, hA, hK, hF⟩ := id X
  have hl : lv_has ls 3 [(0, .ref za)] := hl
  refine lv_aload_n hx hb dX12_oneKept_0 rfl (lv_at hl 0 rfl) ?_
  refine fb_gO (cs := [fb_o12 za zr ze, fb_aw cI (zr 0) 16205 (fr_m zt zk)]) (rs := [fb_aw cI (zr 3) 64 zl, fb_qh D (zr 1) 200 zh, zhs]) X I [0, 1, 2, 3, 4] 5 rfl (by decide +kernel) rfl rfl (fun I => fb_rV (As := []) (rest := []) X hl (fb_goodV fw_2406 fw_2408 fw_139 fw_204 fw_2409) (c_isOver l D cI cJ za zr ze (fr_m zt zk) _ rfl) rfl rfl rfl (by decide +kernel : fb_hd yX12_isOver 0) ⟨Nat.le_of_ble_eq_true rfl, Nat.le_of_ble_eq_true rfl⟩ rfl rfl rfl rfl rfl (Nat.le_of_ble_eq_true rfl) ⟨Nat.zero_le _, Nat.zero_le _⟩ dX12_oneKept_1 I) ?_
  refine lv_istore_n (lv' := [(1, .int (0 : Int32)), (0, .ref za)]) hx hb dX12_oneKept_4 rfl hl (by decide) rfl (fun ls hl => ?_)
  refine lv_aload_n hx hb dX12_oneKept_5 rfl (lv_at hl 1 rfl) ?_
  refine lv_iconst (v := (1 : Int32)) hx hb dX12_oneKept_6 (by decide) ?_
  refine fb_put X I (k := 5) (wn := ([fb_o12 za zr (upd ze 5 (1 : Int32)), fb_aw cI (zr 0) 16205 (fr_m zt zk), fb_aw cI (zr 3) 64 zl, fb_qh D (zr 1) 200 zh, zhs] : List va_W).flatten) fu_X12 tyX12 tyX12_ok nmX12 0 fb_h12 rfl (Nat.le_of_ble_eq_true rfl) fw_1969 rfl rfl rfl rfl rfl (Nat.le_of_ble_eq_true rfl) fb_r12_5 dX12_oneKept_7 (fun H locs I => ?_)
  refine lv_aload_n hx hb dX12_oneKept_10 rfl (lv_at hl 1 rfl) ?_
  refine fb_gI (cs := [fb_o12 za zr (upd ze 5 (1 : Int32)), fb_aw cI (zr 0) 16205 (fr_m zt zk), fb_aw cI (zr 3) 64 zl]) (rs := [fb_qh D (zr 1) 200 zh, zhs]) (fun (t : fb_AR × fb_AR) => [fb_o12 za zr (upd (upd (upd (upd (upd (upd (upd (upd (upd ze 5 (1 : Int32)) 6 (0 : Int32)) 7 (0 : Int32)) 4 (0 : Int32)) 4 (nI (0 + 2))) 4 (nI ((0 + 2) + 2))) 4 (nI (((0 + 2) + 2) + 2))) 6 (1 : Int32)) 4 (nI ((((0 + 2) + 2) + 2) + 2))), fb_aw cI (zr 0) 16205 (fr_m (t.1) (zk + 1)), fb_aw cI (zr 3) 64 (t.2), fb_qh D (zr 1) 200 zh, zhs]) (fun (t : fb_AR × fb_AR) => [fb_o12 za zr (upd (upd (upd (upd (upd (upd (upd (upd (upd ze 5 (1 : Int32)) 6 (0 : Int32)) 7 (0 : Int32)) 4 (0 : Int32)) 4 (nI (0 + 2))) 4 (nI ((0 + 2) + 2))) 4 (nI (((0 + 2) + 2) + 2))) 6 (1 : Int32)) 4 (nI ((((0 + 2) + 2) + 2) + 2))), fb_aw cI (zr 0) 16205 (fr_m (t.1) (zk + 1)), fb_aw cI (zr 3) 64 (t.2)]) X I [0, 1, 2, 3, 4] 5 rfl (by decide +kernel) rfl rfl [0, 1, 2, 3, 4] 5 (fun _ => rfl) (by decide +kernel) (fun _ => rfl) (fun _ => rfl) (fun I => fb_rV (As := []) (rest := []) X hl (fb_goodV fw_2410 fw_2412 fw_140 fw_204 fw_2413) (c_one_l l D cI cJ za zr (upd ze 5 (1 : Int32)) zt zk zl _ (by omega) rfl) rfl rfl rfl (by decide +kernel : fb_hd yX12_one 0) ⟨Nat.le_of_ble_eq_true rfl, Nat.le_of_ble_eq_true rfl⟩ rfl rfl rfl rfl rfl (Nat.le_of_ble_eq_true rfl) ⟨Nat.zero_le _, Nat.zero_le _⟩ dX12_oneKept_11 I) ?_
  intro r2 w1 H locs e0 I
  subst e0
  obtain ⟨w1_0, w1_1⟩ := w1
  have I : fb_In D A s.heap (([fb_o12 za zr (upd (upd (upd (upd (upd (upd (upd (upd (upd ze 5 (1 : Int32)) 6 (0 : Int32)) 7 (0 : Int32)) 4 (0 : Int32)) 4 (nI (0 + 2))) 4 (nI ((0 + 2) + 2))) 4 (nI (((0 + 2) + 2) + 2))) 6 (1 : Int32)) 4 (nI ((((0 + 2) + 2) + 2) + 2))), fb_aw cI (zr 0) 16205 (fr_m w1_0 (zk + 1)), fb_aw cI (zr 3) 64 w1_1, fb_qh D (zr 1) 200 zh, zhs] : List va_W).flatten) H locs := I
  refine lv_istore_n (lv' := [(2, .int (1 : Int32)), (1, .int (0 : Int32)), (0, .ref za)]) hx hb dX12_oneKept_14 rfl hl (by decide) rfl (fun ls hl => ?_)
  refine lv_aload_n hx hb dX12_oneKept_15 rfl (lv_at hl 2 rfl) ?_
  refine lv_iconst (v := (0 : Int32)) hx hb dX12_oneKept_16 (by decide) ?_
  refine fb_put X I (k := 5) (wn := ([fb_o12 za zr (upd (upd (upd (upd (upd (upd (upd (upd (upd (upd ze 5 (1 : Int32)) 6 (0 : Int32)) 7 (0 : Int32)) 4 (0 : Int32)) 4 (nI (0 + 2))) 4 (nI ((0 + 2) + 2))) 4 (nI (((0 + 2) + 2) + 2))) 6 (1 : Int32)) 4 (nI ((((0 + 2) + 2) + 2) + 2))) 5 (0 : Int32)), fb_aw cI (zr 0) 16205 (fr_m w1_0 (zk + 1)), fb_aw cI (zr 3) 64 w1_1, fb_qh D (zr 1) 200 zh, zhs] : List va_W).flatten) fu_X12 tyX12 tyX12_ok nmX12 0 fb_h12 rfl (Nat.le_of_ble_eq_true rfl) fw_1969 rfl rfl rfl rfl rfl (Nat.le_of_ble_eq_true rfl) fb_r12_5 dX12_oneKept_17 (fun H locs I => ?_)
  refine lv_iload_n hx hb dX12_oneKept_20 rfl (lv_at hl 1 rfl) ?_
  refine lv_if_eq (tgt := 26) hx hb dX12_oneKept_21 (by decide) (fun _ => ?_) (fun c3 => absurd (by decide) c3)
  refine lv_aload_n hx hb dX12_oneKept_26 rfl (lv_at hl 2 rfl) ?_
  refine fb_get X I (k := 2) (v := .int (ze 2)) fu_X12 0 fb_h12 rfl (Nat.le_of_ble_eq_true rfl) fw_1966 rfl rfl dX12_oneKept_27 ?_
  refine fb_tI (v := (200 : Int32)) h2 ?_
  refine lv_sipush (v := (200 : Int32)) hx hb dX12_oneKept_30 (by decide) ?_
  refine lv_icmp_ne (tgt := 62) hx hb dX12_oneKept_33 (by decide) (fun c4 => absurd (by decide) c4) (fun _ => ?_)
  refine lv_aload_n hx hb dX12_oneKept_36 rfl (lv_at hl 2 rfl) ?_
  refine fb_get X I (k := 1) (v := .ref (zr 1)) fu_X12 0 fb_h12 rfl (Nat.le_of_ble_eq_true rfl) fw_1965 rfl rfl dX12_oneKept_37 ?_
  refine lv_iconst (v := (1 : Int32)) hx hb dX12_oneKept_40 (by decide) ?_
  refine lv_aload_n hx hb dX12_oneKept_41 rfl (lv_at hl 2 rfl) ?_
  refine fb_get X I (k := 1) (v := .ref (zr 1)) fu_X12 0 fb_h12 rfl (Nat.le_of_ble_eq_true rfl) fw_1965 rfl rfl dX12_oneKept_42 ?_
  refine lv_iconst (v := (0 : Int32)) hx hb dX12_oneKept_45 (by decide) ?_
  refine lv_sipush (v := (199 : Int32)) hx hb dX12_oneKept_46 (by decide) ?_
  refine fb_cpH (wn := ([fb_o12 za zr (upd (upd (upd (upd (upd (upd (upd (upd (upd (upd ze 5 (1 : Int32)) 6 (0 : Int32)) 7 (0 : Int32)) 4 (0 : Int32)) 4 (nI (0 + 2))) 4 (nI ((0 + 2) + 2))) 4 (nI (((0 + 2) + 2) + 2))) 6 (1 : Int32)) 4 (nI ((((0 + 2) + 2) + 2) + 2))) 5 (0 : Int32)), fb_aw cI (zr 0) 16205 (fr_m w1_0 (zk + 1)), fb_aw cI (zr 3) 64 w1_1, fb_qh D (zr 1) 200 (va_cpy zh zh 1 0 199), zhs] : List va_W).flatten) X I hl fw_2337 fw_1131 fw_1130 fw_216 3 rfl (by decide) (by decide) (by decide) (by decide) (by decide) (fun i _ y hy => fr_hel hh hy) rfl (Nat.le_of_ble_eq_true rfl) (Nat.le_of_ble_eq_true rfl) dX12_oneKept_49 (fun H locs I => ?_)
  refine lv_aload_n hx hb dX12_oneKept_52 rfl (lv_at hl 2 rfl) ?_
  refine lv_dup hx hb dX12_oneKept_53 rfl ?_
  refine fb_get X I (k := 2) (v := .int (ze 2)) fu_X12 0 fb_h12 rfl (Nat.le_of_ble_eq_true rfl) fw_1966 rfl rfl dX12_oneKept_54 ?_
  refine fb_tI (v := (200 : Int32)) h2 ?_
  refine lv_iconst (v := (1 : Int32)) hx hb dX12_oneKept_57 (by decide) ?_
  refine lv_isub hx hb dX12_oneKept_58 ?_
  refine fb_tI (v := (199 : Int32)) (by decide) ?_
  refine fb_put X I (k := 2) (wn := ([fb_o12 za zr (upd (upd (upd (upd (upd (upd (upd (upd (upd (upd (upd ze 5 (1 : Int32)) 6 (0 : Int32)) 7 (0 : Int32)) 4 (0 : Int32)) 4 (nI (0 + 2))) 4 (nI ((0 + 2) + 2))) 4 (nI (((0 + 2) + 2) + 2))) 6 (1 : Int32)) 4 (nI ((((0 + 2) + 2) + 2) + 2))) 5 (0 : Int32)) 2 (199 : Int32)), fb_aw cI (zr 0) 16205 (fr_m w1_0 (zk + 1)), fb_aw cI (zr 3) 64 w1_1, fb_qh D (zr 1) 200 (va_cpy zh zh 1 0 199), zhs] : List va_W).flatten) fu_X12 tyX12 tyX12_ok nmX12 0 fb_h12 rfl (Nat.le_of_ble_eq_true rfl) fw_1966 rfl rfl rfl rfl rfl (Nat.le_of_ble_eq_true rfl) fb_r12_2 dX12_oneKept_59 (fun H locs I => ?_)
  refine lv_aload_n hx hb dX12_oneKept_62 rfl (lv_at hl 2 rfl) ?_
  refine fb_get X I (k := 1) (v := .ref (zr 1)) fu_X12 0 fb_h12 rfl (Nat.le_of_ble_eq_true rfl) fw_1965 rfl rfl dX12_oneKept_63 ?_
  refine lv_aload_n hx hb dX12_oneKept_66 rfl (lv_at hl 2 rfl) ?_
  refine fb_get X I (k := 2) (v := .int (199 : Int32)) fu_X12 0 fb_h12 rfl (Nat.le_of_ble_eq_true rfl) fw_1966 rfl rfl dX12_oneKept_67 ?_
  refine lv_aload_n hx hb dX12_oneKept_70 rfl (lv_at hl 2 rfl) ?_
  refine fb_get X I (k := 4) (v := .int (nI ((((0 + 2) + 2) + 2) + 2))) fu_X12 0 fb_h12 rfl (Nat.le_of_ble_eq_true rfl) fw_1968 rfl rfl dX12_oneKept_71 ?_
  refine fb_tI (v := (8 : Int32)) rfl ?_
  refine fb_nI (N := 8) X I fw_261 (by decide) (Nat.le_of_ble_eq_true rfl) (Nat.le_of_ble_eq_true rfl) (Nat.le_of_ble_eq_true rfl) dX12_oneKept_74 (fun x5 H I => ?_)
  have I : fb_In D A s.heap (([fb_o12 za zr (upd (upd (upd (upd (upd (upd (upd (upd (upd (upd (upd ze 5 (1 : Int32)) 6 (0 : Int32)) 7 (0 : Int32)) 4 (0 : Int32)) 4 (nI (0 + 2))) 4 (nI ((0 + 2) + 2))) 4 (nI (((0 + 2) + 2) + 2))) 6 (1 : Int32)) 4 (nI ((((0 + 2) + 2) + 2) + 2))) 5 (0 : Int32)) 2 (199 : Int32)), fb_aw cI (zr 0) 16205 (fr_m w1_0 (zk + 1)), fb_aw cI (zr 3) 64 w1_1, fb_qh D (zr 1) 200 (va_cpy zh zh 1 0 199), zhs, fb_aw cI x5 8 (fun _ => 0)] : List va_W).flatten) H _ := I
  have I : fb_In D A s.heap (([fb_o12 za zr (upd (upd (upd (upd (upd (upd (upd (upd (upd (upd (upd ze 5 (1 : Int32)) 6 (0 : Int32)) 7 (0 : Int32)) 4 (0 : Int32)) 4 (nI (0 + 2))) 4 (nI ((0 + 2) + 2))) 4 (nI (((0 + 2) + 2) + 2))) 6 (1 : Int32)) 4 (nI ((((0 + 2) + 2) + 2) + 2))) 5 (0 : Int32)) 2 (199 : Int32)), fb_aw cI (zr 0) 16205 (fr_m w1_0 (zk + 1)), fb_aw cI (zr 3) 64 w1_1, fb_qh D (zr 1) 200 (va_cpy zh zh 1 0 199), fb_aw cI x5 8 (fun _ => 0), zhs] : List va_W).flatten) H _ := fb_permB (bs := [fb_o12 za zr (upd (upd (upd (upd (upd (upd (upd (upd (upd (upd (upd ze 5 (1 : Int32)) 6 (0 : Int32)) 7 (0 : Int32)) 4 (0 : Int32)) 4 (nI (0 + 2))) 4 (nI ((0 + 2) + 2))) 4 (nI (((0 + 2) + 2) + 2))) 6 (1 : Int32)) 4 (nI ((((0 + 2) + 2) + 2) + 2))) 5 (0 : Int32)) 2 (199 : Int32)), fb_aw cI (zr 0) 16205 (fr_m w1_0 (zk + 1)), fb_aw cI (zr 3) 64 w1_1, fb_qh D (zr 1) 200 (va_cpy zh zh 1 0 199), zhs, fb_aw cI x5 8 (fun _ => 0)]) (bs' := [fb_o12 za zr (upd (upd (upd (upd (upd (upd (upd (upd (upd (upd (upd ze 5 (1 : Int32)) 6 (0 : Int32)) 7 (0 : Int32)) 4 (0 : Int32)) 4 (nI (0 + 2))) 4 (nI ((0 + 2) + 2))) 4 (nI (((0 + 2) + 2) + 2))) 6 (1 : Int32)) 4 (nI ((((0 + 2) + 2) + 2) + 2))) 5 (0 : Int32)) 2 (199 : Int32)), fb_aw cI (zr 0) 16205 (fr_m w1_0 (zk + 1)), fb_aw cI (zr 3) 64 w1_1, fb_qh D (zr 1) 200 (va_cpy zh zh 1 0 199), fb_aw cI x5 8 (fun _ => 0), zhs]) I 6 rfl [0, 1, 2, 3, 5, 4] (by decide +kernel) rfl
  refine fb_stH (k := 199) (wn := ([fb_o12 za zr (upd (upd (upd (upd (upd (upd (upd (upd (upd (upd (upd ze 5 (1 : Int32)) 6 (0 : Int32)) 7 (0 : Int32)) 4 (0 : Int32)) 4 (nI (0 + 2))) 4 (nI ((0 + 2) + 2))) 4 (nI (((0 + 2) + 2) + 2))) 6 (1 : Int32)) 4 (nI ((((0 + 2) + 2) + 2) + 2))) 5 (0 : Int32)) 2 (199 : Int32)), fb_aw cI (zr 0) 16205 (fr_m w1_0 (zk + 1)), fb_aw cI (zr 3) 64 w1_1, fb_qh D (zr 1) 200 (va_up (va_cpy zh zh 1 0 199) 199 (some x5)), fb_aw cI x5 8 (fun _ => 0), zhs] : List va_W).flatten) X I 3 4 rfl rfl (by decide) (by decide) (Nat.le_of_ble_eq_true rfl) rfl dX12_oneKept_76 (fun H locs I => ?_)
  refine lv_aload_n hx hb dX12_oneKept_77 rfl (lv_at hl 2 rfl) ?_
  refine fb_get X I (k := 3) (v := .ref (zr 3)) fu_X12 0 fb_h12 rfl (Nat.le_of_ble_eq_true rfl) fw_1967 rfl rfl dX12_oneKept_78 ?_
  refine lv_iconst (v := (0 : Int32)) hx hb dX12_oneKept_81 (by decide) ?_
  refine lv_aload_n hx hb dX12_oneKept_82 rfl (lv_at hl 2 rfl) ?_
  refine fb_get X I (k := 1) (v := .ref (zr 1)) fu_X12 0 fb_h12 rfl (Nat.le_of_ble_eq_true rfl) fw_1965 rfl rfl dX12_oneKept_83 ?_
  refine lv_aload_n hx hb dX12_oneKept_86 rfl (lv_at hl 2 rfl) ?_
  refine fb_get X I (k := 2) (v := .int (199 : Int32)) fu_X12 0 fb_h12 rfl (Nat.le_of_ble_eq_true rfl) fw_1966 rfl rfl dX12_oneKept_87 ?_
  refine fb_ldH (k := 199) (v := x5) X I 3 rfl (by decide) (by decide) (Nat.le_of_ble_eq_true rfl) (va_up_self _ _ _) dX12_oneKept_90 ?_
  refine lv_iconst (v := (0 : Int32)) hx hb dX12_oneKept_91 (by decide) ?_
  refine lv_aload_n hx hb dX12_oneKept_92 rfl (lv_at hl 2 rfl) ?_
  refine fb_get X I (k := 4) (v := .int (nI ((((0 + 2) + 2) + 2) + 2))) fu_X12 0 fb_h12 rfl (Nat.le_of_ble_eq_true rfl) fw_1968 rfl rfl dX12_oneKept_93 ?_
  refine fb_tI (v := (8 : Int32)) rfl ?_
  refine fb_copy (wn := ([fb_o12 za zr (upd (upd (upd (upd (upd (upd (upd (upd (upd (upd (upd ze 5 (1 : Int32)) 6 (0 : Int32)) 7 (0 : Int32)) 4 (0 : Int32)) 4 (nI (0 + 2))) 4 (nI ((0 + 2) + 2))) 4 (nI (((0 + 2) + 2) + 2))) 6 (1 : Int32)) 4 (nI ((((0 + 2) + 2) + 2) + 2))) 5 (0 : Int32)) 2 (199 : Int32)), fb_aw cI (zr 0) 16205 (fr_m w1_0 (zk + 1)), fb_aw cI (zr 3) 64 w1_1, fb_qh D (zr 1) 200 (va_up (va_cpy zh zh 1 0 199) 199 (some x5)), fb_aw cI x5 8 (va_cpy w1_1 (fun _ => 0) 0 0 8), zhs] : List va_W).flatten) X I hl fw_2337 fw_1131 fw_1130 fw_216 2 4 0 0 rfl rfl rfl rfl (by decide) (by decide) (by decide) (by decide) (by decide) rfl (Nat.le_of_ble_eq_true rfl) (Nat.le_of_ble_eq_true rfl) dX12_oneKept_96 (fun H locs I => ?_)
  refine lv_aload_n hx hb dX12_oneKept_99 rfl (lv_at hl 2 rfl) ?_
  refine lv_dup hx hb dX12_oneKept_100 rfl ?_
  refine fb_get X I (k := 2) (v := .int (199 : Int32)) fu_X12 0 fb_h12 rfl (Nat.le_of_ble_eq_true rfl) fw_1966 rfl rfl dX12_oneKept_101 ?_
  refine lv_iconst (v := (1 : Int32)) hx hb dX12_oneKept_104 (by decide) ?_
  refine lv_iadd hx hb dX12_oneKept_105 ?_
  refine fb_tI (v := (200 : Int32)) (by decide) ?_
  refine fb_put X I (k := 2) (wn := ([fb_o12 za zr (upd (upd (upd (upd (upd (upd (upd (upd (upd (upd (upd (upd ze 5 (1 : Int32)) 6 (0 : Int32)) 7 (0 : Int32)) 4 (0 : Int32)) 4 (nI (0 + 2))) 4 (nI ((0 + 2) + 2))) 4 (nI (((0 + 2) + 2) + 2))) 6 (1 : Int32)) 4 (nI ((((0 + 2) + 2) + 2) + 2))) 5 (0 : Int32)) 2 (199 : Int32)) 2 (200 : Int32)), fb_aw cI (zr 0) 16205 (fr_m w1_0 (zk + 1)), fb_aw cI (zr 3) 64 w1_1, fb_qh D (zr 1) 200 (va_up (va_cpy zh zh 1 0 199) 199 (some x5)), fb_aw cI x5 8 (va_cpy w1_1 (fun _ => 0) 0 0 8), zhs] : List va_W).flatten) fu_X12 tyX12 tyX12_ok nmX12 0 fb_h12 rfl (Nat.le_of_ble_eq_true rfl) fw_1966 rfl rfl rfl rfl rfl (Nat.le_of_ble_eq_true rfl) fb_r12_2 dX12_oneKept_106 (fun H locs I => ?_)
  refine lv_iload_n hx hb dX12_oneKept_109 rfl (lv_at hl 0 rfl) ?_
  have hq9 : fr_hok cI (va_up (va_cpy zh zh 1 0 199) 199 (some x5)) (fb_aw cI x5 8 (va_cpy w1_1 (fun _ => 0) 0 0 8) ++ zhs) := fr_hok_put _ _ _ _ (fr_hok_cpy hh)
  have I : fb_In D A s.heap (([fb_o12 za zr (upd (upd (upd (upd (upd (upd (upd (upd (upd (upd (upd (upd ze 5 (1 : Int32)) 6 (0 : Int32)) 7 (0 : Int32)) 4 (0 : Int32)) 4 (nI (0 + 2))) 4 (nI ((0 + 2) + 2))) 4 (nI (((0 + 2) + 2) + 2))) 6 (1 : Int32)) 4 (nI ((((0 + 2) + 2) + 2) + 2))) 5 (0 : Int32)) 2 (199 : Int32)) 2 (200 : Int32)), fb_aw cI (zr 0) 16205 (fr_m w1_0 (zk + 1)), fb_aw cI (zr 3) 64 w1_1, fb_qh D (zr 1) 200 (va_up (va_cpy zh zh 1 0 199) 199 (some x5)), (fb_aw cI x5 8 (va_cpy w1_1 (fun _ => 0) 0 0 8) ++ zhs)] : List va_W).flatten) H locs := I
  obtain ⟨w6, ew6⟩ : ∃ z : (Nat → Option Nat), (va_up (va_cpy zh zh 1 0 199) 199 (some x5)) = z := ⟨_, rfl⟩
  rw [ew6] at I hq9
  obtain ⟨w7, ew7⟩ : ∃ z : va_W, (fb_aw cI x5 8 (va_cpy w1_1 (fun _ => 0) 0 0 8) ++ zhs) = z := ⟨_, rfl⟩
  rw [ew7] at I hq9
  obtain ⟨w8, ew8⟩ : ∃ z : fb_AR, (upd (upd (upd (upd (upd (upd (upd (upd (upd (upd (upd (upd ze 5 (1 : Int32)) 6 (0 : Int32)) 7 (0 : Int32)) 4 (0 : Int32)) 4 (nI (0 + 2))) 4 (nI ((0 + 2) + 2))) 4 (nI (((0 + 2) + 2) + 2))) 6 (1 : Int32)) 4 (nI ((((0 + 2) + 2) + 2) + 2))) 5 (0 : Int32)) 2 (199 : Int32)) 2 (200 : Int32)) = z := ⟨_, rfl⟩
  have hp9 : fr_kp ze w8 := by rw [← ew8]; exact ⟨⟨200, Nat.le_refl _, rfl⟩, rfl, rfl, fun k a b c d e => by simp only [upd, if_neg a, if_neg b, if_neg c, if_neg d, if_neg e]⟩
  rw [ew8] at I
  refine W.widen (k := 1) (n := 8) (by omega) (by omega) ?_
  exact fb_retI (u := (w8, w1_0, w1_1, w6, w7)) X I ⟨rfl, ⟨hp9, hq9⟩⟩ rfl dX12_oneKept_110

theorem c_oneKept (l : Launch) (D : va_G) (cI cJ : ClassId) (za : Nat) (zr : Nat → Nat) (ze : fb_AR) (zt : fb_AR) (zk : Nat) (zl : fb_AR) (zh : Nat → Option Nat) (zhs : va_W) (zs : Nat) (sz : Nat) (hk : zk < 1000000) (h2 : ze 2 = (nI zs)) (hs : zs ≤ 200) (hh : fr_hok cI zh zhs) : Met l yX12_oneKept (Cond.code yX12_oneKept cX12_oneKept 3 (some .int) :: fb_all) ({ frames := 10, cells := 1, slots := 8, locals := 200 } : Room) (fb_PP D (fb_ty D cI cJ) [.ref za] (([fb_o12 za zr ze, fb_aw cI (zr 0) 16205 (fr_m zt zk), fb_aw cI (zr 3) 64 zl, fb_qh D (zr 1) 200 zh, zhs] : List va_W).flatten) sz) (fb_QI D (va_A (([fb_o12 za zr ze, fb_aw cI (zr 0) 16205 (fr_m zt zk), fb_aw cI (zr 3) 64 zl, fb_qh D (zr 1) 200 zh, zhs] : List va_W).flatten) sz) (fun (r : Int32) (t : fb_AR × fb_AR × fb_AR × (Nat → Option Nat) × va_W) => r = (1 : Int32) ∧ fr_kp ze (t.1) ∧ fr_hok cI (t.2.2.2.1) (t.2.2.2.2)) (fun (t : fb_AR × fb_AR × fb_AR × (Nat → Option Nat) × va_W) => ([fb_o12 za zr (t.1), fb_aw cI (zr 0) 16205 (fr_m (t.2.1) (zk + 1)), fb_aw cI (zr 3) 64 (t.2.2.1), fb_qh D (zr 1) 200 (t.2.2.2.1), (t.2.2.2.2)] : List va_W).flatten)) 1 8 (va_A (([fb_o12 za zr ze, fb_aw cI (zr 0) 16205 (fr_m zt zk), fb_aw cI (zr 3) 64 zl, fb_qh D (zr 1) 200 zh, zhs] : List va_W).flatten) sz) := by
  rcases Nat.lt_or_ge zs 200 with q | q
  · exact c_oneKept_a l D cI cJ za zr ze zt zk zl zh zhs zs sz hk h2 q hh
  · obtain rfl : zs = 200 := by omega
    exact c_oneKept_b l D cI cJ za zr ze zt zk zl zh zhs 200 sz hk h2 rfl hh

set_option maxHeartbeats 4000000 in
set_option maxRecDepth 100000 in
theorem b_go_10 {p : Program} {l : Launch} {e : Env} {s : State} {m : MethodId} {args : Array Value} {below : List Frame} {meth : Method} {c : Code} {D : va_G} {cI cJ : ClassId} {A : Nat → Prop} {za : Nat} {zr : Nat → Nat} {ze : fb_AR} {zt : fb_AR} {zk : Nat} {zl : fb_AR} {zh : Nat → Option Nat} {zhs : va_W} {zs : Nat} {zN : Nat}  (X : fb_Bx p s m args meth c cX12_go RX12 4 (some .int) D (fb_ty D cI cJ) A) (hk : zk + zN < 900000) (hN : zN < 5000) (h2 : ze 2 = (nI zs)) (hs : zs ≤ 200) (hh : fr_hok cI zh zhs) (h13 : ze 13 = (0 : Int32))  : ∀ (n zi : Nat) (hn : zi + n = zN) (zq : fb_AR) (zu : fb_AR) (zv : fb_AR) (zg : (Nat → Option Nat)) (zf : va_W) (i2 : ∃ s : Nat, s ≤ 200 ∧ zq 2 = nI s) (i10 : zq 10 = 0) (i13 : zq 13 = 0) (i19 : zq 19 = ze 19) (ihh : fr_hok cI zg zf) (H : Heap) (locs : List Loc) (ls : Array Slot) (I : fb_In D A s.heap (([fb_o12 za zr zq, fb_aw cI (zr 0) 16205 (fr_m zu (zk + zi)), fb_aw cI (zr 3) 64 zv, fb_qh D (zr 1) 200 zg, zf] : List va_W).flatten) H locs) (hl : lv_has ls 4 [(3, .int (nI zi)), (2, .int (-1 : Int32)), (1, .int (nI (zN + 1))), (0, .ref za)]), W p l e ({ frames := 14, cells := 5000, slots := 40000, locals := 260 } : Room) s m args below meth c H locs ((0 + 1 * zi)) ((0 + 8 * zi)) (MQ below (fb_QI D A (fun (r : Int32) (t : fb_AR × fb_AR × fb_AR × (Nat → Option Nat) × va_W) => r = (nI (zN + 1)) ∧ (upd (t.1) 10 (1 : Int32)) 19 = ze 19) (fun (t : fb_AR × fb_AR × fb_AR × (Nat → Option Nat) × va_W) => ([fb_o12 za zr (upd (t.1) 10 (1 : Int32)), fb_aw cI (zr 0) 16205 (fr_m (t.2.1) ((zk + zN) + 1)), fb_aw cI (zr 3) 64 (t.2.2.1), fb_qh D (zr 1) 200 (t.2.2.2.1), (t.2.2.2.2)] : List va_W).flatten)) args s 5000 40000 A) (F0 m 10 ls []) := by
  intro n
  obtain ⟨hx, hb, hr, hml, hown, hts, hlk, hA, hK, hF⟩ := id X
  induction n with
  | zero =>
    intro zi hn zq zu zv zg zf i2 i10 i13 i19 ihh H locs ls I hl
    have ziE : zN = zi := by omega
    subst ziE
    obtain ⟨zs9, hs9, h29⟩ := i2
    refine lv_aload_n hx hb dX12_go_10 rfl (lv_at hl 3 rfl) ?_
    refine fb_get X I (k := 10) (v := .int (zq 10)) fu_X12 0 fb_h12 rfl (Nat.le_of_ble_eq_true rfl) fw_1974 rfl rfl dX12_go_11 ?_
    refine fb_tI (v := (0 : Int32)) i10 ?_
    refine lv_if_ne (tgt := 105) hx hb dX12_go_14 (by decide) (fun c1 => absurd (by decide) c1) (fun _ => ?_)
    refine lv_iload_n hx hb dX12_go_17 rfl (lv_at hl 0 rfl) ?_
    refine lv_aload_n hx hb dX12_go_18 rfl (lv_at hl 3 rfl) ?_
    refine fb_gI (cs := [fb_o12 za zr zq, fb_aw cI (zr 0) 16205 (fr_m zu (zk + zN)), fb_aw cI (zr 3) 64 zv, fb_qh D (zr 1) 200 zg, zf]) (rs := []) (fun (t : fb_AR × fb_AR × fb_AR × (Nat → Option Nat) × va_W) => [fb_o12 za zr (t.1), fb_aw cI (zr 0) 16205 (fr_m (t.2.1) ((zk + zN) + 1)), fb_aw cI (zr 3) 64 (t.2.2.1), fb_qh D (zr 1) 200 (t.2.2.2.1), (t.2.2.2.2)]) (fun (t : fb_AR × fb_AR × fb_AR × (Nat → Option Nat) × va_W) => [fb_o12 za zr (t.1), fb_aw cI (zr 0) 16205 (fr_m (t.2.1) ((zk + zN) + 1)), fb_aw cI (zr 3) 64 (t.2.2.1), fb_qh D (zr 1) 200 (t.2.2.2.1), (t.2.2.2.2)]) X I [0, 1, 2, 3, 4] 5 rfl (by decide +kernel) rfl rfl [0, 1, 2, 3, 4] 5 (fun _ => rfl) (by decide +kernel) (fun _ => rfl) (fun _ => rfl) (fun I => fb_rV (As := []) (rest := [.int (nI zN)]) X hl (fb_goodV fw_2402 fw_2404 fw_138 fw_204 fw_2405) (c_oneKept l D cI cJ za zr zq zu (zk + zN) zv zg zf zs9 _ (by omega) h29 (by omega) ihh) rfl rfl rfl (by decide +kernel : fb_hd yX12_oneKept 0) ⟨Nat.le_of_ble_eq_true rfl, Nat.le_of_ble_eq_true rfl⟩ rfl rfl rfl rfl rfl (Nat.le_of_ble_eq_true rfl) ⟨by show (0 + 1 * zN) + 1 ≤ 5000; omega, by show (0 + 8 * zN) + 8 ≤ 40000; omega⟩ dX12_go_19 I) ?_
    intro r3 w2 H locs e0 I
    obtain ⟨e9, e0⟩ := e0
    subst e9
    obtain ⟨w2_0, w2_1, w2_2, w2_3, w2_4⟩ := w2
    have p4 : fr_kp zq w2_0 ∧ fr_hok cI w2_3 w2_4 := e0
    have I : fb_In D A s.heap (([fb_o12 za zr w2_0, fb_aw cI (zr 0) 16205 (fr_m w2_1 ((zk + zN) + 1)), fb_aw cI (zr 3) 64 w2_2, fb_qh D (zr 1) 200 w2_3, w2_4] : List va_W).flatten) H locs := I
    refine lv_iadd hx hb dX12_go_22 ?_
    refine fb_tI (v := (nI (zN + 1))) (nI_add zN 1) ?_
    refine lv_istore_n (lv' := [(3, .int (nI (zN + 1))), (2, .int (-1 : Int32)), (1, .int (nI (zN + 1))), (0, .ref za)]) hx hb dX12_go_23 rfl hl (by decide) rfl (fun ls hl => ?_)
    refine lv_aload_n hx hb dX12_go_24 rfl (lv_at hl 3 rfl) ?_
    refine fb_gO (cs := [fb_o12 za zr w2_0, fb_aw cI (zr 0) 16205 (fr_m w2_1 ((zk + zN) + 1))]) (rs := [fb_aw cI (zr 3) 64 w2_2, fb_qh D (zr 1) 200 w2_3, w2_4]) X I [0, 1, 2, 3, 4] 5 rfl (by decide +kernel) rfl rfl (fun I => fb_rV (As := []) (rest := []) X hl (fb_goodV fw_2570 fw_2572 fw_177 fw_204 fw_2573) (c_over l D cI cJ za zr w2_0 (fr_m w2_1 ((zk + zN) + 1)) _ rfl) rfl rfl rfl (by decide +kernel : fb_hd yX12_over 0) ⟨Nat.le_of_ble_eq_true rfl, Nat.le_of_ble_eq_true rfl⟩ rfl rfl rfl rfl rfl (Nat.le_of_ble_eq_true rfl) ⟨by show (0 + 1 * zN) + 1 + 0 ≤ 5000; omega, by show (0 + 8 * zN) + 8 + 0 ≤ 40000; omega⟩ dX12_go_25 I) ?_
    refine lv_if_le (tgt := 42) hx hb dX12_go_28 (by decide) (fun _ => ?_) (fun c5 => absurd (by decide) c5)
    refine lv_aload_n hx hb dX12_go_42 rfl (lv_at hl 3 rfl) ?_
    refine fb_get X I (k := 0) (v := .ref (zr 0)) fu_X12 0 fb_h12 rfl (Nat.le_of_ble_eq_true rfl) fw_1964 rfl rfl dX12_go_43 ?_
    refine lv_bipush (v := (20 : Int32)) hx hb dX12_go_46 (by decide) ?_
    refine fb_iaC (n := 20) (v := (0 : Int32)) X I 1 0 rfl rfl (by decide) (by decide) (Nat.le_of_ble_eq_true rfl) rfl dX12_go_48 ?_
    refine lv_iload_n hx hb dX12_go_49 rfl (lv_at hl 1 rfl) ?_
    refine lv_icmp_gt (tgt := 62) hx hb dX12_go_50 (by decide) (fun _ => ?_) (fun c6 => absurd (by decide) c6)
    refine lv_aload_n hx hb dX12_go_62 rfl (lv_at hl 3 rfl) ?_
    refine fb_get X I (k := 7) (v := .int (w2_0 7)) fu_X12 0 fb_h12 rfl (Nat.le_of_ble_eq_true rfl) fw_1971 rfl rfl dX12_go_63 ?_
    refine fb_tI (v := (0 : Int32)) p4.1.2.2.1 ?_
    refine lv_if_eq (tgt := 77) hx hb dX12_go_66 (by decide) (fun _ => ?_) (fun c7 => absurd (by decide) c7)
    refine lv_iload_n hx hb dX12_go_77 rfl (lv_at hl 0 rfl) ?_
    refine lv_iload_n hx hb dX12_go_78 rfl (lv_at hl 2 rfl) ?_
    refine lv_icmp_lt (tgt := 90) hx hb dX12_go_79 (by decide) (fun c8 => absurd c8 (nI_nlt (a := (zN + 1)) (b := (zN + 1)) (by omega) (by omega))) (fun _ => ?_)
    refine lv_aload_n hx hb dX12_go_82 rfl (lv_at hl 3 rfl) ?_
    refine lv_iconst (v := (1 : Int32)) hx hb dX12_go_83 (by decide) ?_
    refine fb_put X I (k := 10) (wn := ([fb_o12 za zr (upd w2_0 10 (1 : Int32)), fb_aw cI (zr 0) 16205 (fr_m w2_1 ((zk + zN) + 1)), fb_aw cI (zr 3) 64 w2_2, fb_qh D (zr 1) 200 w2_3, w2_4] : List va_W).flatten) fu_X12 tyX12 tyX12_ok nmX12 0 fb_h12 rfl (Nat.le_of_ble_eq_true rfl) fw_1974 rfl rfl rfl rfl rfl (Nat.le_of_ble_eq_true rfl) fb_r12_10 dX12_go_84 (fun H locs I => ?_)
    refine lv_goto (tgt := 10) hx hb dX12_go_87 (by decide) ?_
    refine lv_aload_n hx hb dX12_go_10 rfl (lv_at hl 3 rfl) ?_
    refine fb_get X I (k := 10) (v := .int (1 : Int32)) fu_X12 0 fb_h12 rfl (Nat.le_of_ble_eq_true rfl) fw_1974 rfl rfl dX12_go_11 ?_
    refine lv_if_ne (tgt := 105) hx hb dX12_go_14 (by decide) (fun _ => ?_) (fun c9 => absurd c9 (by decide))
    refine lv_iload_n hx hb dX12_go_105 rfl (lv_at hl 0 rfl) ?_
    refine W.widen (k := 5000) (n := 40000) (by omega) (by omega) ?_
    exact fb_retI (u := (w2_0, w2_1, w2_2, w2_3, w2_4)) X I ⟨rfl, ((p4.1.2.2.2 19 (by decide) (by decide) (by decide) (by decide) (by decide)).trans i19)⟩ rfl dX12_go_106
  | succ n ih =>
    intro zi hn zq zu zv zg zf i2 i10 i13 i19 ihh H locs ls I hl
    have ziL : zi < zN := by omega
    obtain ⟨zs9, hs9, h29⟩ := i2
    refine lv_aload_n hx hb dX12_go_10 rfl (lv_at hl 3 rfl) ?_
    refine fb_get X I (k := 10) (v := .int (zq 10)) fu_X12 0 fb_h12 rfl (Nat.le_of_ble_eq_true rfl) fw_1974 rfl rfl dX12_go_11 ?_
    refine fb_tI (v := (0 : Int32)) i10 ?_
    refine lv_if_ne (tgt := 105) hx hb dX12_go_14 (by decide) (fun c10 => absurd (by decide) c10) (fun _ => ?_)
    refine lv_iload_n hx hb dX12_go_17 rfl (lv_at hl 0 rfl) ?_
    refine lv_aload_n hx hb dX12_go_18 rfl (lv_at hl 3 rfl) ?_
    refine fb_gI (cs := [fb_o12 za zr zq, fb_aw cI (zr 0) 16205 (fr_m zu (zk + zi)), fb_aw cI (zr 3) 64 zv, fb_qh D (zr 1) 200 zg, zf]) (rs := []) (fun (t : fb_AR × fb_AR × fb_AR × (Nat → Option Nat) × va_W) => [fb_o12 za zr (t.1), fb_aw cI (zr 0) 16205 (fr_m (t.2.1) ((zk + zi) + 1)), fb_aw cI (zr 3) 64 (t.2.2.1), fb_qh D (zr 1) 200 (t.2.2.2.1), (t.2.2.2.2)]) (fun (t : fb_AR × fb_AR × fb_AR × (Nat → Option Nat) × va_W) => [fb_o12 za zr (t.1), fb_aw cI (zr 0) 16205 (fr_m (t.2.1) ((zk + zi) + 1)), fb_aw cI (zr 3) 64 (t.2.2.1), fb_qh D (zr 1) 200 (t.2.2.2.1), (t.2.2.2.2)]) X I [0, 1, 2, 3, 4] 5 rfl (by decide +kernel) rfl rfl [0, 1, 2, 3, 4] 5 (fun _ => rfl) (by decide +kernel) (fun _ => rfl) (fun _ => rfl) (fun I => fb_rV (As := []) (rest := [.int (nI zi)]) X hl (fb_goodV fw_2402 fw_2404 fw_138 fw_204 fw_2405) (c_oneKept l D cI cJ za zr zq zu (zk + zi) zv zg zf zs9 _ (by omega) h29 (by omega) ihh) rfl rfl rfl (by decide +kernel : fb_hd yX12_oneKept 0) ⟨Nat.le_of_ble_eq_true rfl, Nat.le_of_ble_eq_true rfl⟩ rfl rfl rfl rfl rfl (Nat.le_of_ble_eq_true rfl) ⟨by show (0 + 1 * zi) + 1 ≤ 5000; omega, by show (0 + 8 * zi) + 8 ≤ 40000; omega⟩ dX12_go_19 I) ?_
    intro r12 w11 H locs e0 I
    obtain ⟨e9, e0⟩ := e0
    subst e9
    obtain ⟨w11_0, w11_1, w11_2, w11_3, w11_4⟩ := w11
    have p13 : fr_kp zq w11_0 ∧ fr_hok cI w11_3 w11_4 := e0
    have I : fb_In D A s.heap (([fb_o12 za zr w11_0, fb_aw cI (zr 0) 16205 (fr_m w11_1 ((zk + zi) + 1)), fb_aw cI (zr 3) 64 w11_2, fb_qh D (zr 1) 200 w11_3, w11_4] : List va_W).flatten) H locs := I
    refine lv_iadd hx hb dX12_go_22 ?_
    refine fb_tI (v := (nI (zi + 1))) (nI_add zi 1) ?_
    refine lv_istore_n (lv' := [(3, .int (nI (zi + 1))), (2, .int (-1 : Int32)), (1, .int (nI (zN + 1))), (0, .ref za)]) hx hb dX12_go_23 rfl hl (by decide) rfl (fun ls hl => ?_)
    refine lv_aload_n hx hb dX12_go_24 rfl (lv_at hl 3 rfl) ?_
    refine fb_gO (cs := [fb_o12 za zr w11_0, fb_aw cI (zr 0) 16205 (fr_m w11_1 ((zk + zi) + 1))]) (rs := [fb_aw cI (zr 3) 64 w11_2, fb_qh D (zr 1) 200 w11_3, w11_4]) X I [0, 1, 2, 3, 4] 5 rfl (by decide +kernel) rfl rfl (fun I => fb_rV (As := []) (rest := []) X hl (fb_goodV fw_2570 fw_2572 fw_177 fw_204 fw_2573) (c_over l D cI cJ za zr w11_0 (fr_m w11_1 ((zk + zi) + 1)) _ rfl) rfl rfl rfl (by decide +kernel : fb_hd yX12_over 0) ⟨Nat.le_of_ble_eq_true rfl, Nat.le_of_ble_eq_true rfl⟩ rfl rfl rfl rfl rfl (Nat.le_of_ble_eq_true rfl) ⟨by show (0 + 1 * zi) + 1 + 0 ≤ 5000; omega, by show (0 + 8 * zi) + 8 + 0 ≤ 40000; omega⟩ dX12_go_25 I) ?_
    refine lv_if_le (tgt := 42) hx hb dX12_go_28 (by decide) (fun _ => ?_) (fun c14 => absurd (by decide) c14)
    refine lv_aload_n hx hb dX12_go_42 rfl (lv_at hl 3 rfl) ?_
    refine fb_get X I (k := 0) (v := .ref (zr 0)) fu_X12 0 fb_h12 rfl (Nat.le_of_ble_eq_true rfl) fw_1964 rfl rfl dX12_go_43 ?_
    refine lv_bipush (v := (20 : Int32)) hx hb dX12_go_46 (by decide) ?_
    refine fb_iaC (n := 20) (v := (0 : Int32)) X I 1 0 rfl rfl (by decide) (by decide) (Nat.le_of_ble_eq_true rfl) rfl dX12_go_48 ?_
    refine lv_iload_n hx hb dX12_go_49 rfl (lv_at hl 1 rfl) ?_
    refine lv_icmp_gt (tgt := 62) hx hb dX12_go_50 (by decide) (fun _ => ?_) (fun c15 => absurd (by decide) c15)
    refine lv_aload_n hx hb dX12_go_62 rfl (lv_at hl 3 rfl) ?_
    refine fb_get X I (k := 7) (v := .int (w11_0 7)) fu_X12 0 fb_h12 rfl (Nat.le_of_ble_eq_true rfl) fw_1971 rfl rfl dX12_go_63 ?_
    refine fb_tI (v := (0 : Int32)) p13.1.2.2.1 ?_
    refine lv_if_eq (tgt := 77) hx hb dX12_go_66 (by decide) (fun _ => ?_) (fun c16 => absurd (by decide) c16)
    refine lv_iload_n hx hb dX12_go_77 rfl (lv_at hl 0 rfl) ?_
    refine lv_iload_n hx hb dX12_go_78 rfl (lv_at hl 2 rfl) ?_
    refine lv_icmp_lt (tgt := 90) hx hb dX12_go_79 (by decide) (fun _ => ?_) (fun c17 => absurd (nI_lt (a := (zi + 1)) (b := (zN + 1)) (by omega) (by omega)) c17)
    refine lv_aload_n hx hb dX12_go_90 rfl (lv_at hl 3 rfl) ?_
    refine fb_gO (cs := [fb_o12 za zr w11_0, fb_aw cI (zr 0) 16205 (fr_m w11_1 ((zk + zi) + 1))]) (rs := [fb_aw cI (zr 3) 64 w11_2, fb_qh D (zr 1) 200 w11_3, w11_4]) X I [0, 1, 2, 3, 4] 5 rfl (by decide +kernel) rfl rfl (fun I => fb_rV (As := []) (rest := []) X hl (fb_goodV fw_2574 fw_2576 fw_178 fw_204 fw_2577) (c_isStopped l D cI cJ za zr w11_0 (fr_m w11_1 ((zk + zi) + 1)) _ rfl rfl rfl ((p13.1.2.2.2 13 (by decide) (by decide) (by decide) (by decide) (by decide)).trans i13)) rfl rfl rfl (by decide +kernel : fb_hd yX12_isStoppedByBreak 0) ⟨Nat.le_of_ble_eq_true rfl, Nat.le_of_ble_eq_true rfl⟩ rfl rfl rfl rfl rfl (Nat.le_of_ble_eq_true rfl) ⟨by show (0 + 1 * zi) + 1 + 0 ≤ 5000; omega, by show (0 + 8 * zi) + 8 + 0 ≤ 40000; omega⟩ dX12_go_91 I) ?_
    refine lv_if_eq (tgt := 10) hx hb dX12_go_94 (by decide) (fun _ => ?_) (fun c18 => absurd (by decide) c18)
    refine W.widen (k := (0 + 1 * (zi + 1))) (n := (0 + 8 * (zi + 1))) (by omega) (by omega) ?_
    exact ih (zi + 1) (by omega) w11_0 w11_1 w11_2 w11_3 w11_4 (p13.1.1) ((p13.1.2.2.2 10 (by decide) (by decide) (by decide) (by decide) (by decide)).trans i10) ((p13.1.2.2.2 13 (by decide) (by decide) (by decide) (by decide) (by decide)).trans i13) ((p13.1.2.2.2 19 (by decide) (by decide) (by decide) (by decide) (by decide)).trans i19) (p13.2) _ _ _ I (lv_sub hl [0, 1, 2, 3] rfl)
set_option maxHeartbeats 4000000 in
set_option maxRecDepth 100000 in
theorem c_go (l : Launch) (D : va_G) (cI cJ : ClassId) (za : Nat) (zr : Nat → Nat) (ze : fb_AR) (zt : fb_AR) (zk : Nat) (zl : fb_AR) (zh : Nat → Option Nat) (zhs : va_W) (zs : Nat) (zN : Nat) (sz : Nat) (hk : zk + zN < 900000) (hN : zN < 5000) (h2 : ze 2 = (nI zs)) (hs : zs ≤ 200) (hh : fr_hok cI zh zhs) (h13 : ze 13 = (0 : Int32)) : Met l yX12_go (Cond.code yX12_go cX12_go 4 (some .int) :: fb_all) ({ frames := 14, cells := 5000, slots := 40000, locals := 260 } : Room) (fb_PP D (fb_ty D cI cJ) [.ref za, .int (nI (zN + 1)), .int (-1 : Int32)] (([fb_o12 za zr ze, fb_aw cI (zr 0) 16205 (fr_m zt zk), fb_aw cI (zr 3) 64 zl, fb_qh D (zr 1) 200 zh, zhs] : List va_W).flatten) sz) (fb_QI D (va_A (([fb_o12 za zr ze, fb_aw cI (zr 0) 16205 (fr_m zt zk), fb_aw cI (zr 3) 64 zl, fb_qh D (zr 1) 200 zh, zhs] : List va_W).flatten) sz) (fun (r : Int32) (t : fb_AR × fb_AR × fb_AR × (Nat → Option Nat) × va_W) => r = (nI (zN + 1)) ∧ (upd (t.1) 10 (1 : Int32)) 19 = ze 19) (fun (t : fb_AR × fb_AR × fb_AR × (Nat → Option Nat) × va_W) => ([fb_o12 za zr (upd (t.1) 10 (1 : Int32)), fb_aw cI (zr 0) 16205 (fr_m (t.2.1) ((zk + zN) + 1)), fb_aw cI (zr 3) 64 (t.2.2.1), fb_qh D (zr 1) 200 (t.2.2.2.1), (t.2.2.2.2)] : List va_W).flatten)) 5000 40000 (va_A (([fb_o12 za zr ze, fb_aw cI (zr 0) 16205 (fr_m zt zk), fb_aw cI (zr 3) 64 zl, fb_qh D (zr 1) 200 zh, zhs] : List va_W).flatten) sz) := by
  refine fb_ent (Qf := fun A => (fb_QI D A (fun (r : Int32) (t : fb_AR × fb_AR × fb_AR × (Nat → Option Nat) × va_W) => r = (nI (zN + 1)) ∧ (upd (t.1) 10 (1 : Int32)) 19 = ze 19) (fun (t : fb_AR × fb_AR × fb_AR × (Nat → Option Nat) × va_W) => ([fb_o12 za zr (upd (t.1) 10 (1 : Int32)), fb_aw cI (zr 0) 16205 (fr_m (t.2.1) ((zk + zN) + 1)), fb_aw cI (zr 3) 64 (t.2.2.1), fb_qh D (zr 1) 200 (t.2.2.2.1), (t.2.2.2.2)] : List va_W).flatten))) (by decide +kernel) (Nat.le_of_ble_eq_true rfl) ?_
  intro p e s m args below meth c A ls X I hl hin
  obtain ⟨hx, hb, hr, hml, hown, hts, hlk, hA, hK, hF⟩ := id X
  have hl : lv_has ls 4 [(0, .ref za), (1, .int (nI (zN + 1))), (2, .int (-1 : Int32))] := hl
  refine lv_iconst (v := (0 : Int32)) hx hb dX12_go_0 (by decide) ?_
  refine lv_istore_n (lv' := [(3, .int (0 : Int32)), (0, .ref za), (1, .int (nI (zN + 1))), (2, .int (-1 : Int32))]) hx hb dX12_go_1 rfl hl (by decide) rfl (fun ls hl => ?_)
  refine lv_aload_n hx hb dX12_go_2 rfl (lv_at hl 1 rfl) ?_
  refine lv_aload_n hx hb dX12_go_3 rfl (lv_at hl 1 rfl) ?_
  refine fb_gO (cs := [fb_o12 za zr ze, fb_aw cI (zr 0) 16205 (fr_m zt zk)]) (rs := [fb_aw cI (zr 3) 64 zl, fb_qh D (zr 1) 200 zh, zhs]) X I [0, 1, 2, 3, 4] 5 rfl (by decide +kernel) rfl rfl (fun I => fb_rV (As := []) (rest := [.ref za]) X hl (fb_goodV fw_2570 fw_2572 fw_177 fw_204 fw_2573) (c_over l D cI cJ za zr ze (fr_m zt zk) _ rfl) rfl rfl rfl (by decide +kernel : fb_hd yX12_over 0) ⟨Nat.le_of_ble_eq_true rfl, Nat.le_of_ble_eq_true rfl⟩ rfl rfl rfl rfl rfl (Nat.le_of_ble_eq_true rfl) ⟨Nat.zero_le _, Nat.zero_le _⟩ dX12_go_4 I) ?_
  refine fb_put X I (k := 10) (wn := ([fb_o12 za zr (upd ze 10 (0 : Int32)), fb_aw cI (zr 0) 16205 (fr_m zt zk), fb_aw cI (zr 3) 64 zl, fb_qh D (zr 1) 200 zh, zhs] : List va_W).flatten) fu_X12 tyX12 tyX12_ok nmX12 0 fb_h12 rfl (Nat.le_of_ble_eq_true rfl) fw_1974 rfl rfl rfl rfl rfl (Nat.le_of_ble_eq_true rfl) fb_r12_10 dX12_go_7 (fun H locs I => ?_)
  exact b_go_10 (za := za) (zr := zr) (ze := ze) (zt := zt) (zk := zk) (zl := zl) (zh := zh) (zhs := zhs) (zs := zs) (zN := zN)  X hk hN h2 hs hh h13  (zN) 0 (by omega) (upd ze 10 (0 : Int32)) zt zl zh zhs ⟨zs, hs, h2⟩ rfl h13 rfl hh _ _ _ I (lv_sub hl [0, 3, 2, 1] rfl)

