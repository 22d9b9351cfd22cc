/-! L_below -/
def f_L_below (l0 : Int32) (l1 : Int32) : Int32 := ((l0 &&& (2147483647 : Int32)) - (l0 &&& (2147483647 : Int32)) / l1 * l1)
set_option maxHeartbeats 4000000 in
set_option maxRecDepth 100000 in
theorem b_L_below_0 {p : Program} {l : Launch} {e : Env} {s : State} {m : MethodId} {args : Array Value} {below : List Frame} {meth : Method} {c : Code} {D : va_G} {cI cJ : ClassId} {A : Nat → Prop}  {z : Int32} (X : fb_Bx p s m args meth c cL_below RL 2 (some .int) D (fb_ty cI cJ) A) {l0 : Int32} {l1 : Int32} {ls : Array Slot} (gn : ¬ l1 = 0) (I : fb_In D A s.heap (([] : va_W)) s.heap []) (hl : lv_has ls 2 [(0, .int l0), (1, .int l1)]) (E : z = f_L_below l0 l1) : W p l e ({ frames := 0, cells := 0, slots := 0, locals := 0 } : Room) s m args below meth c s.heap [] 0 0 (MQ below (vp_Si (fun r => r = z)) args s 0 0 (fun _ => False)) (F0 m 0 ls []) := by
  obtain ⟨hx, hb, hr, hml, hown, hts, hlk, hA, hK, hF⟩ := id X
  refine lv_iload_n hx hb dL_below_0 rfl (lv_at hl 0 rfl) ?_
  refine lv_ldc hx hb hown (hts _ fw_1022) dL_below_1 ?_
  refine lv_iand hx hb dL_below_3 ?_
  refine lv_iload_n hx hb dL_below_4 rfl (lv_at hl 1 rfl) ?_
  refine lv_irem hx hb dL_below_5 gn ?_
  exact fb_retRI X E rfl dL_below_6
set_option maxHeartbeats 4000000 in
set_option maxRecDepth 100000 in
theorem c_L_below (l : Launch) (D : va_G) (cI cJ : ClassId)  (l0 : Int32) (l1 : Int32) (sz : Nat) (gn : ¬ l1 = 0) : Met l yL_below (Cond.code yL_below cL_below 2 (some .int) :: fb_all) ({ frames := 0, cells := 0, slots := 0, locals := 0 } : Room) (fb_PP D (fb_ty cI cJ) [.int l0, .int l1] (([] : va_W)) sz) (vp_Si (fun r => r = ((f_L_below l0 l1)))) 0 0 (fun _ => False) := by
  refine fb_entR (by decide +kernel) (Nat.le_of_ble_eq_true rfl) ?_
  intro p e s m args below meth c A ls X I hl hin
  exact b_L_below_0 X gn I hl rfl
theorem lw_bel (v : Int32) {d : Int32} (n : Nat) (h0 : 0 < n) (hn : n < 2 ^ 31) (hd : d = nI n) : f_L_below v d = nI (v.toBitVec.toNat % 2 ^ 31 % n) := by
  subst hd
  unfold f_L_below
  rw [pk_and v 31 (by decide)]
  exact pk_rem (Nat.mod_lt _ (by decide)) h0 hn
theorem lw_belE (v : Int32) {d : Int32} (n : Nat) (h0 : 0 < n) (hn : n < 2 ^ 31) (hd : d = nI n) : ∃ j, j < n ∧ f_L_below v d = nI j := ⟨_, Nat.mod_lt _ h0, lw_bel v n h0 hn hd⟩
theorem lw_noA {j : Nat} (h : j < 4096) : f_X11_isNoAddress (nI j) = 0 := by
  unfold f_X11_isNoAddress
  rw [if_neg (nI_pos (by omega)), if_pos (show nI j ≤ (4095 : Int32) from nI_le (a := j) (b := 4095) (by omega) (by decide))]
theorem lw_noS {j : Nat} (h1 : 1 ≤ j) (h : j ≤ 5000) : f_X11_isNoSpan (nI j) = 0 := by
  unfold f_X11_isNoSpan
  rw [if_neg (show ¬ nI j < (1 : Int32) from nI_nlt (a := j) (b := 1) h1 (by omega)), if_pos (show nI j ≤ (5000 : Int32) from nI_le (a := j) (b := 5000) h (by decide))]
theorem lw_adr (v : Int32) : f_X11_isNoAddress (f_L_below v 4096) = 0 := by
  obtain ⟨j, hj, e⟩ := lw_belE v (d := 4096) 4096 (by decide) (by decide) rfl
  rw [e]; exact lw_noA hj
theorem lw_spn (v : Int32) : f_X11_isNoSpan (1 + f_L_below v 60) = 0 := by
  obtain ⟨j, hj, e⟩ := lw_belE v (d := 60) 60 (by decide) (by decide) rfl
  rw [e, show (1 : Int32) = nI 1 from rfl, nI_add]; exact lw_noS (by omega) (by omega)

/-! L_isSame -/
def f_L_isSame_2  : Nat → fb_MS → fb_MS → Int32 → Int32 → Int32
  | 0, zs, ys, _, _ => 0
  | n + 1, zs, ys, l2, l3 => (if (40 : Int32) ≤ l3 then (if (f_X11_a zs) = (f_X11_a ys) then (if (f_X11_x zs) = (f_X11_x ys) then (if (f_X11_s zs) = (f_X11_s ys) then (if (f_X11_flags zs) = (f_X11_flags ys) then (if (f_X11_pc zs) = (f_X11_pc ys) then (if (f_X11_state zs) = (f_X11_state ys) then (if (f_X11_cycles zs) = (f_X11_cycles ys) then (if (f_X11_instructions zs) = (f_X11_instructions ys) then (if (f_X11_calls zs) = (f_X11_calls ys) then (if (f_X11_count zs) = (f_X11_count ys) then (if (f_X11_pending zs) = (f_X11_pending ys) then (if (f_X11_inputs zs) = (f_X11_inputs ys) then (if (f_X11_outputs zs) = (f_X11_outputs ys) then (if (f_X11_bank zs) = (f_X11_bank ys) then (if (f_X11_mask zs) = (f_X11_mask ys) then (1 : Int32) else (0 : Int32)) else (0 : Int32)) else (0 : Int32)) else (0 : Int32)) else (0 : Int32)) else (0 : Int32)) else (0 : Int32)) else (0 : Int32)) else (0 : Int32)) else (0 : Int32)) else (0 : Int32)) else (0 : Int32)) else (0 : Int32)) else (0 : Int32)) else (0 : Int32)) else (if (f_X11_byteAt zs (f_L_below (l2 + ((103 : Int32) * l3)) (4096 : Int32))) = (f_X11_byteAt ys (f_L_below (l2 + ((103 : Int32) * l3)) (4096 : Int32))) then (if (f_X11_timesAt zs (f_L_below (l2 + ((103 : Int32) * l3)) (4096 : Int32))) = (f_X11_timesAt ys (f_L_below (l2 + ((103 : Int32) * l3)) (4096 : Int32))) then f_L_isSame_2 n zs ys l2 (l3 + (1 : Int32)) else (0 : Int32)) else (0 : Int32)))
def f_L_isSame (zs : fb_MS) (ys : fb_MS) (l2 : Int32) : Int32 := f_L_isSame_2 ((fb_mu (0 : Int32) (40 : Int32)) + 1) zs ys l2 (0 : Int32)
set_option maxHeartbeats 4000000 in
set_option maxRecDepth 100000 in
theorem b_L_isSame_2 {p : Program} {l : Launch} {e : Env} {s : State} {m : MethodId} {args : Array Value} {below : List Frame} {meth : Method} {c : Code} {D : va_G} {cI cJ : ClassId} {A : Nat → Prop} {zb : Nat} {zr0 : Nat} {zr1 : Nat} {zr2 : Nat} {zr3 : Nat} {zr4 : Nat} {zr6 : Nat} {zr7 : Nat} {zr8 : Nat} {zr9 : Nat} {zq : Nat → Nat} {yb : Nat} {yr0 : Nat} {yr1 : Nat} {yr2 : Nat} {yr3 : Nat} {yr4 : Nat} {yr6 : Nat} {yr7 : Nat} {yr8 : Nat} {yr9 : Nat} {yq : Nat → Nat} {z : Int32} (X : fb_Bx p s m args meth c cL_isSame RL 5 (some .boolean) D (fb_ty cI cJ) A)  : ∀ (n : Nat) {zs : fb_MS} {zw : fb_AR} {ys : fb_MS} {yw : fb_AR} {l2 : Int32} {l3 : Int32} {ls : Array Slot} (hm : (fb_mu l3 (40 : Int32)) < n) (I : fb_In D A s.heap ((fb_o11 zb zr0 zr1 zr2 zr3 zr4 (zq 0) zr6 zr7 zr8 zr9) ++ ((fb_mw cI zq zs zw) ++ ((fb_o11 yb yr0 yr1 yr2 yr3 yr4 (yq 0) yr6 yr7 yr8 yr9) ++ (fb_mw cI yq ys yw)))) s.heap []) (hl : lv_has ls 5 [(0, .ref zb), (1, .ref yb), (2, .int l2), (3, .int l3)]) (E : z = f_L_isSame_2 n zs ys l2 l3), W p l e ({ frames := 3, cells := 0, slots := 0, locals := 63 } : Room) s m args below meth c s.heap [] 0 0 (MQ below (vp_Si (fun r => r = z)) args s 0 0 (fun _ => False)) (F0 m 2 ls []) := by
  intro n
  obtain ⟨hx, hb, hr, hml, hown, hts, hlk, hA, hK, hF⟩ := id X
  induction n with
  | zero =>
    intro zs zw ys yw l2 l3 ls hm
    exact absurd hm (Nat.not_lt_zero _)
  | succ n ih =>
    intro zs zw ys yw l2 l3 ls hm I hl E
    refine lv_iload_n hx hb dL_isSame_2 rfl (lv_at hl 3 rfl) ?_
    refine lv_bipush (v := (40 : Int32)) hx hb dL_isSame_3 (by decide) ?_
    refine lv_icmp_ge (tgt := 60) hx hb dL_isSame_5 (by decide) (fun c1 => ?_) (fun c1 => ?_)
    · have E2 := (E.trans (if_pos c1))
      refine lv_aload_n hx hb dL_isSame_60 rfl (lv_at hl 0 rfl) ?_
      refine fb_roI X I (fb_runV (As := []) (rest := []) (q0 := 0) X I hl (c_X11_a l D cI cJ zb zr0 zr1 zr2 zr3 zr4 zr6 zr7 zr8 zr9 zq zs zw _) (fb_goodV fw_1089 fw_1090 fw_1091 fw_44 fw_1092) rfl rfl rfl (by decide +kernel : fb_hd yX11_a 0) ⟨Nat.le_of_ble_eq_true rfl, Nat.le_of_ble_eq_true rfl⟩ [0, 1, 2, 3, 4, 5, 6, 7, 8] (by decide) rfl rfl rfl rfl rfl rfl (Nat.le_of_ble_eq_true rfl) ⟨Nat.zero_le _, Nat.zero_le _⟩ dL_isSame_61) ?_
      refine lv_aload_n hx hb dL_isSame_64 rfl (lv_at hl 1 rfl) ?_
      refine fb_roI X I (fb_runV (As := []) (rest := [.int (f_X11_a zs)]) (q0 := 9) X I hl (c_X11_a l D cI cJ yb yr0 yr1 yr2 yr3 yr4 yr6 yr7 yr8 yr9 yq ys yw _) (fb_goodV fw_1089 fw_1090 fw_1091 fw_44 fw_1092) rfl rfl rfl (by decide +kernel : fb_hd yX11_a 0) ⟨Nat.le_of_ble_eq_true rfl, Nat.le_of_ble_eq_true rfl⟩ [9, 10, 11, 12, 13, 14, 15, 16, 17] (by decide) rfl rfl rfl rfl rfl rfl (Nat.le_of_ble_eq_true rfl) ⟨Nat.zero_le _, Nat.zero_le _⟩ dL_isSame_65) ?_
      refine lv_icmp_ne (tgt := 229) hx hb dL_isSame_68 (by decide) (fun c4 => ?_) (fun c4 => ?_)
      · have E5 := (E2.trans (if_neg c4))
        refine lv_iconst (v := (0 : Int32)) hx hb dL_isSame_229 (by decide) ?_
        exact fb_retRI X E5 rfl dL_isSame_230
      · have E6 := (E2.trans (if_pos c4))
        refine lv_aload_n hx hb dL_isSame_71 rfl (lv_at hl 0 rfl) ?_
        refine fb_roI X I (fb_runV (As := []) (rest := []) (q0 := 0) X I hl (c_X11_x l D cI cJ zb zr0 zr1 zr2 zr3 zr4 zr6 zr7 zr8 zr9 zq zs zw _) (fb_goodV fw_1093 fw_1094 fw_1095 fw_44 fw_1096) rfl rfl rfl (by decide +kernel : fb_hd yX11_x 0) ⟨Nat.le_of_ble_eq_true rfl, Nat.le_of_ble_eq_true rfl⟩ [0, 1, 2, 3, 4, 5, 6, 7, 8] (by decide) rfl rfl rfl rfl rfl rfl (Nat.le_of_ble_eq_true rfl) ⟨Nat.zero_le _, Nat.zero_le _⟩ dL_isSame_72) ?_
        refine lv_aload_n hx hb dL_isSame_75 rfl (lv_at hl 1 rfl) ?_
        refine fb_roI X I (fb_runV (As := []) (rest := [.int (f_X11_x zs)]) (q0 := 9) X I hl (c_X11_x l D cI cJ yb yr0 yr1 yr2 yr3 yr4 yr6 yr7 yr8 yr9 yq ys yw _) (fb_goodV fw_1093 fw_1094 fw_1095 fw_44 fw_1096) rfl rfl rfl (by decide +kernel : fb_hd yX11_x 0) ⟨Nat.le_of_ble_eq_true rfl, Nat.le_of_ble_eq_true rfl⟩ [9, 10, 11, 12, 13, 14, 15, 16, 17] (by decide) rfl rfl rfl rfl rfl rfl (Nat.le_of_ble_eq_true rfl) ⟨Nat.zero_le _, Nat.zero_le _⟩ dL_isSame_76) ?_
        refine lv_icmp_ne (tgt := 229) hx hb dL_isSame_79 (by decide) (fun c7 => ?_) (fun c7 => ?_)
        · have E8 := (E6.trans (if_neg c7))
          refine lv_iconst (v := (0 : Int32)) hx hb dL_isSame_229 (by decide) ?_
          exact fb_retRI X E8 rfl dL_isSame_230
        · have E9 := (E6.trans (if_pos c7))
          refine lv_aload_n hx hb dL_isSame_82 rfl (lv_at hl 0 rfl) ?_
          refine fb_roI X I (fb_runV (As := []) (rest := []) (q0 := 0) X I hl (c_X11_s l D cI cJ zb zr0 zr1 zr2 zr3 zr4 zr6 zr7 zr8 zr9 zq zs zw _) (fb_goodV fw_1097 fw_1098 fw_1099 fw_44 fw_1100) rfl rfl rfl (by decide +kernel : fb_hd yX11_s 0) ⟨Nat.le_of_ble_eq_true rfl, Nat.le_of_ble_eq_true rfl⟩ [0, 1, 2, 3, 4, 5, 6, 7, 8] (by decide) rfl rfl rfl rfl rfl rfl (Nat.le_of_ble_eq_true rfl) ⟨Nat.zero_le _, Nat.zero_le _⟩ dL_isSame_83) ?_
          refine lv_aload_n hx hb dL_isSame_86 rfl (lv_at hl 1 rfl) ?_
          refine fb_roI X I (fb_runV (As := []) (rest := [.int (f_X11_s zs)]) (q0 := 9) X I hl (c_X11_s l D cI cJ yb yr0 yr1 yr2 yr3 yr4 yr6 yr7 yr8 yr9 yq ys yw _) (fb_goodV fw_1097 fw_1098 fw_1099 fw_44 fw_1100) rfl rfl rfl (by decide +kernel : fb_hd yX11_s 0) ⟨Nat.le_of_ble_eq_true rfl, Nat.le_of_ble_eq_true rfl⟩ [9, 10, 11, 12, 13, 14, 15, 16, 17] (by decide) rfl rfl rfl rfl rfl rfl (Nat.le_of_ble_eq_true rfl) ⟨Nat.zero_le _, Nat.zero_le _⟩ dL_isSame_87) ?_
          refine lv_icmp_ne (tgt := 229) hx hb dL_isSame_90 (by decide) (fun c10 => ?_) (fun c10 => ?_)
          · have E11 := (E9.trans (if_neg c10))
            refine lv_iconst (v := (0 : Int32)) hx hb dL_isSame_229 (by decide) ?_
            exact fb_retRI X E11 rfl dL_isSame_230
          · have E12 := (E9.trans (if_pos c10))
            refine lv_aload_n hx hb dL_isSame_93 rfl (lv_at hl 0 rfl) ?_
            refine fb_roI X I (fb_runV (As := []) (rest := []) (q0 := 0) X I hl (c_X11_flags l D cI cJ zb zr0 zr1 zr2 zr3 zr4 zr6 zr7 zr8 zr9 zq zs zw _) (fb_goodV fw_1101 fw_1102 fw_1103 fw_44 fw_1104) rfl rfl rfl (by decide +kernel : fb_hd yX11_flags 0) ⟨Nat.le_of_ble_eq_true rfl, Nat.le_of_ble_eq_true rfl⟩ [0, 1, 2, 3, 4, 5, 6, 7, 8] (by decide) rfl rfl rfl rfl rfl rfl (Nat.le_of_ble_eq_true rfl) ⟨Nat.zero_le _, Nat.zero_le _⟩ dL_isSame_94) ?_
            refine lv_aload_n hx hb dL_isSame_97 rfl (lv_at hl 1 rfl) ?_
            refine fb_roI X I (fb_runV (As := []) (rest := [.int (f_X11_flags zs)]) (q0 := 9) X I hl (c_X11_flags l D cI cJ yb yr0 yr1 yr2 yr3 yr4 yr6 yr7 yr8 yr9 yq ys yw _) (fb_goodV fw_1101 fw_1102 fw_1103 fw_44 fw_1104) rfl rfl rfl (by decide +kernel : fb_hd yX11_flags 0) ⟨Nat.le_of_ble_eq_true rfl, Nat.le_of_ble_eq_true rfl⟩ [9, 10, 11, 12, 13, 14, 15, 16, 17] (by decide) rfl rfl rfl rfl rfl rfl (Nat.le_of_ble_eq_true rfl) ⟨Nat.zero_le _, Nat.zero_le _⟩ dL_isSame_98) ?_
            refine lv_icmp_ne (tgt := 229) hx hb dL_isSame_101 (by decide) (fun c13 => ?_) (fun c13 => ?_)
            · have E14 := (E12.trans (if_neg c13))
              refine lv_iconst (v := (0 : Int32)) hx hb dL_isSame_229 (by decide) ?_
              exact fb_retRI X E14 rfl dL_isSame_230
            · have E15 := (E12.trans (if_pos c13))
              refine lv_aload_n hx hb dL_isSame_104 rfl (lv_at hl 0 rfl) ?_
              refine fb_roI X I (fb_runV (As := []) (rest := []) (q0 := 0) X I hl (c_X11_pc l D cI cJ zb zr0 zr1 zr2 zr3 zr4 zr6 zr7 zr8 zr9 zq zs zw _) (fb_goodV fw_1105 fw_1106 fw_1107 fw_44 fw_1108) rfl rfl rfl (by decide +kernel : fb_hd yX11_pc 0) ⟨Nat.le_of_ble_eq_true rfl, Nat.le_of_ble_eq_true rfl⟩ [0, 1, 2, 3, 4, 5, 6, 7, 8] (by decide) rfl rfl rfl rfl rfl rfl (Nat.le_of_ble_eq_true rfl) ⟨Nat.zero_le _, Nat.zero_le _⟩ dL_isSame_105) ?_
              refine lv_aload_n hx hb dL_isSame_108 rfl (lv_at hl 1 rfl) ?_
              refine fb_roI X I (fb_runV (As := []) (rest := [.int (f_X11_pc zs)]) (q0 := 9) X I hl (c_X11_pc l D cI cJ yb yr0 yr1 yr2 yr3 yr4 yr6 yr7 yr8 yr9 yq ys yw _) (fb_goodV fw_1105 fw_1106 fw_1107 fw_44 fw_1108) rfl rfl rfl (by decide +kernel : fb_hd yX11_pc 0) ⟨Nat.le_of_ble_eq_true rfl, Nat.le_of_ble_eq_true rfl⟩ [9, 10, 11, 12, 13, 14, 15, 16, 17] (by decide) rfl rfl rfl rfl rfl rfl (Nat.le_of_ble_eq_true rfl) ⟨Nat.zero_le _, Nat.zero_le _⟩ dL_isSame_109) ?_
              refine lv_icmp_ne (tgt := 229) hx hb dL_isSame_112 (by decide) (fun c16 => ?_) (fun c16 => ?_)
              · have E17 := (E15.trans (if_neg c16))
                refine lv_iconst (v := (0 : Int32)) hx hb dL_isSame_229 (by decide) ?_
                exact fb_retRI X E17 rfl dL_isSame_230
              · have E18 := (E15.trans (if_pos c16))
                refine lv_aload_n hx hb dL_isSame_115 rfl (lv_at hl 0 rfl) ?_
                refine fb_roI X I (fb_runV (As := []) (rest := []) (q0 := 0) X I hl (c_X11_state l D cI cJ zb zr0 zr1 zr2 zr3 zr4 zr6 zr7 zr8 zr9 zq zs zw _) (fb_goodV fw_929 fw_930 fw_931 fw_44 fw_932) rfl rfl rfl (by decide +kernel : fb_hd yX11_state 0) ⟨Nat.le_of_ble_eq_true rfl, Nat.le_of_ble_eq_true rfl⟩ [0, 1, 2, 3, 4, 5, 6, 7, 8] (by decide) rfl rfl rfl rfl rfl rfl (Nat.le_of_ble_eq_true rfl) ⟨Nat.zero_le _, Nat.zero_le _⟩ dL_isSame_116) ?_
                refine lv_aload_n hx hb dL_isSame_119 rfl (lv_at hl 1 rfl) ?_
                refine fb_roI X I (fb_runV (As := []) (rest := [.int (f_X11_state zs)]) (q0 := 9) X I hl (c_X11_state l D cI cJ yb yr0 yr1 yr2 yr3 yr4 yr6 yr7 yr8 yr9 yq ys yw _) (fb_goodV fw_929 fw_930 fw_931 fw_44 fw_932) rfl rfl rfl (by decide +kernel : fb_hd yX11_state 0) ⟨Nat.le_of_ble_eq_true rfl, Nat.le_of_ble_eq_true rfl⟩ [9, 10, 11, 12, 13, 14, 15, 16, 17] (by decide) rfl rfl rfl rfl rfl rfl (Nat.le_of_ble_eq_true rfl) ⟨Nat.zero_le _, Nat.zero_le _⟩ dL_isSame_120) ?_
                refine lv_icmp_ne (tgt := 229) hx hb dL_isSame_123 (by decide) (fun c19 => ?_) (fun c19 => ?_)
                · have E20 := (E18.trans (if_neg c19))
                  refine lv_iconst (v := (0 : Int32)) hx hb dL_isSame_229 (by decide) ?_
                  exact fb_retRI X E20 rfl dL_isSame_230
                · have E21 := (E18.trans (if_pos c19))
                  refine lv_aload_n hx hb dL_isSame_126 rfl (lv_at hl 0 rfl) ?_
                  refine fb_roI X I (fb_runV (As := []) (rest := []) (q0 := 0) X I hl (c_X11_cycles l D cI cJ zb zr0 zr1 zr2 zr3 zr4 zr6 zr7 zr8 zr9 zq zs zw _) (fb_goodV fw_1109 fw_1110 fw_1111 fw_44 fw_1112) rfl rfl rfl (by decide +kernel : fb_hd yX11_cycles 0) ⟨Nat.le_of_ble_eq_true rfl, Nat.le_of_ble_eq_true rfl⟩ [0, 1, 2, 3, 4, 5, 6, 7, 8] (by decide) rfl rfl rfl rfl rfl rfl (Nat.le_of_ble_eq_true rfl) ⟨Nat.zero_le _, Nat.zero_le _⟩ dL_isSame_127) ?_
                  refine lv_aload_n hx hb dL_isSame_130 rfl (lv_at hl 1 rfl) ?_
                  refine fb_roI X I (fb_runV (As := []) (rest := [.int (f_X11_cycles zs)]) (q0 := 9) X I hl (c_X11_cycles l D cI cJ yb yr0 yr1 yr2 yr3 yr4 yr6 yr7 yr8 yr9 yq ys yw _) (fb_goodV fw_1109 fw_1110 fw_1111 fw_44 fw_1112) rfl rfl rfl (by decide +kernel : fb_hd yX11_cycles 0) ⟨Nat.le_of_ble_eq_true rfl, Nat.le_of_ble_eq_true rfl⟩ [9, 10, 11, 12, 13, 14, 15, 16, 17] (by decide) rfl rfl rfl rfl rfl rfl (Nat.le_of_ble_eq_true rfl) ⟨Nat.zero_le _, Nat.zero_le _⟩ dL_isSame_131) ?_
                  refine lv_icmp_ne (tgt := 229) hx hb dL_isSame_134 (by decide) (fun c22 => ?_) (fun c22 => ?_)
                  · have E23 := (E21.trans (if_neg c22))
                    refine lv_iconst (v := (0 : Int32)) hx hb dL_isSame_229 (by decide) ?_
                    exact fb_retRI X E23 rfl dL_isSame_230
                  · have E24 := (E21.trans (if_pos c22))
                    refine lv_aload_n hx hb dL_isSame_137 rfl (lv_at hl 0 rfl) ?_
                    refine fb_roI X I (fb_runV (As := []) (rest := []) (q0 := 0) X I hl (c_X11_instructions l D cI cJ zb zr0 zr1 zr2 zr3 zr4 zr6 zr7 zr8 zr9 zq zs zw _) (fb_goodV fw_1113 fw_1114 fw_1115 fw_44 fw_1116) rfl rfl rfl (by decide +kernel : fb_hd yX11_instructions 0) ⟨Nat.le_of_ble_eq_true rfl, Nat.le_of_ble_eq_true rfl⟩ [0, 1, 2, 3, 4, 5, 6, 7, 8] (by decide) rfl rfl rfl rfl rfl rfl (Nat.le_of_ble_eq_true rfl) ⟨Nat.zero_le _, Nat.zero_le _⟩ dL_isSame_138) ?_
                    refine lv_aload_n hx hb dL_isSame_141 rfl (lv_at hl 1 rfl) ?_
                    refine fb_roI X I (fb_runV (As := []) (rest := [.int (f_X11_instructions zs)]) (q0 := 9) X I hl (c_X11_instructions l D cI cJ yb yr0 yr1 yr2 yr3 yr4 yr6 yr7 yr8 yr9 yq ys yw _) (fb_goodV fw_1113 fw_1114 fw_1115 fw_44 fw_1116) rfl rfl rfl (by decide +kernel : fb_hd yX11_instructions 0) ⟨Nat.le_of_ble_eq_true rfl, Nat.le_of_ble_eq_true rfl⟩ [9, 10, 11, 12, 13, 14, 15, 16, 17] (by decide) rfl rfl rfl rfl rfl rfl (Nat.le_of_ble_eq_true rfl) ⟨Nat.zero_le _, Nat.zero_le _⟩ dL_isSame_142) ?_
                    refine lv_icmp_ne (tgt := 229) hx hb dL_isSame_145 (by decide) (fun c25 => ?_) (fun c25 => ?_)
                    · have E26 := (E24.trans (if_neg c25))
                      refine lv_iconst (v := (0 : Int32)) hx hb dL_isSame_229 (by decide) ?_
                      exact fb_retRI X E26 rfl dL_isSame_230
                    · have E27 := (E24.trans (if_pos c25))
                      refine lv_aload_n hx hb dL_isSame_148 rfl (lv_at hl 0 rfl) ?_
                      refine fb_roI X I (fb_runV (As := []) (rest := []) (q0 := 0) X I hl (c_X11_calls l D cI cJ zb zr0 zr1 zr2 zr3 zr4 zr6 zr7 zr8 zr9 zq zs zw _) (fb_goodV fw_1117 fw_1118 fw_1119 fw_44 fw_1120) rfl rfl rfl (by decide +kernel : fb_hd yX11_calls 0) ⟨Nat.le_of_ble_eq_true rfl, Nat.le_of_ble_eq_true rfl⟩ [0, 1, 2, 3, 4, 5, 6, 7, 8] (by decide) rfl rfl rfl rfl rfl rfl (Nat.le_of_ble_eq_true rfl) ⟨Nat.zero_le _, Nat.zero_le _⟩ dL_isSame_149) ?_
                      refine lv_aload_n hx hb dL_isSame_152 rfl (lv_at hl 1 rfl) ?_
                      refine fb_roI X I (fb_runV (As := []) (rest := [.int (f_X11_calls zs)]) (q0 := 9) X I hl (c_X11_calls l D cI cJ yb yr0 yr1 yr2 yr3 yr4 yr6 yr7 yr8 yr9 yq ys yw _) (fb_goodV fw_1117 fw_1118 fw_1119 fw_44 fw_1120) rfl rfl rfl (by decide +kernel : fb_hd yX11_calls 0) ⟨Nat.le_of_ble_eq_true rfl, Nat.le_of_ble_eq_true rfl⟩ [9, 10, 11, 12, 13, 14, 15, 16, 17] (by decide) rfl rfl rfl rfl rfl rfl (Nat.le_of_ble_eq_true rfl) ⟨Nat.zero_le _, Nat.zero_le _⟩ dL_isSame_153) ?_
                      refine lv_icmp_ne (tgt := 229) hx hb dL_isSame_156 (by decide) (fun c28 => ?_) (fun c28 => ?_)
                      · have E29 := (E27.trans (if_neg c28))
                        refine lv_iconst (v := (0 : Int32)) hx hb dL_isSame_229 (by decide) ?_
                        exact fb_retRI X E29 rfl dL_isSame_230
                      · have E30 := (E27.trans (if_pos c28))
                        refine lv_aload_n hx hb dL_isSame_159 rfl (lv_at hl 0 rfl) ?_
                        refine fb_roI X I (fb_runV (As := []) (rest := []) (q0 := 0) X I hl (c_X11_count l D cI cJ zb zr0 zr1 zr2 zr3 zr4 zr6 zr7 zr8 zr9 zq zs zw _) (fb_goodV fw_1121 fw_1122 fw_1123 fw_44 fw_1124) rfl rfl rfl (by decide +kernel : fb_hd yX11_count 0) ⟨Nat.le_of_ble_eq_true rfl, Nat.le_of_ble_eq_true rfl⟩ [0, 1, 2, 3, 4, 5, 6, 7, 8] (by decide) rfl rfl rfl rfl rfl rfl (Nat.le_of_ble_eq_true rfl) ⟨Nat.zero_le _, Nat.zero_le _⟩ dL_isSame_160) ?_
                        refine lv_aload_n hx hb dL_isSame_163 rfl (lv_at hl 1 rfl) ?_
                        refine fb_roI X I (fb_runV (As := []) (rest := [.int (f_X11_count zs)]) (q0 := 9) X I hl (c_X11_count l D cI cJ yb yr0 yr1 yr2 yr3 yr4 yr6 yr7 yr8 yr9 yq ys yw _) (fb_goodV fw_1121 fw_1122 fw_1123 fw_44 fw_1124) rfl rfl rfl (by decide +kernel : fb_hd yX11_count 0) ⟨Nat.le_of_ble_eq_true rfl, Nat.le_of_ble_eq_true rfl⟩ [9, 10, 11, 12, 13, 14, 15, 16, 17] (by decide) rfl rfl rfl rfl rfl rfl (Nat.le_of_ble_eq_true rfl) ⟨Nat.zero_le _, Nat.zero_le _⟩ dL_isSame_164) ?_
                        refine lv_icmp_ne (tgt := 229) hx hb dL_isSame_167 (by decide) (fun c31 => ?_) (fun c31 => ?_)
                        · have E32 := (E30.trans (if_neg c31))
                          refine lv_iconst (v := (0 : Int32)) hx hb dL_isSame_229 (by decide) ?_
                          exact fb_retRI X E32 rfl dL_isSame_230
                        · have E33 := (E30.trans (if_pos c31))
                          refine lv_aload_n hx hb dL_isSame_170 rfl (lv_at hl 0 rfl) ?_
                          refine fb_roI X I (fb_runV (As := []) (rest := []) (q0 := 0) X I hl (c_X11_pending l D cI cJ zb zr0 zr1 zr2 zr3 zr4 zr6 zr7 zr8 zr9 zq zs zw _) (fb_goodV fw_1125 fw_1126 fw_1127 fw_44 fw_1128) rfl rfl rfl (by decide +kernel : fb_hd yX11_pending 0) ⟨Nat.le_of_ble_eq_true rfl, Nat.le_of_ble_eq_true rfl⟩ [0, 1, 2, 3, 4, 5, 6, 7, 8] (by decide) rfl rfl rfl rfl rfl rfl (Nat.le_of_ble_eq_true rfl) ⟨Nat.zero_le _, Nat.zero_le _⟩ dL_isSame_171) ?_
                          refine lv_aload_n hx hb dL_isSame_174 rfl (lv_at hl 1 rfl) ?_
                          refine fb_roI X I (fb_runV (As := []) (rest := [.int (f_X11_pending zs)]) (q0 := 9) X I hl (c_X11_pending l D cI cJ yb yr0 yr1 yr2 yr3 yr4 yr6 yr7 yr8 yr9 yq ys yw _) (fb_goodV fw_1125 fw_1126 fw_1127 fw_44 fw_1128) rfl rfl rfl (by decide +kernel : fb_hd yX11_pending 0) ⟨Nat.le_of_ble_eq_true rfl, Nat.le_of_ble_eq_true rfl⟩ [9, 10, 11, 12, 13, 14, 15, 16, 17] (by decide) rfl rfl rfl rfl rfl rfl (Nat.le_of_ble_eq_true rfl) ⟨Nat.zero_le _, Nat.zero_le _⟩ dL_isSame_175) ?_
                          refine lv_icmp_ne (tgt := 229) hx hb dL_isSame_178 (by decide) (fun c34 => ?_) (fun c34 => ?_)
                          · have E35 := (E33.trans (if_neg c34))
                            refine lv_iconst (v := (0 : Int32)) hx hb dL_isSame_229 (by decide) ?_
                            exact fb_retRI X E35 rfl dL_isSame_230
                          · have E36 := (E33.trans (if_pos c34))
                            refine lv_aload_n hx hb dL_isSame_181 rfl (lv_at hl 0 rfl) ?_
                            refine fb_roI X I (fb_runV (As := []) (rest := []) (q0 := 0) X I hl (c_X11_inputs l D cI cJ zb zr0 zr1 zr2 zr3 zr4 zr6 zr7 zr8 zr9 zq zs zw _) (fb_goodV fw_933 fw_934 fw_935 fw_44 fw_936) rfl rfl rfl (by decide +kernel : fb_hd yX11_inputs 0) ⟨Nat.le_of_ble_eq_true rfl, Nat.le_of_ble_eq_true rfl⟩ [0, 1, 2, 3, 4, 5, 6, 7, 8] (by decide) rfl rfl rfl rfl rfl rfl (Nat.le_of_ble_eq_true rfl) ⟨Nat.zero_le _, Nat.zero_le _⟩ dL_isSame_182) ?_
                            refine lv_aload_n hx hb dL_isSame_185 rfl (lv_at hl 1 rfl) ?_
                            refine fb_roI X I (fb_runV (As := []) (rest := [.int (f_X11_inputs zs)]) (q0 := 9) X I hl (c_X11_inputs l D cI cJ yb yr0 yr1 yr2 yr3 yr4 yr6 yr7 yr8 yr9 yq ys yw _) (fb_goodV fw_933 fw_934 fw_935 fw_44 fw_936) rfl rfl rfl (by decide +kernel : fb_hd yX11_inputs 0) ⟨Nat.le_of_ble_eq_true rfl, Nat.le_of_ble_eq_true rfl⟩ [9, 10, 11, 12, 13, 14, 15, 16, 17] (by decide) rfl rfl rfl rfl rfl rfl (Nat.le_of_ble_eq_true rfl) ⟨Nat.zero_le _, Nat.zero_le _⟩ dL_isSame_186) ?_
                            refine lv_icmp_ne (tgt := 229) hx hb dL_isSame_189 (by decide) (fun c37 => ?_) (fun c37 => ?_)
                            · have E38 := (E36.trans (if_neg c37))
                              refine lv_iconst (v := (0 : Int32)) hx hb dL_isSame_229 (by decide) ?_
                              exact fb_retRI X E38 rfl dL_isSame_230
                            · have E39 := (E36.trans (if_pos c37))
                              refine lv_aload_n hx hb dL_isSame_192 rfl (lv_at hl 0 rfl) ?_
                              refine fb_roI X I (fb_runV (As := []) (rest := []) (q0 := 0) X I hl (c_X11_outputs l D cI cJ zb zr0 zr1 zr2 zr3 zr4 zr6 zr7 zr8 zr9 zq zs zw _) (fb_goodV fw_937 fw_938 fw_939 fw_44 fw_940) rfl rfl rfl (by decide +kernel : fb_hd yX11_outputs 0) ⟨Nat.le_of_ble_eq_true rfl, Nat.le_of_ble_eq_true rfl⟩ [0, 1, 2, 3, 4, 5, 6, 7, 8] (by decide) rfl rfl rfl rfl rfl rfl (Nat.le_of_ble_eq_true rfl) ⟨Nat.zero_le _, Nat.zero_le _⟩ dL_isSame_193) ?_
                              refine lv_aload_n hx hb dL_isSame_196 rfl (lv_at hl 1 rfl) ?_
                              refine fb_roI X I (fb_runV (As := []) (rest := [.int (f_X11_outputs zs)]) (q0 := 9) X I hl (c_X11_outputs l D cI cJ yb yr0 yr1 yr2 yr3 yr4 yr6 yr7 yr8 yr9 yq ys yw _) (fb_goodV fw_937 fw_938 fw_939 fw_44 fw_940) rfl rfl rfl (by decide +kernel : fb_hd yX11_outputs 0) ⟨Nat.le_of_ble_eq_true rfl, Nat.le_of_ble_eq_true rfl⟩ [9, 10, 11, 12, 13, 14, 15, 16, 17] (by decide) rfl rfl rfl rfl rfl rfl (Nat.le_of_ble_eq_true rfl) ⟨Nat.zero_le _, Nat.zero_le _⟩ dL_isSame_197) ?_
                              refine lv_icmp_ne (tgt := 229) hx hb dL_isSame_200 (by decide) (fun c40 => ?_) (fun c40 => ?_)
                              · have E41 := (E39.trans (if_neg c40))
                                refine lv_iconst (v := (0 : Int32)) hx hb dL_isSame_229 (by decide) ?_
                                exact fb_retRI X E41 rfl dL_isSame_230
                              · have E42 := (E39.trans (if_pos c40))
                                refine lv_aload_n hx hb dL_isSame_203 rfl (lv_at hl 0 rfl) ?_
                                refine fb_roI X I (fb_runV (As := []) (rest := []) (q0 := 0) X I hl (c_X11_bank l D cI cJ zb zr0 zr1 zr2 zr3 zr4 zr6 zr7 zr8 zr9 zq zs zw _) (fb_goodV fw_1129 fw_1130 fw_1131 fw_44 fw_1132) rfl rfl rfl (by decide +kernel : fb_hd yX11_bank 0) ⟨Nat.le_of_ble_eq_true rfl, Nat.le_of_ble_eq_true rfl⟩ [0, 1, 2, 3, 4, 5, 6, 7, 8] (by decide) rfl rfl rfl rfl rfl rfl (Nat.le_of_ble_eq_true rfl) ⟨Nat.zero_le _, Nat.zero_le _⟩ dL_isSame_204) ?_
                                refine lv_aload_n hx hb dL_isSame_207 rfl (lv_at hl 1 rfl) ?_
                                refine fb_roI X I (fb_runV (As := []) (rest := [.int (f_X11_bank zs)]) (q0 := 9) X I hl (c_X11_bank l D cI cJ yb yr0 yr1 yr2 yr3 yr4 yr6 yr7 yr8 yr9 yq ys yw _) (fb_goodV fw_1129 fw_1130 fw_1131 fw_44 fw_1132) rfl rfl rfl (by decide +kernel : fb_hd yX11_bank 0) ⟨Nat.le_of_ble_eq_true rfl, Nat.le_of_ble_eq_true rfl⟩ [9, 10, 11, 12, 13, 14, 15, 16, 17] (by decide) rfl rfl rfl rfl rfl rfl (Nat.le_of_ble_eq_true rfl) ⟨Nat.zero_le _, Nat.zero_le _⟩ dL_isSame_208) ?_
                                refine lv_icmp_ne (tgt := 229) hx hb dL_isSame_211 (by decide) (fun c43 => ?_) (fun c43 => ?_)
                                · have E44 := (E42.trans (if_neg c43))
                                  refine lv_iconst (v := (0 : Int32)) hx hb dL_isSame_229 (by decide) ?_
                                  exact fb_retRI X E44 rfl dL_isSame_230
                                · have E45 := (E42.trans (if_pos c43))
                                  refine lv_aload_n hx hb dL_isSame_214 rfl (lv_at hl 0 rfl) ?_
                                  refine fb_roI X I (fb_runV (As := []) (rest := []) (q0 := 0) X I hl (c_X11_mask l D cI cJ zb zr0 zr1 zr2 zr3 zr4 zr6 zr7 zr8 zr9 zq zs zw _) (fb_goodV fw_1133 fw_1134 fw_1135 fw_44 fw_1136) rfl rfl rfl (by decide +kernel : fb_hd yX11_mask 0) ⟨Nat.le_of_ble_eq_true rfl, Nat.le_of_ble_eq_true rfl⟩ [0, 1, 2, 3, 4, 5, 6, 7, 8] (by decide) rfl rfl rfl rfl rfl rfl (Nat.le_of_ble_eq_true rfl) ⟨Nat.zero_le _, Nat.zero_le _⟩ dL_isSame_215) ?_
                                  refine lv_aload_n hx hb dL_isSame_218 rfl (lv_at hl 1 rfl) ?_
                                  refine fb_roI X I (fb_runV (As := []) (rest := [.int (f_X11_mask zs)]) (q0 := 9) X I hl (c_X11_mask l D cI cJ yb yr0 yr1 yr2 yr3 yr4 yr6 yr7 yr8 yr9 yq ys yw _) (fb_goodV fw_1133 fw_1134 fw_1135 fw_44 fw_1136) rfl rfl rfl (by decide +kernel : fb_hd yX11_mask 0) ⟨Nat.le_of_ble_eq_true rfl, Nat.le_of_ble_eq_true rfl⟩ [9, 10, 11, 12, 13, 14, 15, 16, 17] (by decide) rfl rfl rfl rfl rfl rfl (Nat.le_of_ble_eq_true rfl) ⟨Nat.zero_le _, Nat.zero_le _⟩ dL_isSame_219) ?_
                                  refine lv_icmp_ne (tgt := 229) hx hb dL_isSame_222 (by decide) (fun c46 => ?_) (fun c46 => ?_)
                                  · have E47 := (E45.trans (if_neg c46))
                                    refine lv_iconst (v := (0 : Int32)) hx hb dL_isSame_229 (by decide) ?_
                                    exact fb_retRI X E47 rfl dL_isSame_230
                                  · have E48 := (E45.trans (if_pos c46))
                                    refine lv_iconst (v := (1 : Int32)) hx hb dL_isSame_225 (by decide) ?_
                                    refine lv_goto (tgt := 230) hx hb dL_isSame_226 (by decide) ?_
                                    exact fb_retRI X E48 rfl dL_isSame_230
    · have E3 := (E.trans (if_neg c1))
      refine lv_iload_n hx hb dL_isSame_8 rfl (lv_at hl 2 rfl) ?_
      refine lv_bipush (v := (103 : Int32)) hx hb dL_isSame_9 (by decide) ?_
      refine lv_iload_n hx hb dL_isSame_11 rfl (lv_at hl 3 rfl) ?_
      refine lv_imul hx hb dL_isSame_12 ?_
      refine lv_iadd hx hb dL_isSame_13 ?_
      refine lv_sipush (v := (4096 : Int32)) hx hb dL_isSame_14 (by decide) ?_
      refine fb_roI X I (fb_runS (As := [.int (l2 + ((103 : Int32) * l3)), .int (4096 : Int32)]) (rest := []) X I hl (c_L_below l D cI cJ (l2 + ((103 : Int32) * l3)) (4096 : Int32) _ (by decide)) (fb_goodS fw_1019 fw_1020 fw_43 fw_1021) rfl rfl (by decide +kernel : fb_hd yL_below 2) ⟨Nat.le_of_ble_eq_true rfl, Nat.le_of_ble_eq_true rfl⟩ [] (by decide) rfl rfl rfl (Nat.le_of_ble_eq_true rfl) ⟨Nat.zero_le _, Nat.zero_le _⟩ dL_isSame_17) ?_
      refine lv_istore (lv' := [(4, .int (f_L_below (l2 + ((103 : Int32) * l3)) (4096 : Int32))), (0, .ref zb), (1, .ref yb), (2, .int l2), (3, .int l3)]) hx hb dL_isSame_20 hl (by decide) rfl (fun ls hl => ?_)
      refine lv_aload_n hx hb dL_isSame_22 rfl (lv_at hl 1 rfl) ?_
      refine lv_iload hx hb dL_isSame_23 (lv_at hl 0 rfl) ?_
      refine fb_roI X I (fb_runV (As := [.int (f_L_below (l2 + ((103 : Int32) * l3)) (4096 : Int32))]) (rest := []) (q0 := 0) X I hl (c_X11_byteAt l D cI cJ zb zr0 zr1 zr2 zr3 zr4 zr6 zr7 zr8 zr9 zq zs zw (f_L_below (l2 + ((103 : Int32) * l3)) (4096 : Int32)) _ (lw_adr _)) (fb_goodV fw_1080 fw_1081 fw_1082 fw_44 fw_1083) rfl rfl rfl (by decide +kernel : fb_hd yX11_byteAt 1) ⟨Nat.le_of_ble_eq_true rfl, Nat.le_of_ble_eq_true rfl⟩ [0, 1, 2, 3, 4, 5, 6, 7, 8] (by decide) rfl rfl rfl rfl rfl rfl (Nat.le_of_ble_eq_true rfl) ⟨Nat.zero_le _, Nat.zero_le _⟩ dL_isSame_25) ?_
      refine lv_aload_n hx hb dL_isSame_28 rfl (lv_at hl 2 rfl) ?_
      refine lv_iload hx hb dL_isSame_29 (lv_at hl 0 rfl) ?_
      refine fb_roI X I (fb_runV (As := [.int (f_L_below (l2 + ((103 : Int32) * l3)) (4096 : Int32))]) (rest := [.int (f_X11_byteAt zs (f_L_below (l2 + ((103 : Int32) * l3)) (4096 : Int32)))]) (q0 := 9) X I hl (c_X11_byteAt l D cI cJ yb yr0 yr1 yr2 yr3 yr4 yr6 yr7 yr8 yr9 yq ys yw (f_L_below (l2 + ((103 : Int32) * l3)) (4096 : Int32)) _ (lw_adr _)) (fb_goodV fw_1080 fw_1081 fw_1082 fw_44 fw_1083) rfl rfl rfl (by decide +kernel : fb_hd yX11_byteAt 1) ⟨Nat.le_of_ble_eq_true rfl, Nat.le_of_ble_eq_true rfl⟩ [9, 10, 11, 12, 13, 14, 15, 16, 17] (by decide) rfl rfl rfl rfl rfl rfl (Nat.le_of_ble_eq_true rfl) ⟨Nat.zero_le _, Nat.zero_le _⟩ dL_isSame_31) ?_
      refine lv_icmp_ne (tgt := 52) hx hb dL_isSame_34 (by decide) (fun c49 => ?_) (fun c49 => ?_)
      · have E50 := (E3.trans (if_neg c49))
        refine lv_iconst (v := (0 : Int32)) hx hb dL_isSame_52 (by decide) ?_
        exact fb_retRI X E50 rfl dL_isSame_53
      · have E51 := (E3.trans (if_pos c49))
        refine lv_aload_n hx hb dL_isSame_37 rfl (lv_at hl 1 rfl) ?_
        refine lv_iload hx hb dL_isSame_38 (lv_at hl 0 rfl) ?_
        refine fb_roI X I (fb_runV (As := [.int (f_L_below (l2 + ((103 : Int32) * l3)) (4096 : Int32))]) (rest := []) (q0 := 0) X I hl (c_X11_timesAt l D cI cJ zb zr0 zr1 zr2 zr3 zr4 zr6 zr7 zr8 zr9 zq zs zw (f_L_below (l2 + ((103 : Int32) * l3)) (4096 : Int32)) _ (lw_adr _)) (fb_goodV fw_1085 fw_1086 fw_1087 fw_44 fw_1088) rfl rfl rfl (by decide +kernel : fb_hd yX11_timesAt 1) ⟨Nat.le_of_ble_eq_true rfl, Nat.le_of_ble_eq_true rfl⟩ [0, 1, 2, 3, 4, 5, 6, 7, 8] (by decide) rfl rfl rfl rfl rfl rfl (Nat.le_of_ble_eq_true rfl) ⟨Nat.zero_le _, Nat.zero_le _⟩ dL_isSame_40) ?_
        refine lv_aload_n hx hb dL_isSame_43 rfl (lv_at hl 2 rfl) ?_
        refine lv_iload hx hb dL_isSame_44 (lv_at hl 0 rfl) ?_
        refine fb_roI X I (fb_runV (As := [.int (f_L_below (l2 + ((103 : Int32) * l3)) (4096 : Int32))]) (rest := [.int (f_X11_timesAt zs (f_L_below (l2 + ((103 : Int32) * l3)) (4096 : Int32)))]) (q0 := 9) X I hl (c_X11_timesAt l D cI cJ yb yr0 yr1 yr2 yr3 yr4 yr6 yr7 yr8 yr9 yq ys yw (f_L_below (l2 + ((103 : Int32) * l3)) (4096 : Int32)) _ (lw_adr _)) (fb_goodV fw_1085 fw_1086 fw_1087 fw_44 fw_1088) rfl rfl rfl (by decide +kernel : fb_hd yX11_timesAt 1) ⟨Nat.le_of_ble_eq_true rfl, Nat.le_of_ble_eq_true rfl⟩ [9, 10, 11, 12, 13, 14, 15, 16, 17] (by decide) rfl rfl rfl rfl rfl rfl (Nat.le_of_ble_eq_true rfl) ⟨Nat.zero_le _, Nat.zero_le _⟩ dL_isSame_46) ?_
        refine lv_icmp_eq (tgt := 54) hx hb dL_isSame_49 (by decide) (fun c52 => ?_) (fun c52 => ?_)
        · have E53 := (E51.trans (if_pos c52))
          refine lv_iinc (v := (l3 + (1 : Int32))) (lv' := [(3, .int (l3 + (1 : Int32))), (4, .int (f_L_below (l2 + ((103 : Int32) * l3)) (4096 : Int32))), (0, .ref zb), (1, .ref yb), (2, .int l2)]) hx hb dL_isSame_54 hl (k := 4) rfl rfl (by decide) rfl (fun ls hl => ?_)
          refine lv_goto (tgt := 2) hx hb dL_isSame_57 (by decide) ?_
          exact ih (l2 := l2) (l3 := (l3 + (1 : Int32))) (fb_mu_ge c1 hm)  I (lv_sub hl [2, 3, 4, 0] rfl) E53
        · have E54 := (E51.trans (if_neg c52))
          refine lv_iconst (v := (0 : Int32)) hx hb dL_isSame_52 (by decide) ?_
          exact fb_retRI X E54 rfl dL_isSame_53
set_option maxHeartbeats 4000000 in
set_option maxRecDepth 100000 in
theorem b_L_isSame_0 {p : Program} {l : Launch} {e : Env} {s : State} {m : MethodId} {args : Array Value} {below : List Frame} {meth : Method} {c : Code} {D : va_G} {cI cJ : ClassId} {A : Nat → Prop} {zb : Nat} {zr0 : Nat} {zr1 : Nat} {zr2 : Nat} {zr3 : Nat} {zr4 : Nat} {zr6 : Nat} {zr7 : Nat} {zr8 : Nat} {zr9 : Nat} {zq : Nat → Nat} {yb : Nat} {yr0 : Nat} {yr1 : Nat} {yr2 : Nat} {yr3 : Nat} {yr4 : Nat} {yr6 : Nat} {yr7 : Nat} {yr8 : Nat} {yr9 : Nat} {yq : Nat → Nat} {z : Int32} (X : fb_Bx p s m args meth c cL_isSame RL 5 (some .boolean) D (fb_ty cI cJ) A) {zs : fb_MS} {zw : fb_AR} {ys : fb_MS} {yw : fb_AR} {l2 : Int32} {ls : Array Slot}  (I : fb_In D A s.heap ((fb_o11 zb zr0 zr1 zr2 zr3 zr4 (zq 0) zr6 zr7 zr8 zr9) ++ ((fb_mw cI zq zs zw) ++ ((fb_o11 yb yr0 yr1 yr2 yr3 yr4 (yq 0) yr6 yr7 yr8 yr9) ++ (fb_mw cI yq ys yw)))) s.heap []) (hl : lv_has ls 5 [(0, .ref zb), (1, .ref yb), (2, .int l2)]) (E : z = f_L_isSame zs ys l2) : W p l e ({ frames := 3, cells := 0, slots := 0, locals := 63 } : Room) s m args below meth c s.heap [] 0 0 (MQ below (vp_Si (fun r => r = z)) args s 0 0 (fun _ => False)) (F0 m 0 ls []) := by
  obtain ⟨hx, hb, hr, hml, hown, hts, hlk, hA, hK, hF⟩ := id X
  refine lv_iconst (v := (0 : Int32)) hx hb dL_isSame_0 (by decide) ?_
  refine lv_istore_n (lv' := [(3, .int (0 : Int32)), (0, .ref zb), (1, .ref yb), (2, .int l2)]) hx hb dL_isSame_1 rfl hl (by decide) rfl (fun ls hl => ?_)
  exact b_L_isSame_2 X  ((fb_mu (0 : Int32) (40 : Int32)) + 1) (l2 := l2) (l3 := (0 : Int32)) (Nat.lt_succ_self _)  I (lv_sub hl [1, 2, 3, 0] rfl) E
set_option maxHeartbeats 4000000 in
set_option maxRecDepth 100000 in
theorem c_L_isSame (l : Launch) (D : va_G) (cI cJ : ClassId) (zb : Nat) (zr0 : Nat) (zr1 : Nat) (zr2 : Nat) (zr3 : Nat) (zr4 : Nat) (zr6 : Nat) (zr7 : Nat) (zr8 : Nat) (zr9 : Nat) (zq : Nat → Nat) (zs : fb_MS) (zw : fb_AR) (yb : Nat) (yr0 : Nat) (yr1 : Nat) (yr2 : Nat) (yr3 : Nat) (yr4 : Nat) (yr6 : Nat) (yr7 : Nat) (yr8 : Nat) (yr9 : Nat) (yq : Nat → Nat) (ys : fb_MS) (yw : fb_AR) (l2 : Int32) (sz : Nat)  : Met l yL_isSame (Cond.code yL_isSame cL_isSame 5 (some .boolean) :: fb_all) ({ frames := 3, cells := 0, slots := 0, locals := 63 } : Room) (fb_PP D (fb_ty cI cJ) [.ref zb, .ref yb, .int l2] ((fb_o11 zb zr0 zr1 zr2 zr3 zr4 (zq 0) zr6 zr7 zr8 zr9) ++ ((fb_mw cI zq zs zw) ++ ((fb_o11 yb yr0 yr1 yr2 yr3 yr4 (yq 0) yr6 yr7 yr8 yr9) ++ (fb_mw cI yq ys yw)))) sz) (vp_Si (fun r => r = ((f_L_isSame zs ys l2)))) 0 0 (fun _ => False) := by
  refine fb_entR (by decide +kernel) (Nat.le_of_ble_eq_true rfl) ?_
  intro p e s m args below meth c A ls X I hl hin
  exact b_L_isSame_0 X  I hl rfl
/-! L_isBound -/
def f_L_isBound (zs : fb_MS) (ze0 : fb_AR) : Int32 := (if (f_X11_a zs) < 0 then (0 : Int32) else (if (256 : Int32) ≤ (f_X11_a zs) then (0 : Int32) else (if (f_X11_x zs) < 0 then (0 : Int32) else (if (256 : Int32) ≤ (f_X11_x zs) then (0 : Int32) else (if (f_X11_s zs) < 0 then (0 : Int32) else (if (256 : Int32) ≤ (f_X11_s zs) then (0 : Int32) else (if ((f_X11_flags zs) &&& (-32 : Int32)) = 0 then (if (f_X11_pc zs) < 0 then (0 : Int32) else (if (4096 : Int32) ≤ (f_X11_pc zs) then (0 : Int32) else (if (f_X11_bank zs) < 0 then (0 : Int32) else (if (8 : Int32) ≤ (f_X11_bank zs) then (0 : Int32) else (if (40 : Int32) < (f_X11_calls zs) then (0 : Int32) else (if (200 : Int32) < (f_X11_history ze0) then (0 : Int32) else (if (16 : Int32) < (f_X11_inputs zs) then (0 : Int32) else (if (16 : Int32) ≤ (f_X11_pending zs) then (0 : Int32) else (if (f_X11_cycles zs) < (f_X11_instructions zs) then (0 : Int32) else (1 : Int32)))))))))) else (0 : Int32))))))))
set_option maxHeartbeats 4000000 in
set_option maxRecDepth 100000 in
theorem b_L_isBound_0 {p : Program} {l : Launch} {e : Env} {s : State} {m : MethodId} {args : Array Value} {below : List Frame} {meth : Method} {c : Code} {D : va_G} {cI cJ : ClassId} {A : Nat → Prop} {zb : Nat} {zr0 : Nat} {zr1 : Nat} {zr2 : Nat} {zr3 : Nat} {zr4 : Nat} {zr6 : Nat} {zh : Nat} {zr8 : Nat} {zr9 : Nat} {zq : Nat → Nat} {zo : Nat} {zn : Nat} {z : Int32} (X : fb_Bx p s m args meth c cL_isBound RL 1 (some .boolean) D (fb_ty cI cJ) A) {zs : fb_MS} {zw : fb_AR} {ze0 : fb_AR} {ls : Array Slot}  (I : fb_In D A s.heap ((fb_o11 zb zr0 zr1 zr2 zr3 zr4 (zq 0) zr6 zh zr8 zr9) ++ ((fb_mw cI zq zs zw) ++ (fb_o0 zh zo zn ze0))) s.heap []) (hl : lv_has ls 1 [(0, .ref zb)]) (E : z = f_L_isBound zs ze0) : W p l e ({ frames := 1, cells := 0, slots := 0, locals := 20 } : Room) s m args below meth c s.heap [] 0 0 (MQ below (vp_Si (fun r => r = z)) args s 0 0 (fun _ => False)) (F0 m 0 ls []) := by
  obtain ⟨hx, hb, hr, hml, hown, hts, hlk, hA, hK, hF⟩ := id X
  refine lv_aload_n hx hb dL_isBound_0 rfl (lv_at hl 0 rfl) ?_
  refine fb_roI X I (fb_runV (As := []) (rest := []) (q0 := 0) X I hl (c_X11_a l D cI cJ zb zr0 zr1 zr2 zr3 zr4 zr6 zh zr8 zr9 zq zs zw _) (fb_goodV fw_1089 fw_1090 fw_1091 fw_44 fw_1092) rfl rfl rfl (by decide +kernel : fb_hd yX11_a 0) ⟨Nat.le_of_ble_eq_true rfl, Nat.le_of_ble_eq_true rfl⟩ [0, 1, 2, 3, 4, 5, 6, 7, 8] (by decide) rfl rfl rfl rfl rfl rfl (Nat.le_of_ble_eq_true rfl) ⟨Nat.zero_le _, Nat.zero_le _⟩ dL_isBound_1) ?_
  refine lv_if_lt (tgt := 146) hx hb dL_isBound_4 (by decide) (fun c1 => ?_) (fun c1 => ?_)
  · have E2 := (E.trans (if_pos c1))
    refine lv_iconst (v := (0 : Int32)) hx hb dL_isBound_146 (by decide) ?_
    exact fb_retRI X E2 rfl dL_isBound_147
  · have E3 := (E.trans (if_neg c1))
    refine lv_aload_n hx hb dL_isBound_7 rfl (lv_at hl 0 rfl) ?_
    refine fb_roI X I (fb_runV (As := []) (rest := []) (q0 := 0) X I hl (c_X11_a l D cI cJ zb zr0 zr1 zr2 zr3 zr4 zr6 zh zr8 zr9 zq zs zw _) (fb_goodV fw_1089 fw_1090 fw_1091 fw_44 fw_1092) rfl rfl rfl (by decide +kernel : fb_hd yX11_a 0) ⟨Nat.le_of_ble_eq_true rfl, Nat.le_of_ble_eq_true rfl⟩ [0, 1, 2, 3, 4, 5, 6, 7, 8] (by decide) rfl rfl rfl rfl rfl rfl (Nat.le_of_ble_eq_true rfl) ⟨Nat.zero_le _, Nat.zero_le _⟩ dL_isBound_8) ?_
    refine lv_sipush (v := (256 : Int32)) hx hb dL_isBound_11 (by decide) ?_
    refine lv_icmp_ge (tgt := 146) hx hb dL_isBound_14 (by decide) (fun c4 => ?_) (fun c4 => ?_)
    · have E5 := (E3.trans (if_pos c4))
      refine lv_iconst (v := (0 : Int32)) hx hb dL_isBound_146 (by decide) ?_
      exact fb_retRI X E5 rfl dL_isBound_147
    · have E6 := (E3.trans (if_neg c4))
      refine lv_aload_n hx hb dL_isBound_17 rfl (lv_at hl 0 rfl) ?_
      refine fb_roI X I (fb_runV (As := []) (rest := []) (q0 := 0) X I hl (c_X11_x l D cI cJ zb zr0 zr1 zr2 zr3 zr4 zr6 zh zr8 zr9 zq zs zw _) (fb_goodV fw_1093 fw_1094 fw_1095 fw_44 fw_1096) rfl rfl rfl (by decide +kernel : fb_hd yX11_x 0) ⟨Nat.le_of_ble_eq_true rfl, Nat.le_of_ble_eq_true rfl⟩ [0, 1, 2, 3, 4, 5, 6, 7, 8] (by decide) rfl rfl rfl rfl rfl rfl (Nat.le_of_ble_eq_true rfl) ⟨Nat.zero_le _, Nat.zero_le _⟩ dL_isBound_18) ?_
      refine lv_if_lt (tgt := 146) hx hb dL_isBound_21 (by decide) (fun c7 => ?_) (fun c7 => ?_)
      · have E8 := (E6.trans (if_pos c7))
        refine lv_iconst (v := (0 : Int32)) hx hb dL_isBound_146 (by decide) ?_
        exact fb_retRI X E8 rfl dL_isBound_147
      · have E9 := (E6.trans (if_neg c7))
        refine lv_aload_n hx hb dL_isBound_24 rfl (lv_at hl 0 rfl) ?_
        refine fb_roI X I (fb_runV (As := []) (rest := []) (q0 := 0) X I hl (c_X11_x l D cI cJ zb zr0 zr1 zr2 zr3 zr4 zr6 zh zr8 zr9 zq zs zw _) (fb_goodV fw_1093 fw_1094 fw_1095 fw_44 fw_1096) rfl rfl rfl (by decide +kernel : fb_hd yX11_x 0) ⟨Nat.le_of_ble_eq_true rfl, Nat.le_of_ble_eq_true rfl⟩ [0, 1, 2, 3, 4, 5, 6, 7, 8] (by decide) rfl rfl rfl rfl rfl rfl (Nat.le_of_ble_eq_true rfl) ⟨Nat.zero_le _, Nat.zero_le _⟩ dL_isBound_25) ?_
        refine lv_sipush (v := (256 : Int32)) hx hb dL_isBound_28 (by decide) ?_
        refine lv_icmp_ge (tgt := 146) hx hb dL_isBound_31 (by decide) (fun c10 => ?_) (fun c10 => ?_)
        · have E11 := (E9.trans (if_pos c10))
          refine lv_iconst (v := (0 : Int32)) hx hb dL_isBound_146 (by decide) ?_
          exact fb_retRI X E11 rfl dL_isBound_147
        · have E12 := (E9.trans (if_neg c10))
          refine lv_aload_n hx hb dL_isBound_34 rfl (lv_at hl 0 rfl) ?_
          refine fb_roI X I (fb_runV (As := []) (rest := []) (q0 := 0) X I hl (c_X11_s l D cI cJ zb zr0 zr1 zr2 zr3 zr4 zr6 zh zr8 zr9 zq zs zw _) (fb_goodV fw_1097 fw_1098 fw_1099 fw_44 fw_1100) rfl rfl rfl (by decide +kernel : fb_hd yX11_s 0) ⟨Nat.le_of_ble_eq_true rfl, Nat.le_of_ble_eq_true rfl⟩ [0, 1, 2, 3, 4, 5, 6, 7, 8] (by decide) rfl rfl rfl rfl rfl rfl (Nat.le_of_ble_eq_true rfl) ⟨Nat.zero_le _, Nat.zero_le _⟩ dL_isBound_35) ?_
          refine lv_if_lt (tgt := 146) hx hb dL_isBound_38 (by decide) (fun c13 => ?_) (fun c13 => ?_)
          · have E14 := (E12.trans (if_pos c13))
            refine lv_iconst (v := (0 : Int32)) hx hb dL_isBound_146 (by decide) ?_
            exact fb_retRI X E14 rfl dL_isBound_147
          · have E15 := (E12.trans (if_neg c13))
            refine lv_aload_n hx hb dL_isBound_41 rfl (lv_at hl 0 rfl) ?_
            refine fb_roI X I (fb_runV (As := []) (rest := []) (q0 := 0) X I hl (c_X11_s l D cI cJ zb zr0 zr1 zr2 zr3 zr4 zr6 zh zr8 zr9 zq zs zw _) (fb_goodV fw_1097 fw_1098 fw_1099 fw_44 fw_1100) rfl rfl rfl (by decide +kernel : fb_hd yX11_s 0) ⟨Nat.le_of_ble_eq_true rfl, Nat.le_of_ble_eq_true rfl⟩ [0, 1, 2, 3, 4, 5, 6, 7, 8] (by decide) rfl rfl rfl rfl rfl rfl (Nat.le_of_ble_eq_true rfl) ⟨Nat.zero_le _, Nat.zero_le _⟩ dL_isBound_42) ?_
            refine lv_sipush (v := (256 : Int32)) hx hb dL_isBound_45 (by decide) ?_
            refine lv_icmp_ge (tgt := 146) hx hb dL_isBound_48 (by decide) (fun c16 => ?_) (fun c16 => ?_)
            · have E17 := (E15.trans (if_pos c16))
              refine lv_iconst (v := (0 : Int32)) hx hb dL_isBound_146 (by decide) ?_
              exact fb_retRI X E17 rfl dL_isBound_147
            · have E18 := (E15.trans (if_neg c16))
              refine lv_aload_n hx hb dL_isBound_51 rfl (lv_at hl 0 rfl) ?_
              refine fb_roI X I (fb_runV (As := []) (rest := []) (q0 := 0) X I hl (c_X11_flags l D cI cJ zb zr0 zr1 zr2 zr3 zr4 zr6 zh zr8 zr9 zq zs zw _) (fb_goodV fw_1101 fw_1102 fw_1103 fw_44 fw_1104) rfl rfl rfl (by decide +kernel : fb_hd yX11_flags 0) ⟨Nat.le_of_ble_eq_true rfl, Nat.le_of_ble_eq_true rfl⟩ [0, 1, 2, 3, 4, 5, 6, 7, 8] (by decide) rfl rfl rfl rfl rfl rfl (Nat.le_of_ble_eq_true rfl) ⟨Nat.zero_le _, Nat.zero_le _⟩ dL_isBound_52) ?_
              refine lv_bipush (v := (-32 : Int32)) hx hb dL_isBound_55 (by decide) ?_
              refine lv_iand hx hb dL_isBound_57 ?_
              refine lv_if_ne (tgt := 146) hx hb dL_isBound_58 (by decide) (fun c19 => ?_) (fun c19 => ?_)
              · have E20 := (E18.trans (if_neg c19))
                refine lv_iconst (v := (0 : Int32)) hx hb dL_isBound_146 (by decide) ?_
                exact fb_retRI X E20 rfl dL_isBound_147
              · have E21 := (E18.trans (if_pos c19))
                refine lv_aload_n hx hb dL_isBound_61 rfl (lv_at hl 0 rfl) ?_
                refine fb_roI X I (fb_runV (As := []) (rest := []) (q0 := 0) X I hl (c_X11_pc l D cI cJ zb zr0 zr1 zr2 zr3 zr4 zr6 zh zr8 zr9 zq zs zw _) (fb_goodV fw_1105 fw_1106 fw_1107 fw_44 fw_1108) rfl rfl rfl (by decide +kernel : fb_hd yX11_pc 0) ⟨Nat.le_of_ble_eq_true rfl, Nat.le_of_ble_eq_true rfl⟩ [0, 1, 2, 3, 4, 5, 6, 7, 8] (by decide) rfl rfl rfl rfl rfl rfl (Nat.le_of_ble_eq_true rfl) ⟨Nat.zero_le _, Nat.zero_le _⟩ dL_isBound_62) ?_
                refine lv_if_lt (tgt := 146) hx hb dL_isBound_65 (by decide) (fun c22 => ?_) (fun c22 => ?_)
                · have E23 := (E21.trans (if_pos c22))
                  refine lv_iconst (v := (0 : Int32)) hx hb dL_isBound_146 (by decide) ?_
                  exact fb_retRI X E23 rfl dL_isBound_147
                · have E24 := (E21.trans (if_neg c22))
                  refine lv_aload_n hx hb dL_isBound_68 rfl (lv_at hl 0 rfl) ?_
                  refine fb_roI X I (fb_runV (As := []) (rest := []) (q0 := 0) X I hl (c_X11_pc l D cI cJ zb zr0 zr1 zr2 zr3 zr4 zr6 zh zr8 zr9 zq zs zw _) (fb_goodV fw_1105 fw_1106 fw_1107 fw_44 fw_1108) rfl rfl rfl (by decide +kernel : fb_hd yX11_pc 0) ⟨Nat.le_of_ble_eq_true rfl, Nat.le_of_ble_eq_true rfl⟩ [0, 1, 2, 3, 4, 5, 6, 7, 8] (by decide) rfl rfl rfl rfl rfl rfl (Nat.le_of_ble_eq_true rfl) ⟨Nat.zero_le _, Nat.zero_le _⟩ dL_isBound_69) ?_
                  refine lv_sipush (v := (4096 : Int32)) hx hb dL_isBound_72 (by decide) ?_
                  refine lv_icmp_ge (tgt := 146) hx hb dL_isBound_75 (by decide) (fun c25 => ?_) (fun c25 => ?_)
                  · have E26 := (E24.trans (if_pos c25))
                    refine lv_iconst (v := (0 : Int32)) hx hb dL_isBound_146 (by decide) ?_
                    exact fb_retRI X E26 rfl dL_isBound_147
                  · have E27 := (E24.trans (if_neg c25))
                    refine lv_aload_n hx hb dL_isBound_78 rfl (lv_at hl 0 rfl) ?_
                    refine fb_roI X I (fb_runV (As := []) (rest := []) (q0 := 0) X I hl (c_X11_bank l D cI cJ zb zr0 zr1 zr2 zr3 zr4 zr6 zh zr8 zr9 zq zs zw _) (fb_goodV fw_1129 fw_1130 fw_1131 fw_44 fw_1132) rfl rfl rfl (by decide +kernel : fb_hd yX11_bank 0) ⟨Nat.le_of_ble_eq_true rfl, Nat.le_of_ble_eq_true rfl⟩ [0, 1, 2, 3, 4, 5, 6, 7, 8] (by decide) rfl rfl rfl rfl rfl rfl (Nat.le_of_ble_eq_true rfl) ⟨Nat.zero_le _, Nat.zero_le _⟩ dL_isBound_79) ?_
                    refine lv_if_lt (tgt := 146) hx hb dL_isBound_82 (by decide) (fun c28 => ?_) (fun c28 => ?_)
                    · have E29 := (E27.trans (if_pos c28))
                      refine lv_iconst (v := (0 : Int32)) hx hb dL_isBound_146 (by decide) ?_
                      exact fb_retRI X E29 rfl dL_isBound_147
                    · have E30 := (E27.trans (if_neg c28))
                      refine lv_aload_n hx hb dL_isBound_85 rfl (lv_at hl 0 rfl) ?_
                      refine fb_roI X I (fb_runV (As := []) (rest := []) (q0 := 0) X I hl (c_X11_bank l D cI cJ zb zr0 zr1 zr2 zr3 zr4 zr6 zh zr8 zr9 zq zs zw _) (fb_goodV fw_1129 fw_1130 fw_1131 fw_44 fw_1132) rfl rfl rfl (by decide +kernel : fb_hd yX11_bank 0) ⟨Nat.le_of_ble_eq_true rfl, Nat.le_of_ble_eq_true rfl⟩ [0, 1, 2, 3, 4, 5, 6, 7, 8] (by decide) rfl rfl rfl rfl rfl rfl (Nat.le_of_ble_eq_true rfl) ⟨Nat.zero_le _, Nat.zero_le _⟩ dL_isBound_86) ?_
                      refine lv_bipush (v := (8 : Int32)) hx hb dL_isBound_89 (by decide) ?_
                      refine lv_icmp_ge (tgt := 146) hx hb dL_isBound_91 (by decide) (fun c31 => ?_) (fun c31 => ?_)
                      · have E32 := (E30.trans (if_pos c31))
                        refine lv_iconst (v := (0 : Int32)) hx hb dL_isBound_146 (by decide) ?_
                        exact fb_retRI X E32 rfl dL_isBound_147
                      · have E33 := (E30.trans (if_neg c31))
                        refine lv_aload_n hx hb dL_isBound_94 rfl (lv_at hl 0 rfl) ?_
                        refine fb_roI X I (fb_runV (As := []) (rest := []) (q0 := 0) X I hl (c_X11_calls l D cI cJ zb zr0 zr1 zr2 zr3 zr4 zr6 zh zr8 zr9 zq zs zw _) (fb_goodV fw_1117 fw_1118 fw_1119 fw_44 fw_1120) rfl rfl rfl (by decide +kernel : fb_hd yX11_calls 0) ⟨Nat.le_of_ble_eq_true rfl, Nat.le_of_ble_eq_true rfl⟩ [0, 1, 2, 3, 4, 5, 6, 7, 8] (by decide) rfl rfl rfl rfl rfl rfl (Nat.le_of_ble_eq_true rfl) ⟨Nat.zero_le _, Nat.zero_le _⟩ dL_isBound_95) ?_
                        refine lv_bipush (v := (40 : Int32)) hx hb dL_isBound_98 (by decide) ?_
                        refine lv_icmp_gt (tgt := 146) hx hb dL_isBound_100 (by decide) (fun c34 => ?_) (fun c34 => ?_)
                        · have E35 := (E33.trans (if_pos c34))
                          refine lv_iconst (v := (0 : Int32)) hx hb dL_isBound_146 (by decide) ?_
                          exact fb_retRI X E35 rfl dL_isBound_147
                        · have E36 := (E33.trans (if_neg c34))
                          refine lv_aload_n hx hb dL_isBound_103 rfl (lv_at hl 0 rfl) ?_
                          refine fb_roI X I (fb_runV (As := []) (rest := []) (q0 := 0) X I hl (c_X11_history l D cI cJ zb zr0 zr1 zr2 zr3 zr4 (zq 0) zr6 zh zr8 zr9 zo zn ze0 _) (fb_goodV fw_925 fw_926 fw_927 fw_44 fw_928) rfl rfl rfl (by decide +kernel : fb_hd yX11_history 0) ⟨Nat.le_of_ble_eq_true rfl, Nat.le_of_ble_eq_true rfl⟩ [0, 9] (by decide) rfl rfl rfl rfl rfl rfl (Nat.le_of_ble_eq_true rfl) ⟨Nat.zero_le _, Nat.zero_le _⟩ dL_isBound_104) ?_
                          refine lv_sipush (v := (200 : Int32)) hx hb dL_isBound_107 (by decide) ?_
                          refine lv_icmp_gt (tgt := 146) hx hb dL_isBound_110 (by decide) (fun c37 => ?_) (fun c37 => ?_)
                          · have E38 := (E36.trans (if_pos c37))
                            refine lv_iconst (v := (0 : Int32)) hx hb dL_isBound_146 (by decide) ?_
                            exact fb_retRI X E38 rfl dL_isBound_147
                          · have E39 := (E36.trans (if_neg c37))
                            refine lv_aload_n hx hb dL_isBound_113 rfl (lv_at hl 0 rfl) ?_
                            refine fb_roI X I (fb_runV (As := []) (rest := []) (q0 := 0) X I hl (c_X11_inputs l D cI cJ zb zr0 zr1 zr2 zr3 zr4 zr6 zh zr8 zr9 zq zs zw _) (fb_goodV fw_933 fw_934 fw_935 fw_44 fw_936) rfl rfl rfl (by decide +kernel : fb_hd yX11_inputs 0) ⟨Nat.le_of_ble_eq_true rfl, Nat.le_of_ble_eq_true rfl⟩ [0, 1, 2, 3, 4, 5, 6, 7, 8] (by decide) rfl rfl rfl rfl rfl rfl (Nat.le_of_ble_eq_true rfl) ⟨Nat.zero_le _, Nat.zero_le _⟩ dL_isBound_114) ?_
                            refine lv_bipush (v := (16 : Int32)) hx hb dL_isBound_117 (by decide) ?_
                            refine lv_icmp_gt (tgt := 146) hx hb dL_isBound_119 (by decide) (fun c40 => ?_) (fun c40 => ?_)
                            · have E41 := (E39.trans (if_pos c40))
                              refine lv_iconst (v := (0 : Int32)) hx hb dL_isBound_146 (by decide) ?_
                              exact fb_retRI X E41 rfl dL_isBound_147
                            · have E42 := (E39.trans (if_neg c40))
                              refine lv_aload_n hx hb dL_isBound_122 rfl (lv_at hl 0 rfl) ?_
                              refine fb_roI X I (fb_runV (As := []) (rest := []) (q0 := 0) X I hl (c_X11_pending l D cI cJ zb zr0 zr1 zr2 zr3 zr4 zr6 zh zr8 zr9 zq zs zw _) (fb_goodV fw_1125 fw_1126 fw_1127 fw_44 fw_1128) rfl rfl rfl (by decide +kernel : fb_hd yX11_pending 0) ⟨Nat.le_of_ble_eq_true rfl, Nat.le_of_ble_eq_true rfl⟩ [0, 1, 2, 3, 4, 5, 6, 7, 8] (by decide) rfl rfl rfl rfl rfl rfl (Nat.le_of_ble_eq_true rfl) ⟨Nat.zero_le _, Nat.zero_le _⟩ dL_isBound_123) ?_
                              refine lv_bipush (v := (16 : Int32)) hx hb dL_isBound_126 (by decide) ?_
                              refine lv_icmp_ge (tgt := 146) hx hb dL_isBound_128 (by decide) (fun c43 => ?_) (fun c43 => ?_)
                              · have E44 := (E42.trans (if_pos c43))
                                refine lv_iconst (v := (0 : Int32)) hx hb dL_isBound_146 (by decide) ?_
                                exact fb_retRI X E44 rfl dL_isBound_147
                              · have E45 := (E42.trans (if_neg c43))
                                refine lv_aload_n hx hb dL_isBound_131 rfl (lv_at hl 0 rfl) ?_
                                refine fb_roI X I (fb_runV (As := []) (rest := []) (q0 := 0) X I hl (c_X11_instructions l D cI cJ zb zr0 zr1 zr2 zr3 zr4 zr6 zh zr8 zr9 zq zs zw _) (fb_goodV fw_1113 fw_1114 fw_1115 fw_44 fw_1116) rfl rfl rfl (by decide +kernel : fb_hd yX11_instructions 0) ⟨Nat.le_of_ble_eq_true rfl, Nat.le_of_ble_eq_true rfl⟩ [0, 1, 2, 3, 4, 5, 6, 7, 8] (by decide) rfl rfl rfl rfl rfl rfl (Nat.le_of_ble_eq_true rfl) ⟨Nat.zero_le _, Nat.zero_le _⟩ dL_isBound_132) ?_
                                refine lv_aload_n hx hb dL_isBound_135 rfl (lv_at hl 0 rfl) ?_
                                refine fb_roI X I (fb_runV (As := []) (rest := [.int (f_X11_instructions zs)]) (q0 := 0) X I hl (c_X11_cycles l D cI cJ zb zr0 zr1 zr2 zr3 zr4 zr6 zh zr8 zr9 zq zs zw _) (fb_goodV fw_1109 fw_1110 fw_1111 fw_44 fw_1112) rfl rfl rfl (by decide +kernel : fb_hd yX11_cycles 0) ⟨Nat.le_of_ble_eq_true rfl, Nat.le_of_ble_eq_true rfl⟩ [0, 1, 2, 3, 4, 5, 6, 7, 8] (by decide) rfl rfl rfl rfl rfl rfl (Nat.le_of_ble_eq_true rfl) ⟨Nat.zero_le _, Nat.zero_le _⟩ dL_isBound_136) ?_
                                refine lv_icmp_gt (tgt := 146) hx hb dL_isBound_139 (by decide) (fun c46 => ?_) (fun c46 => ?_)
                                · have E47 := (E45.trans (if_pos c46))
                                  refine lv_iconst (v := (0 : Int32)) hx hb dL_isBound_146 (by decide) ?_
                                  exact fb_retRI X E47 rfl dL_isBound_147
                                · have E48 := (E45.trans (if_neg c46))
                                  refine lv_iconst (v := (1 : Int32)) hx hb dL_isBound_142 (by decide) ?_
                                  refine lv_goto (tgt := 147) hx hb dL_isBound_143 (by decide) ?_
                                  exact fb_retRI X E48 rfl dL_isBound_147
set_option maxHeartbeats 4000000 in
set_option maxRecDepth 100000 in
theorem c_L_isBound (l : Launch) (D : va_G) (cI cJ : ClassId) (zb : Nat) (zr0 : Nat) (zr1 : Nat) (zr2 : Nat) (zr3 : Nat) (zr4 : Nat) (zr6 : Nat) (zh : Nat) (zr8 : Nat) (zr9 : Nat) (zq : Nat → Nat) (zs : fb_MS) (zw : fb_AR) (zo : Nat) (zn : Nat) (ze0 : fb_AR)  (sz : Nat)  : Met l yL_isBound (Cond.code yL_isBound cL_isBound 1 (some .boolean) :: fb_all) ({ frames := 1, cells := 0, slots := 0, locals := 20 } : Room) (fb_PP D (fb_ty cI cJ) [.ref zb] ((fb_o11 zb zr0 zr1 zr2 zr3 zr4 (zq 0) zr6 zh zr8 zr9) ++ ((fb_mw cI zq zs zw) ++ (fb_o0 zh zo zn ze0))) sz) (vp_Si (fun r => r = ((f_L_isBound zs ze0)))) 0 0 (fun _ => False) := by
  refine fb_entR (by decide +kernel) (Nat.le_of_ble_eq_true rfl) ?_
  intro p e s m args below meth c A ls X I hl hin
  exact b_L_isBound_0 X  I hl rfl
