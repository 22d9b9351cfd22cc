/-! the law's loops -/
def fb_CX (p : Program) (s : State) (m : MethodId) (args : Array Value) (meth : Method) (c : Code) (D : va_G) (cI cJ : ClassId) (A : Nat → Prop) (b L : Nat) (xs : Nat → Int32) : Prop := fb_Bx p s m args meth c cL_law RL 18 (some .boolean) D (fb_ty cI cJ) A ∧ (∀ w ∈ lw_tbl, w.before args s = true) ∧ va_X b L xs s s.heap ∧ b < s.heap.size ∧ ¬ A b ∧ L < 2 ^ 31
theorem lw_noP {j : Nat} (h : j < 1792) : f_X11_isPort (nI j) = 0 := by
  unfold f_X11_isPort
  rw [if_pos (show nI j < (1792 : Int32) from nI_lt (b := 1792) h (by decide))]
theorem lw_noB {v : Int32} (h : fb_rg v 256) : f_X11_isNoByte v = 0 := by
  obtain ⟨j, hj, rfl⟩ := h
  unfold f_X11_isNoByte
  rw [if_neg (nI_pos (by omega)), if_pos (show nI j ≤ (255 : Int32) from nI_le (a := j) (b := 255) (by omega) (by decide))]
theorem lw_brg (v : Int32) {d : Int32} (n : Nat) (h0 : 0 < n) (hn : n < 2 ^ 31) (hd : d = nI n) : fb_rg (f_L_below v d) n := lw_belE v n h0 hn hd
theorem li_w {K K' : Nat} {s t : fb_MS} {h : fb_HS} {e7 : fb_AR} (L : fb_LI K s h e7 t) (hk : K ≤ K') : fb_LI K' s h e7 t := by
  obtain ⟨a, b, ⟨T, d, hd, h1, h2⟩, h3⟩ := L
  exact ⟨ok_w a hk, b, ⟨T, d, by omega, h1, h2⟩, h3⟩
def fb_rN (k : Nat) : Nat := if k = 4 then 4096 else if k = 3 then 32 else 256
theorem rN_bd {k : Nat} {v : Int32} (hk : k < 5) (h : fb_rg v (fb_rN k)) : fb_bd (5 + k) v := by
  match k, hk with
  | 0, _ => exact h
  | 1, _ => exact h
  | 2, _ => exact h
  | 3, _ => exact h
  | 4, _ => exact h
  | k + 5, hk => omega
theorem rN_lt (k : Nat) : fb_rN k ≤ 4096 := by
  unfold fb_rN
  split
  · omega
  · split <;> omega
theorem rN_v0 {k : Nat} {v : Int32} (h : fb_rg v (fb_rN k)) : ¬ v < 0 := bd_lo h (Nat.le_trans (rN_lt k) (by decide))
theorem rN_le {N : Nat} {v M : Int32} (h : fb_rg v N) (M' : Nat) (hM : M = nI M') (h1 : N ≤ M' + 1) (h2 : M' < 2 ^ 31) : v ≤ M := by
  obtain ⟨j, hj, rfl⟩ := h
  rw [hM]
  exact nI_le (by omega) h2
theorem rN_v4 {k : Nat} {v : Int32} (h : fb_rg v (fb_rN k)) : nI k = 4 → v ≤ 4095 := fun _ => rN_le h 4095 rfl (rN_lt k) (by decide)
theorem rN_v3 {k : Nat} {v : Int32} (hk : k < 5) (h : fb_rg v (fb_rN k)) : nI k = 3 → v ≤ 31 := fun e => by
  have : k = 3 := (nI_eq (b := 3) (by omega) (by decide)).mp e
  subst this
  exact rN_le (show fb_rg v 32 from h) 31 rfl (by decide) (by decide)
theorem rN_v2 {k : Nat} {v : Int32} (hk : k < 5) (h : fb_rg v (fb_rN k)) : ¬ nI k = 4 → ¬ nI k = 3 → v ≤ 255 := fun e4 e3 => by
  have h4 : ¬ k = 4 := fun q => e4 (by rw [q]; rfl)
  have h3 : ¬ k = 3 := fun q => e3 (by rw [q]; rfl)
  unfold fb_rN at h
  rw [if_neg h4, if_neg h3] at h
  exact rN_le h 255 rfl (by decide) (by decide)
section LLP
variable {p : Program} {l : Launch} {e : Env} {s : State} {m : MethodId} {args : Array Value} {below : List Frame} {meth : Method} {c : Code} {Q : State → Prop} {D : va_G} {cI cJ : ClassId} {A : Nat → Prop} {zm zo : Nat} {tm to : Nat → Nat} {b L : Nat} {xs : Nat → Int32}

set_option maxHeartbeats 4000000 in
set_option maxRecDepth 100000 in
theorem lw_A (C : fb_CX p s m args meth c D cI cJ A b L xs) {B : Nat} (hB : B < 900) (kB : ∀ (s1 : fb_MS) (h : fb_HS) (e7 : fb_AR) (t : fb_MS) (H : Heap) (locs : List Loc) (ls : Array Slot), fb_LI 0 s1 h e7 t → fb_LW D A s.heap cI zm tm zo to s1 h e7 t H locs → lv_has ls 18 [(3, .int (nI (512 + B))), (2, .ref zo), (1, .ref zm), (0, .ref b)] → W p l e room_1 s m args below meth c H locs 366 235966 Q (F0 m 165 ls [])) :
    ∀ (n k : Nat), k + n = 90 → ∀ (s1 : fb_MS) (h : fb_HS) (e7 : fb_AR) (t : fb_MS) (H : Heap) (locs : List Loc) (ls : Array Slot), fb_LI 0 s1 h e7 t → fb_LW D A s.heap cI zm tm zo to s1 h e7 t H locs → lv_has ls 18 [(4, .int (nI k)), (3, .int (nI (512 + B))), (2, .ref zo), (1, .ref zm), (0, .ref b)] → W p l e room_1 s m args below meth c H locs 366 235966 Q (F0 m 35 ls []) := by
  obtain ⟨X, htb, hX, hbl, hbA, hL⟩ := id C
  obtain ⟨hx, hb, hr, hml, hown, hts, hlk, hA, hK, hF⟩ := id X
  have hcl : 366 ≤ room_1.cells ∧ 235966 ≤ room_1.slots := ⟨Nat.le_of_ble_eq_true rfl, Nat.le_of_ble_eq_true rfl⟩
  intro n
  induction n with
  | zero =>
    intro k hk s1 h e7 t H locs ls L I hl
    obtain rfl : k = 90 := by omega

    refine lv_iload hx hb dL_law_35 (lv_at hl 0 rfl) ?_
    refine lv_bipush (v := (90 : Int32)) hx hb dL_law_37 (by decide) ?_
    refine lv_icmp_ge (tgt := 165) hx hb dL_law_39 (by decide) (fun _ => ?_) (fun cF => absurd (show (90 : Int32) ≤ nI 90 from nI_le (a := 90) (b := 90) (Nat.le_refl _) (by decide)) cF)
    exact kB s1 h e7 t H locs ls L I (lv_sub hl [1, 2, 3, 4] rfl)
  | succ n ih =>
    intro k hk s1 h e7 t H locs ls L I hl
    have hk90 : k < 90 := by omega
    obtain ⟨_, _, _, _, I0⟩ := id I
    have hi : ¬ ((1 : Int32) + (nI k - nI k / (13 : Int32) * (13 : Int32))) < 0 := by
      rw [show nI k - nI k / (13 : Int32) * (13 : Int32) = nI (k % 13) from pk_rem (d := 13) (by omega) (by decide) (by decide), show (1 : Int32) = nI 1 from rfl, nI_add]
      exact nI_pos (by omega)
    refine lv_iload hx hb dL_law_35 (lv_at hl 0 rfl) ?_
    refine lv_bipush (v := (90 : Int32)) hx hb dL_law_37 (by decide) ?_
    refine lv_icmp_ge (tgt := 165) hx hb dL_law_39 (by decide) (fun cT => absurd cT (nI_ge (a := k) (b := 90) hk90 (by decide))) (fun _ => ?_)
    refine lv_aload_n hx hb dL_law_42 rfl (lv_at hl 4 rfl) ?_
    refine lv_iconst (v := (1 : Int32)) hx hb dL_law_43 (by decide) ?_
    refine lv_iload hx hb dL_law_44 (lv_at hl 0 rfl) ?_
    refine lv_bipush (v := (13 : Int32)) hx hb dL_law_46 (by decide) ?_
    refine lv_irem hx hb dL_law_48 (by decide) ?_
    refine lv_iadd hx hb dL_law_49 ?_
    refine lr_cell X I0 hX hbl hbA hL hl (Nat.le_of_ble_eq_true rfl) hcl hi dL_law_50 (fun r50 => ?_)
    refine lv_iload hx hb dL_law_53 (lv_at hl 0 rfl) ?_
    refine lv_bipush (v := (13 : Int32)) hx hb dL_law_55 (by decide) ?_
    refine lv_idiv hx hb dL_law_57 (by decide) ?_
    refine lv_iconst (v := (4 : Int32)) hx hb dL_law_58 (by decide) ?_
    refine lv_imul hx hb dL_law_59 ?_
    refine lv_ishr hx hb dL_law_60 ?_
    refine lv_istore (lv' := [(5, .int (r50 >>> ((((nI k) / (13 : Int32)) * (4 : Int32)) &&& 31))), (4, .int (nI k)), (3, .int (nI (512 + B))), (2, .ref zo), (1, .ref zm), (0, .ref b)]) hx hb dL_law_61 hl (by decide) rfl (fun ls hl => ?_)
    generalize (r50 >>> ((((nI k) / (13 : Int32)) * (4 : Int32)) &&& 31)) = vv at hl ⊢
    have gA : f_X11_isNoAddress ((nI (512 + B)) + (nI k)) = 0 := by rw [nI_add]; exact lw_noA (by omega)
    have gP : f_X11_isPort ((nI (512 + B)) + (nI k)) = 0 := by rw [nI_add]; exact lw_noP (by omega)
    have J : ∀ (bb : Int32) (ls : Array Slot), fb_rg bb 256 → lv_has ls 18 [(5, .int vv), (4, .int (nI k)), (3, .int (nI (512 + B))), (2, .ref zo), (1, .ref zm), (0, .ref b)] → W p l e room_1 s m args below meth c H locs 366 235966 Q (F0 m 135 ls [.int bb]) := by
      intro bb ls hbb hl
      have gB := lw_noB hbb
      refine lv_istore (lv' := [(6, .int bb), (5, .int vv), (4, .int (nI k)), (3, .int (nI (512 + B))), (2, .ref zo), (1, .ref zm), (0, .ref b)]) hx hb dL_law_135 hl (by decide) rfl (fun ls hl => ?_)
      refine lv_aload_n hx hb dL_law_137 rfl (lv_at hl 5 rfl) ?_
      refine lv_iload_n hx hb dL_law_138 rfl (lv_at hl 3 rfl) ?_
      refine lv_iload hx hb dL_law_139 (lv_at hl 2 rfl) ?_
      refine lv_iadd hx hb dL_law_141 ?_
      refine lv_iload hx hb dL_law_142 (lv_at hl 0 rfl) ?_
      refine lr_poke_m (x1 := ((nI (512 + B)) + (nI k))) (x2 := bb) X I hl (Nat.le_of_ble_eq_true rfl) hcl gA gP gB dL_law_144 (fun H locs I => ?_)
      obtain ⟨_, _, _, _, I0⟩ := id I
      refine lv_pop hx hb dL_law_147 rfl ?_
      refine lv_aload_n hx hb dL_law_148 rfl (lv_at hl 4 rfl) ?_
      refine lv_iload_n hx hb dL_law_149 rfl (lv_at hl 3 rfl) ?_
      refine lv_iload hx hb dL_law_150 (lv_at hl 2 rfl) ?_
      refine lv_iadd hx hb dL_law_152 ?_
      refine lv_iload hx hb dL_law_153 (lv_at hl 0 rfl) ?_
      refine lr_poke_o (x1 := ((nI (512 + B)) + (nI k))) (x2 := bb) X I hl (Nat.le_of_ble_eq_true rfl) hcl gA gP gB dL_law_155 (fun H locs I => ?_)
      obtain ⟨_, _, _, _, I0⟩ := id I
      refine lv_pop hx hb dL_law_158 rfl ?_
      refine lv_iinc (v := (nI (k + 1))) (lv' := [(4, .int (nI (k + 1))), (6, .int bb), (5, .int vv), (3, .int (nI (512 + B))), (2, .ref zo), (1, .ref zm), (0, .ref b)]) hx hb dL_law_159 hl (k := 2) rfl (nI_succ k).symm (by decide) rfl (fun ls hl => ?_)
      refine lv_goto (tgt := 35) hx hb dL_law_162 (by decide) ?_
      exact ih (k + 1) (by omega) _ _ _ _ _ _ _ (li_poke L ((nI (512 + B)) + (nI k)) hbb) I (lv_sub hl [0, 3, 4, 5, 6] rfl)
    refine lv_iload hx hb dL_law_63 (lv_at hl 0 rfl) ?_
    refine lv_iconst (v := (3 : Int32)) hx hb dL_law_65 (by decide) ?_
    refine lr_below X I0 hl (Nat.le_of_ble_eq_true rfl) hcl (by decide) dL_law_66 ?_
    refine lv_if_ne (tgt := 84) hx hb dL_law_69 (by decide) (fun cT => ?_) (fun cF => ?_)
    · skip
      refine lv_iload hx hb dL_law_84 (lv_at hl 0 rfl) ?_
      refine lv_iconst (v := (2 : Int32)) hx hb dL_law_86 (by decide) ?_
      refine lv_ishr hx hb dL_law_87 ?_
      refine lv_iconst (v := (5 : Int32)) hx hb dL_law_88 (by decide) ?_
      refine lr_below X I0 hl (Nat.le_of_ble_eq_true rfl) hcl (by decide) dL_law_89 ?_
      refine lv_if_ne (tgt := 108) hx hb dL_law_92 (by decide) (fun cT => ?_) (fun cF => ?_)
      · skip
        refine lv_bipush (v := (8 : Int32)) hx hb dL_law_108 (by decide) ?_
        refine lv_iconst (v := (4 : Int32)) hx hb dL_law_110 (by decide) ?_
        refine lv_iload hx hb dL_law_111 (lv_at hl 0 rfl) ?_
        refine lv_iconst (v := (5 : Int32)) hx hb dL_law_113 (by decide) ?_
        refine lv_ishr hx hb dL_law_114 ?_
        refine lv_bipush (v := (22 : Int32)) hx hb dL_law_115 (by decide) ?_
        refine lr_below X I0 hl (Nat.le_of_ble_eq_true rfl) hcl (by decide) dL_law_117 ?_
        refine lv_iadd hx hb dL_law_120 ?_
        refine lv_imul hx hb dL_law_121 ?_
        refine lv_iconst (v := (1 : Int32)) hx hb dL_law_122 (by decide) ?_
        refine lv_iadd hx hb dL_law_123 ?_
        refine lv_iload hx hb dL_law_124 (lv_at hl 0 rfl) ?_
        refine lv_bipush (v := (9 : Int32)) hx hb dL_law_126 (by decide) ?_
        refine lv_ishr hx hb dL_law_128 ?_
        refine lv_bipush (v := (6 : Int32)) hx hb dL_law_129 (by decide) ?_
        refine lr_below X I0 hl (Nat.le_of_ble_eq_true rfl) hcl (by decide) dL_law_131 ?_
        refine lv_iadd hx hb dL_law_134 ?_
        refine J _ _ ?_ hl
        obtain ⟨x, hx1, ex⟩ := lw_belE (vv >>> ((5 : Int32) &&& 31)) (d := 22) 22 (by decide) (by decide) rfl
        obtain ⟨y, hy1, ey⟩ := lw_belE (vv >>> ((9 : Int32) &&& 31)) (d := 6) 6 (by decide) (by decide) rfl
        refine ⟨8 * (4 + x) + 1 + y, by omega, ?_⟩
        rw [ex, ey, show (4 : Int32) = nI 4 from rfl, nI_add, show (8 : Int32) = nI 8 from rfl, pk_mul, show (1 : Int32) = nI 1 from rfl, nI_add, nI_add]
      · skip
        refine lv_iload hx hb dL_law_95 (lv_at hl 0 rfl) ?_
        refine lv_iconst (v := (4 : Int32)) hx hb dL_law_97 (by decide) ?_
        refine lv_ishr hx hb dL_law_98 ?_
        refine lv_sipush (v := (256 : Int32)) hx hb dL_law_99 (by decide) ?_
        refine lr_below X I0 hl (Nat.le_of_ble_eq_true rfl) hcl (by decide) dL_law_102 ?_
        refine lv_goto (tgt := 135) hx hb dL_law_105 (by decide) ?_
        exact J _ _ (lw_brg _ 256 (by decide) (by decide) rfl) hl
    · skip
      refine lv_iload hx hb dL_law_72 (lv_at hl 0 rfl) ?_
      refine lv_iconst (v := (2 : Int32)) hx hb dL_law_74 (by decide) ?_
      refine lv_ishr hx hb dL_law_75 ?_
      refine lv_bipush (v := (32 : Int32)) hx hb dL_law_76 (by decide) ?_
      refine lr_below X I0 hl (Nat.le_of_ble_eq_true rfl) hcl (by decide) dL_law_78 ?_
      refine lv_goto (tgt := 135) hx hb dL_law_81 (by decide) ?_
      exact J _ _ (fr_mono (lw_brg _ 32 (by decide) (by decide) rfl) (by decide)) hl
set_option maxHeartbeats 4000000 in
set_option maxRecDepth 100000 in
theorem lw_B (C : fb_CX p s m args meth c D cI cJ A b L xs) {B : Nat} (hB : B < 900) (kB : ∀ (s1 : fb_MS) (h : fb_HS) (e7 : fb_AR) (t : fb_MS) (H : Heap) (locs : List Loc) (ls : Array Slot), fb_LI 0 s1 h e7 t → fb_LW D A s.heap cI zm tm zo to s1 h e7 t H locs → lv_has ls 18 [(2, .ref zo), (1, .ref zm), (0, .ref b)] → W p l e room_1 s m args below meth c H locs 366 235966 Q (F0 m 250 ls [])) :
    ∀ (n k : Nat), k + n = 5 → ∀ (s1 : fb_MS) (h : fb_HS) (e7 : fb_AR) (t : fb_MS) (H : Heap) (locs : List Loc) (ls : Array Slot), fb_LI 0 s1 h e7 t → fb_LW D A s.heap cI zm tm zo to s1 h e7 t H locs → lv_has ls 18 [(4, .int (nI k)), (3, .int (nI (512 + B))), (2, .ref zo), (1, .ref zm), (0, .ref b)] → W p l e room_1 s m args below meth c H locs 366 235966 Q (F0 m 168 ls []) := by
  obtain ⟨X, htb, hX, hbl, hbA, hL⟩ := id C
  obtain ⟨hx, hb, hr, hml, hown, hts, hlk, hA, hK, hF⟩ := id X
  have hcl : 366 ≤ room_1.cells ∧ 235966 ≤ room_1.slots := ⟨Nat.le_of_ble_eq_true rfl, Nat.le_of_ble_eq_true rfl⟩
  intro n
  induction n with
  | zero =>
    intro k hk s1 h e7 t H locs ls L I hl
    obtain rfl : k = 5 := by omega

    refine lv_iload hx hb dL_law_168 (lv_at hl 0 rfl) ?_
    refine lv_iconst (v := (5 : Int32)) hx hb dL_law_170 (by decide) ?_
    refine lv_icmp_ge (tgt := 250) hx hb dL_law_171 (by decide) (fun _ => ?_) (fun cF => absurd (show (5 : Int32) ≤ nI 5 from nI_le (a := 5) (b := 5) (Nat.le_refl _) (by decide)) cF)
    exact kB s1 h e7 t H locs ls L I (lv_sub hl [2, 3, 4] rfl)
  | succ n ih =>
    intro k hk s1 h e7 t H locs ls L I hl
    have hk5 : k < 5 := by omega
    obtain ⟨_, _, _, _, I0⟩ := id I
    refine lv_iload hx hb dL_law_168 (lv_at hl 0 rfl) ?_
    refine lv_iconst (v := (5 : Int32)) hx hb dL_law_170 (by decide) ?_
    refine lv_icmp_ge (tgt := 250) hx hb dL_law_171 (by decide) (fun cT => absurd cT (nI_ge (a := k) (b := 5) hk5 (by decide))) (fun _ => ?_)
    have J : ∀ (bb : Int32) (ls : Array Slot), fb_rg bb (fb_rN k) → lv_has ls 18 [(4, .int (nI k)), (3, .int (nI (512 + B))), (2, .ref zo), (1, .ref zm), (0, .ref b)] → W p l e room_1 s m args below meth c H locs 366 235966 Q (F0 m 224 ls [.int bb]) := by
      intro bb ls hbb hl
      refine lv_istore (lv' := [(5, .int bb), (4, .int (nI k)), (3, .int (nI (512 + B))), (2, .ref zo), (1, .ref zm), (0, .ref b)]) hx hb dL_law_224 hl (by decide) rfl (fun ls hl => ?_)
      refine lv_aload_n hx hb dL_law_226 rfl (lv_at hl 4 rfl) ?_
      refine lv_iload hx hb dL_law_227 (lv_at hl 1 rfl) ?_
      refine lv_iload hx hb dL_law_229 (lv_at hl 0 rfl) ?_
      refine lr_reg_m (j := k) (x2 := bb) X I hl (Nat.le_of_ble_eq_true rfl) hcl hk5 (rN_v0 hbb) (rN_v4 hbb) (rN_v3 hk5 hbb) (rN_v2 hk5 hbb) dL_law_231 (fun q1 H locs I => ?_)
      obtain ⟨_, _, _, _, I0⟩ := id I
      refine lv_pop hx hb dL_law_234 rfl ?_
      refine lv_aload_n hx hb dL_law_235 rfl (lv_at hl 3 rfl) ?_
      refine lv_iload hx hb dL_law_236 (lv_at hl 1 rfl) ?_
      refine lv_iload hx hb dL_law_238 (lv_at hl 0 rfl) ?_
      refine lr_reg_o (j := k) (x2 := bb) X I hl (Nat.le_of_ble_eq_true rfl) hcl hk5 (rN_v0 hbb) (rN_v4 hbb) (rN_v3 hk5 hbb) (rN_v2 hk5 hbb) dL_law_240 (fun q2 H locs I => ?_)
      obtain ⟨_, _, _, _, I0⟩ := id I
      refine lv_pop hx hb dL_law_243 rfl ?_
      refine lv_iinc (v := (nI (k + 1))) (lv' := [(4, .int (nI (k + 1))), (5, .int bb), (3, .int (nI (512 + B))), (2, .ref zo), (1, .ref zm), (0, .ref b)]) hx hb dL_law_244 hl (k := 1) rfl (nI_succ k).symm (by decide) rfl (fun ls hl => ?_)
      refine lv_goto (tgt := 168) hx hb dL_law_247 (by decide) ?_
      exact ih (k + 1) (by omega) _ _ _ _ _ _ _ (li_reg L (5 + k) (by omega) (rN_bd hk5 hbb)) I (lv_sub hl [0, 2, 3, 4, 5] rfl)
    refine lv_iload hx hb dL_law_174 (lv_at hl 0 rfl) ?_
    refine lv_iconst (v := (4 : Int32)) hx hb dL_law_176 (by decide) ?_
    refine lv_icmp_ne (tgt := 196) hx hb dL_law_177 (by decide) (fun cT => ?_) (fun cF => ?_)
    · have h4 : ¬ k = 4 := fun q => cT (by rw [q]; rfl)
      refine lv_aload_n hx hb dL_law_196 rfl (lv_at hl 4 rfl) ?_
      refine lv_bipush (v := (14 : Int32)) hx hb dL_law_197 (by decide) ?_
      refine lr_cell X I0 hX hbl hbA hL hl (Nat.le_of_ble_eq_true rfl) hcl (by decide) dL_law_199 (fun r199 => ?_)
      refine lv_iconst (v := (5 : Int32)) hx hb dL_law_202 (by decide) ?_
      refine lv_iload hx hb dL_law_203 (lv_at hl 0 rfl) ?_
      refine lv_imul hx hb dL_law_205 ?_
      refine lv_ishr hx hb dL_law_206 ?_
      refine lv_iload hx hb dL_law_207 (lv_at hl 0 rfl) ?_
      refine lv_iconst (v := (3 : Int32)) hx hb dL_law_209 (by decide) ?_
      refine lv_icmp_ne (tgt := 218) hx hb dL_law_210 (by decide) (fun cT => ?_) (fun cF => ?_)
      · have h3 : ¬ k = 3 := fun q => cT (by rw [q]; rfl)
        refine lv_sipush (v := (256 : Int32)) hx hb dL_law_218 (by decide) ?_
        refine lr_below X I0 hl (Nat.le_of_ble_eq_true rfl) hcl (by decide) dL_law_221 ?_
        refine J _ _ ?_ hl
        unfold fb_rN
        rw [if_neg h4, if_neg h3]
        exact lw_brg _ 256 (by decide) (by decide) rfl
      · have h3 : k = 3 := (nI_eq (b := 3) (by omega) (by decide)).mp cF
        refine lv_bipush (v := (32 : Int32)) hx hb dL_law_213 (by decide) ?_
        refine lv_goto (tgt := 221) hx hb dL_law_215 (by decide) ?_
        refine lr_below X I0 hl (Nat.le_of_ble_eq_true rfl) hcl (by decide) dL_law_221 ?_
        refine J _ _ ?_ hl
        unfold fb_rN
        rw [if_neg h4, if_pos h3]
        exact lw_brg _ 32 (by decide) (by decide) rfl
    · have h4 : k = 4 := (nI_eq (b := 4) (by omega) (by decide)).mp cF
      refine lv_iload_n hx hb dL_law_180 rfl (lv_at hl 1 rfl) ?_
      refine lv_aload_n hx hb dL_law_181 rfl (lv_at hl 4 rfl) ?_
      refine lv_bipush (v := (14 : Int32)) hx hb dL_law_182 (by decide) ?_
      refine lr_cell X I0 hX hbl hbA hL hl (Nat.le_of_ble_eq_true rfl) hcl (by decide) dL_law_184 (fun r184 => ?_)
      refine lv_bipush (v := (20 : Int32)) hx hb dL_law_187 (by decide) ?_
      refine lr_below X I0 hl (Nat.le_of_ble_eq_true rfl) hcl (by decide) dL_law_189 ?_
      refine lv_iadd hx hb dL_law_192 ?_
      refine lv_goto (tgt := 224) hx hb dL_law_193 (by decide) ?_
      refine J _ _ ?_ hl
      unfold fb_rN
      rw [if_pos h4]
      obtain ⟨x, hx1, ex⟩ := lw_belE r184 (d := 20) 20 (by decide) (by decide) rfl
      exact ⟨512 + B + x, by omega, by rw [ex, nI_add]⟩
end LLP
