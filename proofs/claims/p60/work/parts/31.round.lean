/-! a round of the law, as far as it is arithmetic -/
section RD
variable {K : Nat} {s t : fb_MS}
theorem same_shown (h : fb_eq s t) (a : Int32) : f_X2_shown s a = f_X2_shown t a := by
  unfold f_X2_shown
  rw [eq_m h, eq_p h 2 (by decide)]
theorem same_2 (h : fb_eq s t) (v : Int32) : ∀ (n : Nat) (i : Int32), fb_mu i (40 : Int32) < n → f_L_isSame_2 n s t v i = 1 := by
  intro n
  induction n with
  | zero => intro i hi; omega
  | succ n ih =>
    intro i hi
    unfold f_L_isSame_2
    by_cases q : (40 : Int32) ≤ i
    · rw [if_pos q]
      rw [if_pos (show f_X11_a s = f_X11_a t from eq_g h 5 (by decide) (by decide))]
      rw [if_pos (show f_X11_x s = f_X11_x t from eq_g h 6 (by decide) (by decide))]
      rw [if_pos (show f_X11_s s = f_X11_s t from eq_g h 7 (by decide) (by decide))]
      rw [if_pos (show f_X11_flags s = f_X11_flags t from eq_g h 8 (by decide) (by decide))]
      rw [if_pos (show f_X11_pc s = f_X11_pc t from eq_g h 9 (by decide) (by decide))]
      rw [if_pos (show f_X11_state s = f_X11_state t from eq_g h 10 (by decide) (by decide))]
      rw [if_pos (show f_X11_cycles s = f_X11_cycles t from eq_g h 11 (by decide) (by decide))]
      rw [if_pos (show f_X11_instructions s = f_X11_instructions t from eq_g h 12 (by decide) (by decide))]
      rw [if_pos (show f_X11_calls s = f_X11_calls t from eq_g h 13 (by decide) (by decide))]
      rw [if_pos (show f_X11_count s = f_X11_count t from eq_p h 8 (by decide))]
      rw [if_pos (show f_X11_pending s = f_X11_pending t from eq_p h 4 (by decide))]
      rw [if_pos (show f_X11_inputs s = f_X11_inputs t from eq_p h 5 (by decide))]
      rw [if_pos (show f_X11_outputs s = f_X11_outputs t from eq_p h 6 (by decide))]
      rw [if_pos (show f_X11_bank s = f_X11_bank t from eq_p h 2 (by decide))]
      rw [if_pos (show f_X11_mask s = f_X11_mask t from eq_p h 3 (by decide))]
    · rw [if_neg q, if_pos (show f_X11_byteAt s _ = f_X11_byteAt t _ from same_shown h _), if_pos (show f_X11_timesAt s (f_L_below (v + ((103 : Int32) * i)) (4096 : Int32)) = f_X11_timesAt t (f_L_below (v + ((103 : Int32) * i)) (4096 : Int32)) from by unfold f_X11_timesAt; rw [eq_t h])]
      exact ih _ (fb_mu_ge q hi)
theorem same_1 (h : fb_eq s t) (v : Int32) : f_L_isSame s t v = 1 := same_2 h v _ _ (Nat.lt_succ_self _)
theorem bd_lo {x : Int32} {N : Nat} (h : fb_rg x N) (hN : N ≤ 2147483648) : ¬ x < 0 := by
  obtain ⟨j, hj, rfl⟩ := h
  exact nI_pos (by omega)
theorem bd_hi {x : Int32} {N : Nat} (h : fb_rg x N) (hN : N < 2147483648) : ¬ nI N ≤ x := by
  obtain ⟨j, hj, rfl⟩ := h
  exact nI_ge hj hN
theorem bound_1 {ze0 : fb_AR} {z : Nat} (h : fb_ok K s) (hK : K ≤ 1000000) (hz : ze0 5 = nI z) (hz2 : z ≤ 200) : f_L_isBound s ze0 = 1 := by
  obtain ⟨b, cc, ii, h1, h2, h3, h4⟩ := h
  have r5 : fb_rg (s.1 5) 256 := by have := h4.1 5; rw [nm_g s (by decide) (by decide)] at this; exact this
  have r6 : fb_rg (s.1 6) 256 := by have := h4.1 6; rw [nm_g s (by decide) (by decide)] at this; exact this
  have r7 : fb_rg (s.1 7) 256 := by have := h4.1 7; rw [nm_g s (by decide) (by decide)] at this; exact this
  have r8 : fb_rg (s.1 8) 32 := by have := h4.1 8; rw [nm_g s (by decide) (by decide)] at this; exact this
  have r9 : fb_rg (s.1 9) 4096 := by have := h4.1 9; rw [nm_g s (by decide) (by decide)] at this; exact this
  have r13 : fb_rg (s.1 13) 41 := by have := h4.1 13; rw [nm_g s (by decide) (by decide)] at this; exact this
  have g : ∀ k, ¬ k = 13 → (fb_nm s).2.2.2.2.2.1 k = s.2.2.2.2.2.1 k := fun k hk => pk_un hk
  have p2 : fb_rg (s.2.2.2.2.2.1 2) 8 := by have := h4.2.2.1.1.1 2; rw [g 2 (by decide)] at this; exact this
  have p4 : fb_rg (s.2.2.2.2.2.1 4) 16 := by have := h4.2.2.1.1.1 4; rw [g 4 (by decide)] at this; exact this
  have p5 : fb_rg (s.2.2.2.2.2.1 5) 17 := by have := h4.2.2.1.1.1 5; rw [g 5 (by decide)] at this; exact this
  have c11 : s.1 11 = nI cc := by have := h4.2.2.2.2.2.1; rw [nm_g s (by decide) (by decide)] at this; exact this
  have c12 : s.1 12 = nI ii := by have := h4.2.2.2.2.2.2; rw [nm_g s (by decide) (by decide)] at this; exact this
  unfold f_L_isBound
  rw [if_neg (show ¬ f_X11_a s < 0 from bd_lo r5 (by decide)), if_neg (show ¬ (256 : Int32) ≤ f_X11_a s from bd_hi r5 (by decide))]
  rw [if_neg (show ¬ f_X11_x s < 0 from bd_lo r6 (by decide)), if_neg (show ¬ (256 : Int32) ≤ f_X11_x s from bd_hi r6 (by decide))]
  rw [if_neg (show ¬ f_X11_s s < 0 from bd_lo r7 (by decide)), if_neg (show ¬ (256 : Int32) ≤ f_X11_s s from bd_hi r7 (by decide))]
  rw [if_pos (show f_X11_flags s &&& (-32 : Int32) = 0 from by
    show s.1 8 &&& (-32 : Int32) = 0
    obtain ⟨j, hj, e⟩ := r8
    rw [e]
    have : ∀ j, j < 32 → nI j &&& (-32 : Int32) = 0 := by decide
    exact this j hj)]
  rw [if_neg (show ¬ f_X11_pc s < 0 from bd_lo r9 (by decide)), if_neg (show ¬ (4096 : Int32) ≤ f_X11_pc s from bd_hi r9 (by decide))]
  rw [if_neg (show ¬ f_X11_bank s < 0 from bd_lo p2 (by decide)), if_neg (show ¬ (8 : Int32) ≤ f_X11_bank s from bd_hi p2 (by decide))]
  rw [if_neg (show ¬ (40 : Int32) < f_X11_calls s from by
    show ¬ nI 40 < s.1 13
    obtain ⟨j, hj, e⟩ := r13
    rw [e]; exact nI_nlt (by omega) (by decide))]
  rw [if_neg (show ¬ (200 : Int32) < f_X11_history ze0 from by
    show ¬ nI 200 < ze0 5
    rw [hz]; exact nI_nlt hz2 (by decide))]
  rw [if_neg (show ¬ (16 : Int32) < f_X11_inputs s from by
    show ¬ nI 16 < s.2.2.2.2.2.1 5
    obtain ⟨j, hj, e⟩ := p5
    rw [e]; exact nI_nlt (by omega) (by decide))]
  rw [if_neg (show ¬ (16 : Int32) ≤ f_X11_pending s from bd_hi p4 (by decide))]
  rw [if_neg (show ¬ f_X11_cycles s < f_X11_instructions s from by
    show ¬ s.1 11 < s.1 12
    rw [c11, c12]; exact nI_nlt h2 (by omega))]
/-- what is so between two rounds: the two machines are the same, the one keeps its bounds, its HISTORY goes back, no break and no watch is set -/
def fb_LI (K : Nat) (s : fb_MS) (h : fb_HS) (e7 : fb_AR) (t : fb_MS) : Prop := fb_ok K s ∧ fb_eq s t ∧ (∃ (T : Nat → fb_MS) (d : Nat), d ≤ K ∧ fb_hi T d h ∧ fb_eq s (T d)) ∧ e7 6 = 0 ∧ e7 2 = 0
/-- what comes from outside -/
theorem li_out {h : fb_HS} {e7 : fb_AR} (L : fb_LI K s h e7 t) (g : fb_MS → fb_MS) (hg : ∀ z, fb_nm (g z) = g (fb_nm z)) (hi : ∀ (b : Nat) (c ic : Int32) (z : fb_MS), fb_inv b 0 0 0 0 c ic z → z.2.2.2.2.2.1 5 = s.2.2.2.2.2.1 5 → fb_inv b 0 0 0 0 c ic (g z)) : fb_LI K (g s) (f_X0_forget h.1, h.2) e7 (g t) := by
  obtain ⟨⟨b, cc, ii, h1, h2, h3, h4⟩, he, -, h6, h7⟩ := L
  refine ⟨⟨b, cc, ii, h1, h2, h3, ?_⟩, ?_, ⟨fun _ => g s, 0, Nat.zero_le _, Or.inl ⟨?_, ?_, ?_, ?_, rfl⟩, eq_rfl _⟩, h6, h7⟩
  · rw [hg]
    exact hi _ _ _ _ h4 (by show upd s.2.2.2.2.2.1 13 0 5 = s.2.2.2.2.2.1 5; exact pk_un (by decide))
  · show fb_nm (g s) = fb_nm (g t)
    rw [hg, hg, show fb_nm s = fb_nm t from he]
  · show upd (upd (upd (upd h.1 2 (-1)) 3 (-1)) 4 0) 5 0 2 = -1
    rw [pk_un (by decide), pk_un (by decide), pk_un (by decide), pk_us]
  · show upd (upd (upd (upd h.1 2 (-1)) 3 (-1)) 4 0) 5 0 3 = -1
    rw [pk_un (by decide), pk_un (by decide), pk_us]
  · show upd (upd (upd (upd h.1 2 (-1)) 3 (-1)) 4 0) 5 0 4 = 0
    rw [pk_un (by decide), pk_us]
  · show upd (upd (upd (upd h.1 2 (-1)) 3 (-1)) 4 0) 5 0 5 = 0
    rw [pk_us]
theorem nm_13 (π : fb_PS) (k : Nat) (hk : ¬ k = 13) (v : Int32) : fb_pR (fb_pR π k v) 13 0 = fb_pR (fb_pR π 13 0) k v := (pc_c k hk v).symm
theorem g_key (v : Int32) (z : fb_MS) : fb_nm (fb_sP z (f_X5_take z.2.2.2.2.2 v)) = fb_sP (fb_nm z) (f_X5_take (fb_nm z).2.2.2.2.2 v) := by
  unfold f_X5_take
  show fb_sR (fb_sR (fb_sP z (fb_pR (fb_pR (fb_pR (fb_pI z.2.2.2.2.2 (f_X11_put 16 z.2.2.2.2.2.2.1 (z.2.2.2.2.2.1 5) v)) 5 _) 4 _) 13 0)) 14 0) 15 0 = _
  rw [nm_13 _ 4 (by decide), nm_13 _ 5 (by decide)]
  rfl
theorem g_signal (z : fb_MS) : fb_nm (fb_sP z (fb_pR z.2.2.2.2.2 4 ((z.2.2.2.2.2.1 4) ||| (4 : Int32)))) = fb_sP (fb_nm z) (fb_pR (fb_nm z).2.2.2.2.2 4 (((fb_nm z).2.2.2.2.2.1 4) ||| (4 : Int32))) := by
  show fb_sR (fb_sR (fb_sP z (fb_pR (fb_pR z.2.2.2.2.2 4 _) 13 0)) 14 0) 15 0 = _
  rw [nm_13 _ 4 (by decide)]
  rfl
theorem li_key {h : fb_HS} {e7 : fb_AR} (L : fb_LI K s h e7 t) {v : Int32} (hv : fb_rg v 256) (h5 : s.2.2.2.2.2.1 5 < 16) : fb_LI K (fb_sP s (f_X5_take s.2.2.2.2.2 v)) (f_X0_forget h.1, h.2) e7 (fb_sP t (f_X5_take t.2.2.2.2.2 v)) :=
  li_out L (fun z => fb_sP z (f_X5_take z.2.2.2.2.2 v)) (g_key v) (fun b c ic z hz e => iv_P hz (pi_take hz.2.2.1 (by rw [e]; exact h5) hv))
theorem li_signal {h : fb_HS} {e7 : fb_AR} (L : fb_LI K s h e7 t) : fb_LI K (fb_sP s (fb_pR s.2.2.2.2.2 4 ((s.2.2.2.2.2.1 4) ||| (4 : Int32)))) (f_X0_forget h.1, h.2) e7 (fb_sP t (fb_pR t.2.2.2.2.2 4 ((t.2.2.2.2.2.1 4) ||| (4 : Int32)))) :=
  li_out L (fun z => fb_sP z (fb_pR z.2.2.2.2.2 4 ((z.2.2.2.2.2.1 4) ||| (4 : Int32)))) g_signal (fun b c ic z hz e => iv_P hz (pi_R 4 (by decide) hz.2.2.1 (fr_or16 (hz.2.2.1.1.1 4) (fr_lit 4 (by decide)))))
theorem li_nmi {h : fb_HS} {e7 : fb_AR} (L : fb_LI K s h e7 t) : fb_LI K (fb_sB s true) (f_X0_forget h.1, h.2) e7 (fb_sB t true) :=
  li_out L (fun z => fb_sB z true) (fun z => rfl) (fun b c ic z hz e => iv_B hz)
theorem li_poke {h : fb_HS} {e7 : fb_AR} (L : fb_LI K s h e7 t) (a : Int32) {v : Int32} (hv : fb_rg v 256) : fb_LI K (fb_sM s (f_X11_put 11008 s.2.1 (f_X11_placeOf a (s.2.2.2.2.2.1 2)) v)) (f_X0_forget h.1, h.2) e7 (fb_sM t (f_X11_put 11008 t.2.1 (f_X11_placeOf a (t.2.2.2.2.2.1 2)) v)) :=
  li_out L (fun z => fb_sM z (f_X11_put 11008 z.2.1 (f_X11_placeOf a (z.2.2.2.2.2.1 2)) v)) (fun z => rfl) (fun b c ic z hz e => iv_M hz (put_rg hz.2.1 _ _ hv))
theorem li_reg {h : fb_HS} {e7 : fb_AR} (L : fb_LI K s h e7 t) (k : Nat) (hk : ¬ k = 11 ∧ ¬ k = 12 ∧ ¬ k = 14 ∧ ¬ k = 15) {v : Int32} (hv : fb_bd k v) : fb_LI K (fb_sR s k v) (f_X0_forget h.1, h.2) e7 (fb_sR t k v) :=
  li_out L (fun z => fb_sR z k v) (fun z => by
    show fb_sR (fb_sR (fb_sR (fb_pc 0 z) k v) 14 0) 15 0 = fb_sR (fb_sR (fb_sR (fb_pc 0 z) 14 0) 15 0) k v
    unfold fb_sR
    simp only
    rw [fb_uc (upd (fb_pc 0 z).1 14 (0 : Int32)) (k := k) (q := 15) hk.2.2.2, fb_uc (fb_pc 0 z).1 (k := k) (q := 14) hk.2.2.1]) (fun b c ic z hz e => iv_R k hk hz hv)
theorem reg_eq (z : fb_MS) (e0 : fb_AR) (v : Int32) : ∀ j, j < 5 → (f_X11_setRegister z e0 (nI j) v).2.1 = fb_sR z (5 + j) v := by
  intro j hj
  match j, hj with
  | 0, _ => rfl
  | 1, _ => rfl
  | 2, _ => rfl
  | 3, _ => rfl
  | 4, _ => rfl
  | j + 5, hj => omega
theorem reg_eq2 (z : fb_MS) (e0 : fb_AR) (k v : Int32) : (f_X11_setRegister z e0 k v).2.2 = f_X0_forget e0 := by
  unfold f_X11_setRegister
  split
  · rfl
  · split <;> rfl
/-- a run -/
theorem rs_start {M : Nat} (hM : 1 ≤ M) (s : fb_MS) : f_X2_endReason s = fb_rs M 0 s := by
  unfold fb_rs
  by_cases q : f_X2_endReason s = 0
  · rw [if_pos q, if_neg (by omega)]; exact q
  · rw [if_neg q]
theorem run_eq {M : Nat} {h : fb_HS} {e7 : fb_AR} (hs : fb_ok K s) (hK : K ≤ 900000) (hM : 1 ≤ M) (hM2 : M ≤ 40) : f_X11_run h.1 h.2.1 h.2.2.1 h.2.2.2.1 h.2.2.2.2 s e7 (nI M) = (nI (fb_rn M M 0 s).2.1, (fb_hk (fb_rn M M 0 s).1 h s).1, (fb_hk (fb_rn M M 0 s).1 h s).2.1, (fb_hk (fb_rn M M 0 s).1 h s).2.2.1, (fb_hk (fb_rn M M 0 s).1 h s).2.2.2.1, (fb_hk (fb_rn M M 0 s).1 h s).2.2.2.2, (fb_rn M M 0 s).2.2, upd e7 7 (fb_rs M (fb_rn M M 0 s).2.1 (fb_rn M M 0 s).2.2)) := by
  have e := rn_goOn (M := M) (ze7 := e7) (by omega) M (1000000 + 1) 0 0 K h s hs (by omega) (by omega) (by omega) (by omega) (by omega)
  unfold f_X11_run f_X11_goOn
  rw [show fb_mu (0 : Int32) (1000000 : Int32) = 1000000 from fb_mu0 (a := 1000000) (by decide), rs_start hM s, show (0 : Int32) = nI 0 from rfl, e]
theorem cth_eq {M : Nat} {z : fb_MS} (hs : fb_ok K s) (hK : K ≤ 900000) (hM2 : M ≤ 40) : f_X11_cyclesToHalt s z (nI M) = if f_X2_endReason (fb_rn M M 0 s).2.2 = 0 then (-1 : Int32) else nI (fb_rn M M 0 s).2.1 := by
  have e := rn_cth (M := M) (zs := s) (by omega) M (1000000 + 1) 0 0 K (f_X2_copyFrom z s) (ok_eq hs (eq_copy z s).symm) (by omega) (by omega) (by omega) (by omega) (by omega)
  obtain ⟨e1, e2, e3⟩ := rn_eq (M := M) M 0 (eq_copy z s)
  unfold f_X11_cyclesToHalt
  rw [show fb_mu (0 : Int32) (1000000 : Int32) = 1000000 from fb_mu0 (a := 1000000) (by decide)]
  refine Eq.trans e ?_
  rw [eq_end e3, e2]
theorem out_eq {M : Nat} {z : fb_MS} (hs : fb_ok K s) (hK : K ≤ 900000) (hM2 : M ≤ 40) : f_X11_outputsIn s z (nI M) = (fb_rn M M 0 s).2.2.2.2.2.2.2.1 6 - s.2.2.2.2.2.1 6 := by
  have e := rn_out (M := M) (zs := s) (by omega) M (1000000 + 1) 0 0 K (f_X2_copyFrom z s) (ok_eq hs (eq_copy z s).symm) (by omega) (by omega) (by omega) (by omega) (by omega)
  obtain ⟨e1, e2, e3⟩ := rn_eq (M := M) M 0 (eq_copy z s)
  unfold f_X11_outputsIn
  rw [show fb_mu (0 : Int32) (1000000 : Int32) = 1000000 from fb_mu0 (a := 1000000) (by decide)]
  refine Eq.trans e ?_
  rw [eq_p e3 6 (by decide)]
theorem li_run {M : Nat} {h : fb_HS} {e7 : fb_AR} (L : fb_LI K s h e7 t) (hK : K ≤ 900000) (hM2 : M ≤ 40) : ∃ (T : Nat → fb_MS) (d z : Nat), d ≤ K ∧ z ≤ 200 ∧ h.1 5 = nI z ∧ fb_hi T (d + (fb_rn M M 0 s).1) (fb_hk (fb_rn M M 0 s).1 h s) ∧ fb_eq s (T d) ∧ fb_eq (fb_rn M M 0 s).2.2 (T (d + (fb_rn M M 0 s).1)) ∧ (fb_hk (fb_rn M M 0 s).1 h s).1 5 = nI (min 200 (z + (fb_rn M M 0 s).1)) ∧ fb_ok (K + M) (fb_rn M M 0 s).2.2 := by
  obtain ⟨hs, -, ⟨T, d, hd, hT, hsT⟩, -, -⟩ := L
  obtain ⟨k1, -, -⟩ := rn_ok (M := M) M 0 K s hs (by omega)
  have hst := rn_st (M := M) M 0 s
  have hit := rn_it (M := M) M 0 s
  obtain ⟨T', hT'⟩ : ∃ T' : Nat → fb_MS, ∀ i, T' i = if i ≤ d then T i else fb_it (i - d) s := ⟨_, fun _ => rfl⟩
  have e0 : ∀ i, i ≤ d → T' i = T i := fun i hi => by rw [hT', if_pos hi]
  have e1 : ∀ i, 1 ≤ i → T' (d + i) = fb_it i s := fun i hi => by rw [hT', if_neg (by omega), show d + i - d = i from by omega]
  have H := hi_mono hT e0
  have hsd : fb_eq s (T' d) := by rw [e0 d (Nat.le_refl d)]; exact hsT
  obtain ⟨H2, z, hz, hz5, hz6⟩ := hi_hk (fb_rn M M 0 s).1 d h s H hsd (by omega) (fun i hi => by
    rw [show d + i + 1 = d + (i + 1) from by omega, e1 (i + 1) (by omega)]
    by_cases q : i = 0
    · subst q
      rw [show d + 0 = d from by omega, e0 d (Nat.le_refl d)]
      exact (eq_adv hsT).2
    · rw [e1 i (by omega), it_s]
      exact eq_rfl _)
  refine ⟨T', d, z, hd, hz, hz5, H2, hsd, ?_, hz6, k1⟩
  by_cases q : (fb_rn M M 0 s).1 = 0
  · rw [hit, q]
    exact hsd
  · rw [e1 (fb_rn M M 0 s).1 (by omega), ← hit]
    exact eq_rfl _
theorem li_next {M : Nat} {h : fb_HS} {e7 : fb_AR} {t' : fb_MS} {r : Int32} (L : fb_LI K s h e7 t) (hK : K ≤ 900000) (hM2 : M ≤ 40) (ht : fb_eq (fb_rn M M 0 s).2.2 t') : fb_LI (K + M) (fb_rn M M 0 s).2.2 (fb_hk (fb_rn M M 0 s).1 h s) (upd e7 7 r) t' := by
  obtain ⟨T, d, z, hd, hz, hz5, H2, hsd, hse, hz6, k1⟩ := li_run (M := M) L hK hM2
  have hst := rn_st (M := M) M 0 s
  exact ⟨k1, ht, ⟨T, d + (fb_rn M M 0 s).1, by omega, H2, hse⟩, by rw [pk_un (by decide)]; exact L.2.2.2.1, by rw [pk_un (by decide)]; exact L.2.2.2.2⟩
/-- the steps of a run taken back -/
theorem li_back {M : Nat} {h : fb_HS} {e7 : fb_AR} {r : Int32} (L : fb_LI K s h e7 t) (hK : K ≤ 900000) (hM2 : M ≤ 40) (h1 : 1 ≤ (fb_rn M M 0 s).1) :
    ∃ (e : fb_AR) (s' : fb_MS), f_X0_rewind (fb_hk (fb_rn M M 0 s).1 h s).1 (fb_hk (fb_rn M M 0 s).1 h s).2.2.1 (fb_hk (fb_rn M M 0 s).1 h s).2.2.2.2 (fb_rn M M 0 s).2.2 (nI (fb_rn M M 0 s).1) = (nI (fb_rn M M 0 s).1, e, s') ∧ fb_eq s' s ∧ fb_LI K s' (e, (fb_hk (fb_rn M M 0 s).1 h s).2) (upd (upd e7 7 r) 7 0) s' := by
  obtain ⟨T, d, z, hd, hz, hz5, H2, hsd, hse, hz6, k1⟩ := li_run (M := M) L hK hM2
  have hst := rn_st (M := M) M 0 s
  obtain ⟨e, s', a1, a2, a3⟩ := hi_back (s := (fb_rn M M 0 s).2.2) (z := min 200 (z + (fb_rn M M 0 s).1)) (k := (fb_rn M M 0 s).1) H2 hz6 (by omega) h1 (by omega) (by omega)
  rw [show d + (fb_rn M M 0 s).1 - (fb_rn M M 0 s).1 = d from by omega] at a2 a3
  have hs' : fb_eq s' s := Eq.trans a3 (Eq.symm hsd)
  exact ⟨e, s', a1, hs', ok_eq L.1 (Eq.symm hs'), eq_rfl _, ⟨T, d, hd, a2, a3⟩, by rw [pk_un (by decide), pk_un (by decide)]; exact L.2.2.2.1, by rw [pk_un (by decide), pk_un (by decide)]; exact L.2.2.2.2⟩
/-- the beginning -/
theorem inv_m0 : fb_inv 0 0 0 0 0 0 0 fb_m0 := by
  have z0 : fb_bt 0 0 (0 : Int32) := ⟨0, Nat.le_refl 0, Nat.le_refl 0, rfl⟩
  refine ⟨fun k => ?_, fun j => fr_lit 0 (by decide), ⟨⟨fun k => ?_, fun j => fr_lit 0 (by decide), fr_lit 0 (by decide)⟩, Or.inl rfl⟩, z0, z0, rfl, rfl⟩
  · show fb_bd k 0
    unfold fb_bd
    split <;> first | exact fr_lit 0 (by decide) | trivial
  · show fb_pd k 0
    unfold fb_pd
    split <;> first | exact fr_lit 0 (by decide) | trivial
theorem pi_clear {b : Nat} {π : fb_PS} (h : fb_pin b π) : fb_pin 0 (f_X5_clear π) := by
  refine ⟨⟨?_, h.1.2.1, ?_⟩, Or.inl ?_⟩
  · exact fb_updP (P := fb_pd) (fb_updP (P := fb_pd) (fb_updP (P := fb_pd) (fb_updP (P := fb_pd) (fb_updP (P := fb_pd) (fb_updP (P := fb_pd) (fb_updP (P := fb_pd) (fb_updP (P := fb_pd) (fb_updP (P := fb_pd) (fb_updP (P := fb_pd) (fb_updP (P := fb_pd) (fb_updP (P := fb_pd) h.1.1 (fr_lit 0 (by decide))) (fr_lit 0 (by decide))) (fr_lit 0 (by decide))) (fr_lit 0 (by decide))) trivial) (fr_lit 0 (by decide))) (fr_lit 0 (by decide))) (fr_lit 0 (by decide))) (fr_lit 1 (by decide))) (fr_lit 0 (by decide))) (fr_lit 0 (by decide))) (fr_lit 0 (by decide))
  · show fb_rg (0 : Int32) 1
    exact fr_lit 0 (by decide)
  · show (0 : Int32) &&& 1 = 0
    decide
theorem inv_start : fb_inv 0 0 0 0 0 0 0 (f_X2_restart fb_m0) := by
  have z0 : fb_bt 0 0 (0 : Int32) := ⟨0, Nat.le_refl 0, Nat.le_refl 0, rfl⟩
  have h1 := iv_P (iv_T (f := f_J7_fill_53178 4096 fb_m0.2.2.1 (0 : Int32)) inv_m0) (pi_clear inv_m0.2.2.1)
  have h2 := iv_R 8 (by decide) (iv_R 7 (by decide) (iv_R 6 (by decide) (iv_R 5 (by decide) h1 (fr_lit 0 (by decide))) (fr_lit 0 (by decide))) (fr_lit 255 (by decide))) (fr_lit 4 (by decide))
  exact iv_B (iv_14 (iv_R 13 (by decide) (iv_12 (v := 0) (iv_11 (v := 0) (iv_R 10 (by decide) (iv_R 9 (by decide) h2 (vec_rg _ _)) (fr_lit 0 (by decide))))) (fr_lit 0 (by decide))) z0)
theorem li_start (zo zn : Nat → Nat) (a b : fb_MS) : fb_LI 0 (f_X2_restart fb_m0) (fb_h0, zo, a, zn, b) (fun _ => 0) (f_X2_restart fb_m0) := ⟨⟨0, 0, 0, Nat.le_refl 0, Nat.le_refl 0, Nat.le_refl 0, iv_nm inv_start⟩, eq_rfl _, ⟨fun _ => f_X2_restart fb_m0, 0, Nat.le_refl 0, Or.inl ⟨rfl, rfl, rfl, rfl, rfl⟩, eq_rfl _⟩, rfl, rfl⟩
end RD
