/-! a machine up to what a step forgets at its beginning: its touches (14), its extra cycles (15), the port that counts the copy (13) -/
theorem fb_uu (f : fb_AR) (k : Nat) (x y : Int32) : upd (upd f k x) k y = upd f k y := by
  funext j
  by_cases e : j = k
  · subst e; rw [pk_us, pk_us]
  · rw [pk_un e, pk_un e, pk_un e]
theorem fb_uc (f : fb_AR) {k q : Nat} (h : ¬ k = q) (x y : Int32) : upd (upd f q x) k y = upd (upd f k y) q x := by
  funext j
  by_cases e : j = k
  · subst e; rw [pk_us, pk_un h, pk_us]
  · rw [pk_un e]
    by_cases e2 : j = q
    · subst e2; rw [pk_us, pk_us]
    · rw [pk_un e2, pk_un e2, pk_un e]
theorem fb_ui (f : fb_AR) (k : Nat) : upd f k (f k) = f := by
  funext j
  by_cases e : j = k
  · subst e; rw [pk_us]
  · rw [pk_un e]
def fb_pc (c : Int32) (s : fb_MS) : fb_MS := fb_sP s (fb_pR s.2.2.2.2.2 13 c)
def fb_nm (s : fb_MS) : fb_MS := fb_sR (fb_sR (fb_pc 0 s) 14 0) 15 0
section EQP
variable {c : Int32} {π : fb_PS} {u : fb_MS}
theorem pc_c (k : Nat) (h : ¬ k = 13) (v : Int32) : fb_pR (fb_pR π 13 c) k v = fb_pR (fb_pR π k v) 13 c := by
  unfold fb_pR
  show (upd (upd π.1 13 c) k v, π.2) = (upd (upd π.1 k v) 13 c, π.2)
  rw [fb_uc _ h]
theorem pc_g (k : Nat) (h : ¬ k = 13) : (fb_pR π 13 c).1 k = π.1 k := pk_un h
theorem pc_want : f_X5_wanting (fb_pR π 13 c) = f_X5_wanting π := by
  unfold f_X5_wanting
  rw [pc_g 4 (by decide), pc_g 3 (by decide)]
theorem pc_fw2 : ∀ (n : Nat) (l : Int32), f_X5_firstWanting_2 n (fb_pR π 13 c) l = f_X5_firstWanting_2 n π l := by
  intro n
  induction n with
  | zero => intro l; rfl
  | succ n ih =>
    intro l
    unfold f_X5_firstWanting_2
    rw [pc_want, ih]
theorem pc_fw : f_X5_firstWanting (fb_pR π 13 c) = f_X5_firstWanting π := pc_fw2 _ _
theorem pc_wind : f_X5_wind (fb_pR π 13 c) = fb_pR (f_X5_wind π) 13 c := by
  unfold f_X5_wind
  rw [pc_g 7 (by decide), pc_c 8 (by decide), pc_c 8 (by decide)]
  split <;> rfl
theorem pc_ring : f_X5_ring (fb_pR π 13 c) = fb_pR (f_X5_ring π) 13 c := by
  unfold f_X5_ring
  rw [pc_g 4 (by decide), pc_c 4 (by decide), pc_g 9 (by decide), pc_c 9 (by decide), pc_wind]
  split <;> rfl
theorem pc_pass2 : ∀ (n : Nat) (π : fb_PS) (l1 l2 : Int32), f_X5_pass_2 n (fb_pR π 13 c) l1 l2 = fb_pR (f_X5_pass_2 n π l1 l2) 13 c := by
  intro n
  induction n with
  | zero => intro π l1 l2; rfl
  | succ n ih =>
    intro π l1 l2
    unfold f_X5_pass_2
    rw [pc_g 9 (by decide), pc_g 8 (by decide), pc_c 8 (by decide), pc_g 8 (by decide), pc_ring, ih, ih]
    split
    · rfl
    · split
      · rfl
      · split <;> rfl
theorem pc_pass (l1 : Int32) : f_X5_pass (fb_pR π 13 c) l1 = fb_pR (f_X5_pass π l1) 13 c := pc_pass2 _ _ _ _
theorem pc_105 : (f_X2_advance_105 (fb_pc c u)).1 = (f_X2_advance_105 u).1 ∧ (f_X2_advance_105 (fb_pc c u)).2 = fb_pc c (f_X2_advance_105 u).2 := by
  refine ⟨rfl, ?_⟩
  show fb_sP (fb_sR (fb_pc c u) 11 ((u.1 11) + ((u.1 14) + (u.1 15)))) (f_X5_pass (fb_pR u.2.2.2.2.2 13 c) ((u.1 14) + (u.1 15))) = _
  rw [pc_pass]
  rfl
theorem pc_begin (v : Int32) : f_X2_beginCall (fb_pc c u) v = fb_pc c (f_X2_beginCall u v) := by
  unfold f_X2_beginCall
  show (if (u.1 13) < (40 : Int32) then f_X2_beginCall_30 (fb_pc c u) v else f_X2_beginCall_30 (fb_sR (fb_sK (fb_pc c u) (va_cpy (u.2.2.2.1) (u.2.2.2.1) 1 0 39)) 13 (39 : Int32)) v) = _
  split <;> rfl
theorem pc_push (v : Int32) : f_X2_push (fb_pc c u) v = fb_pc c (f_X2_push u v) := rfl
theorem pc_touch (v : Int32) : f_X2_touch (fb_pc c u) v = fb_pc c (f_X2_touch u v) := rfl
theorem pc_vec (v : Int32) : f_X2_vector (fb_pc c u) v = f_X2_vector u v := rfl
theorem pc_sR (k : Nat) (v : Int32) : fb_sR (fb_pc c u) k v = fb_pc c (fb_sR u k v) := rfl
theorem pc_1 : (fb_pc c u).1 = u.1 := rfl
theorem pc_enter (l1 l2 : Int32) : f_X2_enter (fb_pc c u) l1 l2 = fb_pc c (f_X2_enter u l1 l2) := by
  unfold f_X2_enter
  simp only [pc_begin, pc_push, pc_touch, pc_vec, pc_sR, pc_1]
theorem pc_takeBy (l1 : Int32) : f_X2_takeBy (fb_pc c u) l1 = fb_pc c (f_X2_takeBy u l1) := by
  unfold f_X2_takeBy
  rw [pc_sR, pc_enter]
  rfl
theorem pc_co : fb_co (fb_pc c u) = fb_co u := by
  unfold fb_co
  show fb_sP _ (fb_pR (fb_pR u.2.2.2.2.2 13 c) 13 (0 : Int32)) = fb_sP _ (fb_pR u.2.2.2.2.2 13 (0 : Int32))
  rw [show fb_pR (fb_pR u.2.2.2.2.2 13 c) 13 (0 : Int32) = fb_pR u.2.2.2.2.2 13 (0 : Int32) from by unfold fb_pR; rw [fb_uu]]
  rfl
theorem pc_shown (l1 : Int32) : f_X2_shown (fb_pc c u) l1 = f_X2_shown u l1 := by
  unfold f_X2_shown
  show f_X11_at 11008 u.2.1 (f_X11_placeOf (l1 &&& (4095 : Int32)) ((fb_pR u.2.2.2.2.2 13 c).1 2)) = _
  rw [pc_g 2 (by decide)]
theorem pc_cx (x : Int32) : fb_cx (fb_pc c u) x = fb_cx u x := by
  unfold fb_cx
  rw [pc_co, pc_shown, pc_shown, pc_1]
theorem pc_carry : f_X2_carryOut (fb_pc c u) = f_X2_carryOut u ∨ f_X2_carryOut (fb_pc c u) = fb_pc c (f_X2_carryOut u) := by
  rw [carry_eq, carry_eq, pc_1, pc_shown, pc_cx]
  split
  · right; rfl
  · left; rfl
/-- what two machines have in common that a step can see -/
def fb_eq (s t : fb_MS) : Prop := fb_nm s = fb_nm t
theorem eq_rfl (s : fb_MS) : fb_eq s s := rfl
theorem eq_pc : fb_eq (fb_pc c u) u := by
  unfold fb_eq fb_nm
  show fb_sR (fb_sR (fb_sP u (fb_pR (fb_pR u.2.2.2.2.2 13 c) 13 0)) 14 0) 15 0 = _
  rw [show fb_pR (fb_pR u.2.2.2.2.2 13 c) 13 (0 : Int32) = fb_pR u.2.2.2.2.2 13 (0 : Int32) from by unfold fb_pR; rw [fb_uu]]
  rfl
theorem eq_105 : (f_X2_advance_105 (fb_pc c u)).1 = (f_X2_advance_105 u).1 ∧ fb_eq (f_X2_advance_105 (fb_pc c u)).2 (f_X2_advance_105 u).2 := ⟨pc_105.1, by rw [pc_105.2]; exact eq_pc⟩
theorem eq_96 : (f_X2_advance_96 (fb_pc c u)).1 = (f_X2_advance_96 u).1 ∧ fb_eq (f_X2_advance_96 (fb_pc c u)).2 (f_X2_advance_96 u).2 := by
  unfold f_X2_advance_96
  rw [pc_sR]
  rcases pc_carry (c := c) (u := fb_sR u 10 (0 : Int32)) with q | q
  · rw [q]; exact ⟨rfl, rfl⟩
  · rw [q]; exact eq_105
theorem eq_76 (l1 : Int32) : (f_X2_advance_76 (fb_pc c u) l1).1 = (f_X2_advance_76 u l1).1 ∧ fb_eq (f_X2_advance_76 (fb_pc c u) l1).2 (f_X2_advance_76 u l1).2 := by
  unfold f_X2_advance_76
  rw [pc_1, pc_sR]
  split
  · split
    · exact eq_105
    · exact eq_96
  · exact eq_96
def fb_adB (v : fb_MS) : Int32 × fb_MS := if f_X2_endReason v = 0 then (if fb_bI v.2.2.2.2.1 = 0 then (if f_X5_wanting v.2.2.2.2.2 = 0 then f_X2_advance_76 v (f_X5_wanting v.2.2.2.2.2) else (if (v.1 8) &&& (4 : Int32) = 0 then f_X2_advance_105 (f_X2_takeBy v ((2 : Int32) + f_X5_firstWanting v.2.2.2.2.2)) else f_X2_advance_76 v (f_X5_wanting v.2.2.2.2.2))) else f_X2_advance_105 (f_X2_takeBy (fb_sB v false) (1 : Int32))) else ((0 : Int32), v)
theorem adv_B (s : fb_MS) : f_X2_advance s = fb_adB (fb_sR (fb_sR s 14 (0 : Int32)) 15 (0 : Int32)) := rfl
theorem eq_adB : (fb_adB (fb_pc c u)).1 = (fb_adB u).1 ∧ fb_eq (fb_adB (fb_pc c u)).2 (fb_adB u).2 := by
  have e : f_X5_wanting (fb_pc c u).2.2.2.2.2 = f_X5_wanting u.2.2.2.2.2 := pc_want
  have e2 : f_X5_firstWanting (fb_pc c u).2.2.2.2.2 = f_X5_firstWanting u.2.2.2.2.2 := pc_fw
  unfold fb_adB
  rw [e, e2, pc_takeBy, show f_X2_endReason (fb_pc c u) = f_X2_endReason u from rfl, show (fb_pc c u).2.2.2.2.1 = u.2.2.2.2.1 from rfl, show fb_sB (fb_pc c u) false = fb_pc c (fb_sB u false) from rfl, pc_takeBy, pc_1]
  split
  · split
    · split
      · exact eq_76 _
      · split
        · exact eq_105
        · exact eq_76 _
    · exact eq_105
  · exact ⟨rfl, eq_pc⟩
theorem nm_pc (s : fb_MS) : fb_sR (fb_sR s 14 (0 : Int32)) 15 (0 : Int32) = fb_pc (s.2.2.2.2.2.1 13) (fb_nm s) := by
  unfold fb_pc fb_nm
  show _ = fb_sR (fb_sR (fb_sP s (fb_pR (fb_pR s.2.2.2.2.2 13 0) 13 (s.2.2.2.2.2.1 13))) 14 0) 15 0
  rw [show fb_pR (fb_pR s.2.2.2.2.2 13 (0 : Int32)) 13 (s.2.2.2.2.2.1 13) = s.2.2.2.2.2 from by unfold fb_pR; show (upd (upd s.2.2.2.2.2.1 13 0) 13 (s.2.2.2.2.2.1 13), s.2.2.2.2.2.2) = _; rw [fb_uu, fb_ui]]
  rfl
/-- a step sees no more of a machine than that -/
theorem eq_adv {s t : fb_MS} (h : fb_eq s t) : (f_X2_advance s).1 = (f_X2_advance t).1 ∧ fb_eq (f_X2_advance s).2 (f_X2_advance t).2 := by
  have h1 : fb_nm s = fb_nm t := h
  rw [adv_B, adv_B, nm_pc s, nm_pc t, h1]
  obtain ⟨a1, a2⟩ := eq_adB (c := s.2.2.2.2.2.1 13) (u := fb_nm t)
  obtain ⟨b1, b2⟩ := eq_adB (c := t.2.2.2.2.2.1 13) (u := fb_nm t)
  exact ⟨a1.trans b1.symm, Eq.trans a2 b2.symm⟩
theorem nm_g (s : fb_MS) {k : Nat} (h : ¬ k = 14) (h2 : ¬ k = 15) : (fb_nm s).1 k = s.1 k := by
  show upd (upd s.1 14 0) 15 0 k = s.1 k
  rw [pk_un h2, pk_un h]
theorem eq_g {s t : fb_MS} (h : fb_eq s t) (k : Nat) (h1 : ¬ k = 14) (h2 : ¬ k = 15) : s.1 k = t.1 k := by
  rw [← nm_g s h1 h2, ← nm_g t h1 h2, show fb_nm s = fb_nm t from h]
theorem eq_m {s t : fb_MS} (h : fb_eq s t) : s.2.1 = t.2.1 := (congrArg (fun z : fb_MS => z.2.1) (show fb_nm s = fb_nm t from h) : (fb_nm s).2.1 = (fb_nm t).2.1)
theorem eq_t {s t : fb_MS} (h : fb_eq s t) : s.2.2.1 = t.2.2.1 := (congrArg (fun z : fb_MS => z.2.2.1) (show fb_nm s = fb_nm t from h) : (fb_nm s).2.2.1 = (fb_nm t).2.2.1)
theorem eq_k {s t : fb_MS} (h : fb_eq s t) : s.2.2.2.1 = t.2.2.2.1 := (congrArg (fun z : fb_MS => z.2.2.2.1) (show fb_nm s = fb_nm t from h) : (fb_nm s).2.2.2.1 = (fb_nm t).2.2.2.1)
theorem eq_b {s t : fb_MS} (h : fb_eq s t) : s.2.2.2.2.1 = t.2.2.2.2.1 := (congrArg (fun z : fb_MS => z.2.2.2.2.1) (show fb_nm s = fb_nm t from h) : (fb_nm s).2.2.2.2.1 = (fb_nm t).2.2.2.2.1)
theorem eq_p {s t : fb_MS} (h : fb_eq s t) (k : Nat) (h1 : ¬ k = 13) : s.2.2.2.2.2.1 k = t.2.2.2.2.2.1 k := by
  have e : upd s.2.2.2.2.2.1 13 0 k = upd t.2.2.2.2.2.1 13 0 k := congrArg (fun z : fb_MS => z.2.2.2.2.2.1 k) (show fb_nm s = fb_nm t from h)
  rwa [pk_un h1, pk_un h1] at e
theorem eq_pp {s t : fb_MS} (h : fb_eq s t) : s.2.2.2.2.2.2 = t.2.2.2.2.2.2 := (congrArg (fun z : fb_MS => z.2.2.2.2.2.2) (show fb_nm s = fb_nm t from h) : (fb_nm s).2.2.2.2.2.2 = (fb_nm t).2.2.2.2.2.2)
theorem eq_end {s t : fb_MS} (h : fb_eq s t) : f_X2_endReason s = f_X2_endReason t := by
  unfold f_X2_endReason
  rw [eq_g h 10 (by decide) (by decide)]
/-- what copyFrom makes is the other up to that -/
theorem eq_copy (s t : fb_MS) : fb_eq (f_X2_copyFrom s t) t := by
  unfold fb_eq fb_nm f_X2_copyFrom
  show fb_sR (fb_sR (fb_sR (fb_sR (fb_pc 0 (fb_sP t (fb_pR t.2.2.2.2.2 13 0))) 14 0) 15 (s.1 15)) 14 0) 15 0 = _
  unfold fb_pc fb_sR fb_sP fb_pR
  simp only
  rw [fb_uc (upd t.1 14 (0 : Int32)) (k := 14) (q := 15) (by decide), fb_uu, fb_uu, fb_uu]
end EQP
