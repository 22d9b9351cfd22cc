/-! what is always so of the ports -/
def fb_pd : Nat → Int32 → Prop
  | 2, v => fb_rg v 8
  | 3, v => fb_rg v 16
  | 4, v => fb_rg v 16
  | 5, v => fb_rg v 17
  | 7, v => fb_rg v 65536
  | 8, v => fb_rg v 65537
  | 9, v => fb_rg v 4
  | 10, v => fb_rg v 65536
  | 11, v => fb_rg v 65536
  | 12, v => fb_rg v 65536
  | 13, v => fb_rg v 256
  | _, _ => True
def fb_ct (r : fb_AR) : Prop := r 9 &&& 1 = 0 ∨ ¬ r 8 = 0
def fb_pi0 (b : Nat) (π : fb_PS) : Prop := (∀ k, fb_pd k (π.1 k)) ∧ (∀ i, fb_rg (π.2.1 i) 256) ∧ fb_rg (π.1 6) (b + 1)
def fb_pin (b : Nat) (π : fb_PS) : Prop := fb_pi0 b π ∧ fb_ct π.1
section IVP
variable {b : Nat} {π : fb_PS}
theorem pi0_R (k : Nat) {v : Int32} (hk : ¬ k = 6) (h : fb_pi0 b π) (hv : fb_pd k v) : fb_pi0 b (fb_pR π k v) := ⟨fb_updP (P := fb_pd) h.1 hv, h.2.1, by
  show fb_rg (upd π.1 k v 6) (b + 1)
  rw [pk_un (fun e => hk e.symm)]; exact h.2.2⟩
theorem pi_R (k : Nat) {v : Int32} (hk : ¬ k = 6 ∧ ¬ k = 8 ∧ ¬ k = 9) (h : fb_pin b π) (hv : fb_pd k v) : fb_pin b (fb_pR π k v) := ⟨pi0_R k hk.1 h.1 hv, by
  show upd π.1 k v 9 &&& 1 = 0 ∨ ¬ upd π.1 k v 8 = 0
  rw [pk_un (fun e => hk.2.1 e.symm), pk_un (fun e => hk.2.2 e.symm)]; exact h.2⟩
theorem pi_w {b' : Nat} (h : fb_pin b π) (hb : b ≤ b') : fb_pin b' π := ⟨⟨h.1.1, h.1.2.1, fr_mono h.1.2.2 (by omega)⟩, h.2⟩
theorem pi_I {f : fb_AR} (h : fb_pin b π) (hf : ∀ j, fb_rg (f j) 256) : fb_pin b (fb_pI π f) := ⟨⟨h.1.1, hf, h.1.2.2⟩, h.2⟩
theorem pi_O {f : fb_AR} (h : fb_pin b π) : fb_pin b (fb_pO π f) := ⟨⟨h.1.1, h.1.2.1, h.1.2.2⟩, h.2⟩
theorem pi_6 (h : fb_pin b π) : fb_pin (b + 1) (fb_pR π 6 (π.1 6 + 1)) := ⟨⟨fb_updP (P := fb_pd) h.1.1 trivial, h.1.2.1, by
  show fb_rg (upd π.1 6 (π.1 6 + 1) 6) (b + 1 + 1)
  rw [pk_us]
  obtain ⟨j, hj, e⟩ := h.1.2.2
  exact ⟨j + 1, by omega, by rw [e]; exact (nI_succ j).symm⟩⟩, by
  show upd π.1 6 (π.1 6 + 1) 9 &&& 1 = 0 ∨ ¬ upd π.1 6 (π.1 6 + 1) 8 = 0
  rw [pk_un (by decide), pk_un (by decide)]; exact h.2⟩
theorem pi0_wind (h : fb_pi0 b π) : fb_pin b (f_X5_wind π) := by
  unfold f_X5_wind
  split
  · exact ⟨pi0_R 8 (by decide) h (fr_lit 65536 (by decide)), Or.inr (by show ¬ upd π.1 8 65536 8 = 0; rw [pk_us]; decide)⟩
  · rename_i hz
    exact ⟨pi0_R 8 (by decide) h (fr_mono (show fb_rg (π.1 7) 65536 from h.1 7) (by decide)), Or.inr (by show ¬ upd π.1 8 (π.1 7) 8 = 0; rw [pk_us]; exact hz)⟩
theorem ct_m2 {v : Int32} (h : fb_rg v 4) : (v &&& (-2 : Int32)) &&& 1 = 0 := by
  obtain ⟨j, hj, rfl⟩ := h
  match j, hj with
  | 0, _ => decide
  | 1, _ => decide
  | 2, _ => decide
  | 3, _ => decide
  | j + 4, hj => omega
theorem pi_ring (h : fb_pi0 b π) : fb_pin b (f_X5_ring π) := by
  have h1 : fb_pi0 b (fb_pR π 4 ((π.1 4) ||| (1 : Int32))) := pi0_R 4 (by decide) h (fr_or16 (h.1 4) (fr_lit 1 (by decide)))
  unfold f_X5_ring
  split
  · refine ⟨pi0_R 9 (by decide) h1 (fr_andl (h1.1 9) _), Or.inl ?_⟩
    have e : ∀ (f : fb_AR) (v : Int32), fb_rg v 4 → upd f 9 (v &&& (-2 : Int32)) 9 &&& 1 = 0 := fun f v hv => by rw [pk_us]; exact ct_m2 hv
    exact e (fb_pR π 4 ((π.1 4) ||| (1 : Int32))).1 ((fb_pR π 4 ((π.1 4) ||| (1 : Int32))).1 9) (h1.1 9)
  · exact pi0_wind h1
theorem pi_pass_2 : ∀ (n : Nat) (π : fb_PS) (l1 l2 : Int32), fb_pin b π → fb_pin b (f_X5_pass_2 n π l1 l2) := by
  intro n
  induction n with
  | zero => intro π l1 l2 h; exact h
  | succ n ih =>
    intro π l1 l2 h
    unfold f_X5_pass_2
    split
    · exact h
    · split
      · exact h
      · rename_i hc
        have ht : ¬ π.1 8 = 0 := h.2.resolve_left hc
        obtain ⟨h8, -⟩ := fr_pred (show fb_rg (π.1 8) 65537 from h.1.1 8) (by decide) ht
        have h1 : fb_pi0 b (fb_pR π 8 ((π.1 8) - (1 : Int32))) := pi0_R 8 (by decide) h.1 h8
        split
        · exact ih _ _ _ (pi_ring h1)
        · rename_i hz
          exact ih _ _ _ ⟨h1, Or.inr hz⟩
theorem pi_pass (h : fb_pin b π) (l1 : Int32) : fb_pin b (f_X5_pass π l1) := pi_pass_2 _ _ _ _ h
theorem pi_first_26 : ∀ (n : Nat) (π : fb_PS) (l1 l2 : Int32), fb_pin b π → fb_rg l1 256 → ¬ π.1 5 = 0 → fb_pin b (f_X5_firstInput_26 n π l1 l2).2 ∧ (fb_rg (f_X5_firstInput_26 n π l1 l2).1 256) := by
  intro n
  induction n with
  | zero => intro π l1 l2 h h1 h5; exact ⟨h, fr_lit 0 (by decide)⟩
  | succ n ih =>
    intro π l1 l2 h h1 h5
    unfold f_X5_firstInput_26
    split
    · exact ⟨pi_R 5 (by decide) h (fr_pred (show fb_rg (π.1 5) 17 from h.1.1 5) (by decide) h5).1, h1⟩
    · exact ih _ _ _ (pi_I h (fb_updP (P := fun _ x => fb_rg x 256) h.1.2.1 (h.1.2.1 _))) h1 h5
theorem pi_first (h : fb_pin b π) : fb_pin b (f_X5_firstInput π).2 ∧ fb_rg (f_X5_firstInput π).1 256 := by
  unfold f_X5_firstInput
  split
  · exact ⟨h, fr_lit 0 (by decide)⟩
  · rename_i h5
    split
    · exact ⟨h, fr_lit 0 (by decide)⟩
    · exact pi_first_26 _ _ _ _ h (h.1.2.1 _) h5
theorem pi_random (h : fb_pin b π) : fb_pin b (f_X5_nextRandom π).2 ∧ fb_rg (f_X5_nextRandom π).1 256 := by
  have hr : fb_rg (π.1 10) 65536 := h.1.1 10
  unfold f_X5_nextRandom
  split
  · have h1 : fb_pin b (fb_pR π 10 ((π.1 10) / (2 : Int32))) := pi_R 10 (by decide) h (fr_d2 hr)
    exact ⟨h1, fr_m256 (show fb_rg _ 65536 from h1.1.1 10) (by decide)⟩
  · have h1 : fb_pin b (fb_pR π 10 (((π.1 10) / (2 : Int32)) ^^^ (46080 : Int32))) := pi_R 10 (by decide) h (fr_xor65536 (fr_d2 hr) (fr_lit 46080 (by decide)))
    exact ⟨h1, fr_m256 (show fb_rg _ 65536 from h1.1.1 10) (by decide)⟩
theorem pi_read (h : fb_pin b π) (hb : b < 1000000000) (l1 : Int32) {l2 : Int32} {N : Nat} (hc : fb_rg l2 N) (hN : N ≤ 2147483648) : fb_pin b (f_X5_read π l1 l2).2 ∧ fb_rg (f_X5_read π l1 l2).1 256 := by
  unfold f_X5_read
  refine fb_ite (P := (fun z : Int32 × fb_PS => fb_pin b z.2 ∧ fb_rg z.1 256)) (fun _ => ?_) (fun _ => ?_); · exact ⟨h, fr_mono (h.1.1 2) (by decide)⟩
  refine fb_ite (P := (fun z : Int32 × fb_PS => fb_pin b z.2 ∧ fb_rg z.1 256)) (fun _ => ?_) (fun _ => ?_); · exact ⟨h, fr_mono (h.1.1 3) (by decide)⟩
  refine fb_ite (P := (fun z : Int32 × fb_PS => fb_pin b z.2 ∧ fb_rg z.1 256)) (fun _ => ?_) (fun _ => ?_); · exact ⟨h, fr_mono (h.1.1 4) (by decide)⟩
  refine fb_ite (P := (fun z : Int32 × fb_PS => fb_pin b z.2 ∧ fb_rg z.1 256)) (fun _ => ?_) (fun _ => ?_); · exact ⟨h, fr_m256 h.1.2.2 (by omega)⟩
  refine fb_ite (P := (fun z : Int32 × fb_PS => fb_pin b z.2 ∧ fb_rg z.1 256)) (fun _ => ?_) (fun _ => ?_); · exact pi_first h
  refine fb_ite (P := (fun z : Int32 × fb_PS => fb_pin b z.2 ∧ fb_rg z.1 256)) (fun _ => ?_) (fun _ => ?_); · exact ⟨h, fr_mono (h.1.1 5) (by decide)⟩
  refine fb_ite (P := (fun z : Int32 × fb_PS => fb_pin b z.2 ∧ fb_rg z.1 256)) (fun _ => ?_) (fun _ => ?_); · exact ⟨h, fr_m256 (h.1.1 8) (by decide)⟩
  refine fb_ite (P := (fun z : Int32 × fb_PS => fb_pin b z.2 ∧ fb_rg z.1 256)) (fun _ => ?_) (fun _ => ?_); · exact ⟨h, fr_m256 (fr_div (h.1.1 8) (by decide) 256 (by decide) (by decide) (M := 65536) (by decide)) (by decide)⟩
  refine fb_ite (P := (fun z : Int32 × fb_PS => fb_pin b z.2 ∧ fb_rg z.1 256)) (fun _ => ?_) (fun _ => ?_); · exact ⟨h, fr_mono (h.1.1 9) (by decide)⟩
  refine fb_ite (P := (fun z : Int32 × fb_PS => fb_pin b z.2 ∧ fb_rg z.1 256)) (fun _ => ?_) (fun _ => ?_); · exact pi_random h
  refine fb_ite (P := (fun z : Int32 × fb_PS => fb_pin b z.2 ∧ fb_rg z.1 256)) (fun _ => ?_) (fun _ => ?_); · exact ⟨h, fr_m256 (h.1.1 11) (by decide)⟩
  refine fb_ite (P := (fun z : Int32 × fb_PS => fb_pin b z.2 ∧ fb_rg z.1 256)) (fun _ => ?_) (fun _ => ?_); · exact ⟨h, fr_d256 (h.1.1 11)⟩
  refine fb_ite (P := (fun z : Int32 × fb_PS => fb_pin b z.2 ∧ fb_rg z.1 256)) (fun _ => ?_) (fun _ => ?_); · exact ⟨h, fr_m256 (h.1.1 12) (by decide)⟩
  refine fb_ite (P := (fun z : Int32 × fb_PS => fb_pin b z.2 ∧ fb_rg z.1 256)) (fun _ => ?_) (fun _ => ?_); · exact ⟨h, fr_d256 (h.1.1 12)⟩
  refine fb_ite (P := (fun z : Int32 × fb_PS => fb_pin b z.2 ∧ fb_rg z.1 256)) (fun _ => ?_) (fun _ => ?_); · exact ⟨h, fr_lit 0 (by decide)⟩
  refine fb_ite (P := (fun z : Int32 × fb_PS => fb_pin b z.2 ∧ fb_rg z.1 256)) (fun _ => ?_) (fun _ => ?_); · exact ⟨h, fr_m256 hc hN⟩
  exact ⟨h, fr_lit 0 (by decide)⟩
theorem ct_m4 {v : Int32} (h : fb_rg v 256) : (v - v / (4 : Int32) * (4 : Int32)) &&& 1 = v &&& 1 := by
  obtain ⟨j, hj, rfl⟩ := h
  rw [show nI j - nI j / (4 : Int32) * (4 : Int32) = nI (j % 4) from pk_rem (d := 4) (by omega) (by decide) (by decide), pk_andN (n := j % 4) (m := 1) (by omega) 1 (by decide), pk_andN (n := j) (m := 1) (by omega) 1 (by decide)]
  congr 1
  omega
theorem pi_write (h : fb_pin b π) (l1 : Int32) {l2 : Int32} (hv : fb_rg l2 256) : fb_pin (b + 1) (f_X5_write π l1 l2) := by
  have hw : fb_pin (b + 1) π := pi_w h (Nat.le_succ b)
  unfold f_X5_write
  refine fb_ite (P := fb_pin (b + 1)) (fun _ => ?_) (fun _ => ?_); · exact pi_R 2 (by decide) hw (fr_m8 hv (by decide))
  refine fb_ite (P := fb_pin (b + 1)) (fun _ => ?_) (fun _ => ?_); · exact pi_R 3 (by decide) hw (fr_m16 hv (by decide))
  refine fb_ite (P := fb_pin (b + 1)) (fun _ => ?_) (fun _ => ?_); · exact pi_R 4 (by decide) hw (fr_andl (hw.1.1 4) _)
  refine fb_ite (P := fb_pin (b + 1)) (fun _ => ?_) (fun _ => ?_); · exact pi_6 (pi_O h)
  refine fb_ite (P := fb_pin (b + 1)) (fun _ => ?_) (fun _ => ?_); · exact hw
  refine fb_ite (P := fb_pin (b + 1)) (fun _ => ?_) (fun _ => ?_); · exact hw
  refine fb_ite (P := fb_pin (b + 1)) (fun _ => ?_) (fun _ => ?_); · exact pi_R 7 (by decide) hw (fr_lo (hw.1.1 7) hv)
  refine fb_ite (P := fb_pin (b + 1)) (fun _ => ?_) (fun _ => ?_); · exact pi_R 7 (by decide) hw (fr_hi (hw.1.1 7) hv)
  refine fb_ite (P := fb_pin (b + 1)) (fun _ => ?_) (fun _ => ?_)
  · split
    · rename_i hle
      refine ⟨pi0_R 9 (by decide) hw.1 (fr_m4 hv (by decide)), ?_⟩
      show upd π.1 9 (l2 - l2 / (4 : Int32) * (4 : Int32)) 9 &&& 1 = 0 ∨ ¬ upd π.1 9 (l2 - l2 / (4 : Int32) * (4 : Int32)) 8 = 0
      rw [pk_us, pk_un (by decide), ct_m4 hv]
      rcases h.2 with q | q
      · left
        rw [q] at hle
        obtain ⟨j, hj, e⟩ := fr_1 l2
        rw [e] at hle ⊢
        match j, hj with
        | 0, _ => rfl
        | 1, _ => exact absurd hle (by decide)
        | j + 2, hj => omega
      · exact Or.inr q
    · have h1 := pi0_wind (b := b + 1) hw.1
      have h8 : ¬ (f_X5_wind π).1 8 = 0 := by
        unfold f_X5_wind
        split
        · show ¬ upd π.1 8 65536 8 = 0
          rw [pk_us]; decide
        · rename_i hz
          show ¬ upd π.1 8 (π.1 7) 8 = 0
          rw [pk_us]; exact hz
      refine ⟨pi0_R 9 (by decide) h1.1 (fr_m4 hv (by decide)), Or.inr ?_⟩
      show ¬ upd (f_X5_wind π).1 9 (l2 - l2 / (4 : Int32) * (4 : Int32)) 8 = 0
      rw [pk_un (by decide)]
      exact h8
  refine fb_ite (P := fb_pin (b + 1)) (fun _ => ?_) (fun _ => ?_)
  · refine pi_R 10 (by decide) hw ?_
    obtain ⟨j, hj, e⟩ := hv
    exact ⟨j + 256, by omega, by rw [e]; exact nI_add j 256⟩
  refine fb_ite (P := fb_pin (b + 1)) (fun _ => ?_) (fun _ => ?_); · exact pi_R 11 (by decide) hw (fr_lo (hw.1.1 11) hv)
  refine fb_ite (P := fb_pin (b + 1)) (fun _ => ?_) (fun _ => ?_); · exact pi_R 11 (by decide) hw (fr_hi (hw.1.1 11) hv)
  refine fb_ite (P := fb_pin (b + 1)) (fun _ => ?_) (fun _ => ?_); · exact pi_R 12 (by decide) hw (fr_lo (hw.1.1 12) hv)
  refine fb_ite (P := fb_pin (b + 1)) (fun _ => ?_) (fun _ => ?_); · exact pi_R 12 (by decide) hw (fr_hi (hw.1.1 12) hv)
  refine fb_ite (P := fb_pin (b + 1)) (fun _ => ?_) (fun _ => ?_); · exact pi_R 13 (by decide) hw hv
  exact hw
theorem pi_take (h : fb_pin b π) (h5 : π.1 5 < 16) {v : Int32} (hv : fb_rg v 256) : fb_pin b (f_X5_take π v) := by
  unfold f_X5_take
  refine pi_R 4 (by decide) (pi_R 5 (by decide) (pi_I h (put_rg h.1.2.1 _ _ hv)) ?_) ?_
  · obtain ⟨j, hj, e⟩ := (show fb_rg (π.1 5) 17 from h.1.1 5)
    refine ⟨j + 1, ?_, ?_⟩
    · rw [e] at h5
      have := (nI_ltI (a := j) (b := 16) (by omega) (by decide)).mp h5
      omega
    · show π.1 5 + 1 = _
      rw [e]; exact (nI_succ j).symm
  · exact fr_or16 (show fb_rg (π.1 4) 16 from h.1.1 4) (fr_lit 2 (by decide))
end IVP
