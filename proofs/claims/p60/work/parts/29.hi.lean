/-! HISTORY: T i is the machine behind i steps (done counts them), d of them are done -/
def fb_hi (T : Nat → fb_MS) (d : Nat) (h : fb_HS) : Prop := (h.1 2 = -1 ∧ h.1 3 = -1 ∧ h.1 4 = 0 ∧ h.1 5 = 0 ∧ d = 0) ∨
  ∃ o z : Nat, h.1 2 = nI o ∧ h.1 4 = nI d ∧ h.1 5 = nI z ∧ z ≤ 200 ∧ z + o ≤ d ∧ fb_eq h.2.2.1 (T o) ∧ (∀ i, o ≤ i → i < d → fb_eq (T (i + 1)) (f_X2_advance (T i)).2) ∧ (h.1 3 = -1 ∨ ∃ w : Nat, h.1 3 = nI w ∧ o ≤ w ∧ w ≤ d ∧ fb_eq h.2.2.2.2 (T w))
theorem l2_le {z : Nat} (h : 200 ≤ z) (hz : z < 2 ^ 31) : (200 : Int32) ≤ nI z := nI_le (a := 200) h hz
theorem l2_nle {z : Nat} (h : z < 200) : ¬ (200 : Int32) ≤ nI z := nI_ge (b := 200) h (by decide)
section HI
variable {T : Nat → fb_MS} {d : Nat} {h : fb_HS} {s : fb_MS}
theorem hi_mono {T' : Nat → fb_MS} (H : fb_hi T d h) (e : ∀ i, i ≤ d → T' i = T i) : fb_hi T' d h := by
  rcases H with H | ⟨o, z, h2, h4, h5, hz, hzo, hso, hT, h3⟩
  · exact Or.inl H
  · refine Or.inr ⟨o, z, h2, h4, h5, hz, hzo, by rw [e o (by omega)]; exact hso, fun i hi hd => by rw [e (i + 1) (by omega), e i (by omega)]; exact hT i hi hd, ?_⟩
    rcases h3 with h3 | ⟨w, h3, hw, hwd, he⟩
    · exact Or.inl h3
    · exact Or.inr ⟨w, h3, hw, hwd, by rw [e w hwd]; exact he⟩
theorem hi_size (H : fb_hi T d h) : ∃ z : Nat, h.1 5 = nI z ∧ z ≤ 200 ∧ z ≤ d := by
  rcases H with H | ⟨o, z, h2, h4, h5, hz, hzo, -⟩
  · exact ⟨0, H.2.2.2.1, by omega, by omega⟩
  · exact ⟨z, h5, hz, by omega⟩
/-- the end of keepUp: one more is done, and kept -/
theorem ku_131 (ze0 : fb_AR) (zo : Nat → Nat) (zso : fb_MS) (zn : Nat → Nat) (zsn s : fb_MS) {D z : Nat} (h4 : ze0 4 = nI D) (h5 : ze0 5 = nI z) (hz : z ≤ 200) :
    ∃ e : fb_AR, f_X0_keepUp_131 ze0 zo zso zn zsn s = (e, zo, zso, zn, zsn) ∧ e 2 = ze0 2 ∧ e 3 = ze0 3 ∧ e 4 = nI (D + 1) ∧ e 5 = nI (min 200 (z + 1)) := by
  have e5 : upd ze0 4 ((ze0 4) + (1 : Int32)) 5 = nI z := by rw [pk_un (by decide), h5]
  unfold f_X0_keepUp_131
  rw [e5]
  by_cases hc : 200 ≤ z
  · rw [if_pos (l2_le hc (by omega))]
    refine ⟨_, rfl, by rw [pk_un (by decide)], by rw [pk_un (by decide)], by rw [pk_us, h4, ← nI_succ], ?_⟩
    rw [e5, Nat.min_eq_left (by omega)]
    congr 1
    omega
  · rw [if_neg (l2_nle (z := z) (by omega))]
    refine ⟨_, rfl, by rw [pk_un (by decide), pk_un (by decide)], by rw [pk_un (by decide), pk_un (by decide)], by rw [pk_un (by decide), pk_us, h4, ← nI_succ], ?_⟩
    rw [pk_us, ← nI_succ, Nat.min_eq_right (by omega)]
theorem n1_neg : ¬ (0 : Int32) ≤ -1 ∧ (-1 : Int32) < 0 := by decide
/-- keepUp ahead of a step -/
theorem hi_keep (H : fb_hi T d h) (hs : fb_eq s (T d)) (hd : d < 1000000) (hT : fb_eq (T (d + 1)) (f_X2_advance (T d)).2) : fb_hi T (d + 1) (fb_ku h s) ∧ ∃ z : Nat, z ≤ 200 ∧ h.1 5 = nI z ∧ (fb_ku h s).1 5 = nI (min 200 (z + 1)) := by
  rcases H with ⟨h2, h3, h4, h5, hd0⟩ | ⟨o, z, h2, h4, h5, hz, hzo, hso, hTT, h3⟩
  · subst hd0
    obtain ⟨e, he, e2, e3, e4, e5⟩ := ku_131 (upd h.1 2 (h.1 4)) h.2.1 (f_X2_copyFrom h.2.2.1 s) h.2.2.2.1 h.2.2.2.2 s (D := 0) (z := 0) (by rw [pk_un (by decide), h4]; rfl) (by rw [pk_un (by decide), h5]; rfl) (by omega)
    have hk : fb_ku h s = (e, h.2.1, f_X2_copyFrom h.2.2.1 s, h.2.2.2.1, h.2.2.2.2) := by
      unfold fb_ku f_X0_keepUp
      rw [h2, if_neg n1_neg.1]
      exact he
    rw [hk]
    rw [pk_us, h4] at e2
    rw [pk_un (by decide), h3] at e3
    refine ⟨Or.inr ⟨0, min 200 (0 + 1), e2, e4, e5, by omega, by omega, ?_, ?_, Or.inl e3⟩, 0, by omega, h5, e5⟩
    · exact Eq.trans (eq_copy _ s) hs
    · intro i hi hid
      have : i = 0 := by omega
      subst this
      exact hT
  · have hTT' : ∀ i, o ≤ i → i < d + 1 → fb_eq (T (i + 1)) (f_X2_advance (T i)).2 := by
      intro i hi hid
      by_cases e : i = d
      · subst e; exact hT
      · exact hTT i hi (by omega)
    have hp2 : (0 : Int32) ≤ h.1 2 := by rw [h2]; exact nI_pos' (by omega)
    rcases h3 with h3 | ⟨w, h3, hw, hwd, hsn⟩
    · have hn3 : ¬ (0 : Int32) ≤ h.1 3 := by rw [h3]; exact n1_neg.1
      by_cases hc : d - o < 200
      · obtain ⟨e, he, e2, e3, e4, e5⟩ := ku_131 h.1 h.2.1 h.2.2.1 h.2.2.2.1 h.2.2.2.2 s h4 h5 hz
        have hk : fb_ku h s = (e, h.2.1, h.2.2.1, h.2.2.2.1, h.2.2.2.2) := by
          unfold fb_ku f_X0_keepUp
          rw [if_pos hp2, if_neg hn3, if_pos (by rw [h4, h2, pk_sub (by omega)]; exact nI_lt (b := 200) hc (by decide))]
          unfold f_X0_keepUp_67
          rw [if_pos (by rw [h3]; exact n1_neg.2)]
          exact he
        rw [hk]
        exact ⟨Or.inr ⟨o, min 200 (z + 1), e2.trans h2, e4, e5, by omega, by omega, hso, hTT', Or.inl (e3.trans h3)⟩, z, hz, h5, e5⟩
      · obtain ⟨e, he, e2, e3, e4, e5⟩ := ku_131 (upd h.1 3 (h.1 4)) h.2.1 h.2.2.1 h.2.2.2.1 (f_X2_copyFrom h.2.2.2.2 s) s (D := d) (z := z) (by rw [pk_un (by decide), h4]) (by rw [pk_un (by decide), h5]) hz
        have hk : fb_ku h s = (e, h.2.1, h.2.2.1, h.2.2.2.1, f_X2_copyFrom h.2.2.2.2 s) := by
          unfold fb_ku f_X0_keepUp
          rw [if_pos hp2, if_neg hn3, if_neg (by rw [h4, h2, pk_sub (by omega)]; exact nI_nlt (b := 200) (by omega) (by omega))]
          exact he
        rw [hk]
        rw [pk_un (by decide), h2] at e2
        rw [pk_us, h4] at e3
        exact ⟨Or.inr ⟨o, min 200 (z + 1), e2, e4, e5, by omega, by omega, hso, hTT', Or.inr ⟨d, e3, by omega, by omega, Eq.trans (eq_copy _ s) hs⟩⟩, z, hz, h5, e5⟩
    · have hp3 : (0 : Int32) ≤ h.1 3 := by rw [h3]; exact nI_pos' (by omega)
      have hn3 : ¬ h.1 3 < (0 : Int32) := by rw [h3]; exact nI_pos (by omega)
      by_cases hc : d - w < 200
      · obtain ⟨e, he, e2, e3, e4, e5⟩ := ku_131 h.1 h.2.1 h.2.2.1 h.2.2.2.1 h.2.2.2.2 s h4 h5 hz
        have hk : fb_ku h s = (e, h.2.1, h.2.2.1, h.2.2.2.1, h.2.2.2.2) := by
          unfold fb_ku f_X0_keepUp
          rw [if_pos hp2, if_pos hp3]
          unfold f_X0_keepUp_67
          rw [if_neg hn3, if_pos (by rw [h4, h3, pk_sub (by omega)]; exact nI_lt (b := 200) hc (by decide))]
          exact he
        rw [hk]
        exact ⟨Or.inr ⟨o, min 200 (z + 1), e2.trans h2, e4, e5, by omega, by omega, hso, hTT', Or.inr ⟨w, e3.trans h3, hw, by omega, hsn⟩⟩, z, hz, h5, e5⟩
      · obtain ⟨e, he, e2, e3, e4, e5⟩ := ku_131 (upd (upd h.1 2 (h.1 3)) 3 ((upd h.1 2 (h.1 3)) 4)) h.2.2.2.1 h.2.2.2.2 h.2.1 (f_X2_copyFrom h.2.2.1 s) s (D := d) (z := z) (by rw [pk_un (by decide), pk_un (by decide), h4]) (by rw [pk_un (by decide), pk_un (by decide), h5]) hz
        have hk : fb_ku h s = (e, h.2.2.2.1, h.2.2.2.2, h.2.1, f_X2_copyFrom h.2.2.1 s) := by
          unfold fb_ku f_X0_keepUp
          rw [if_pos hp2, if_pos hp3]
          unfold f_X0_keepUp_67
          rw [if_neg hn3, if_neg (by rw [h4, h3, pk_sub (by omega)]; exact nI_nlt (b := 200) (by omega) (by omega))]
          exact he
        rw [hk]
        rw [pk_un (by decide), pk_us, h3] at e2
        rw [pk_us, pk_un (by decide), h4] at e3
        exact ⟨Or.inr ⟨w, min 200 (z + 1), e2, e4, e5, by omega, by omega, hsn, fun i hi hid => hTT' i (by omega) hid, Or.inr ⟨d, e3, by omega, by omega, Eq.trans (eq_copy _ s) hs⟩⟩, z, hz, h5, e5⟩
/-- a run of k steps -/
theorem hi_hk : ∀ (k d : Nat) (h : fb_HS) (s : fb_MS), fb_hi T d h → fb_eq s (T d) → d + k ≤ 1000000 → (∀ i, i < k → fb_eq (T (d + i + 1)) (f_X2_advance (T (d + i))).2) → fb_hi T (d + k) (fb_hk k h s) ∧ ∃ z : Nat, z ≤ 200 ∧ h.1 5 = nI z ∧ (fb_hk k h s).1 5 = nI (min 200 (z + k)) := by
  intro k
  induction k with
  | zero =>
    intro d h s H hs hd hT
    obtain ⟨z, hz, hz2, -⟩ := hi_size H
    exact ⟨H, z, hz2, hz, by rw [Nat.min_eq_right (by omega)]; exact hz⟩
  | succ k ih =>
    intro d h s H hs hd hT
    obtain ⟨H1, z, hz0, hz, hz1⟩ := hi_keep H hs (by omega) (hT 0 (by omega))
    have hs1 : fb_eq (f_X2_advance s).2 (T (d + 1)) := Eq.trans (eq_adv hs).2 (hT 0 (by omega)).symm
    obtain ⟨H2, z2, hz4, hz2, hz3⟩ := ih (d + 1) (fb_ku h s) (f_X2_advance s).2 H1 hs1 (by omega) (fun i hi => by
      have := hT (i + 1) (by omega)
      rw [show d + 1 + i + 1 = d + (i + 1) + 1 from by omega, show d + 1 + i = d + (i + 1) from by omega]
      exact this)
    have e2 : z2 = min 200 (z + 1) := (nI_eq (by omega) (by omega)).mp (hz2.symm.trans hz1)
    rw [show d + (k + 1) = d + 1 + k from by omega]
    refine ⟨H2, z, hz0, hz, ?_⟩
    show (fb_hk k (fb_ku h s) (f_X2_advance s).2).1 5 = nI (min 200 (z + (k + 1)))
    rw [hz3, e2]
    congr 1
    omega
theorem rw_109 {ze0 : fb_AR} {zso zsn : fb_MS} {l3 : Int32} {a : Nat} (ha : a < 1000000) : ∀ (n q : Nat) (s : fb_MS), q ≤ a → a - q < n → f_X0_rewind_109 n ze0 zso zsn s l3 (nI a) (nI q) = (l3, ze0, fb_it (a - q) s) := by
  intro n
  induction n with
  | zero => intro q s hq hn; omega
  | succ n ih =>
    intro q s hq hn
    unfold f_X0_rewind_109
    by_cases hc : a ≤ q
    · rw [if_pos (nI_le hc (by omega)), show a - q = 0 from by omega]
      rfl
    · rw [if_neg (nI_ge (a := q) (b := a) (by omega) (by omega)), ← nI_succ, ih (q + 1) _ (by omega) (by omega), show a - q = (a - (q + 1)) + 1 from by omega]
      rfl
theorem fb_mu0 {a : Nat} (ha : a < 2 ^ 31) : fb_mu (0 : Int32) (nI a) = a := by
  unfold fb_mu
  rw [nI_toInt ha, Int32.toInt_zero]
  omega
theorem hi_it {o : Nat} : ∀ (k : Nat), (∀ i, o ≤ i → i < o + k → fb_eq (T (i + 1)) (f_X2_advance (T i)).2) → fb_eq (fb_it k (T o)) (T (o + k)) := by
  intro k
  induction k with
  | zero => intro hT; exact rfl
  | succ k ih =>
    intro hT
    rw [it_s]
    exact Eq.trans (eq_adv (ih (fun i hi hk => hT i hi (by omega)))).2 (hT (o + k) (by omega) (by omega)).symm
/-- some steps back -/
theorem hi_back {z k : Nat} (H : fb_hi T d h) (h5 : h.1 5 = nI z) (hz : z ≤ 200) (hk : 1 ≤ k) (hkz : k ≤ z) (hd : d < 1000000) :
    ∃ (e : fb_AR) (s' : fb_MS), f_X0_rewind h.1 h.2.2.1 h.2.2.2.2 s (nI k) = (nI k, e, s') ∧ fb_hi T (d - k) (e, h.2.1, h.2.2.1, h.2.2.2.1, h.2.2.2.2) ∧ fb_eq s' (T (d - k)) := by
  rcases H with ⟨-, -, -, h50, -⟩ | ⟨o, z', h2, h4, h5', hz', hzo, hso, hT, h3⟩
  · have : z = 0 := (nI_eq (b := 0) (by omega) (by omega)).mp (h5.symm.trans h50)
    omega
  · have ez : z' = z := (nI_eq (by omega) (by omega)).mp (h5'.symm.trans h5)
    subst ez
    have e16 : f_X0_rewind h.1 h.2.2.1 h.2.2.2.2 s (nI k) = f_X0_rewind_16 h.1 h.2.2.1 h.2.2.2.2 s (nI k) := by
      unfold f_X0_rewind
      rw [h5]
      by_cases q : z' ≤ k
      · rw [if_pos (nI_le q (by omega)), show z' = k from by omega]
      · rw [if_neg (nI_ge (by omega) (by omega))]
    have g3 : upd (upd h.1 4 ((h.1 4) - nI k)) 5 ((upd h.1 4 ((h.1 4) - nI k) 5) - nI k) 3 = h.1 3 := by rw [pk_un (by decide), pk_un (by decide)]
    have g4 : upd (upd h.1 4 ((h.1 4) - nI k)) 5 ((upd h.1 4 ((h.1 4) - nI k) 5) - nI k) 4 = nI (d - k) := by rw [pk_un (by decide), pk_us, h4, pk_sub (by omega)]
    have g5 : upd (upd h.1 4 ((h.1 4) - nI k)) 5 ((upd h.1 4 ((h.1 4) - nI k) 5) - nI k) 5 = nI (z' - k) := by rw [pk_us, pk_un (by decide), h5, pk_sub (by omega)]
    have g2 : upd (upd h.1 4 ((h.1 4) - nI k)) 5 ((upd h.1 4 ((h.1 4) - nI k) 5) - nI k) 2 = nI o := by rw [pk_un (by decide), pk_un (by decide), h2]
    rw [e16]
    unfold f_X0_rewind_16
    rw [if_neg (nI_ne0 (by omega) (by omega)), g3, g4]
    have hTk : ∀ i, o ≤ i → i < d - k → fb_eq (T (i + 1)) (f_X2_advance (T i)).2 := fun i hi hid => hT i hi (by omega)
    have far : ∀ e : fb_AR, e 2 = nI o → e 3 = -1 → e 4 = nI (d - k) → e 5 = nI (z' - k) → ∃ (e' : fb_AR) (s' : fb_MS), f_X0_rewind_59 e h.2.2.1 h.2.2.2.2 s (nI k) = (nI k, e', s') ∧ fb_hi T (d - k) (e', h.2.1, h.2.2.1, h.2.2.2.1, h.2.2.2.2) ∧ fb_eq s' (T (d - k)) := by
      intro e e2 e3 e4 e5
      unfold f_X0_rewind_59
      rw [e3, if_pos n1_neg.2, e4, e2, pk_sub (by omega), fb_mu0 (by omega), show (0 : Int32) = nI 0 from rfl, rw_109 (by omega) _ 0 _ (by omega) (by omega)]
      refine ⟨e, _, rfl, Or.inr ⟨o, z' - k, e2, e4, e5, by omega, by omega, hso, hTk, Or.inl e3⟩, ?_⟩
      have a1 : fb_eq (f_X2_copyFrom s h.2.2.1) (T o) := Eq.trans (eq_copy s h.2.2.1) hso
      have a2 := hi_it (o := o) (d - k - o) (T := T) (fun i hi hid => hTk i hi (by omega))
      rw [show o + (d - k - o) = d - k from by omega] at a2
      exact Eq.trans (it_eq (d - k - o - 0) a1) a2
    rcases h3 with h3 | ⟨w, h3, hw, hwd, hsn⟩
    · by_cases q : h.1 3 ≤ nI (d - k)
      · rw [if_pos q]
        exact far _ g2 (g3.trans h3) g4 g5
      · rw [if_neg q]
        exact far _ (by rw [pk_un (by decide)]; exact g2) pk_us (by rw [pk_un (by decide)]; exact g4) (by rw [pk_un (by decide)]; exact g5)
    · by_cases q : w ≤ d - k
      · rw [h3, if_pos (nI_le q (by omega))]
        unfold f_X0_rewind_59
        rw [g3, h3, if_neg (nI_pos (by omega)), g4, pk_sub (by omega), fb_mu0 (by omega), show (0 : Int32) = nI 0 from rfl, rw_109 (by omega) _ 0 _ (by omega) (by omega)]
        refine ⟨_, _, rfl, Or.inr ⟨o, z' - k, g2, g4, g5, by omega, by omega, hso, hTk, Or.inr ⟨w, g3.trans h3, hw, by omega, hsn⟩⟩, ?_⟩
        have a1 : fb_eq (f_X2_copyFrom s h.2.2.2.2) (T w) := Eq.trans (eq_copy s h.2.2.2.2) hsn
        have a2 := hi_it (o := w) (d - k - w) (T := T) (fun i hi hid => hTk i (by omega) (by omega))
        rw [show w + (d - k - w) = d - k from by omega] at a2
        exact Eq.trans (it_eq (d - k - w - 0) a1) a2
      · rw [h3, if_neg (nI_ge (by omega) (by omega))]
        exact far _ (by rw [pk_un (by decide)]; exact g2) pk_us (by rw [pk_un (by decide)]; exact g4) (by rw [pk_un (by decide)]; exact g5)
end HI
