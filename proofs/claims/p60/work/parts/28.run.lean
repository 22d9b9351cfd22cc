/-! runs: what all the loops of steps have in common -/
theorem fb_nmnm (s : fb_MS) : fb_nm (fb_nm s) = fb_nm s := by
  unfold fb_nm fb_pc fb_sR fb_sP fb_pR
  simp only
  rw [fb_uc (upd s.1 14 (0 : Int32)) (k := 14) (q := 15) (by decide), fb_uu, fb_uu, fb_uu]
theorem iv_nm {b tl n el m : Nat} {c ic : Int32} {zs : fb_MS} (h : fb_inv b tl n el m c ic zs) : fb_inv b 0 0 0 0 c ic (fb_nm zs) := by
  have z0 : fb_bt 0 0 (0 : Int32) := ⟨0, Nat.le_refl 0, Nat.le_refl 0, rfl⟩
  exact iv_15 (iv_14 (iv_P h (pi_R 13 (by decide) h.2.2.1 (fr_lit 0 (by decide)))) z0) z0
def fb_ok (K : Nat) (s : fb_MS) : Prop := ∃ b cc ii : Nat, b ≤ K ∧ ii ≤ cc ∧ cc ≤ 600 * K ∧ fb_inv b 0 0 0 0 (nI cc) (nI ii) (fb_nm s)
theorem ok_eq {K : Nat} {s t : fb_MS} (h : fb_ok K s) (e : fb_eq s t) : fb_ok K t := by
  unfold fb_ok at h ⊢
  rw [← show fb_nm s = fb_nm t from e]
  exact h
theorem ok_w {K K' : Nat} {s : fb_MS} (h : fb_ok K s) (hk : K ≤ K') : fb_ok K' s := by
  obtain ⟨b, cc, ii, h1, h2, h3, h4⟩ := h
  exact ⟨b, cc, ii, by omega, h2, by omega, h4⟩
theorem ok_adv {K : Nat} {s : fb_MS} (h : fb_ok K s) (hK : K < 1000000) (he : f_X2_endReason s = 0) : ∃ t, 1 ≤ t ∧ t ≤ 600 ∧ (f_X2_advance s).1 = nI t ∧ fb_ok (K + 1) (f_X2_advance s).2 := by
  obtain ⟨b, cc, ii, h1, h2, h3, h4⟩ := h
  have e : fb_eq s (fb_nm s) := (fb_nmnm s).symm
  obtain ⟨a1, a2⟩ := eq_adv e
  obtain ⟨t, ic', t1, t2, hi, ht, hv⟩ := iv_adv h4 (by omega) (N := 2147483648) ⟨cc, by omega, rfl⟩ (Nat.le_refl _) ((eq_end e).symm.trans he)
  refine ⟨t, t1, t2, a1.trans ht, ?_⟩
  rw [nI_add] at hv
  have hn := iv_nm hv
  rw [← show fb_nm (f_X2_advance s).2 = fb_nm (f_X2_advance (fb_nm s)).2 from a2] at hn
  rcases hi with q | q
  · rw [q] at hn
    exact ⟨b + 1, cc + t, ii, by omega, by omega, by omega, hn⟩
  · rw [q, ← nI_succ] at hn
    exact ⟨b + 1, cc + t, ii + 1, by omega, by omega, by omega, hn⟩
def fb_it : Nat → fb_MS → fb_MS
  | 0, s => s
  | k + 1, s => fb_it k (f_X2_advance s).2
theorem it_eq : ∀ (k : Nat) {s t : fb_MS}, fb_eq s t → fb_eq (fb_it k s) (fb_it k t) := by
  intro k
  induction k with
  | zero => intro s t h; exact h
  | succ k ih => intro s t h; exact ih (eq_adv h).2
theorem it_s : ∀ (k : Nat) (s : fb_MS), fb_it (k + 1) s = (f_X2_advance (fb_it k s)).2 := by
  intro k
  induction k with
  | zero => intro s; rfl
  | succ k ih => intro s; exact ih (f_X2_advance s).2
def fb_rn (M : Nat) : Nat → Nat → fb_MS → Nat × Nat × fb_MS
  | 0, j, s => (0, j, s)
  | f + 1, j, s => if j < M ∧ f_X2_endReason s = 0 then ((fb_rn M f (j + (f_X2_advance s).1.toNatClampNeg) (f_X2_advance s).2).1 + 1, (fb_rn M f (j + (f_X2_advance s).1.toNatClampNeg) (f_X2_advance s).2).2) else (0, j, s)
theorem lim_no {q : Nat} (h : q < 1000000) : ¬ (1000000 : Int32) ≤ nI q := nI_ge (b := 1000000) h (by decide)
section RN
variable {M : Nat}
theorem rn_go {f j : Nat} {s : fb_MS} (h : j < M ∧ f_X2_endReason s = 0) : fb_rn M (f + 1) j s = ((fb_rn M f (j + (f_X2_advance s).1.toNatClampNeg) (f_X2_advance s).2).1 + 1, (fb_rn M f (j + (f_X2_advance s).1.toNatClampNeg) (f_X2_advance s).2).2) := by
  show (if j < M ∧ f_X2_endReason s = 0 then _ else _) = _
  rw [if_pos h]
theorem rn_no {f j : Nat} {s : fb_MS} (h : ¬ (j < M ∧ f_X2_endReason s = 0)) : fb_rn M f j s = (0, j, s) := by
  cases f with
  | zero => rfl
  | succ f =>
    show (if j < M ∧ f_X2_endReason s = 0 then _ else _) = _
    rw [if_neg h]
theorem rn_eq : ∀ (f j : Nat) {s t : fb_MS}, fb_eq s t → (fb_rn M f j s).1 = (fb_rn M f j t).1 ∧ (fb_rn M f j s).2.1 = (fb_rn M f j t).2.1 ∧ fb_eq (fb_rn M f j s).2.2 (fb_rn M f j t).2.2 := by
  intro f
  induction f with
  | zero => intro j s t h; exact ⟨rfl, rfl, h⟩
  | succ f ih =>
    intro j s t h
    by_cases hc : j < M ∧ f_X2_endReason s = 0
    · have hc2 : j < M ∧ f_X2_endReason t = 0 := ⟨hc.1, (eq_end h).symm.trans hc.2⟩
      obtain ⟨e1, e2⟩ := eq_adv h
      rw [rn_go hc, rn_go hc2, ← e1]
      obtain ⟨a, b2, c⟩ := ih (j + (f_X2_advance s).1.toNatClampNeg) e2
      exact ⟨congrArg (· + 1) a, b2, c⟩
    · have hc2 : ¬ (j < M ∧ f_X2_endReason t = 0) := fun q => hc ⟨q.1, (eq_end h).trans q.2⟩
      rw [rn_no hc, rn_no hc2]
      exact ⟨rfl, rfl, h⟩
theorem rn_it : ∀ (f j : Nat) (s : fb_MS), (fb_rn M f j s).2.2 = fb_it (fb_rn M f j s).1 s := by
  intro f
  induction f with
  | zero => intro j s; rfl
  | succ f ih =>
    intro j s
    by_cases hc : j < M ∧ f_X2_endReason s = 0
    · rw [rn_go hc]; exact ih _ _
    · rw [rn_no hc]; rfl
theorem rn_st : ∀ (f j : Nat) (s : fb_MS), (fb_rn M f j s).1 ≤ f := by
  intro f
  induction f with
  | zero => intro j s; exact Nat.le_refl 0
  | succ f ih =>
    intro j s
    by_cases hc : j < M ∧ f_X2_endReason s = 0
    · rw [rn_go hc]; exact Nat.succ_le_succ (ih _ _)
    · rw [rn_no hc]; exact Nat.zero_le _
/-- a run's end: no more to do; the machine keeps its bounds; it took few cycles -/
theorem rn_ok : ∀ (f j K : Nat) (s : fb_MS), fb_ok K s → K + f ≤ 1000000 → fb_ok (K + f) (fb_rn M f j s).2.2 ∧ (j ≤ M + 600 → (fb_rn M f j s).2.1 ≤ M + 600) ∧ (M ≤ j + f → ¬ ((fb_rn M f j s).2.1 < M ∧ f_X2_endReason (fb_rn M f j s).2.2 = 0)) := by
  intro f
  induction f with
  | zero => intro j K s h hK; exact ⟨h, fun q => q, fun q r => by have := r.1; simp only [fb_rn] at this; omega⟩
  | succ f ih =>
    intro j K s h hK
    by_cases hc : j < M ∧ f_X2_endReason s = 0
    · obtain ⟨t, t1, t2, et, h1⟩ := ok_adv h (by omega) hc.2
      rw [rn_go hc]
      have e : (f_X2_advance s).1.toNatClampNeg = t := by rw [et, nI_clamp (by omega)]
      rw [e]
      obtain ⟨a, b1, b2⟩ := ih (j + t) (K + 1) _ h1 (by omega)
      exact ⟨ok_w a (by omega), fun _ => b1 (by have := hc.1; omega), fun _ => b2 (by omega)⟩
    · rw [rn_no hc]
      exact ⟨ok_w h (by omega), fun q => q, fun _ => hc⟩
def fb_rs (M j : Nat) (s : fb_MS) : Int32 := if f_X2_endReason s = 0 then (if M ≤ j then (1 : Int32) else 0) else f_X2_endReason s
theorem rs_0 {j : Nat} {s : fb_MS} : fb_rs M j s = 0 ↔ (j < M ∧ f_X2_endReason s = 0) := by
  unfold fb_rs
  by_cases h : f_X2_endReason s = 0
  · rw [if_pos h]
    by_cases h2 : M ≤ j
    · rw [if_pos h2]
      exact ⟨fun q => absurd q (by decide), fun q => by omega⟩
    · rw [if_neg h2]
      exact ⟨fun _ => ⟨by omega, h⟩, fun _ => rfl⟩
  · rw [if_neg h]
    exact ⟨fun q => absurd q h, fun q => absurd q.2 h⟩
theorem rn_cth {zs : fb_MS} (hM : M ≤ 5000) : ∀ (f n j q K : Nat) (s : fb_MS), fb_ok K s → K + f ≤ 1000000 → M ≤ j + f → j ≤ M + 600 → f < n → q + f < 1000000 → f_X11_cyclesToHalt_32 n zs s (nI M) (nI j) (nI q) = (if f_X2_endReason (fb_rn M f j s).2.2 = 0 then (-1 : Int32) else nI (fb_rn M f j s).2.1) := by
  intro f
  induction f with
  | zero =>
    intro n j q K s h hK hj hj2 hn hq
    obtain ⟨n, rfl⟩ : ∃ n', n = n' + 1 := ⟨n - 1, by omega⟩
    unfold f_X11_cyclesToHalt_32
    rw [if_neg (lim_no (q := q) (by omega)), if_pos (nI_le (by omega) (by omega))]
    rfl
  | succ f ih =>
    intro n j q K s h hK hj hj2 hn hq
    obtain ⟨n, rfl⟩ : ∃ n', n = n' + 1 := ⟨n - 1, by omega⟩
    unfold f_X11_cyclesToHalt_32
    rw [if_neg (lim_no (q := q) (by omega))]
    by_cases hc : j < M ∧ f_X2_endReason s = 0
    · obtain ⟨t, t1, t2, et, h1⟩ := ok_adv h (by omega) hc.2
      rw [if_neg (nI_ge hc.1 (by omega)), if_pos hc.2, rn_go hc, et, nI_clamp (by omega), nI_add, ← nI_succ]
      exact ih n (j + t) (q + 1) (K + 1) _ h1 (by omega) (by omega) (by have := hc.1; omega) (by omega) (by omega)
    · rw [rn_no hc]
      by_cases hjm : j < M
      · rw [if_neg (nI_ge hjm (by omega)), if_neg (fun e => hc ⟨hjm, e⟩)]
        exact (if_neg (fun e => hc ⟨hjm, e⟩)).symm
      · rw [if_pos (nI_le (by omega) (by omega))]
theorem rn_out {zs : fb_MS} (hM : M ≤ 5000) : ∀ (f n j q K : Nat) (s : fb_MS), fb_ok K s → K + f ≤ 1000000 → M ≤ j + f → j ≤ M + 600 → f < n → q + f < 1000000 → f_X11_outputsIn_32 n zs s (nI M) (nI j) (nI q) = ((fb_rn M f j s).2.2.2.2.2.2.2.1 6 - zs.2.2.2.2.2.1 6) := by
  intro f
  induction f with
  | zero =>
    intro n j q K s h hK hj hj2 hn hq
    obtain ⟨n, rfl⟩ : ∃ n', n = n' + 1 := ⟨n - 1, by omega⟩
    unfold f_X11_outputsIn_32
    rw [if_neg (lim_no (q := q) (by omega)), if_pos (nI_le (by omega) (by omega))]
    rfl
  | succ f ih =>
    intro n j q K s h hK hj hj2 hn hq
    obtain ⟨n, rfl⟩ : ∃ n', n = n' + 1 := ⟨n - 1, by omega⟩
    unfold f_X11_outputsIn_32
    rw [if_neg (lim_no (q := q) (by omega))]
    by_cases hc : j < M ∧ f_X2_endReason s = 0
    · obtain ⟨t, t1, t2, et, h1⟩ := ok_adv h (by omega) hc.2
      rw [if_neg (nI_ge hc.1 (by omega)), if_pos hc.2, rn_go hc, et, nI_clamp (by omega), nI_add, ← nI_succ]
      exact ih n (j + t) (q + 1) (K + 1) _ h1 (by omega) (by omega) (by have := hc.1; omega) (by omega) (by omega)
    · rw [rn_no hc]
      by_cases hjm : j < M
      · rw [if_neg (nI_ge hjm (by omega)), if_neg (fun e => hc ⟨hjm, e⟩)]
      · rw [if_pos (nI_le (by omega) (by omega))]
/-- the history beside a run -/
abbrev fb_HS : Type := fb_AR × (Nat → Nat) × fb_MS × (Nat → Nat) × fb_MS
def fb_ku (h : fb_HS) (s : fb_MS) : fb_HS := f_X0_keepUp h.1 h.2.1 h.2.2.1 h.2.2.2.1 h.2.2.2.2 s
def fb_hk : Nat → fb_HS → fb_MS → fb_HS
  | 0, h, _ => h
  | k + 1, h, s => fb_hk k (fb_ku h s) (f_X2_advance s).2
theorem ok_13 {K : Nat} {s : fb_MS} (h : fb_ok K s) : (-1 : Int32) < s.1 13 := by
  obtain ⟨b, cc, ii, h1, h2, h3, h4⟩ := h
  have h5 : fb_rg ((fb_nm s).1 13) 41 := h4.1 13
  rw [nm_g s (by decide) (by decide)] at h5
  obtain ⟨j, hj, e⟩ := h5
  rw [e, Int32.lt_iff_toInt_lt, nI_toInt (by omega), show (-1 : Int32).toInt = -1 from rfl]
  omega
theorem rn_reason {K : Nat} {s : fb_MS} (h : fb_ok K s) (ze7 : fb_AR) (j : Nat) : f_X11_reasonToStop s ze7 (if M ≤ j then (1 : Int32) else 0) (-1) = fb_rs M j s := by
  unfold f_X11_reasonToStop fb_rs
  rw [if_pos (ok_13 h)]
  by_cases he : f_X2_endReason s = 0
  · rw [if_pos he, if_pos he]
    by_cases hj : M ≤ j
    · rw [if_pos hj, if_neg (by decide)]
    · rw [if_neg hj, if_pos rfl]
      split <;> rfl
  · rw [if_neg he, if_neg he]
theorem rn_goOn {ze7 : fb_AR} (hM : M ≤ 5000) : ∀ (f n j q K : Nat) (h : fb_HS) (s : fb_MS), fb_ok K s → K + f ≤ 1000000 → M ≤ j + f → j ≤ M + 600 → f < n → q + f < 1000000 → f_X11_goOn_14 n h.1 h.2.1 h.2.2.1 h.2.2.2.1 h.2.2.2.2 s ze7 (nI M) (-1) (nI j) (fb_rs M j s) (nI q) = (nI (fb_rn M f j s).2.1, (fb_hk (fb_rn M f j s).1 h s).1, (fb_hk (fb_rn M f j s).1 h s).2.1, (fb_hk (fb_rn M f j s).1 h s).2.2.1, (fb_hk (fb_rn M f j s).1 h s).2.2.2.1, (fb_hk (fb_rn M f j s).1 h s).2.2.2.2, (fb_rn M f j s).2.2, upd ze7 7 (fb_rs M (fb_rn M f j s).2.1 (fb_rn M f j s).2.2)) := by
  intro f
  induction f with
  | zero =>
    intro n j q K h s hs hK hj hj2 hn hq
    obtain ⟨n, rfl⟩ : ∃ n', n = n' + 1 := ⟨n - 1, by omega⟩
    unfold f_X11_goOn_14
    rw [if_neg (lim_no (q := q) (by omega)), if_neg (fun e => by have := (rs_0.mp e).1; omega)]
    rfl
  | succ f ih =>
    intro n j q K h s hs hK hj hj2 hn hq
    obtain ⟨n, rfl⟩ : ∃ n', n = n' + 1 := ⟨n - 1, by omega⟩
    unfold f_X11_goOn_14
    rw [if_neg (lim_no (q := q) (by omega))]
    by_cases hc : j < M ∧ f_X2_endReason s = 0
    · obtain ⟨t, t1, t2, et, h1⟩ := ok_adv hs (by omega) hc.2
      have e0 := ih n (j + t) (q + 1) (K + 1) (fb_ku h s) _ h1 (by omega) (by omega) (by have := hc.1; omega) (by omega) (by omega)
      rw [if_pos (rs_0.mpr hc), rn_go hc, et, nI_clamp (by omega), nI_add, ← nI_succ]
      by_cases hl : j + t < M
      · rw [if_pos (nI_lt hl (by omega))]
        have er := rn_reason (M := M) h1 ze7 (j + t)
        rw [if_neg (by omega)] at er
        rw [er]
        exact e0
      · rw [if_neg (nI_nlt (by omega) (by omega))]
        have er := rn_reason (M := M) h1 ze7 (j + t)
        rw [if_pos (by omega)] at er
        rw [er]
        exact e0
    · rw [if_neg (fun e => hc (rs_0.mp e)), rn_no hc]
      rfl
end RN
