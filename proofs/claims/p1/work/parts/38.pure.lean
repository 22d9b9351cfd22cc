/-! a machine over a memory of zeros: its steps, its answers -/
/-- the machine behind k steps over zeros -/
abbrev fb_np (k : Nat) (s : fb_MS) : Prop := (s.2.1 = fun _ => 0) ∧ s.1 10 = 0 ∧ s.1 9 = nI (k % 4096) ∧ s.1 11 = nI k ∧ s.1 12 = nI k ∧ s.1 13 = 0 ∧ s.2.2.2.2.1 = false ∧ s.2.2.2.2.2.1 2 = 0 ∧ s.2.2.2.2.2.1 3 = 0 ∧ s.2.2.2.2.2.1 6 = 0 ∧ s.2.2.2.2.2.1 9 = 0
theorem fb_np.mem {k : Nat} {s : fb_MS} (h : fb_np k s) : s.2.1 = fun _ => 0 := h.1
theorem fb_np.st {k : Nat} {s : fb_MS} (h : fb_np k s) : s.1 10 = 0 := h.2.1
theorem fb_np.pc {k : Nat} {s : fb_MS} (h : fb_np k s) : s.1 9 = nI (k % 4096) := h.2.2.1
theorem fb_np.cy {k : Nat} {s : fb_MS} (h : fb_np k s) : s.1 11 = nI k := h.2.2.2.1
theorem fb_np.ic {k : Nat} {s : fb_MS} (h : fb_np k s) : s.1 12 = nI k := h.2.2.2.2.1
theorem fb_np.cc {k : Nat} {s : fb_MS} (h : fb_np k s) : s.1 13 = 0 := h.2.2.2.2.2.1
theorem fb_np.nm {k : Nat} {s : fb_MS} (h : fb_np k s) : s.2.2.2.2.1 = false := h.2.2.2.2.2.2.1
theorem fb_np.p2 {k : Nat} {s : fb_MS} (h : fb_np k s) : s.2.2.2.2.2.1 2 = 0 := h.2.2.2.2.2.2.2.1
theorem fb_np.p3 {k : Nat} {s : fb_MS} (h : fb_np k s) : s.2.2.2.2.2.1 3 = 0 := h.2.2.2.2.2.2.2.2.1
theorem fb_np.p6 {k : Nat} {s : fb_MS} (h : fb_np k s) : s.2.2.2.2.2.1 6 = 0 := h.2.2.2.2.2.2.2.2.2.1
theorem fb_np.p9 {k : Nat} {s : fb_MS} (h : fb_np k s) : s.2.2.2.2.2.1 9 = 0 := h.2.2.2.2.2.2.2.2.2.2
theorem np_start : fb_np 0 (f_X2_restart fb_m0) := ⟨rfl, rfl, by decide, rfl, rfl, rfl, rfl, rfl, rfl, rfl, rfl⟩
theorem np_sR {k : Nat} {s : fb_MS} (h : fb_np k s) (j : Nat) (v : Int32) (hj : j = 14 ∨ j = 15) : fb_np k (fb_sR s j v) := by
  refine ⟨h.mem, ?_, ?_, ?_, ?_, ?_, h.nm, h.p2, h.p3, h.p6, h.p9⟩
  · exact (pk_un (by omega)).trans h.st
  · exact (pk_un (by omega)).trans h.pc
  · exact (pk_un (by omega)).trans h.cy
  · exact (pk_un (by omega)).trans h.ic
  · exact (pk_un (by omega)).trans h.cc
theorem np_s10 {k : Nat} {s : fb_MS} (h : fb_np k s) : fb_np k (fb_sR s 10 0) := ⟨h.mem, rfl, h.pc, h.cy, h.ic, h.cc, h.nm, h.p2, h.p3, h.p6, h.p9⟩
theorem at_zero (N : Nat) (i : Int32) : f_X11_at N (fun _ => 0) i = 0 := by
  unfold f_X11_at
  by_cases h1 : i < 0
  · rw [if_pos h1]
  · rw [if_neg h1]
    by_cases h2 : nI N ≤ i
    · rw [if_pos h2]
    · rw [if_neg h2]
theorem np_shown {k : Nat} {s : fb_MS} (h : fb_np k s) (x : Int32) : f_X2_shown s x = 0 := by
  unfold f_X2_shown
  rw [h.mem]
  exact at_zero _ _
theorem np_end {k : Nat} {s : fb_MS} (h : fb_np k s) : f_X2_endReason s = 0 := by
  unfold f_X2_endReason
  rw [h.st, if_neg (by decide), if_neg (by decide)]
theorem np_want {k : Nat} {s : fb_MS} (h : fb_np k s) : f_X5_wanting s.2.2.2.2.2 = 0 := by
  unfold f_X5_wanting
  rw [h.p3]
  exact Int32.and_zero
theorem np_pass {π : fb_PS} (h : π.1 9 = 0) : f_X5_pass π 1 = π := by
  unfold f_X5_pass
  rw [f_X5_pass_2]
  rw [if_neg (by decide), h, if_pos (by decide)]
theorem np_232 {c : fb_MS} (h : c.2.2.2.2.2.1 13 = 0) : f_X2_carryOut_232 c = c := by
  unfold f_X2_carryOut_232
  rw [h, if_pos (by decide)]
theorem np_len : f_X11_lengthOf (0 : Int32) = 1 := by decide
theorem np_pcs (k : Nat) : (nI (k % 4096) + 1) &&& (4095 : Int32) = nI ((k + 1) % 4096) := by
  have e : nI (k % 4096) + 1 = nI (k % 4096 + 1) := nI_add _ 1
  rw [e]
  exact fr_pc k
set_option maxRecDepth 100000 in
set_option maxHeartbeats 4000000 in
theorem np_carry {k : Nat} {s : fb_MS} (h : fb_np k s) (h14 : s.1 14 = 0) : ∃ c : fb_MS, f_X2_carryOut s = c ∧ c.1 14 = 0 ∧ c.1 15 = 1 ∧ c.2.1 = (fun _ => 0) ∧ c.1 10 = 0 ∧ c.1 9 = nI ((k + 1) % 4096) ∧ c.1 11 = nI k ∧ c.1 12 = nI (k + 1) ∧ c.1 13 = 0 ∧ c.2.2.2.2.1 = false ∧ c.2.2.2.2.2.1 2 = 0 ∧ c.2.2.2.2.2.1 3 = 0 ∧ c.2.2.2.2.2.1 6 = 0 ∧ c.2.2.2.2.2.1 9 = 0 := by
  refine ⟨_, rfl, ?_⟩
  unfold f_X2_carryOut
  rw [np_shown h, np_len, if_neg (show ¬ (1 : Int32) = 0 by decide), if_pos (show (0 : Int32) >>> ((3 : Int32) &&& 31) = 0 by decide)]
  unfold f_X2_control
  rw [if_neg (show ¬ (0 : Int32) = 1 by decide), if_neg (show ¬ (0 : Int32) = 2 by decide), if_neg (show ¬ (0 : Int32) = 3 by decide), if_neg (show ¬ (0 : Int32) = 4 by decide), if_neg (show ¬ (0 : Int32) = 5 by decide), if_neg (show ¬ (0 : Int32) = 6 by decide), if_neg (show ¬ (0 : Int32) = 7 by decide)]
  rw [np_232 rfl]
  refine ⟨?_, ?_, h.mem, ?_, ?_, ?_, ?_, ?_, h.nm, ?_, ?_, ?_, ?_⟩
  · exact h14
  · rfl
  · exact h.st
  · show (s.1 9 + 1) &&& (4095 : Int32) = _
    rw [h.pc]; exact np_pcs k
  · exact h.cy
  · show s.1 12 + 1 = _
    rw [h.ic]; exact nI_add _ 1
  · exact h.cc
  · exact h.p2
  · exact h.p3
  · exact h.p6
  · exact h.p9
set_option maxRecDepth 100000 in
set_option maxHeartbeats 4000000 in
theorem np_step {k : Nat} {s : fb_MS} (h : fb_np k s) : (f_X2_advance s).1 = 1 ∧ fb_np (k + 1) (f_X2_advance s).2 ∧ (f_X2_advance s).2.1 14 = 0 := by
  have h1 : fb_np k (fb_sR (fb_sR s 14 (0 : Int32)) 15 (0 : Int32)) := np_sR (np_sR h 14 0 (Or.inl rfl)) 15 0 (Or.inr rfl)
  unfold f_X2_advance
  rw [if_pos (np_end h1), if_pos (show fb_bI (fb_sR (fb_sR s 14 (0 : Int32)) 15 (0 : Int32)).2.2.2.2.1 = 0 by rw [h1.nm]; rfl), if_pos (np_want h1)]
  unfold f_X2_advance_76
  rw [h1.st, if_neg (by decide)]
  unfold f_X2_advance_96
  obtain ⟨c, e, c14, c15, cm, c10, c9, c11, c12, c13, cb, q2, q3, q6, q9⟩ := np_carry (np_s10 h1) rfl
  rw [e]
  unfold f_X2_advance_105
  have e1 : c.1 14 + c.1 15 = 1 := by rw [c14, c15]; rfl
  rw [e1]
  have e2 : f_X5_pass (fb_sR c 11 (c.1 11 + 1)).2.2.2.2.2 1 = c.2.2.2.2.2 := np_pass q9
  rw [e2]
  refine ⟨rfl, ⟨cm, ?_, ?_, ?_, ?_, ?_, cb, q2, q3, q6, q9⟩, ?_⟩
  · exact c10
  · exact c9
  · show c.1 11 + 1 = _
    rw [c11]; exact nI_add _ 1
  · exact c12
  · exact c13
  · exact c14
theorem np_copy {k : Nat} {s : fb_MS} (h : fb_np k s) (t : fb_MS) : fb_np k (f_X2_copyFrom t s) := ⟨h.mem, h.st, h.pc, h.cy, h.ic, h.cc, h.nm, h.p2, h.p3, h.p6, h.p9⟩
theorem np_ready {k : Nat} {s : fb_MS} (h : fb_np k s) : f_X2_isReady s = 1 := by
  unfold f_X2_isReady
  rw [if_pos h.st, if_pos (show fb_bI s.2.2.2.2.1 = 0 by rw [h.nm]; rfl), if_pos (np_want h)]
  split <;> rfl
theorem np_readyAt {k : Nat} {s : fb_MS} (h : fb_np k s) (a : Int32) : f_X2_isReadyAt s a = if nI (k % 4096) = a then 1 else 0 := by
  unfold f_X2_isReadyAt
  rw [h.pc, np_ready h]
  rfl
theorem np_lim {q : Nat} (h : q < 1000000) : ¬ (1000000 : Int32) ≤ nI q := nI_ge (b := 1000000) h (by decide)
theorem np_reason {k : Nat} {s : fb_MS} (h : fb_np k s) (ze7 : fb_AR) (b : Bool) : f_X11_reasonToStop s ze7 (fb_bI b) (-1) = fb_bI b := by
  unfold f_X11_reasonToStop
  rw [if_pos (np_end h), h.cc, if_pos (show (-1 : Int32) < 0 by decide)]
  cases b
  · rw [if_pos (show fb_bI false = 0 from rfl)]
    split <;> rfl
  · rw [if_neg (show ¬ fb_bI true = 0 by decide)]; rfl
theorem np_nI1 (j : Nat) : nI j + 1 = nI (j + 1) := nI_add _ 1
theorem np_goOn {M : Nat} (hM : M ≤ 5000) : ∀ (f n j : Nat) (ze0 : fb_AR) (zo : Nat → Nat) (zso : fb_MS) (zn : Nat → Nat) (zsn s : fb_MS) (ze7 : fb_AR), fb_np j s → j + (f + 1) = M → f + 1 < n → (f_X11_goOn_14 n ze0 zo zso zn zsn s ze7 (nI M) (-1) (nI j) 0 (nI j)).1 = nI M := by
  intro f
  induction f with
  | zero =>
    intro n j ze0 zo zso zn zsn s ze7 h hj hn
    obtain ⟨n, rfl⟩ : ∃ q, n = q + 2 := ⟨n - 2, by omega⟩
    obtain ⟨e1, h', -⟩ := np_step h
    rw [f_X11_goOn_14]
    rw [if_neg (np_lim (by omega)), if_pos rfl, e1, np_nI1, if_neg (nI_nlt (a := j + 1) (b := M) (by omega) (by omega))]
    have e9 : f_X11_reasonToStop (f_X2_advance s).2 ze7 (1 : Int32) (-1) = 1 := np_reason h' ze7 true
    rw [e9]
    rw [f_X11_goOn_14]
    rw [if_neg (np_lim (by omega)), if_neg (show ¬ (1 : Int32) = 0 by decide)]
    show nI (j + 1) = nI M
    rw [show j + 1 = M by omega]
  | succ f ih =>
    intro n j ze0 zo zso zn zsn s ze7 h hj hn
    obtain ⟨n, rfl⟩ : ∃ q, n = q + 1 := ⟨n - 1, by omega⟩
    obtain ⟨e1, h', -⟩ := np_step h
    rw [f_X11_goOn_14]
    rw [if_neg (np_lim (by omega)), if_pos rfl, e1, np_nI1, if_pos (nI_lt (a := j + 1) (b := M) (by omega) (by omega))]
    have e9 : f_X11_reasonToStop (f_X2_advance s).2 ze7 (0 : Int32) (-1) = 0 := np_reason h' ze7 false
    rw [e9]
    exact ih n (j + 1) _ _ _ _ _ _ _ h' (by omega) (by omega)
theorem fb_mu6 : fb_mu (0 : Int32) (1000000 : Int32) = 1000000 := by decide
/-- the board's machine, when it is made -/
def fb_s0 : fb_MS := f_X2_restart fb_m0
theorem np_0 : fb_np 0 fb_s0 := np_start
theorem a_run (zo zn : Nat → Nat) (zso zsn : fb_MS) (ze0 ze7 : fb_AR) {N : Nat} (hN : N < 5000) : (f_X11_run ze0 zo zso zn zsn fb_s0 ze7 (nI (N + 1))).1 = nI (N + 1) := by
  show (f_X11_goOn ze0 zo zso zn zsn fb_s0 ze7 (nI (N + 1)) (-1)).1 = _
  unfold f_X11_goOn
  rw [fb_mu6, np_end np_0]
  exact np_goOn (M := N + 1) (by omega) N _ 0 _ _ _ _ _ _ _ np_0 (by omega) (by omega)
theorem np_so {M : Nat} (e : (5000 : Int32) = nI M) (h1 : 1 ≤ M) (hM : M ≤ 5000) (zo zn : Nat → Nat) (zso zsn : fb_MS) (ze0 ze7 : fb_AR) : (f_X11_stepOut ze0 zo zso zn zsn fb_s0 ze7).1 = nI M := by
  unfold f_X11_stepOut
  rw [np_0.cc, show (0 : Int32) - 1 = -1 by decide, e]
  obtain ⟨N, rfl⟩ : ∃ N, M = N + 1 := ⟨M - 1, by omega⟩
  unfold f_X11_goOn
  rw [fb_mu6, np_end np_0]
  exact np_goOn (M := N + 1) hM N _ 0 _ _ _ _ _ _ _ np_0 (by omega) (by omega)
theorem a_stepOut (zo zn : Nat → Nat) (zso zsn : fb_MS) (ze0 ze7 : fb_AR) : (f_X11_stepOut ze0 zo zso zn zsn fb_s0 ze7).1 = nI (4999 + 1) := np_so (by decide) (by decide) (by decide) zo zn zso zsn ze0 ze7
theorem a_step (zo zn : Nat → Nat) (zso zsn : fb_MS) (ze0 : fb_AR) : (f_X11_step ze0 zo zso zn zsn fb_s0).1 = 1 := by
  unfold f_X11_step
  rw [if_pos (np_end np_0)]
  exact (np_step np_0).1
theorem a_stepOver (zo zn : Nat → Nat) (zso zsn : fb_MS) (ze0 ze7 : fb_AR) : (f_X11_stepOver ze0 zo zso zn zsn fb_s0 ze7).1 = 1 := by
  unfold f_X11_stepOver
  rw [np_ready np_0, if_neg (show ¬ (1 : Int32) = 0 by decide)]
  have e : f_X2_isAtCall fb_s0 = 0 := by decide
  rw [if_pos e]
  split
  · exact a_step zo zn zso zsn ze0
  · exact a_step zo zn zso zsn ze0
theorem np_cth {M : Nat} (hM : M ≤ 5000) (zs : fb_MS) : ∀ (f n j : Nat) (s : fb_MS), fb_np j s → j + f = M → f < n → f_X11_cyclesToHalt_32 n zs s (nI M) (nI j) (nI j) = -1 := by
  intro f
  induction f with
  | zero =>
    intro n j s h hj hn
    obtain ⟨n, rfl⟩ : ∃ q, n = q + 1 := ⟨n - 1, by omega⟩
    rw [f_X11_cyclesToHalt_32]
    rw [if_neg (np_lim (by omega)), if_pos (nI_le (a := M) (b := j) (by omega) (by omega)), if_pos (np_end h)]
  | succ f ih =>
    intro n j s h hj hn
    obtain ⟨n, rfl⟩ : ∃ q, n = q + 1 := ⟨n - 1, by omega⟩
    obtain ⟨e1, h', -⟩ := np_step h
    rw [f_X11_cyclesToHalt_32]
    rw [if_neg (np_lim (by omega)), if_neg (nI_ge (b := M) (a := j) (by omega) (by omega)), if_pos (np_end h), e1, np_nI1]
    exact ih n (j + 1) _ h' (by omega) (by omega)
theorem a_cth (t : fb_MS) {M : Nat} (hM : M ≤ 5000) : f_X11_cyclesToHalt fb_s0 t (nI M) = -1 := by
  unfold f_X11_cyclesToHalt
  rw [fb_mu6]
  exact np_cth hM _ M _ 0 _ (np_copy np_0 t) (by omega) (by omega)
theorem np_out {M : Nat} (hM : M ≤ 5000) {zs : fb_MS} (hz : zs.2.2.2.2.2.1 6 = 0) : ∀ (f n j : Nat) (s : fb_MS), fb_np j s → j + f = M → f < n → f_X11_outputsIn_32 n zs s (nI M) (nI j) (nI j) = 0 := by
  intro f
  induction f with
  | zero =>
    intro n j s h hj hn
    obtain ⟨n, rfl⟩ : ∃ q, n = q + 1 := ⟨n - 1, by omega⟩
    rw [f_X11_outputsIn_32]
    rw [if_neg (np_lim (by omega)), if_pos (nI_le (a := M) (b := j) (by omega) (by omega)), hz, h.p6]
    rfl
  | succ f ih =>
    intro n j s h hj hn
    obtain ⟨n, rfl⟩ : ∃ q, n = q + 1 := ⟨n - 1, by omega⟩
    obtain ⟨e1, h', -⟩ := np_step h
    rw [f_X11_outputsIn_32]
    rw [if_neg (np_lim (by omega)), if_neg (nI_ge (b := M) (a := j) (by omega) (by omega)), if_pos (np_end h), e1, np_nI1]
    exact ih n (j + 1) _ h' (by omega) (by omega)
theorem a_out (t : fb_MS) {M : Nat} (hM : M ≤ 5000) : f_X11_outputsIn fb_s0 t (nI M) = 0 := by
  unfold f_X11_outputsIn
  rw [fb_mu6]
  exact np_out hM np_0.p6 M _ 0 _ (np_copy np_0 t) (by omega) (by omega)
theorem np_wri {M : Nat} (hM : M ≤ 5000) (zs : fb_MS) (l1 : Int32) : ∀ (f n j : Nat) (s : fb_MS), fb_np j s → j + f = M → f < n → f_X11_writesIn_53 n zs s l1 (nI M) (nI j) 0 (nI j) = 0 := by
  intro f
  induction f with
  | zero =>
    intro n j s h hj hn
    obtain ⟨n, rfl⟩ : ∃ q, n = q + 1 := ⟨n - 1, by omega⟩
    rw [f_X11_writesIn_53]
    rw [if_neg (np_lim (by omega)), if_pos (nI_le (a := M) (b := j) (by omega) (by omega))]
  | succ f ih =>
    intro n j s h hj hn
    obtain ⟨n, rfl⟩ : ∃ q, n = q + 1 := ⟨n - 1, by omega⟩
    obtain ⟨e1, h', -⟩ := np_step h
    rw [f_X11_writesIn_53]
    rw [if_neg (np_lim (by omega)), if_neg (nI_ge (b := M) (a := j) (by omega) (by omega)), if_pos (np_end h), e1, np_nI1, show (0 : Int32) + 0 = 0 by decide]
    exact ih n (j + 1) _ h' (by omega) (by omega)
theorem a_wri (t : fb_MS) (l1 : Int32) {M : Nat} (hM : M ≤ 5000) : f_X11_writesIn fb_s0 t l1 (nI M) = 0 := by
  unfold f_X11_writesIn
  rw [fb_mu6]
  exact np_wri hM _ l1 M _ 0 _ (np_copy np_0 t) (by omega) (by omega)
/-- where a step leads: what writesIn asks of each -/
def fb_nq (s : fb_MS) : Prop := ∃ k, fb_np k s
theorem nq_step (s : fb_MS) (h : fb_nq s) : (f_X2_advance s).2.1 14 = 0 ∧ fb_nq (f_X2_advance s).2 := by
  obtain ⟨k, h⟩ := h
  exact ⟨(np_step h).2.2, _, (np_step h).2.1⟩
theorem nq_0 (t : fb_MS) : fb_nq (f_X2_copyFrom t fb_s0) := ⟨0, np_copy np_0 t⟩
theorem np_rch {M a : Nat} (hM : M ≤ 5000) (ha : a < 4096) (zs : fb_MS) : ∀ (f n j : Nat) (s : fb_MS), fb_np j s → j + f = M → f < n → j ≤ a → f_X11_cyclesToReach_60 n zs s (nI a) (nI M) (nI j) (if nI (j % 4096) = nI a then 1 else 0) (nI j) = if a ≤ M then nI a else -1 := by
  intro f
  induction f with
  | zero =>
    intro n j s h hj hn hja
    obtain ⟨n, rfl⟩ : ∃ q, n = q + 1 := ⟨n - 1, by omega⟩
    rw [f_X11_cyclesToReach_60]
    rw [if_neg (np_lim (by omega))]
    by_cases e : j = a
    · have e2 : nI (j % 4096) = nI a := by rw [Nat.mod_eq_of_lt (by omega), e]
      rw [if_pos e2, if_neg (show ¬ (1 : Int32) = 0 by decide), e, if_pos (by omega)]
    · have e2 : ¬ nI (j % 4096) = nI a := by
        rw [Nat.mod_eq_of_lt (by omega)]
        exact fun q => e ((nI_eq (a := j) (b := a) (by omega) (by omega)).mp q)
      rw [if_neg e2, if_pos rfl, if_pos (nI_le (a := M) (b := j) (by omega) (by omega)), if_neg (by omega)]
  | succ f ih =>
    intro n j s h hj hn hja
    obtain ⟨n, rfl⟩ : ∃ q, n = q + 1 := ⟨n - 1, by omega⟩
    obtain ⟨e1, h', -⟩ := np_step h
    rw [f_X11_cyclesToReach_60]
    rw [if_neg (np_lim (by omega))]
    by_cases e : j = a
    · have e2 : nI (j % 4096) = nI a := by rw [Nat.mod_eq_of_lt (by omega), e]
      rw [if_pos e2, if_neg (show ¬ (1 : Int32) = 0 by decide), e, if_pos (by omega)]
    · have e2 : ¬ nI (j % 4096) = nI a := by
        rw [Nat.mod_eq_of_lt (by omega)]
        exact fun q => e ((nI_eq (a := j) (b := a) (by omega) (by omega)).mp q)
      rw [if_neg e2, if_pos rfl, if_neg (nI_ge (b := M) (a := j) (by omega) (by omega)), if_pos (np_end h), e1, np_nI1, np_readyAt h']
      exact ih n (j + 1) _ h' (by omega) (by omega) (by omega)
theorem a_rch (t : fb_MS) {M a : Nat} (hM : M ≤ 5000) (ha : a < 4096) : f_X11_cyclesToReach fb_s0 t (nI a) (nI M) = if a ≤ M then nI a else -1 := by
  unfold f_X11_cyclesToReach
  rw [fb_mu6, np_readyAt (np_copy np_0 t)]
  exact np_rch hM ha _ M _ 0 _ (np_copy np_0 t) (by omega) (by omega) (by omega)
theorem np_busy {s : fb_MS} (h : s.2.2.1 = fun _ => 0) : ∀ (f n j : Nat), j + f = 4096 → f < n → f_X2_busiest_6 n s (-1) 0 (nI j) = -1 := by
  intro f
  induction f with
  | zero =>
    intro n j hj hn
    obtain ⟨n, rfl⟩ : ∃ q, n = q + 1 := ⟨n - 1, by omega⟩
    rw [f_X2_busiest_6]
    rw [if_pos (show (4096 : Int32) ≤ nI j from nI_le (a := 4096) (b := j) (by omega) (by omega))]
  | succ f ih =>
    intro n j hj hn
    obtain ⟨n, rfl⟩ : ∃ q, n = q + 1 := ⟨n - 1, by omega⟩
    rw [f_X2_busiest_6]
    rw [if_neg (show ¬ (4096 : Int32) ≤ nI j from nI_ge (b := 4096) (a := j) (by omega) (by omega)), h, at_zero, if_pos (by decide), np_nI1]
    exact ih n (j + 1) (by omega) (by omega)
theorem a_hottest : f_X2_busiest fb_s0 = -1 := by
  unfold f_X2_busiest
  exact np_busy rfl 4096 _ 0 (by omega) (by decide)
