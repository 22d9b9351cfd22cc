/-! a machine over a memory of zeros: its steps, its answers -/
/-- the machine behind k steps over zeros -/
structure fb_np (k : Nat) (s : fb_MS) : Prop where
  mem : s.2.1 = fun _ => 0
  st : s.1 10 = 0
  pc : s.1 9 = nI (k % 4096)
  cy : s.1 11 = nI k
  ic : s.1 12 = nI k
  cc : s.1 13 = 0
  nm : s.2.2.2.2.1 = false
  p2 : s.2.2.2.2.2.1 2 = 0
  p3 : s.2.2.2.2.2.1 3 = 0
  p6 : s.2.2.2.2.2.1 6 = 0
  p9 : s.2.2.2.2.2.1 9 = 0
theorem np_start : fb_np 0 (f_X2_restart fb_m0) := ⟨rfl, rfl, by decide, rfl, rfl, rfl, rfl, rfl, rfl, rfl, rfl⟩
theorem np_sR {k : Nat} {s : fb_MS} (h : fb_np k s) (j : Nat) (v : Int32) (hj : j = 14 ∨ j = 15) : fb_np k (fb_sR s j v) := by
  refine ⟨h.mem, ?_, ?_, ?_, ?_, ?_, h.nm, h.p2, h.p3, h.p6, h.p9⟩
  · exact (pk_un (by omega)).trans h.st
  · exact (pk_un (by omega)).trans h.pc
  · exact (pk_un (by omega)).trans h.cy
  · exact (pk_un (by omega)).trans h.ic
  · exact (pk_un (by omega)).trans h.cc
theorem np_s10 {k : Nat} {s : fb_MS} (h : fb_np k s) : fb_np k (fb_sR s 10 0) := ⟨h.mem, rfl, h.pc, h.cy, h.ic, h.cc, h.nm, h.p2, h.p3, h.p6, h.p9⟩
theorem at_zero (N : Nat) (i : Int32) : f_X11_at N (fun _ => 0) i = 0 := by
  unfold f_X11_at
  by_cases h1 : i < 0
  · rw [if_pos h1]
  · rw [if_neg h1]
    by_cases h2 : nI N ≤ i
    · rw [if_pos h2]
    · rw [if_neg h2]
theorem np_shown {k : Nat} {s : fb_MS} (h : fb_np k s) (x : Int32) : f_X2_shown s x = 0 := by
  unfold f_X2_shown
  rw [h.mem]
  exact at_zero _ _
theorem np_end {k : Nat} {s : fb_MS} (h : fb_np k s) : f_X2_endReason s = 0 := by
  unfold f_X2_endReason
  rw [h.st, if_neg (by decide), if_neg (by decide)]
theorem np_want {k : Nat} {s : fb_MS} (h : fb_np k s) : f_X5_wanting s.2.2.2.2.2 = 0 := by
  unfold f_X5_wanting
  rw [h.p3]
  exact Int32.and_zero
theorem np_pass {π : fb_PS} (h : π.1 9 = 0) : f_X5_pass π 1 = π := by
  unfold f_X5_pass
  rw [f_X5_pass_2]
  rw [if_neg (by decide), h, if_pos (by decide)]
theorem np_232 {c : fb_MS} (h : c.2.2.2.2.2.1 13 = 0) : f_X2_carryOut_232 c = c := by
  unfold f_X2_carryOut_232
  rw [h, if_pos (by decide)]
theorem np_len : f_X11_lengthOf (0 : Int32) = 1 := by decide
theorem np_pcs (k : Nat) : (nI (k % 4096) + 1) &&& (4095 : Int32) = nI ((k + 1) % 4096) := by
  have e : nI (k % 4096) + 1 = nI (k % 4096 + 1) := nI_add _ 1
  rw [e]
  exact fr_pc k
set_option maxRecDepth 100000 in
set_option maxHeartbeats 4000000 in
theorem np_carry {k : Nat} {s : fb_MS} (h : fb_np k s) (h14 : s.1 14 = 0) : ∃ c : fb_MS, f_X2_carryOut s = c ∧ c.1 14 = 0 ∧ c.1 15 = 1 ∧ c.2.1 = (fun _ => 0) ∧ c.1 10 = 0 ∧ c.1 9 = nI ((k + 1) % 4096) ∧ c.1 11 = nI k ∧ c.1 12 = nI (k + 1) ∧ c.1 13 = 0 ∧ c.2.2.2.2.1 = false ∧ c.2.2.2.2.2.1 2 = 0 ∧ c.2.2.2.2.2.1 3 = 0 ∧ c.2.2.2.2.2.1 6 = 0 ∧ c.2.2.2.2.2.1 9 = 0 := by
  refine ⟨_, rfl, ?_⟩
  unfold f_X2_carryOut
  rw [np_shown h, np_len, if_neg (show ¬ (1 : Int32) = 0 by decide), if_pos (show (0 : Int32) >>> ((3 : Int32) &&& 31) = 0 by decide)]
  unfold f_X2_control
  rw [if_neg (show ¬ (0 : Int32) = 1 by decide), if_neg (show ¬ (0 : Int32) = 2 by decide), if_neg (show ¬ (0 : Int32) = 3 by decide), if_neg (show ¬ (0 : Int32) = 4 by decide), if_neg (show ¬ (0 : Int32) = 5 by decide), if_neg (show ¬ (0 : Int32) = 6 by decide), if_neg (show ¬ (0 : Int32) = 7 by decide)]
  rw [np_232 rfl]
  refine ⟨?_, ?_, h.mem, ?_, ?_, ?_, ?_, ?_, h.nm, ?_, ?_, ?_, ?_⟩
  · exact h14
  · rfl
  · exact h.st
  · show (s.1 9 + 1) &&& (4095 : Int32) = _
    rw [h.pc]; exact np_pcs k
  · exact h.cy
  · show s.1 12 + 1 = _
    rw [h.ic]; exact nI_add _ 1
  · exact h.cc
  · exact h.p2
  · exact h.p3
  · exact h.p6
  · exact h.p9
set_option maxRecDepth 100000 in
set_option maxHeartbeats 4000000 in
theorem np_step {k : Nat} {s : fb_MS} (h : fb_np k s) : (f_X2_advance s).1 = 1 ∧ fb_np (k + 1) (f_X2_advance s).2 ∧ (f_X2_advance s).2.1 14 = 0 := by
  have h1 : fb_np k (fb_sR (fb_sR s 14 (0 : Int32)) 15 (0 : Int32)) := np_sR (np_sR h 14 0 (Or.inl rfl)) 15 0 (Or.inr rfl)
  unfold f_X2_advance
  rw [if_pos (np_end h1), if_pos (show fb_bI (fb_sR (fb_sR s 14 (0 : Int32)) 15 (0 : Int32)).2.2.2.2.1 = 0 by rw [h1.nm]; rfl), if_pos (np_want h1)]
  unfold f_X2_advance_76
  rw [h1.st, if_neg (by decide)]
  unfold f_X2_advance_96
  obtain ⟨c, e, c14, c15, cm, c10, c9, c11, c12, c13, cb, q2, q3, q6, q9⟩ := np_carry (np_s10 h1) rfl
  rw [e]
  unfold f_X2_advance_105
  have e1 : c.1 14 + c.1 15 = 1 := by rw [c14, c15]; rfl
  rw [e1]
  have e2 : f_X5_pass (fb_sR c 11 (c.1 11 + 1)).2.2.2.2.2 1 = c.2.2.2.2.2 := np_pass q9
  rw [e2]
  refine ⟨rfl, ⟨cm, ?_, ?_, ?_, ?_, ?_, cb, q2, q3, q6, q9⟩, ?_⟩
  · exact c10
  · exact c9
  · show c.1 11 + 1 = _
    rw [c11]; exact nI_add _ 1
  · exact c12
  · exact c13
  · exact c14
