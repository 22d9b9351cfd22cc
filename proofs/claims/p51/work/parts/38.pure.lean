/-! a machine over a memory of zeros: its steps, its answers -/
/-- the machine behind k steps over zeros -/
abbrev fb_np (k : Nat) (s : fb_MS) : Prop := (s.2.1 = fun _ => 0) ∧ s.1 10 = 0 ∧ s.1 9 = nI (k % 4096) ∧ s.1 11 = nI k ∧ s.1 12 = nI k ∧ s.1 13 = 0 ∧ s.2.2.2.2.1 = false ∧ s.2.2.2.2.2.1 2 = 0 ∧ s.2.2.2.2.2.1 3 = 0 ∧ s.2.2.2.2.2.1 6 = 0 ∧ s.2.2.2.2.2.1 9 = 0
theorem fb_np.pc {k : Nat} {s : fb_MS} (h : fb_np k s) : s.1 9 = nI (k % 4096) := h.2.2.1
theorem fb_np.ic {k : Nat} {s : fb_MS} (h : fb_np k s) : s.1 12 = nI k := h.2.2.2.2.1
theorem fb_np.cc {k : Nat} {s : fb_MS} (h : fb_np k s) : s.1 13 = 0 := h.2.2.2.2.2.1
theorem fb_np.p3 {k : Nat} {s : fb_MS} (h : fb_np k s) : s.2.2.2.2.2.1 3 = 0 := h.2.2.2.2.2.2.2.2.1
