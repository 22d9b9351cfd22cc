/-! numbers in a range -/
def fb_rg (x : Int32) (N : Nat) : Prop := ∃ j : Nat, j < N ∧ x = nI j
def fb_bt (lo hi : Nat) (x : Int32) : Prop := ∃ j : Nat, lo ≤ j ∧ j ≤ hi ∧ x = nI j
theorem fr_mono {x : Int32} {N M : Nat} (h : fb_rg x N) (hM : N ≤ M) : fb_rg x M := by
  obtain ⟨j, hj, e⟩ := h
  exact ⟨j, by omega, e⟩
theorem fr_lit (n : Nat) {N : Nat} (h : n < N) : fb_rg (nI n) N := ⟨n, h, rfl⟩
theorem fr_255 (x : Int32) : fb_rg (x &&& 255) 256 := pk_andE x 8 (by decide)
theorem fr_31 (x : Int32) : fb_rg (x &&& 31) 32 := pk_andE x 5 (by decide)
theorem fr_4095 (x : Int32) : fb_rg (x &&& 4095) 4096 := pk_andE x 12 (by decide)
theorem fr_1 (x : Int32) : fb_rg (x &&& 1) 2 := pk_andE x 1 (by decide)
theorem fb_nOr (a b : Nat) : nI a ||| nI b = nI (a ||| b) := by
  apply Int32.toBitVec_inj.1
  show BitVec.ofNat 32 a ||| BitVec.ofNat 32 b = BitVec.ofNat 32 (a ||| b)
  apply BitVec.eq_of_getLsbD_eq
  intro i hi
  simp [hi]
theorem fb_nAnd (a b : Nat) : nI a &&& nI b = nI (a &&& b) := by
  apply Int32.toBitVec_inj.1
  show BitVec.ofNat 32 a &&& BitVec.ofNat 32 b = BitVec.ofNat 32 (a &&& b)
  apply BitVec.eq_of_getLsbD_eq
  intro i hi
  simp [hi]
theorem fb_nXor (a b : Nat) : nI a ^^^ nI b = nI (a ^^^ b) := by
  apply Int32.toBitVec_inj.1
  show BitVec.ofNat 32 a ^^^ BitVec.ofNat 32 b = BitVec.ofNat 32 (a ^^^ b)
  apply BitVec.eq_of_getLsbD_eq
  intro i hi
  simp [hi]
theorem fb_of32 (x : Int32) : ∃ n, n < 2 ^ 32 ∧ x = nI n := ⟨x.toBitVec.toNat, x.toBitVec.isLt, Int32.toBitVec_inj.mp (by show _ = BitVec.ofNat 32 _; simp)⟩
theorem fr_andl {x : Int32} {N : Nat} (h : fb_rg x N) (y : Int32) : fb_rg (x &&& y) N := by
  obtain ⟨a, ha, rfl⟩ := h
  obtain ⟨b, hb, rfl⟩ := fb_of32 y
  exact ⟨a &&& b, Nat.lt_of_le_of_lt Nat.and_le_left ha, fb_nAnd a b⟩
theorem fr_or {x y : Int32} (k : Nat) (hx : fb_rg x (2 ^ k)) (hy : fb_rg y (2 ^ k)) : fb_rg (x ||| y) (2 ^ k) := by
  obtain ⟨a, ha, rfl⟩ := hx
  obtain ⟨b, hb, rfl⟩ := hy
  exact ⟨a ||| b, Nat.or_lt_two_pow ha hb, fb_nOr a b⟩
theorem fr_xor {x y : Int32} (k : Nat) (hx : fb_rg x (2 ^ k)) (hy : fb_rg y (2 ^ k)) : fb_rg (x ^^^ y) (2 ^ k) := by
  obtain ⟨a, ha, rfl⟩ := hx
  obtain ⟨b, hb, rfl⟩ := hy
  exact ⟨a ^^^ b, Nat.xor_lt_two_pow ha hb, fb_nXor a b⟩
theorem fr_or16 {x y : Int32} (hx : fb_rg x 16) (hy : fb_rg y 16) : fb_rg (x ||| y) 16 := fr_or 4 hx hy
theorem fr_or32 {x y : Int32} (hx : fb_rg x 32) (hy : fb_rg y 32) : fb_rg (x ||| y) 32 := fr_or 5 hx hy
theorem fr_or256 {x y : Int32} (hx : fb_rg x 256) (hy : fb_rg y 256) : fb_rg (x ||| y) 256 := fr_or 8 hx hy
theorem fr_xor256 {x y : Int32} (hx : fb_rg x 256) (hy : fb_rg y 256) : fb_rg (x ^^^ y) 256 := fr_xor 8 hx hy
theorem fr_xor65536 {x y : Int32} (hx : fb_rg x 65536) (hy : fb_rg y 65536) : fb_rg (x ^^^ y) 65536 := fr_xor 16 hx hy
theorem fr_mod {x : Int32} {N : Nat} (h : fb_rg x N) (hN : N ≤ 2147483648) (d : Nat) (h0 : 0 < d) (hd : d < 2147483648) : fb_rg (x - x / nI d * nI d) d := by
  obtain ⟨a, ha, rfl⟩ := h
  exact ⟨a % d, Nat.mod_lt _ h0, pk_rem (by omega) h0 (by omega)⟩
theorem fr_div {x : Int32} {N : Nat} (h : fb_rg x N) (hN : N ≤ 2147483648) (d : Nat) (h0 : 0 < d) (hd : d < 2147483648) {M : Nat} (hM : N ≤ d * M) : fb_rg (x / nI d) M := by
  obtain ⟨a, ha, rfl⟩ := h
  exact ⟨a / d, Nat.div_lt_of_lt_mul (by omega), pk_div (by omega) h0 (by omega)⟩
theorem fr_m4 {x : Int32} {N : Nat} (h : fb_rg x N) (hN : N ≤ 2147483648) : fb_rg (x - x / (4 : Int32) * (4 : Int32)) 4 := fr_mod h hN 4 (by decide) (by decide)
theorem fr_m8 {x : Int32} {N : Nat} (h : fb_rg x N) (hN : N ≤ 2147483648) : fb_rg (x - x / (8 : Int32) * (8 : Int32)) 8 := fr_mod h hN 8 (by decide) (by decide)
theorem fr_m16 {x : Int32} {N : Nat} (h : fb_rg x N) (hN : N ≤ 2147483648) : fb_rg (x - x / (16 : Int32) * (16 : Int32)) 16 := fr_mod h hN 16 (by decide) (by decide)
theorem fr_m256 {x : Int32} {N : Nat} (h : fb_rg x N) (hN : N ≤ 2147483648) : fb_rg (x - x / (256 : Int32) * (256 : Int32)) 256 := fr_mod h hN 256 (by decide) (by decide)
theorem fr_d256 {x : Int32} (h : fb_rg x 65536) : fb_rg (x / (256 : Int32)) 256 := fr_div h (by decide) 256 (by decide) (by decide) (by decide)
theorem fr_d2 {x : Int32} (h : fb_rg x 65536) : fb_rg (x / (2 : Int32)) 65536 := fr_div h (by decide) 2 (by decide) (by decide) (by decide)
theorem fr_add {x y : Int32} {N M : Nat} (hx : fb_rg x (N + 1)) (hy : fb_rg y (M + 1)) : fb_rg (x + y) (N + M + 1) := by
  obtain ⟨a, ha, rfl⟩ := hx
  obtain ⟨b, hb, rfl⟩ := hy
  exact ⟨a + b, by omega, nI_add a b⟩
theorem fr_lo {x v : Int32} (hx : fb_rg x 65536) (hv : fb_rg v 256) : fb_rg (((x / (256 : Int32)) * (256 : Int32)) + v) 65536 := by
  obtain ⟨a, ha, e⟩ := fr_d256 hx
  obtain ⟨b, hb, rfl⟩ := hv
  rw [e]
  exact ⟨a * 256 + b, by omega, by rw [show (256 : Int32) = nI 256 from rfl, pk_mul, nI_add]⟩
theorem fr_hi {x v : Int32} (hx : fb_rg x 65536) (hv : fb_rg v 256) : fb_rg ((v * (256 : Int32)) + (x - x / (256 : Int32) * (256 : Int32))) 65536 := by
  obtain ⟨a, ha, e⟩ := fr_m256 hx (by decide)
  obtain ⟨b, hb, rfl⟩ := hv
  rw [e]
  exact ⟨b * 256 + a, by omega, by rw [show (256 : Int32) = nI 256 from rfl, pk_mul, nI_add]⟩
theorem fr_of {x : Int32} {N : Nat} (hN : N ≤ 2147483648) (h0 : 0 ≤ x.toInt) (h1 : x.toInt < N) : fb_rg x N := by
  obtain ⟨j, hj, rfl⟩ := nI_of (x := x) (fun q => by rw [Int32.lt_iff_toInt_lt, Int32.toInt_zero] at q; omega)
  rw [nI_toInt hj] at h1
  exact ⟨j, by omega, rfl⟩
theorem fr_toInt {x : Int32} {N : Nat} (h : fb_rg x N) (hN : N ≤ 2147483648) : 0 ≤ x.toInt ∧ x.toInt < N := by
  obtain ⟨j, hj, rfl⟩ := h
  rw [nI_toInt (by omega)]
  omega
theorem fr_pred {x : Int32} {N : Nat} (h : fb_rg x N) (hN : N ≤ 2147483648) (h0 : ¬ x = 0) : fb_rg (x - 1) N ∧ ∃ j, j + 1 < N ∧ x = nI (j + 1) ∧ x - 1 = nI j := by
  obtain ⟨j, hj, rfl⟩ := h
  cases j with
  | zero => exact absurd rfl h0
  | succ j => exact ⟨⟨j, by omega, nI_pred j⟩, j, hj, rfl, nI_pred j⟩
theorem bt_w {lo hi lo' hi' : Nat} {x : Int32} (h : fb_bt lo hi x) (h1 : lo' ≤ lo) (h2 : hi ≤ hi') : fb_bt lo' hi' x := by
  obtain ⟨j, a, b, e⟩ := h
  exact ⟨j, by omega, by omega, e⟩
theorem bt_add {lo hi : Nat} {x : Int32} (h : fb_bt lo hi x) (k : Nat) : fb_bt (lo + k) (hi + k) (x + nI k) := by
  obtain ⟨j, a, b, rfl⟩ := h
  exact ⟨j + k, by omega, by omega, nI_add j k⟩
theorem fb_updP {P : Nat → Int32 → Prop} {f : fb_AR} {k : Nat} {v : Int32} (h : ∀ j, P j (f j)) (hv : P k v) : ∀ j, P j (upd f k v j) := by
  intro j
  by_cases e : j = k
  · subst e; rw [pk_us]; exact hv
  · rw [pk_un e]; exact h j
theorem at_rg {f : fb_AR} (h : ∀ j, fb_rg (f j) 256) (N : Nat) (l1 : Int32) : fb_rg (f_X11_at N f l1) 256 := by
  unfold f_X11_at
  split
  · exact fr_lit 0 (by decide)
  · split
    · exact fr_lit 0 (by decide)
    · exact h _
theorem put_rg {f : fb_AR} (h : ∀ j, fb_rg (f j) 256) (N : Nat) (l1 : Int32) {v : Int32} (hv : fb_rg v 256) : ∀ j, fb_rg (f_X11_put N f l1 v j) 256 := by
  unfold f_X11_put
  split
  · exact h
  · split
    · exact h
    · exact fb_updP (P := fun _ x => fb_rg x 256) h hv
theorem len_rg (x : Int32) : fb_rg (f_X11_lengthOf x) 4 := by
  unfold f_X11_lengthOf
  repeat (first | exact fr_lit 0 (by decide) | exact fr_lit 1 (by decide) | exact fr_lit 2 (by decide) | exact fr_lit 3 (by decide) | split)
theorem len_bt {x : Int32} (h : ¬ f_X11_lengthOf x = 0) : fb_bt 1 3 (f_X11_lengthOf x) := by
  obtain ⟨j, hj, e⟩ := len_rg x
  exact ⟨j, Nat.pos_of_ne_zero (fun q => h (by rw [e, q]; rfl)), by omega, e⟩
theorem fb_ite {α : Type} {P : α → Prop} {c : Prop} [Decidable c] {x y : α} (hx : c → P x) (hy : ¬ c → P y) : P (if c then x else y) := by
  by_cases h : c
  · rw [if_pos h]; exact hx h
  · rw [if_neg h]; exact hy h
