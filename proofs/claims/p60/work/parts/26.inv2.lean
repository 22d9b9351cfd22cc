/-! what is always so of the machine: b bounds its outputs, tl to n its touches, el to m its extra cycles; its cycles are c, its instructions ic -/
def fb_bd : Nat → Int32 → Prop
  | 5, v => fb_rg v 256
  | 6, v => fb_rg v 256
  | 7, v => fb_rg v 256
  | 8, v => fb_rg v 32
  | 9, v => fb_rg v 4096
  | 10, v => fb_rg v 4
  | 13, v => fb_rg v 41
  | _, _ => True
def fb_inv (b tl n el m : Nat) (c ic : Int32) (σ : fb_MS) : Prop := (∀ k, fb_bd k (σ.1 k)) ∧ (∀ j, fb_rg (σ.2.1 j) 256) ∧ fb_pin b σ.2.2.2.2.2 ∧ fb_bt tl n (σ.1 14) ∧ fb_bt el m (σ.1 15) ∧ σ.1 11 = c ∧ σ.1 12 = ic
section IVM
variable {b tl n el m : Nat} {c ic : Int32} {zs : fb_MS}
theorem iv_w {b' tl' n' el' m' : Nat} (h : fb_inv b tl n el m c ic zs) (h1 : b ≤ b' := by omega) (h2 : tl' ≤ tl := by omega) (h3 : n ≤ n' := by omega) (h4 : el' ≤ el := by omega) (h5 : m ≤ m' := by omega) : fb_inv b' tl' n' el' m' c ic zs := ⟨h.1, h.2.1, pi_w h.2.2.1 h1, bt_w h.2.2.2.1 h2 h3, bt_w h.2.2.2.2.1 h4 h5, h.2.2.2.2.2⟩
theorem iv_R (k : Nat) {v : Int32} (hk : ¬ k = 11 ∧ ¬ k = 12 ∧ ¬ k = 14 ∧ ¬ k = 15) (h : fb_inv b tl n el m c ic zs) (hv : fb_bd k v) : fb_inv b tl n el m c ic (fb_sR zs k v) := ⟨fb_updP (P := fb_bd) h.1 hv, h.2.1, h.2.2.1, by
  show fb_bt tl n (upd zs.1 k v 14) ∧ fb_bt el m (upd zs.1 k v 15) ∧ upd zs.1 k v 11 = c ∧ upd zs.1 k v 12 = ic
  rw [pk_un (fun e => hk.1 e.symm), pk_un (fun e => hk.2.1 e.symm), pk_un (fun e => hk.2.2.1 e.symm), pk_un (fun e => hk.2.2.2 e.symm)]
  exact h.2.2.2⟩
theorem iv_14 {tl' n' : Nat} {v : Int32} (h : fb_inv b tl n el m c ic zs) (hv : fb_bt tl' n' v) : fb_inv b tl' n' el m c ic (fb_sR zs 14 v) := ⟨fb_updP (P := fb_bd) h.1 trivial, h.2.1, h.2.2.1, by
  show fb_bt tl' n' (upd zs.1 14 v 14) ∧ fb_bt el m (upd zs.1 14 v 15) ∧ upd zs.1 14 v 11 = c ∧ upd zs.1 14 v 12 = ic
  rw [pk_us, pk_un (by decide), pk_un (by decide), pk_un (by decide)]
  exact ⟨hv, h.2.2.2.2⟩⟩
theorem iv_15 {el' m' : Nat} {v : Int32} (h : fb_inv b tl n el m c ic zs) (hv : fb_bt el' m' v) : fb_inv b tl n el' m' c ic (fb_sR zs 15 v) := ⟨fb_updP (P := fb_bd) h.1 trivial, h.2.1, h.2.2.1, by
  show fb_bt tl n (upd zs.1 15 v 14) ∧ fb_bt el' m' (upd zs.1 15 v 15) ∧ upd zs.1 15 v 11 = c ∧ upd zs.1 15 v 12 = ic
  rw [pk_us, pk_un (by decide), pk_un (by decide), pk_un (by decide)]
  exact ⟨h.2.2.2.1, hv, h.2.2.2.2.2⟩⟩
theorem iv_11 {v : Int32} (h : fb_inv b tl n el m c ic zs) : fb_inv b tl n el m v ic (fb_sR zs 11 v) := ⟨fb_updP (P := fb_bd) h.1 trivial, h.2.1, h.2.2.1, by
  show fb_bt tl n (upd zs.1 11 v 14) ∧ fb_bt el m (upd zs.1 11 v 15) ∧ upd zs.1 11 v 11 = v ∧ upd zs.1 11 v 12 = ic
  rw [pk_us, pk_un (by decide), pk_un (by decide), pk_un (by decide)]
  exact ⟨h.2.2.2.1, h.2.2.2.2.1, rfl, h.2.2.2.2.2.2⟩⟩
theorem iv_12 {v : Int32} (h : fb_inv b tl n el m c ic zs) : fb_inv b tl n el m c v (fb_sR zs 12 v) := ⟨fb_updP (P := fb_bd) h.1 trivial, h.2.1, h.2.2.1, by
  show fb_bt tl n (upd zs.1 12 v 14) ∧ fb_bt el m (upd zs.1 12 v 15) ∧ upd zs.1 12 v 11 = c ∧ upd zs.1 12 v 12 = v
  rw [pk_us, pk_un (by decide), pk_un (by decide), pk_un (by decide)]
  exact ⟨h.2.2.2.1, h.2.2.2.2.1, h.2.2.2.2.2.1, rfl⟩⟩
theorem iv_M {f : fb_AR} (h : fb_inv b tl n el m c ic zs) (hf : ∀ j, fb_rg (f j) 256) : fb_inv b tl n el m c ic (fb_sM zs f) := ⟨h.1, hf, h.2.2⟩
theorem iv_T {f : fb_AR} (h : fb_inv b tl n el m c ic zs) : fb_inv b tl n el m c ic (fb_sT zs f) := h
theorem iv_K {f : fb_AR} (h : fb_inv b tl n el m c ic zs) : fb_inv b tl n el m c ic (fb_sK zs f) := h
theorem iv_B {f : Bool} (h : fb_inv b tl n el m c ic zs) : fb_inv b tl n el m c ic (fb_sB zs f) := h
theorem iv_P {b' : Nat} {π : fb_PS} (h : fb_inv b tl n el m c ic zs) (hp : fb_pin b' π) : fb_inv b' tl n el m c ic (fb_sP zs π) := ⟨h.1, h.2.1, hp, h.2.2.2⟩
theorem shown_rg (h : fb_inv b tl n el m c ic zs) (l1 : Int32) : fb_rg (f_X2_shown zs l1) 256 := at_rg h.2.1 _ _
theorem zn_1 (zs : fb_MS) (v : Int32) : (f_X2_zn zs v).1 = v := by
  unfold f_X2_zn
  split <;> split <;> rfl
theorem iv_zn (h : fb_inv b tl n el m c ic zs) (v : Int32) : fb_inv b tl n el m c ic (f_X2_zn zs v).2 := by
  have h8 : fb_rg (zs.1 8) 32 := h.1 8
  have h0 := fr_andl h8 (-19)
  unfold f_X2_zn
  split <;> split
  · exact iv_R 8 (by decide) h (fr_or32 (fr_or32 h0 (fr_lit 2 (by decide))) (fr_lit 0 (by decide)))
  · exact iv_R 8 (by decide) h (fr_or32 (fr_or32 h0 (fr_lit 2 (by decide))) (fr_lit 16 (by decide)))
  · exact iv_R 8 (by decide) h (fr_or32 (fr_or32 h0 (fr_lit 0 (by decide))) (fr_lit 0 (by decide)))
  · exact iv_R 8 (by decide) h (fr_or32 (fr_or32 h0 (fr_lit 0 (by decide))) (fr_lit 16 (by decide)))
/-- zn, its value into a register of bytes -/
theorem iv_zn5 (h : fb_inv b tl n el m c ic zs) {v : Int32} (hv : fb_rg v 256) : fb_inv b tl n el m c ic (fb_sR (f_X2_zn zs v).2 5 (f_X2_zn zs v).1) := iv_R 5 (by decide) (iv_zn h v) (by rw [zn_1]; exact hv)
theorem iv_zn6 (h : fb_inv b tl n el m c ic zs) {v : Int32} (hv : fb_rg v 256) : fb_inv b tl n el m c ic (fb_sR (f_X2_zn zs v).2 6 (f_X2_zn zs v).1) := iv_R 6 (by decide) (iv_zn h v) (by rw [zn_1]; exact hv)
theorem iv_flag (h : fb_inv b tl n el m c ic zs) {l1 : Int32} (hl : fb_rg l1 32) (l2 : Int32) : fb_inv b tl n el m c ic (f_X2_setFlag zs l1 l2) := by
  have h8 : fb_rg (zs.1 8) 32 := h.1 8
  unfold f_X2_setFlag
  split
  · exact iv_R 8 (by decide) h (fr_andl h8 _)
  · exact iv_R 8 (by decide) h (fr_or32 h8 hl)
theorem iv_touch (h : fb_inv b tl n el m c ic zs) (v : Int32) : fb_inv b (tl + 1) (n + 1) el m c ic (f_X2_touch zs v) := iv_14 h (bt_add h.2.2.2.1 1)
theorem iv_push (h : fb_inv b tl n el m c ic zs) {v : Int32} (hv : fb_rg v 256) : fb_inv b (tl + 1) (n + 1) el m c ic (f_X2_push zs v) := iv_R 7 (by decide) (iv_M (iv_14 h (bt_add h.2.2.2.1 1)) (put_rg h.2.1 _ _ hv)) (fr_255 _)
theorem iv_pull (h : fb_inv b tl n el m c ic zs) : fb_inv b (tl + 1) (n + 1) el m c ic (f_X2_pull zs).2 := iv_14 (iv_R 7 (by decide) h (fr_255 _)) (bt_add h.2.2.2.1 1)
theorem pull_1 (h : fb_inv b tl n el m c ic zs) : fb_rg (f_X2_pull zs).1 256 := at_rg h.2.1 _ _
theorem iv_pushA (h : fb_inv b tl n el m c ic zs) {v : Int32} (hv : fb_rg v 4096) : fb_inv b (tl + 2) (n + 2) el m c ic (f_X2_pushAddress zs v) := iv_push (iv_push h (fr_d256 (fr_mono hv (by decide)))) (fr_m256 hv (by decide))
theorem iv_pullA (h : fb_inv b tl n el m c ic zs) : fb_inv b (tl + 2) (n + 2) el m c ic (f_X2_pullAddress zs).2 := iv_pull (iv_pull h)
theorem iv_endCall (h : fb_inv b tl n el m c ic zs) : fb_inv b tl n el m c ic (f_X2_endCall zs) := by
  unfold f_X2_endCall
  split
  · exact h
  · rename_i q
    exact iv_R 13 (by decide) h (fr_pred (show fb_rg (zs.1 13) 41 from h.1 13) (by decide) (fun e => q (by rw [e]; decide))).1
theorem sR_us (s : fb_MS) (k : Nat) (v : Int32) : (fb_sR s k v).1 k = v := pk_us
theorem iv_begin30 (h : fb_inv b tl n el m c ic zs) (v : Int32) (hc : zs.1 13 < (40 : Int32)) : fb_inv b tl n el m c ic (f_X2_beginCall_30 zs v) := by
  refine iv_R 13 (by decide) (iv_K h) ?_
  obtain ⟨j, hj, e⟩ := (show fb_rg (zs.1 13) 41 from h.1 13)
  show fb_rg (zs.1 13 + 1) 41
  rw [e] at hc ⊢
  have := (nI_ltI (a := j) (b := 40) (by omega) (by decide)).mp hc
  exact ⟨j + 1, by omega, (nI_succ j).symm⟩
theorem iv_begin (h : fb_inv b tl n el m c ic zs) (v : Int32) : fb_inv b tl n el m c ic (f_X2_beginCall zs v) := by
  unfold f_X2_beginCall
  split
  · rename_i q; exact iv_begin30 h v q
  · exact iv_begin30 (iv_R 13 (by decide) (iv_K h) (fr_lit 39 (by decide))) v (by rw [sR_us]; decide)
theorem vec_rg (zs : fb_MS) (k : Int32) : fb_rg (f_X2_vector zs k) 4096 := fr_4095 _
theorem iv_enter (h : fb_inv b tl n el m c ic zs) (l1 l2 : Int32) : fb_inv b (tl + 5) (n + 5) el m c ic (f_X2_enter zs l1 l2) := by
  have h1 := iv_begin h l2
  have h2 := iv_push h1 (fr_d256 (fr_mono (show fb_rg ((f_X2_beginCall zs l2).1 9) 4096 from h1.1 9) (by decide)))
  have h3 := iv_push h2 (fr_m256 (show fb_rg _ 4096 from h2.1 9) (by decide))
  have h4 := iv_push h3 (fr_mono (show fb_rg _ 32 from h3.1 8) (by decide))
  have h5 := iv_R 8 (by decide) h4 (fr_or32 (show fb_rg _ 32 from h4.1 8) (fr_lit 4 (by decide)))
  have h6 := iv_touch (iv_touch h5 ((4080 : Int32) + ((2 : Int32) * l1))) (((4080 : Int32) + ((2 : Int32) * l1)) + (1 : Int32))
  exact iv_R 9 (by decide) h6 (vec_rg _ l1)
theorem iv_takeBy (h : fb_inv b tl n el m c ic zs) (l1 : Int32) : fb_inv b (tl + 5) (n + 5) el m c ic (f_X2_takeBy zs l1) := iv_enter (iv_R 10 (by decide) h (fr_lit 0 (by decide))) _ _
theorem bt_8 {x : Int32} (h : fb_bt el m x) : fb_bt (el + 8) (m + 8) (x + (8 : Int32)) := bt_add h 8
theorem iv_mul (h : fb_inv b tl n el m c ic zs) : fb_inv b tl n (el + 8) (m + 8) c ic (f_X2_multiply zs) := by
  obtain ⟨a, ha, ea⟩ := (show fb_rg (zs.1 5) 256 from h.1 5)
  obtain ⟨x, hx, ex⟩ := (show fb_rg (zs.1 6) 256 from h.1 6)
  have hax : a * x < 65536 := by
    have := Nat.mul_le_mul (Nat.le_of_lt_succ ha) (Nat.le_of_lt_succ hx)
    omega
  have hp : fb_rg (zs.1 5 * zs.1 6) 65536 := ⟨a * x, hax, by rw [ea, ex, pk_mul]⟩
  have h1 : fb_inv b tl n (el + 8) (m + 8) c ic (fb_sR (fb_sR zs 15 (((zs).1 15) + (8 : Int32))) 6 ((((zs).1 5) * ((zs).1 6)) / (256 : Int32))) := iv_R 6 (by decide) (iv_15 h (bt_8 h.2.2.2.2.1)) (fr_d256 hp)
  unfold f_X2_multiply
  split <;> exact iv_zn5 (iv_flag h1 (fr_lit 1 (by decide)) _) (fr_m256 hp (by decide))
theorem iv_div26 (h : fb_inv b tl n el m c ic zs) {k1 : Int32} (k0 : Int32) (hk : fb_rg k1 32) : fb_inv b tl n el m c ic (f_X2_divide_26 zs k0 k1) := by
  have h1 := iv_flag h hk k0
  unfold f_X2_divide_26
  split
  · exact h1
  · rename_i hz
    obtain ⟨a, ha, ea⟩ := (show fb_rg ((f_X2_setFlag zs k1 k0).1 5) 256 from h1.1 5)
    obtain ⟨x, hx, ex⟩ := (show fb_rg ((f_X2_setFlag zs k1 k0).1 6) 256 from h1.1 6)
    have hx0 : 0 < x := Nat.pos_of_ne_zero (fun q => hz (by rw [ex, q]; rfl))
    refine iv_R 6 (by decide) (iv_zn5 h1 ?_) ?_
    · rw [ea, ex]
      exact ⟨a / x, Nat.lt_of_le_of_lt (Nat.div_le_self a x) ha, pk_div (by omega) hx0 (by omega)⟩
    · show fb_rg _ 256
      rw [ea, ex]
      exact ⟨a % x, Nat.lt_of_le_of_lt (Nat.mod_le a x) ha, pk_rem (by omega) hx0 (by omega)⟩
theorem iv_div (h : fb_inv b tl n el m c ic zs) : fb_inv b tl n (el + 8) (m + 8) c ic (f_X2_divide zs) := by
  have h1 : fb_inv b tl n (el + 8) (m + 8) c ic (fb_sR zs 15 (((zs).1 15) + (8 : Int32))) := iv_15 h (bt_8 h.2.2.2.2.1)
  unfold f_X2_divide
  split <;> exact iv_div26 h1 _ (fr_lit 8 (by decide))
theorem iv_sh53 (h : fb_inv b tl n el m c ic zs) {l2 l3 : Int32} (l4 k0 : Int32) (hv : fb_rg l2 256) (hc : fb_rg l3 2) : fb_inv b tl n el m c ic (f_X2_shifted_53 zs l2 l3 l4 k0 (1 : Int32)).2 ∧ fb_rg (f_X2_shifted_53 zs l2 l3 l4 k0 (1 : Int32)).1 256 := by
  have h1 := iv_flag h (l1 := 1) (fr_lit 1 (by decide)) k0
  obtain ⟨v, hv, rfl⟩ := hv
  obtain ⟨q, hq, rfl⟩ := hc
  unfold f_X2_shifted_53
  split
  · refine ⟨iv_zn h1 _, ?_⟩
    rw [zn_1]
    refine ⟨v / 2 + q * 128, by omega, ?_⟩
    rw [show nI v / (2 : Int32) = nI (v / 2) from pk_div (d := 2) (by omega) (by decide) (by decide), show (128 : Int32) = nI 128 from rfl, pk_mul, nI_add]
  · refine ⟨iv_zn h1 _, ?_⟩
    rw [zn_1]
    refine ⟨v * 2 % 256 + q, by omega, ?_⟩
    rw [show nI v * (2 : Int32) = nI (v * 2) from pk_mul v 2, show nI (v * 2) - nI (v * 2) / (256 : Int32) * (256 : Int32) = nI (v * 2 % 256) from pk_rem (d := 256) (by omega) (by decide) (by decide), nI_add]
theorem iv_sh44 (h : fb_inv b tl n el m c ic zs) {l2 l3 : Int32} (l4 k0 k1 : Int32) (hv : fb_rg l2 256) (hc : fb_rg l3 2) : fb_inv b tl n el m c ic (f_X2_shifted_44 zs l2 l3 l4 k0 k1 (1 : Int32)).2 ∧ fb_rg (f_X2_shifted_44 zs l2 l3 l4 k0 k1 (1 : Int32)).1 256 := by
  unfold f_X2_shifted_44
  split <;> exact iv_sh53 h _ _ hv hc
theorem iv_sh27 (h : fb_inv b tl n el m c ic zs) {l2 l3 : Int32} (k0 : Int32) (hv : fb_rg l2 256) (hc : fb_rg l3 2) : fb_inv b tl n el m c ic (f_X2_shifted_27 zs l2 l3 k0).2 ∧ fb_rg (f_X2_shifted_27 zs l2 l3 k0).1 256 := by
  unfold f_X2_shifted_27
  split <;> exact iv_sh44 h _ _ _ hv hc
theorem iv_sh15 (h : fb_inv b tl n el m c ic zs) {l2 l3 : Int32} (l1 : Int32) (hv : fb_rg l2 256) (hc : fb_rg l3 2) : fb_inv b tl n el m c ic (f_X2_shifted_15 zs l1 l2 l3).2 ∧ fb_rg (f_X2_shifted_15 zs l1 l2 l3).1 256 := by
  unfold f_X2_shifted_15
  split <;> exact iv_sh27 h _ hv hc
theorem iv_shifted (h : fb_inv b tl n el m c ic zs) {l2 : Int32} (l1 : Int32) (hv : fb_rg l2 256) : fb_inv b tl n el m c ic (f_X2_shifted zs l1 l2).2 ∧ fb_rg (f_X2_shifted zs l1 l2).1 256 := by
  unfold f_X2_shifted
  split
  · exact iv_sh15 h _ hv (fr_lit 0 (by decide))
  · exact iv_sh15 h _ hv (fr_1 _)
theorem iv_changed (h : fb_inv b tl n el m c ic zs) {l2 : Int32} (l1 : Int32) (hv : fb_rg l2 256) : fb_inv b tl n el m c ic (f_X2_changed zs l1 l2).2 ∧ fb_rg (f_X2_changed zs l1 l2).1 256 := by
  unfold f_X2_changed
  split
  · exact ⟨iv_zn h _, by rw [zn_1]; exact fr_255 _⟩
  · split
    · exact ⟨iv_zn h _, by rw [zn_1]; exact fr_255 _⟩
    · exact iv_shifted h _ hv
theorem iv_add30 (h : fb_inv b tl n el m c ic zs) {l4 : Int32} (l1 k0 : Int32) (hv : fb_rg l4 256) : fb_inv b tl n el m c ic (f_X2_add_30 zs l1 l4 k0 (1 : Int32)) := by
  have h1 := iv_flag h (l1 := 1) (fr_lit 1 (by decide)) k0
  unfold f_X2_add_30
  split <;> exact iv_zn5 (iv_flag h1 (fr_lit 8 (by decide)) _) hv
theorem iv_add (h : fb_inv b tl n el m c ic zs) (l1 l2 : Int32) : fb_inv b tl n el m c ic (f_X2_add zs l1 l2) := by
  unfold f_X2_add
  split <;> exact iv_add30 h _ _ (fr_255 _)
theorem iv_compare (h : fb_inv b tl n el m c ic zs) (l1 l2 : Int32) : fb_inv b tl n el m c ic (f_X2_compare zs l1 l2) := by
  unfold f_X2_compare f_X2_compare_12
  split <;> exact iv_zn (iv_flag h (fr_lit 1 (by decide)) _) _
theorem iv_tg74 (h : fb_inv b tl n el m c ic zs) (l1 l4 : Int32) : fb_inv b tl n el m c ic (f_X2_target_74 zs l1 l4).2 ∧ fb_rg (f_X2_target_74 zs l1 l4).1 4096 := by
  unfold f_X2_target_74
  split <;> exact ⟨h, fr_4095 _⟩
theorem iv_tg31 (h : fb_inv b tl n el m c ic zs) (l1 l2 l4 : Int32) : fb_inv b tl (n + 2) el m c ic (f_X2_target_31 zs l1 l2 l4).2 ∧ fb_rg (f_X2_target_31 zs l1 l2 l4).1 4096 := by
  unfold f_X2_target_31
  split
  · exact ⟨iv_w (iv_tg74 h _ _).1, (iv_tg74 h _ _).2⟩
  · have h1 := iv_touch (iv_touch h l2) ((l2 + (1 : Int32)) &&& (255 : Int32))
    exact ⟨iv_w (iv_tg74 h1 _ _).1, (iv_tg74 h1 _ _).2⟩
theorem iv_target (h : fb_inv b tl n el m c ic zs) (l1 l2 l3 : Int32) : fb_inv b tl (n + 2) el m c ic (f_X2_target zs l1 l2 l3).2 ∧ fb_rg (f_X2_target zs l1 l2 l3).1 4096 := by
  unfold f_X2_target f_X2_target_17
  split <;> split <;> exact iv_tg31 h _ _ _
theorem iv_read (h : fb_inv b tl n el m c ic zs) (hb : b < 1000000000) {N : Nat} (hc : fb_rg c N) (hN : N ≤ 2147483648) (l1 : Int32) : fb_inv b (tl + 1) (n + 1) el m c ic (f_X2_read zs l1).2 ∧ fb_rg (f_X2_read zs l1).1 256 := by
  have h1 := iv_touch h l1
  unfold f_X2_read
  split
  · exact ⟨h1, shown_rg h1 _⟩
  · have hc1 : fb_rg ((f_X2_touch zs l1).1 11) N := by rw [h1.2.2.2.2.2.1]; exact hc
    have h2 := pi_read h1.2.2.1 hb (l1 - (1792 : Int32)) hc1 hN
    exact ⟨iv_P h1 h2.1, h2.2⟩
theorem iv_store (h : fb_inv b tl n el m c ic zs) {v : Int32} (l1 : Int32) (hv : fb_rg v 256) : fb_inv b tl n el m c ic (f_X2_store zs l1 v) := by
  unfold f_X2_store
  split
  · exact h
  · exact iv_M h (put_rg h.2.1 _ _ hv)
theorem iv_write (h : fb_inv b tl n el m c ic zs) {v : Int32} (l1 : Int32) (hv : fb_rg v 256) : fb_inv (b + 1) (tl + 1) (n + 1) el m c ic (f_X2_write zs l1 v) := by
  have h1 := iv_touch h (l1 + (4096 : Int32))
  unfold f_X2_write
  split
  · exact iv_w (iv_store h1 _ hv)
  · exact iv_P h1 (pi_write h1.2.2.1 _ hv)
theorem iv_op227 (h : fb_inv b tl n el m c ic zs) (l2 k0 : Int32) : fb_inv b tl n el m c ic (f_X2_operate_227 zs l2 k0 (2 : Int32)) := by
  have h1 := iv_flag h (l1 := 2) (fr_lit 2 (by decide)) k0
  unfold f_X2_operate_227
  split <;> split <;> exact iv_flag (iv_flag h1 (fr_lit 16 (by decide)) _) (fr_lit 8 (by decide)) _
theorem iv_operate (h : fb_inv b tl n el m c ic zs) {l2 : Int32} (l1 : Int32) (hv : fb_rg l2 256) : fb_inv b tl n el m c ic (f_X2_operate zs l1 l2) := by
  have h5 : fb_rg (zs.1 5) 256 := h.1 5
  unfold f_X2_operate
  refine fb_ite (P := fb_inv b tl n el m c ic) (fun _ => ?_) (fun _ => ?_); · exact iv_zn5 h hv
  refine fb_ite (P := fb_inv b tl n el m c ic) (fun _ => ?_) (fun _ => ?_); · exact iv_zn6 h hv
  refine fb_ite (P := fb_inv b tl n el m c ic) (fun _ => ?_) (fun _ => ?_); · exact iv_add h _ _
  refine fb_ite (P := fb_inv b tl n el m c ic) (fun _ => ?_) (fun _ => ?_); · exact iv_add h _ _
  refine fb_ite (P := fb_inv b tl n el m c ic) (fun _ => ?_) (fun _ => ?_); · exact iv_add h _ _
  refine fb_ite (P := fb_inv b tl n el m c ic) (fun _ => ?_) (fun _ => ?_); · exact iv_add h _ _
  refine fb_ite (P := fb_inv b tl n el m c ic) (fun _ => ?_) (fun _ => ?_); · exact iv_compare h _ _
  refine fb_ite (P := fb_inv b tl n el m c ic) (fun _ => ?_) (fun _ => ?_); · exact iv_compare h _ _
  refine fb_ite (P := fb_inv b tl n el m c ic) (fun _ => ?_) (fun _ => ?_); · exact iv_zn5 h (fr_andl h5 _)
  refine fb_ite (P := fb_inv b tl n el m c ic) (fun _ => ?_) (fun _ => ?_); · exact iv_zn5 h (fr_or256 h5 hv)
  refine fb_ite (P := fb_inv b tl n el m c ic) (fun _ => ?_) (fun _ => ?_); · exact iv_zn5 h (fr_xor256 h5 hv)
  split <;> exact iv_op227 h _ _
theorem iv_control (h : fb_inv b tl n el m c ic zs) (l1 l2 : Int32) : fb_inv b tl (n + 5) el m c ic (f_X2_control zs l1 l2) := by
  unfold f_X2_control
  refine fb_ite (P := fb_inv b tl (n + 5) el m c ic) (fun _ => ?_) (fun _ => ?_); · exact iv_w (iv_R 10 (by decide) h (fr_lit 2 (by decide)))
  refine fb_ite (P := fb_inv b tl (n + 5) el m c ic) (fun _ => ?_) (fun _ => ?_); · exact iv_w (iv_R 10 (by decide) h (fr_lit 1 (by decide)))
  refine fb_ite (P := fb_inv b tl (n + 5) el m c ic) (fun _ => ?_) (fun _ => ?_); · exact iv_w (iv_endCall (iv_R 9 (by decide) (iv_pullA h) (fr_4095 _)))
  refine fb_ite (P := fb_inv b tl (n + 5) el m c ic) (fun _ => ?_) (fun _ => ?_); · exact iv_w (iv_endCall (iv_R 9 (by decide) (iv_pullA (iv_R 8 (by decide) (iv_pull h) (fr_31 _))) (fr_4095 _)))
  refine fb_ite (P := fb_inv b tl (n + 5) el m c ic) (fun _ => ?_) (fun _ => ?_); · exact iv_w (iv_enter h _ _)
  refine fb_ite (P := fb_inv b tl (n + 5) el m c ic) (fun _ => ?_) (fun _ => ?_); · exact iv_w (iv_flag h (fr_lit 1 (by decide)) _)
  refine fb_ite (P := fb_inv b tl (n + 5) el m c ic) (fun _ => ?_) (fun _ => ?_); · exact iv_w (iv_flag h (fr_lit 1 (by decide)) _)
  exact iv_w h
theorem iv_transfer (h : fb_inv b tl n el m c ic zs) (l1 : Int32) : fb_inv b tl n el (m + 8) c ic (f_X2_transfer zs l1) := by
  unfold f_X2_transfer
  refine fb_ite (P := fb_inv b tl n el (m + 8) c ic) (fun _ => ?_) (fun _ => ?_); · exact iv_w (iv_flag h (fr_lit 4 (by decide)) _)
  refine fb_ite (P := fb_inv b tl n el (m + 8) c ic) (fun _ => ?_) (fun _ => ?_); · exact iv_w (iv_flag h (fr_lit 4 (by decide)) _)
  refine fb_ite (P := fb_inv b tl n el (m + 8) c ic) (fun _ => ?_) (fun _ => ?_); · exact iv_w (iv_zn6 h (h.1 5))
  refine fb_ite (P := fb_inv b tl n el (m + 8) c ic) (fun _ => ?_) (fun _ => ?_); · exact iv_w (iv_zn5 h (h.1 6))
  refine fb_ite (P := fb_inv b tl n el (m + 8) c ic) (fun _ => ?_) (fun _ => ?_); · exact iv_w (iv_zn6 h (h.1 7))
  refine fb_ite (P := fb_inv b tl n el (m + 8) c ic) (fun _ => ?_) (fun _ => ?_); · exact iv_w (iv_R 7 (by decide) h (h.1 6))
  refine fb_ite (P := fb_inv b tl n el (m + 8) c ic) (fun _ => ?_) (fun _ => ?_); · exact iv_w (iv_R 6 (by decide) (iv_zn5 h (h.1 6)) (h.1 5))
  exact iv_w (iv_mul h)
theorem iv_stack (h : fb_inv b tl n el m c ic zs) (l1 : Int32) : fb_inv b tl (n + 1) el m c ic (f_X2_stack zs l1) := by
  unfold f_X2_stack
  refine fb_ite (P := fb_inv b tl (n + 1) el m c ic) (fun _ => ?_) (fun _ => ?_); · exact iv_w (iv_push h (h.1 5))
  refine fb_ite (P := fb_inv b tl (n + 1) el m c ic) (fun _ => ?_) (fun _ => ?_); · exact iv_w (iv_zn5 (iv_pull h) (pull_1 h))
  refine fb_ite (P := fb_inv b tl (n + 1) el m c ic) (fun _ => ?_) (fun _ => ?_); · exact iv_w (iv_push h (h.1 6))
  refine fb_ite (P := fb_inv b tl (n + 1) el m c ic) (fun _ => ?_) (fun _ => ?_); · exact iv_w (iv_zn6 (iv_pull h) (pull_1 h))
  refine fb_ite (P := fb_inv b tl (n + 1) el m c ic) (fun _ => ?_) (fun _ => ?_); · exact iv_w (iv_push h (fr_mono (show fb_rg (zs.1 8) 32 from h.1 8) (by decide)))
  refine fb_ite (P := fb_inv b tl (n + 1) el m c ic) (fun _ => ?_) (fun _ => ?_); · exact iv_w (iv_R 8 (by decide) (iv_pull h) (fr_31 _))
  refine fb_ite (P := fb_inv b tl (n + 1) el m c ic) (fun _ => ?_) (fun _ => ?_); · exact iv_w (iv_zn6 h (fr_255 _))
  exact iv_w (iv_zn6 h (fr_255 _))
theorem iv_onA (h : fb_inv b tl n el m c ic zs) (l1 : Int32) : fb_inv b tl n el (m + 8) c ic (f_X2_onA zs l1) := by
  obtain ⟨a, ha, ea⟩ := (show fb_rg (zs.1 5) 256 from h.1 5)
  unfold f_X2_onA
  split
  · refine iv_w (iv_zn5 h ?_)
    rw [ea]
    refine ⟨a / 16 + a % 16 * 16, by omega, ?_⟩
    rw [show nI a - nI a / (16 : Int32) * (16 : Int32) = nI (a % 16) from pk_rem (d := 16) (by omega) (by decide) (by decide), show nI a / (16 : Int32) = nI (a / 16) from pk_div (d := 16) (by omega) (by decide) (by decide), show (16 : Int32) = nI 16 from rfl, pk_mul, nI_add]
  split; · exact iv_w (iv_zn5 h (fr_255 _))
  split
  · refine iv_w (iv_zn5 h ?_)
    rw [ea]
    exact ⟨255 - a, by omega, pk_sub (a := 255) (b := a) (by omega)⟩
  split; · exact iv_w (iv_div h)
  have h1 := iv_shifted h l1 (h.1 5)
  exact iv_w (iv_R 5 (by decide) h1.1 h1.2)
theorem iv_br73 (h : fb_inv b tl n el m c ic zs) (l2 : Int32) : fb_inv b tl n (el + 1) (m + 1) c ic (f_X2_branch_73 zs l2) := iv_R 9 (by decide) (iv_15 h (bt_add h.2.2.2.2.1 1)) (fr_4095 _)
theorem iv_br53 (h : fb_inv b tl n el m c ic zs) (l1 l2 l3 : Int32) : fb_inv b tl (n + 2) el (m + 1) c ic (f_X2_branch_53 zs l1 l2 l3) := by
  unfold f_X2_branch_53
  split
  · have h1 := iv_begin h l3
    exact iv_w (iv_br73 (iv_pushA h1 (h1.1 9)) _)
  · exact iv_w (iv_br73 h _)
theorem iv_branch (h : fb_inv b tl n el m c ic zs) (l1 l2 l3 : Int32) : fb_inv b tl (n + 2) el (m + 1) c ic (f_X2_branch zs l1 l2 l3) := by
  unfold f_X2_branch f_X2_branch_33 f_X2_branch_49
  repeat (first | exact iv_br53 h _ _ _ | exact iv_w h | split)
theorem iv_jump (h : fb_inv b tl n el m c ic zs) {l2 : Int32} (l1 l3 : Int32) (hv : fb_rg l2 4096) : fb_inv b tl (n + 2) el m c ic (f_X2_jump zs l1 l2 l3) := by
  unfold f_X2_jump
  split
  · have h1 := iv_begin h l3
    exact iv_w (iv_R 9 (by decide) (iv_pushA h1 (h1.1 9)) hv)
  · exact iv_w (iv_R 9 (by decide) h hv)
theorem iv_mod17 (h : fb_inv b tl n el m c ic zs) (hb : b < 1000000000) {N : Nat} (hc : fb_rg c N) (hN : N ≤ 2147483648) {l3 : Int32} (l1 l2 k0 : Int32) (hv : fb_rg l3 256) : fb_inv (b + 1) tl (n + 2) el m c ic (f_X2_moded_17 zs l1 l2 l3 k0) := by
  unfold f_X2_moded_17
  have h1 := iv_read h hb hc hN k0
  split; · exact iv_w (iv_write h _ (h.1 5))
  split; · exact iv_w (iv_write h _ (h.1 6))
  split
  · split
    · exact iv_w (iv_operate h _ hv)
    · exact iv_w (iv_operate h1.1 _ h1.2)
  · have h2 := iv_changed h1.1 l1 h1.2
    exact iv_w (iv_write h2.1 _ h2.2)
theorem iv_moded (h : fb_inv b tl n el m c ic zs) (hb : b < 1000000000) {N : Nat} (hc : fb_rg c N) (hN : N ≤ 2147483648) {l3 : Int32} (l1 l2 l4 : Int32) (hv : fb_rg l3 256) : fb_inv (b + 1) tl (n + 4) el m c ic (f_X2_moded zs l1 l2 l3 l4) := by
  unfold f_X2_moded
  split
  · exact iv_w (iv_mod17 h hb hc hN _ _ _ hv)
  · exact iv_w (iv_mod17 (iv_target h l2 l3 l4).1 hb hc hN _ _ _ hv)
theorem iv_copy_2 {l1 : Int32} (hl : fb_rg l1 256) : ∀ (k : Nat) (zs : fb_MS) (l2 : Int32), fb_inv b tl n el m c ic zs → fb_inv b tl n el (m + 510) c ic (f_X2_copy_2 k zs l1 l2) := by
  intro k
  induction k with
  | zero => intro zs l2 h; exact iv_w h
  | succ k ih =>
    intro zs l2 h
    unfold f_X2_copy_2
    split
    · obtain ⟨j, hj, e⟩ := hl
      have h1 : fb_bt el (m + 510) (zs.1 15 + (2 : Int32) * l1) := by
        rw [e, show (2 : Int32) * nI j = nI (2 * j) from pk_mul 2 j]
        exact bt_w (bt_add h.2.2.2.2.1 (2 * j)) (by omega) (by omega)
      exact iv_P (iv_15 h h1) (pi_R 4 (by decide) h.2.2.1 (fr_or16 (show fb_rg _ 16 from h.2.2.1.1.1 4) (fr_lit 8 (by decide))))
    · exact ih _ _ (iv_store h _ (shown_rg h _))
theorem iv_co232 (h : fb_inv b tl n el m c ic zs) : fb_inv b tl n el (m + 510) c ic (f_X2_carryOut_232 zs) := by
  unfold f_X2_carryOut_232
  split
  · exact iv_w h
  · exact iv_copy_2 (h.2.2.1.1.1 13) _ _ _ h
/-- the machine as an instruction finds it -/
def fb_co (zs : fb_MS) : fb_MS :=
  let z1 := fb_sR zs 9 (((zs.1 9) + (f_X11_lengthOf (f_X2_shown zs (zs.1 9)))) &&& (4095 : Int32))
  let z2 := fb_sR z1 15 (f_X11_lengthOf (f_X2_shown zs (zs.1 9)))
  let z3 := fb_sR z2 12 (z2.1 12 + (1 : Int32))
  let z4 := fb_sT z3 (f_X11_put 4096 z3.2.2.1 (zs.1 9) ((f_X11_at 4096 z3.2.2.1 (zs.1 9)) + (1 : Int32)))
  fb_sP z4 (fb_pR z4.2.2.2.2.2 13 (0 : Int32))
theorem iv_co (h : fb_inv b tl n el m c ic zs) (hl : ¬ f_X11_lengthOf (f_X2_shown zs (zs.1 9)) = 0) : fb_inv b tl n 1 3 c (ic + 1) (fb_co zs) := by
  have h1 : fb_inv b tl n el m c ic (fb_sR zs 9 (((zs.1 9) + (f_X11_lengthOf (f_X2_shown zs (zs.1 9)))) &&& (4095 : Int32))) := iv_R 9 (by decide) h (fr_4095 _)
  have h2 := iv_15 h1 (len_bt hl)
  have h3 := iv_12 (v := ic + 1) h2
  have h4 := iv_P h3 (pi_R 13 (by decide) h3.2.2.1 (fr_lit 0 (by decide)))
  have e12 : (fb_sR (fb_sR zs 9 (((zs.1 9) + (f_X11_lengthOf (f_X2_shown zs (zs.1 9)))) &&& (4095 : Int32))) 15 (f_X11_lengthOf (f_X2_shown zs (zs.1 9)))).1 12 = ic := h2.2.2.2.2.2.2
  unfold fb_co
  simp only [e12]
  exact h4
def fb_cx (zs : fb_MS) (x : Int32) : fb_MS :=
  if (x >>> ((3 : Int32) &&& 31)) = 0 then f_X2_control (fb_co zs) x (zs.1 9)
  else if (x >>> ((3 : Int32) &&& 31)) = (1 : Int32) then f_X2_transfer (fb_co zs) (x &&& (7 : Int32))
  else if (x >>> ((3 : Int32) &&& 31)) = (2 : Int32) then f_X2_stack (fb_co zs) (x &&& (7 : Int32))
  else if (x >>> ((3 : Int32) &&& 31)) = (3 : Int32) then f_X2_onA (fb_co zs) (x &&& (7 : Int32))
  else if x < (208 : Int32) then
    if (x >>> ((3 : Int32) &&& 31)) < (24 : Int32) then f_X2_moded (fb_co zs) (x >>> ((3 : Int32) &&& 31)) (x &&& (7 : Int32)) (f_X2_shown zs ((zs.1 9) + (1 : Int32))) (f_X2_shown zs ((zs.1 9) + (2 : Int32)))
    else f_X2_jump (f_X2_target (fb_co zs) (x &&& (7 : Int32)) (f_X2_shown zs ((zs.1 9) + (1 : Int32))) (f_X2_shown zs ((zs.1 9) + (2 : Int32)))).2 (x >>> ((3 : Int32) &&& 31)) (f_X2_target (fb_co zs) (x &&& (7 : Int32)) (f_X2_shown zs ((zs.1 9) + (1 : Int32))) (f_X2_shown zs ((zs.1 9) + (2 : Int32)))).1 (zs.1 9)
  else f_X2_branch (fb_co zs) x (f_X2_shown zs ((zs.1 9) + (1 : Int32))) (zs.1 9)
theorem carry_eq (zs : fb_MS) : f_X2_carryOut zs = if (f_X11_lengthOf (f_X2_shown zs ((zs).1 9))) = 0 then (fb_sR (fb_sR zs 10 (3 : Int32)) 15 (1 : Int32)) else f_X2_carryOut_232 (fb_cx zs (f_X2_shown zs (zs.1 9))) := by
  unfold f_X2_carryOut fb_cx
  split
  · rfl
  · split; · rfl
    split; · rfl
    split; · rfl
    split; · rfl
    split
    · split <;> rfl
    · rfl
theorem iv_cx (h : fb_inv b tl n el m c ic zs) (hb : b < 1000000000) {N : Nat} (hc : fb_rg c N) (hN : N ≤ 2147483648) (hl : ¬ f_X11_lengthOf (f_X2_shown zs (zs.1 9)) = 0) (x : Int32) : fb_inv (b + 1) tl (n + 5) 1 11 c (ic + 1) (fb_cx zs x) := by
  have h1 := iv_co h hl
  have v1 := shown_rg h ((zs.1 9) + (1 : Int32))
  unfold fb_cx
  split; · exact iv_w (iv_control h1 _ _)
  split; · exact iv_w (iv_transfer h1 _)
  split; · exact iv_w (iv_stack h1 _)
  split; · exact iv_w (iv_onA h1 _)
  split
  · split
    · exact iv_w (iv_moded h1 hb hc hN _ _ _ v1)
    · have h2 := iv_target h1 (x &&& (7 : Int32)) (f_X2_shown zs ((zs.1 9) + (1 : Int32))) (f_X2_shown zs ((zs.1 9) + (2 : Int32)))
      exact iv_w (iv_jump h2.1 _ _ h2.2)
  · exact iv_w (iv_branch h1 _ _ _)
theorem iv_carry (h : fb_inv b tl n el m c ic zs) (hb : b < 1000000000) {N : Nat} (hc : fb_rg c N) (hN : N ≤ 2147483648) : ∃ ic', (ic' = ic ∨ ic' = ic + 1) ∧ fb_inv (b + 1) tl (n + 5) 1 521 c ic' (f_X2_carryOut zs) := by
  rw [carry_eq]
  split
  · exact ⟨ic, Or.inl rfl, iv_w (iv_15 (iv_R 10 (by decide) h (fr_lit 3 (by decide))) ⟨1, Nat.le_refl 1, Nat.le_refl 1, rfl⟩)⟩
  · rename_i hl
    exact ⟨ic + 1, Or.inr rfl, iv_co232 (iv_cx h hb hc hN hl _)⟩
/-- a step: one cycle at least, 600 at most -/
theorem iv_105 (h : fb_inv b tl n el m c ic zs) (h1 : 1 ≤ tl + el) (h2 : n + m ≤ 600) : ∃ t, 1 ≤ t ∧ t ≤ 600 ∧ (f_X2_advance_105 zs).1 = nI t ∧ fb_inv b tl n el m (c + nI t) ic (f_X2_advance_105 zs).2 := by
  obtain ⟨j, j1, j2, ej⟩ := h.2.2.2.1
  obtain ⟨k, k1, k2, ek⟩ := h.2.2.2.2.1
  have e : zs.1 14 + zs.1 15 = nI (j + k) := by rw [ej, ek, nI_add]
  refine ⟨j + k, by omega, by omega, e, ?_⟩
  have e11 : zs.1 11 = c := h.2.2.2.2.2.1
  have h3 := iv_11 (v := c + nI (j + k)) h
  unfold f_X2_advance_105
  simp only [e, e11]
  exact iv_P h3 (pi_pass h3.2.2.1 _)
theorem iv_96 (h : fb_inv b 0 0 0 0 c ic zs) (hb : b < 1000000000) {N : Nat} (hc : fb_rg c N) (hN : N ≤ 2147483648) : ∃ t ic', 1 ≤ t ∧ t ≤ 600 ∧ (ic' = ic ∨ ic' = ic + 1) ∧ (f_X2_advance_96 zs).1 = nI t ∧ fb_inv (b + 1) 0 5 0 521 (c + nI t) ic' (f_X2_advance_96 zs).2 := by
  obtain ⟨ic', hi, h1⟩ := iv_carry (iv_R 10 (v := 0) (by decide) h (fr_lit 0 (by decide))) hb hc hN
  obtain ⟨t, t1, t2, e, h2⟩ := iv_105 h1 (by omega) (by omega)
  exact ⟨t, ic', t1, t2, hi, e, iv_w h2⟩
theorem iv_76 (h : fb_inv b 0 0 0 0 c ic zs) (hb : b < 1000000000) {N : Nat} (hc : fb_rg c N) (hN : N ≤ 2147483648) (l1 : Int32) : ∃ t ic', 1 ≤ t ∧ t ≤ 600 ∧ (ic' = ic ∨ ic' = ic + 1) ∧ (f_X2_advance_76 zs l1).1 = nI t ∧ fb_inv (b + 1) 0 5 0 521 (c + nI t) ic' (f_X2_advance_76 zs l1).2 := by
  unfold f_X2_advance_76
  split
  · split
    · obtain ⟨t, t1, t2, e, h2⟩ := iv_105 (iv_15 (el' := 1) (m' := 1) (v := 1) h ⟨1, Nat.le_refl 1, Nat.le_refl 1, rfl⟩) (by omega) (by omega)
      exact ⟨t, ic, t1, t2, Or.inl rfl, e, iv_w h2⟩
    · exact iv_96 h hb hc hN
  · exact iv_96 h hb hc hN
theorem iv_adv (h : fb_inv b tl n el m c ic zs) (hb : b < 1000000000) {N : Nat} (hc : fb_rg c N) (hN : N ≤ 2147483648) (he : f_X2_endReason zs = 0) : ∃ t ic', 1 ≤ t ∧ t ≤ 600 ∧ (ic' = ic ∨ ic' = ic + 1) ∧ (f_X2_advance zs).1 = nI t ∧ fb_inv (b + 1) 0 5 0 521 (c + nI t) ic' (f_X2_advance zs).2 := by
  have z0 : fb_bt 0 0 (0 : Int32) := ⟨0, Nat.le_refl 0, Nat.le_refl 0, rfl⟩
  have h1 : fb_inv b 0 0 0 0 c ic (fb_sR (fb_sR zs 14 (0 : Int32)) 15 (0 : Int32)) := iv_15 (iv_14 h z0) z0
  have he1 : f_X2_endReason (fb_sR (fb_sR zs 14 (0 : Int32)) 15 (0 : Int32)) = 0 := he
  unfold f_X2_advance
  rw [if_pos he1]
  split
  · split
    · exact iv_76 h1 hb hc hN _
    · split
      · obtain ⟨t, t1, t2, e, h2⟩ := iv_105 (iv_takeBy h1 ((2 : Int32) + (f_X5_firstWanting ((fb_sR (fb_sR zs 14 (0 : Int32)) 15 (0 : Int32))).2.2.2.2.2))) (by omega) (by omega)
        exact ⟨t, ic, t1, t2, Or.inl rfl, e, iv_w h2⟩
      · exact iv_76 h1 hb hc hN _
  · obtain ⟨t, t1, t2, e, h2⟩ := iv_105 (iv_takeBy (iv_B (f := false) h1) (1 : Int32)) (by omega) (by omega)
    exact ⟨t, ic, t1, t2, Or.inl rfl, e, iv_w h2⟩
end IVM
