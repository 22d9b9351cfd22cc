/-! the search and the digest of a fresh board -/
theorem at_nI {N : Nat} (f : fb_AR) {j : Nat} (hN : N ≤ 1000000) (hj : j < N) : f_X11_at N f (nI j) = f j := by
  unfold f_X11_at
  rw [if_neg (nI_pos (by omega)), if_neg (nI_ge (b := N) (a := j) hj (by omega)), nI_clamp (by omega)]
theorem put_nI {N : Nat} (f : fb_AR) {j : Nat} (v : Int32) (hN : N ≤ 1000000) (hj : j < N) : f_X11_put N f (nI j) v = upd f j v := by
  unfold f_X11_put
  rw [if_neg (nI_pos (by omega)), if_neg (nI_ge (b := N) (a := j) hj (by omega)), nI_clamp (by omega)]
theorem vec_zero {s : fb_MS} (h : s.2.1 = fun _ => 0) (x : Int32) : f_X2_vector s x = 0 := by
  unfold f_X2_vector
  rw [h, at_zero, at_zero]
  decide
theorem come_no {e c o : fb_AR} {j : Nat} (hj : j < 4096) (hc : c j = 1) : f_X6_comeTo e c o (nI j) = (e, c, o) := by
  unfold f_X6_comeTo
  rw [at_nI c (by omega) hj, hc, if_neg (by decide)]
theorem come_yes {e c o : fb_AR} {j : Nat} (hj : j < 4096) (hc : c j = 0) (he : e 3 = 0) : f_X6_comeTo e c o (nI j) = (upd e 3 1, upd c j 1, upd o 0 (nI j)) := by
  unfold f_X6_comeTo
  rw [at_nI c (by omega) hj, hc, if_pos rfl, he, put_nI c 1 (by omega) hj]
  rw [show (0 : Int32) = nI 0 from rfl, put_nI o (nI j) (by omega) (show 0 < 4096 by omega)]
  rfl
theorem go_zero {s : fb_MS} {k : Nat} (h : fb_np k s) (e c b o : fb_AR) (x : Int32) : f_X6_goFrom e c b o s x = ((f_X6_comeTo (upd e 4 (e 4 + 1)) c o ((x + 1) &&& 4095)).1, (f_X6_comeTo (upd e 4 (e 4 + 1)) c o ((x + 1) &&& 4095)).2.1, f_X11_put 4096 b x 1, (f_X6_comeTo (upd e 4 (e 4 + 1)) c o ((x + 1) &&& 4095)).2.2) := by
  unfold f_X6_goFrom
  rw [np_shown h, np_len, if_neg (show ¬ (1 : Int32) = 0 by decide), if_neg (show ¬ (0 : Int32) = 1 by decide), if_neg (show ¬ (0 : Int32) = 3 by decide), if_neg (show ¬ (0 : Int32) = 4 by decide), if_neg (show ¬ (0 : Int32) = 216 by decide), if_neg (show ¬ (0 : Int32) >>> ((3 : Int32) &&& 31) = 24 by decide)]
  unfold f_X6_goFrom_76
  rw [if_pos rfl]
  unfold f_X6_goFrom_95
  rw [if_neg (show ¬ (0 : Int32) >>> ((3 : Int32) &&& 31) = 24 by decide), if_neg (show ¬ (0 : Int32) >>> ((3 : Int32) &&& 31) = 25 by decide)]
  unfold f_X6_goFrom_121 f_X6_goFrom_122
  rw [if_pos rfl, if_pos (show (0 : Int32) < 208 by decide)]
  unfold f_X6_goFrom_149
  rw [if_neg (show ¬ (0 : Int32) = 5 by decide)]
abbrev fb_ex (j : Nat) (e c b o : fb_AR) : Prop := (e 3 = if j < 4096 then 1 else 0) ∧ e 4 = nI j ∧ (∀ i, i < 4096 → c i = if i ≤ j then 1 else 0) ∧ (∀ i, i < 4096 → b i = if i < j then 1 else 0) ∧ (j < 4096 → o 0 = nI j)
theorem fb_ex.n3 {j : Nat} {e c b o : fb_AR} (h : fb_ex j e c b o) : e 3 = if j < 4096 then 1 else 0 := h.1
theorem fb_ex.n4 {j : Nat} {e c b o : fb_AR} (h : fb_ex j e c b o) : e 4 = nI j := h.2.1
theorem fb_ex.cs {j : Nat} {e c b o : fb_AR} (h : fb_ex j e c b o) : ∀ i, i < 4096 → c i = if i ≤ j then 1 else 0 := h.2.2.1
theorem fb_ex.bs {j : Nat} {e c b o : fb_AR} (h : fb_ex j e c b o) : ∀ i, i < 4096 → b i = if i < j then 1 else 0 := h.2.2.2.1
theorem fb_ex.os {j : Nat} {e c b o : fb_AR} (h : fb_ex j e c b o) : j < 4096 → o 0 = nI j := h.2.2.2.2
theorem ex_step {s : fb_MS} {k j : Nat} (h : fb_np k s) {e c b o : fb_AR} (H : fb_ex j e c b o) (hj : j < 4096) : ∃ e' c' b' o', f_X6_goFrom (upd e 3 (e 3 - 1)) c b o s (f_X11_at 4096 o ((upd e 3 (e 3 - 1)) 3)) = (e', c', b', o') ∧ fb_ex (j + 1) e' c' b' o' := by
  have e3 : e 3 = 1 := H.n3.trans (if_pos hj)
  have ha : f_X11_at 4096 o (0 : Int32) = nI j := (at_nI (j := 0) o (by omega) (by omega)).trans (H.os hj)
  rw [e3, show (1 : Int32) - 1 = 0 by decide, pk_us, ha, go_zero h, put_nI b 1 (by omega) hj]
  have e4 : upd e 3 (0 : Int32) 4 = nI j := H.n4
  rw [e4]
  have ex : (nI j + 1) &&& (4095 : Int32) = nI ((j + 1) % 4096) := by
    rw [np_nI1, pk_andN (n := j + 1) (by omega) (m := 4095) 12 (by decide)]
  rw [ex, np_nI1]
  have hb : ∀ i, i < 4096 → upd b j 1 i = if i < j + 1 then 1 else 0 := by
    intro i hi
    by_cases q : i = j
    · subst q; rw [pk_us, if_pos (by omega)]
    · rw [pk_un q, H.bs i hi]
      by_cases q2 : i < j
      · rw [if_pos q2, if_pos (by omega)]
      · rw [if_neg q2, if_neg (by omega)]
  by_cases hl : j + 1 < 4096
  · rw [Nat.mod_eq_of_lt hl]
    have hc : c (j + 1) = 0 := (H.cs _ hl).trans (if_neg (by omega))
    rw [come_yes hl hc (show upd (upd e 3 (0 : Int32)) 4 (nI (j + 1)) 3 = 0 from rfl)]
    refine ⟨upd (upd (upd e 3 (0 : Int32)) 4 (nI (j + 1))) 3 1, upd c (j + 1) 1, upd b j 1, upd o 0 (nI (j + 1)), rfl, ?_, ?_, ?_, hb, ?_⟩
    · rw [pk_us, if_pos hl]
    · rfl
    · intro i hi
      by_cases q : i = j + 1
      · subst q; rw [pk_us, if_pos (by omega)]
      · rw [pk_un q, H.cs i hi]
        by_cases q2 : i ≤ j
        · rw [if_pos q2, if_pos (by omega)]
        · rw [if_neg q2, if_neg (by omega)]
    · intro _; exact pk_us
  · have ej : j + 1 = 4096 := by omega
    rw [show (j + 1) % 4096 = 0 by omega]
    have hc : c 0 = 1 := (H.cs 0 (by omega)).trans (if_pos (by omega))
    rw [come_no (by omega) hc]
    refine ⟨upd (upd e 3 (0 : Int32)) 4 (nI (j + 1)), c, upd b j 1, o, rfl, ?_, ?_, ?_, hb, ?_⟩
    · rw [if_neg (by omega)]; rfl
    · rfl
    · intro i hi
      rw [H.cs i hi, if_pos (by omega), if_pos (by omega)]
    · intro q; omega
theorem ex_go {s : fb_MS} {k : Nat} (h : fb_np k s) : ∀ (f n j : Nat) (e c b o : fb_AR), fb_ex j e c b o → j + f = 4096 → f < n → (f_X6_explore_59 n e c b o s (nI j)).1 4 = nI 4096 ∧ ∀ i, i < 4096 → (f_X6_explore_59 n e c b o s (nI j)).2.2.1 i = 1 := by
  intro f
  induction f with
  | zero =>
    intro n j e c b o H hj hn
    obtain ⟨n, rfl⟩ : ∃ q, n = q + 1 := ⟨n - 1, by omega⟩
    obtain rfl : j = 4096 := by omega
    rw [f_X6_explore_59]
    rw [if_pos (show (4096 : Int32) ≤ nI 4096 by decide)]
    refine ⟨H.n4, fun i hi => ?_⟩
    show b i = 1
    rw [H.bs i hi, if_pos hi]
  | succ f ih =>
    intro n j e c b o H hj hn
    obtain ⟨n, rfl⟩ : ∃ q, n = q + 1 := ⟨n - 1, by omega⟩
    have e3 : e 3 = 1 := H.n3.trans (if_pos (by omega))
    rw [f_X6_explore_59]
    rw [if_neg (show ¬ (4096 : Int32) ≤ nI j from nI_ge (b := 4096) (a := j) (by omega) (by omega)), if_neg (show ¬ e 3 ≤ 0 by rw [e3]; decide)]
    obtain ⟨e', c', b', o', eq, H'⟩ := ex_step h H (show j < 4096 by omega)
    rw [eq, np_nI1]
    exact ih n (j + 1) e' c' b' o' H' (by omega) (by omega)
theorem ex_vec {s : fb_MS} (h : s.2.1 = fun _ => 0) {e c b o : fb_AR} (hc : c 0 = 1) : ∀ (f n q : Nat), q + f = 8 → f < n → f_X6_explore_36 n e c b o s (nI q) = f_X6_explore_59 ((fb_mu (0 : Int32) (4096 : Int32)) + 1) e c b o s (0 : Int32) := by
  intro f
  induction f with
  | zero =>
    intro n q hq hn
    obtain ⟨n, rfl⟩ : ∃ q, n = q + 1 := ⟨n - 1, by omega⟩
    rw [f_X6_explore_36]
    rw [if_pos (show (8 : Int32) ≤ nI q from nI_le (a := 8) (b := q) (by omega) (by omega))]
  | succ f ih =>
    intro n q hq hn
    obtain ⟨n, rfl⟩ : ∃ q, n = q + 1 := ⟨n - 1, by omega⟩
    rw [f_X6_explore_36]
    rw [if_neg (show ¬ (8 : Int32) ≤ nI q from nI_ge (b := 8) (a := q) (by omega) (by omega)), vec_zero h]
    rw [show f_X6_comeTo e c o (0 : Int32) = (e, c, o) from come_no (j := 0) (by omega) hc, np_nI1]
    exact ih n (q + 1) (by omega) (by omega)
theorem fb_mu12 : fb_mu (0 : Int32) (4096 : Int32) = 4096 := by decide
def fb_R (r : fb_AR × fb_AR × fb_AR × fb_AR) : Prop := r.1 4 = nI 4096 ∧ ∀ i, i < 4096 → r.2.2.1 i = 1
theorem ex_go0 {s : fb_MS} {k : Nat} (h : fb_np k s) (n : Nat) (z : Int32) (hz : z = nI 0) (hn : 4096 < n) {e c b o : fb_AR} (H : fb_ex 0 e c b o) : fb_R (f_X6_explore_59 n e c b o s z) := by
  subst hz
  exact ex_go h 4096 n 0 e c b o H (by omega) hn
theorem ex_vec0 {s : fb_MS} (h : s.2.1 = fun _ => 0) {e c b o : fb_AR} (hc : c 0 = 1) (n : Nat) (z : Int32) (hz : z = nI 0) (hn : 8 < n) : f_X6_explore_36 n e c b o s z = f_X6_explore_59 ((fb_mu (0 : Int32) (4096 : Int32)) + 1) e c b o s (0 : Int32) := by
  subst hz
  exact ex_vec h hc 8 n 0 (by omega) hn
theorem ex_start (o : fb_AR) : f_X6_comeTo (fun _ => (0 : Int32)) (fun _ => (0 : Int32)) o (fb_s0.1 9) = (upd (fun _ => 0) 3 1, upd (fun _ => 0) 0 1, upd o 0 (nI 0)) := by
  rw [np_0.pc]
  exact come_yes (j := 0) (by omega) rfl rfl
theorem ex_begin (o : fb_AR) : fb_ex 0 (upd (fun _ => 0) 3 1) (upd (fun _ => 0) 0 1) (fun _ => 0) (upd o 0 (nI 0)) := by
  refine ⟨?_, ?_, ?_, ?_, ?_⟩
  · rfl
  · rfl
  · intro i hi
    by_cases q : i = 0
    · subst q; rfl
    · rw [pk_un q, if_neg (by omega)]
  · intro i hi
    rw [if_neg (by omega)]
  · intro _; rfl
theorem ex_key (e c b o : fb_AR) : f_X6_explore e c b o fb_s0 = f_X6_explore_59 ((fb_mu (0 : Int32) (4096 : Int32)) + 1) (upd (fun _ => 0) 3 1) (upd (fun _ => 0) 0 1) (fun _ => 0) (upd o 0 (nI 0)) fb_s0 (0 : Int32) := by
  unfold f_X6_explore
  unfold f_J7_fill_53178
  rw [ex_start o]
  exact ex_vec0 np_0.mem rfl _ _ rfl (by decide)
theorem a_expl (e c b o : fb_AR) : fb_R (f_X6_explore e c b o fb_s0) := by
  rw [ex_key]
  exact ex_go0 np_0 _ _ rfl (by rw [fb_mu12]; omega) (ex_begin o)
theorem a_explore (e c b o : fb_AR) : (f_X6_explore e c b o fb_s0).1 4 = nI 4096 ∧ ∀ i, i < 4096 → (f_X6_explore e c b o fb_s0).2.2.1 i = 1 := a_expl e c b o
theorem a_codes1 (s : fb_MS) (e c b o : fb_AR) (h : fb_R (f_X6_explore e c b o s)) : f_X11_codes s e c b o = nI 4096 := by
  unfold f_X11_codes
  exact h.1
theorem a_codes (e c b o : fb_AR) : f_X11_codes fb_s0 e c b o = nI 4096 := a_codes1 fb_s0 e c b o (a_expl e c b o)
theorem a_isCode (e c b o : fb_AR) {j : Nat} (hj : j < 4096) : f_X11_isCode fb_s0 e c b o (nI j) = 1 := by
  unfold f_X11_isCode
  have h := (a_explore e c b o).2 j hj
  rw [at_nI _ (by omega) hj, h, if_neg (show ¬ (1 : Int32) = 0 by decide)]
theorem dg_shift (d : Int64) (n : Nat) : fr_dg (f_X12_add_ d ((0 : Int32).toInt64)) n = f_X12_add_ (fr_dg d n) ((0 : Int32).toInt64) := by
  induction n with
  | zero => rfl
  | succ n ih => show f_X12_add_ (fr_dg _ n) _ = _; rw [ih]; rfl
theorem np_out0 (d : Int64) {π : fb_PS} (h : π.1 6 = 0) : f_X5_mixOutputs π d = d := by
  have e : f_X5_outputsKept π = 0 := by
    unfold f_X5_outputsKept
    rw [h, if_neg (by decide)]
  unfold f_X5_mixOutputs
  rw [f_X5_mixOutputs_2]
  rw [e, if_pos (by decide)]
theorem np_dig {s : fb_MS} (h : s.2.1 = fun _ => 0) (h6 : s.2.2.2.2.2.1 6 = 0) (a b c d e f g i : fb_AR) : ∀ (q n j : Nat) (v : Int64), j + q = 11008 → q < n → f_X11_digest_114 n s a b c d e f g i v (nI j) = fr_dg v q := by
  intro q
  induction q with
  | zero =>
    intro n j v hj hn
    obtain ⟨n, rfl⟩ : ∃ q, n = q + 1 := ⟨n - 1, by omega⟩
    rw [f_X11_digest_114]
    rw [if_pos (show (11008 : Int32) ≤ nI j from nI_le (a := 11008) (b := j) (by omega) (by omega))]
    exact np_out0 v h6
  | succ q ih =>
    intro n j v hj hn
    obtain ⟨n, rfl⟩ : ∃ q, n = q + 1 := ⟨n - 1, by omega⟩
    rw [f_X11_digest_114]
    rw [if_neg (show ¬ (11008 : Int32) ≤ nI j from nI_ge (b := 11008) (a := j) (by omega) (by omega)), h, at_zero, np_nI1, ih n (j + 1) _ (by omega) (by omega)]
    exact dg_shift v q
theorem fb_mu11 : fb_mu (0 : Int32) (11008 : Int32) = 11008 := by decide
theorem dig_mix3 (d : Int64) : f_X3_mix (fun _ => 0) (fun _ => 0) d = f_X12_add_ d ((0 : Int32).toInt64) := by
  unfold f_X3_mix
  rw [f_X3_mix_14]
  rw [if_pos (by decide)]
  rfl
theorem dig_calls {s : fb_MS} (h : s.1 13 = 0) (d : Int64) : f_X2_mixCalls s d = f_X12_add_ d ((0 : Int32).toInt64) := by
  unfold f_X2_mixCalls
  rw [h, f_X2_mixCalls_19]
  rw [if_pos (by decide)]
  rfl
theorem dig_regs {s : fb_MS} (h5 : s.1 5 = 0) (h6 : s.1 6 = 0) (h7 : s.1 7 = 255) (h8 : s.1 8 = 4) (h9 : s.1 9 = 0) (ha : s.1 10 = 0) (hb : s.1 11 = 0) (hc : s.1 12 = 0) (d : Int64) : f_X2_mixRegisters s d = f_X12_add_ (f_X12_add_ (f_X12_add_ (f_X12_add_ (f_X12_add_ (f_X12_add_ (f_X12_add_ (f_X12_add_ d ((0 : Int32).toInt64)) ((0 : Int32).toInt64)) ((255 : Int32).toInt64)) ((4 : Int32).toInt64)) ((0 : Int32).toInt64)) ((0 : Int32).toInt64)) ((0 : Int32).toInt64)) ((0 : Int32).toInt64) := by
  unfold f_X2_mixRegisters
  rw [h5, h6, h7, h8, h9, ha, hb, hc]
  rfl
theorem dig_cnt {π : fb_PS} (h2 : π.1 2 = 0) (h3 : π.1 3 = 0) (h4 : π.1 4 = 0) (h8 : π.1 8 = 0) (h5 : π.1 5 = 0) (h6 : π.1 6 = 0) (d : Int64) : f_X5_mixCounts π d = f_X12_add_ (f_X12_add_ (f_X12_add_ (f_X12_add_ (f_X12_add_ (f_X12_add_ d ((0 : Int32).toInt64)) ((0 : Int32).toInt64)) ((0 : Int32).toInt64)) ((0 : Int32).toInt64)) ((0 : Int32).toInt64)) ((0 : Int32).toInt64) := by
  unfold f_X5_mixCounts
  rw [h2, h3, h4, h8, h5, h6]
  rfl
theorem np_dig0 {s : fb_MS} (h : s.2.1 = fun _ => 0) (h6 : s.2.2.2.2.2.1 6 = 0) (a b c d e f g i : fb_AR) (n : Nat) (v : Int64) (z : Int32) (hz : z = nI 0) (hn : 11008 < n) : f_X11_digest_114 n s a b c d e f g i v z = fr_dg v 11008 := by
  subst hz
  exact np_dig h h6 a b c d e f g i 11008 n 0 v (by omega) hn
theorem a_dig1 (s : fb_MS) (hm : s.2.1 = fun _ => 0) (e6 zc zbg zop : fb_AR) (hx : fb_R (f_X6_explore e6 zc zbg zop s)) (hB : f_X2_busiest s = -1)
    (h5 : s.1 5 = 0) (h6 : s.1 6 = 0) (h7 : s.1 7 = 255) (h8 : s.1 8 = 4) (h9 : s.1 9 = 0) (ha : s.1 10 = 0) (hb : s.1 11 = 0) (hc : s.1 12 = 0) (hd : s.1 13 = 0)
    (p2 : s.2.2.2.2.2.1 2 = 0) (p3 : s.2.2.2.2.2.1 3 = 0) (p4 : s.2.2.2.2.2.1 4 = 0) (p8 : s.2.2.2.2.2.1 8 = 0) (p5 : s.2.2.2.2.2.1 5 = 0) (p6 : s.2.2.2.2.2.1 6 = 0) :
    f_X11_digest s e6 zc zbg zop (fun _ => 0) fb_h0 (fun _ => 0) (fun _ => 0) = (fr_dg (f_X12_add_ (f_X12_add_ (f_X12_add_ (f_X12_add_ (f_X12_add_ (f_X12_add_ (f_X12_add_ (f_X12_add_ (f_X12_add_ (f_X12_add_ (f_X12_add_ (f_X12_add_ (f_X12_add_ (f_X12_add_ (f_X12_add_ (f_X12_add_ (f_X12_add_ (f_X12_add_ (f_X12_add_ (f_X12_add_ (58008 : Int64) (((0 : Int32)).toInt64)) (((0 : Int32)).toInt64)) (((255 : Int32)).toInt64)) (((4 : Int32)).toInt64)) (((0 : Int32)).toInt64)) (((0 : Int32)).toInt64)) (((0 : Int32)).toInt64)) (((0 : Int32)).toInt64)) (((0 : Int32)).toInt64)) (((0 : Int32)).toInt64)) (((0 : Int32)).toInt64)) (((0 : Int32)).toInt64)) (((0 : Int32)).toInt64)) (((0 : Int32)).toInt64)) (((0 : Int32)).toInt64)) (((0 : Int32)).toInt64)) (((0 : Int32)).toInt64)) (((0 : Int32)).toInt64)) (((-1 : Int32)).toInt64)) (((nI 4096)).toInt64)) 11008) := by
  unfold f_X11_digest
  rw [hx.1, hB, dig_regs h5 h6 h7 h8 h9 ha hb hc, dig_cnt p2 p3 p4 p8 p5 p6, dig_calls hd, dig_mix3]
  rw [np_dig0 hm p6 _ _ _ _ _ _ _ _ _ _ (0 : Int32) rfl (by rw [fb_mu11]; omega)]
  rfl
theorem a_digest (e6 zc zbg zop : fb_AR) : f_X11_digest fb_s0 e6 zc zbg zop (fun _ => 0) fb_h0 (fun _ => 0) (fun _ => 0) = (fr_dg (f_X12_add_ (f_X12_add_ (f_X12_add_ (f_X12_add_ (f_X12_add_ (f_X12_add_ (f_X12_add_ (f_X12_add_ (f_X12_add_ (f_X12_add_ (f_X12_add_ (f_X12_add_ (f_X12_add_ (f_X12_add_ (f_X12_add_ (f_X12_add_ (f_X12_add_ (f_X12_add_ (f_X12_add_ (f_X12_add_ (58008 : Int64) (((0 : Int32)).toInt64)) (((0 : Int32)).toInt64)) (((255 : Int32)).toInt64)) (((4 : Int32)).toInt64)) (((0 : Int32)).toInt64)) (((0 : Int32)).toInt64)) (((0 : Int32)).toInt64)) (((0 : Int32)).toInt64)) (((0 : Int32)).toInt64)) (((0 : Int32)).toInt64)) (((0 : Int32)).toInt64)) (((0 : Int32)).toInt64)) (((0 : Int32)).toInt64)) (((0 : Int32)).toInt64)) (((0 : Int32)).toInt64)) (((0 : Int32)).toInt64)) (((0 : Int32)).toInt64)) (((0 : Int32)).toInt64)) (((-1 : Int32)).toInt64)) (((nI 4096)).toInt64)) 11008) := a_dig1 fb_s0 rfl e6 zc zbg zop (a_expl _ _ _ _) a_hottest rfl rfl rfl rfl np_0.pc rfl rfl rfl rfl rfl rfl rfl rfl rfl rfl
