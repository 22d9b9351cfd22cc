/-! the checksum doesn't see what the search for code left behind -/
def fb_rho (c : Int32) (z z' : fb_AR) : Prop := ∀ l : Int32, l < c → f_X11_at 4096 z l = f_X11_at 4096 z' l
theorem at_put_s (z z' : fb_AR) (c v : Int32) : f_X11_at 4096 (f_X11_put 4096 z c v) c = f_X11_at 4096 (f_X11_put 4096 z' c v) c := by
  unfold f_X11_at f_X11_put
  by_cases h : c < 0
  · rw [if_pos h, if_pos h]
  · rw [if_neg h, if_neg h]
    by_cases h2 : nI 4096 ≤ c
    · rw [if_pos h2, if_pos h2, if_neg h]
    · rw [if_neg h2, if_neg h2, if_neg h, if_neg h, if_neg h2, if_neg h2, pk_us, pk_us]
theorem at_put_n (z : fb_AR) {c l : Int32} (v : Int32) (hne : ¬ l = c) : f_X11_at 4096 (f_X11_put 4096 z c v) l = f_X11_at 4096 z l := by
  unfold f_X11_at f_X11_put
  by_cases h : l < 0
  · rw [if_pos h, if_pos h]
  · rw [if_neg h, if_neg h]
    by_cases h2 : nI 4096 ≤ l
    · rw [if_pos h2, if_pos h2]
    · rw [if_neg h2, if_neg h2]
      by_cases h3 : c < 0
      · rw [if_pos h3]
      · rw [if_neg h3]
        by_cases h4 : nI 4096 ≤ c
        · rw [if_pos h4]
        · rw [if_neg h4, pk_un]
          intro e
          obtain ⟨a, ha, rfl⟩ := nI_of h
          obtain ⟨b, hb, rfl⟩ := nI_of h3
          rw [nI_clamp ha, nI_clamp hb] at e
          exact hne (by rw [e])
theorem rho_s {c v : Int32} {z z' : fb_AR} (h : fb_rho c z z') : fb_rho (c + 1) (f_X11_put 4096 z c v) (f_X11_put 4096 z' c v) := by
  intro l hl
  by_cases e : l = c
  · subst e; exact at_put_s z z' l v
  · rw [at_put_n z v e, at_put_n z' v e]
    apply h
    rw [Int32.lt_iff_toInt_lt] at hl ⊢
    have ne : ¬ l.toInt = c.toInt := fun q => e (Int32.toInt_inj.mp q)
    have a := Int32.toInt_lt c
    have b := Int32.le_toInt l
    by_cases q : c.toInt < 2147483647
    · rw [fb_toI1 (B := 2147483647) (show c.toInt < (2147483647 : Int32).toInt from q)] at hl
      omega
    · have hm : c.toInt = 2147483647 := by omega
      have : c = 2147483647 := Int32.toInt_inj.mp (hm.trans rfl)
      subst this
      have : ((2147483647 : Int32) + 1).toInt = -2147483648 := by decide
      omega
theorem rho_p {c : Int32} {z z' : fb_AR} (h : fb_rho c z z') (hc : ¬ c ≤ 0) : fb_rho (c - 1) z z' ∧ f_X11_at 4096 z (c - 1) = f_X11_at 4096 z' (c - 1) := by
  rw [Int32.le_iff_toInt_le, Int32.toInt_zero] at hc
  have e := fb_toIs (i := c) (by omega)
  exact ⟨fun l hl => h l (by rw [Int32.lt_iff_toInt_lt] at hl ⊢; omega), h _ (by rw [Int32.lt_iff_toInt_lt]; omega)⟩
abbrev fb_XS : Type := fb_AR × fb_AR × fb_AR × fb_AR
def fb_xr (x y : fb_XS) : Prop := x.1 = y.1 ∧ x.2.1 = y.2.1 ∧ x.2.2.1 = y.2.2.1 ∧ fb_rho (x.1 3) x.2.2.2 y.2.2.2
section DG
variable {e6 c b o o' : fb_AR} {zs : fb_MS}
theorem dg_come (h : fb_rho (e6 3) o o') (l : Int32) : (f_X6_comeTo e6 c o l).1 = (f_X6_comeTo e6 c o' l).1 ∧ (f_X6_comeTo e6 c o l).2.1 = (f_X6_comeTo e6 c o' l).2.1 ∧ fb_rho ((f_X6_comeTo e6 c o l).1 3) (f_X6_comeTo e6 c o l).2.2 (f_X6_comeTo e6 c o' l).2.2 := by
  unfold f_X6_comeTo
  by_cases q : f_X11_at 4096 c l = 0
  · rw [if_pos q, if_pos q]
    refine ⟨rfl, rfl, ?_⟩
    show fb_rho (upd e6 3 ((e6 3) + (1 : Int32)) 3) _ _
    rw [pk_us]
    exact rho_s h
  · rw [if_neg q, if_neg q]
    exact ⟨rfl, rfl, h⟩
theorem dg_149 (h : fb_rho (e6 3) o o') (l3 : Int32) : fb_xr (f_X6_goFrom_149 e6 c b o zs l3) (f_X6_goFrom_149 e6 c b o' zs l3) := by
  unfold f_X6_goFrom_149
  by_cases q : l3 = (5 : Int32)
  · rw [if_pos q, if_pos q]
    obtain ⟨a1, a2, a3⟩ := dg_come (c := c) h (f_X2_vector zs (6 : Int32))
    exact ⟨a1, a2, rfl, a3⟩
  · rw [if_neg q, if_neg q]
    exact ⟨rfl, rfl, rfl, h⟩
theorem dg_136 (h : fb_rho (e6 3) o o') (l2 l3 : Int32) : fb_xr (f_X6_goFrom_136 e6 c b o zs l2 l3) (f_X6_goFrom_136 e6 c b o' zs l2 l3) := by
  unfold f_X6_goFrom_136
  obtain ⟨a1, a2, a3⟩ := dg_come (c := c) h ((f_X2_operand zs l2) &&& (4095 : Int32))
  rw [← a1, ← a2]
  exact dg_149 a3 l3
theorem dg_122 (h : fb_rho (e6 3) o o') (l2 l3 k0 : Int32) : fb_xr (f_X6_goFrom_122 e6 c b o zs l2 l3 k0) (f_X6_goFrom_122 e6 c b o' zs l2 l3 k0) := by
  unfold f_X6_goFrom_122
  by_cases q : k0 = 0
  · rw [if_pos q, if_pos q]
    by_cases q2 : l3 < (208 : Int32)
    · rw [if_pos q2, if_pos q2]; exact dg_149 h _
    · rw [if_neg q2, if_neg q2]; exact dg_136 h _ _
  · rw [if_neg q, if_neg q]; exact dg_136 h _ _
theorem dg_109 (h : fb_rho (e6 3) o o') (l2 l3 : Int32) : fb_xr (f_X6_goFrom_109 e6 c b o zs l2 l3) (f_X6_goFrom_109 e6 c b o' zs l2 l3) := by
  unfold f_X6_goFrom_109 f_X6_goFrom_121
  by_cases q : (l3 &&& (7 : Int32)) = (3 : Int32)
  · rw [if_pos q, if_pos q]; exact dg_122 h _ _ _
  · rw [if_neg q, if_neg q]; exact dg_122 h _ _ _
theorem dg_95 (h : fb_rho (e6 3) o o') (l2 l3 l5 : Int32) : fb_xr (f_X6_goFrom_95 e6 c b o zs l2 l3 l5) (f_X6_goFrom_95 e6 c b o' zs l2 l3 l5) := by
  unfold f_X6_goFrom_95
  by_cases q : l5 = (24 : Int32)
  · rw [if_pos q, if_pos q]; exact dg_109 h _ _
  · rw [if_neg q, if_neg q]
    by_cases q2 : l5 = (25 : Int32)
    · rw [if_pos q2, if_pos q2]; exact dg_109 h _ _
    · rw [if_neg q2, if_neg q2]
      unfold f_X6_goFrom_121
      exact dg_122 h _ _ _
theorem dg_76 (h : fb_rho (e6 3) o o') (l2 l3 l4 l5 k0 : Int32) : fb_xr (f_X6_goFrom_76 e6 c b o zs l2 l3 l4 l5 k0) (f_X6_goFrom_76 e6 c b o' zs l2 l3 l4 l5 k0) := by
  unfold f_X6_goFrom_76
  by_cases q : k0 = 0
  · rw [if_pos q, if_pos q]
    obtain ⟨a1, a2, a3⟩ := dg_come (c := c) h ((l2 + l4) &&& (4095 : Int32))
    rw [← a1, ← a2]
    exact dg_95 a3 _ _ _
  · rw [if_neg q, if_neg q]; exact dg_95 h _ _ _
theorem dg_go (h : fb_rho (e6 3) o o') (l2 : Int32) : fb_xr (f_X6_goFrom e6 c b o zs l2) (f_X6_goFrom e6 c b o' zs l2) := by
  have h1 : fb_rho (upd e6 4 ((e6 4) + (1 : Int32)) 3) o o' := by rw [pk_un (by decide)]; exact h
  unfold f_X6_goFrom f_X6_goFrom_71
  by_cases q0 : (f_X11_lengthOf (f_X2_shown zs l2)) = 0
  · rw [if_pos q0, if_pos q0]; exact ⟨rfl, rfl, rfl, h⟩
  rw [if_neg q0, if_neg q0]
  by_cases q1 : (f_X2_shown zs l2) = (1 : Int32)
  · rw [if_pos q1, if_pos q1]; exact dg_76 h1 _ _ _ _ _
  rw [if_neg q1, if_neg q1]
  by_cases q2 : (f_X2_shown zs l2) = (3 : Int32)
  · rw [if_pos q2, if_pos q2]; exact dg_76 h1 _ _ _ _ _
  rw [if_neg q2, if_neg q2]
  by_cases q3 : (f_X2_shown zs l2) = (4 : Int32)
  · rw [if_pos q3, if_pos q3]; exact dg_76 h1 _ _ _ _ _
  rw [if_neg q3, if_neg q3]
  by_cases q4 : (f_X2_shown zs l2) = (216 : Int32)
  · rw [if_pos q4, if_pos q4]; exact dg_76 h1 _ _ _ _ _
  rw [if_neg q4, if_neg q4]
  by_cases q5 : ((f_X2_shown zs l2) >>> ((3 : Int32) &&& 31)) = (24 : Int32)
  · rw [if_pos q5, if_pos q5]; exact dg_76 h1 _ _ _ _ _
  rw [if_neg q5, if_neg q5]
  exact dg_76 h1 _ _ _ _ _
theorem dg_59 : ∀ (n : Nat) (e6 c b o o' : fb_AR) (l2 : Int32), fb_rho (e6 3) o o' → fb_xr (f_X6_explore_59 n e6 c b o zs l2) (f_X6_explore_59 n e6 c b o' zs l2) := by
  intro n
  induction n with
  | zero => intro e6 c b o o' l2 h; exact ⟨rfl, rfl, rfl, h⟩
  | succ n ih =>
    intro e6 c b o o' l2 h
    unfold f_X6_explore_59
    by_cases q : (4096 : Int32) ≤ l2
    · rw [if_pos q, if_pos q]; exact ⟨rfl, rfl, rfl, h⟩
    · rw [if_neg q, if_neg q]
      by_cases q2 : (e6 3) ≤ 0
      · rw [if_pos q2, if_pos q2]; exact ⟨rfl, rfl, rfl, h⟩
      · rw [if_neg q2, if_neg q2]
        obtain ⟨h1, h2⟩ := rho_p h q2
        have e3 : upd e6 3 ((e6 3) - (1 : Int32)) 3 = e6 3 - 1 := pk_us
        have h3 : fb_rho (upd e6 3 ((e6 3) - (1 : Int32)) 3) o o' := by rw [e3]; exact h1
        have g := dg_go (c := c) (b := b) (zs := zs) h3 (f_X11_at 4096 o (upd e6 3 ((e6 3) - (1 : Int32)) 3))
        rw [e3] at g ⊢
        rw [← h2]
        obtain ⟨g1, g2, g3, g4⟩ := g
        rw [← g1, ← g2, ← g3]
        exact ih _ _ _ _ _ _ g4
theorem dg_36 : ∀ (n : Nat) (e6 c b o o' : fb_AR) (l2 : Int32), fb_rho (e6 3) o o' → fb_xr (f_X6_explore_36 n e6 c b o zs l2) (f_X6_explore_36 n e6 c b o' zs l2) := by
  intro n
  induction n with
  | zero => intro e6 c b o o' l2 h; exact ⟨rfl, rfl, rfl, h⟩
  | succ n ih =>
    intro e6 c b o o' l2 h
    unfold f_X6_explore_36
    by_cases q : (8 : Int32) ≤ l2
    · rw [if_pos q, if_pos q]; exact dg_59 _ _ _ _ _ _ _ h
    · rw [if_neg q, if_neg q]
      obtain ⟨a1, a2, a3⟩ := dg_come (c := c) h (f_X2_vector zs l2)
      rw [← a1, ← a2]
      exact ih _ _ _ _ _ _ a3
theorem dg_explore (e6' c' b' : fb_AR) : fb_xr (f_X6_explore e6 c b o zs) (f_X6_explore e6' c' b' o' zs) := by
  have h : fb_rho ((fun _ => (0 : Int32) : fb_AR) 3) o o' := fun l hl => by
    unfold f_X11_at
    rw [if_pos hl, if_pos hl]
  obtain ⟨a1, a2, a3⟩ := dg_come (e6 := fun _ => (0 : Int32)) (c := fun _ => (0 : Int32)) h (zs.1 9)
  unfold f_X6_explore f_J7_fill_53178
  rw [← a1, ← a2]
  exact dg_36 _ _ _ _ _ _ _ a3
theorem dg_114 : ∀ (n : Nat) (e6 c b o e6' c' b' o' : fb_AR) (ze7 ze0 ze3 zk : fb_AR) (l1 : Int64) (l3 : Int32), f_X11_digest_114 n zs e6 c b o ze7 ze0 ze3 zk l1 l3 = f_X11_digest_114 n zs e6' c' b' o' ze7 ze0 ze3 zk l1 l3 := by
  intro n
  induction n with
  | zero => intros; rfl
  | succ n ih =>
    intro e6 c b o e6' c' b' o' ze7 ze0 ze3 zk l1 l3
    unfold f_X11_digest_114
    rw [ih e6 c b o e6' c' b' o']
theorem dg_same (e6' c' b' : fb_AR) (ze7 ze0 ze3 zk : fb_AR) : f_X11_digest zs e6 c b o ze7 ze0 ze3 zk = f_X11_digest zs e6' c' b' o' ze7 ze0 ze3 zk := by
  unfold f_X11_digest
  rw [(dg_explore (e6 := e6) (c := c) (b := b) (o := o) (o' := o') (zs := zs) e6' c' b').1]
  exact dg_114 _ _ _ _ _ _ _ _ _ _ _ _ _ _ _
end DG
