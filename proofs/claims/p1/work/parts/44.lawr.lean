/-! rows of the law's walk -/
theorem fb_goodSW {own : String} {idx : Nat} {y : MethodName} {c : ByteArray} {n : Nat} {r : Option FieldType} {hh : List (Nat × Nat × Nat × Nat)} (h1 : Cond.methodLink own idx y ∈ fb_all) (h2 : Cond.static y ∈ fb_all) (h4 : Cond.initialized y.cls ∈ fb_all) (h5 : Cond.codeWith y c n r hh ∈ fb_all) : GoodIn fb_all (va_wsS own idx y (.codeWith y c n r hh :: fb_all)) := by
  intro w h
  rcases List.mem_append.mp h with h | h
  · simp only [List.mem_cons, List.not_mem_nil, or_false] at h
    rcases h with rfl | rfl | rfl
    · exact fb_g1 h1
    · exact fb_g1 h2
    · exact fb_g1 h4
  · rcases List.mem_cons.mp h with rfl | h
    · exact fb_g1 h5
    · exact fb_g1 h
section LWR
variable {p : Program} {l : Launch} {e : Env} {R0 : Room} {s : State} {m : MethodId} {args : Array Value} {below : List Frame} {meth : Method} {c : Code} {H : Heap} {locs : List Loc} {cells slots mc ms : Nat} {Q : State → Prop}
  {cc : ByteArray} {own : String} {nL : Nat} {ret : Option FieldType} {D : va_G} {tys : List (ClassId × FieldType)} {A : Nat → Prop} {wc R : va_W} {pc : Nat} {ls : Array Slot} {lv : List (Nat × Value)} {rest : List Value}
variable {y : MethodName} {bytes : ByteArray} {maxL index n : Nat} {ret' : Option FieldType} {rm : Room} {As : List Value} {hh : List (Nat × Nat × Nat × Nat)}
theorem fb_rSW {Qc : Array Value → State → Outcome → State → Prop} {free : Addr → Prop} {st0 : List Value} (X : fb_Bx p s m args meth c cc own nL ret D tys A) (hl : lv_has ls nL lv) (hG : GoodIn fb_all (va_wsS own index y (Cond.codeWith y bytes maxL ret' hh :: fb_all)))
    (hM : Met l y (Cond.codeWith y bytes maxL ret' hh :: fb_all) rm (fb_PP D tys As wc H.size) Qc mc ms free) (hrc : rm.cells = mc) (hrs : rm.slots = ms) (hd : fb_hd y n) (hR : rm.frames + 1 ≤ R0.frames ∧ 8 + (maxL + 11) + rm.locals ≤ R0.locals)
    (hn : As.length = n) (hst : st0 = As.reverse ++ rest) (hrest : (rest.map fun v => v.category).sum ≤ 8) (hcl : cells + mc ≤ R0.cells ∧ slots + ms ≤ R0.slots) (hdg : decode cc pc = .ok (.invokestatic index, 3)) (I : fb_In D A s.heap (wc ++ R) H locs) :
    va_Run p l e R0 s m args below meth c H locs cells slots mc ms (F0 m pc ls st0) rest (Qc As.toArray) free := by
  have X0 := X
  obtain ⟨hx, hb, hr, hml, hown, hts, hlk, hA, hK, hF⟩ := X
  subst hst
  exact vx_runSW (As := As) (rest := rest) ⟨hx, hb, hml, hown, hts⟩ hM (vx_cwSW n hts hG rfl hrc hrs hd hR) ⟨fb_PP.blind, fb_preB X0 I⟩ rfl hn hl.1 rfl (lv_room hrest) hdg hcl
end LWR
theorem lw_cmp0 (x : Int64) : lg_cmp x x = 0 := by simp [lg_cmp]
theorem isIn_lo {x a b : Int32} (h : x < a) : f_X12_isIn x a b = 0 := by
  unfold f_X12_isIn
  rw [if_pos h]
theorem isIn_hi {x a b : Int32} (h : ¬ x ≤ b) : f_X12_isIn x a b = 0 := by
  unfold f_X12_isIn
  by_cases h1 : x < a
  · rw [if_pos h1]
  · rw [if_neg h1, if_pos (Int32.not_le.mp h)]
theorem lw_sp (x : Int32) (a b : Nat) (hab : a ≤ b) (hb : b < 2147483648) : x < nI a ∨ (¬ x < nI a ∧ ¬ x ≤ nI b) ∨ ∃ z, a ≤ z ∧ z ≤ b ∧ x = nI z := by
  by_cases h1 : x < nI a
  · exact Or.inl h1
  by_cases h2 : x ≤ nI b
  · refine Or.inr (Or.inr ?_)
    have g1 : (nI a).toInt ≤ x.toInt := Int32.le_iff_toInt_le.mp (Int32.not_lt.mp h1)
    have g2 : x.toInt ≤ (nI b).toInt := Int32.le_iff_toInt_le.mp h2
    rw [nI_toInt (by omega)] at g1
    rw [nI_toInt (by omega)] at g2
    refine ⟨x.toInt.toNat, by omega, by omega, ?_⟩
    apply Int32.toInt_inj.mp
    rw [nI_toInt (by omega)]
    omega
  · exact Or.inr (Or.inl ⟨h1, h2⟩)
theorem na_lo {x : Int32} (h : x < 0) : f_X11_isNoAddress x = 1 := by unfold f_X11_isNoAddress; rw [if_pos h]
theorem na_hi {x : Int32} (h : ¬ x < 0) (h2 : ¬ x ≤ 4095) : f_X11_isNoAddress x = 1 := by unfold f_X11_isNoAddress; rw [if_neg h, if_neg h2]
theorem nb_lo {x : Int32} (h : x < 0) : f_X11_isNoByte x = 1 := by unfold f_X11_isNoByte; rw [if_pos h]
theorem nb_hi {x : Int32} (h : ¬ x < 0) (h2 : ¬ x ≤ 255) : f_X11_isNoByte x = 1 := by unfold f_X11_isNoByte; rw [if_neg h, if_neg h2]
theorem ns_lo {x : Int32} (h : x < 1) : f_X11_isNoSpan x = 1 := by unfold f_X11_isNoSpan; rw [if_pos h]
theorem ns_hi {x : Int32} (h : ¬ x < 1) (h2 : ¬ x ≤ 5000) : f_X11_isNoSpan x = 1 := by unfold f_X11_isNoSpan; rw [if_neg h, if_neg h2]
