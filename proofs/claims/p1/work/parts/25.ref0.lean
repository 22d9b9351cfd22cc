/-! the reference's object: scalars by their field's number, rows by theirs -/
def fb_f12 (r : Nat → Nat) (η : fb_AR) : List Value := [.ref (r 0), .ref (r 1), .int (η 2), .ref (r 3), .int (η 4), .int (η 5), .int (η 6), .int (η 7), .int (η 8), .int (η 9), .int (η 10), .ref (r 11), .ref (r 12), .int (η 13), .ref (r 14), .ref (r 15), .ref (r 16), .ref (r 17), .int (η 18), .int (η 19), .ref (r 20), .int (η 21), .ref (r 22), .ref (r 23), .ref (r 24), .ref (r 25), .int (η 26), .int (η 27), .int (η 28), .int (η 29), .int (η 30), .int (η 31), .ref (r 32), .ref (r 33), .int (η 34), .int (η 35), .int (η 36), .int (η 37), .ref (r 38), .ref (r 39), .ref (r 40), .int (η 41), .int (η 42), .int (η 43), .int (η 44), .ref (r 45), .ref (r 46), .ref (r 47), .ref (r 48), .int (η 49), .int (η 50)]
def fb_o12 (a : Nat) (r : Nat → Nat) (η : fb_AR) : va_W := [(a, .inr (12, fb_f12 r η))]
theorem fb_h12 {a : Nat} {r : Nat → Nat} {η : fb_AR} {bs : List va_W} : (fb_o12 a r η :: bs).flatten[0]? = some (a, .inr (12, fb_f12 r η)) := rfl
theorem fb_r12_0 {a : Nat} {r : Nat → Nat} {η : fb_AR} {bs : List va_W} {v : Nat} : (fb_o12 a r η :: bs).flatten.set 0 (a, .inr (12, (fb_f12 r η).set 0 (.ref v))) = (fb_o12 a (va_up r 0 v) η :: bs).flatten := rfl
theorem fb_r12_1 {a : Nat} {r : Nat → Nat} {η : fb_AR} {bs : List va_W} {v : Nat} : (fb_o12 a r η :: bs).flatten.set 0 (a, .inr (12, (fb_f12 r η).set 1 (.ref v))) = (fb_o12 a (va_up r 1 v) η :: bs).flatten := rfl
theorem fb_r12_2 {a : Nat} {r : Nat → Nat} {η : fb_AR} {bs : List va_W} {v : Int32} : (fb_o12 a r η :: bs).flatten.set 0 (a, .inr (12, (fb_f12 r η).set 2 (.int v))) = (fb_o12 a r (upd η 2 v) :: bs).flatten := rfl
theorem fb_r12_3 {a : Nat} {r : Nat → Nat} {η : fb_AR} {bs : List va_W} {v : Nat} : (fb_o12 a r η :: bs).flatten.set 0 (a, .inr (12, (fb_f12 r η).set 3 (.ref v))) = (fb_o12 a (va_up r 3 v) η :: bs).flatten := rfl
theorem fb_r12_4 {a : Nat} {r : Nat → Nat} {η : fb_AR} {bs : List va_W} {v : Int32} : (fb_o12 a r η :: bs).flatten.set 0 (a, .inr (12, (fb_f12 r η).set 4 (.int v))) = (fb_o12 a r (upd η 4 v) :: bs).flatten := rfl
theorem fb_r12_5 {a : Nat} {r : Nat → Nat} {η : fb_AR} {bs : List va_W} {v : Int32} : (fb_o12 a r η :: bs).flatten.set 0 (a, .inr (12, (fb_f12 r η).set 5 (.int v))) = (fb_o12 a r (upd η 5 v) :: bs).flatten := rfl
theorem fb_r12_6 {a : Nat} {r : Nat → Nat} {η : fb_AR} {bs : List va_W} {v : Int32} : (fb_o12 a r η :: bs).flatten.set 0 (a, .inr (12, (fb_f12 r η).set 6 (.int v))) = (fb_o12 a r (upd η 6 v) :: bs).flatten := rfl
theorem fb_r12_7 {a : Nat} {r : Nat → Nat} {η : fb_AR} {bs : List va_W} {v : Int32} : (fb_o12 a r η :: bs).flatten.set 0 (a, .inr (12, (fb_f12 r η).set 7 (.int v))) = (fb_o12 a r (upd η 7 v) :: bs).flatten := rfl
theorem fb_r12_8 {a : Nat} {r : Nat → Nat} {η : fb_AR} {bs : List va_W} {v : Int32} : (fb_o12 a r η :: bs).flatten.set 0 (a, .inr (12, (fb_f12 r η).set 8 (.int v))) = (fb_o12 a r (upd η 8 v) :: bs).flatten := rfl
theorem fb_r12_9 {a : Nat} {r : Nat → Nat} {η : fb_AR} {bs : List va_W} {v : Int32} : (fb_o12 a r η :: bs).flatten.set 0 (a, .inr (12, (fb_f12 r η).set 9 (.int v))) = (fb_o12 a r (upd η 9 v) :: bs).flatten := rfl
theorem fb_r12_10 {a : Nat} {r : Nat → Nat} {η : fb_AR} {bs : List va_W} {v : Int32} : (fb_o12 a r η :: bs).flatten.set 0 (a, .inr (12, (fb_f12 r η).set 10 (.int v))) = (fb_o12 a r (upd η 10 v) :: bs).flatten := rfl
theorem fb_r12_11 {a : Nat} {r : Nat → Nat} {η : fb_AR} {bs : List va_W} {v : Nat} : (fb_o12 a r η :: bs).flatten.set 0 (a, .inr (12, (fb_f12 r η).set 11 (.ref v))) = (fb_o12 a (va_up r 11 v) η :: bs).flatten := rfl
theorem fb_r12_12 {a : Nat} {r : Nat → Nat} {η : fb_AR} {bs : List va_W} {v : Nat} : (fb_o12 a r η :: bs).flatten.set 0 (a, .inr (12, (fb_f12 r η).set 12 (.ref v))) = (fb_o12 a (va_up r 12 v) η :: bs).flatten := rfl
theorem fb_r12_13 {a : Nat} {r : Nat → Nat} {η : fb_AR} {bs : List va_W} {v : Int32} : (fb_o12 a r η :: bs).flatten.set 0 (a, .inr (12, (fb_f12 r η).set 13 (.int v))) = (fb_o12 a r (upd η 13 v) :: bs).flatten := rfl
theorem fb_r12_14 {a : Nat} {r : Nat → Nat} {η : fb_AR} {bs : List va_W} {v : Nat} : (fb_o12 a r η :: bs).flatten.set 0 (a, .inr (12, (fb_f12 r η).set 14 (.ref v))) = (fb_o12 a (va_up r 14 v) η :: bs).flatten := rfl
theorem fb_r12_15 {a : Nat} {r : Nat → Nat} {η : fb_AR} {bs : List va_W} {v : Nat} : (fb_o12 a r η :: bs).flatten.set 0 (a, .inr (12, (fb_f12 r η).set 15 (.ref v))) = (fb_o12 a (va_up r 15 v) η :: bs).flatten := rfl
theorem fb_r12_16 {a : Nat} {r : Nat → Nat} {η : fb_AR} {bs : List va_W} {v : Nat} : (fb_o12 a r η :: bs).flatten.set 0 (a, .inr (12, (fb_f12 r η).set 16 (.ref v))) = (fb_o12 a (va_up r 16 v) η :: bs).flatten := rfl
theorem fb_r12_17 {a : Nat} {r : Nat → Nat} {η : fb_AR} {bs : List va_W} {v : Nat} : (fb_o12 a r η :: bs).flatten.set 0 (a, .inr (12, (fb_f12 r η).set 17 (.ref v))) = (fb_o12 a (va_up r 17 v) η :: bs).flatten := rfl
theorem fb_r12_18 {a : Nat} {r : Nat → Nat} {η : fb_AR} {bs : List va_W} {v : Int32} : (fb_o12 a r η :: bs).flatten.set 0 (a, .inr (12, (fb_f12 r η).set 18 (.int v))) = (fb_o12 a r (upd η 18 v) :: bs).flatten := rfl
theorem fb_r12_19 {a : Nat} {r : Nat → Nat} {η : fb_AR} {bs : List va_W} {v : Int32} : (fb_o12 a r η :: bs).flatten.set 0 (a, .inr (12, (fb_f12 r η).set 19 (.int v))) = (fb_o12 a r (upd η 19 v) :: bs).flatten := rfl
theorem fb_r12_20 {a : Nat} {r : Nat → Nat} {η : fb_AR} {bs : List va_W} {v : Nat} : (fb_o12 a r η :: bs).flatten.set 0 (a, .inr (12, (fb_f12 r η).set 20 (.ref v))) = (fb_o12 a (va_up r 20 v) η :: bs).flatten := rfl
theorem fb_r12_21 {a : Nat} {r : Nat → Nat} {η : fb_AR} {bs : List va_W} {v : Int32} : (fb_o12 a r η :: bs).flatten.set 0 (a, .inr (12, (fb_f12 r η).set 21 (.int v))) = (fb_o12 a r (upd η 21 v) :: bs).flatten := rfl
theorem fb_r12_22 {a : Nat} {r : Nat → Nat} {η : fb_AR} {bs : List va_W} {v : Nat} : (fb_o12 a r η :: bs).flatten.set 0 (a, .inr (12, (fb_f12 r η).set 22 (.ref v))) = (fb_o12 a (va_up r 22 v) η :: bs).flatten := rfl
theorem fb_r12_23 {a : Nat} {r : Nat → Nat} {η : fb_AR} {bs : List va_W} {v : Nat} : (fb_o12 a r η :: bs).flatten.set 0 (a, .inr (12, (fb_f12 r η).set 23 (.ref v))) = (fb_o12 a (va_up r 23 v) η :: bs).flatten := rfl
theorem fb_r12_24 {a : Nat} {r : Nat → Nat} {η : fb_AR} {bs : List va_W} {v : Nat} : (fb_o12 a r η :: bs).flatten.set 0 (a, .inr (12, (fb_f12 r η).set 24 (.ref v))) = (fb_o12 a (va_up r 24 v) η :: bs).flatten := rfl
theorem fb_r12_25 {a : Nat} {r : Nat → Nat} {η : fb_AR} {bs : List va_W} {v : Nat} : (fb_o12 a r η :: bs).flatten.set 0 (a, .inr (12, (fb_f12 r η).set 25 (.ref v))) = (fb_o12 a (va_up r 25 v) η :: bs).flatten := rfl
theorem fb_r12_26 {a : Nat} {r : Nat → Nat} {η : fb_AR} {bs : List va_W} {v : Int32} : (fb_o12 a r η :: bs).flatten.set 0 (a, .inr (12, (fb_f12 r η).set 26 (.int v))) = (fb_o12 a r (upd η 26 v) :: bs).flatten := rfl
theorem fb_r12_27 {a : Nat} {r : Nat → Nat} {η : fb_AR} {bs : List va_W} {v : Int32} : (fb_o12 a r η :: bs).flatten.set 0 (a, .inr (12, (fb_f12 r η).set 27 (.int v))) = (fb_o12 a r (upd η 27 v) :: bs).flatten := rfl
theorem fb_r12_28 {a : Nat} {r : Nat → Nat} {η : fb_AR} {bs : List va_W} {v : Int32} : (fb_o12 a r η :: bs).flatten.set 0 (a, .inr (12, (fb_f12 r η).set 28 (.int v))) = (fb_o12 a r (upd η 28 v) :: bs).flatten := rfl
theorem fb_r12_29 {a : Nat} {r : Nat → Nat} {η : fb_AR} {bs : List va_W} {v : Int32} : (fb_o12 a r η :: bs).flatten.set 0 (a, .inr (12, (fb_f12 r η).set 29 (.int v))) = (fb_o12 a r (upd η 29 v) :: bs).flatten := rfl
theorem fb_r12_30 {a : Nat} {r : Nat → Nat} {η : fb_AR} {bs : List va_W} {v : Int32} : (fb_o12 a r η :: bs).flatten.set 0 (a, .inr (12, (fb_f12 r η).set 30 (.int v))) = (fb_o12 a r (upd η 30 v) :: bs).flatten := rfl
theorem fb_r12_31 {a : Nat} {r : Nat → Nat} {η : fb_AR} {bs : List va_W} {v : Int32} : (fb_o12 a r η :: bs).flatten.set 0 (a, .inr (12, (fb_f12 r η).set 31 (.int v))) = (fb_o12 a r (upd η 31 v) :: bs).flatten := rfl
theorem fb_r12_32 {a : Nat} {r : Nat → Nat} {η : fb_AR} {bs : List va_W} {v : Nat} : (fb_o12 a r η :: bs).flatten.set 0 (a, .inr (12, (fb_f12 r η).set 32 (.ref v))) = (fb_o12 a (va_up r 32 v) η :: bs).flatten := rfl
theorem fb_r12_33 {a : Nat} {r : Nat → Nat} {η : fb_AR} {bs : List va_W} {v : Nat} : (fb_o12 a r η :: bs).flatten.set 0 (a, .inr (12, (fb_f12 r η).set 33 (.ref v))) = (fb_o12 a (va_up r 33 v) η :: bs).flatten := rfl
theorem fb_r12_34 {a : Nat} {r : Nat → Nat} {η : fb_AR} {bs : List va_W} {v : Int32} : (fb_o12 a r η :: bs).flatten.set 0 (a, .inr (12, (fb_f12 r η).set 34 (.int v))) = (fb_o12 a r (upd η 34 v) :: bs).flatten := rfl
theorem fb_r12_35 {a : Nat} {r : Nat → Nat} {η : fb_AR} {bs : List va_W} {v : Int32} : (fb_o12 a r η :: bs).flatten.set 0 (a, .inr (12, (fb_f12 r η).set 35 (.int v))) = (fb_o12 a r (upd η 35 v) :: bs).flatten := rfl
theorem fb_r12_36 {a : Nat} {r : Nat → Nat} {η : fb_AR} {bs : List va_W} {v : Int32} : (fb_o12 a r η :: bs).flatten.set 0 (a, .inr (12, (fb_f12 r η).set 36 (.int v))) = (fb_o12 a r (upd η 36 v) :: bs).flatten := rfl
theorem fb_r12_37 {a : Nat} {r : Nat → Nat} {η : fb_AR} {bs : List va_W} {v : Int32} : (fb_o12 a r η :: bs).flatten.set 0 (a, .inr (12, (fb_f12 r η).set 37 (.int v))) = (fb_o12 a r (upd η 37 v) :: bs).flatten := rfl
theorem fb_r12_38 {a : Nat} {r : Nat → Nat} {η : fb_AR} {bs : List va_W} {v : Nat} : (fb_o12 a r η :: bs).flatten.set 0 (a, .inr (12, (fb_f12 r η).set 38 (.ref v))) = (fb_o12 a (va_up r 38 v) η :: bs).flatten := rfl
theorem fb_r12_39 {a : Nat} {r : Nat → Nat} {η : fb_AR} {bs : List va_W} {v : Nat} : (fb_o12 a r η :: bs).flatten.set 0 (a, .inr (12, (fb_f12 r η).set 39 (.ref v))) = (fb_o12 a (va_up r 39 v) η :: bs).flatten := rfl
theorem fb_r12_40 {a : Nat} {r : Nat → Nat} {η : fb_AR} {bs : List va_W} {v : Nat} : (fb_o12 a r η :: bs).flatten.set 0 (a, .inr (12, (fb_f12 r η).set 40 (.ref v))) = (fb_o12 a (va_up r 40 v) η :: bs).flatten := rfl
theorem fb_r12_41 {a : Nat} {r : Nat → Nat} {η : fb_AR} {bs : List va_W} {v : Int32} : (fb_o12 a r η :: bs).flatten.set 0 (a, .inr (12, (fb_f12 r η).set 41 (.int v))) = (fb_o12 a r (upd η 41 v) :: bs).flatten := rfl
theorem fb_r12_42 {a : Nat} {r : Nat → Nat} {η : fb_AR} {bs : List va_W} {v : Int32} : (fb_o12 a r η :: bs).flatten.set 0 (a, .inr (12, (fb_f12 r η).set 42 (.int v))) = (fb_o12 a r (upd η 42 v) :: bs).flatten := rfl
theorem fb_r12_43 {a : Nat} {r : Nat → Nat} {η : fb_AR} {bs : List va_W} {v : Int32} : (fb_o12 a r η :: bs).flatten.set 0 (a, .inr (12, (fb_f12 r η).set 43 (.int v))) = (fb_o12 a r (upd η 43 v) :: bs).flatten := rfl
theorem fb_r12_44 {a : Nat} {r : Nat → Nat} {η : fb_AR} {bs : List va_W} {v : Int32} : (fb_o12 a r η :: bs).flatten.set 0 (a, .inr (12, (fb_f12 r η).set 44 (.int v))) = (fb_o12 a r (upd η 44 v) :: bs).flatten := rfl
theorem fb_r12_45 {a : Nat} {r : Nat → Nat} {η : fb_AR} {bs : List va_W} {v : Nat} : (fb_o12 a r η :: bs).flatten.set 0 (a, .inr (12, (fb_f12 r η).set 45 (.ref v))) = (fb_o12 a (va_up r 45 v) η :: bs).flatten := rfl
theorem fb_r12_46 {a : Nat} {r : Nat → Nat} {η : fb_AR} {bs : List va_W} {v : Nat} : (fb_o12 a r η :: bs).flatten.set 0 (a, .inr (12, (fb_f12 r η).set 46 (.ref v))) = (fb_o12 a (va_up r 46 v) η :: bs).flatten := rfl
theorem fb_r12_47 {a : Nat} {r : Nat → Nat} {η : fb_AR} {bs : List va_W} {v : Nat} : (fb_o12 a r η :: bs).flatten.set 0 (a, .inr (12, (fb_f12 r η).set 47 (.ref v))) = (fb_o12 a (va_up r 47 v) η :: bs).flatten := rfl
theorem fb_r12_48 {a : Nat} {r : Nat → Nat} {η : fb_AR} {bs : List va_W} {v : Nat} : (fb_o12 a r η :: bs).flatten.set 0 (a, .inr (12, (fb_f12 r η).set 48 (.ref v))) = (fb_o12 a (va_up r 48 v) η :: bs).flatten := rfl
theorem fb_r12_49 {a : Nat} {r : Nat → Nat} {η : fb_AR} {bs : List va_W} {v : Int32} : (fb_o12 a r η :: bs).flatten.set 0 (a, .inr (12, (fb_f12 r η).set 49 (.int v))) = (fb_o12 a r (upd η 49 v) :: bs).flatten := rfl
theorem fb_r12_50 {a : Nat} {r : Nat → Nat} {η : fb_AR} {bs : List va_W} {v : Int32} : (fb_o12 a r η :: bs).flatten.set 0 (a, .inr (12, (fb_f12 r η).set 50 (.int v))) = (fb_o12 a r (upd η 50 v) :: bs).flatten := rfl
def fb_qh (D : va_G) (a N : Nat) (h : Nat → Option Nat) : va_W := [(a, .inl (D.1 22, N, .inr (.inr (.inr (.inr h)))))]
section HIR
variable {p : Program} {l : Launch} {e : Env} {R : Room} {s : State} {m : MethodId} {args : Array Value} {below : List Frame} {meth : Method} {c : Code} {H : Heap} {locs : List Loc} {cells slots : Nat} {Q : State → Prop}
  {cc : ByteArray} {own : String} {nL : Nat} {ret : Option FieldType} {D : va_G} {cI cJ : ClassId} {A : Nat → Prop} {ws : va_W} {pc : Nat} {ls : Array Slot} {lv : List (Nat × Value)} {rest : List Value} {a n k v : Nat} {f : Nat → Option Nat} {i : Int32}
theorem fb_ldH (X : fb_Bx p s m args meth c cc own nL ret D (fb_ty D cI cJ) A) (I : fb_In D A s.heap ws H locs) (q0 : Nat) (ha : ws[q0]? = some (a, .inl (D.1 22, n, .inr (.inr (.inr (.inr f)))))) (hn : i.toNatClampNeg = k) (h0 : ¬ i < 0) (hlt : k < n) (hv : f k = some v) (hdg : decode cc pc = .ok (.aaload, 1))
    (kk : W p l e R s m args below meth c H locs cells slots Q (F0 m (pc + 1) ls (.ref v :: rest))) : W p l e R s m args below meth c H locs cells slots Q (F0 m pc ls (.int i :: .ref a :: rest)) := by
  obtain ⟨hx, hb, hr, hml, hown, hts, hlk, hA, hK, hF⟩ := X
  have hin : vp_in i n := fb_inC hn h0 hlt
  have hlt2 : i.toNatClampNeg < n := by rw [hn]; exact hlt
  refine W.aald (v := va_rf (f i.toNatClampNeg)) (ty := .array .int) hx hb (I.1 q0 _ ha) ((hK.1.2 4 (D.1 22, .array .int) rfl).1 n (fun j => va_rf (f j))) rfl (fun q => by cases q) (by show ¬ (i < 0 ∨ (arrV _ _ _).slots.size ≤ _); rw [arrV_size]; exact hin) (by show (arrV _ _ _).slots[_]? = _; rw [arrV_read _ _ hlt2]) rfl rfl hdg ?_
  rw [hn, hv]; exact kk
theorem fb_cls22 (hK : fb_KK D (fb_ty D cI cJ) s) : ∃ kA : Class, s.vm.classes[D.1 22]? = some kA ∧ kA.kind = .array cI (.array .int) := by
  obtain ⟨comp, c9, k9, h1, h2, h3, h4, h5⟩ := arrayOverA_spec (show (Cond.arrayOver (.array .int)).before #[] s = true from hK.2.2.2.2.1)
  have e1 : s.vm.findClass ("[" ++ (FieldType.array .int).toString) = some (D.1 22) := (hK.1.2 4 (D.1 22, .array .int) rfl).2
  have e2 : s.vm.findClass ("[" ++ (FieldType.int).toString) = some cI := (hK.1.2 0 (cI, .int) rfl).2
  have e3 : c9 = D.1 22 := Option.some.inj (h5.symm.trans e1)
  have e4 : comp = cI := Option.some.inj (h1.symm.trans e2)
  subst e3
  subst e4
  exact ⟨k9, h3, h4⟩
theorem fb_clsI (hK : fb_KK D (fb_ty D cI cJ) s) : ∃ kC : Class, s.vm.classes[cI]? = some kC := by
  obtain ⟨-, k0, hk0, -⟩ := (hK.1.2 0 (cI, .int) rfl).1 0 (fun _ => .int 0)
  exact ⟨k0, hk0⟩
theorem fb_stH (X : fb_Bx p s m args meth c cc own nL ret D (fb_ty D cI cJ) A) (I : fb_In D A s.heap ws H locs) (q0 qk : Nat) {N : Nat} {g : fb_AR} {wn : va_W} (ha : ws[q0]? = some (a, .inl (D.1 22, n, .inr (.inr (.inr (.inr f)))))) (hv : ws[qk]? = some (v, .inl (cI, N, .inl g))) (hn : i.toNatClampNeg = k) (h0 : ¬ i < 0) (hlt : k < n) (hwn : ws.set q0 (a, .inl (D.1 22, n, .inr (.inr (.inr (.inr (va_up f k (some v))))))) = wn) (hdg : decode cc pc = .ok (.aastore, 1))
    (kk : ∀ (H1 : Heap) (locs1 : List Loc), fb_In D A s.heap wn H1 locs1 → W p l e R s m args below meth c H1 locs1 cells slots Q (F0 m (pc + 1) ls rest)) : W p l e R s m args below meth c H locs cells slots Q (F0 m pc ls (.ref v :: .int i :: .ref a :: rest)) := by
  obtain ⟨hx, hb, hr, hml, hown, hts, hlk, hA, hK, hF⟩ := X
  obtain ⟨kA, k1, k2⟩ := fb_cls22 hK
  obtain ⟨kC, hkC⟩ := fb_clsI hK
  refine W.aast hx hb (I.1 q0 _ ha) (fun q h => by cases h) (fun h => by cases h) k1 k2 rfl hkC ⟨h0, by show _ < (arrV _ _ _).slots.size; rw [arrV_size, hn]; exact hlt⟩ (I.1 qk _ hv) (fun q h => by cases h) hkC (va_asg _ _) rfl rfl hdg fun H1 e z oq => ?_
  have hP := I.1.set I.2.1 ha (H1 := H1) (e := .inl (D.1 22, n, .inr (.inr (.inr (.inr (va_up f k (some v))))))) (by
    show H1[a]? = some (vp_cell _ _)
    rw [e]
    rw [vp_cell_q, vp_cell_q, arrV_store, hn]
    congr 2
    funext q
    by_cases hq : q = k
    · subst hq
      simp [updV, va_up, va_rf]
    · simp [updV, va_up, hq]) oq
  exact kk H1 _ (by rw [← hwn]; exact ⟨hP, I.2.1.set ha, I.2.2.put z oq (I.2.1.2 q0 _ ha)⟩)
theorem fb_cpH (X : fb_Bx p s m args meth c cc own nL ret D (fb_ty D cI cJ) A) (I : fb_In D A s.heap ws H locs) (hl : lv_has ls nL lv) {index : Nat} (hlink : Cond.methodLink own index arraycopyName ∈ fb_all) (hnat : Cond.native arraycopyName ∈ fb_all) (hstat : Cond.static arraycopyName ∈ fb_all) (hini : Cond.initialized "java/lang/System" ∈ fb_all) (q0 : Nat) (ha : ws[q0]? = some (a, .inl (D.1 22, n, .inr (.inr (.inr (.inr f)))))) {wn : va_W} {sp dp z : Int32}
    (h1 : ¬ sp < 0) (h2 : ¬ dp < 0) (h3 : ¬ z < 0) (h4 : sp.toNatClampNeg + z.toNatClampNeg ≤ n) (h5 : dp.toNatClampNeg + z.toNatClampNeg ≤ n) (hel : ∀ i : Nat, i < z.toNatClampNeg → ∀ y : Nat, f (sp.toNatClampNeg + i) = some y → ∃ (qk N : Nat) (g : fb_AR), ws[qk]? = some (y, .inl (cI, N, .inl g)))
    (hwn : ws.set q0 (a, .inl (D.1 22, n, .inr (.inr (.inr (.inr (va_cpy f f sp.toNatClampNeg dp.toNatClampNeg z.toNatClampNeg)))))) = wn) (hframes : 1 ≤ R.frames) (hlocals : (rest.map fun v => v.category).sum + (nativeFrameWords "java/lang/System" "arraycopy" 5 + 11) ≤ R.locals) (hdg : decode cc pc = .ok (.invokestatic index, 3))
    (kk : ∀ (H1 : Heap) (locs1 : List Loc), fb_In D A s.heap wn H1 locs1 → W p l e R s m args below meth c H1 locs1 cells slots Q (F0 m (pc + 3) ls rest)) : W p l e R s m args below meth c H locs cells slots Q (F0 m pc ls (.int z :: .int dp :: .ref a :: .int sp :: .ref a :: rest)) := by
  obtain ⟨hx, hb, hr, hml, hown, hts, hlk, hA, hK, hF⟩ := X
  obtain ⟨kA, k1, k2⟩ := fb_cls22 hK
  obtain ⟨kC, hkC⟩ := fb_clsI hK
  have nn : ∀ z : Int32, ¬ z < 0 → z.toInt = (z.toNatClampNeg : Int) := by
    intro z hz
    have hz0 : (0 : Int) ≤ z.toInt := by
      have := Int32.not_lt.mp hz
      simpa using Int32.le_iff_toInt_le.mp this
    show z.toInt = ((z.toInt.toNat : Nat) : Int)
    omega
  intro T hT X
  have hc0 : H[a]? = some (vp_cell (D.1 22) (n, .inr (.inr (.inr (.inr f))))) := I.1 q0 _ ha
  obtain ⟨vm', X', step⟩ := X.arraycopy hx hown (hts _ hlink) (hts _ hnat) (hts _ hstat) (hts _ hini) (src := a) (dst := a) (cs := vp_cell (D.1 22) (n, .inr (.inr (.inr (.inr f))))) (cd := vp_cell (D.1 22) (n, .inr (.inr (.inr (.inr f))))) (srcPos := sp) (destPos := dp) (n := z) (by rw [hT]; exact hc0) (by rw [hT]; exact hc0)
    (fun _ h => by cases h) (fun _ h => by cases h) (fun h => by cases h) (fun h => by cases h) k1 k1 k2 k2 rfl h1 h2 h3
    (by rw [nn sp h1, nn z h3]; show ¬ _ > ((arrV (D.1 22) n (fun j => va_rf (f j))).slots.size : Int); rw [arrV_size]; omega)
    (by rw [nn dp h2, nn z h3]; show ¬ _ > ((arrV (D.1 22) n (fun j => va_rf (f j))).slots.size : Int); rw [arrV_size]; omega)
    (fun vm₁ hal i hi => by
      have e : (vp_cell (D.1 22) (n, .inr (.inr (.inr (.inr f))))).slots.getD (sp.toNatClampNeg + i) .null = va_rf (f (sp.toNatClampNeg + i)) := by
        show (arrV (D.1 22) n (fun j => va_rf (f j))).slots.getD _ _ = _
        rw [Array.getD_eq_getD_getElem?, arrV_read _ _ (by omega)]
        rfl
      rw [e]
      cases hy : f (sp.toNatClampNeg + i) with
      | none => exact ⟨rfl, trivial⟩
      | some y =>
        obtain ⟨qk, N, g, hg⟩ := hel i hi y hy
        obtain ⟨kC', hkC', -⟩ := hal.2.2 _ _ hkC
        refine ⟨rfl, _, (show T.heap[y]? = some _ by rw [hT]; exact I.1 qk _ hg), (fun q h => by cases h), ⟨kC', hkC'⟩, ?_, ?_⟩
        · exact ⟨kC', hkC'⟩
        · show vm₁.assignable _ _ = true
          exact va_asg _ _)
    (g := F0 m pc ls (.int z :: .int dp :: .ref a :: .int sp :: .ref a :: rest)) rfl (by rw [hml]; exact hl.1) (rest := rest) rfl (by rw [hb]; exact hdg) hframes (by show 2 * 0 + _ + _ ≤ _; omega)
  have e1 : copied (vp_cell (D.1 22) (n, .inr (.inr (.inr (.inr f))))) (vp_cell (D.1 22) (n, .inr (.inr (.inr (.inr f))))) sp dp z = vp_cell (D.1 22) (n, .inr (.inr (.inr (.inr (va_cpy f f sp.toNatClampNeg dp.toNatClampNeg z.toNatClampNeg))))) := by
    rw [vp_cell_q, vp_cell_q]
    exact va_copied (fun z => va_rf z) (D.1 22) (D.1 22) f f h4
  rw [e1] at X' step
  have hlz : a < H.size := (Array.getElem?_eq_some_iff.mp hc0).1
  have hheap : ((T.setVm vm').setCell a (vp_cell (D.1 22) (n, .inr (.inr (.inr (.inr (va_cpy f f sp.toNatClampNeg dp.toNatClampNeg z.toNatClampNeg))))))).heap = H.setIfInBounds a (vp_cell (D.1 22) (n, .inr (.inr (.inr (.inr (va_cpy f f sp.toNatClampNeg dp.toNatClampNeg z.toNatClampNeg)))))) := by rw [← hT]; rfl
  have oq : ∀ q : Nat, q ≠ a → (H.setIfInBounds a (vp_cell (D.1 22) (n, .inr (.inr (.inr (.inr (va_cpy f f sp.toNatClampNeg dp.toNatClampNeg z.toNatClampNeg)))))))[q]? = H[q]? := fun q hq => by simp [Array.getElem?_setIfInBounds, Ne.symm hq]
  obtain ⟨t, a1, b1⟩ := kk (H.setIfInBounds a (vp_cell (D.1 22) (n, .inr (.inr (.inr (.inr (va_cpy f f sp.toNatClampNeg dp.toNatClampNeg z.toNatClampNeg))))))) _ (by
    rw [← hwn]
    exact ⟨I.1.set I.2.1 ha (show (H.setIfInBounds a _)[a]? = some _ by simp [Array.getElem?_setIfInBounds, hlz]) oq, I.2.1.set ha, ⟨by simp; exact I.2.2.1, fun q g1 g2 => by
      rw [oq q (fun e => g2 (by rw [e]; exact I.2.1.2 q0 _ ha))]
      exact I.2.2.2.1 q g1 g2, fun q hq => by
      rcases List.mem_append.mp hq with h | h
      · exact I.2.2.2.2 q h
      · obtain ⟨z, -, hz⟩ := List.mem_map.mp h
        rw [← hz]
        exact I.2.1.2 q0 _ ha⟩⟩) _ hheap X'
  exact ⟨t, step t a1, b1⟩
theorem fb_min (X : fb_Bx p s m args meth c cc own nL ret D (fb_ty D cI cJ) A) (hl : lv_has ls nL lv) {index : Nat} {x y : Int32} (hlink : Cond.methodLink own index Lib.Math.min.name ∈ fb_all) (hstat : Cond.static Lib.Math.min.name ∈ fb_all) (hini : Cond.initialized "java/lang/Math" ∈ fb_all) (hcode : Cond.code Lib.Math.min.name Lib.Math.min.code 2 (some .int) ∈ fb_all) (hfr : 1 ≤ R.frames) (hlo : (rest.map fun v => v.category).sum + 13 ≤ R.locals) (hc : cells ≤ R.cells) (hs : slots ≤ R.slots) (hdg : decode cc pc = .ok (.invokestatic index, 3))
    (kk : W p l e R s m args below meth c H locs cells slots Q (F0 m (pc + 3) ls (.int (if y < x then y else x) :: rest))) : W p l e R s m args below meth c H locs cells slots Q (F0 m pc ls (.int y :: .int x :: rest)) := by
  obtain ⟨hx, hb, hr, hml, hown, hts, hlk, hA, hK, hF⟩ := X
  exact va_mmin hx hb (by rw [hml]; exact hl.1.symm) hown (hts _ hlink) (hts _ hstat) (hts _ hini) (hts _ hcode) hfr hlo hc hs hdg kk
end HIR
