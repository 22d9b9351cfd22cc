/-! the printed witness' start with that script in the stead of its own: so the claim is false -/
def zz_cells : Array Value := (List.replicate 402 (Value.int 54)).toArray
def zz_s : State := start1.aboutOf zz_cells
def zz_c0 : Cell := { cls := 35, slots := zz_cells, vm := .none }
theorem zz_size : zz_cells.size = 402 := by
  unfold zz_cells
  rw [List.size_toArray, List.length_replicate]
theorem zz_get (i : Nat) (hi : i < 402) : zz_cells[i]? = some (.int 54) := by
  unfold zz_cells
  rw [List.getElem?_toArray, List.getElem?_replicate, if_pos hi]
theorem zz_tab {c : Cond} (hc : c.onTables = true) (h : c.before start1.args0 start1.about = true) : c.before start1.args0 zz_s = true :=
  (Cond.onTables_vm (A := start1.args0) (A' := start1.args0) (U := zz_s) (U' := start1.about) start1.about.vm c hc).trans h
set_option maxRecDepth 100000 in
theorem zz_left : ((Jvm.Cond.code x code maxLocals ret :: tables_1).filter (fun c => !c.onTables)).all (fun c => c.before start1.args0 zz_s) = true := by decide +kernel
theorem zz_words : ∀ c ∈ (Jvm.Cond.code x code maxLocals ret :: tables_1), c.before start1.args0 zz_s = true := fun c hc => by
  by_cases h : c.onTables = true
  · exact zz_tab h (start1.words c hc)
  · exact List.all_eq_true.mp zz_left c (List.mem_filter.mpr ⟨hc, by simp [h]⟩)
theorem zz_ints : zz_s.IntsAt 0 (List.replicate 402 (54 : Int32)) :=
  ⟨zz_c0, by rfl, (by show (List.replicate 402 (Value.int 54)).toArray.toList = _; rw [List.map_replicate]), ⟨fun k h => (by cases h), _, by rfl, _, by rfl⟩, by rw [List.length_replicate]; decide⟩
theorem zz_fit0 : cellFits zz_s zz_c0 = true := by
  unfold cellFits
  refine List.all_eq_true.mpr fun i hi => ?_
  have h0 : i < 402 := by
    have h := List.mem_range.mp hi
    rwa [show zz_c0.slots.size = 402 from zz_size] at h
  have h1 : zz_c0.slots[i]? = some (.int 54) := zz_get i h0
  simp only [h1]
  rfl
theorem zz_fits : heapFits zz_s = true := by
  have h : zz_s.heap.toList = zz_c0 :: zz_s.heap.toList.tail := rfl
  unfold heapFits
  rw [← Array.all_toList, h, List.all_cons, zz_fit0, Bool.true_and]
  decide +kernel
theorem zz_rest : rest_1_c.before start1.args0 zz_s = true := by
  have ht : (Term.arg 0).eval start1.args0 zz_s none [] zz_s = some (.ref 0) := rfl
  have hA : (Cond.isInt (.length (.arg 0))).before start1.args0 zz_s = true := by
    have e := zz_ints.length_eval ht
    unfold Cond.before Cond.holds
    simp only [Cond.value, e]
    rfl
  have hB : (Cond.all (.arg 0) (.isInt (.elem (.arg 0) (.index 0)))).value start1.args0 zz_s none zz_s [] = some true := zz_ints.all_value ht fun k hk => by
    have e : (Term.elem (.arg 0) (.index 0)).eval start1.args0 zz_s none [k] zz_s = some (.int (List.replicate 402 (54 : Int32))[k]) := zz_ints.elem_nat rfl rfl hk
    simp only [Cond.value, e]
    rfl
  show (Cond.and (.isInt (.length (.arg 0))) (Cond.all (.arg 0) (.isInt (.elem (.arg 0) (.index 0))))).before start1.args0 zz_s = true
  rw [Cond.before_and, hA, Bool.true_and]
  unfold Cond.before Cond.holds
  rw [hB]
  rfl
set_option maxRecDepth 16384 in
theorem zz_at : AtStart classFile x code maxLocals ret World_1 tables_1 room_1 Calls_1 rest_1 Pre_1 launch0 start1.p0 start1.e0 zz_s ⟨0, 0⟩ start1.args0 Lib.HandBits.below0 := by
  obtain ⟨hL, hW, ha, hle, hc, hk, -⟩ := start1.atStart
  refine ⟨hL, hW, ha, hle, hc, hk, rfl, by decide +kernel, zz_fits, (Spec.applies_iff rfl).mpr ⟨rfl, rfl, rfl, by decide +kernel, by decide +kernel, by decide +kernel, ?_, atoms_intro zz_words⟩, trivial, zz_rest, ?_⟩
  · exact launch0.hasRoom_least _ room_1 (by decide +kernel) (by decide +kernel) (by decide +kernel) (by decide +kernel) (by decide +kernel) (by decide +kernel)
  · show (Cond.and given_1 narrow_1).before start1.args0 zz_s = true
    decide +kernel
set_option maxRecDepth 16384 in
/-- THE CLAIM IS FALSE -/
theorem zz_false : ¬ Claimed_1_1 :=
  zz_refuted launch0 start1.p0 start1.e0 zz_s ⟨0, 0⟩ start1.args0 Lib.HandBits.below0 (by decide +kernel) zz_at (launch0.hasRoom_least _ zz_room (by decide +kernel) (by decide +kernel) (by decide +kernel) (by decide +kernel) (by decide +kernel) (by decide +kernel)) 0 rfl zz_ints
theorem zz_no_proof : ¬ (Claimed_1_1 ∧ Claimed_1_2) := fun h => zz_false h.1

