/-! the printed witness' start with that script in the stead of its own: so the claim is false -/
def zz_cells : Array Value := (List.replicate 402 (Value.int 54)).toArray
def zz_s : State := start1.aboutOf zz_cells
theorem zz_tab {c : Cond} (hc : c.onTables = true) (h : c.before start1.args0 start1.about = true) : c.before start1.args0 zz_s = true :=
  (Cond.onTables_vm (A := start1.args0) (A' := start1.args0) (U := zz_s) (U' := start1.about) start1.about.vm c hc).trans h
set_option maxRecDepth 100000 in
theorem zz_left : ((Jvm.Cond.code x code maxLocals ret :: tables_1).filter (fun c => !c.onTables)).all (fun c => c.before start1.args0 zz_s) = true := by decide +kernel
theorem zz_words : ∀ c ∈ (Jvm.Cond.code x code maxLocals ret :: tables_1), c.before start1.args0 zz_s = true := fun c hc => by
  by_cases h : c.onTables = true
  · exact zz_tab h (start1.words c hc)
  · exact List.all_eq_true.mp zz_left c (List.mem_filter.mpr ⟨hc, by simp [h]⟩)
theorem zz_ints : zz_s.IntsAt 0 (List.replicate 402 (54 : Int32)) :=
  ⟨{ cls := 35, slots := zz_cells, vm := .none }, by rfl, (by rw [List.map_replicate] <;> rfl), ⟨fun k h => (by cases h), _, by rfl, _, by rfl⟩, by decide +kernel⟩
set_option maxRecDepth 16384 in
theorem zz_at : AtStart classFile x code maxLocals ret World_1 tables_1 room_1 Calls_1 rest_1 Pre_1 launch0 start1.p0 start1.e0 zz_s ⟨0, 0⟩ start1.args0 Lib.HandBits.below0 := by
  obtain ⟨hL, hW, ha, hle, hc, hk, -⟩ := start1.atStart
  refine ⟨hL, hW, ha, hle, hc, hk, rfl, by decide +kernel, by decide +kernel, (Spec.applies_iff rfl).mpr ⟨rfl, rfl, rfl, by decide +kernel, by decide +kernel, by decide +kernel, ?_, atoms_intro zz_words⟩, trivial, ?_, ?_⟩
  · exact launch0.hasRoom_least _ room_1 (by decide +kernel) (by decide +kernel) (by decide +kernel) (by decide +kernel) (by decide +kernel) (by decide +kernel)
  · show rest_1_c.before start1.args0 zz_s = true
    decide +kernel
  · show (Cond.and given_1 narrow_1).before start1.args0 zz_s = true
    decide +kernel
set_option maxRecDepth 16384 in
/-- THE CLAIM IS FALSE -/
theorem zz_false : ¬ Claimed_1_1 :=
  zz_refuted launch0 start1.p0 start1.e0 zz_s ⟨0, 0⟩ start1.args0 Lib.HandBits.below0 (by decide +kernel) zz_at (launch0.hasRoom_least _ zz_room (by decide +kernel) (by decide +kernel) (by decide +kernel) (by decide +kernel) (by decide +kernel) (by decide +kernel)) 0 rfl zz_ints
theorem zz_no_proof : ¬ (Claimed_1_1 ∧ Claimed_1_2) := fun h => zz_false h.1

