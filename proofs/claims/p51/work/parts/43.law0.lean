/-! THE CLAIM OUT OF ONE WALK OF THE LAW'S BODY. Your part is whole_start (and what it stands on); all else here is the same for every law, but numbers. -/
def R_law : String := "FerriteBoardLaw"
/-- what holds at the law's entry: the machine, the code, the tables' words (any of lw_tbl by 'hts w (by decide +kernel)'), the script of L ints xs at the cell b, what the Statement gives of the start (any of its parts by flat_of_before) -/
def lw_At (p : Program) (s : State) (m : MethodId) (meth : Method) (c : Code) (b L : Nat) (xs : Nat → Int32) : Prop :=
  p.tables.exec = Jvm.exec ∧ c.code = code ∧ meth.sig.returnType = ret ∧ c.maxLocals = 9 ∧ s.vm.findClass R_law = some m.cls ∧ (∀ w ∈ lw_tbl, w.before #[Value.ref b] s = true) ∧ va_X b L xs s s.heap ∧ b < s.heap.size ∧ meth.locks = false ∧ (Jvm.Cond.and given_1 narrow_1).before #[Value.ref b] s = true

theorem fb_nIn : ∀ q ∈ fb_nM, Cond.methodLinkNest q.1 q.2.1 q.2.2.1 q.2.2.2 ∈ lw_tbl := by
  unfold fb_nM
  exact List.forall_mem_cons.mpr ⟨(List.mem_of_getElem? (i := 228) (by decide +kernel)), List.forall_mem_cons.mpr ⟨(List.mem_of_getElem? (i := 265) (by decide +kernel)), List.forall_mem_cons.mpr ⟨(List.mem_of_getElem? (i := 329) (by decide +kernel)), List.forall_mem_cons.mpr ⟨(List.mem_of_getElem? (i := 450) (by decide +kernel)), List.forall_mem_cons.mpr ⟨(List.mem_of_getElem? (i := 456) (by decide +kernel)), List.forall_mem_cons.mpr ⟨(List.mem_of_getElem? (i := 585) (by decide +kernel)), List.forall_mem_cons.mpr ⟨(List.mem_of_getElem? (i := 590) (by decide +kernel)), List.forall_mem_cons.mpr ⟨(List.mem_of_getElem? (i := 613) (by decide +kernel)), List.forall_mem_cons.mpr ⟨(List.mem_of_getElem? (i := 647) (by decide +kernel)), List.forall_mem_cons.mpr ⟨(List.mem_of_getElem? (i := 684) (by decide +kernel)), List.forall_mem_cons.mpr ⟨(List.mem_of_getElem? (i := 730) (by decide +kernel)), List.forall_mem_cons.mpr ⟨(List.mem_of_getElem? (i := 754) (by decide +kernel)), List.forall_mem_cons.mpr ⟨(List.mem_of_getElem? (i := 757) (by decide +kernel)), List.forall_mem_cons.mpr ⟨(List.mem_of_getElem? (i := 785) (by decide +kernel)), List.forall_mem_cons.mpr ⟨(List.mem_of_getElem? (i := 948) (by decide +kernel)), List.forall_mem_cons.mpr ⟨(List.mem_of_getElem? (i := 955) (by decide +kernel)), List.forall_mem_cons.mpr ⟨(List.mem_of_getElem? (i := 971) (by decide +kernel)), List.forall_mem_cons.mpr ⟨(List.mem_of_getElem? (i := 977) (by decide +kernel)), List.forall_mem_cons.mpr ⟨(List.mem_of_getElem? (i := 996) (by decide +kernel)), List.forall_mem_cons.mpr ⟨(List.mem_of_getElem? (i := 1001) (by decide +kernel)), List.forall_mem_cons.mpr ⟨(List.mem_of_getElem? (i := 1019) (by decide +kernel)), List.forall_mem_cons.mpr ⟨(List.mem_of_getElem? (i := 1020) (by decide +kernel)), List.forall_mem_cons.mpr ⟨(List.mem_of_getElem? (i := 1029) (by decide +kernel)), List.forall_mem_cons.mpr ⟨(List.mem_of_getElem? (i := 1051) (by decide +kernel)), List.forall_mem_cons.mpr ⟨(List.mem_of_getElem? (i := 1054) (by decide +kernel)), List.forall_mem_cons.mpr ⟨(List.mem_of_getElem? (i := 1057) (by decide +kernel)), List.forall_mem_cons.mpr ⟨(List.mem_of_getElem? (i := 1114) (by decide +kernel)), List.forall_mem_cons.mpr ⟨(List.mem_of_getElem? (i := 1206) (by decide +kernel)), List.forall_mem_cons.mpr ⟨(List.mem_of_getElem? (i := 1228) (by decide +kernel)), List.forall_mem_cons.mpr ⟨(List.mem_of_getElem? (i := 1229) (by decide +kernel)), List.forall_mem_cons.mpr ⟨(List.mem_of_getElem? (i := 1288) (by decide +kernel)), List.forall_mem_cons.mpr ⟨(List.mem_of_getElem? (i := 1307) (by decide +kernel)), List.forall_mem_cons.mpr ⟨(List.mem_of_getElem? (i := 1314) (by decide +kernel)), List.forall_mem_cons.mpr ⟨(List.mem_of_getElem? (i := 1402) (by decide +kernel)), List.forall_mem_cons.mpr ⟨(List.mem_of_getElem? (i := 1415) (by decide +kernel)), List.forall_mem_cons.mpr ⟨(List.mem_of_getElem? (i := 1522) (by decide +kernel)), List.forall_mem_cons.mpr ⟨(List.mem_of_getElem? (i := 1523) (by decide +kernel)), List.forall_mem_cons.mpr ⟨(List.mem_of_getElem? (i := 1530) (by decide +kernel)), List.forall_mem_cons.mpr ⟨(List.mem_of_getElem? (i := 1568) (by decide +kernel)), List.forall_mem_cons.mpr ⟨(List.mem_of_getElem? (i := 1582) (by decide +kernel)), fun _ h => absurd h List.not_mem_nil⟩⟩⟩⟩⟩⟩⟩⟩⟩⟩⟩⟩⟩⟩⟩⟩⟩⟩⟩⟩⟩⟩⟩⟩⟩⟩⟩⟩⟩⟩⟩⟩⟩⟩⟩⟩⟩⟩⟩⟩
theorem fb_dNOf {args : Array Value} {s : State} (hts : ∀ w ∈ lw_tbl, w.before args s = true) : ∀ q ∈ fb_dN, va_Nw (.declares q) s := by
  unfold fb_dN
  exact List.forall_mem_cons.mpr ⟨va_Nw.of rfl (hts _ (List.mem_of_getElem? (i := 1595) (by decide +kernel))), List.forall_mem_cons.mpr ⟨va_Nw.of rfl (hts _ (List.mem_of_getElem? (i := 1597) (by decide +kernel))), List.forall_mem_cons.mpr ⟨va_Nw.of rfl (hts _ (List.mem_of_getElem? (i := 1599) (by decide +kernel))), fun _ h => absurd h List.not_mem_nil⟩⟩⟩
theorem fb_cNOf {args : Array Value} {s : State} (hts : ∀ w ∈ lw_tbl, w.before args s = true) : ∀ q ∈ fb_cN, va_Nw (.castable q q) s := by
  unfold fb_cN
  exact List.forall_mem_cons.mpr ⟨va_Nw.of rfl (hts _ (List.mem_of_getElem? (i := 1593) (by decide +kernel))), List.forall_mem_cons.mpr ⟨va_Nw.of rfl (hts _ (List.mem_of_getElem? (i := 1672) (by decide +kernel))), List.forall_mem_cons.mpr ⟨va_Nw.of rfl (hts _ (List.mem_of_getElem? (i := 1696) (by decide +kernel))), fun _ h => absurd h List.not_mem_nil⟩⟩⟩
theorem fb_tx104 {args : Array Value} {s : State} (hts : ∀ w ∈ lw_tbl, w.before args s = true) (hgv : (Jvm.Cond.and given_1 narrow_1).before args s = true) : ∃ sa : Nat, vk_R "FerriteBoard" 104 "no such length" sa s := by
  have hs := flat_of_before _ hgv
  have h1 : (Cond.exactly (.string "FerriteBoard" 104) "java/lang/String").before args s = true := hs _ (by decide +kernel)
  obtain ⟨a, c, cell, k, h2, -⟩ := Cond.exactly_spec h1
  exact ⟨a, vk_R.of (A := args) (hts _ (List.mem_of_getElem? (i := 1679) (by decide +kernel))) h2⟩
theorem fb_tx162 {args : Array Value} {s : State} (hts : ∀ w ∈ lw_tbl, w.before args s = true) (hgv : (Jvm.Cond.and given_1 narrow_1).before args s = true) : ∃ sa : Nat, vk_R "FerriteBoard" 162 "no such name" sa s := by
  have hs := flat_of_before _ hgv
  have h1 : (Cond.exactly (.string "FerriteBoard" 162) "java/lang/String").before args s = true := hs _ (by decide +kernel)
  obtain ⟨a, c, cell, k, h2, -⟩ := Cond.exactly_spec h1
  exact ⟨a, vk_R.of (A := args) (hts _ (List.mem_of_getElem? (i := 1703) (by decide +kernel))) h2⟩
theorem fb_tx176 {args : Array Value} {s : State} (hts : ∀ w ∈ lw_tbl, w.before args s = true) (hgv : (Jvm.Cond.and given_1 narrow_1).before args s = true) : ∃ sa : Nat, vk_R "FerriteBoard" 176 "no address" sa s := by
  have hs := flat_of_before _ hgv
  have h1 : (Cond.exactly (.string "FerriteBoard" 176) "java/lang/String").before args s = true := hs _ (by decide +kernel)
  obtain ⟨a, c, cell, k, h2, -⟩ := Cond.exactly_spec h1
  exact ⟨a, vk_R.of (A := args) (hts _ (List.mem_of_getElem? (i := 1720) (by decide +kernel))) h2⟩
theorem fb_tx207 {args : Array Value} {s : State} (hts : ∀ w ∈ lw_tbl, w.before args s = true) (hgv : (Jvm.Cond.and given_1 narrow_1).before args s = true) : ∃ sa : Nat, vk_R "FerriteBoard" 207 "no byte" sa s := by
  have hs := flat_of_before _ hgv
  have h1 : (Cond.exactly (.string "FerriteBoard" 207) "java/lang/String").before args s = true := hs _ (by decide +kernel)
  obtain ⟨a, c, cell, k, h2, -⟩ := Cond.exactly_spec h1
  exact ⟨a, vk_R.of (A := args) (hts _ (List.mem_of_getElem? (i := 1743) (by decide +kernel))) h2⟩
theorem fb_tx227 {args : Array Value} {s : State} (hts : ∀ w ∈ lw_tbl, w.before args s = true) (hgv : (Jvm.Cond.and given_1 narrow_1).before args s = true) : ∃ sa : Nat, vk_R "FerriteBoard" 227 "no memory" sa s := by
  have hs := flat_of_before _ hgv
  have h1 : (Cond.exactly (.string "FerriteBoard" 227) "java/lang/String").before args s = true := hs _ (by decide +kernel)
  obtain ⟨a, c, cell, k, h2, -⟩ := Cond.exactly_spec h1
  exact ⟨a, vk_R.of (A := args) (hts _ (List.mem_of_getElem? (i := 1757) (by decide +kernel))) h2⟩
theorem fb_tx233 {args : Array Value} {s : State} (hts : ∀ w ∈ lw_tbl, w.before args s = true) (hgv : (Jvm.Cond.and given_1 narrow_1).before args s = true) : ∃ sa : Nat, vk_R "FerriteBoard" 233 "no such register" sa s := by
  have hs := flat_of_before _ hgv
  have h1 : (Cond.exactly (.string "FerriteBoard" 233) "java/lang/String").before args s = true := hs _ (by decide +kernel)
  obtain ⟨a, c, cell, k, h2, -⟩ := Cond.exactly_spec h1
  exact ⟨a, vk_R.of (A := args) (hts _ (List.mem_of_getElem? (i := 1766) (by decide +kernel))) h2⟩
theorem fb_tx235 {args : Array Value} {s : State} (hts : ∀ w ∈ lw_tbl, w.before args s = true) (hgv : (Jvm.Cond.and given_1 narrow_1).before args s = true) : ∃ sa : Nat, vk_R "FerriteBoard" 235 "it cannot be that" sa s := by
  have hs := flat_of_before _ hgv
  have h1 : (Cond.exactly (.string "FerriteBoard" 235) "java/lang/String").before args s = true := hs _ (by decide +kernel)
  obtain ⟨a, c, cell, k, h2, -⟩ := Cond.exactly_spec h1
  exact ⟨a, vk_R.of (A := args) (hts _ (List.mem_of_getElem? (i := 1767) (by decide +kernel))) h2⟩
theorem fb_tx253 {args : Array Value} {s : State} (hts : ∀ w ∈ lw_tbl, w.before args s = true) (hgv : (Jvm.Cond.and given_1 narrow_1).before args s = true) : ∃ sa : Nat, vk_R "FerriteBoard" 253 "not 1 to 5000 cycles" sa s := by
  have hs := flat_of_before _ hgv
  have h1 : (Cond.exactly (.string "FerriteBoard" 253) "java/lang/String").before args s = true := hs _ (by decide +kernel)
  obtain ⟨a, c, cell, k, h2, -⟩ := Cond.exactly_spec h1
  exact ⟨a, vk_R.of (A := args) (hts _ (List.mem_of_getElem? (i := 1782) (by decide +kernel))) h2⟩
theorem fb_tx271 {args : Array Value} {s : State} (hts : ∀ w ∈ lw_tbl, w.before args s = true) (hgv : (Jvm.Cond.and given_1 narrow_1).before args s = true) : ∃ sa : Nat, vk_R "FerriteBoard" 271 "not 1 to 200 steps" sa s := by
  have hs := flat_of_before _ hgv
  have h1 : (Cond.exactly (.string "FerriteBoard" 271) "java/lang/String").before args s = true := hs _ (by decide +kernel)
  obtain ⟨a, c, cell, k, h2, -⟩ := Cond.exactly_spec h1
  exact ⟨a, vk_R.of (A := args) (hts _ (List.mem_of_getElem? (i := 1790) (by decide +kernel))) h2⟩
theorem fb_tx280 {args : Array Value} {s : State} (hts : ∀ w ∈ lw_tbl, w.before args s = true) (hgv : (Jvm.Cond.and given_1 narrow_1).before args s = true) : ∃ sa : Nat, vk_R "FerriteBoard" 280 "not 0 to 1000 skips" sa s := by
  have hs := flat_of_before _ hgv
  have h1 : (Cond.exactly (.string "FerriteBoard" 280) "java/lang/String").before args s = true := hs _ (by decide +kernel)
  obtain ⟨a, c, cell, k, h2, -⟩ := Cond.exactly_spec h1
  exact ⟨a, vk_R.of (A := args) (hts _ (List.mem_of_getElem? (i := 1803) (by decide +kernel))) h2⟩
theorem fb_tx296 {args : Array Value} {s : State} (hts : ∀ w ∈ lw_tbl, w.before args s = true) (hgv : (Jvm.Cond.and given_1 narrow_1).before args s = true) : ∃ sa : Nat, vk_R "FerriteBoard" 296 "it ends ahead of its beginning" sa s := by
  have hs := flat_of_before _ hgv
  have h1 : (Cond.exactly (.string "FerriteBoard" 296) "java/lang/String").before args s = true := hs _ (by decide +kernel)
  obtain ⟨a, c, cell, k, h2, -⟩ := Cond.exactly_spec h1
  exact ⟨a, vk_R.of (A := args) (hts _ (List.mem_of_getElem? (i := 1817) (by decide +kernel))) h2⟩
theorem fb_tx343 {args : Array Value} {s : State} (hts : ∀ w ∈ lw_tbl, w.before args s = true) (hgv : (Jvm.Cond.and given_1 narrow_1).before args s = true) : ∃ sa : Nat, vk_R "FerriteBoard" 343 "no such bank" sa s := by
  have hs := flat_of_before _ hgv
  have h1 : (Cond.exactly (.string "FerriteBoard" 343) "java/lang/String").before args s = true := hs _ (by decide +kernel)
  obtain ⟨a, c, cell, k, h2, -⟩ := Cond.exactly_spec h1
  exact ⟨a, vk_R.of (A := args) (hts _ (List.mem_of_getElem? (i := 1838) (by decide +kernel))) h2⟩
theorem fb_tx345 {args : Array Value} {s : State} (hts : ∀ w ∈ lw_tbl, w.before args s = true) (hgv : (Jvm.Cond.and given_1 narrow_1).before args s = true) : ∃ sa : Nat, vk_R "FerriteBoard" 345 "no such place" sa s := by
  have hs := flat_of_before _ hgv
  have h1 : (Cond.exactly (.string "FerriteBoard" 345) "java/lang/String").before args s = true := hs _ (by decide +kernel)
  obtain ⟨a, c, cell, k, h2, -⟩ := Cond.exactly_spec h1
  exact ⟨a, vk_R.of (A := args) (hts _ (List.mem_of_getElem? (i := 1839) (by decide +kernel))) h2⟩
theorem fb_tx359 {args : Array Value} {s : State} (hts : ∀ w ∈ lw_tbl, w.before args s = true) (hgv : (Jvm.Cond.and given_1 narrow_1).before args s = true) : ∃ sa : Nat, vk_R "FerriteBoard" 359 "no such output" sa s := by
  have hs := flat_of_before _ hgv
  have h1 : (Cond.exactly (.string "FerriteBoard" 359) "java/lang/String").before args s = true := hs _ (by decide +kernel)
  obtain ⟨a, c, cell, k, h2, -⟩ := Cond.exactly_spec h1
  exact ⟨a, vk_R.of (A := args) (hts _ (List.mem_of_getElem? (i := 1848) (by decide +kernel))) h2⟩
theorem fb_tx364 {args : Array Value} {s : State} (hts : ∀ w ∈ lw_tbl, w.before args s = true) (hgv : (Jvm.Cond.and given_1 narrow_1).before args s = true) : ∃ sa : Nat, vk_R "FerriteBoard" 364 "no such call" sa s := by
  have hs := flat_of_before _ hgv
  have h1 : (Cond.exactly (.string "FerriteBoard" 364) "java/lang/String").before args s = true := hs _ (by decide +kernel)
  obtain ⟨a, c, cell, k, h2, -⟩ := Cond.exactly_spec h1
  exact ⟨a, vk_R.of (A := args) (hts _ (List.mem_of_getElem? (i := 1857) (by decide +kernel))) h2⟩
theorem fb_tMOf {args : Array Value} {s : State} (hts : ∀ w ∈ lw_tbl, w.before args s = true) (hgv : (Jvm.Cond.and given_1 narrow_1).before args s = true) : ∀ q ∈ fb_tM, ∃ sa : Nat, vk_R "FerriteBoard" q.1 q.2 sa s := by
  unfold fb_tM
  exact List.forall_mem_cons.mpr ⟨fb_tx104 hts hgv, List.forall_mem_cons.mpr ⟨fb_tx162 hts hgv, List.forall_mem_cons.mpr ⟨fb_tx176 hts hgv, List.forall_mem_cons.mpr ⟨fb_tx207 hts hgv, List.forall_mem_cons.mpr ⟨fb_tx227 hts hgv, List.forall_mem_cons.mpr ⟨fb_tx233 hts hgv, List.forall_mem_cons.mpr ⟨fb_tx235 hts hgv, List.forall_mem_cons.mpr ⟨fb_tx253 hts hgv, List.forall_mem_cons.mpr ⟨fb_tx271 hts hgv, List.forall_mem_cons.mpr ⟨fb_tx280 hts hgv, List.forall_mem_cons.mpr ⟨fb_tx296 hts hgv, List.forall_mem_cons.mpr ⟨fb_tx343 hts hgv, List.forall_mem_cons.mpr ⟨fb_tx345 hts hgv, List.forall_mem_cons.mpr ⟨fb_tx359 hts hgv, List.forall_mem_cons.mpr ⟨fb_tx364 hts hgv, fun _ h => absurd h List.not_mem_nil⟩⟩⟩⟩⟩⟩⟩⟩⟩⟩⟩⟩⟩⟩⟩
theorem fb_NstOf {args : Array Value} {s : State} (hts : ∀ w ∈ lw_tbl, w.before args s = true) (hgv : (Jvm.Cond.and given_1 narrow_1).before args s = true) : fb_Nst s := by
  have hs := flat_of_before _ hgv
  have h9 : (Cond.not (.castable "java/lang/IllegalArgumentException" "java/lang/IndexOutOfBoundsException")).before args s = true := hs _ (by decide +kernel)
  exact ⟨fun q hq => va_Nw.of rfl (hts _ (fb_nIn q hq)), va_Nw.of rfl (hts (.fieldLinkNest "FerriteBoard$Machine" 210 "FerriteBoard" "BRANCH_FLAGS" "[I" "FerriteBoard") (List.mem_of_getElem? (i := 1282) (by decide +kernel))), va_AO.of (hts _ (List.mem_of_getElem? (i := 327) (by decide +kernel))), (show fb_AOI s from hts (.arrayOver (.array .int)) (List.mem_of_getElem? (i := 1940) (by decide +kernel))), fb_dNOf hts, fb_cNOf hts, va_Nc.of h9, fb_tMOf hts hgv⟩
theorem fb_FzOf {args : Array Value} {s : State} (hts : ∀ w ∈ lw_tbl, w.before args s = true) (hgv : (Jvm.Cond.and given_1 narrow_1).before args s = true) : fb_Fz (fun q : Nat => s.heap.size ≤ q) s s.heap := by
  have hs := flat_of_before _ hgv
  have h1 : (Cond.arrayOf (.static "FerriteBoard" "BRANCH_FLAGS" "[I") .int).before args s = true := hs _ (by decide +kernel)
  have h2 := va_eqt (hs (.eq (.length (.static "FerriteBoard" "BRANCH_FLAGS" "[I")) (.int 4)) (by decide +kernel))
  have e0 := va_eqt (hs (.eq (.elem (.static "FerriteBoard" "BRANCH_FLAGS" "[I") (.int 0)) (.int 2)) (by decide +kernel))
  have e1 := va_eqt (hs (.eq (.elem (.static "FerriteBoard" "BRANCH_FLAGS" "[I") (.int 1)) (.int 1)) (by decide +kernel))
  have e2 := va_eqt (hs (.eq (.elem (.static "FerriteBoard" "BRANCH_FLAGS" "[I") (.int 2)) (.int 16)) (by decide +kernel))
  have e3 := va_eqt (hs (.eq (.elem (.static "FerriteBoard" "BRANCH_FLAGS" "[I") (.int 3)) (.int 8)) (by decide +kernel))
  have u1 : (Cond.isRef (.static "java/lang/Throwable" "UNASSIGNED_STACK" "[Ljava/lang/StackTraceElement;")).before args s = true := hs _ (by decide +kernel)
  have u2 : (Cond.isRef (.static "java/lang/Throwable" "SUPPRESSED_SENTINEL" "Ljava/util/List;")).before args s = true := hs _ (by decide +kernel)
  have hA : ∀ a : Nat, a < s.heap.size → ¬ (fun q : Nat => s.heap.size ≤ q) a := fun a ha => Nat.not_le.mpr ha
  obtain ⟨t, ht, hT⟩ := va_Tof (N := 4) (f := fun j => .int (fb_bf j)) (A := fun q : Nat => s.heap.size ≤ q) (by decide) h1 h2 (fun j hj => by
    match j, hj with
    | 0, _ => exact e0
    | 1, _ => exact e1
    | 2, _ => exact e2
    | 3, _ => exact e3
    | j + 4, hj => omega) hA
  exact ⟨t, va_Zof (hts _ (List.mem_of_getElem? (i := 1283) (by decide +kernel))) (hts _ (List.mem_of_getElem? (i := 191) (by decide +kernel))) ht hA, hT, vx_Zqof (hts _ (List.mem_of_getElem? (i := 1618) (by decide +kernel))) (hts _ (List.mem_of_getElem? (i := 205) (by decide +kernel))) u1 hA, vx_Zqof (hts _ (List.mem_of_getElem? (i := 1620) (by decide +kernel))) (hts _ (List.mem_of_getElem? (i := 205) (by decide +kernel))) u2 hA⟩
set_option maxRecDepth 100000 in
theorem fb_KOf {args : Array Value} {s : State} (htb : ∀ w ∈ lw_tbl, w.before args s = true) (hts : ∀ w ∈ fb_all, w.before args s = true) : ∃ (D : va_G) (cI cJ : ClassId), va_K D vwCl (fb_ty D cI cJ) s := by
  obtain ⟨c0, i0, h0⟩ := u_known (C := RX0) (T := TX0) (N := 6) (n := 6) hts fu_X0 (hts _ fw_584)
  obtain ⟨c1, i1, h1⟩ := u_known (C := RX1) (T := TX1) (N := 9) (n := 9) hts fu_X1 (hts _ fw_328)
  obtain ⟨c2, i2, h2⟩ := u_known (C := RX2) (T := TX2) (N := 17) (n := 17) hts fu_X2 (hts _ fw_449)
  obtain ⟨c3, i3, h3⟩ := u_known (C := RX3) (T := TX3) (N := 5) (n := 5) hts fu_X3 (hts _ fw_264)
  obtain ⟨c4, i4, h4⟩ := u_known (C := RX4) (T := TX4) (N := 15) (n := 15) hts fu_X4 (hts _ fw_393)
  obtain ⟨c5, i5, h5⟩ := u_known (C := RX5) (T := TX5) (N := 14) (n := 14) hts fu_X5 (hts _ fw_455)
  obtain ⟨c6, i6, h6⟩ := u_known (C := RX6) (T := TX6) (N := 5) (n := 5) hts fu_X6 (hts _ fw_646)
  obtain ⟨c7, i7, h7⟩ := u_known (C := RX7) (T := TX7) (N := 8) (n := 8) hts fu_X7 (hts _ fw_612)
  obtain ⟨c8, i8, h8⟩ := u_known (C := RX8) (T := TX8) (N := 5) (n := 5) hts fu_X8 (hts _ fw_321)
  obtain ⟨c9, i9, h9⟩ := u_known (C := RX9) (T := TX9) (N := 6) (n := 6) hts fu_X9 (hts _ fw_227)
  obtain ⟨c10, i10, h10⟩ := u_known (C := RX10) (T := TX10) (N := 7) (n := 7) hts fu_X10 (hts _ fw_289)
  obtain ⟨c11, i11, h11⟩ := u_known (C := RX11) (T := TX11) (N := 10) (n := 10) hts fu_X11 (hts _ fw_219)
  obtain ⟨c12, i12, h12⟩ := u_known (C := RX12) (T := TX12) (N := 51) (n := 51) hts fu_X12 (hts _ fw_1934)
  obtain ⟨cI, kI, pI, aI, bI, dI⟩ := Cond.arrayClass_spec (hts _ fw_261)
  obtain ⟨cJ, kJ, pJ, aJ, bJ, dJ⟩ := Cond.arrayClass_spec (hts _ fw_262)
  obtain ⟨cZ, kZ, pZ, aZ, bZ, dZ⟩ := Cond.arrayClass_spec (hts _ fw_2118)
  obtain ⟨cB, kB, pB, aB, bB, dB⟩ := Cond.arrayClass_spec (hts _ fw_1142)
  obtain ⟨pH, cH, kH, uH, uH2, bH, dH, aH⟩ := arrayOverA_spec (htb (.arrayOver (.array .int)) (List.mem_of_getElem? (i := 1940) (by decide +kernel)))
  obtain ⟨pL, cL, kL, uL, -, bL, dL, aL⟩ := Cond.arrayOver_spec (n := "FerriteBoard$Line") (htb (.arrayOver (.object "FerriteBoard$Line")) (List.mem_of_getElem? (i := 327) (by decide +kernel)))
  refine ⟨(fun k => if k = 0 then c0 else if k = 1 then c1 else if k = 2 then c2 else if k = 3 then c3 else if k = 4 then c4 else if k = 5 then c5 else if k = 6 then c6 else if k = 7 then c7 else if k = 8 then c8 else if k = 9 then c9 else if k = 10 then c10 else if k = 11 then c11 else if k = 12 then c12 else if k = 20 then cZ else if k = 21 then cB else if k = 22 then cH else cL, fun k => if k = 0 then i0 else if k = 1 then i1 else if k = 2 then i2 else if k = 3 then i3 else if k = 4 then i4 else if k = 5 then i5 else if k = 6 then i6 else if k = 7 then i7 else if k = 8 then i8 else if k = 9 then i9 else if k = 10 then i10 else if k = 11 then i11 else i12), cI, cJ, ?_, ?_⟩
  · intro k q hq
    match k, hq with
    | 0, hq => cases hq; exact h0
    | 1, hq => cases hq; exact h1
    | 2, hq => cases hq; exact h2
    | 3, hq => cases hq; exact h3
    | 4, hq => cases hq; exact h4
    | 5, hq => cases hq; exact h5
    | 6, hq => cases hq; exact h6
    | 7, hq => cases hq; exact h7
    | 8, hq => cases hq; exact h8
    | 9, hq => cases hq; exact h9
    | 10, hq => cases hq; exact h10
    | 11, hq => cases hq; exact h11
    | 12, hq => cases hq; exact h12
    | k + 13, hq => simp [vwCl] at hq
  · intro k q hq
    match k, hq with
    | 0, hq => cases hq; exact ⟨fun n z => ⟨fun k h => (by cases h), kI, bI, pI, dI⟩, aI⟩
    | 1, hq => cases hq; exact ⟨fun n z => ⟨fun k h => (by cases h), kJ, bJ, pJ, dJ⟩, aJ⟩
    | 2, hq => cases hq; exact ⟨fun n z => ⟨fun k h => (by cases h), kZ, bZ, pZ, dZ⟩, aZ⟩
    | 3, hq => cases hq; exact ⟨fun n z => ⟨fun k h => (by cases h), kB, bB, pB, dB⟩, aB⟩
    | 4, hq => cases hq; exact ⟨fun n z => ⟨fun k h => (by cases h), kH, bH, pH, dH⟩, aH⟩
    | 5, hq => cases hq; exact ⟨fun n z => ⟨fun k h => (by cases h), kL, bL, pL, dL⟩, ⟨kL, pL, bL, dL, uL, aL⟩⟩
    | k + 6, hq => simp [fb_ty] at hq

