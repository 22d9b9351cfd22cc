section
-- ===== PART A: goes FIRST, ahead of the names: the tables' words, and 'selects' of the private methods out of them =====
/-- a private method of a class that the tables say can be made, by its rows of tables_1 -/
def lw_okq (q : MethodName × Nat) : Prop := (q.1.cls ≠ "java/lang/invoke/MethodHandle" ∧ q.1.cls ≠ "java/lang/invoke/VarHandle") ∧ Cond.instantiable q.1.cls q.2 ∈ tables_1 ∧ Cond.privateMethod q.1 ∈ tables_1 ∧ Cond.instanceMethod q.1 ∈ tables_1
theorem lw_p0 : lw_okq (⟨"FerriteBoard$Text", "readFrom", "(I)I"⟩, 6) := ⟨⟨by decide +kernel, by decide +kernel⟩, List.mem_of_getElem? (i := 37) (by decide +kernel), List.mem_of_getElem? (i := 537) (by decide +kernel), List.mem_of_getElem? (i := 538) (by decide +kernel)⟩
theorem lw_p1 : lw_okq (⟨"FerriteBoard$Text", "endOfLine", "(I)I"⟩, 6) := ⟨⟨by decide +kernel, by decide +kernel⟩, List.mem_of_getElem? (i := 37) (by decide +kernel), List.mem_of_getElem? (i := 545) (by decide +kernel), List.mem_of_getElem? (i := 546) (by decide +kernel)⟩
theorem lw_p2 : lw_okq (⟨"FerriteBoard$Text", "readLetters", "(III)I"⟩, 6) := ⟨⟨by decide +kernel, by decide +kernel⟩, List.mem_of_getElem? (i := 37) (by decide +kernel), List.mem_of_getElem? (i := 549) (by decide +kernel), List.mem_of_getElem? (i := 550) (by decide +kernel)⟩
theorem lw_p3 : lw_okq (⟨"FerriteBoard$Text", "rowEnd", "(II)I"⟩, 6) := ⟨⟨by decide +kernel, by decide +kernel⟩, List.mem_of_getElem? (i := 37) (by decide +kernel), List.mem_of_getElem? (i := 553) (by decide +kernel), List.mem_of_getElem? (i := 554) (by decide +kernel)⟩
theorem lw_p4 : lw_okq (⟨"FerriteBoard$Text", "packed", "(II)J"⟩, 6) := ⟨⟨by decide +kernel, by decide +kernel⟩, List.mem_of_getElem? (i := 37) (by decide +kernel), List.mem_of_getElem? (i := 557) (by decide +kernel), List.mem_of_getElem? (i := 558) (by decide +kernel)⟩
theorem lw_p5 : lw_okq (⟨"FerriteBoard$Text", "add", "(IIJ)V"⟩, 6) := ⟨⟨by decide +kernel, by decide +kernel⟩, List.mem_of_getElem? (i := 37) (by decide +kernel), List.mem_of_getElem? (i := 561) (by decide +kernel), List.mem_of_getElem? (i := 562) (by decide +kernel)⟩
theorem lw_p6 : lw_okq (⟨"FerriteBoard$Text", "readDigits", "(IIII)I"⟩, 6) := ⟨⟨by decide +kernel, by decide +kernel⟩, List.mem_of_getElem? (i := 37) (by decide +kernel), List.mem_of_getElem? (i := 571) (by decide +kernel), List.mem_of_getElem? (i := 572) (by decide +kernel)⟩
theorem lw_p7 : lw_okq (⟨"FerriteBoard$Text", "readSign", "(I)I"⟩, 6) := ⟨⟨by decide +kernel, by decide +kernel⟩, List.mem_of_getElem? (i := 37) (by decide +kernel), List.mem_of_getElem? (i := 579) (by decide +kernel), List.mem_of_getElem? (i := 580) (by decide +kernel)⟩
theorem lw_p8 : lw_okq (⟨"FerriteBoard$Text", "isLetterOfText", "(I)Z"⟩, 6) := ⟨⟨by decide +kernel, by decide +kernel⟩, List.mem_of_getElem? (i := 37) (by decide +kernel), List.mem_of_getElem? (i := 583) (by decide +kernel), List.mem_of_getElem? (i := 584) (by decide +kernel)⟩
theorem lw_p9 : lw_okq (⟨"FerriteBoard$Text", "readText", "(I)I"⟩, 6) := ⟨⟨by decide +kernel, by decide +kernel⟩, List.mem_of_getElem? (i := 37) (by decide +kernel), List.mem_of_getElem? (i := 587) (by decide +kernel), List.mem_of_getElem? (i := 588) (by decide +kernel)⟩
theorem lw_p10 : lw_okq (⟨"FerriteBoard$Text", "readWord", "(I)I"⟩, 6) := ⟨⟨by decide +kernel, by decide +kernel⟩, List.mem_of_getElem? (i := 37) (by decide +kernel), List.mem_of_getElem? (i := 591) (by decide +kernel), List.mem_of_getElem? (i := 592) (by decide +kernel)⟩
theorem lw_p11 : lw_okq (⟨"FerriteBoard$Text", "readOther", "(II)I"⟩, 6) := ⟨⟨by decide +kernel, by decide +kernel⟩, List.mem_of_getElem? (i := 37) (by decide +kernel), List.mem_of_getElem? (i := 647) (by decide +kernel), List.mem_of_getElem? (i := 648) (by decide +kernel)⟩
theorem lw_p12 : lw_okq (⟨"FerriteBoard$Syntax", "readLine", "(LFerriteBoard$Line;)Z"⟩, 5) := ⟨⟨by decide +kernel, by decide +kernel⟩, List.mem_of_getElem? (i := 131) (by decide +kernel), List.mem_of_getElem? (i := 731) (by decide +kernel), List.mem_of_getElem? (i := 732) (by decide +kernel)⟩
theorem lw_p13 : lw_okq (⟨"FerriteBoard$Values", "value", "(II)I"⟩, 7) := ⟨⟨by decide +kernel, by decide +kernel⟩, List.mem_of_getElem? (i := 99) (by decide +kernel), List.mem_of_getElem? (i := 751) (by decide +kernel), List.mem_of_getElem? (i := 752) (by decide +kernel)⟩
theorem lw_p14 : lw_okq (⟨"FerriteBoard$Values", "single", "(I)I"⟩, 7) := ⟨⟨by decide +kernel, by decide +kernel⟩, List.mem_of_getElem? (i := 99) (by decide +kernel), List.mem_of_getElem? (i := 755) (by decide +kernel), List.mem_of_getElem? (i := 756) (by decide +kernel)⟩
theorem lw_p15 : lw_okq (⟨"FerriteBoard$Values", "joined", "(III)I"⟩, 7) := ⟨⟨by decide +kernel, by decide +kernel⟩, List.mem_of_getElem? (i := 99) (by decide +kernel), List.mem_of_getElem? (i := 773) (by decide +kernel), List.mem_of_getElem? (i := 774) (by decide +kernel)⟩
def lw_privs_1 : List (MethodName × Nat) := [(⟨"FerriteBoard$Text", "readFrom", "(I)I"⟩, 6), (⟨"FerriteBoard$Text", "endOfLine", "(I)I"⟩, 6), (⟨"FerriteBoard$Text", "readLetters", "(III)I"⟩, 6), (⟨"FerriteBoard$Text", "rowEnd", "(II)I"⟩, 6), (⟨"FerriteBoard$Text", "packed", "(II)J"⟩, 6), (⟨"FerriteBoard$Text", "add", "(IIJ)V"⟩, 6), (⟨"FerriteBoard$Text", "readDigits", "(IIII)I"⟩, 6), (⟨"FerriteBoard$Text", "readSign", "(I)I"⟩, 6), (⟨"FerriteBoard$Text", "isLetterOfText", "(I)Z"⟩, 6), (⟨"FerriteBoard$Text", "readText", "(I)I"⟩, 6), (⟨"FerriteBoard$Text", "readWord", "(I)I"⟩, 6), (⟨"FerriteBoard$Text", "readOther", "(II)I"⟩, 6), (⟨"FerriteBoard$Syntax", "readLine", "(LFerriteBoard$Line;)Z"⟩, 5), (⟨"FerriteBoard$Values", "value", "(II)I"⟩, 7), (⟨"FerriteBoard$Values", "single", "(I)I"⟩, 7), (⟨"FerriteBoard$Values", "joined", "(III)I"⟩, 7)]
theorem lw_r1 : ∀ q ∈ lw_privs_1, lw_okq q := List.forall_mem_cons.mpr ⟨lw_p0, List.forall_mem_cons.mpr ⟨lw_p1, List.forall_mem_cons.mpr ⟨lw_p2, List.forall_mem_cons.mpr ⟨lw_p3, List.forall_mem_cons.mpr ⟨lw_p4, List.forall_mem_cons.mpr ⟨lw_p5, List.forall_mem_cons.mpr ⟨lw_p6, List.forall_mem_cons.mpr ⟨lw_p7, List.forall_mem_cons.mpr ⟨lw_p8, List.forall_mem_cons.mpr ⟨lw_p9, List.forall_mem_cons.mpr ⟨lw_p10, List.forall_mem_cons.mpr ⟨lw_p11, List.forall_mem_cons.mpr ⟨lw_p12, List.forall_mem_cons.mpr ⟨lw_p13, List.forall_mem_cons.mpr ⟨lw_p14, List.forall_mem_cons.mpr ⟨lw_p15, fun _ h => absurd h List.not_mem_nil⟩⟩⟩⟩⟩⟩⟩⟩⟩⟩⟩⟩⟩⟩⟩⟩
theorem lw_p16 : lw_okq (⟨"FerriteBoard$Syntax", "readPlace", "(LFerriteBoard$Line;)Z"⟩, 5) := ⟨⟨by decide +kernel, by decide +kernel⟩, List.mem_of_getElem? (i := 131) (by decide +kernel), List.mem_of_getElem? (i := 777) (by decide +kernel), List.mem_of_getElem? (i := 778) (by decide +kernel)⟩
theorem lw_p17 : lw_okq (⟨"FerriteBoard$Syntax", "readWord", "(LFerriteBoard$Line;I)Z"⟩, 5) := ⟨⟨by decide +kernel, by decide +kernel⟩, List.mem_of_getElem? (i := 131) (by decide +kernel), List.mem_of_getElem? (i := 789) (by decide +kernel), List.mem_of_getElem? (i := 790) (by decide +kernel)⟩
theorem lw_p18 : lw_okq (⟨"FerriteBoard$Passes", "leavesOut", "(I)Z"⟩, 15) := ⟨⟨by decide +kernel, by decide +kernel⟩, List.mem_of_getElem? (i := 203) (by decide +kernel), List.mem_of_getElem? (i := 803) (by decide +kernel), List.mem_of_getElem? (i := 804) (by decide +kernel)⟩
theorem lw_p19 : lw_okq (⟨"FerriteBoard$Passes", "nameLine", "(LFerriteBoard$Line;)V"⟩, 15) := ⟨⟨by decide +kernel, by decide +kernel⟩, List.mem_of_getElem? (i := 203) (by decide +kernel), List.mem_of_getElem? (i := 808) (by decide +kernel), List.mem_of_getElem? (i := 809) (by decide +kernel)⟩
theorem lw_p20 : lw_okq (⟨"FerriteBoard$Passes", "refuseAt", "(II)Z"⟩, 15) := ⟨⟨by decide +kernel, by decide +kernel⟩, List.mem_of_getElem? (i := 203) (by decide +kernel), List.mem_of_getElem? (i := 814) (by decide +kernel), List.mem_of_getElem? (i := 815) (by decide +kernel)⟩
theorem lw_p21 : lw_okq (⟨"FerriteBoard$Passes", "refusesValue", "(IZ)Z"⟩, 15) := ⟨⟨by decide +kernel, by decide +kernel⟩, List.mem_of_getElem? (i := 203) (by decide +kernel), List.mem_of_getElem? (i := 822) (by decide +kernel), List.mem_of_getElem? (i := 823) (by decide +kernel)⟩
theorem lw_p22 : lw_okq (⟨"FerriteBoard$Passes", "boundLine", "(LFerriteBoard$Line;I)V"⟩, 15) := ⟨⟨by decide +kernel, by decide +kernel⟩, List.mem_of_getElem? (i := 203) (by decide +kernel), List.mem_of_getElem? (i := 832) (by decide +kernel), List.mem_of_getElem? (i := 833) (by decide +kernel)⟩
theorem lw_p23 : lw_okq (⟨"FerriteBoard$Passes", "openIf", "(LFerriteBoard$Line;)V"⟩, 15) := ⟨⟨by decide +kernel, by decide +kernel⟩, List.mem_of_getElem? (i := 203) (by decide +kernel), List.mem_of_getElem? (i := 836) (by decide +kernel), List.mem_of_getElem? (i := 837) (by decide +kernel)⟩
theorem lw_p24 : lw_okq (⟨"FerriteBoard$Passes", "turnIf", "(I)V"⟩, 15) := ⟨⟨by decide +kernel, by decide +kernel⟩, List.mem_of_getElem? (i := 203) (by decide +kernel), List.mem_of_getElem? (i := 841) (by decide +kernel), List.mem_of_getElem? (i := 842) (by decide +kernel)⟩
theorem lw_p25 : lw_okq (⟨"FerriteBoard$Passes", "closeIf", "(I)V"⟩, 15) := ⟨⟨by decide +kernel, by decide +kernel⟩, List.mem_of_getElem? (i := 203) (by decide +kernel), List.mem_of_getElem? (i := 845) (by decide +kernel), List.mem_of_getElem? (i := 846) (by decide +kernel)⟩
theorem lw_p26 : lw_okq (⟨"FerriteBoard$Passes", "firstWork", "(LFerriteBoard$Line;I)V"⟩, 15) := ⟨⟨by decide +kernel, by decide +kernel⟩, List.mem_of_getElem? (i := 203) (by decide +kernel), List.mem_of_getElem? (i := 849) (by decide +kernel), List.mem_of_getElem? (i := 850) (by decide +kernel)⟩
theorem lw_p27 : lw_okq (⟨"FerriteBoard$Passes", "firstCode", "(LFerriteBoard$Line;)V"⟩, 15) := ⟨⟨by decide +kernel, by decide +kernel⟩, List.mem_of_getElem? (i := 203) (by decide +kernel), List.mem_of_getElem? (i := 853) (by decide +kernel), List.mem_of_getElem? (i := 854) (by decide +kernel)⟩
theorem lw_p28 : lw_okq (⟨"FerriteBoard$Passes", "hasForm", "(LFerriteBoard$Line;)Z"⟩, 15) := ⟨⟨by decide +kernel, by decide +kernel⟩, List.mem_of_getElem? (i := 203) (by decide +kernel), List.mem_of_getElem? (i := 857) (by decide +kernel), List.mem_of_getElem? (i := 858) (by decide +kernel)⟩
theorem lw_p29 : lw_okq (⟨"FerriteBoard$Passes", "knownUpTo", "(II)I"⟩, 15) := ⟨⟨by decide +kernel, by decide +kernel⟩, List.mem_of_getElem? (i := 203) (by decide +kernel), List.mem_of_getElem? (i := 872) (by decide +kernel), List.mem_of_getElem? (i := 873) (by decide +kernel)⟩
theorem lw_p30 : lw_okq (⟨"FerriteBoard$Passes", "countValues", "(I)I"⟩, 15) := ⟨⟨by decide +kernel, by decide +kernel⟩, List.mem_of_getElem? (i := 203) (by decide +kernel), List.mem_of_getElem? (i := 876) (by decide +kernel), List.mem_of_getElem? (i := 877) (by decide +kernel)⟩
theorem lw_p31 : lw_okq (⟨"FerriteBoard$Passes", "makeBytes", "(LFerriteBoard$Line;)Z"⟩, 15) := ⟨⟨by decide +kernel, by decide +kernel⟩, List.mem_of_getElem? (i := 203) (by decide +kernel), List.mem_of_getElem? (i := 887) (by decide +kernel), List.mem_of_getElem? (i := 888) (by decide +kernel)⟩
def lw_privs_2 : List (MethodName × Nat) := [(⟨"FerriteBoard$Syntax", "readPlace", "(LFerriteBoard$Line;)Z"⟩, 5), (⟨"FerriteBoard$Syntax", "readWord", "(LFerriteBoard$Line;I)Z"⟩, 5), (⟨"FerriteBoard$Passes", "leavesOut", "(I)Z"⟩, 15), (⟨"FerriteBoard$Passes", "nameLine", "(LFerriteBoard$Line;)V"⟩, 15), (⟨"FerriteBoard$Passes", "refuseAt", "(II)Z"⟩, 15), (⟨"FerriteBoard$Passes", "refusesValue", "(IZ)Z"⟩, 15), (⟨"FerriteBoard$Passes", "boundLine", "(LFerriteBoard$Line;I)V"⟩, 15), (⟨"FerriteBoard$Passes", "openIf", "(LFerriteBoard$Line;)V"⟩, 15), (⟨"FerriteBoard$Passes", "turnIf", "(I)V"⟩, 15), (⟨"FerriteBoard$Passes", "closeIf", "(I)V"⟩, 15), (⟨"FerriteBoard$Passes", "firstWork", "(LFerriteBoard$Line;I)V"⟩, 15), (⟨"FerriteBoard$Passes", "firstCode", "(LFerriteBoard$Line;)V"⟩, 15), (⟨"FerriteBoard$Passes", "hasForm", "(LFerriteBoard$Line;)Z"⟩, 15), (⟨"FerriteBoard$Passes", "knownUpTo", "(II)I"⟩, 15), (⟨"FerriteBoard$Passes", "countValues", "(I)I"⟩, 15), (⟨"FerriteBoard$Passes", "makeBytes", "(LFerriteBoard$Line;)Z"⟩, 15)]
theorem lw_r2 : ∀ q ∈ lw_privs_2, lw_okq q := List.forall_mem_cons.mpr ⟨lw_p16, List.forall_mem_cons.mpr ⟨lw_p17, List.forall_mem_cons.mpr ⟨lw_p18, List.forall_mem_cons.mpr ⟨lw_p19, List.forall_mem_cons.mpr ⟨lw_p20, List.forall_mem_cons.mpr ⟨lw_p21, List.forall_mem_cons.mpr ⟨lw_p22, List.forall_mem_cons.mpr ⟨lw_p23, List.forall_mem_cons.mpr ⟨lw_p24, List.forall_mem_cons.mpr ⟨lw_p25, List.forall_mem_cons.mpr ⟨lw_p26, List.forall_mem_cons.mpr ⟨lw_p27, List.forall_mem_cons.mpr ⟨lw_p28, List.forall_mem_cons.mpr ⟨lw_p29, List.forall_mem_cons.mpr ⟨lw_p30, List.forall_mem_cons.mpr ⟨lw_p31, fun _ h => absurd h List.not_mem_nil⟩⟩⟩⟩⟩⟩⟩⟩⟩⟩⟩⟩⟩⟩⟩⟩
theorem lw_p32 : lw_okq (⟨"FerriteBoard$Passes", "makeCode", "(LFerriteBoard$Line;)Z"⟩, 15) := ⟨⟨by decide +kernel, by decide +kernel⟩, List.mem_of_getElem? (i := 203) (by decide +kernel), List.mem_of_getElem? (i := 891) (by decide +kernel), List.mem_of_getElem? (i := 892) (by decide +kernel)⟩
theorem lw_p33 : lw_okq (⟨"FerriteBoard$Passes", "addByte", "(I)V"⟩, 15) := ⟨⟨by decide +kernel, by decide +kernel⟩, List.mem_of_getElem? (i := 203) (by decide +kernel), List.mem_of_getElem? (i := 895) (by decide +kernel), List.mem_of_getElem? (i := 896) (by decide +kernel)⟩
theorem lw_p34 : lw_okq (⟨"FerriteBoard$Passes", "makeBranch", "(LFerriteBoard$Line;I)Z"⟩, 15) := ⟨⟨by decide +kernel, by decide +kernel⟩, List.mem_of_getElem? (i := 203) (by decide +kernel), List.mem_of_getElem? (i := 899) (by decide +kernel), List.mem_of_getElem? (i := 900) (by decide +kernel)⟩
theorem lw_p35 : lw_okq (⟨"FerriteBoard$Passes", "accepts", "(IIII)Z"⟩, 15) := ⟨⟨by decide +kernel, by decide +kernel⟩, List.mem_of_getElem? (i := 203) (by decide +kernel), List.mem_of_getElem? (i := 903) (by decide +kernel), List.mem_of_getElem? (i := 904) (by decide +kernel)⟩
theorem lw_p36 : lw_okq (⟨"FerriteBoard$Passes", "makeValues", "(LFerriteBoard$Line;I)Z"⟩, 15) := ⟨⟨by decide +kernel, by decide +kernel⟩, List.mem_of_getElem? (i := 203) (by decide +kernel), List.mem_of_getElem? (i := 907) (by decide +kernel), List.mem_of_getElem? (i := 908) (by decide +kernel)⟩
theorem lw_p37 : lw_okq (⟨"FerriteBoard$Passes", "makeText", "(LFerriteBoard$Line;)Z"⟩, 15) := ⟨⟨by decide +kernel, by decide +kernel⟩, List.mem_of_getElem? (i := 203) (by decide +kernel), List.mem_of_getElem? (i := 912) (by decide +kernel), List.mem_of_getElem? (i := 913) (by decide +kernel)⟩
theorem lw_p38 : lw_okq (⟨"FerriteBoard$Passes", "makeFill", "(LFerriteBoard$Line;)Z"⟩, 15) := ⟨⟨by decide +kernel, by decide +kernel⟩, List.mem_of_getElem? (i := 203) (by decide +kernel), List.mem_of_getElem? (i := 917) (by decide +kernel), List.mem_of_getElem? (i := 918) (by decide +kernel)⟩
theorem lw_p39 : lw_okq (⟨"FerriteBoard$Passes", "putBytes", "(LFerriteBoard$Line;I)V"⟩, 15) := ⟨⟨by decide +kernel, by decide +kernel⟩, List.mem_of_getElem? (i := 203) (by decide +kernel), List.mem_of_getElem? (i := 921) (by decide +kernel), List.mem_of_getElem? (i := 922) (by decide +kernel)⟩
theorem lw_p40 : lw_okq (⟨"FerriteBoard", "takeOver", "()V"⟩, 10) := ⟨⟨by decide +kernel, by decide +kernel⟩, List.mem_of_getElem? (i := 29) (by decide +kernel), List.mem_of_getElem? (i := 932) (by decide +kernel), List.mem_of_getElem? (i := 933) (by decide +kernel)⟩
theorem lw_p41 : lw_okq (⟨"FerriteBoard$Machine", "takeBy", "(I)V"⟩, 17) := ⟨⟨by decide +kernel, by decide +kernel⟩, List.mem_of_getElem? (i := 259) (by decide +kernel), List.mem_of_getElem? (i := 1005) (by decide +kernel), List.mem_of_getElem? (i := 1006) (by decide +kernel)⟩
theorem lw_p42 : lw_okq (⟨"FerriteBoard$Machine", "enter", "(II)V"⟩, 17) := ⟨⟨by decide +kernel, by decide +kernel⟩, List.mem_of_getElem? (i := 259) (by decide +kernel), List.mem_of_getElem? (i := 1009) (by decide +kernel), List.mem_of_getElem? (i := 1010) (by decide +kernel)⟩
theorem lw_p43 : lw_okq (⟨"FerriteBoard$Machine", "beginCall", "(I)V"⟩, 17) := ⟨⟨by decide +kernel, by decide +kernel⟩, List.mem_of_getElem? (i := 259) (by decide +kernel), List.mem_of_getElem? (i := 1013) (by decide +kernel), List.mem_of_getElem? (i := 1014) (by decide +kernel)⟩
theorem lw_p44 : lw_okq (⟨"FerriteBoard$Machine", "push", "(I)V"⟩, 17) := ⟨⟨by decide +kernel, by decide +kernel⟩, List.mem_of_getElem? (i := 259) (by decide +kernel), List.mem_of_getElem? (i := 1018) (by decide +kernel), List.mem_of_getElem? (i := 1019) (by decide +kernel)⟩
theorem lw_p45 : lw_okq (⟨"FerriteBoard$Machine", "touch", "(I)V"⟩, 17) := ⟨⟨by decide +kernel, by decide +kernel⟩, List.mem_of_getElem? (i := 259) (by decide +kernel), List.mem_of_getElem? (i := 1022) (by decide +kernel), List.mem_of_getElem? (i := 1023) (by decide +kernel)⟩
theorem lw_p46 : lw_okq (⟨"FerriteBoard$Machine", "carryOut", "()V"⟩, 17) := ⟨⟨by decide +kernel, by decide +kernel⟩, List.mem_of_getElem? (i := 259) (by decide +kernel), List.mem_of_getElem? (i := 1031) (by decide +kernel), List.mem_of_getElem? (i := 1032) (by decide +kernel)⟩
theorem lw_p47 : lw_okq (⟨"FerriteBoard$Machine", "control", "(II)V"⟩, 17) := ⟨⟨by decide +kernel, by decide +kernel⟩, List.mem_of_getElem? (i := 259) (by decide +kernel), List.mem_of_getElem? (i := 1041) (by decide +kernel), List.mem_of_getElem? (i := 1042) (by decide +kernel)⟩
def lw_privs_3 : List (MethodName × Nat) := [(⟨"FerriteBoard$Passes", "makeCode", "(LFerriteBoard$Line;)Z"⟩, 15), (⟨"FerriteBoard$Passes", "addByte", "(I)V"⟩, 15), (⟨"FerriteBoard$Passes", "makeBranch", "(LFerriteBoard$Line;I)Z"⟩, 15), (⟨"FerriteBoard$Passes", "accepts", "(IIII)Z"⟩, 15), (⟨"FerriteBoard$Passes", "makeValues", "(LFerriteBoard$Line;I)Z"⟩, 15), (⟨"FerriteBoard$Passes", "makeText", "(LFerriteBoard$Line;)Z"⟩, 15), (⟨"FerriteBoard$Passes", "makeFill", "(LFerriteBoard$Line;)Z"⟩, 15), (⟨"FerriteBoard$Passes", "putBytes", "(LFerriteBoard$Line;I)V"⟩, 15), (⟨"FerriteBoard", "takeOver", "()V"⟩, 10), (⟨"FerriteBoard$Machine", "takeBy", "(I)V"⟩, 17), (⟨"FerriteBoard$Machine", "enter", "(II)V"⟩, 17), (⟨"FerriteBoard$Machine", "beginCall", "(I)V"⟩, 17), (⟨"FerriteBoard$Machine", "push", "(I)V"⟩, 17), (⟨"FerriteBoard$Machine", "touch", "(I)V"⟩, 17), (⟨"FerriteBoard$Machine", "carryOut", "()V"⟩, 17), (⟨"FerriteBoard$Machine", "control", "(II)V"⟩, 17)]
theorem lw_r3 : ∀ q ∈ lw_privs_3, lw_okq q := List.forall_mem_cons.mpr ⟨lw_p32, List.forall_mem_cons.mpr ⟨lw_p33, List.forall_mem_cons.mpr ⟨lw_p34, List.forall_mem_cons.mpr ⟨lw_p35, List.forall_mem_cons.mpr ⟨lw_p36, List.forall_mem_cons.mpr ⟨lw_p37, List.forall_mem_cons.mpr ⟨lw_p38, List.forall_mem_cons.mpr ⟨lw_p39, List.forall_mem_cons.mpr ⟨lw_p40, List.forall_mem_cons.mpr ⟨lw_p41, List.forall_mem_cons.mpr ⟨lw_p42, List.forall_mem_cons.mpr ⟨lw_p43, List.forall_mem_cons.mpr ⟨lw_p44, List.forall_mem_cons.mpr ⟨lw_p45, List.forall_mem_cons.mpr ⟨lw_p46, List.forall_mem_cons.mpr ⟨lw_p47, fun _ h => absurd h List.not_mem_nil⟩⟩⟩⟩⟩⟩⟩⟩⟩⟩⟩⟩⟩⟩⟩⟩
theorem lw_p48 : lw_okq (⟨"FerriteBoard$Machine", "pullAddress", "()I"⟩, 17) := ⟨⟨by decide +kernel, by decide +kernel⟩, List.mem_of_getElem? (i := 259) (by decide +kernel), List.mem_of_getElem? (i := 1045) (by decide +kernel), List.mem_of_getElem? (i := 1046) (by decide +kernel)⟩
theorem lw_p49 : lw_okq (⟨"FerriteBoard$Machine", "pull", "()I"⟩, 17) := ⟨⟨by decide +kernel, by decide +kernel⟩, List.mem_of_getElem? (i := 259) (by decide +kernel), List.mem_of_getElem? (i := 1049) (by decide +kernel), List.mem_of_getElem? (i := 1050) (by decide +kernel)⟩
theorem lw_p50 : lw_okq (⟨"FerriteBoard$Machine", "endCall", "()V"⟩, 17) := ⟨⟨by decide +kernel, by decide +kernel⟩, List.mem_of_getElem? (i := 259) (by decide +kernel), List.mem_of_getElem? (i := 1053) (by decide +kernel), List.mem_of_getElem? (i := 1054) (by decide +kernel)⟩
theorem lw_p51 : lw_okq (⟨"FerriteBoard$Machine", "setFlag", "(IZ)V"⟩, 17) := ⟨⟨by decide +kernel, by decide +kernel⟩, List.mem_of_getElem? (i := 259) (by decide +kernel), List.mem_of_getElem? (i := 1057) (by decide +kernel), List.mem_of_getElem? (i := 1058) (by decide +kernel)⟩
theorem lw_p52 : lw_okq (⟨"FerriteBoard$Machine", "transfer", "(I)V"⟩, 17) := ⟨⟨by decide +kernel, by decide +kernel⟩, List.mem_of_getElem? (i := 259) (by decide +kernel), List.mem_of_getElem? (i := 1061) (by decide +kernel), List.mem_of_getElem? (i := 1062) (by decide +kernel)⟩
theorem lw_p53 : lw_okq (⟨"FerriteBoard$Machine", "zn", "(I)I"⟩, 17) := ⟨⟨by decide +kernel, by decide +kernel⟩, List.mem_of_getElem? (i := 259) (by decide +kernel), List.mem_of_getElem? (i := 1065) (by decide +kernel), List.mem_of_getElem? (i := 1066) (by decide +kernel)⟩
theorem lw_p54 : lw_okq (⟨"FerriteBoard$Machine", "multiply", "()V"⟩, 17) := ⟨⟨by decide +kernel, by decide +kernel⟩, List.mem_of_getElem? (i := 259) (by decide +kernel), List.mem_of_getElem? (i := 1069) (by decide +kernel), List.mem_of_getElem? (i := 1070) (by decide +kernel)⟩
theorem lw_p55 : lw_okq (⟨"FerriteBoard$Machine", "stack", "(I)V"⟩, 17) := ⟨⟨by decide +kernel, by decide +kernel⟩, List.mem_of_getElem? (i := 259) (by decide +kernel), List.mem_of_getElem? (i := 1073) (by decide +kernel), List.mem_of_getElem? (i := 1074) (by decide +kernel)⟩
theorem lw_p56 : lw_okq (⟨"FerriteBoard$Machine", "onA", "(I)V"⟩, 17) := ⟨⟨by decide +kernel, by decide +kernel⟩, List.mem_of_getElem? (i := 259) (by decide +kernel), List.mem_of_getElem? (i := 1077) (by decide +kernel), List.mem_of_getElem? (i := 1078) (by decide +kernel)⟩
theorem lw_p57 : lw_okq (⟨"FerriteBoard$Machine", "divide", "()V"⟩, 17) := ⟨⟨by decide +kernel, by decide +kernel⟩, List.mem_of_getElem? (i := 259) (by decide +kernel), List.mem_of_getElem? (i := 1081) (by decide +kernel), List.mem_of_getElem? (i := 1082) (by decide +kernel)⟩
theorem lw_p58 : lw_okq (⟨"FerriteBoard$Machine", "shifted", "(II)I"⟩, 17) := ⟨⟨by decide +kernel, by decide +kernel⟩, List.mem_of_getElem? (i := 259) (by decide +kernel), List.mem_of_getElem? (i := 1085) (by decide +kernel), List.mem_of_getElem? (i := 1086) (by decide +kernel)⟩
theorem lw_p59 : lw_okq (⟨"FerriteBoard$Machine", "branch", "(III)V"⟩, 17) := ⟨⟨by decide +kernel, by decide +kernel⟩, List.mem_of_getElem? (i := 259) (by decide +kernel), List.mem_of_getElem? (i := 1089) (by decide +kernel), List.mem_of_getElem? (i := 1090) (by decide +kernel)⟩
theorem lw_p60 : lw_okq (⟨"FerriteBoard$Machine", "pushAddress", "(I)V"⟩, 17) := ⟨⟨by decide +kernel, by decide +kernel⟩, List.mem_of_getElem? (i := 259) (by decide +kernel), List.mem_of_getElem? (i := 1095) (by decide +kernel), List.mem_of_getElem? (i := 1096) (by decide +kernel)⟩
theorem lw_p61 : lw_okq (⟨"FerriteBoard$Machine", "target", "(III)I"⟩, 17) := ⟨⟨by decide +kernel, by decide +kernel⟩, List.mem_of_getElem? (i := 259) (by decide +kernel), List.mem_of_getElem? (i := 1102) (by decide +kernel), List.mem_of_getElem? (i := 1103) (by decide +kernel)⟩
theorem lw_p62 : lw_okq (⟨"FerriteBoard$Machine", "jump", "(III)V"⟩, 17) := ⟨⟨by decide +kernel, by decide +kernel⟩, List.mem_of_getElem? (i := 259) (by decide +kernel), List.mem_of_getElem? (i := 1106) (by decide +kernel), List.mem_of_getElem? (i := 1107) (by decide +kernel)⟩
theorem lw_p63 : lw_okq (⟨"FerriteBoard$Machine", "moded", "(IIII)V"⟩, 17) := ⟨⟨by decide +kernel, by decide +kernel⟩, List.mem_of_getElem? (i := 259) (by decide +kernel), List.mem_of_getElem? (i := 1110) (by decide +kernel), List.mem_of_getElem? (i := 1111) (by decide +kernel)⟩
def lw_privs_4 : List (MethodName × Nat) := [(⟨"FerriteBoard$Machine", "pullAddress", "()I"⟩, 17), (⟨"FerriteBoard$Machine", "pull", "()I"⟩, 17), (⟨"FerriteBoard$Machine", "endCall", "()V"⟩, 17), (⟨"FerriteBoard$Machine", "setFlag", "(IZ)V"⟩, 17), (⟨"FerriteBoard$Machine", "transfer", "(I)V"⟩, 17), (⟨"FerriteBoard$Machine", "zn", "(I)I"⟩, 17), (⟨"FerriteBoard$Machine", "multiply", "()V"⟩, 17), (⟨"FerriteBoard$Machine", "stack", "(I)V"⟩, 17), (⟨"FerriteBoard$Machine", "onA", "(I)V"⟩, 17), (⟨"FerriteBoard$Machine", "divide", "()V"⟩, 17), (⟨"FerriteBoard$Machine", "shifted", "(II)I"⟩, 17), (⟨"FerriteBoard$Machine", "branch", "(III)V"⟩, 17), (⟨"FerriteBoard$Machine", "pushAddress", "(I)V"⟩, 17), (⟨"FerriteBoard$Machine", "target", "(III)I"⟩, 17), (⟨"FerriteBoard$Machine", "jump", "(III)V"⟩, 17), (⟨"FerriteBoard$Machine", "moded", "(IIII)V"⟩, 17)]
theorem lw_r4 : ∀ q ∈ lw_privs_4, lw_okq q := List.forall_mem_cons.mpr ⟨lw_p48, List.forall_mem_cons.mpr ⟨lw_p49, List.forall_mem_cons.mpr ⟨lw_p50, List.forall_mem_cons.mpr ⟨lw_p51, List.forall_mem_cons.mpr ⟨lw_p52, List.forall_mem_cons.mpr ⟨lw_p53, List.forall_mem_cons.mpr ⟨lw_p54, List.forall_mem_cons.mpr ⟨lw_p55, List.forall_mem_cons.mpr ⟨lw_p56, List.forall_mem_cons.mpr ⟨lw_p57, List.forall_mem_cons.mpr ⟨lw_p58, List.forall_mem_cons.mpr ⟨lw_p59, List.forall_mem_cons.mpr ⟨lw_p60, List.forall_mem_cons.mpr ⟨lw_p61, List.forall_mem_cons.mpr ⟨lw_p62, List.forall_mem_cons.mpr ⟨lw_p63, fun _ h => absurd h List.not_mem_nil⟩⟩⟩⟩⟩⟩⟩⟩⟩⟩⟩⟩⟩⟩⟩⟩
theorem lw_p64 : lw_okq (⟨"FerriteBoard$Machine", "write", "(II)V"⟩, 17) := ⟨⟨by decide +kernel, by decide +kernel⟩, List.mem_of_getElem? (i := 259) (by decide +kernel), List.mem_of_getElem? (i := 1114) (by decide +kernel), List.mem_of_getElem? (i := 1115) (by decide +kernel)⟩
theorem lw_p65 : lw_okq (⟨"FerriteBoard$Ports", "withLow", "(II)I"⟩, 14) := ⟨⟨by decide +kernel, by decide +kernel⟩, List.mem_of_getElem? (i := 265) (by decide +kernel), List.mem_of_getElem? (i := 1126) (by decide +kernel), List.mem_of_getElem? (i := 1127) (by decide +kernel)⟩
theorem lw_p66 : lw_okq (⟨"FerriteBoard$Ports", "withHigh", "(II)I"⟩, 14) := ⟨⟨by decide +kernel, by decide +kernel⟩, List.mem_of_getElem? (i := 265) (by decide +kernel), List.mem_of_getElem? (i := 1130) (by decide +kernel), List.mem_of_getElem? (i := 1131) (by decide +kernel)⟩
theorem lw_p67 : lw_okq (⟨"FerriteBoard$Ports", "wind", "()V"⟩, 14) := ⟨⟨by decide +kernel, by decide +kernel⟩, List.mem_of_getElem? (i := 265) (by decide +kernel), List.mem_of_getElem? (i := 1134) (by decide +kernel), List.mem_of_getElem? (i := 1135) (by decide +kernel)⟩
theorem lw_p68 : lw_okq (⟨"FerriteBoard$Machine", "store", "(II)V"⟩, 17) := ⟨⟨by decide +kernel, by decide +kernel⟩, List.mem_of_getElem? (i := 259) (by decide +kernel), List.mem_of_getElem? (i := 1139) (by decide +kernel), List.mem_of_getElem? (i := 1140) (by decide +kernel)⟩
theorem lw_p69 : lw_okq (⟨"FerriteBoard$Machine", "read", "(I)I"⟩, 17) := ⟨⟨by decide +kernel, by decide +kernel⟩, List.mem_of_getElem? (i := 259) (by decide +kernel), List.mem_of_getElem? (i := 1143) (by decide +kernel), List.mem_of_getElem? (i := 1144) (by decide +kernel)⟩
theorem lw_p70 : lw_okq (⟨"FerriteBoard$Ports", "firstInput", "()I"⟩, 14) := ⟨⟨by decide +kernel, by decide +kernel⟩, List.mem_of_getElem? (i := 265) (by decide +kernel), List.mem_of_getElem? (i := 1151) (by decide +kernel), List.mem_of_getElem? (i := 1152) (by decide +kernel)⟩
theorem lw_p71 : lw_okq (⟨"FerriteBoard$Ports", "nextRandom", "()I"⟩, 14) := ⟨⟨by decide +kernel, by decide +kernel⟩, List.mem_of_getElem? (i := 265) (by decide +kernel), List.mem_of_getElem? (i := 1155) (by decide +kernel), List.mem_of_getElem? (i := 1156) (by decide +kernel)⟩
theorem lw_p72 : lw_okq (⟨"FerriteBoard$Machine", "changed", "(II)I"⟩, 17) := ⟨⟨by decide +kernel, by decide +kernel⟩, List.mem_of_getElem? (i := 259) (by decide +kernel), List.mem_of_getElem? (i := 1160) (by decide +kernel), List.mem_of_getElem? (i := 1161) (by decide +kernel)⟩
theorem lw_p73 : lw_okq (⟨"FerriteBoard$Machine", "operate", "(II)V"⟩, 17) := ⟨⟨by decide +kernel, by decide +kernel⟩, List.mem_of_getElem? (i := 259) (by decide +kernel), List.mem_of_getElem? (i := 1164) (by decide +kernel), List.mem_of_getElem? (i := 1165) (by decide +kernel)⟩
theorem lw_p74 : lw_okq (⟨"FerriteBoard$Machine", "add", "(II)V"⟩, 17) := ⟨⟨by decide +kernel, by decide +kernel⟩, List.mem_of_getElem? (i := 259) (by decide +kernel), List.mem_of_getElem? (i := 1168) (by decide +kernel), List.mem_of_getElem? (i := 1169) (by decide +kernel)⟩
theorem lw_p75 : lw_okq (⟨"FerriteBoard$Machine", "compare", "(II)V"⟩, 17) := ⟨⟨by decide +kernel, by decide +kernel⟩, List.mem_of_getElem? (i := 259) (by decide +kernel), List.mem_of_getElem? (i := 1172) (by decide +kernel), List.mem_of_getElem? (i := 1173) (by decide +kernel)⟩
theorem lw_p76 : lw_okq (⟨"FerriteBoard$Machine", "copy", "(I)V"⟩, 17) := ⟨⟨by decide +kernel, by decide +kernel⟩, List.mem_of_getElem? (i := 259) (by decide +kernel), List.mem_of_getElem? (i := 1176) (by decide +kernel), List.mem_of_getElem? (i := 1177) (by decide +kernel)⟩
theorem lw_p77 : lw_okq (⟨"FerriteBoard$Ports", "ring", "()V"⟩, 14) := ⟨⟨by decide +kernel, by decide +kernel⟩, List.mem_of_getElem? (i := 265) (by decide +kernel), List.mem_of_getElem? (i := 1184) (by decide +kernel), List.mem_of_getElem? (i := 1185) (by decide +kernel)⟩
theorem lw_p78 : lw_okq (⟨"FerriteBoard", "goOn", "(II)I"⟩, 10) := ⟨⟨by decide +kernel, by decide +kernel⟩, List.mem_of_getElem? (i := 29) (by decide +kernel), List.mem_of_getElem? (i := 1200) (by decide +kernel), List.mem_of_getElem? (i := 1201) (by decide +kernel)⟩
theorem lw_p79 : lw_okq (⟨"FerriteBoard", "reasonToStop", "(ZI)I"⟩, 10) := ⟨⟨by decide +kernel, by decide +kernel⟩, List.mem_of_getElem? (i := 29) (by decide +kernel), List.mem_of_getElem? (i := 1205) (by decide +kernel), List.mem_of_getElem? (i := 1206) (by decide +kernel)⟩
def lw_privs_5 : List (MethodName × Nat) := [(⟨"FerriteBoard$Machine", "write", "(II)V"⟩, 17), (⟨"FerriteBoard$Ports", "withLow", "(II)I"⟩, 14), (⟨"FerriteBoard$Ports", "withHigh", "(II)I"⟩, 14), (⟨"FerriteBoard$Ports", "wind", "()V"⟩, 14), (⟨"FerriteBoard$Machine", "store", "(II)V"⟩, 17), (⟨"FerriteBoard$Machine", "read", "(I)I"⟩, 17), (⟨"FerriteBoard$Ports", "firstInput", "()I"⟩, 14), (⟨"FerriteBoard$Ports", "nextRandom", "()I"⟩, 14), (⟨"FerriteBoard$Machine", "changed", "(II)I"⟩, 17), (⟨"FerriteBoard$Machine", "operate", "(II)V"⟩, 17), (⟨"FerriteBoard$Machine", "add", "(II)V"⟩, 17), (⟨"FerriteBoard$Machine", "compare", "(II)V"⟩, 17), (⟨"FerriteBoard$Machine", "copy", "(I)V"⟩, 17), (⟨"FerriteBoard$Ports", "ring", "()V"⟩, 14), (⟨"FerriteBoard", "goOn", "(II)I"⟩, 10), (⟨"FerriteBoard", "reasonToStop", "(ZI)I"⟩, 10)]
theorem lw_r5 : ∀ q ∈ lw_privs_5, lw_okq q := List.forall_mem_cons.mpr ⟨lw_p64, List.forall_mem_cons.mpr ⟨lw_p65, List.forall_mem_cons.mpr ⟨lw_p66, List.forall_mem_cons.mpr ⟨lw_p67, List.forall_mem_cons.mpr ⟨lw_p68, List.forall_mem_cons.mpr ⟨lw_p69, List.forall_mem_cons.mpr ⟨lw_p70, List.forall_mem_cons.mpr ⟨lw_p71, List.forall_mem_cons.mpr ⟨lw_p72, List.forall_mem_cons.mpr ⟨lw_p73, List.forall_mem_cons.mpr ⟨lw_p74, List.forall_mem_cons.mpr ⟨lw_p75, List.forall_mem_cons.mpr ⟨lw_p76, List.forall_mem_cons.mpr ⟨lw_p77, List.forall_mem_cons.mpr ⟨lw_p78, List.forall_mem_cons.mpr ⟨lw_p79, fun _ h => absurd h List.not_mem_nil⟩⟩⟩⟩⟩⟩⟩⟩⟩⟩⟩⟩⟩⟩⟩⟩
theorem lw_p80 : lw_okq (⟨"FerriteBoard$Stops", "isWatched", "(II)Z"⟩, 8) := ⟨⟨by decide +kernel, by decide +kernel⟩, List.mem_of_getElem? (i := 422) (by decide +kernel), List.mem_of_getElem? (i := 1214) (by decide +kernel), List.mem_of_getElem? (i := 1215) (by decide +kernel)⟩
theorem lw_p81 : lw_okq (⟨"FerriteBoard$Reach", "comeTo", "(I)V"⟩, 5) := ⟨⟨by decide +kernel, by decide +kernel⟩, List.mem_of_getElem? (i := 456) (by decide +kernel), List.mem_of_getElem? (i := 1329) (by decide +kernel), List.mem_of_getElem? (i := 1330) (by decide +kernel)⟩
theorem lw_p82 : lw_okq (⟨"FerriteBoard$Reach", "goFrom", "(LFerriteBoard$Machine;I)V"⟩, 5) := ⟨⟨by decide +kernel, by decide +kernel⟩, List.mem_of_getElem? (i := 456) (by decide +kernel), List.mem_of_getElem? (i := 1336) (by decide +kernel), List.mem_of_getElem? (i := 1337) (by decide +kernel)⟩
theorem lw_p83 : lw_okq (⟨"java/lang/Throwable", "fillInStackTrace", "(I)Ljava/lang/Throwable;"⟩, 6) := ⟨⟨by decide +kernel, by decide +kernel⟩, List.mem_of_getElem? (i := 1440) (by decide +kernel), List.mem_of_getElem? (i := 1438) (by decide +kernel), List.mem_of_getElem? (i := 1439) (by decide +kernel)⟩
theorem lw_p84 : lw_okq (⟨"FerriteBoardModel", "start", "()V"⟩, 51) := ⟨⟨by decide +kernel, by decide +kernel⟩, List.mem_of_getElem? (i := 1744) (by decide +kernel), List.mem_of_getElem? (i := 1752) (by decide +kernel), List.mem_of_getElem? (i := 1753) (by decide +kernel)⟩
theorem lw_p85 : lw_okq (⟨"FerriteBoardModel", "vector", "(I)I"⟩, 51) := ⟨⟨by decide +kernel, by decide +kernel⟩, List.mem_of_getElem? (i := 1744) (by decide +kernel), List.mem_of_getElem? (i := 1756) (by decide +kernel), List.mem_of_getElem? (i := 1757) (by decide +kernel)⟩
theorem lw_p86 : lw_okq (⟨"FerriteBoardModel", "code", "(I)I"⟩, 51) := ⟨⟨by decide +kernel, by decide +kernel⟩, List.mem_of_getElem? (i := 1744) (by decide +kernel), List.mem_of_getElem? (i := 1760) (by decide +kernel), List.mem_of_getElem? (i := 1761) (by decide +kernel)⟩
theorem lw_p87 : lw_okq (⟨"FerriteBoardModel", "place", "(I)I"⟩, 51) := ⟨⟨by decide +kernel, by decide +kernel⟩, List.mem_of_getElem? (i := 1744) (by decide +kernel), List.mem_of_getElem? (i := 1767) (by decide +kernel), List.mem_of_getElem? (i := 1768) (by decide +kernel)⟩
theorem lw_p88 : lw_okq (⟨"FerriteBoardModel", "forget", "()V"⟩, 51) := ⟨⟨by decide +kernel, by decide +kernel⟩, List.mem_of_getElem? (i := 1744) (by decide +kernel), List.mem_of_getElem? (i := 1771) (by decide +kernel), List.mem_of_getElem? (i := 1772) (by decide +kernel)⟩
theorem lw_p89 : lw_okq (⟨"FerriteBoardModel", "read", "()I"⟩, 51) := ⟨⟨by decide +kernel, by decide +kernel⟩, List.mem_of_getElem? (i := 1744) (by decide +kernel), List.mem_of_getElem? (i := 1938) (by decide +kernel), List.mem_of_getElem? (i := 1939) (by decide +kernel)⟩
theorem lw_p90 : lw_okq (⟨"FerriteBoardModel", "cut", "()V"⟩, 51) := ⟨⟨by decide +kernel, by decide +kernel⟩, List.mem_of_getElem? (i := 1744) (by decide +kernel), List.mem_of_getElem? (i := 1942) (by decide +kernel), List.mem_of_getElem? (i := 1943) (by decide +kernel)⟩
theorem lw_p91 : lw_okq (⟨"FerriteBoardModel", "at", "(I)I"⟩, 51) := ⟨⟨by decide +kernel, by decide +kernel⟩, List.mem_of_getElem? (i := 1744) (by decide +kernel), List.mem_of_getElem? (i := 1946) (by decide +kernel), List.mem_of_getElem? (i := 1947) (by decide +kernel)⟩
theorem lw_p92 : lw_okq (⟨"FerriteBoardModel", "next", "(I)I"⟩, 51) := ⟨⟨by decide +kernel, by decide +kernel⟩, List.mem_of_getElem? (i := 1744) (by decide +kernel), List.mem_of_getElem? (i := 1950) (by decide +kernel), List.mem_of_getElem? (i := 1951) (by decide +kernel)⟩
theorem lw_p93 : lw_okq (⟨"FerriteBoardModel", "isLower", "(I)Z"⟩, 51) := ⟨⟨by decide +kernel, by decide +kernel⟩, List.mem_of_getElem? (i := 1744) (by decide +kernel), List.mem_of_getElem? (i := 1954) (by decide +kernel), List.mem_of_getElem? (i := 1955) (by decide +kernel)⟩
theorem lw_p94 : lw_okq (⟨"FerriteBoardModel", "isDigit", "(I)Z"⟩, 51) := ⟨⟨by decide +kernel, by decide +kernel⟩, List.mem_of_getElem? (i := 1744) (by decide +kernel), List.mem_of_getElem? (i := 1961) (by decide +kernel), List.mem_of_getElem? (i := 1962) (by decide +kernel)⟩
theorem lw_p95 : lw_okq (⟨"FerriteBoardModel", "token", "(IIII)V"⟩, 51) := ⟨⟨by decide +kernel, by decide +kernel⟩, List.mem_of_getElem? (i := 1744) (by decide +kernel), List.mem_of_getElem? (i := 1965) (by decide +kernel), List.mem_of_getElem? (i := 1966) (by decide +kernel)⟩
def lw_privs_6 : List (MethodName × Nat) := [(⟨"FerriteBoard$Stops", "isWatched", "(II)Z"⟩, 8), (⟨"FerriteBoard$Reach", "comeTo", "(I)V"⟩, 5), (⟨"FerriteBoard$Reach", "goFrom", "(LFerriteBoard$Machine;I)V"⟩, 5), (⟨"java/lang/Throwable", "fillInStackTrace", "(I)Ljava/lang/Throwable;"⟩, 6), (⟨"FerriteBoardModel", "start", "()V"⟩, 51), (⟨"FerriteBoardModel", "vector", "(I)I"⟩, 51), (⟨"FerriteBoardModel", "code", "(I)I"⟩, 51), (⟨"FerriteBoardModel", "place", "(I)I"⟩, 51), (⟨"FerriteBoardModel", "forget", "()V"⟩, 51), (⟨"FerriteBoardModel", "read", "()I"⟩, 51), (⟨"FerriteBoardModel", "cut", "()V"⟩, 51), (⟨"FerriteBoardModel", "at", "(I)I"⟩, 51), (⟨"FerriteBoardModel", "next", "(I)I"⟩, 51), (⟨"FerriteBoardModel", "isLower", "(I)Z"⟩, 51), (⟨"FerriteBoardModel", "isDigit", "(I)Z"⟩, 51), (⟨"FerriteBoardModel", "token", "(IIII)V"⟩, 51)]
theorem lw_r6 : ∀ q ∈ lw_privs_6, lw_okq q := List.forall_mem_cons.mpr ⟨lw_p80, List.forall_mem_cons.mpr ⟨lw_p81, List.forall_mem_cons.mpr ⟨lw_p82, List.forall_mem_cons.mpr ⟨lw_p83, List.forall_mem_cons.mpr ⟨lw_p84, List.forall_mem_cons.mpr ⟨lw_p85, List.forall_mem_cons.mpr ⟨lw_p86, List.forall_mem_cons.mpr ⟨lw_p87, List.forall_mem_cons.mpr ⟨lw_p88, List.forall_mem_cons.mpr ⟨lw_p89, List.forall_mem_cons.mpr ⟨lw_p90, List.forall_mem_cons.mpr ⟨lw_p91, List.forall_mem_cons.mpr ⟨lw_p92, List.forall_mem_cons.mpr ⟨lw_p93, List.forall_mem_cons.mpr ⟨lw_p94, List.forall_mem_cons.mpr ⟨lw_p95, fun _ h => absurd h List.not_mem_nil⟩⟩⟩⟩⟩⟩⟩⟩⟩⟩⟩⟩⟩⟩⟩⟩
theorem lw_p96 : lw_okq (⟨"FerriteBoardModel", "digits", "(III)I"⟩, 51) := ⟨⟨by decide +kernel, by decide +kernel⟩, List.mem_of_getElem? (i := 1744) (by decide +kernel), List.mem_of_getElem? (i := 1969) (by decide +kernel), List.mem_of_getElem? (i := 1970) (by decide +kernel)⟩
theorem lw_p97 : lw_okq (⟨"FerriteBoardModel", "isHex", "(I)Z"⟩, 51) := ⟨⟨by decide +kernel, by decide +kernel⟩, List.mem_of_getElem? (i := 1744) (by decide +kernel), List.mem_of_getElem? (i := 1974) (by decide +kernel), List.mem_of_getElem? (i := 1975) (by decide +kernel)⟩
theorem lw_p98 : lw_okq (⟨"FerriteBoardModel", "which", "(Ljava/lang/String;II)I"⟩, 51) := ⟨⟨by decide +kernel, by decide +kernel⟩, List.mem_of_getElem? (i := 1744) (by decide +kernel), List.mem_of_getElem? (i := 1979) (by decide +kernel), List.mem_of_getElem? (i := 1980) (by decide +kernel)⟩
theorem lw_p99 : lw_okq (⟨"FerriteBoardModel", "formLine", "()V"⟩, 51) := ⟨⟨by decide +kernel, by decide +kernel⟩, List.mem_of_getElem? (i := 1744) (by decide +kernel), List.mem_of_getElem? (i := 1987) (by decide +kernel), List.mem_of_getElem? (i := 1988) (by decide +kernel)⟩
theorem lw_p100 : lw_okq (⟨"FerriteBoardModel", "isSign", "(I)Z"⟩, 51) := ⟨⟨by decide +kernel, by decide +kernel⟩, List.mem_of_getElem? (i := 1744) (by decide +kernel), List.mem_of_getElem? (i := 1991) (by decide +kernel), List.mem_of_getElem? (i := 1992) (by decide +kernel)⟩
theorem lw_p101 : lw_okq (⟨"FerriteBoardModel", "is", "(III)Z"⟩, 51) := ⟨⟨by decide +kernel, by decide +kernel⟩, List.mem_of_getElem? (i := 1744) (by decide +kernel), List.mem_of_getElem? (i := 1995) (by decide +kernel), List.mem_of_getElem? (i := 1996) (by decide +kernel)⟩
theorem lw_p102 : lw_okq (⟨"FerriteBoardModel", "formValue", "(I)V"⟩, 51) := ⟨⟨by decide +kernel, by decide +kernel⟩, List.mem_of_getElem? (i := 1744) (by decide +kernel), List.mem_of_getElem? (i := 1999) (by decide +kernel), List.mem_of_getElem? (i := 2000) (by decide +kernel)⟩
theorem lw_p103 : lw_okq (⟨"FerriteBoardModel", "formSingle", "(I)V"⟩, 51) := ⟨⟨by decide +kernel, by decide +kernel⟩, List.mem_of_getElem? (i := 1744) (by decide +kernel), List.mem_of_getElem? (i := 2003) (by decide +kernel), List.mem_of_getElem? (i := 2004) (by decide +kernel)⟩
theorem lw_p104 : lw_okq (⟨"FerriteBoardModel", "isUnary", "()Z"⟩, 51) := ⟨⟨by decide +kernel, by decide +kernel⟩, List.mem_of_getElem? (i := 1744) (by decide +kernel), List.mem_of_getElem? (i := 2007) (by decide +kernel), List.mem_of_getElem? (i := 2008) (by decide +kernel)⟩
theorem lw_p105 : lw_okq (⟨"FerriteBoardModel", "fail", "(II)V"⟩, 51) := ⟨⟨by decide +kernel, by decide +kernel⟩, List.mem_of_getElem? (i := 1744) (by decide +kernel), List.mem_of_getElem? (i := 2011) (by decide +kernel), List.mem_of_getElem? (i := 2012) (by decide +kernel)⟩
theorem lw_p106 : lw_okq (⟨"FerriteBoardModel", "takeSign", "(I)Z"⟩, 51) := ⟨⟨by decide +kernel, by decide +kernel⟩, List.mem_of_getElem? (i := 1744) (by decide +kernel), List.mem_of_getElem? (i := 2015) (by decide +kernel), List.mem_of_getElem? (i := 2016) (by decide +kernel)⟩
theorem lw_p107 : lw_okq (⟨"FerriteBoardModel", "binds", "()I"⟩, 51) := ⟨⟨by decide +kernel, by decide +kernel⟩, List.mem_of_getElem? (i := 1744) (by decide +kernel), List.mem_of_getElem? (i := 2019) (by decide +kernel), List.mem_of_getElem? (i := 2020) (by decide +kernel)⟩
theorem lw_p108 : lw_okq (⟨"FerriteBoardModel", "expect", "(I)V"⟩, 51) := ⟨⟨by decide +kernel, by decide +kernel⟩, List.mem_of_getElem? (i := 1744) (by decide +kernel), List.mem_of_getElem? (i := 2023) (by decide +kernel), List.mem_of_getElem? (i := 2024) (by decide +kernel)⟩
theorem lw_p109 : lw_okq (⟨"FerriteBoardModel", "formWork", "()V"⟩, 51) := ⟨⟨by decide +kernel, by decide +kernel⟩, List.mem_of_getElem? (i := 1744) (by decide +kernel), List.mem_of_getElem? (i := 2027) (by decide +kernel), List.mem_of_getElem? (i := 2028) (by decide +kernel)⟩
theorem lw_p110 : lw_okq (⟨"FerriteBoardModel", "formPlace", "()V"⟩, 51) := ⟨⟨by decide +kernel, by decide +kernel⟩, List.mem_of_getElem? (i := 1744) (by decide +kernel), List.mem_of_getElem? (i := 2031) (by decide +kernel), List.mem_of_getElem? (i := 2032) (by decide +kernel)⟩
theorem lw_p111 : lw_okq (⟨"FerriteBoardModel", "formX", "()V"⟩, 51) := ⟨⟨by decide +kernel, by decide +kernel⟩, List.mem_of_getElem? (i := 1744) (by decide +kernel), List.mem_of_getElem? (i := 2035) (by decide +kernel), List.mem_of_getElem? (i := 2036) (by decide +kernel)⟩
def lw_privs_7 : List (MethodName × Nat) := [(⟨"FerriteBoardModel", "digits", "(III)I"⟩, 51), (⟨"FerriteBoardModel", "isHex", "(I)Z"⟩, 51), (⟨"FerriteBoardModel", "which", "(Ljava/lang/String;II)I"⟩, 51), (⟨"FerriteBoardModel", "formLine", "()V"⟩, 51), (⟨"FerriteBoardModel", "isSign", "(I)Z"⟩, 51), (⟨"FerriteBoardModel", "is", "(III)Z"⟩, 51), (⟨"FerriteBoardModel", "formValue", "(I)V"⟩, 51), (⟨"FerriteBoardModel", "formSingle", "(I)V"⟩, 51), (⟨"FerriteBoardModel", "isUnary", "()Z"⟩, 51), (⟨"FerriteBoardModel", "fail", "(II)V"⟩, 51), (⟨"FerriteBoardModel", "takeSign", "(I)Z"⟩, 51), (⟨"FerriteBoardModel", "binds", "()I"⟩, 51), (⟨"FerriteBoardModel", "expect", "(I)V"⟩, 51), (⟨"FerriteBoardModel", "formWork", "()V"⟩, 51), (⟨"FerriteBoardModel", "formPlace", "()V"⟩, 51), (⟨"FerriteBoardModel", "formX", "()V"⟩, 51)]
theorem lw_r7 : ∀ q ∈ lw_privs_7, lw_okq q := List.forall_mem_cons.mpr ⟨lw_p96, List.forall_mem_cons.mpr ⟨lw_p97, List.forall_mem_cons.mpr ⟨lw_p98, List.forall_mem_cons.mpr ⟨lw_p99, List.forall_mem_cons.mpr ⟨lw_p100, List.forall_mem_cons.mpr ⟨lw_p101, List.forall_mem_cons.mpr ⟨lw_p102, List.forall_mem_cons.mpr ⟨lw_p103, List.forall_mem_cons.mpr ⟨lw_p104, List.forall_mem_cons.mpr ⟨lw_p105, List.forall_mem_cons.mpr ⟨lw_p106, List.forall_mem_cons.mpr ⟨lw_p107, List.forall_mem_cons.mpr ⟨lw_p108, List.forall_mem_cons.mpr ⟨lw_p109, List.forall_mem_cons.mpr ⟨lw_p110, List.forall_mem_cons.mpr ⟨lw_p111, fun _ h => absurd h List.not_mem_nil⟩⟩⟩⟩⟩⟩⟩⟩⟩⟩⟩⟩⟩⟩⟩⟩
theorem lw_p112 : lw_okq (⟨"FerriteBoardModel", "time", "(Z)V"⟩, 51) := ⟨⟨by decide +kernel, by decide +kernel⟩, List.mem_of_getElem? (i := 1744) (by decide +kernel), List.mem_of_getElem? (i := 2039) (by decide +kernel), List.mem_of_getElem? (i := 2040) (by decide +kernel)⟩
theorem lw_p113 : lw_okq (⟨"FerriteBoardModel", "lineOnce", "()V"⟩, 51) := ⟨⟨by decide +kernel, by decide +kernel⟩, List.mem_of_getElem? (i := 1744) (by decide +kernel), List.mem_of_getElem? (i := 2043) (by decide +kernel), List.mem_of_getElem? (i := 2044) (by decide +kernel)⟩
theorem lw_p114 : lw_okq (⟨"FerriteBoardModel", "isFork", "()Z"⟩, 51) := ⟨⟨by decide +kernel, by decide +kernel⟩, List.mem_of_getElem? (i := 1744) (by decide +kernel), List.mem_of_getElem? (i := 2047) (by decide +kernel), List.mem_of_getElem? (i := 2048) (by decide +kernel)⟩
theorem lw_p115 : lw_okq (⟨"FerriteBoardModel", "isOut", "(I)Z"⟩, 51) := ⟨⟨by decide +kernel, by decide +kernel⟩, List.mem_of_getElem? (i := 1744) (by decide +kernel), List.mem_of_getElem? (i := 2052) (by decide +kernel), List.mem_of_getElem? (i := 2053) (by decide +kernel)⟩
theorem lw_p116 : lw_okq (⟨"FerriteBoardModel", "define", "(II)V"⟩, 51) := ⟨⟨by decide +kernel, by decide +kernel⟩, List.mem_of_getElem? (i := 1744) (by decide +kernel), List.mem_of_getElem? (i := 2056) (by decide +kernel), List.mem_of_getElem? (i := 2057) (by decide +kernel)⟩
theorem lw_p117 : lw_okq (⟨"FerriteBoardModel", "find", "(I)I"⟩, 51) := ⟨⟨by decide +kernel, by decide +kernel⟩, List.mem_of_getElem? (i := 1744) (by decide +kernel), List.mem_of_getElem? (i := 2060) (by decide +kernel), List.mem_of_getElem? (i := 2061) (by decide +kernel)⟩
theorem lw_p118 : lw_okq (⟨"FerriteBoardModel", "fork", "()V"⟩, 51) := ⟨⟨by decide +kernel, by decide +kernel⟩, List.mem_of_getElem? (i := 1744) (by decide +kernel), List.mem_of_getElem? (i := 2064) (by decide +kernel), List.mem_of_getElem? (i := 2065) (by decide +kernel)⟩
theorem lw_p119 : lw_okq (⟨"FerriteBoardModel", "known", "(II)I"⟩, 51) := ⟨⟨by decide +kernel, by decide +kernel⟩, List.mem_of_getElem? (i := 1744) (by decide +kernel), List.mem_of_getElem? (i := 2070) (by decide +kernel), List.mem_of_getElem? (i := 2071) (by decide +kernel)⟩
theorem lw_p120 : lw_okq (⟨"FerriteBoardModel", "whole", "()I"⟩, 51) := ⟨⟨by decide +kernel, by decide +kernel⟩, List.mem_of_getElem? (i := 1744) (by decide +kernel), List.mem_of_getElem? (i := 2074) (by decide +kernel), List.mem_of_getElem? (i := 2075) (by decide +kernel)⟩
theorem lw_p121 : lw_okq (⟨"FerriteBoardModel", "value", "(I)I"⟩, 51) := ⟨⟨by decide +kernel, by decide +kernel⟩, List.mem_of_getElem? (i := 1744) (by decide +kernel), List.mem_of_getElem? (i := 2078) (by decide +kernel), List.mem_of_getElem? (i := 2079) (by decide +kernel)⟩
theorem lw_p122 : lw_okq (⟨"FerriteBoardModel", "single", "()I"⟩, 51) := ⟨⟨by decide +kernel, by decide +kernel⟩, List.mem_of_getElem? (i := 1744) (by decide +kernel), List.mem_of_getElem? (i := 2082) (by decide +kernel), List.mem_of_getElem? (i := 2083) (by decide +kernel)⟩
theorem lw_p123 : lw_okq (⟨"FerriteBoardModel", "joined", "(III)I"⟩, 51) := ⟨⟨by decide +kernel, by decide +kernel⟩, List.mem_of_getElem? (i := 1744) (by decide +kernel), List.mem_of_getElem? (i := 2086) (by decide +kernel), List.mem_of_getElem? (i := 2087) (by decide +kernel)⟩
theorem lw_p124 : lw_okq (⟨"FerriteBoardModel", "actLine", "()V"⟩, 51) := ⟨⟨by decide +kernel, by decide +kernel⟩, List.mem_of_getElem? (i := 1744) (by decide +kernel), List.mem_of_getElem? (i := 2090) (by decide +kernel), List.mem_of_getElem? (i := 2091) (by decide +kernel)⟩
theorem lw_p125 : lw_okq (⟨"FerriteBoardModel", "instruction", "()V"⟩, 51) := ⟨⟨by decide +kernel, by decide +kernel⟩, List.mem_of_getElem? (i := 1744) (by decide +kernel), List.mem_of_getElem? (i := 2094) (by decide +kernel), List.mem_of_getElem? (i := 2095) (by decide +kernel)⟩
theorem lw_p126 : lw_okq (⟨"FerriteBoardModel", "instructionAt", "(IZ)I"⟩, 51) := ⟨⟨by decide +kernel, by decide +kernel⟩, List.mem_of_getElem? (i := 1744) (by decide +kernel), List.mem_of_getElem? (i := 2098) (by decide +kernel), List.mem_of_getElem? (i := 2099) (by decide +kernel)⟩
theorem lw_p127 : lw_okq (⟨"FerriteBoardModel", "endOfLine", "()I"⟩, 51) := ⟨⟨by decide +kernel, by decide +kernel⟩, List.mem_of_getElem? (i := 1744) (by decide +kernel), List.mem_of_getElem? (i := 2103) (by decide +kernel), List.mem_of_getElem? (i := 2104) (by decide +kernel)⟩
def lw_privs_8 : List (MethodName × Nat) := [(⟨"FerriteBoardModel", "time", "(Z)V"⟩, 51), (⟨"FerriteBoardModel", "lineOnce", "()V"⟩, 51), (⟨"FerriteBoardModel", "isFork", "()Z"⟩, 51), (⟨"FerriteBoardModel", "isOut", "(I)Z"⟩, 51), (⟨"FerriteBoardModel", "define", "(II)V"⟩, 51), (⟨"FerriteBoardModel", "find", "(I)I"⟩, 51), (⟨"FerriteBoardModel", "fork", "()V"⟩, 51), (⟨"FerriteBoardModel", "known", "(II)I"⟩, 51), (⟨"FerriteBoardModel", "whole", "()I"⟩, 51), (⟨"FerriteBoardModel", "value", "(I)I"⟩, 51), (⟨"FerriteBoardModel", "single", "()I"⟩, 51), (⟨"FerriteBoardModel", "joined", "(III)I"⟩, 51), (⟨"FerriteBoardModel", "actLine", "()V"⟩, 51), (⟨"FerriteBoardModel", "instruction", "()V"⟩, 51), (⟨"FerriteBoardModel", "instructionAt", "(IZ)I"⟩, 51), (⟨"FerriteBoardModel", "endOfLine", "()I"⟩, 51)]
theorem lw_r8 : ∀ q ∈ lw_privs_8, lw_okq q := List.forall_mem_cons.mpr ⟨lw_p112, List.forall_mem_cons.mpr ⟨lw_p113, List.forall_mem_cons.mpr ⟨lw_p114, List.forall_mem_cons.mpr ⟨lw_p115, List.forall_mem_cons.mpr ⟨lw_p116, List.forall_mem_cons.mpr ⟨lw_p117, List.forall_mem_cons.mpr ⟨lw_p118, List.forall_mem_cons.mpr ⟨lw_p119, List.forall_mem_cons.mpr ⟨lw_p120, List.forall_mem_cons.mpr ⟨lw_p121, List.forall_mem_cons.mpr ⟨lw_p122, List.forall_mem_cons.mpr ⟨lw_p123, List.forall_mem_cons.mpr ⟨lw_p124, List.forall_mem_cons.mpr ⟨lw_p125, List.forall_mem_cons.mpr ⟨lw_p126, List.forall_mem_cons.mpr ⟨lw_p127, fun _ h => absurd h List.not_mem_nil⟩⟩⟩⟩⟩⟩⟩⟩⟩⟩⟩⟩⟩⟩⟩⟩
theorem lw_p128 : lw_okq (⟨"FerriteBoardModel", "put", "(III)V"⟩, 51) := ⟨⟨by decide +kernel, by decide +kernel⟩, List.mem_of_getElem? (i := 1744) (by decide +kernel), List.mem_of_getElem? (i := 2113) (by decide +kernel), List.mem_of_getElem? (i := 2114) (by decide +kernel)⟩
theorem lw_p129 : lw_okq (⟨"FerriteBoardModel", "target", "()I"⟩, 51) := ⟨⟨by decide +kernel, by decide +kernel⟩, List.mem_of_getElem? (i := 1744) (by decide +kernel), List.mem_of_getElem? (i := 2117) (by decide +kernel), List.mem_of_getElem? (i := 2118) (by decide +kernel)⟩
theorem lw_p130 : lw_okq (⟨"FerriteBoardModel", "lay", "(II)V"⟩, 51) := ⟨⟨by decide +kernel, by decide +kernel⟩, List.mem_of_getElem? (i := 1744) (by decide +kernel), List.mem_of_getElem? (i := 2121) (by decide +kernel), List.mem_of_getElem? (i := 2122) (by decide +kernel)⟩
theorem lw_p131 : lw_okq (⟨"FerriteBoardModel", "look", "(III)V"⟩, 51) := ⟨⟨by decide +kernel, by decide +kernel⟩, List.mem_of_getElem? (i := 1744) (by decide +kernel), List.mem_of_getElem? (i := 2128) (by decide +kernel), List.mem_of_getElem? (i := 2129) (by decide +kernel)⟩
theorem lw_p132 : lw_okq (⟨"FerriteBoardModel", "seen", "()I"⟩, 51) := ⟨⟨by decide +kernel, by decide +kernel⟩, List.mem_of_getElem? (i := 1744) (by decide +kernel), List.mem_of_getElem? (i := 2132) (by decide +kernel), List.mem_of_getElem? (i := 2133) (by decide +kernel)⟩
theorem lw_p133 : lw_okq (⟨"FerriteBoardModel", "data", "(I)V"⟩, 51) := ⟨⟨by decide +kernel, by decide +kernel⟩, List.mem_of_getElem? (i := 1744) (by decide +kernel), List.mem_of_getElem? (i := 2136) (by decide +kernel), List.mem_of_getElem? (i := 2137) (by decide +kernel)⟩
theorem lw_p134 : lw_okq (⟨"FerriteBoardModel", "row", "(Z)V"⟩, 51) := ⟨⟨by decide +kernel, by decide +kernel⟩, List.mem_of_getElem? (i := 1744) (by decide +kernel), List.mem_of_getElem? (i := 2140) (by decide +kernel), List.mem_of_getElem? (i := 2141) (by decide +kernel)⟩
theorem lw_p135 : lw_okq (⟨"FerriteBoardModel", "fill", "()V"⟩, 51) := ⟨⟨by decide +kernel, by decide +kernel⟩, List.mem_of_getElem? (i := 1744) (by decide +kernel), List.mem_of_getElem? (i := 2144) (by decide +kernel), List.mem_of_getElem? (i := 2145) (by decide +kernel)⟩
theorem lw_p136 : lw_okq (⟨"FerriteBoardModel", "isNot", "(III)Z"⟩, 51) := ⟨⟨by decide +kernel, by decide +kernel⟩, List.mem_of_getElem? (i := 1744) (by decide +kernel), List.mem_of_getElem? (i := 2157) (by decide +kernel), List.mem_of_getElem? (i := 2158) (by decide +kernel)⟩
theorem lw_p137 : lw_okq (⟨"FerriteBoardModel", "refuse", "(ZI)Z"⟩, 51) := ⟨⟨by decide +kernel, by decide +kernel⟩, List.mem_of_getElem? (i := 1744) (by decide +kernel), List.mem_of_getElem? (i := 2161) (by decide +kernel), List.mem_of_getElem? (i := 2162) (by decide +kernel)⟩
theorem lw_p138 : lw_okq (⟨"FerriteBoardModel", "oneKept", "()I"⟩, 51) := ⟨⟨by decide +kernel, by decide +kernel⟩, List.mem_of_getElem? (i := 1744) (by decide +kernel), List.mem_of_getElem? (i := 2213) (by decide +kernel), List.mem_of_getElem? (i := 2214) (by decide +kernel)⟩
theorem lw_p139 : lw_okq (⟨"FerriteBoardModel", "isOver", "()Z"⟩, 51) := ⟨⟨by decide +kernel, by decide +kernel⟩, List.mem_of_getElem? (i := 1744) (by decide +kernel), List.mem_of_getElem? (i := 2217) (by decide +kernel), List.mem_of_getElem? (i := 2218) (by decide +kernel)⟩
theorem lw_p140 : lw_okq (⟨"FerriteBoardModel", "one", "()I"⟩, 51) := ⟨⟨by decide +kernel, by decide +kernel⟩, List.mem_of_getElem? (i := 1744) (by decide +kernel), List.mem_of_getElem? (i := 2221) (by decide +kernel), List.mem_of_getElem? (i := 2222) (by decide +kernel)⟩
theorem lw_p141 : lw_okq (⟨"FerriteBoardModel", "act", "()V"⟩, 51) := ⟨⟨by decide +kernel, by decide +kernel⟩, List.mem_of_getElem? (i := 1744) (by decide +kernel), List.mem_of_getElem? (i := 2225) (by decide +kernel), List.mem_of_getElem? (i := 2226) (by decide +kernel)⟩
theorem lw_p142 : lw_okq (⟨"FerriteBoardModel", "put", "(II)V"⟩, 51) := ⟨⟨by decide +kernel, by decide +kernel⟩, List.mem_of_getElem? (i := 1744) (by decide +kernel), List.mem_of_getElem? (i := 2229) (by decide +kernel), List.mem_of_getElem? (i := 2230) (by decide +kernel)⟩
theorem lw_p143 : lw_okq (⟨"FerriteBoardModel", "take", "(I)V"⟩, 51) := ⟨⟨by decide +kernel, by decide +kernel⟩, List.mem_of_getElem? (i := 1744) (by decide +kernel), List.mem_of_getElem? (i := 2233) (by decide +kernel), List.mem_of_getElem? (i := 2234) (by decide +kernel)⟩
def lw_privs_9 : List (MethodName × Nat) := [(⟨"FerriteBoardModel", "put", "(III)V"⟩, 51), (⟨"FerriteBoardModel", "target", "()I"⟩, 51), (⟨"FerriteBoardModel", "lay", "(II)V"⟩, 51), (⟨"FerriteBoardModel", "look", "(III)V"⟩, 51), (⟨"FerriteBoardModel", "seen", "()I"⟩, 51), (⟨"FerriteBoardModel", "data", "(I)V"⟩, 51), (⟨"FerriteBoardModel", "row", "(Z)V"⟩, 51), (⟨"FerriteBoardModel", "fill", "()V"⟩, 51), (⟨"FerriteBoardModel", "isNot", "(III)Z"⟩, 51), (⟨"FerriteBoardModel", "refuse", "(ZI)Z"⟩, 51), (⟨"FerriteBoardModel", "oneKept", "()I"⟩, 51), (⟨"FerriteBoardModel", "isOver", "()Z"⟩, 51), (⟨"FerriteBoardModel", "one", "()I"⟩, 51), (⟨"FerriteBoardModel", "act", "()V"⟩, 51), (⟨"FerriteBoardModel", "put", "(II)V"⟩, 51), (⟨"FerriteBoardModel", "take", "(I)V"⟩, 51)]
theorem lw_r9 : ∀ q ∈ lw_privs_9, lw_okq q := List.forall_mem_cons.mpr ⟨lw_p128, List.forall_mem_cons.mpr ⟨lw_p129, List.forall_mem_cons.mpr ⟨lw_p130, List.forall_mem_cons.mpr ⟨lw_p131, List.forall_mem_cons.mpr ⟨lw_p132, List.forall_mem_cons.mpr ⟨lw_p133, List.forall_mem_cons.mpr ⟨lw_p134, List.forall_mem_cons.mpr ⟨lw_p135, List.forall_mem_cons.mpr ⟨lw_p136, List.forall_mem_cons.mpr ⟨lw_p137, List.forall_mem_cons.mpr ⟨lw_p138, List.forall_mem_cons.mpr ⟨lw_p139, List.forall_mem_cons.mpr ⟨lw_p140, List.forall_mem_cons.mpr ⟨lw_p141, List.forall_mem_cons.mpr ⟨lw_p142, List.forall_mem_cons.mpr ⟨lw_p143, fun _ h => absurd h List.not_mem_nil⟩⟩⟩⟩⟩⟩⟩⟩⟩⟩⟩⟩⟩⟩⟩⟩
theorem lw_p144 : lw_okq (⟨"FerriteBoardModel", "call", "(I)V"⟩, 51) := ⟨⟨by decide +kernel, by decide +kernel⟩, List.mem_of_getElem? (i := 1744) (by decide +kernel), List.mem_of_getElem? (i := 2237) (by decide +kernel), List.mem_of_getElem? (i := 2238) (by decide +kernel)⟩
theorem lw_p145 : lw_okq (⟨"FerriteBoardModel", "interrupt", "(I)V"⟩, 51) := ⟨⟨by decide +kernel, by decide +kernel⟩, List.mem_of_getElem? (i := 1744) (by decide +kernel), List.mem_of_getElem? (i := 2241) (by decide +kernel), List.mem_of_getElem? (i := 2242) (by decide +kernel)⟩
theorem lw_p146 : lw_okq (⟨"FerriteBoardModel", "pushAddress", "(I)V"⟩, 51) := ⟨⟨by decide +kernel, by decide +kernel⟩, List.mem_of_getElem? (i := 1744) (by decide +kernel), List.mem_of_getElem? (i := 2245) (by decide +kernel), List.mem_of_getElem? (i := 2246) (by decide +kernel)⟩
theorem lw_p147 : lw_okq (⟨"FerriteBoardModel", "push", "(I)V"⟩, 51) := ⟨⟨by decide +kernel, by decide +kernel⟩, List.mem_of_getElem? (i := 1744) (by decide +kernel), List.mem_of_getElem? (i := 2249) (by decide +kernel), List.mem_of_getElem? (i := 2250) (by decide +kernel)⟩
theorem lw_p148 : lw_okq (⟨"FerriteBoardModel", "write", "(II)V"⟩, 51) := ⟨⟨by decide +kernel, by decide +kernel⟩, List.mem_of_getElem? (i := 1744) (by decide +kernel), List.mem_of_getElem? (i := 2253) (by decide +kernel), List.mem_of_getElem? (i := 2254) (by decide +kernel)⟩
theorem lw_p149 : lw_okq (⟨"FerriteBoardModel", "isWatched", "(IZ)Z"⟩, 51) := ⟨⟨by decide +kernel, by decide +kernel⟩, List.mem_of_getElem? (i := 1744) (by decide +kernel), List.mem_of_getElem? (i := 2257) (by decide +kernel), List.mem_of_getElem? (i := 2258) (by decide +kernel)⟩
theorem lw_p150 : lw_okq (⟨"FerriteBoardModel", "writePort", "(II)V"⟩, 51) := ⟨⟨by decide +kernel, by decide +kernel⟩, List.mem_of_getElem? (i := 1744) (by decide +kernel), List.mem_of_getElem? (i := 2261) (by decide +kernel), List.mem_of_getElem? (i := 2262) (by decide +kernel)⟩
theorem lw_p151 : lw_okq (⟨"FerriteBoardModel", "load", "()V"⟩, 51) := ⟨⟨by decide +kernel, by decide +kernel⟩, List.mem_of_getElem? (i := 1744) (by decide +kernel), List.mem_of_getElem? (i := 2265) (by decide +kernel), List.mem_of_getElem? (i := 2266) (by decide +kernel)⟩
theorem lw_p152 : lw_okq (⟨"FerriteBoardModel", "copy", "(I)V"⟩, 51) := ⟨⟨by decide +kernel, by decide +kernel⟩, List.mem_of_getElem? (i := 1744) (by decide +kernel), List.mem_of_getElem? (i := 2270) (by decide +kernel), List.mem_of_getElem? (i := 2271) (by decide +kernel)⟩
theorem lw_p153 : lw_okq (⟨"FerriteBoardModel", "canWrite", "(I)Z"⟩, 51) := ⟨⟨by decide +kernel, by decide +kernel⟩, List.mem_of_getElem? (i := 1744) (by decide +kernel), List.mem_of_getElem? (i := 2274) (by decide +kernel), List.mem_of_getElem? (i := 2275) (by decide +kernel)⟩
theorem lw_p154 : lw_okq (⟨"FerriteBoardModel", "set", "(IZ)V"⟩, 51) := ⟨⟨by decide +kernel, by decide +kernel⟩, List.mem_of_getElem? (i := 1744) (by decide +kernel), List.mem_of_getElem? (i := 2278) (by decide +kernel), List.mem_of_getElem? (i := 2279) (by decide +kernel)⟩
theorem lw_p155 : lw_okq (⟨"FerriteBoardModel", "read", "(I)I"⟩, 51) := ⟨⟨by decide +kernel, by decide +kernel⟩, List.mem_of_getElem? (i := 1744) (by decide +kernel), List.mem_of_getElem? (i := 2282) (by decide +kernel), List.mem_of_getElem? (i := 2283) (by decide +kernel)⟩
theorem lw_p156 : lw_okq (⟨"FerriteBoardModel", "readPort", "(I)I"⟩, 51) := ⟨⟨by decide +kernel, by decide +kernel⟩, List.mem_of_getElem? (i := 1744) (by decide +kernel), List.mem_of_getElem? (i := 2286) (by decide +kernel), List.mem_of_getElem? (i := 2287) (by decide +kernel)⟩
theorem lw_p157 : lw_okq (⟨"FerriteBoardModel", "readInput", "()I"⟩, 51) := ⟨⟨by decide +kernel, by decide +kernel⟩, List.mem_of_getElem? (i := 1744) (by decide +kernel), List.mem_of_getElem? (i := 2290) (by decide +kernel), List.mem_of_getElem? (i := 2291) (by decide +kernel)⟩
theorem lw_p158 : lw_okq (⟨"FerriteBoardModel", "lines", "()I"⟩, 51) := ⟨⟨by decide +kernel, by decide +kernel⟩, List.mem_of_getElem? (i := 1744) (by decide +kernel), List.mem_of_getElem? (i := 2295) (by decide +kernel), List.mem_of_getElem? (i := 2296) (by decide +kernel)⟩
theorem lw_p159 : lw_okq (⟨"FerriteBoardModel", "is", "(I)Z"⟩, 51) := ⟨⟨by decide +kernel, by decide +kernel⟩, List.mem_of_getElem? (i := 1744) (by decide +kernel), List.mem_of_getElem? (i := 2299) (by decide +kernel), List.mem_of_getElem? (i := 2300) (by decide +kernel)⟩
def lw_privs_10 : List (MethodName × Nat) := [(⟨"FerriteBoardModel", "call", "(I)V"⟩, 51), (⟨"FerriteBoardModel", "interrupt", "(I)V"⟩, 51), (⟨"FerriteBoardModel", "pushAddress", "(I)V"⟩, 51), (⟨"FerriteBoardModel", "push", "(I)V"⟩, 51), (⟨"FerriteBoardModel", "write", "(II)V"⟩, 51), (⟨"FerriteBoardModel", "isWatched", "(IZ)Z"⟩, 51), (⟨"FerriteBoardModel", "writePort", "(II)V"⟩, 51), (⟨"FerriteBoardModel", "load", "()V"⟩, 51), (⟨"FerriteBoardModel", "copy", "(I)V"⟩, 51), (⟨"FerriteBoardModel", "canWrite", "(I)Z"⟩, 51), (⟨"FerriteBoardModel", "set", "(IZ)V"⟩, 51), (⟨"FerriteBoardModel", "read", "(I)I"⟩, 51), (⟨"FerriteBoardModel", "readPort", "(I)I"⟩, 51), (⟨"FerriteBoardModel", "readInput", "()I"⟩, 51), (⟨"FerriteBoardModel", "lines", "()I"⟩, 51), (⟨"FerriteBoardModel", "is", "(I)Z"⟩, 51)]
theorem lw_r10 : ∀ q ∈ lw_privs_10, lw_okq q := List.forall_mem_cons.mpr ⟨lw_p144, List.forall_mem_cons.mpr ⟨lw_p145, List.forall_mem_cons.mpr ⟨lw_p146, List.forall_mem_cons.mpr ⟨lw_p147, List.forall_mem_cons.mpr ⟨lw_p148, List.forall_mem_cons.mpr ⟨lw_p149, List.forall_mem_cons.mpr ⟨lw_p150, List.forall_mem_cons.mpr ⟨lw_p151, List.forall_mem_cons.mpr ⟨lw_p152, List.forall_mem_cons.mpr ⟨lw_p153, List.forall_mem_cons.mpr ⟨lw_p154, List.forall_mem_cons.mpr ⟨lw_p155, List.forall_mem_cons.mpr ⟨lw_p156, List.forall_mem_cons.mpr ⟨lw_p157, List.forall_mem_cons.mpr ⟨lw_p158, List.forall_mem_cons.mpr ⟨lw_p159, fun _ h => absurd h List.not_mem_nil⟩⟩⟩⟩⟩⟩⟩⟩⟩⟩⟩⟩⟩⟩⟩⟩
theorem lw_p160 : lw_okq (⟨"FerriteBoardModel", "carryOut", "(I)V"⟩, 51) := ⟨⟨by decide +kernel, by decide +kernel⟩, List.mem_of_getElem? (i := 1744) (by decide +kernel), List.mem_of_getElem? (i := 2306) (by decide +kernel), List.mem_of_getElem? (i := 2307) (by decide +kernel)⟩
theorem lw_p161 : lw_okq (⟨"FerriteBoardModel", "plain", "(II)V"⟩, 51) := ⟨⟨by decide +kernel, by decide +kernel⟩, List.mem_of_getElem? (i := 1744) (by decide +kernel), List.mem_of_getElem? (i := 2313) (by decide +kernel), List.mem_of_getElem? (i := 2314) (by decide +kernel)⟩
theorem lw_p162 : lw_okq (⟨"FerriteBoardModel", "backFromCall", "()V"⟩, 51) := ⟨⟨by decide +kernel, by decide +kernel⟩, List.mem_of_getElem? (i := 1744) (by decide +kernel), List.mem_of_getElem? (i := 2317) (by decide +kernel), List.mem_of_getElem? (i := 2318) (by decide +kernel)⟩
theorem lw_p163 : lw_okq (⟨"FerriteBoardModel", "pullAddress", "()I"⟩, 51) := ⟨⟨by decide +kernel, by decide +kernel⟩, List.mem_of_getElem? (i := 1744) (by decide +kernel), List.mem_of_getElem? (i := 2321) (by decide +kernel), List.mem_of_getElem? (i := 2322) (by decide +kernel)⟩
theorem lw_p164 : lw_okq (⟨"FerriteBoardModel", "pull", "()I"⟩, 51) := ⟨⟨by decide +kernel, by decide +kernel⟩, List.mem_of_getElem? (i := 1744) (by decide +kernel), List.mem_of_getElem? (i := 2325) (by decide +kernel), List.mem_of_getElem? (i := 2326) (by decide +kernel)⟩
theorem lw_p165 : lw_okq (⟨"FerriteBoardModel", "to", "(II)V"⟩, 51) := ⟨⟨by decide +kernel, by decide +kernel⟩, List.mem_of_getElem? (i := 1744) (by decide +kernel), List.mem_of_getElem? (i := 2329) (by decide +kernel), List.mem_of_getElem? (i := 2330) (by decide +kernel)⟩
theorem lw_p166 : lw_okq (⟨"FerriteBoardModel", "zn", "(I)V"⟩, 51) := ⟨⟨by decide +kernel, by decide +kernel⟩, List.mem_of_getElem? (i := 1744) (by decide +kernel), List.mem_of_getElem? (i := 2333) (by decide +kernel), List.mem_of_getElem? (i := 2334) (by decide +kernel)⟩
theorem lw_p167 : lw_okq (⟨"FerriteBoardModel", "shifted", "(II)I"⟩, 51) := ⟨⟨by decide +kernel, by decide +kernel⟩, List.mem_of_getElem? (i := 1744) (by decide +kernel), List.mem_of_getElem? (i := 2337) (by decide +kernel), List.mem_of_getElem? (i := 2338) (by decide +kernel)⟩
theorem lw_p168 : lw_okq (⟨"FerriteBoardModel", "divide", "()V"⟩, 51) := ⟨⟨by decide +kernel, by decide +kernel⟩, List.mem_of_getElem? (i := 1744) (by decide +kernel), List.mem_of_getElem? (i := 2341) (by decide +kernel), List.mem_of_getElem? (i := 2342) (by decide +kernel)⟩
theorem lw_p169 : lw_okq (⟨"FerriteBoardModel", "branch", "(II)V"⟩, 51) := ⟨⟨by decide +kernel, by decide +kernel⟩, List.mem_of_getElem? (i := 1744) (by decide +kernel), List.mem_of_getElem? (i := 2345) (by decide +kernel), List.mem_of_getElem? (i := 2346) (by decide +kernel)⟩
theorem lw_p170 : lw_okq (⟨"FerriteBoardModel", "address", "(II)I"⟩, 51) := ⟨⟨by decide +kernel, by decide +kernel⟩, List.mem_of_getElem? (i := 1744) (by decide +kernel), List.mem_of_getElem? (i := 2349) (by decide +kernel), List.mem_of_getElem? (i := 2350) (by decide +kernel)⟩
theorem lw_p171 : lw_okq (⟨"FerriteBoardModel", "withValue", "(II)V"⟩, 51) := ⟨⟨by decide +kernel, by decide +kernel⟩, List.mem_of_getElem? (i := 1744) (by decide +kernel), List.mem_of_getElem? (i := 2353) (by decide +kernel), List.mem_of_getElem? (i := 2354) (by decide +kernel)⟩
theorem lw_p172 : lw_okq (⟨"FerriteBoardModel", "add", "(II)V"⟩, 51) := ⟨⟨by decide +kernel, by decide +kernel⟩, List.mem_of_getElem? (i := 1744) (by decide +kernel), List.mem_of_getElem? (i := 2357) (by decide +kernel), List.mem_of_getElem? (i := 2358) (by decide +kernel)⟩
theorem lw_p173 : lw_okq (⟨"FerriteBoardModel", "compare", "(II)V"⟩, 51) := ⟨⟨by decide +kernel, by decide +kernel⟩, List.mem_of_getElem? (i := 1744) (by decide +kernel), List.mem_of_getElem? (i := 2361) (by decide +kernel), List.mem_of_getElem? (i := 2362) (by decide +kernel)⟩
theorem lw_p174 : lw_okq (⟨"FerriteBoardModel", "withAddress", "(III)V"⟩, 51) := ⟨⟨by decide +kernel, by decide +kernel⟩, List.mem_of_getElem? (i := 1744) (by decide +kernel), List.mem_of_getElem? (i := 2365) (by decide +kernel), List.mem_of_getElem? (i := 2366) (by decide +kernel)⟩
theorem lw_p175 : lw_okq (⟨"FerriteBoardModel", "tick", "()V"⟩, 51) := ⟨⟨by decide +kernel, by decide +kernel⟩, List.mem_of_getElem? (i := 1744) (by decide +kernel), List.mem_of_getElem? (i := 2369) (by decide +kernel), List.mem_of_getElem? (i := 2370) (by decide +kernel)⟩
def lw_privs_11 : List (MethodName × Nat) := [(⟨"FerriteBoardModel", "carryOut", "(I)V"⟩, 51), (⟨"FerriteBoardModel", "plain", "(II)V"⟩, 51), (⟨"FerriteBoardModel", "backFromCall", "()V"⟩, 51), (⟨"FerriteBoardModel", "pullAddress", "()I"⟩, 51), (⟨"FerriteBoardModel", "pull", "()I"⟩, 51), (⟨"FerriteBoardModel", "to", "(II)V"⟩, 51), (⟨"FerriteBoardModel", "zn", "(I)V"⟩, 51), (⟨"FerriteBoardModel", "shifted", "(II)I"⟩, 51), (⟨"FerriteBoardModel", "divide", "()V"⟩, 51), (⟨"FerriteBoardModel", "branch", "(II)V"⟩, 51), (⟨"FerriteBoardModel", "address", "(II)I"⟩, 51), (⟨"FerriteBoardModel", "withValue", "(II)V"⟩, 51), (⟨"FerriteBoardModel", "add", "(II)V"⟩, 51), (⟨"FerriteBoardModel", "compare", "(II)V"⟩, 51), (⟨"FerriteBoardModel", "withAddress", "(III)V"⟩, 51), (⟨"FerriteBoardModel", "tick", "()V"⟩, 51)]
theorem lw_r11 : ∀ q ∈ lw_privs_11, lw_okq q := List.forall_mem_cons.mpr ⟨lw_p160, List.forall_mem_cons.mpr ⟨lw_p161, List.forall_mem_cons.mpr ⟨lw_p162, List.forall_mem_cons.mpr ⟨lw_p163, List.forall_mem_cons.mpr ⟨lw_p164, List.forall_mem_cons.mpr ⟨lw_p165, List.forall_mem_cons.mpr ⟨lw_p166, List.forall_mem_cons.mpr ⟨lw_p167, List.forall_mem_cons.mpr ⟨lw_p168, List.forall_mem_cons.mpr ⟨lw_p169, List.forall_mem_cons.mpr ⟨lw_p170, List.forall_mem_cons.mpr ⟨lw_p171, List.forall_mem_cons.mpr ⟨lw_p172, List.forall_mem_cons.mpr ⟨lw_p173, List.forall_mem_cons.mpr ⟨lw_p174, List.forall_mem_cons.mpr ⟨lw_p175, fun _ h => absurd h List.not_mem_nil⟩⟩⟩⟩⟩⟩⟩⟩⟩⟩⟩⟩⟩⟩⟩⟩
theorem lw_p176 : lw_okq (⟨"FerriteBoardModel", "go", "(II)I"⟩, 51) := ⟨⟨by decide +kernel, by decide +kernel⟩, List.mem_of_getElem? (i := 1744) (by decide +kernel), List.mem_of_getElem? (i := 2377) (by decide +kernel), List.mem_of_getElem? (i := 2378) (by decide +kernel)⟩
theorem lw_p177 : lw_okq (⟨"FerriteBoardModel", "over", "()I"⟩, 51) := ⟨⟨by decide +kernel, by decide +kernel⟩, List.mem_of_getElem? (i := 1744) (by decide +kernel), List.mem_of_getElem? (i := 2381) (by decide +kernel), List.mem_of_getElem? (i := 2382) (by decide +kernel)⟩
theorem lw_p178 : lw_okq (⟨"FerriteBoardModel", "isStoppedByBreak", "()Z"⟩, 51) := ⟨⟨by decide +kernel, by decide +kernel⟩, List.mem_of_getElem? (i := 1744) (by decide +kernel), List.mem_of_getElem? (i := 2385) (by decide +kernel), List.mem_of_getElem? (i := 2386) (by decide +kernel)⟩
theorem lw_p179 : lw_okq (⟨"FerriteBoardModel", "isVectorNext", "()Z"⟩, 51) := ⟨⟨by decide +kernel, by decide +kernel⟩, List.mem_of_getElem? (i := 1744) (by decide +kernel), List.mem_of_getElem? (i := 2389) (by decide +kernel), List.mem_of_getElem? (i := 2390) (by decide +kernel)⟩
theorem lw_p180 : lw_okq (⟨"FerriteBoardModel", "breakAt", "(I)I"⟩, 51) := ⟨⟨by decide +kernel, by decide +kernel⟩, List.mem_of_getElem? (i := 1744) (by decide +kernel), List.mem_of_getElem? (i := 2393) (by decide +kernel), List.mem_of_getElem? (i := 2394) (by decide +kernel)⟩
theorem lw_p181 : lw_okq (⟨"FerriteBoardModel", "told", "(I)I"⟩, 51) := ⟨⟨by decide +kernel, by decide +kernel⟩, List.mem_of_getElem? (i := 1744) (by decide +kernel), List.mem_of_getElem? (i := 2438) (by decide +kernel), List.mem_of_getElem? (i := 2439) (by decide +kernel)⟩
theorem lw_p182 : lw_okq (⟨"FerriteBoardModel", "output", "(I)I"⟩, 51) := ⟨⟨by decide +kernel, by decide +kernel⟩, List.mem_of_getElem? (i := 1744) (by decide +kernel), List.mem_of_getElem? (i := 2506) (by decide +kernel), List.mem_of_getElem? (i := 2507) (by decide +kernel)⟩
theorem lw_p183 : lw_okq (⟨"FerriteBoardModel", "hot", "()I"⟩, 51) := ⟨⟨by decide +kernel, by decide +kernel⟩, List.mem_of_getElem? (i := 1744) (by decide +kernel), List.mem_of_getElem? (i := 2526) (by decide +kernel), List.mem_of_getElem? (i := 2527) (by decide +kernel)⟩
theorem lw_p184 : lw_okq (⟨"FerriteBoardModel", "branchTo", "(I)I"⟩, 51) := ⟨⟨by decide +kernel, by decide +kernel⟩, List.mem_of_getElem? (i := 1744) (by decide +kernel), List.mem_of_getElem? (i := 2542) (by decide +kernel), List.mem_of_getElem? (i := 2543) (by decide +kernel)⟩
theorem lw_p185 : lw_okq (⟨"FerriteBoardModel", "trial", "()[I"⟩, 51) := ⟨⟨by decide +kernel, by decide +kernel⟩, List.mem_of_getElem? (i := 1744) (by decide +kernel), List.mem_of_getElem? (i := 2550) (by decide +kernel), List.mem_of_getElem? (i := 2551) (by decide +kernel)⟩
theorem lw_p186 : lw_okq (⟨"FerriteBoardModel", "isAt", "(I)Z"⟩, 51) := ⟨⟨by decide +kernel, by decide +kernel⟩, List.mem_of_getElem? (i := 1744) (by decide +kernel), List.mem_of_getElem? (i := 2558) (by decide +kernel), List.mem_of_getElem? (i := 2559) (by decide +kernel)⟩
theorem lw_p187 : lw_okq (⟨"FerriteBoardModel", "ahead", "(I)V"⟩, 51) := ⟨⟨by decide +kernel, by decide +kernel⟩, List.mem_of_getElem? (i := 1744) (by decide +kernel), List.mem_of_getElem? (i := 2566) (by decide +kernel), List.mem_of_getElem? (i := 2567) (by decide +kernel)⟩
theorem lw_p188 : lw_okq (⟨"FerriteBoardModel", "reached", "()[Z"⟩, 51) := ⟨⟨by decide +kernel, by decide +kernel⟩, List.mem_of_getElem? (i := 1744) (by decide +kernel), List.mem_of_getElem? (i := 2578) (by decide +kernel), List.mem_of_getElem? (i := 2579) (by decide +kernel)⟩
theorem lw_p189 : lw_okq (⟨"FerriteBoardModel", "reachable", "()I"⟩, 51) := ⟨⟨by decide +kernel, by decide +kernel⟩, List.mem_of_getElem? (i := 1744) (by decide +kernel), List.mem_of_getElem? (i := 2586) (by decide +kernel), List.mem_of_getElem? (i := 2587) (by decide +kernel)⟩
def lw_privs_12 : List (MethodName × Nat) := [(⟨"FerriteBoardModel", "go", "(II)I"⟩, 51), (⟨"FerriteBoardModel", "over", "()I"⟩, 51), (⟨"FerriteBoardModel", "isStoppedByBreak", "()Z"⟩, 51), (⟨"FerriteBoardModel", "isVectorNext", "()Z"⟩, 51), (⟨"FerriteBoardModel", "breakAt", "(I)I"⟩, 51), (⟨"FerriteBoardModel", "told", "(I)I"⟩, 51), (⟨"FerriteBoardModel", "output", "(I)I"⟩, 51), (⟨"FerriteBoardModel", "hot", "()I"⟩, 51), (⟨"FerriteBoardModel", "branchTo", "(I)I"⟩, 51), (⟨"FerriteBoardModel", "trial", "()[I"⟩, 51), (⟨"FerriteBoardModel", "isAt", "(I)Z"⟩, 51), (⟨"FerriteBoardModel", "ahead", "(I)V"⟩, 51), (⟨"FerriteBoardModel", "reached", "()[Z"⟩, 51), (⟨"FerriteBoardModel", "reachable", "()I"⟩, 51)]
theorem lw_r12 : ∀ q ∈ lw_privs_12, lw_okq q := List.forall_mem_cons.mpr ⟨lw_p176, List.forall_mem_cons.mpr ⟨lw_p177, List.forall_mem_cons.mpr ⟨lw_p178, List.forall_mem_cons.mpr ⟨lw_p179, List.forall_mem_cons.mpr ⟨lw_p180, List.forall_mem_cons.mpr ⟨lw_p181, List.forall_mem_cons.mpr ⟨lw_p182, List.forall_mem_cons.mpr ⟨lw_p183, List.forall_mem_cons.mpr ⟨lw_p184, List.forall_mem_cons.mpr ⟨lw_p185, List.forall_mem_cons.mpr ⟨lw_p186, List.forall_mem_cons.mpr ⟨lw_p187, List.forall_mem_cons.mpr ⟨lw_p188, List.forall_mem_cons.mpr ⟨lw_p189, fun _ h => absurd h List.not_mem_nil⟩⟩⟩⟩⟩⟩⟩⟩⟩⟩⟩⟩⟩⟩
def lw_privs : List (MethodName × Nat) := lw_privs_1 ++ (lw_privs_2 ++ (lw_privs_3 ++ (lw_privs_4 ++ (lw_privs_5 ++ (lw_privs_6 ++ (lw_privs_7 ++ (lw_privs_8 ++ (lw_privs_9 ++ (lw_privs_10 ++ (lw_privs_11 ++ (lw_privs_12)))))))))))
def lw_tbl : List Cond := k2_sels lw_privs ++ tables_1
theorem lw_privs_ok : ∀ q ∈ lw_privs, lw_okq q := by
  show ∀ q ∈ lw_privs_1 ++ (lw_privs_2 ++ (lw_privs_3 ++ (lw_privs_4 ++ (lw_privs_5 ++ (lw_privs_6 ++ (lw_privs_7 ++ (lw_privs_8 ++ (lw_privs_9 ++ (lw_privs_10 ++ (lw_privs_11 ++ (lw_privs_12))))))))))), lw_okq q
  exact List.forall_mem_append.mpr ⟨lw_r1, List.forall_mem_append.mpr ⟨lw_r2, List.forall_mem_append.mpr ⟨lw_r3, List.forall_mem_append.mpr ⟨lw_r4, List.forall_mem_append.mpr ⟨lw_r5, List.forall_mem_append.mpr ⟨lw_r6, List.forall_mem_append.mpr ⟨lw_r7, List.forall_mem_append.mpr ⟨lw_r8, List.forall_mem_append.mpr ⟨lw_r9, List.forall_mem_append.mpr ⟨lw_r10, List.forall_mem_append.mpr ⟨lw_r11, lw_r12⟩⟩⟩⟩⟩⟩⟩⟩⟩⟩⟩
end
section
/-! names, printed by program out of the claim -/
def RX0 : String := "FerriteBoard$History"
def TX0 : u_T := fun k => match k with
  | 0 => ("FerriteBoard$History", "older", "LFerriteBoard$Machine;", false)
  | 1 => ("FerriteBoard$History", "newer", "LFerriteBoard$Machine;", false)
  | 2 => ("FerriteBoard$History", "olderAt", "I", false)
  | 3 => ("FerriteBoard$History", "newerAt", "I", false)
  | 4 => ("FerriteBoard$History", "done", "I", false)
  | _ => ("FerriteBoard$History", "size", "I", false)
def tyX0 : Nat → FieldType := fun k => match k with
  | 0 => .object "FerriteBoard$Machine"
  | 1 => .object "FerriteBoard$Machine"
  | 2 => .int
  | 3 => .int
  | 4 => .int
  | _ => .int
theorem nmX0 : ∀ a, a < 6 → ∀ b, b < 6 → a ≠ b → (TX0 a).2.1 ≠ (TX0 b).2.1 := by decide +kernel
theorem tyX0_ok : ∀ k, k < 6 → parseFieldDescriptor (TX0 k).2.2.1 = some (tyX0 k) := by decide +kernel
abbrev cX0_init : ByteArray := prog_2_method_1_code
def yX0_init : MethodName := ⟨RX0, "<init>", "()V"⟩
def RX1 : String := "FerriteBoard$Line"
def TX1 : u_T := fun k => match k with
  | 0 => ("FerriteBoard$Line", "name", "I", false)
  | 1 => ("FerriteBoard$Line", "work", "I", false)
  | 2 => ("FerriteBoard$Line", "value", "I", false)
  | 3 => ("FerriteBoard$Line", "assigns", "Z", false)
  | 4 => ("FerriteBoard$Line", "place", "I", false)
  | 5 => ("FerriteBoard$Line", "leftOut", "Z", false)
  | 6 => ("FerriteBoard$Line", "code", "I", false)
  | 7 => ("FerriteBoard$Line", "address", "I", false)
  | _ => ("FerriteBoard$Line", "bank", "I", false)
def tyX1 : Nat → FieldType := fun k => match k with
  | 0 => .int
  | 1 => .int
  | 2 => .int
  | 3 => .boolean
  | 4 => .int
  | 5 => .boolean
  | 6 => .int
  | 7 => .int
  | _ => .int
theorem tyX1_ok : ∀ k, k < 9 → parseFieldDescriptor (TX1 k).2.2.1 = some (tyX1 k) := by decide +kernel
abbrev cX1_init : ByteArray := prog_3_method_1_code
def yX1_init : MethodName := ⟨RX1, "<init>", "()V"⟩
def RX2 : String := "FerriteBoard$Machine"
def TX2 : u_T := fun k => match k with
  | 0 => ("FerriteBoard$Machine", "memory", "[I", true)
  | 1 => ("FerriteBoard$Machine", "times", "[I", true)
  | 2 => ("FerriteBoard$Machine", "callers", "[I", true)
  | 3 => ("FerriteBoard$Machine", "touched", "[I", true)
  | 4 => ("FerriteBoard$Machine", "ports", "LFerriteBoard$Ports;", true)
  | 5 => ("FerriteBoard$Machine", "a", "I", false)
  | 6 => ("FerriteBoard$Machine", "x", "I", false)
  | 7 => ("FerriteBoard$Machine", "s", "I", false)
  | 8 => ("FerriteBoard$Machine", "flags", "I", false)
  | 9 => ("FerriteBoard$Machine", "pc", "I", false)
  | 10 => ("FerriteBoard$Machine", "state", "I", false)
  | 11 => ("FerriteBoard$Machine", "cycles", "I", false)
  | 12 => ("FerriteBoard$Machine", "instructions", "I", false)
  | 13 => ("FerriteBoard$Machine", "callCount", "I", false)
  | 14 => ("FerriteBoard$Machine", "touches", "I", false)
  | 15 => ("FerriteBoard$Machine", "extra", "I", false)
  | _ => ("FerriteBoard$Machine", "nmiWanted", "Z", false)
def tyX2 : Nat → FieldType := fun k => match k with
  | 0 => .array .int
  | 1 => .array .int
  | 2 => .array .int
  | 3 => .array .int
  | 4 => .object "FerriteBoard$Ports"
  | 5 => .int
  | 6 => .int
  | 7 => .int
  | 8 => .int
  | 9 => .int
  | 10 => .int
  | 11 => .int
  | 12 => .int
  | 13 => .int
  | 14 => .int
  | 15 => .int
  | _ => .boolean
theorem nmX2 : ∀ a, a < 17 → ∀ b, b < 17 → a ≠ b → (TX2 a).2.1 ≠ (TX2 b).2.1 := by decide +kernel
theorem tyX2_ok : ∀ k, k < 17 → parseFieldDescriptor (TX2 k).2.2.1 = some (tyX2 k) := by decide +kernel
abbrev cX2_init : ByteArray := prog_4_method_1_code
def yX2_init : MethodName := ⟨RX2, "<init>", "()V"⟩
abbrev cX2_restart : ByteArray := prog_4_method_2_code
def yX2_restart : MethodName := ⟨RX2, "restart", "()V"⟩
abbrev cX2_shown : ByteArray := prog_4_method_5_code
def yX2_shown : MethodName := ⟨RX2, "shown", "(I)I"⟩
abbrev cX2_wordAt : ByteArray := prog_4_method_6_code
def yX2_wordAt : MethodName := ⟨RX2, "wordAt", "(I)I"⟩
abbrev cX2_vector : ByteArray := prog_4_method_7_code
def yX2_vector : MethodName := ⟨RX2, "vector", "(I)I"⟩
abbrev cX2_operand : ByteArray := prog_4_method_8_code
def yX2_operand : MethodName := ⟨RX2, "operand", "(I)I"⟩
def RX3 : String := "FerriteBoard$Names"
def TX3 : u_T := fun k => match k with
  | 0 => ("FerriteBoard$Names", "letters", "[J", true)
  | 1 => ("FerriteBoard$Names", "defined", "[I", true)
  | 2 => ("FerriteBoard$Names", "count", "I", false)
  | 3 => ("FerriteBoard$Names", "keptValues", "[I", true)
  | _ => ("FerriteBoard$Names", "kept", "I", false)
def tyX3 : Nat → FieldType := fun k => match k with
  | 0 => .array .long
  | 1 => .array .int
  | 2 => .int
  | 3 => .array .int
  | _ => .int
theorem nmX3 : ∀ a, a < 5 → ∀ b, b < 5 → a ≠ b → (TX3 a).2.1 ≠ (TX3 b).2.1 := by decide +kernel
theorem tyX3_ok : ∀ k, k < 5 → parseFieldDescriptor (TX3 k).2.2.1 = some (tyX3 k) := by decide +kernel
abbrev cX3_init : ByteArray := prog_5_method_1_code
def yX3_init : MethodName := ⟨RX3, "<init>", "()V"⟩
def RX4 : String := "FerriteBoard$Passes"
def TX4 : u_T := fun k => match k with
  | 0 => ("FerriteBoard$Passes", "text", "LFerriteBoard$Text;", true)
  | 1 => ("FerriteBoard$Passes", "values", "LFerriteBoard$Values;", true)
  | 2 => ("FerriteBoard$Passes", "names", "LFerriteBoard$Names;", true)
  | 3 => ("FerriteBoard$Passes", "syntax", "LFerriteBoard$Syntax;", true)
  | 4 => ("FerriteBoard$Passes", "image", "[I", true)
  | 5 => ("FerriteBoard$Passes", "imageLines", "[I", true)
  | 6 => ("FerriteBoard$Passes", "keptLines", "[I", true)
  | 7 => ("FerriteBoard$Passes", "bytes", "[I", true)
  | 8 => ("FerriteBoard$Passes", "byteCount", "I", false)
  | 9 => ("FerriteBoard$Passes", "ifs", "[I", true)
  | 10 => ("FerriteBoard$Passes", "ifCount", "I", false)
  | 11 => ("FerriteBoard$Passes", "address", "I", false)
  | 12 => ("FerriteBoard$Passes", "bank", "I", false)
  | 13 => ("FerriteBoard$Passes", "error", "I", false)
  | _ => ("FerriteBoard$Passes", "errorPosition", "I", false)
def tyX4 : Nat → FieldType := fun k => match k with
  | 0 => .object "FerriteBoard$Text"
  | 1 => .object "FerriteBoard$Values"
  | 2 => .object "FerriteBoard$Names"
  | 3 => .object "FerriteBoard$Syntax"
  | 4 => .array .int
  | 5 => .array .int
  | 6 => .array .int
  | 7 => .array .int
  | 8 => .int
  | 9 => .array .int
  | 10 => .int
  | 11 => .int
  | 12 => .int
  | 13 => .int
  | _ => .int
theorem nmX4 : ∀ a, a < 15 → ∀ b, b < 15 → a ≠ b → (TX4 a).2.1 ≠ (TX4 b).2.1 := by decide +kernel
theorem tyX4_ok : ∀ k, k < 15 → parseFieldDescriptor (TX4 k).2.2.1 = some (tyX4 k) := by decide +kernel
abbrev cX4_init : ByteArray := prog_6_method_1_code
def yX4_init : MethodName := ⟨RX4, "<init>", "(LFerriteBoard$Text;LFerriteBoard$Values;LFerriteBoard$Names;LFerriteBoard$Syntax;)V"⟩
def RX5 : String := "FerriteBoard$Ports"
def TX5 : u_T := fun k => match k with
  | 0 => ("FerriteBoard$Ports", "input", "[I", true)
  | 1 => ("FerriteBoard$Ports", "output", "[I", true)
  | 2 => ("FerriteBoard$Ports", "bank", "I", false)
  | 3 => ("FerriteBoard$Ports", "mask", "I", false)
  | 4 => ("FerriteBoard$Ports", "pending", "I", false)
  | 5 => ("FerriteBoard$Ports", "inputCount", "I", false)
  | 6 => ("FerriteBoard$Ports", "outputCount", "I", false)
  | 7 => ("FerriteBoard$Ports", "reload", "I", false)
  | 8 => ("FerriteBoard$Ports", "timer", "I", false)
  | 9 => ("FerriteBoard$Ports", "control", "I", false)
  | 10 => ("FerriteBoard$Ports", "random", "I", false)
  | 11 => ("FerriteBoard$Ports", "from", "I", false)
  | 12 => ("FerriteBoard$Ports", "to", "I", false)
  | _ => ("FerriteBoard$Ports", "copying", "I", false)
def tyX5 : Nat → FieldType := fun k => match k with
  | 0 => .array .int
  | 1 => .array .int
  | 2 => .int
  | 3 => .int
  | 4 => .int
  | 5 => .int
  | 6 => .int
  | 7 => .int
  | 8 => .int
  | 9 => .int
  | 10 => .int
  | 11 => .int
  | 12 => .int
  | _ => .int
theorem nmX5 : ∀ a, a < 14 → ∀ b, b < 14 → a ≠ b → (TX5 a).2.1 ≠ (TX5 b).2.1 := by decide +kernel
theorem tyX5_ok : ∀ k, k < 14 → parseFieldDescriptor (TX5 k).2.2.1 = some (tyX5 k) := by decide +kernel
abbrev cX5_init : ByteArray := prog_7_method_1_code
def yX5_init : MethodName := ⟨RX5, "<init>", "()V"⟩
abbrev cX5_clear : ByteArray := prog_7_method_2_code
def yX5_clear : MethodName := ⟨RX5, "clear", "()V"⟩
def RX6 : String := "FerriteBoard$Reach"
def TX6 : u_T := fun k => match k with
  | 0 => ("FerriteBoard$Reach", "come", "[I", true)
  | 1 => ("FerriteBoard$Reach", "begins", "[I", true)
  | 2 => ("FerriteBoard$Reach", "open", "[I", true)
  | 3 => ("FerriteBoard$Reach", "openCount", "I", false)
  | _ => ("FerriteBoard$Reach", "found", "I", false)
def tyX6 : Nat → FieldType := fun k => match k with
  | 0 => .array .int
  | 1 => .array .int
  | 2 => .array .int
  | 3 => .int
  | _ => .int
theorem nmX6 : ∀ a, a < 5 → ∀ b, b < 5 → a ≠ b → (TX6 a).2.1 ≠ (TX6 b).2.1 := by decide +kernel
theorem tyX6_ok : ∀ k, k < 5 → parseFieldDescriptor (TX6 k).2.2.1 = some (tyX6 k) := by decide +kernel
abbrev cX6_init : ByteArray := prog_8_method_1_code
def yX6_init : MethodName := ⟨RX6, "<init>", "()V"⟩
abbrev cX6_explore : ByteArray := prog_8_method_2_code
def yX6_explore : MethodName := ⟨RX6, "explore", "(LFerriteBoard$Machine;)V"⟩
abbrev cX6_comeTo : ByteArray := prog_8_method_3_code
def yX6_comeTo : MethodName := ⟨RX6, "comeTo", "(I)V"⟩
abbrev cX6_goFrom : ByteArray := prog_8_method_4_code
def yX6_goFrom : MethodName := ⟨RX6, "goFrom", "(LFerriteBoard$Machine;I)V"⟩
def RX7 : String := "FerriteBoard$Stops"
def TX7 : u_T := fun k => match k with
  | 0 => ("FerriteBoard$Stops", "breaks", "[I", true)
  | 1 => ("FerriteBoard$Stops", "skips", "[I", true)
  | 2 => ("FerriteBoard$Stops", "breakCount", "I", false)
  | 3 => ("FerriteBoard$Stops", "firsts", "[I", true)
  | 4 => ("FerriteBoard$Stops", "lasts", "[I", true)
  | 5 => ("FerriteBoard$Stops", "ways", "[I", true)
  | 6 => ("FerriteBoard$Stops", "watchCount", "I", false)
  | _ => ("FerriteBoard$Stops", "reason", "I", false)
def tyX7 : Nat → FieldType := fun k => match k with
  | 0 => .array .int
  | 1 => .array .int
  | 2 => .int
  | 3 => .array .int
  | 4 => .array .int
  | 5 => .array .int
  | 6 => .int
  | _ => .int
theorem nmX7 : ∀ a, a < 8 → ∀ b, b < 8 → a ≠ b → (TX7 a).2.1 ≠ (TX7 b).2.1 := by decide +kernel
theorem tyX7_ok : ∀ k, k < 8 → parseFieldDescriptor (TX7 k).2.2.1 = some (tyX7 k) := by decide +kernel
abbrev cX7_init : ByteArray := prog_9_method_1_code
def yX7_init : MethodName := ⟨RX7, "<init>", "()V"⟩
def RX8 : String := "FerriteBoard$Syntax"
def TX8 : u_T := fun k => match k with
  | 0 => ("FerriteBoard$Syntax", "text", "LFerriteBoard$Text;", true)
  | 1 => ("FerriteBoard$Syntax", "values", "LFerriteBoard$Values;", true)
  | 2 => ("FerriteBoard$Syntax", "lines", "[LFerriteBoard$Line;", true)
  | 3 => ("FerriteBoard$Syntax", "noLine", "LFerriteBoard$Line;", true)
  | _ => ("FerriteBoard$Syntax", "lineCount", "I", false)
def tyX8 : Nat → FieldType := fun k => match k with
  | 0 => .object "FerriteBoard$Text"
  | 1 => .object "FerriteBoard$Values"
  | 2 => .array (.object "FerriteBoard$Line")
  | 3 => .object "FerriteBoard$Line"
  | _ => .int
theorem nmX8 : ∀ a, a < 5 → ∀ b, b < 5 → a ≠ b → (TX8 a).2.1 ≠ (TX8 b).2.1 := by decide +kernel
theorem tyX8_ok : ∀ k, k < 5 → parseFieldDescriptor (TX8 k).2.2.1 = some (tyX8 k) := by decide +kernel
abbrev cX8_init : ByteArray := prog_10_method_1_code
def yX8_init : MethodName := ⟨RX8, "<init>", "(LFerriteBoard$Text;LFerriteBoard$Values;)V"⟩
def RX9 : String := "FerriteBoard$Text"
def TX9 : u_T := fun k => match k with
  | 0 => ("FerriteBoard$Text", "tape", "[I", true)
  | 1 => ("FerriteBoard$Text", "length", "I", false)
  | 2 => ("FerriteBoard$Text", "kinds", "[I", true)
  | 3 => ("FerriteBoard$Text", "starts", "[I", true)
  | 4 => ("FerriteBoard$Text", "contents", "[J", true)
  | _ => ("FerriteBoard$Text", "tokens", "I", false)
def tyX9 : Nat → FieldType := fun k => match k with
  | 0 => .array .int
  | 1 => .int
  | 2 => .array .int
  | 3 => .array .int
  | 4 => .array .long
  | _ => .int
theorem nmX9 : ∀ a, a < 6 → ∀ b, b < 6 → a ≠ b → (TX9 a).2.1 ≠ (TX9 b).2.1 := by decide +kernel
theorem tyX9_ok : ∀ k, k < 6 → parseFieldDescriptor (TX9 k).2.2.1 = some (tyX9 k) := by decide +kernel
abbrev cX9_init : ByteArray := prog_11_method_1_code
def yX9_init : MethodName := ⟨RX9, "<init>", "()V"⟩
def RX10 : String := "FerriteBoard$Values"
def TX10 : u_T := fun k => match k with
  | 0 => ("FerriteBoard$Values", "text", "LFerriteBoard$Text;", true)
  | 1 => ("FerriteBoard$Values", "names", "LFerriteBoard$Names;", true)
  | 2 => ("FerriteBoard$Values", "token", "I", false)
  | 3 => ("FerriteBoard$Values", "address", "I", false)
  | 4 => ("FerriteBoard$Values", "failed", "Z", false)
  | 5 => ("FerriteBoard$Values", "unknown", "I", false)
  | _ => ("FerriteBoard$Values", "byZero", "Z", false)
def tyX10 : Nat → FieldType := fun k => match k with
  | 0 => .object "FerriteBoard$Text"
  | 1 => .object "FerriteBoard$Names"
  | 2 => .int
  | 3 => .int
  | 4 => .boolean
  | 5 => .int
  | _ => .boolean
theorem nmX10 : ∀ a, a < 7 → ∀ b, b < 7 → a ≠ b → (TX10 a).2.1 ≠ (TX10 b).2.1 := by decide +kernel
theorem tyX10_ok : ∀ k, k < 7 → parseFieldDescriptor (TX10 k).2.2.1 = some (tyX10 k) := by decide +kernel
abbrev cX10_init : ByteArray := prog_12_method_1_code
def yX10_init : MethodName := ⟨RX10, "<init>", "(LFerriteBoard$Text;LFerriteBoard$Names;)V"⟩
def RX11 : String := "FerriteBoard"
def TX11 : u_T := fun k => match k with
  | 0 => ("FerriteBoard", "text", "LFerriteBoard$Text;", true)
  | 1 => ("FerriteBoard", "names", "LFerriteBoard$Names;", true)
  | 2 => ("FerriteBoard", "values", "LFerriteBoard$Values;", true)
  | 3 => ("FerriteBoard", "syntax", "LFerriteBoard$Syntax;", true)
  | 4 => ("FerriteBoard", "passes", "LFerriteBoard$Passes;", true)
  | 5 => ("FerriteBoard", "machine", "LFerriteBoard$Machine;", true)
  | 6 => ("FerriteBoard", "trial", "LFerriteBoard$Machine;", true)
  | 7 => ("FerriteBoard", "history", "LFerriteBoard$History;", true)
  | 8 => ("FerriteBoard", "stops", "LFerriteBoard$Stops;", true)
  | _ => ("FerriteBoard", "reach", "LFerriteBoard$Reach;", true)
def tyX11 : Nat → FieldType := fun k => match k with
  | 0 => .object "FerriteBoard$Text"
  | 1 => .object "FerriteBoard$Names"
  | 2 => .object "FerriteBoard$Values"
  | 3 => .object "FerriteBoard$Syntax"
  | 4 => .object "FerriteBoard$Passes"
  | 5 => .object "FerriteBoard$Machine"
  | 6 => .object "FerriteBoard$Machine"
  | 7 => .object "FerriteBoard$History"
  | 8 => .object "FerriteBoard$Stops"
  | _ => .object "FerriteBoard$Reach"
theorem nmX11 : ∀ a, a < 10 → ∀ b, b < 10 → a ≠ b → (TX11 a).2.1 ≠ (TX11 b).2.1 := by decide +kernel
theorem tyX11_ok : ∀ k, k < 10 → parseFieldDescriptor (TX11 k).2.2.1 = some (tyX11 k) := by decide +kernel
abbrev cX11_init : ByteArray := prog_1_method_1_code
def yX11_init : MethodName := ⟨RX11, "<init>", "()V"⟩
abbrev cX11_codes : ByteArray := prog_1_method_59_code
def yX11_codes : MethodName := ⟨RX11, "codes", "()I"⟩
abbrev cX11_at : ByteArray := prog_1_method_66_code
def yX11_at : MethodName := ⟨RX11, "at", "([II)I"⟩
abbrev cX11_put : ByteArray := prog_1_method_68_code
def yX11_put : MethodName := ⟨RX11, "put", "([III)V"⟩
abbrev cX11_placeOf : ByteArray := prog_1_method_70_code
def yX11_placeOf : MethodName := ⟨RX11, "placeOf", "(II)I"⟩
abbrev cX11_hasMode : ByteArray := prog_1_method_71_code
def yX11_hasMode : MethodName := ⟨RX11, "hasMode", "(II)Z"⟩
abbrev cX11_lengthOf : ByteArray := prog_1_method_72_code
def yX11_lengthOf : MethodName := ⟨RX11, "lengthOf", "(I)I"⟩
abbrev cX11_signed : ByteArray := prog_1_method_73_code
def yX11_signed : MethodName := ⟨RX11, "signed", "(I)I"⟩
def RX12 : String := "FerriteBoardModel"
def TX12 : u_T := fun k => match k with
  | 0 => ("FerriteBoardModel", "m", "[I", false)
  | 1 => ("FerriteBoardModel", "history", "[[I", true)
  | 2 => ("FerriteBoardModel", "steps", "I", false)
  | 3 => ("FerriteBoardModel", "log", "[I", false)
  | 4 => ("FerriteBoardModel", "logged", "I", false)
  | 5 => ("FerriteBoardModel", "isLogging", "Z", false)
  | 6 => ("FerriteBoardModel", "spent", "I", false)
  | 7 => ("FerriteBoardModel", "isHit", "Z", false)
  | 8 => ("FerriteBoardModel", "asked", "I", false)
  | 9 => ("FerriteBoardModel", "written", "I", false)
  | 10 => ("FerriteBoardModel", "stopped", "I", false)
  | 11 => ("FerriteBoardModel", "breaks", "[I", true)
  | 12 => ("FerriteBoardModel", "skips", "[I", true)
  | 13 => ("FerriteBoardModel", "broken", "I", false)
  | 14 => ("FerriteBoardModel", "low", "[I", true)
  | 15 => ("FerriteBoardModel", "top", "[I", true)
  | 16 => ("FerriteBoardModel", "onRead", "[Z", true)
  | 17 => ("FerriteBoardModel", "onWrite", "[Z", true)
  | 18 => ("FerriteBoardModel", "watches", "I", false)
  | 19 => ("FerriteBoardModel", "thrown", "I", false)
  | 20 => ("FerriteBoardModel", "tape", "[B", true)
  | 21 => ("FerriteBoardModel", "size", "I", false)
  | 22 => ("FerriteBoardModel", "kind", "[I", true)
  | 23 => ("FerriteBoardModel", "value", "[I", true)
  | 24 => ("FerriteBoardModel", "from", "[I", true)
  | 25 => ("FerriteBoardModel", "to", "[I", true)
  | 26 => ("FerriteBoardModel", "tokens", "I", false)
  | 27 => ("FerriteBoardModel", "t", "I", false)
  | 28 => ("FerriteBoardModel", "errorAt", "I", false)
  | 29 => ("FerriteBoardModel", "isEnded", "Z", false)
  | 30 => ("FerriteBoardModel", "error", "I", false)
  | 31 => ("FerriteBoardModel", "place", "I", false)
  | 32 => ("FerriteBoardModel", "nameAt", "[I", true)
  | 33 => ("FerriteBoardModel", "nameValue", "[I", true)
  | 34 => ("FerriteBoardModel", "names", "I", false)
  | 35 => ("FerriteBoardModel", "address", "I", false)
  | 36 => ("FerriteBoardModel", "unknown", "I", false)
  | 37 => ("FerriteBoardModel", "isByZero", "Z", false)
  | 38 => ("FerriteBoardModel", "formOf", "[I", true)
  | 39 => ("FerriteBoardModel", "isLeft", "[Z", true)
  | 40 => ("FerriteBoardModel", "open", "[I", true)
  | 41 => ("FerriteBoardModel", "opens", "I", false)
  | 42 => ("FerriteBoardModel", "bankOf", "I", false)
  | 43 => ("FerriteBoardModel", "line", "I", false)
  | 44 => ("FerriteBoardModel", "isSecond", "Z", false)
  | 45 => ("FerriteBoardModel", "made", "[I", true)
  | 46 => ("FerriteBoardModel", "lineAt", "[I", true)
  | 47 => ("FerriteBoardModel", "newLine", "[I", true)
  | 48 => ("FerriteBoardModel", "names2", "[I", true)
  | 49 => ("FerriteBoardModel", "known", "I", false)
  | _ => ("FerriteBoardModel", "work", "I", false)
def tyX12 : Nat → FieldType := fun k => match k with
  | 0 => .array .int
  | 1 => .array (.array .int)
  | 2 => .int
  | 3 => .array .int
  | 4 => .int
  | 5 => .boolean
  | 6 => .int
  | 7 => .boolean
  | 8 => .int
  | 9 => .int
  | 10 => .int
  | 11 => .array .int
  | 12 => .array .int
  | 13 => .int
  | 14 => .array .int
  | 15 => .array .int
  | 16 => .array .boolean
  | 17 => .array .boolean
  | 18 => .int
  | 19 => .int
  | 20 => .array .byte
  | 21 => .int
  | 22 => .array .int
  | 23 => .array .int
  | 24 => .array .int
  | 25 => .array .int
  | 26 => .int
  | 27 => .int
  | 28 => .int
  | 29 => .boolean
  | 30 => .int
  | 31 => .int
  | 32 => .array .int
  | 33 => .array .int
  | 34 => .int
  | 35 => .int
  | 36 => .int
  | 37 => .boolean
  | 38 => .array .int
  | 39 => .array .boolean
  | 40 => .array .int
  | 41 => .int
  | 42 => .int
  | 43 => .int
  | 44 => .boolean
  | 45 => .array .int
  | 46 => .array .int
  | 47 => .array .int
  | 48 => .array .int
  | 49 => .int
  | _ => .int
theorem nmX12 : ∀ a, a < 51 → ∀ b, b < 51 → a ≠ b → (TX12 a).2.1 ≠ (TX12 b).2.1 := by decide +kernel
theorem tyX12_ok : ∀ k, k < 51 → parseFieldDescriptor (TX12 k).2.2.1 = some (tyX12 k) := by decide +kernel
abbrev cX12_init : ByteArray := prog_14_method_1_code
def yX12_init : MethodName := ⟨RX12, "<init>", "()V"⟩
abbrev cX12_isIn : ByteArray := prog_14_method_4_code
def yX12_isIn : MethodName := ⟨RX12, "isIn", "(III)Z"⟩
abbrev cX12_isPort : ByteArray := prog_14_method_7_code
def yX12_isPort : MethodName := ⟨RX12, "isPort", "(I)Z"⟩
abbrev cX12_place : ByteArray := prog_14_method_8_code
def yX12_place : MethodName := ⟨RX12, "place", "(I)I"⟩
abbrev cX12_code : ByteArray := prog_14_method_9_code
def yX12_code : MethodName := ⟨RX12, "code", "(I)I"⟩
abbrev cX12_vector : ByteArray := prog_14_method_10_code
def yX12_vector : MethodName := ⟨RX12, "vector", "(I)I"⟩
abbrev cX12_modesFrom : ByteArray := prog_14_method_25_code
def yX12_modesFrom : MethodName := ⟨RX12, "modesFrom", "(I)I"⟩
abbrev cX12_modesTo : ByteArray := prog_14_method_26_code
def yX12_modesTo : MethodName := ⟨RX12, "modesTo", "(I)I"⟩
abbrev cX12_isInstruction : ByteArray := prog_14_method_27_code
def yX12_isInstruction : MethodName := ⟨RX12, "isInstruction", "(I)Z"⟩
abbrev cX12_length : ByteArray := prog_14_method_28_code
def yX12_length : MethodName := ⟨RX12, "length", "(I)I"⟩
abbrev cX12_forget : ByteArray := prog_14_method_53_code
def yX12_forget : MethodName := ⟨RX12, "forget", "()V"⟩
abbrev cX12_start : ByteArray := prog_14_method_54_code
def yX12_start : MethodName := ⟨RX12, "start", "()V"⟩
abbrev cX12_reached : ByteArray := prog_14_method_167_code
def yX12_reached : MethodName := ⟨RX12, "reached", "()[Z"⟩
abbrev cX12_reachable : ByteArray := prog_14_method_169_code
def yX12_reachable : MethodName := ⟨RX12, "reachable", "()I"⟩
abbrev cX12_codes : ByteArray := prog_14_method_170_code
def yX12_codes : MethodName := ⟨RX12, "codes", "()I"⟩
def RJ7 : String := "java/util/Arrays"
abbrev cJ7_fill_53178 : ByteArray := prog_27_method_103_code
def yJ7_fill_53178 : MethodName := ⟨RJ7, "fill", "([II)V"⟩
def RL : String := "FerriteBoardLaw"
abbrev cL_law : ByteArray := code
abbrev vwCl : List vw_C := [(RX0, TX0, 6), (RX1, TX1, 9), (RX2, TX2, 17), (RX3, TX3, 5), (RX4, TX4, 15), (RX5, TX5, 14), (RX6, TX6, 5), (RX7, TX7, 8), (RX8, TX8, 5), (RX9, TX9, 6), (RX10, TX10, 7), (RX11, TX11, 10), (RX12, TX12, 51)]
end
section
/-! the words of the tables, by their places -/
def fb_all : List Cond := lw_tbl.filter goodWord
theorem fb_mem {w : Cond} (k : Nat) (h : lw_tbl[k]? = some w) (hg : goodWord w = true) : w ∈ fb_all := List.mem_filter.mpr ⟨List.mem_of_getElem? h, hg⟩
theorem fb_allIn : ∀ w ∈ fb_all, w ∈ lw_tbl := fun w h => (List.mem_filter.mp h).1
theorem fb_allGood : GoodIn fb_all fb_all := fun w h => ⟨h, good_of_word (List.mem_filter.mp h).2⟩
theorem fb_g1 {w : Cond} (h : w ∈ fb_all) : w ∈ fb_all ∧ ((w.onTables && w.keeps) = true ∨ ∃ ty, w = .arrayClass ty) := fb_allGood w h
theorem fb_goodC {y : MethodName} {c : ByteArray} {n : Nat} {r : Option FieldType} (h5 : Cond.code y c n r ∈ fb_all) : GoodIn fb_all (.code y c n r :: fb_all) := fun w h => (List.mem_cons.mp h).elim (fun e => e ▸ fb_g1 h5) fb_g1
theorem fb_goodV {own C : String} {idx : Nat} {y : MethodName} {c : ByteArray} {n : Nat} {r : Option FieldType} (h1 : Cond.methodLink own idx y ∈ fb_all) (h2 : Cond.instanceMethod y ∈ fb_all) (h3 : Cond.selects C y y ∈ fb_all) (h4 : Cond.initialized C ∈ fb_all) (h5 : Cond.code y c n r ∈ fb_all) : GoodIn fb_all (wsV own idx C y (.code y c n r :: fb_all)) := by
  intro w h
  rcases List.mem_append.mp h with h | h
  · simp only [List.mem_cons, List.not_mem_nil, or_false] at h
    rcases h with rfl | rfl | rfl | rfl
    · exact fb_g1 h1
    · exact fb_g1 h2
    · exact fb_g1 h3
    · exact fb_g1 h4
  · exact fb_goodC h5 w h
theorem fb_goodS {own : String} {idx : Nat} {y : MethodName} {c : ByteArray} {n : Nat} {r : Option FieldType} (h1 : Cond.methodLink own idx y ∈ fb_all) (h2 : Cond.static y ∈ fb_all) (h4 : Cond.initialized y.cls ∈ fb_all) (h5 : Cond.code y c n r ∈ fb_all) : GoodIn fb_all (va_wsS own idx y (.code y c n r :: fb_all)) := by
  intro w h
  rcases List.mem_append.mp h with h | h
  · simp only [List.mem_cons, List.not_mem_nil, or_false] at h
    rcases h with rfl | rfl | rfl
    · exact fb_g1 h1
    · exact fb_g1 h2
    · exact fb_g1 h4
  · exact fb_goodC h5 w h
theorem fb_fu {C : String} {T : u_T} {N : Nat} (h : ∀ k, k < N → u_lay C T k ∈ fb_all) : ∀ w ∈ u_ws C T N, w ∈ fb_all := fun w hw => by
  obtain ⟨k, hk, rfl⟩ := List.mem_map.mp hw
  exact h k (List.mem_range.mp hk)
theorem fb_mc {w : Cond} {L : List Cond} (hs : ∀ x, x ∈ L → x ∈ tables_1) (k : Nat) (h : L[k]? = some w) (hg : goodWord w = true) : w ∈ fb_all := List.mem_filter.mpr ⟨List.mem_append_right _ (hs _ (List.mem_of_getElem? h)), hg⟩
theorem fb_s1 : ∀ x, x ∈ tables_1_1 → x ∈ tables_1 := fun x h => List.mem_append_left _ (h)
theorem fb_s2 : ∀ x, x ∈ tables_1_2 → x ∈ tables_1 := fun x h => List.mem_append_right _ (List.mem_append_left _ (h))
theorem fb_s3 : ∀ x, x ∈ tables_1_3 → x ∈ tables_1 := fun x h => List.mem_append_right _ (List.mem_append_right _ (List.mem_append_left _ (h)))
theorem fb_s4 : ∀ x, x ∈ tables_1_4 → x ∈ tables_1 := fun x h => List.mem_append_right _ (List.mem_append_right _ (List.mem_append_right _ (List.mem_append_left _ (h))))
theorem fb_s5 : ∀ x, x ∈ tables_1_5 → x ∈ tables_1 := fun x h => List.mem_append_right _ (List.mem_append_right _ (List.mem_append_right _ (List.mem_append_right _ (List.mem_append_left _ (h)))))
theorem fb_s6 : ∀ x, x ∈ tables_1_6 → x ∈ tables_1 := fun x h => List.mem_append_right _ (List.mem_append_right _ (List.mem_append_right _ (List.mem_append_right _ (List.mem_append_right _ (List.mem_append_left _ (h))))))
theorem fb_s8 : ∀ x, x ∈ tables_1_8 → x ∈ tables_1 := fun x h => List.mem_append_right _ (List.mem_append_right _ (List.mem_append_right _ (List.mem_append_right _ (List.mem_append_right _ (List.mem_append_right _ (List.mem_append_right _ (List.mem_append_left _ (h))))))))
theorem fb_s9 : ∀ x, x ∈ tables_1_9 → x ∈ tables_1 := fun x h => List.mem_append_right _ (List.mem_append_right _ (List.mem_append_right _ (List.mem_append_right _ (List.mem_append_right _ (List.mem_append_right _ (List.mem_append_right _ (List.mem_append_right _ (List.mem_append_left _ (h)))))))))
theorem fb_s10 : ∀ x, x ∈ tables_1_10 → x ∈ tables_1 := fun x h => List.mem_append_right _ (List.mem_append_right _ (List.mem_append_right _ (List.mem_append_right _ (List.mem_append_right _ (List.mem_append_right _ (List.mem_append_right _ (List.mem_append_right _ (List.mem_append_right _ (List.mem_append_left _ (h))))))))))
theorem fb_s11 : ∀ x, x ∈ tables_1_11 → x ∈ tables_1 := fun x h => List.mem_append_right _ (List.mem_append_right _ (List.mem_append_right _ (List.mem_append_right _ (List.mem_append_right _ (List.mem_append_right _ (List.mem_append_right _ (List.mem_append_right _ (List.mem_append_right _ (List.mem_append_right _ (h))))))))))
theorem fw_81 : Cond.selects RX6 yX6_comeTo yX6_comeTo ∈ fb_all := fb_mem 81 (by decide +kernel) rfl
theorem fw_82 : Cond.selects RX6 yX6_goFrom yX6_goFrom ∈ fb_all := fb_mem 82 (by decide +kernel) rfl
theorem fw_84 : Cond.selects RX12 yX12_start yX12_start ∈ fb_all := fb_mem 84 (by decide +kernel) rfl
theorem fw_85 : Cond.selects RX12 yX12_vector yX12_vector ∈ fb_all := fb_mem 85 (by decide +kernel) rfl
theorem fw_86 : Cond.selects RX12 yX12_code yX12_code ∈ fb_all := fb_mem 86 (by decide +kernel) rfl
theorem fw_87 : Cond.selects RX12 yX12_place yX12_place ∈ fb_all := fb_mem 87 (by decide +kernel) rfl
theorem fw_88 : Cond.selects RX12 yX12_forget yX12_forget ∈ fb_all := fb_mem 88 (by decide +kernel) rfl
theorem fw_188 : Cond.selects RX12 yX12_reached yX12_reached ∈ fb_all := fb_mem 188 (by decide +kernel) rfl
theorem fw_189 : Cond.selects RX12 yX12_reachable yX12_reachable ∈ fb_all := fb_mem 189 (by decide +kernel) rfl
theorem fw_191 : Cond.initialized RX11 ∈ fb_all := fb_mc fb_s1 1 rfl rfl
theorem fw_192 : Cond.initialized RX9 ∈ fb_all := fb_mc fb_s1 2 rfl rfl
theorem fw_193 : Cond.initialized RX3 ∈ fb_all := fb_mc fb_s1 3 rfl rfl
theorem fw_194 : Cond.initialized RX10 ∈ fb_all := fb_mc fb_s1 4 rfl rfl
theorem fw_195 : Cond.initialized RX8 ∈ fb_all := fb_mc fb_s1 5 rfl rfl
theorem fw_196 : Cond.initialized RX1 ∈ fb_all := fb_mc fb_s1 6 rfl rfl
theorem fw_197 : Cond.initialized RX4 ∈ fb_all := fb_mc fb_s1 7 rfl rfl
theorem fw_198 : Cond.initialized RX2 ∈ fb_all := fb_mc fb_s1 8 rfl rfl
theorem fw_199 : Cond.initialized RX5 ∈ fb_all := fb_mc fb_s1 9 rfl rfl
theorem fw_200 : Cond.initialized RX0 ∈ fb_all := fb_mc fb_s1 10 rfl rfl
theorem fw_201 : Cond.initialized RX7 ∈ fb_all := fb_mc fb_s1 11 rfl rfl
theorem fw_202 : Cond.initialized RX6 ∈ fb_all := fb_mc fb_s1 12 rfl rfl
theorem fw_203 : Cond.initialized RJ7 ∈ fb_all := fb_mc fb_s1 13 rfl rfl
theorem fw_204 : Cond.initialized RX12 ∈ fb_all := fb_mc fb_s1 14 rfl rfl
theorem fw_218 : Cond.classLink RL 8 RX11 ∈ fb_all := fb_mc fb_s1 28 rfl rfl
theorem fw_219 : Cond.instantiable RX11 10 ∈ fb_all := fb_mc fb_s1 29 rfl rfl
theorem fw_220 : Cond.methodLink RL 95 yX11_init ∈ fb_all := fb_mc fb_s1 30 rfl rfl
theorem fw_221 : Cond.instanceMethod yX11_init ∈ fb_all := fb_mc fb_s1 31 rfl rfl
theorem fw_222 : Cond.code yX11_init cX11_init 1 none ∈ fb_all := fb_mc fb_s1 32 rfl rfl
theorem fw_223 : Cond.methodLink RX11 3 objectInit ∈ fb_all := fb_mc fb_s1 33 rfl rfl
theorem fw_224 : Cond.instanceMethod objectInit ∈ fb_all := fb_mc fb_s1 34 rfl rfl
theorem fw_225 : Cond.code objectInit ⟨#[0xb1]⟩ 1 none ∈ fb_all := fb_mc fb_s1 35 rfl rfl
theorem fw_226 : Cond.classLink RX11 9 RX9 ∈ fb_all := fb_mc fb_s1 36 rfl rfl
theorem fw_227 : Cond.instantiable RX9 6 ∈ fb_all := fb_mc fb_s1 37 rfl rfl
theorem fw_229 : Cond.instanceMethod yX9_init ∈ fb_all := fb_mc fb_s1 39 rfl rfl
theorem fw_230 : Cond.code yX9_init cX9_init 1 none ∈ fb_all := fb_mc fb_s1 40 rfl rfl
theorem fw_231 : Cond.methodLink RX9 3 objectInit ∈ fb_all := fb_mc fb_s1 41 rfl rfl
theorem fw_232 : Cond.fieldLink RX9 9 "FerriteBoard$Text" "tape" "[I" ∈ fb_all := fb_mc fb_s1 42 rfl rfl
theorem fw_237 : Cond.fieldLink RX9 15 "FerriteBoard$Text" "kinds" "[I" ∈ fb_all := fb_mc fb_s1 47 rfl rfl
theorem fw_239 : Cond.fieldLink RX9 18 "FerriteBoard$Text" "starts" "[I" ∈ fb_all := fb_mc fb_s1 49 rfl rfl
theorem fw_241 : Cond.fieldLink RX9 21 "FerriteBoard$Text" "contents" "[J" ∈ fb_all := fb_mc fb_s1 51 rfl rfl
theorem fw_261 : Cond.arrayClass Jvm.ClassFile.FieldType.int ∈ fb_all := fb_mc fb_s1 71 rfl rfl
theorem fw_262 : Cond.arrayClass Jvm.ClassFile.FieldType.long ∈ fb_all := fb_mc fb_s1 72 rfl rfl
theorem fw_263 : Cond.classLink RX11 16 RX3 ∈ fb_all := fb_mc fb_s1 73 rfl rfl
theorem fw_264 : Cond.instantiable RX3 5 ∈ fb_all := fb_mc fb_s1 74 rfl rfl
theorem fw_266 : Cond.instanceMethod yX3_init ∈ fb_all := fb_mc fb_s1 76 rfl rfl
theorem fw_267 : Cond.code yX3_init cX3_init 1 none ∈ fb_all := fb_mc fb_s1 77 rfl rfl
theorem fw_268 : Cond.methodLink RX3 3 objectInit ∈ fb_all := fb_mc fb_s1 78 rfl rfl
theorem fw_269 : Cond.fieldLink RX3 9 "FerriteBoard$Names" "letters" "[J" ∈ fb_all := fb_mc fb_s1 79 rfl rfl
theorem fw_270 : Cond.fieldLink RX3 15 "FerriteBoard$Names" "defined" "[I" ∈ fb_all := fb_mc fb_s1 80 rfl rfl
theorem fw_273 : Cond.fieldLink RX3 19 "FerriteBoard$Names" "keptValues" "[I" ∈ fb_all := fb_mc fb_s1 83 rfl rfl
theorem fw_288 : Cond.classLink RX11 23 RX10 ∈ fb_all := fb_mc fb_s1 98 rfl rfl
theorem fw_289 : Cond.instantiable RX10 7 ∈ fb_all := fb_mc fb_s1 99 rfl rfl
theorem fw_290 : Cond.methodLink RX11 25 yX10_init ∈ fb_all := fb_mc fb_s1 100 rfl rfl
theorem fw_291 : Cond.instanceMethod yX10_init ∈ fb_all := fb_mc fb_s1 101 rfl rfl
theorem fw_292 : Cond.code yX10_init cX10_init 3 none ∈ fb_all := fb_mc fb_s1 102 rfl rfl
theorem fw_293 : Cond.methodLink RX10 3 objectInit ∈ fb_all := fb_mc fb_s1 103 rfl rfl
theorem fw_294 : Cond.fieldLink RX10 9 "FerriteBoard$Values" "text" "LFerriteBoard$Text;" ∈ fb_all := fb_mc fb_s1 104 rfl rfl
theorem fw_295 : Cond.fieldLink RX10 15 "FerriteBoard$Values" "names" "LFerriteBoard$Names;" ∈ fb_all := fb_mc fb_s1 105 rfl rfl
theorem fw_320 : Cond.classLink RX11 32 RX8 ∈ fb_all := fb_mc fb_s1 130 rfl rfl
theorem fw_321 : Cond.instantiable RX8 5 ∈ fb_all := fb_mc fb_s1 131 rfl rfl
theorem fw_322 : Cond.methodLink RX11 34 yX8_init ∈ fb_all := fb_mc fb_s1 132 rfl rfl
theorem fw_323 : Cond.instanceMethod yX8_init ∈ fb_all := fb_mc fb_s1 133 rfl rfl
theorem fw_324 : Cond.code yX8_init cX8_init 4 none ∈ fb_all := fb_mc fb_s1 134 rfl rfl
theorem fw_325 : Cond.methodLink RX8 3 objectInit ∈ fb_all := fb_mc fb_s1 135 rfl rfl
theorem fw_326 : Cond.classLink RX8 9 RX1 ∈ fb_all := fb_mc fb_s1 136 rfl rfl
theorem fw_328 : Cond.instantiable RX1 9 ∈ fb_all := fb_mc fb_s1 138 rfl rfl
theorem fw_330 : Cond.instanceMethod yX1_init ∈ fb_all := fb_mc fb_s1 140 rfl rfl
theorem fw_331 : Cond.code yX1_init cX1_init 1 none ∈ fb_all := fb_mc fb_s1 141 rfl rfl
theorem fw_332 : Cond.methodLink RX1 3 objectInit ∈ fb_all := fb_mc fb_s1 142 rfl rfl
theorem fw_375 : Cond.fieldLink RX8 22 "FerriteBoard$Syntax" "text" "LFerriteBoard$Text;" ∈ fb_all := fb_mc fb_s1 185 rfl rfl
theorem fw_376 : Cond.fieldLink RX8 26 "FerriteBoard$Syntax" "values" "LFerriteBoard$Values;" ∈ fb_all := fb_mc fb_s1 186 rfl rfl
theorem fw_377 : Cond.fieldLink RX8 11 "FerriteBoard$Syntax" "lines" "[LFerriteBoard$Line;" ∈ fb_all := fb_mc fb_s1 187 rfl rfl
theorem fw_378 : Cond.fieldLink RX8 18 "FerriteBoard$Syntax" "noLine" "LFerriteBoard$Line;" ∈ fb_all := fb_mc fb_s1 188 rfl rfl
theorem fw_392 : Cond.classLink RX11 41 RX4 ∈ fb_all := fb_mc fb_s1 202 rfl rfl
theorem fw_393 : Cond.instantiable RX4 15 ∈ fb_all := fb_mc fb_s1 203 rfl rfl
theorem fw_394 : Cond.methodLink RX11 43 yX4_init ∈ fb_all := fb_mc fb_s1 204 rfl rfl
theorem fw_395 : Cond.instanceMethod yX4_init ∈ fb_all := fb_mc fb_s1 205 rfl rfl
theorem fw_396 : Cond.code yX4_init cX4_init 5 none ∈ fb_all := fb_mc fb_s1 206 rfl rfl
theorem fw_397 : Cond.methodLink RX4 3 objectInit ∈ fb_all := fb_mc fb_s1 207 rfl rfl
theorem fw_398 : Cond.fieldLink RX4 31 "FerriteBoard$Passes" "text" "LFerriteBoard$Text;" ∈ fb_all := fb_mc fb_s1 208 rfl rfl
theorem fw_399 : Cond.fieldLink RX4 35 "FerriteBoard$Passes" "values" "LFerriteBoard$Values;" ∈ fb_all := fb_mc fb_s1 209 rfl rfl
theorem fw_400 : Cond.fieldLink RX4 39 "FerriteBoard$Passes" "names" "LFerriteBoard$Names;" ∈ fb_all := fb_mc fb_s1 210 rfl rfl
theorem fw_401 : Cond.fieldLink RX4 43 "FerriteBoard$Passes" "syntax" "LFerriteBoard$Syntax;" ∈ fb_all := fb_mc fb_s1 211 rfl rfl
theorem fw_402 : Cond.fieldLink RX4 9 "FerriteBoard$Passes" "image" "[I" ∈ fb_all := fb_mc fb_s1 212 rfl rfl
theorem fw_404 : Cond.fieldLink RX4 15 "FerriteBoard$Passes" "imageLines" "[I" ∈ fb_all := fb_mc fb_s1 214 rfl rfl
theorem fw_405 : Cond.fieldLink RX4 18 "FerriteBoard$Passes" "keptLines" "[I" ∈ fb_all := fb_mc fb_s1 215 rfl rfl
theorem fw_407 : Cond.fieldLink RX4 21 "FerriteBoard$Passes" "bytes" "[I" ∈ fb_all := fb_mc fb_s1 217 rfl rfl
theorem fw_409 : Cond.fieldLink RX4 24 "FerriteBoard$Passes" "ifs" "[I" ∈ fb_all := fb_mc fb_s1 219 rfl rfl
theorem fw_415 : Cond.fieldLink RX4 27 "FerriteBoard$Passes" "errorPosition" "I" ∈ fb_all := fb_mc fb_s1 225 rfl rfl
theorem fw_448 : Cond.classLink RX11 50 RX2 ∈ fb_all := fb_mc fb_s2 18 rfl rfl
theorem fw_449 : Cond.instantiable RX2 17 ∈ fb_all := fb_mc fb_s2 19 rfl rfl
theorem fw_451 : Cond.instanceMethod yX2_init ∈ fb_all := fb_mc fb_s2 21 rfl rfl
theorem fw_452 : Cond.code yX2_init cX2_init 1 none ∈ fb_all := fb_mc fb_s2 22 rfl rfl
theorem fw_453 : Cond.methodLink RX2 3 objectInit ∈ fb_all := fb_mc fb_s2 23 rfl rfl
theorem fw_454 : Cond.classLink RX2 24 RX5 ∈ fb_all := fb_mc fb_s2 24 rfl rfl
theorem fw_455 : Cond.instantiable RX5 14 ∈ fb_all := fb_mc fb_s2 25 rfl rfl
theorem fw_457 : Cond.instanceMethod yX5_init ∈ fb_all := fb_mc fb_s2 27 rfl rfl
theorem fw_458 : Cond.code yX5_init cX5_init 1 none ∈ fb_all := fb_mc fb_s2 28 rfl rfl
theorem fw_459 : Cond.methodLink RX5 3 objectInit ∈ fb_all := fb_mc fb_s2 29 rfl rfl
theorem fw_460 : Cond.fieldLink RX5 9 "FerriteBoard$Ports" "input" "[I" ∈ fb_all := fb_mc fb_s2 30 rfl rfl
theorem fw_461 : Cond.fieldLink RX5 15 "FerriteBoard$Ports" "output" "[I" ∈ fb_all := fb_mc fb_s2 31 rfl rfl
theorem fw_462 : Cond.fieldLink RX5 18 "FerriteBoard$Ports" "bank" "I" ∈ fb_all := fb_mc fb_s2 32 rfl rfl
theorem fw_463 : Cond.fieldLink RX2 89 "FerriteBoard$Ports" "bank" "I" ∈ fb_all := fb_mc fb_s2 33 rfl rfl
theorem fw_465 : Cond.fieldLink RX5 22 "FerriteBoard$Ports" "mask" "I" ∈ fb_all := fb_mc fb_s2 35 rfl rfl
theorem fw_467 : Cond.fieldLink RX5 25 "FerriteBoard$Ports" "pending" "I" ∈ fb_all := fb_mc fb_s2 37 rfl rfl
theorem fw_470 : Cond.fieldLink RX5 28 "FerriteBoard$Ports" "inputCount" "I" ∈ fb_all := fb_mc fb_s2 40 rfl rfl
theorem fw_472 : Cond.fieldLink RX5 31 "FerriteBoard$Ports" "outputCount" "I" ∈ fb_all := fb_mc fb_s2 42 rfl rfl
theorem fw_474 : Cond.fieldLink RX5 34 "FerriteBoard$Ports" "reload" "I" ∈ fb_all := fb_mc fb_s2 44 rfl rfl
theorem fw_475 : Cond.fieldLink RX5 37 "FerriteBoard$Ports" "timer" "I" ∈ fb_all := fb_mc fb_s2 45 rfl rfl
theorem fw_477 : Cond.fieldLink RX5 40 "FerriteBoard$Ports" "control" "I" ∈ fb_all := fb_mc fb_s2 47 rfl rfl
theorem fw_478 : Cond.fieldLink RX5 43 "FerriteBoard$Ports" "random" "I" ∈ fb_all := fb_mc fb_s2 48 rfl rfl
theorem fw_479 : Cond.fieldLink RX5 46 "FerriteBoard$Ports" "from" "I" ∈ fb_all := fb_mc fb_s2 49 rfl rfl
theorem fw_481 : Cond.fieldLink RX5 49 "FerriteBoard$Ports" "to" "I" ∈ fb_all := fb_mc fb_s2 51 rfl rfl
theorem fw_483 : Cond.fieldLink RX5 52 "FerriteBoard$Ports" "copying" "I" ∈ fb_all := fb_mc fb_s2 53 rfl rfl
theorem fw_514 : Cond.fieldLink RX2 9 "FerriteBoard$Machine" "memory" "[I" ∈ fb_all := fb_mc fb_s2 84 rfl rfl
theorem fw_516 : Cond.fieldLink RX2 15 "FerriteBoard$Machine" "times" "[I" ∈ fb_all := fb_mc fb_s2 86 rfl rfl
theorem fw_518 : Cond.fieldLink RX2 18 "FerriteBoard$Machine" "callers" "[I" ∈ fb_all := fb_mc fb_s2 88 rfl rfl
theorem fw_520 : Cond.fieldLink RX2 21 "FerriteBoard$Machine" "touched" "[I" ∈ fb_all := fb_mc fb_s2 90 rfl rfl
theorem fw_522 : Cond.fieldLink RX2 27 "FerriteBoard$Machine" "ports" "LFerriteBoard$Ports;" ∈ fb_all := fb_mc fb_s2 92 rfl rfl
theorem fw_524 : Cond.fieldLink RX2 40 "FerriteBoard$Machine" "a" "I" ∈ fb_all := fb_mc fb_s2 94 rfl rfl
theorem fw_526 : Cond.fieldLink RX2 44 "FerriteBoard$Machine" "x" "I" ∈ fb_all := fb_mc fb_s2 96 rfl rfl
theorem fw_528 : Cond.fieldLink RX2 47 "FerriteBoard$Machine" "s" "I" ∈ fb_all := fb_mc fb_s2 98 rfl rfl
theorem fw_530 : Cond.fieldLink RX2 50 "FerriteBoard$Machine" "flags" "I" ∈ fb_all := fb_mc fb_s2 100 rfl rfl
theorem fw_532 : Cond.fieldLink RX6 34 "FerriteBoard$Machine" "pc" "I" ∈ fb_all := fb_mc fb_s2 102 rfl rfl
theorem fw_533 : Cond.fieldLink RX2 57 "FerriteBoard$Machine" "pc" "I" ∈ fb_all := fb_mc fb_s2 103 rfl rfl
theorem fw_535 : Cond.fieldLink RX2 60 "FerriteBoard$Machine" "state" "I" ∈ fb_all := fb_mc fb_s2 105 rfl rfl
theorem fw_537 : Cond.fieldLink RX2 63 "FerriteBoard$Machine" "cycles" "I" ∈ fb_all := fb_mc fb_s2 107 rfl rfl
theorem fw_539 : Cond.fieldLink RX2 66 "FerriteBoard$Machine" "instructions" "I" ∈ fb_all := fb_mc fb_s2 109 rfl rfl
theorem fw_541 : Cond.fieldLink RX2 69 "FerriteBoard$Machine" "callCount" "I" ∈ fb_all := fb_mc fb_s2 111 rfl rfl
theorem fw_543 : Cond.fieldLink RX2 72 "FerriteBoard$Machine" "touches" "I" ∈ fb_all := fb_mc fb_s2 113 rfl rfl
theorem fw_546 : Cond.fieldLink RX2 75 "FerriteBoard$Machine" "nmiWanted" "Z" ∈ fb_all := fb_mc fb_s2 116 rfl rfl
theorem fw_583 : Cond.classLink RX11 60 RX0 ∈ fb_all := fb_mc fb_s2 153 rfl rfl
theorem fw_584 : Cond.instantiable RX0 6 ∈ fb_all := fb_mc fb_s2 154 rfl rfl
theorem fw_586 : Cond.instanceMethod yX0_init ∈ fb_all := fb_mc fb_s2 156 rfl rfl
theorem fw_587 : Cond.code yX0_init cX0_init 1 none ∈ fb_all := fb_mc fb_s2 157 rfl rfl
theorem fw_588 : Cond.methodLink RX0 3 objectInit ∈ fb_all := fb_mc fb_s2 158 rfl rfl
theorem fw_589 : Cond.classLink RX0 9 RX2 ∈ fb_all := fb_mc fb_s2 159 rfl rfl
theorem fw_591 : Cond.fieldLink RX0 12 "FerriteBoard$History" "older" "LFerriteBoard$Machine;" ∈ fb_all := fb_mc fb_s2 161 rfl rfl
theorem fw_592 : Cond.fieldLink RX0 18 "FerriteBoard$History" "newer" "LFerriteBoard$Machine;" ∈ fb_all := fb_mc fb_s2 162 rfl rfl
theorem fw_593 : Cond.fieldLink RX0 21 "FerriteBoard$History" "olderAt" "I" ∈ fb_all := fb_mc fb_s2 163 rfl rfl
theorem fw_594 : Cond.fieldLink RX0 25 "FerriteBoard$History" "newerAt" "I" ∈ fb_all := fb_mc fb_s2 164 rfl rfl
theorem fw_611 : Cond.classLink RX11 67 RX7 ∈ fb_all := fb_mc fb_s2 181 rfl rfl
theorem fw_612 : Cond.instantiable RX7 8 ∈ fb_all := fb_mc fb_s2 182 rfl rfl
theorem fw_614 : Cond.instanceMethod yX7_init ∈ fb_all := fb_mc fb_s2 184 rfl rfl
theorem fw_615 : Cond.code yX7_init cX7_init 1 none ∈ fb_all := fb_mc fb_s2 185 rfl rfl
theorem fw_616 : Cond.methodLink RX7 3 objectInit ∈ fb_all := fb_mc fb_s2 186 rfl rfl
theorem fw_617 : Cond.fieldLink RX7 11 "FerriteBoard$Stops" "breaks" "[I" ∈ fb_all := fb_mc fb_s2 187 rfl rfl
theorem fw_618 : Cond.fieldLink RX7 15 "FerriteBoard$Stops" "skips" "[I" ∈ fb_all := fb_mc fb_s2 188 rfl rfl
theorem fw_621 : Cond.fieldLink RX7 18 "FerriteBoard$Stops" "firsts" "[I" ∈ fb_all := fb_mc fb_s2 191 rfl rfl
theorem fw_622 : Cond.fieldLink RX7 21 "FerriteBoard$Stops" "lasts" "[I" ∈ fb_all := fb_mc fb_s2 192 rfl rfl
theorem fw_623 : Cond.fieldLink RX7 24 "FerriteBoard$Stops" "ways" "[I" ∈ fb_all := fb_mc fb_s2 193 rfl rfl
theorem fw_645 : Cond.classLink RX11 74 RX6 ∈ fb_all := fb_mc fb_s2 215 rfl rfl
theorem fw_646 : Cond.instantiable RX6 5 ∈ fb_all := fb_mc fb_s2 216 rfl rfl
theorem fw_648 : Cond.instanceMethod yX6_init ∈ fb_all := fb_mc fb_s2 218 rfl rfl
theorem fw_649 : Cond.code yX6_init cX6_init 1 none ∈ fb_all := fb_mc fb_s2 219 rfl rfl
theorem fw_650 : Cond.methodLink RX6 3 objectInit ∈ fb_all := fb_mc fb_s2 220 rfl rfl
theorem fw_651 : Cond.fieldLink RX6 9 "FerriteBoard$Reach" "come" "[I" ∈ fb_all := fb_mc fb_s2 221 rfl rfl
theorem fw_652 : Cond.fieldLink RX6 15 "FerriteBoard$Reach" "begins" "[I" ∈ fb_all := fb_mc fb_s2 222 rfl rfl
theorem fw_654 : Cond.fieldLink RX6 18 "FerriteBoard$Reach" "open" "[I" ∈ fb_all := fb_mc fb_s2 224 rfl rfl
theorem fw_655 : Cond.fieldLink RX6 27 "FerriteBoard$Reach" "openCount" "I" ∈ fb_all := fb_mc fb_s2 225 rfl rfl
theorem fw_656 : Cond.fieldLink RX6 31 "FerriteBoard$Reach" "found" "I" ∈ fb_all := fb_mc fb_s2 226 rfl rfl
theorem fw_657 : Cond.fieldLink RX11 396 "FerriteBoard$Reach" "found" "I" ∈ fb_all := fb_mc fb_s2 227 rfl rfl
theorem fw_669 : Cond.methodLink RX11 81 yX2_restart ∈ fb_all := fb_mc fb_s2 239 rfl rfl
theorem fw_670 : Cond.instanceMethod yX2_restart ∈ fb_all := fb_mc fb_s3 0 rfl rfl
theorem fw_671 : Cond.selects RX2 yX2_restart yX2_restart ∈ fb_all := fb_mc fb_s3 1 rfl rfl
theorem fw_672 : Cond.code yX2_restart cX2_restart 1 none ∈ fb_all := fb_mc fb_s3 2 rfl rfl
theorem fw_673 : Cond.methodLink RX2 31 yJ7_fill_53178 ∈ fb_all := fb_mc fb_s3 3 rfl rfl
theorem fw_674 : Cond.static yJ7_fill_53178 ∈ fb_all := fb_mc fb_s3 4 rfl rfl
theorem fw_675 : Cond.code yJ7_fill_53178 cJ7_fill_53178 4 none ∈ fb_all := fb_mc fb_s3 5 rfl rfl
theorem fw_676 : Cond.methodLink RX2 37 yX5_clear ∈ fb_all := fb_mc fb_s3 6 rfl rfl
theorem fw_677 : Cond.instanceMethod yX5_clear ∈ fb_all := fb_mc fb_s3 7 rfl rfl
theorem fw_678 : Cond.selects RX5 yX5_clear yX5_clear ∈ fb_all := fb_mc fb_s3 8 rfl rfl
theorem fw_679 : Cond.code yX5_clear cX5_clear 1 none ∈ fb_all := fb_mc fb_s3 9 rfl rfl
theorem fw_680 : Cond.methodLink RX2 53 yX2_vector ∈ fb_all := fb_mc fb_s3 10 rfl rfl
theorem fw_681 : Cond.instanceMethod yX2_vector ∈ fb_all := fb_mc fb_s3 11 rfl rfl
theorem fw_682 : Cond.selects RX2 yX2_vector yX2_vector ∈ fb_all := fb_mc fb_s3 12 rfl rfl
theorem fw_683 : Cond.code yX2_vector cX2_vector 3 (some .int) ∈ fb_all := fb_mc fb_s3 13 rfl rfl
theorem fw_685 : Cond.static yX11_at ∈ fb_all := fb_mc fb_s3 15 rfl rfl
theorem fw_686 : Cond.code yX11_at cX11_at 2 (some .int) ∈ fb_all := fb_mc fb_s3 16 rfl rfl
theorem fw_687 : Cond.fieldLink RX11 12 "FerriteBoard" "text" "LFerriteBoard$Text;" ∈ fb_all := fb_mc fb_s3 17 rfl rfl
theorem fw_688 : Cond.fieldLink RX11 19 "FerriteBoard" "names" "LFerriteBoard$Names;" ∈ fb_all := fb_mc fb_s3 18 rfl rfl
theorem fw_689 : Cond.fieldLink RX11 28 "FerriteBoard" "values" "LFerriteBoard$Values;" ∈ fb_all := fb_mc fb_s3 19 rfl rfl
theorem fw_690 : Cond.fieldLink RX11 37 "FerriteBoard" "syntax" "LFerriteBoard$Syntax;" ∈ fb_all := fb_mc fb_s3 20 rfl rfl
theorem fw_691 : Cond.fieldLink RX11 46 "FerriteBoard" "passes" "LFerriteBoard$Passes;" ∈ fb_all := fb_mc fb_s3 21 rfl rfl
theorem fw_692 : Cond.fieldLink RX11 53 "FerriteBoard" "machine" "LFerriteBoard$Machine;" ∈ fb_all := fb_mc fb_s3 22 rfl rfl
theorem fw_693 : Cond.fieldLink RX11 57 "FerriteBoard" "trial" "LFerriteBoard$Machine;" ∈ fb_all := fb_mc fb_s3 23 rfl rfl
theorem fw_694 : Cond.fieldLink RX11 63 "FerriteBoard" "history" "LFerriteBoard$History;" ∈ fb_all := fb_mc fb_s3 24 rfl rfl
theorem fw_695 : Cond.fieldLink RX11 70 "FerriteBoard" "stops" "LFerriteBoard$Stops;" ∈ fb_all := fb_mc fb_s3 25 rfl rfl
theorem fw_696 : Cond.fieldLink RX11 77 "FerriteBoard" "reach" "LFerriteBoard$Reach;" ∈ fb_all := fb_mc fb_s3 26 rfl rfl
theorem fw_755 : Cond.static yX11_put ∈ fb_all := fb_mc fb_s3 85 rfl rfl
theorem fw_756 : Cond.code yX11_put cX11_put 3 none ∈ fb_all := fb_mc fb_s3 86 rfl rfl
theorem fw_1055 : Cond.static yX11_hasMode ∈ fb_all := fb_mc fb_s4 145 rfl rfl
theorem fw_1056 : Cond.code yX11_hasMode cX11_hasMode 3 (some .boolean) ∈ fb_all := fb_mc fb_s4 146 rfl rfl
theorem fw_1058 : Cond.static yX11_lengthOf ∈ fb_all := fb_mc fb_s4 148 rfl rfl
theorem fw_1059 : Cond.code yX11_lengthOf cX11_lengthOf 3 (some .int) ∈ fb_all := fb_mc fb_s4 149 rfl rfl
theorem fw_1060 : Cond.methodLink RX11 419 yX11_hasMode ∈ fb_all := fb_mc fb_s4 150 rfl rfl
theorem fw_1115 : Cond.static yX11_placeOf ∈ fb_all := fb_mc fb_s4 205 rfl rfl
theorem fw_1116 : Cond.code yX11_placeOf cX11_placeOf 2 (some .int) ∈ fb_all := fb_mc fb_s4 206 rfl rfl
theorem fw_1142 : Cond.arrayClass Jvm.ClassFile.FieldType.byte ∈ fb_all := fb_mc fb_s4 232 rfl rfl
theorem fw_1224 : Cond.methodLink RX2 100 yX2_shown ∈ fb_all := fb_mc fb_s5 74 rfl rfl
theorem fw_1225 : Cond.instanceMethod yX2_shown ∈ fb_all := fb_mc fb_s5 75 rfl rfl
theorem fw_1226 : Cond.selects RX2 yX2_shown yX2_shown ∈ fb_all := fb_mc fb_s5 76 rfl rfl
theorem fw_1227 : Cond.code yX2_shown cX2_shown 2 (some .int) ∈ fb_all := fb_mc fb_s5 77 rfl rfl
theorem fw_1289 : Cond.static yX11_signed ∈ fb_all := fb_mc fb_s5 139 rfl rfl
theorem fw_1290 : Cond.code yX11_signed cX11_signed 1 (some .int) ∈ fb_all := fb_mc fb_s5 140 rfl rfl
theorem fw_1509 : Cond.methodLink RL 301 yX11_codes ∈ fb_all := fb_mc fb_s6 119 rfl rfl
theorem fw_1510 : Cond.instanceMethod yX11_codes ∈ fb_all := fb_mc fb_s6 120 rfl rfl
theorem fw_1511 : Cond.selects RX11 yX11_codes yX11_codes ∈ fb_all := fb_mc fb_s6 121 rfl rfl
theorem fw_1512 : Cond.code yX11_codes cX11_codes 1 (some .int) ∈ fb_all := fb_mc fb_s6 122 rfl rfl
theorem fw_1513 : Cond.methodLink RX11 390 yX6_explore ∈ fb_all := fb_mc fb_s6 123 rfl rfl
theorem fw_1514 : Cond.instanceMethod yX6_explore ∈ fb_all := fb_mc fb_s6 124 rfl rfl
theorem fw_1515 : Cond.selects RX6 yX6_explore yX6_explore ∈ fb_all := fb_mc fb_s6 125 rfl rfl
theorem fw_1516 : Cond.code yX6_explore cX6_explore 3 none ∈ fb_all := fb_mc fb_s6 126 rfl rfl
theorem fw_1517 : Cond.methodLink RX6 21 yJ7_fill_53178 ∈ fb_all := fb_mc fb_s6 127 rfl rfl
theorem fw_1518 : Cond.methodLink RX6 39 yX6_comeTo ∈ fb_all := fb_mc fb_s6 128 rfl rfl
theorem fw_1520 : Cond.instanceMethod yX6_comeTo ∈ fb_all := fb_mc fb_s6 130 rfl rfl
theorem fw_1521 : Cond.code yX6_comeTo cX6_comeTo 2 none ∈ fb_all := fb_mc fb_s6 131 rfl rfl
theorem fw_1524 : Cond.methodLink RX6 43 yX2_vector ∈ fb_all := fb_mc fb_s6 134 rfl rfl
theorem fw_1525 : Cond.methodLink RX6 51 yX6_goFrom ∈ fb_all := fb_mc fb_s6 135 rfl rfl
theorem fw_1527 : Cond.instanceMethod yX6_goFrom ∈ fb_all := fb_mc fb_s6 137 rfl rfl
theorem fw_1528 : Cond.code yX6_goFrom cX6_goFrom 8 none ∈ fb_all := fb_mc fb_s6 138 rfl rfl
theorem fw_1529 : Cond.methodLink RX6 59 yX2_shown ∈ fb_all := fb_mc fb_s6 139 rfl rfl
theorem fw_1531 : Cond.methodLink RX6 65 yX2_operand ∈ fb_all := fb_mc fb_s6 141 rfl rfl
theorem fw_1532 : Cond.instanceMethod yX2_operand ∈ fb_all := fb_mc fb_s6 142 rfl rfl
theorem fw_1533 : Cond.selects RX2 yX2_operand yX2_operand ∈ fb_all := fb_mc fb_s6 143 rfl rfl
theorem fw_1534 : Cond.code yX2_operand cX2_operand 4 (some .int) ∈ fb_all := fb_mc fb_s6 144 rfl rfl
theorem fw_1535 : Cond.methodLink RX2 109 yX2_wordAt ∈ fb_all := fb_mc fb_s6 145 rfl rfl
theorem fw_1536 : Cond.instanceMethod yX2_wordAt ∈ fb_all := fb_mc fb_s6 146 rfl rfl
theorem fw_1537 : Cond.selects RX2 yX2_wordAt yX2_wordAt ∈ fb_all := fb_mc fb_s6 147 rfl rfl
theorem fw_1538 : Cond.code yX2_wordAt cX2_wordAt 2 (some .int) ∈ fb_all := fb_mc fb_s6 148 rfl rfl
theorem fw_1933 : Cond.classLink RL 96 RX12 ∈ fb_all := fb_mc fb_s8 63 rfl rfl
theorem fw_1934 : Cond.instantiable RX12 51 ∈ fb_all := fb_mc fb_s8 64 rfl rfl
theorem fw_1935 : Cond.methodLink RL 98 yX12_init ∈ fb_all := fb_mc fb_s8 65 rfl rfl
theorem fw_1936 : Cond.instanceMethod yX12_init ∈ fb_all := fb_mc fb_s8 66 rfl rfl
theorem fw_1937 : Cond.code yX12_init cX12_init 1 none ∈ fb_all := fb_mc fb_s8 67 rfl rfl
theorem fw_1938 : Cond.methodLink RX12 3 objectInit ∈ fb_all := fb_mc fb_s8 68 rfl rfl
theorem fw_1939 : Cond.classLink RX12 13 "[I" ∈ fb_all := fb_mc fb_s8 69 rfl rfl
theorem fw_1941 : Cond.methodLink RX12 90 yX12_start ∈ fb_all := fb_mc fb_s8 71 rfl rfl
theorem fw_1943 : Cond.instanceMethod yX12_start ∈ fb_all := fb_mc fb_s8 73 rfl rfl
theorem fw_1944 : Cond.code yX12_start cX12_start 6 none ∈ fb_all := fb_mc fb_s8 74 rfl rfl
theorem fw_1945 : Cond.methodLink RX12 275 yX12_vector ∈ fb_all := fb_mc fb_s8 75 rfl rfl
theorem fw_1947 : Cond.instanceMethod yX12_vector ∈ fb_all := fb_mc fb_s8 77 rfl rfl
theorem fw_1948 : Cond.code yX12_vector cX12_vector 2 (some .int) ∈ fb_all := fb_mc fb_s8 78 rfl rfl
theorem fw_1949 : Cond.methodLink RX12 125 yX12_code ∈ fb_all := fb_mc fb_s8 79 rfl rfl
theorem fw_1951 : Cond.instanceMethod yX12_code ∈ fb_all := fb_mc fb_s8 81 rfl rfl
theorem fw_1952 : Cond.code yX12_code cX12_code 2 (some .int) ∈ fb_all := fb_mc fb_s8 82 rfl rfl
theorem fw_1953 : Cond.methodLink RX12 117 yX12_isPort ∈ fb_all := fb_mc fb_s8 83 rfl rfl
theorem fw_1954 : Cond.static yX12_isPort ∈ fb_all := fb_mc fb_s8 84 rfl rfl
theorem fw_1955 : Cond.code yX12_isPort cX12_isPort 1 (some .boolean) ∈ fb_all := fb_mc fb_s8 85 rfl rfl
theorem fw_1956 : Cond.methodLink RX12 121 yX12_place ∈ fb_all := fb_mc fb_s8 86 rfl rfl
theorem fw_1958 : Cond.instanceMethod yX12_place ∈ fb_all := fb_mc fb_s8 88 rfl rfl
theorem fw_1959 : Cond.code yX12_place cX12_place 2 (some .int) ∈ fb_all := fb_mc fb_s8 89 rfl rfl
theorem fw_1960 : Cond.methodLink RX12 281 yX12_forget ∈ fb_all := fb_mc fb_s8 90 rfl rfl
theorem fw_1962 : Cond.instanceMethod yX12_forget ∈ fb_all := fb_mc fb_s8 92 rfl rfl
theorem fw_1963 : Cond.code yX12_forget cX12_forget 1 none ∈ fb_all := fb_mc fb_s8 93 rfl rfl
theorem fw_1964 : Cond.fieldLink RX12 9 "FerriteBoardModel" "m" "[I" ∈ fb_all := fb_mc fb_s8 94 rfl rfl
theorem fw_1965 : Cond.fieldLink RX12 14 "FerriteBoardModel" "history" "[[I" ∈ fb_all := fb_mc fb_s8 95 rfl rfl
theorem fw_1966 : Cond.fieldLink RX12 272 "FerriteBoardModel" "steps" "I" ∈ fb_all := fb_mc fb_s8 96 rfl rfl
theorem fw_1967 : Cond.fieldLink RX12 18 "FerriteBoardModel" "log" "[I" ∈ fb_all := fb_mc fb_s8 97 rfl rfl
theorem fw_1972 : Cond.fieldLink RX12 21 "FerriteBoardModel" "asked" "I" ∈ fb_all := fb_mc fb_s8 102 rfl rfl
theorem fw_1974 : Cond.fieldLink RX12 278 "FerriteBoardModel" "stopped" "I" ∈ fb_all := fb_mc fb_s8 104 rfl rfl
theorem fw_1975 : Cond.fieldLink RX12 25 "FerriteBoardModel" "breaks" "[I" ∈ fb_all := fb_mc fb_s8 105 rfl rfl
theorem fw_1976 : Cond.fieldLink RX12 28 "FerriteBoardModel" "skips" "[I" ∈ fb_all := fb_mc fb_s8 106 rfl rfl
theorem fw_1978 : Cond.fieldLink RX12 31 "FerriteBoardModel" "low" "[I" ∈ fb_all := fb_mc fb_s8 108 rfl rfl
theorem fw_1979 : Cond.fieldLink RX12 34 "FerriteBoardModel" "top" "[I" ∈ fb_all := fb_mc fb_s8 109 rfl rfl
theorem fw_1980 : Cond.fieldLink RX12 37 "FerriteBoardModel" "onRead" "[Z" ∈ fb_all := fb_mc fb_s8 110 rfl rfl
theorem fw_1981 : Cond.fieldLink RX12 41 "FerriteBoardModel" "onWrite" "[Z" ∈ fb_all := fb_mc fb_s8 111 rfl rfl
theorem fw_1983 : Cond.fieldLink RX12 93 "FerriteBoardModel" "thrown" "I" ∈ fb_all := fb_mc fb_s8 113 rfl rfl
theorem fw_1984 : Cond.fieldLink RX12 44 "FerriteBoardModel" "tape" "[B" ∈ fb_all := fb_mc fb_s8 114 rfl rfl
theorem fw_1986 : Cond.fieldLink RX12 48 "FerriteBoardModel" "kind" "[I" ∈ fb_all := fb_mc fb_s8 116 rfl rfl
theorem fw_1987 : Cond.fieldLink RX12 51 "FerriteBoardModel" "value" "[I" ∈ fb_all := fb_mc fb_s8 117 rfl rfl
theorem fw_1988 : Cond.fieldLink RX12 54 "FerriteBoardModel" "from" "[I" ∈ fb_all := fb_mc fb_s8 118 rfl rfl
theorem fw_1989 : Cond.fieldLink RX12 57 "FerriteBoardModel" "to" "[I" ∈ fb_all := fb_mc fb_s8 119 rfl rfl
theorem fw_1992 : Cond.fieldLink RX12 60 "FerriteBoardModel" "errorAt" "I" ∈ fb_all := fb_mc fb_s8 122 rfl rfl
theorem fw_1996 : Cond.fieldLink RX12 63 "FerriteBoardModel" "nameAt" "[I" ∈ fb_all := fb_mc fb_s8 126 rfl rfl
theorem fw_1997 : Cond.fieldLink RX12 66 "FerriteBoardModel" "nameValue" "[I" ∈ fb_all := fb_mc fb_s8 127 rfl rfl
theorem fw_2002 : Cond.fieldLink RX12 69 "FerriteBoardModel" "formOf" "[I" ∈ fb_all := fb_mc fb_s8 132 rfl rfl
theorem fw_2003 : Cond.fieldLink RX12 72 "FerriteBoardModel" "isLeft" "[Z" ∈ fb_all := fb_mc fb_s8 133 rfl rfl
theorem fw_2004 : Cond.fieldLink RX12 75 "FerriteBoardModel" "open" "[I" ∈ fb_all := fb_mc fb_s8 134 rfl rfl
theorem fw_2009 : Cond.fieldLink RX12 78 "FerriteBoardModel" "made" "[I" ∈ fb_all := fb_mc fb_s8 139 rfl rfl
theorem fw_2010 : Cond.fieldLink RX12 81 "FerriteBoardModel" "lineAt" "[I" ∈ fb_all := fb_mc fb_s8 140 rfl rfl
theorem fw_2011 : Cond.fieldLink RX12 84 "FerriteBoardModel" "newLine" "[I" ∈ fb_all := fb_mc fb_s8 141 rfl rfl
theorem fw_2012 : Cond.fieldLink RX12 87 "FerriteBoardModel" "names2" "[I" ∈ fb_all := fb_mc fb_s8 142 rfl rfl
theorem fw_2118 : Cond.arrayClass Jvm.ClassFile.FieldType.boolean ∈ fb_all := fb_mc fb_s9 8 rfl rfl
theorem fw_2147 : Cond.methodLink RX12 96 yX12_isIn ∈ fb_all := fb_mc fb_s9 37 rfl rfl
theorem fw_2148 : Cond.static yX12_isIn ∈ fb_all := fb_mc fb_s9 38 rfl rfl
theorem fw_2149 : Cond.code yX12_isIn cX12_isIn 3 (some .boolean) ∈ fb_all := fb_mc fb_s9 39 rfl rfl
theorem fw_2296 : Cond.methodLink RX12 182 yX12_modesFrom ∈ fb_all := fb_mc fb_s9 186 rfl rfl
theorem fw_2297 : Cond.static yX12_modesFrom ∈ fb_all := fb_mc fb_s9 187 rfl rfl
theorem fw_2298 : Cond.code yX12_modesFrom cX12_modesFrom 1 (some .int) ∈ fb_all := fb_mc fb_s9 188 rfl rfl
theorem fw_2299 : Cond.methodLink RX12 185 yX12_modesTo ∈ fb_all := fb_mc fb_s9 189 rfl rfl
theorem fw_2300 : Cond.static yX12_modesTo ∈ fb_all := fb_mc fb_s9 190 rfl rfl
theorem fw_2301 : Cond.code yX12_modesTo cX12_modesTo 1 (some .int) ∈ fb_all := fb_mc fb_s9 191 rfl rfl
theorem fw_2492 : Cond.methodLink RX12 253 yX12_isInstruction ∈ fb_all := fb_mc fb_s10 142 rfl rfl
theorem fw_2493 : Cond.static yX12_isInstruction ∈ fb_all := fb_mc fb_s10 143 rfl rfl
theorem fw_2494 : Cond.code yX12_isInstruction cX12_isInstruction 3 (some .boolean) ∈ fb_all := fb_mc fb_s10 144 rfl rfl
theorem fw_2499 : Cond.methodLink RX12 228 yX12_length ∈ fb_all := fb_mc fb_s10 149 rfl rfl
theorem fw_2500 : Cond.static yX12_length ∈ fb_all := fb_mc fb_s10 150 rfl rfl
theorem fw_2501 : Cond.code yX12_length cX12_length 3 (some .int) ∈ fb_all := fb_mc fb_s10 151 rfl rfl
theorem fw_2767 : Cond.methodLink RX12 550 yX12_reached ∈ fb_all := fb_mc fb_s11 177 rfl rfl
theorem fw_2769 : Cond.instanceMethod yX12_reached ∈ fb_all := fb_mc fb_s11 179 rfl rfl
theorem fw_2770 : Cond.code yX12_reached cX12_reached 14 (some (.array .boolean)) ∈ fb_all := fb_mc fb_s11 180 rfl rfl
theorem fw_2771 : Cond.methodLink RL 304 yX12_codes ∈ fb_all := fb_mc fb_s11 181 rfl rfl
theorem fw_2772 : Cond.instanceMethod yX12_codes ∈ fb_all := fb_mc fb_s11 182 rfl rfl
theorem fw_2773 : Cond.selects RX12 yX12_codes yX12_codes ∈ fb_all := fb_mc fb_s11 183 rfl rfl
theorem fw_2774 : Cond.code yX12_codes cX12_codes 1 (some .int) ∈ fb_all := fb_mc fb_s11 184 rfl rfl
theorem fw_2775 : Cond.methodLink RX12 554 yX12_reachable ∈ fb_all := fb_mc fb_s11 185 rfl rfl
theorem fw_2777 : Cond.instanceMethod yX12_reachable ∈ fb_all := fb_mc fb_s11 187 rfl rfl
theorem fw_2778 : Cond.code yX12_reachable cX12_reachable 6 (some .int) ∈ fb_all := fb_mc fb_s11 188 rfl rfl
theorem fu_X0 : ∀ w ∈ u_ws RX0 TX0 6, w ∈ fb_all := fb_fu fun k hk => match k, hk with
  | 0, _ => fb_mc fb_s2 168 rfl rfl
  | 1, _ => fb_mc fb_s2 170 rfl rfl
  | 2, _ => fb_mc fb_s2 172 rfl rfl
  | 3, _ => fb_mc fb_s2 174 rfl rfl
  | 4, _ => fb_mc fb_s2 176 rfl rfl
  | 5, _ => fb_mc fb_s2 178 rfl rfl
  | k + 6, hk => absurd hk (by omega)
theorem fu_X1 : ∀ w ∈ u_ws RX1 TX1 9, w ∈ fb_all := fb_fu fun k hk => match k, hk with
  | 0, _ => fb_mc fb_s1 166 rfl rfl
  | 1, _ => fb_mc fb_s1 168 rfl rfl
  | 2, _ => fb_mc fb_s1 170 rfl rfl
  | 3, _ => fb_mc fb_s1 172 rfl rfl
  | 4, _ => fb_mc fb_s1 174 rfl rfl
  | 5, _ => fb_mc fb_s1 176 rfl rfl
  | 6, _ => fb_mc fb_s1 178 rfl rfl
  | 7, _ => fb_mc fb_s1 180 rfl rfl
  | 8, _ => fb_mc fb_s1 182 rfl rfl
  | k + 9, hk => absurd hk (by omega)
theorem fu_X2 : ∀ w ∈ u_ws RX2 TX2 17, w ∈ fb_all := fb_fu fun k hk => match k, hk with
  | 0, _ => fb_mc fb_s2 118 rfl rfl
  | 1, _ => fb_mc fb_s2 120 rfl rfl
  | 2, _ => fb_mc fb_s2 122 rfl rfl
  | 3, _ => fb_mc fb_s2 124 rfl rfl
  | 4, _ => fb_mc fb_s2 126 rfl rfl
  | 5, _ => fb_mc fb_s2 128 rfl rfl
  | 6, _ => fb_mc fb_s2 130 rfl rfl
  | 7, _ => fb_mc fb_s2 132 rfl rfl
  | 8, _ => fb_mc fb_s2 134 rfl rfl
  | 9, _ => fb_mc fb_s2 136 rfl rfl
  | 10, _ => fb_mc fb_s2 138 rfl rfl
  | 11, _ => fb_mc fb_s2 140 rfl rfl
  | 12, _ => fb_mc fb_s2 142 rfl rfl
  | 13, _ => fb_mc fb_s2 144 rfl rfl
  | 14, _ => fb_mc fb_s2 146 rfl rfl
  | 15, _ => fb_mc fb_s2 148 rfl rfl
  | 16, _ => fb_mc fb_s2 150 rfl rfl
  | k + 17, hk => absurd hk (by omega)
theorem fu_X3 : ∀ w ∈ u_ws RX3 TX3 5, w ∈ fb_all := fb_fu fun k hk => match k, hk with
  | 0, _ => fb_mc fb_s1 87 rfl rfl
  | 1, _ => fb_mc fb_s1 89 rfl rfl
  | 2, _ => fb_mc fb_s1 91 rfl rfl
  | 3, _ => fb_mc fb_s1 93 rfl rfl
  | 4, _ => fb_mc fb_s1 95 rfl rfl
  | k + 5, hk => absurd hk (by omega)
theorem fu_X4 : ∀ w ∈ u_ws RX4 TX4 15, w ∈ fb_all := fb_fu fun k hk => match k, hk with
  | 0, _ => fb_mc fb_s1 227 rfl rfl
  | 1, _ => fb_mc fb_s1 229 rfl rfl
  | 2, _ => fb_mc fb_s1 231 rfl rfl
  | 3, _ => fb_mc fb_s1 233 rfl rfl
  | 4, _ => fb_mc fb_s1 235 rfl rfl
  | 5, _ => fb_mc fb_s1 237 rfl rfl
  | 6, _ => fb_mc fb_s1 239 rfl rfl
  | 7, _ => fb_mc fb_s2 1 rfl rfl
  | 8, _ => fb_mc fb_s2 3 rfl rfl
  | 9, _ => fb_mc fb_s2 5 rfl rfl
  | 10, _ => fb_mc fb_s2 7 rfl rfl
  | 11, _ => fb_mc fb_s2 9 rfl rfl
  | 12, _ => fb_mc fb_s2 11 rfl rfl
  | 13, _ => fb_mc fb_s2 13 rfl rfl
  | 14, _ => fb_mc fb_s2 15 rfl rfl
  | k + 15, hk => absurd hk (by omega)
theorem fu_X5 : ∀ w ∈ u_ws RX5 TX5 14, w ∈ fb_all := fb_fu fun k hk => match k, hk with
  | 0, _ => fb_mc fb_s2 55 rfl rfl
  | 1, _ => fb_mc fb_s2 57 rfl rfl
  | 2, _ => fb_mc fb_s2 59 rfl rfl
  | 3, _ => fb_mc fb_s2 61 rfl rfl
  | 4, _ => fb_mc fb_s2 63 rfl rfl
  | 5, _ => fb_mc fb_s2 65 rfl rfl
  | 6, _ => fb_mc fb_s2 67 rfl rfl
  | 7, _ => fb_mc fb_s2 69 rfl rfl
  | 8, _ => fb_mc fb_s2 71 rfl rfl
  | 9, _ => fb_mc fb_s2 73 rfl rfl
  | 10, _ => fb_mc fb_s2 75 rfl rfl
  | 11, _ => fb_mc fb_s2 77 rfl rfl
  | 12, _ => fb_mc fb_s2 79 rfl rfl
  | 13, _ => fb_mc fb_s2 81 rfl rfl
  | k + 14, hk => absurd hk (by omega)
theorem fu_X6 : ∀ w ∈ u_ws RX6 TX6 5, w ∈ fb_all := fb_fu fun k hk => match k, hk with
  | 0, _ => fb_mc fb_s2 228 rfl rfl
  | 1, _ => fb_mc fb_s2 230 rfl rfl
  | 2, _ => fb_mc fb_s2 232 rfl rfl
  | 3, _ => fb_mc fb_s2 234 rfl rfl
  | 4, _ => fb_mc fb_s2 236 rfl rfl
  | k + 5, hk => absurd hk (by omega)
theorem fu_X7 : ∀ w ∈ u_ws RX7 TX7 8, w ∈ fb_all := fb_fu fun k hk => match k, hk with
  | 0, _ => fb_mc fb_s2 198 rfl rfl
  | 1, _ => fb_mc fb_s2 200 rfl rfl
  | 2, _ => fb_mc fb_s2 202 rfl rfl
  | 3, _ => fb_mc fb_s2 204 rfl rfl
  | 4, _ => fb_mc fb_s2 206 rfl rfl
  | 5, _ => fb_mc fb_s2 208 rfl rfl
  | 6, _ => fb_mc fb_s2 210 rfl rfl
  | 7, _ => fb_mc fb_s2 212 rfl rfl
  | k + 8, hk => absurd hk (by omega)
theorem fu_X8 : ∀ w ∈ u_ws RX8 TX8 5, w ∈ fb_all := fb_fu fun k hk => match k, hk with
  | 0, _ => fb_mc fb_s1 191 rfl rfl
  | 1, _ => fb_mc fb_s1 193 rfl rfl
  | 2, _ => fb_mc fb_s1 195 rfl rfl
  | 3, _ => fb_mc fb_s1 197 rfl rfl
  | 4, _ => fb_mc fb_s1 199 rfl rfl
  | k + 5, hk => absurd hk (by omega)
theorem fu_X9 : ∀ w ∈ u_ws RX9 TX9 6, w ∈ fb_all := fb_fu fun k hk => match k, hk with
  | 0, _ => fb_mc fb_s1 58 rfl rfl
  | 1, _ => fb_mc fb_s1 60 rfl rfl
  | 2, _ => fb_mc fb_s1 62 rfl rfl
  | 3, _ => fb_mc fb_s1 64 rfl rfl
  | 4, _ => fb_mc fb_s1 66 rfl rfl
  | 5, _ => fb_mc fb_s1 68 rfl rfl
  | k + 6, hk => absurd hk (by omega)
theorem fu_X10 : ∀ w ∈ u_ws RX10 TX10 7, w ∈ fb_all := fb_fu fun k hk => match k, hk with
  | 0, _ => fb_mc fb_s1 115 rfl rfl
  | 1, _ => fb_mc fb_s1 117 rfl rfl
  | 2, _ => fb_mc fb_s1 119 rfl rfl
  | 3, _ => fb_mc fb_s1 121 rfl rfl
  | 4, _ => fb_mc fb_s1 123 rfl rfl
  | 5, _ => fb_mc fb_s1 125 rfl rfl
  | 6, _ => fb_mc fb_s1 127 rfl rfl
  | k + 7, hk => absurd hk (by omega)
theorem fu_X11 : ∀ w ∈ u_ws RX11 TX11 10, w ∈ fb_all := fb_fu fun k hk => match k, hk with
  | 0, _ => fb_mc fb_s3 27 rfl rfl
  | 1, _ => fb_mc fb_s3 29 rfl rfl
  | 2, _ => fb_mc fb_s3 31 rfl rfl
  | 3, _ => fb_mc fb_s3 33 rfl rfl
  | 4, _ => fb_mc fb_s3 35 rfl rfl
  | 5, _ => fb_mc fb_s3 37 rfl rfl
  | 6, _ => fb_mc fb_s3 39 rfl rfl
  | 7, _ => fb_mc fb_s3 41 rfl rfl
  | 8, _ => fb_mc fb_s3 43 rfl rfl
  | 9, _ => fb_mc fb_s3 45 rfl rfl
  | k + 10, hk => absurd hk (by omega)
theorem fu_X12 : ∀ w ∈ u_ws RX12 TX12 51, w ∈ fb_all := fb_fu fun k hk => match k, hk with
  | 0, _ => fb_mc fb_s8 145 rfl rfl
  | 1, _ => fb_mc fb_s8 147 rfl rfl
  | 2, _ => fb_mc fb_s8 149 rfl rfl
  | 3, _ => fb_mc fb_s8 151 rfl rfl
  | 4, _ => fb_mc fb_s8 153 rfl rfl
  | 5, _ => fb_mc fb_s8 155 rfl rfl
  | 6, _ => fb_mc fb_s8 157 rfl rfl
  | 7, _ => fb_mc fb_s8 159 rfl rfl
  | 8, _ => fb_mc fb_s8 161 rfl rfl
  | 9, _ => fb_mc fb_s8 163 rfl rfl
  | 10, _ => fb_mc fb_s8 165 rfl rfl
  | 11, _ => fb_mc fb_s8 167 rfl rfl
  | 12, _ => fb_mc fb_s8 169 rfl rfl
  | 13, _ => fb_mc fb_s8 171 rfl rfl
  | 14, _ => fb_mc fb_s8 173 rfl rfl
  | 15, _ => fb_mc fb_s8 175 rfl rfl
  | 16, _ => fb_mc fb_s8 177 rfl rfl
  | 17, _ => fb_mc fb_s8 179 rfl rfl
  | 18, _ => fb_mc fb_s8 181 rfl rfl
  | 19, _ => fb_mc fb_s8 183 rfl rfl
  | 20, _ => fb_mc fb_s8 185 rfl rfl
  | 21, _ => fb_mc fb_s8 187 rfl rfl
  | 22, _ => fb_mc fb_s8 189 rfl rfl
  | 23, _ => fb_mc fb_s8 191 rfl rfl
  | 24, _ => fb_mc fb_s8 193 rfl rfl
  | 25, _ => fb_mc fb_s8 195 rfl rfl
  | 26, _ => fb_mc fb_s8 197 rfl rfl
  | 27, _ => fb_mc fb_s8 199 rfl rfl
  | 28, _ => fb_mc fb_s8 201 rfl rfl
  | 29, _ => fb_mc fb_s8 203 rfl rfl
  | 30, _ => fb_mc fb_s8 205 rfl rfl
  | 31, _ => fb_mc fb_s8 207 rfl rfl
  | 32, _ => fb_mc fb_s8 209 rfl rfl
  | 33, _ => fb_mc fb_s8 211 rfl rfl
  | 34, _ => fb_mc fb_s8 213 rfl rfl
  | 35, _ => fb_mc fb_s8 215 rfl rfl
  | 36, _ => fb_mc fb_s8 217 rfl rfl
  | 37, _ => fb_mc fb_s8 219 rfl rfl
  | 38, _ => fb_mc fb_s8 221 rfl rfl
  | 39, _ => fb_mc fb_s8 223 rfl rfl
  | 40, _ => fb_mc fb_s8 225 rfl rfl
  | 41, _ => fb_mc fb_s8 227 rfl rfl
  | 42, _ => fb_mc fb_s8 229 rfl rfl
  | 43, _ => fb_mc fb_s8 231 rfl rfl
  | 44, _ => fb_mc fb_s8 233 rfl rfl
  | 45, _ => fb_mc fb_s8 235 rfl rfl
  | 46, _ => fb_mc fb_s8 237 rfl rfl
  | 47, _ => fb_mc fb_s8 239 rfl rfl
  | 48, _ => fb_mc fb_s9 1 rfl rfl
  | 49, _ => fb_mc fb_s9 3 rfl rfl
  | 50, _ => fb_mc fb_s9 5 rfl rfl
  | k + 51, hk => absurd hk (by omega)
end
section
theorem dX0_init_0 : decode cX0_init 0 = .ok (.aload_n 0, 1) := by decide +kernel
theorem dX0_init_1 : decode cX0_init 1 = .ok (.invokespecial 3, 3) := by decide +kernel
theorem dX0_init_4 : decode cX0_init 4 = .ok (.aload_n 0, 1) := by decide +kernel
theorem dX0_init_5 : decode cX0_init 5 = .ok (.new 9, 3) := by decide +kernel
theorem dX0_init_8 : decode cX0_init 8 = .ok (.dup, 1) := by decide +kernel
theorem dX0_init_9 : decode cX0_init 9 = .ok (.invokespecial 11, 3) := by decide +kernel
theorem dX0_init_12 : decode cX0_init 12 = .ok (.putfield 12, 3) := by decide +kernel
theorem dX0_init_15 : decode cX0_init 15 = .ok (.aload_n 0, 1) := by decide +kernel
theorem dX0_init_16 : decode cX0_init 16 = .ok (.new 9, 3) := by decide +kernel
theorem dX0_init_19 : decode cX0_init 19 = .ok (.dup, 1) := by decide +kernel
theorem dX0_init_20 : decode cX0_init 20 = .ok (.invokespecial 11, 3) := by decide +kernel
theorem dX0_init_23 : decode cX0_init 23 = .ok (.putfield 18, 3) := by decide +kernel
theorem dX0_init_26 : decode cX0_init 26 = .ok (.aload_n 0, 1) := by decide +kernel
theorem dX0_init_27 : decode cX0_init 27 = .ok (.iconst (-1), 1) := by decide +kernel
theorem dX0_init_28 : decode cX0_init 28 = .ok (.putfield 21, 3) := by decide +kernel
theorem dX0_init_31 : decode cX0_init 31 = .ok (.aload_n 0, 1) := by decide +kernel
theorem dX0_init_32 : decode cX0_init 32 = .ok (.iconst (-1), 1) := by decide +kernel
theorem dX0_init_33 : decode cX0_init 33 = .ok (.putfield 25, 3) := by decide +kernel
theorem dX0_init_36 : decode cX0_init 36 = .ok (.return_, 1) := by decide +kernel
theorem dX1_init_0 : decode cX1_init 0 = .ok (.aload_n 0, 1) := by decide +kernel
theorem dX1_init_1 : decode cX1_init 1 = .ok (.invokespecial 3, 3) := by decide +kernel
theorem dX1_init_4 : decode cX1_init 4 = .ok (.return_, 1) := by decide +kernel
theorem dX2_init_0 : decode cX2_init 0 = .ok (.aload_n 0, 1) := by decide +kernel
theorem dX2_init_1 : decode cX2_init 1 = .ok (.invokespecial 3, 3) := by decide +kernel
theorem dX2_init_4 : decode cX2_init 4 = .ok (.aload_n 0, 1) := by decide +kernel
theorem dX2_init_5 : decode cX2_init 5 = .ok (.sipush 11008, 3) := by decide +kernel
theorem dX2_init_8 : decode cX2_init 8 = .ok (.newarray .int, 2) := by decide +kernel
theorem dX2_init_10 : decode cX2_init 10 = .ok (.putfield 9, 3) := by decide +kernel
theorem dX2_init_13 : decode cX2_init 13 = .ok (.aload_n 0, 1) := by decide +kernel
theorem dX2_init_14 : decode cX2_init 14 = .ok (.sipush 4096, 3) := by decide +kernel
theorem dX2_init_17 : decode cX2_init 17 = .ok (.newarray .int, 2) := by decide +kernel
theorem dX2_init_19 : decode cX2_init 19 = .ok (.putfield 15, 3) := by decide +kernel
theorem dX2_init_22 : decode cX2_init 22 = .ok (.aload_n 0, 1) := by decide +kernel
theorem dX2_init_23 : decode cX2_init 23 = .ok (.bipush 40, 2) := by decide +kernel
theorem dX2_init_25 : decode cX2_init 25 = .ok (.newarray .int, 2) := by decide +kernel
theorem dX2_init_27 : decode cX2_init 27 = .ok (.putfield 18, 3) := by decide +kernel
theorem dX2_init_30 : decode cX2_init 30 = .ok (.aload_n 0, 1) := by decide +kernel
theorem dX2_init_31 : decode cX2_init 31 = .ok (.bipush 8, 2) := by decide +kernel
theorem dX2_init_33 : decode cX2_init 33 = .ok (.newarray .int, 2) := by decide +kernel
theorem dX2_init_35 : decode cX2_init 35 = .ok (.putfield 21, 3) := by decide +kernel
theorem dX2_init_38 : decode cX2_init 38 = .ok (.aload_n 0, 1) := by decide +kernel
theorem dX2_init_39 : decode cX2_init 39 = .ok (.new 24, 3) := by decide +kernel
theorem dX2_init_42 : decode cX2_init 42 = .ok (.dup, 1) := by decide +kernel
theorem dX2_init_43 : decode cX2_init 43 = .ok (.invokespecial 26, 3) := by decide +kernel
theorem dX2_init_46 : decode cX2_init 46 = .ok (.putfield 27, 3) := by decide +kernel
theorem dX2_init_49 : decode cX2_init 49 = .ok (.return_, 1) := by decide +kernel
theorem dX2_restart_0 : decode cX2_restart 0 = .ok (.aload_n 0, 1) := by decide +kernel
theorem dX2_restart_1 : decode cX2_restart 1 = .ok (.getfield 15, 3) := by decide +kernel
theorem dX2_restart_4 : decode cX2_restart 4 = .ok (.iconst 0, 1) := by decide +kernel
theorem dX2_restart_5 : decode cX2_restart 5 = .ok (.invokestatic 31, 3) := by decide +kernel
theorem dX2_restart_8 : decode cX2_restart 8 = .ok (.aload_n 0, 1) := by decide +kernel
theorem dX2_restart_9 : decode cX2_restart 9 = .ok (.getfield 27, 3) := by decide +kernel
theorem dX2_restart_12 : decode cX2_restart 12 = .ok (.invokevirtual 37, 3) := by decide +kernel
theorem dX2_restart_15 : decode cX2_restart 15 = .ok (.aload_n 0, 1) := by decide +kernel
theorem dX2_restart_16 : decode cX2_restart 16 = .ok (.iconst 0, 1) := by decide +kernel
theorem dX2_restart_17 : decode cX2_restart 17 = .ok (.putfield 40, 3) := by decide +kernel
theorem dX2_restart_20 : decode cX2_restart 20 = .ok (.aload_n 0, 1) := by decide +kernel
theorem dX2_restart_21 : decode cX2_restart 21 = .ok (.iconst 0, 1) := by decide +kernel
theorem dX2_restart_22 : decode cX2_restart 22 = .ok (.putfield 44, 3) := by decide +kernel
theorem dX2_restart_25 : decode cX2_restart 25 = .ok (.aload_n 0, 1) := by decide +kernel
theorem dX2_restart_26 : decode cX2_restart 26 = .ok (.sipush 255, 3) := by decide +kernel
theorem dX2_restart_29 : decode cX2_restart 29 = .ok (.putfield 47, 3) := by decide +kernel
theorem dX2_restart_32 : decode cX2_restart 32 = .ok (.aload_n 0, 1) := by decide +kernel
theorem dX2_restart_33 : decode cX2_restart 33 = .ok (.iconst 4, 1) := by decide +kernel
theorem dX2_restart_34 : decode cX2_restart 34 = .ok (.putfield 50, 3) := by decide +kernel
theorem dX2_restart_37 : decode cX2_restart 37 = .ok (.aload_n 0, 1) := by decide +kernel
theorem dX2_restart_38 : decode cX2_restart 38 = .ok (.aload_n 0, 1) := by decide +kernel
theorem dX2_restart_39 : decode cX2_restart 39 = .ok (.iconst 0, 1) := by decide +kernel
theorem dX2_restart_40 : decode cX2_restart 40 = .ok (.invokevirtual 53, 3) := by decide +kernel
theorem dX2_restart_43 : decode cX2_restart 43 = .ok (.putfield 57, 3) := by decide +kernel
theorem dX2_restart_46 : decode cX2_restart 46 = .ok (.aload_n 0, 1) := by decide +kernel
theorem dX2_restart_47 : decode cX2_restart 47 = .ok (.iconst 0, 1) := by decide +kernel
theorem dX2_restart_48 : decode cX2_restart 48 = .ok (.putfield 60, 3) := by decide +kernel
theorem dX2_restart_51 : decode cX2_restart 51 = .ok (.aload_n 0, 1) := by decide +kernel
theorem dX2_restart_52 : decode cX2_restart 52 = .ok (.iconst 0, 1) := by decide +kernel
theorem dX2_restart_53 : decode cX2_restart 53 = .ok (.putfield 63, 3) := by decide +kernel
theorem dX2_restart_56 : decode cX2_restart 56 = .ok (.aload_n 0, 1) := by decide +kernel
theorem dX2_restart_57 : decode cX2_restart 57 = .ok (.iconst 0, 1) := by decide +kernel
theorem dX2_restart_58 : decode cX2_restart 58 = .ok (.putfield 66, 3) := by decide +kernel
theorem dX2_restart_61 : decode cX2_restart 61 = .ok (.aload_n 0, 1) := by decide +kernel
theorem dX2_restart_62 : decode cX2_restart 62 = .ok (.iconst 0, 1) := by decide +kernel
theorem dX2_restart_63 : decode cX2_restart 63 = .ok (.putfield 69, 3) := by decide +kernel
theorem dX2_restart_66 : decode cX2_restart 66 = .ok (.aload_n 0, 1) := by decide +kernel
theorem dX2_restart_67 : decode cX2_restart 67 = .ok (.iconst 0, 1) := by decide +kernel
theorem dX2_restart_68 : decode cX2_restart 68 = .ok (.putfield 72, 3) := by decide +kernel
theorem dX2_restart_71 : decode cX2_restart 71 = .ok (.aload_n 0, 1) := by decide +kernel
theorem dX2_restart_72 : decode cX2_restart 72 = .ok (.iconst 0, 1) := by decide +kernel
theorem dX2_restart_73 : decode cX2_restart 73 = .ok (.putfield 75, 3) := by decide +kernel
theorem dX2_restart_76 : decode cX2_restart 76 = .ok (.return_, 1) := by decide +kernel
theorem dX2_shown_0 : decode cX2_shown 0 = .ok (.aload_n 0, 1) := by decide +kernel
theorem dX2_shown_1 : decode cX2_shown 1 = .ok (.getfield 9, 3) := by decide +kernel
theorem dX2_shown_4 : decode cX2_shown 4 = .ok (.iload_n 1, 1) := by decide +kernel
theorem dX2_shown_5 : decode cX2_shown 5 = .ok (.sipush 4095, 3) := by decide +kernel
theorem dX2_shown_8 : decode cX2_shown 8 = .ok (.iand, 1) := by decide +kernel
theorem dX2_shown_9 : decode cX2_shown 9 = .ok (.aload_n 0, 1) := by decide +kernel
theorem dX2_shown_10 : decode cX2_shown 10 = .ok (.getfield 27, 3) := by decide +kernel
theorem dX2_shown_13 : decode cX2_shown 13 = .ok (.getfield 89, 3) := by decide +kernel
theorem dX2_shown_16 : decode cX2_shown 16 = .ok (.invokestatic 92, 3) := by decide +kernel
theorem dX2_shown_19 : decode cX2_shown 19 = .ok (.invokestatic 96, 3) := by decide +kernel
theorem dX2_shown_22 : decode cX2_shown 22 = .ok (.ireturn, 1) := by decide +kernel
theorem dX2_wordAt_0 : decode cX2_wordAt 0 = .ok (.aload_n 0, 1) := by decide +kernel
theorem dX2_wordAt_1 : decode cX2_wordAt 1 = .ok (.iload_n 1, 1) := by decide +kernel
theorem dX2_wordAt_2 : decode cX2_wordAt 2 = .ok (.invokevirtual 100, 3) := by decide +kernel
theorem dX2_wordAt_5 : decode cX2_wordAt 5 = .ok (.sipush 256, 3) := by decide +kernel
theorem dX2_wordAt_8 : decode cX2_wordAt 8 = .ok (.aload_n 0, 1) := by decide +kernel
theorem dX2_wordAt_9 : decode cX2_wordAt 9 = .ok (.iload_n 1, 1) := by decide +kernel
theorem dX2_wordAt_10 : decode cX2_wordAt 10 = .ok (.iconst 1, 1) := by decide +kernel
theorem dX2_wordAt_11 : decode cX2_wordAt 11 = .ok (.iadd, 1) := by decide +kernel
theorem dX2_wordAt_12 : decode cX2_wordAt 12 = .ok (.invokevirtual 100, 3) := by decide +kernel
theorem dX2_wordAt_15 : decode cX2_wordAt 15 = .ok (.imul, 1) := by decide +kernel
theorem dX2_wordAt_16 : decode cX2_wordAt 16 = .ok (.iadd, 1) := by decide +kernel
theorem dX2_wordAt_17 : decode cX2_wordAt 17 = .ok (.ireturn, 1) := by decide +kernel
theorem dX2_vector_0 : decode cX2_vector 0 = .ok (.sipush 10992, 3) := by decide +kernel
theorem dX2_vector_3 : decode cX2_vector 3 = .ok (.iconst 2, 1) := by decide +kernel
theorem dX2_vector_4 : decode cX2_vector 4 = .ok (.iload_n 1, 1) := by decide +kernel
theorem dX2_vector_5 : decode cX2_vector 5 = .ok (.imul, 1) := by decide +kernel
theorem dX2_vector_6 : decode cX2_vector 6 = .ok (.iadd, 1) := by decide +kernel
theorem dX2_vector_7 : decode cX2_vector 7 = .ok (.istore_n 2, 1) := by decide +kernel
theorem dX2_vector_8 : decode cX2_vector 8 = .ok (.aload_n 0, 1) := by decide +kernel
theorem dX2_vector_9 : decode cX2_vector 9 = .ok (.getfield 9, 3) := by decide +kernel
theorem dX2_vector_12 : decode cX2_vector 12 = .ok (.iload_n 2, 1) := by decide +kernel
theorem dX2_vector_13 : decode cX2_vector 13 = .ok (.invokestatic 96, 3) := by decide +kernel
theorem dX2_vector_16 : decode cX2_vector 16 = .ok (.sipush 256, 3) := by decide +kernel
theorem dX2_vector_19 : decode cX2_vector 19 = .ok (.aload_n 0, 1) := by decide +kernel
theorem dX2_vector_20 : decode cX2_vector 20 = .ok (.getfield 9, 3) := by decide +kernel
theorem dX2_vector_23 : decode cX2_vector 23 = .ok (.iload_n 2, 1) := by decide +kernel
theorem dX2_vector_24 : decode cX2_vector 24 = .ok (.iconst 1, 1) := by decide +kernel
theorem dX2_vector_25 : decode cX2_vector 25 = .ok (.iadd, 1) := by decide +kernel
theorem dX2_vector_26 : decode cX2_vector 26 = .ok (.invokestatic 96, 3) := by decide +kernel
theorem dX2_vector_29 : decode cX2_vector 29 = .ok (.imul, 1) := by decide +kernel
theorem dX2_vector_30 : decode cX2_vector 30 = .ok (.iadd, 1) := by decide +kernel
theorem dX2_vector_31 : decode cX2_vector 31 = .ok (.sipush 4095, 3) := by decide +kernel
theorem dX2_vector_34 : decode cX2_vector 34 = .ok (.iand, 1) := by decide +kernel
theorem dX2_vector_35 : decode cX2_vector 35 = .ok (.ireturn, 1) := by decide +kernel
theorem dX2_operand_0 : decode cX2_operand 0 = .ok (.aload_n 0, 1) := by decide +kernel
theorem dX2_operand_1 : decode cX2_operand 1 = .ok (.iload_n 1, 1) := by decide +kernel
theorem dX2_operand_2 : decode cX2_operand 2 = .ok (.invokevirtual 100, 3) := by decide +kernel
theorem dX2_operand_5 : decode cX2_operand 5 = .ok (.istore_n 2, 1) := by decide +kernel
theorem dX2_operand_6 : decode cX2_operand 6 = .ok (.iload_n 2, 1) := by decide +kernel
theorem dX2_operand_7 : decode cX2_operand 7 = .ok (.invokestatic 103, 3) := by decide +kernel
theorem dX2_operand_10 : decode cX2_operand 10 = .ok (.istore_n 3, 1) := by decide +kernel
theorem dX2_operand_11 : decode cX2_operand 11 = .ok (.iload_n 3, 1) := by decide +kernel
theorem dX2_operand_12 : decode cX2_operand 12 = .ok (.iconst 2, 1) := by decide +kernel
theorem dX2_operand_13 : decode cX2_operand 13 = .ok (.if_icmp .ge 5, 3) := by decide +kernel
theorem dX2_operand_16 : decode cX2_operand 16 = .ok (.iconst (-1), 1) := by decide +kernel
theorem dX2_operand_17 : decode cX2_operand 17 = .ok (.ireturn, 1) := by decide +kernel
theorem dX2_operand_18 : decode cX2_operand 18 = .ok (.iload_n 2, 1) := by decide +kernel
theorem dX2_operand_19 : decode cX2_operand 19 = .ok (.sipush 208, 3) := by decide +kernel
theorem dX2_operand_22 : decode cX2_operand 22 = .ok (.if_icmp .lt 22, 3) := by decide +kernel
theorem dX2_operand_25 : decode cX2_operand 25 = .ok (.iload_n 1, 1) := by decide +kernel
theorem dX2_operand_26 : decode cX2_operand 26 = .ok (.iconst 2, 1) := by decide +kernel
theorem dX2_operand_27 : decode cX2_operand 27 = .ok (.iadd, 1) := by decide +kernel
theorem dX2_operand_28 : decode cX2_operand 28 = .ok (.aload_n 0, 1) := by decide +kernel
theorem dX2_operand_29 : decode cX2_operand 29 = .ok (.iload_n 1, 1) := by decide +kernel
theorem dX2_operand_30 : decode cX2_operand 30 = .ok (.iconst 1, 1) := by decide +kernel
theorem dX2_operand_31 : decode cX2_operand 31 = .ok (.iadd, 1) := by decide +kernel
theorem dX2_operand_32 : decode cX2_operand 32 = .ok (.invokevirtual 100, 3) := by decide +kernel
theorem dX2_operand_35 : decode cX2_operand 35 = .ok (.invokestatic 106, 3) := by decide +kernel
theorem dX2_operand_38 : decode cX2_operand 38 = .ok (.iadd, 1) := by decide +kernel
theorem dX2_operand_39 : decode cX2_operand 39 = .ok (.sipush 4095, 3) := by decide +kernel
theorem dX2_operand_42 : decode cX2_operand 42 = .ok (.iand, 1) := by decide +kernel
theorem dX2_operand_43 : decode cX2_operand 43 = .ok (.ireturn, 1) := by decide +kernel
theorem dX2_operand_44 : decode cX2_operand 44 = .ok (.iload_n 3, 1) := by decide +kernel
theorem dX2_operand_45 : decode cX2_operand 45 = .ok (.iconst 2, 1) := by decide +kernel
theorem dX2_operand_46 : decode cX2_operand 46 = .ok (.if_icmp .ne 13, 3) := by decide +kernel
theorem dX2_operand_49 : decode cX2_operand 49 = .ok (.aload_n 0, 1) := by decide +kernel
theorem dX2_operand_50 : decode cX2_operand 50 = .ok (.iload_n 1, 1) := by decide +kernel
theorem dX2_operand_51 : decode cX2_operand 51 = .ok (.iconst 1, 1) := by decide +kernel
theorem dX2_operand_52 : decode cX2_operand 52 = .ok (.iadd, 1) := by decide +kernel
theorem dX2_operand_53 : decode cX2_operand 53 = .ok (.invokevirtual 100, 3) := by decide +kernel
theorem dX2_operand_56 : decode cX2_operand 56 = .ok (.goto 10, 3) := by decide +kernel
theorem dX2_operand_59 : decode cX2_operand 59 = .ok (.aload_n 0, 1) := by decide +kernel
theorem dX2_operand_60 : decode cX2_operand 60 = .ok (.iload_n 1, 1) := by decide +kernel
theorem dX2_operand_61 : decode cX2_operand 61 = .ok (.iconst 1, 1) := by decide +kernel
theorem dX2_operand_62 : decode cX2_operand 62 = .ok (.iadd, 1) := by decide +kernel
theorem dX2_operand_63 : decode cX2_operand 63 = .ok (.invokevirtual 109, 3) := by decide +kernel
theorem dX2_operand_66 : decode cX2_operand 66 = .ok (.ireturn, 1) := by decide +kernel
theorem dX3_init_0 : decode cX3_init 0 = .ok (.aload_n 0, 1) := by decide +kernel
theorem dX3_init_1 : decode cX3_init 1 = .ok (.invokespecial 3, 3) := by decide +kernel
theorem dX3_init_4 : decode cX3_init 4 = .ok (.aload_n 0, 1) := by decide +kernel
theorem dX3_init_5 : decode cX3_init 5 = .ok (.bipush 120, 2) := by decide +kernel
theorem dX3_init_7 : decode cX3_init 7 = .ok (.newarray .long, 2) := by decide +kernel
theorem dX3_init_9 : decode cX3_init 9 = .ok (.putfield 9, 3) := by decide +kernel
theorem dX3_init_12 : decode cX3_init 12 = .ok (.aload_n 0, 1) := by decide +kernel
theorem dX3_init_13 : decode cX3_init 13 = .ok (.bipush 120, 2) := by decide +kernel
theorem dX3_init_15 : decode cX3_init 15 = .ok (.newarray .int, 2) := by decide +kernel
theorem dX3_init_17 : decode cX3_init 17 = .ok (.putfield 15, 3) := by decide +kernel
theorem dX3_init_20 : decode cX3_init 20 = .ok (.aload_n 0, 1) := by decide +kernel
theorem dX3_init_21 : decode cX3_init 21 = .ok (.bipush 120, 2) := by decide +kernel
theorem dX3_init_23 : decode cX3_init 23 = .ok (.newarray .int, 2) := by decide +kernel
theorem dX3_init_25 : decode cX3_init 25 = .ok (.putfield 19, 3) := by decide +kernel
theorem dX3_init_28 : decode cX3_init 28 = .ok (.return_, 1) := by decide +kernel
end
section
theorem dX4_init_0 : decode cX4_init 0 = .ok (.aload_n 0, 1) := by decide +kernel
theorem dX4_init_1 : decode cX4_init 1 = .ok (.invokespecial 3, 3) := by decide +kernel
theorem dX4_init_4 : decode cX4_init 4 = .ok (.aload_n 0, 1) := by decide +kernel
theorem dX4_init_5 : decode cX4_init 5 = .ok (.sipush 11008, 3) := by decide +kernel
theorem dX4_init_8 : decode cX4_init 8 = .ok (.newarray .int, 2) := by decide +kernel
theorem dX4_init_10 : decode cX4_init 10 = .ok (.putfield 9, 3) := by decide +kernel
theorem dX4_init_13 : decode cX4_init 13 = .ok (.aload_n 0, 1) := by decide +kernel
theorem dX4_init_14 : decode cX4_init 14 = .ok (.sipush 11008, 3) := by decide +kernel
theorem dX4_init_17 : decode cX4_init 17 = .ok (.newarray .int, 2) := by decide +kernel
theorem dX4_init_19 : decode cX4_init 19 = .ok (.putfield 15, 3) := by decide +kernel
theorem dX4_init_22 : decode cX4_init 22 = .ok (.aload_n 0, 1) := by decide +kernel
theorem dX4_init_23 : decode cX4_init 23 = .ok (.sipush 11008, 3) := by decide +kernel
theorem dX4_init_26 : decode cX4_init 26 = .ok (.newarray .int, 2) := by decide +kernel
theorem dX4_init_28 : decode cX4_init 28 = .ok (.putfield 18, 3) := by decide +kernel
theorem dX4_init_31 : decode cX4_init 31 = .ok (.aload_n 0, 1) := by decide +kernel
theorem dX4_init_32 : decode cX4_init 32 = .ok (.sipush 2048, 3) := by decide +kernel
theorem dX4_init_35 : decode cX4_init 35 = .ok (.newarray .int, 2) := by decide +kernel
theorem dX4_init_37 : decode cX4_init 37 = .ok (.putfield 21, 3) := by decide +kernel
theorem dX4_init_40 : decode cX4_init 40 = .ok (.aload_n 0, 1) := by decide +kernel
theorem dX4_init_41 : decode cX4_init 41 = .ok (.iconst 4, 1) := by decide +kernel
theorem dX4_init_42 : decode cX4_init 42 = .ok (.newarray .int, 2) := by decide +kernel
theorem dX4_init_44 : decode cX4_init 44 = .ok (.putfield 24, 3) := by decide +kernel
theorem dX4_init_47 : decode cX4_init 47 = .ok (.aload_n 0, 1) := by decide +kernel
theorem dX4_init_48 : decode cX4_init 48 = .ok (.iconst (-1), 1) := by decide +kernel
theorem dX4_init_49 : decode cX4_init 49 = .ok (.putfield 27, 3) := by decide +kernel
theorem dX4_init_52 : decode cX4_init 52 = .ok (.aload_n 0, 1) := by decide +kernel
theorem dX4_init_53 : decode cX4_init 53 = .ok (.aload_n 1, 1) := by decide +kernel
theorem dX4_init_54 : decode cX4_init 54 = .ok (.putfield 31, 3) := by decide +kernel
theorem dX4_init_57 : decode cX4_init 57 = .ok (.aload_n 0, 1) := by decide +kernel
theorem dX4_init_58 : decode cX4_init 58 = .ok (.aload_n 2, 1) := by decide +kernel
theorem dX4_init_59 : decode cX4_init 59 = .ok (.putfield 35, 3) := by decide +kernel
theorem dX4_init_62 : decode cX4_init 62 = .ok (.aload_n 0, 1) := by decide +kernel
theorem dX4_init_63 : decode cX4_init 63 = .ok (.aload_n 3, 1) := by decide +kernel
theorem dX4_init_64 : decode cX4_init 64 = .ok (.putfield 39, 3) := by decide +kernel
theorem dX4_init_67 : decode cX4_init 67 = .ok (.aload_n 0, 1) := by decide +kernel
theorem dX4_init_68 : decode cX4_init 68 = .ok (.aload 4, 2) := by decide +kernel
theorem dX4_init_70 : decode cX4_init 70 = .ok (.putfield 43, 3) := by decide +kernel
theorem dX4_init_73 : decode cX4_init 73 = .ok (.return_, 1) := by decide +kernel
theorem dX5_init_0 : decode cX5_init 0 = .ok (.aload_n 0, 1) := by decide +kernel
theorem dX5_init_1 : decode cX5_init 1 = .ok (.invokespecial 3, 3) := by decide +kernel
theorem dX5_init_4 : decode cX5_init 4 = .ok (.aload_n 0, 1) := by decide +kernel
theorem dX5_init_5 : decode cX5_init 5 = .ok (.bipush 16, 2) := by decide +kernel
theorem dX5_init_7 : decode cX5_init 7 = .ok (.newarray .int, 2) := by decide +kernel
theorem dX5_init_9 : decode cX5_init 9 = .ok (.putfield 9, 3) := by decide +kernel
theorem dX5_init_12 : decode cX5_init 12 = .ok (.aload_n 0, 1) := by decide +kernel
theorem dX5_init_13 : decode cX5_init 13 = .ok (.bipush 40, 2) := by decide +kernel
theorem dX5_init_15 : decode cX5_init 15 = .ok (.newarray .int, 2) := by decide +kernel
theorem dX5_init_17 : decode cX5_init 17 = .ok (.putfield 15, 3) := by decide +kernel
theorem dX5_init_20 : decode cX5_init 20 = .ok (.return_, 1) := by decide +kernel
theorem dX5_clear_0 : decode cX5_clear 0 = .ok (.aload_n 0, 1) := by decide +kernel
theorem dX5_clear_1 : decode cX5_clear 1 = .ok (.iconst 0, 1) := by decide +kernel
theorem dX5_clear_2 : decode cX5_clear 2 = .ok (.putfield 18, 3) := by decide +kernel
theorem dX5_clear_5 : decode cX5_clear 5 = .ok (.aload_n 0, 1) := by decide +kernel
theorem dX5_clear_6 : decode cX5_clear 6 = .ok (.iconst 0, 1) := by decide +kernel
theorem dX5_clear_7 : decode cX5_clear 7 = .ok (.putfield 22, 3) := by decide +kernel
theorem dX5_clear_10 : decode cX5_clear 10 = .ok (.aload_n 0, 1) := by decide +kernel
theorem dX5_clear_11 : decode cX5_clear 11 = .ok (.iconst 0, 1) := by decide +kernel
theorem dX5_clear_12 : decode cX5_clear 12 = .ok (.putfield 25, 3) := by decide +kernel
theorem dX5_clear_15 : decode cX5_clear 15 = .ok (.aload_n 0, 1) := by decide +kernel
theorem dX5_clear_16 : decode cX5_clear 16 = .ok (.iconst 0, 1) := by decide +kernel
theorem dX5_clear_17 : decode cX5_clear 17 = .ok (.putfield 28, 3) := by decide +kernel
theorem dX5_clear_20 : decode cX5_clear 20 = .ok (.aload_n 0, 1) := by decide +kernel
theorem dX5_clear_21 : decode cX5_clear 21 = .ok (.iconst 0, 1) := by decide +kernel
theorem dX5_clear_22 : decode cX5_clear 22 = .ok (.putfield 31, 3) := by decide +kernel
theorem dX5_clear_25 : decode cX5_clear 25 = .ok (.aload_n 0, 1) := by decide +kernel
theorem dX5_clear_26 : decode cX5_clear 26 = .ok (.iconst 0, 1) := by decide +kernel
theorem dX5_clear_27 : decode cX5_clear 27 = .ok (.putfield 34, 3) := by decide +kernel
theorem dX5_clear_30 : decode cX5_clear 30 = .ok (.aload_n 0, 1) := by decide +kernel
theorem dX5_clear_31 : decode cX5_clear 31 = .ok (.iconst 0, 1) := by decide +kernel
theorem dX5_clear_32 : decode cX5_clear 32 = .ok (.putfield 37, 3) := by decide +kernel
theorem dX5_clear_35 : decode cX5_clear 35 = .ok (.aload_n 0, 1) := by decide +kernel
theorem dX5_clear_36 : decode cX5_clear 36 = .ok (.iconst 0, 1) := by decide +kernel
theorem dX5_clear_37 : decode cX5_clear 37 = .ok (.putfield 40, 3) := by decide +kernel
theorem dX5_clear_40 : decode cX5_clear 40 = .ok (.aload_n 0, 1) := by decide +kernel
theorem dX5_clear_41 : decode cX5_clear 41 = .ok (.iconst 1, 1) := by decide +kernel
theorem dX5_clear_42 : decode cX5_clear 42 = .ok (.putfield 43, 3) := by decide +kernel
theorem dX5_clear_45 : decode cX5_clear 45 = .ok (.aload_n 0, 1) := by decide +kernel
theorem dX5_clear_46 : decode cX5_clear 46 = .ok (.iconst 0, 1) := by decide +kernel
theorem dX5_clear_47 : decode cX5_clear 47 = .ok (.putfield 46, 3) := by decide +kernel
theorem dX5_clear_50 : decode cX5_clear 50 = .ok (.aload_n 0, 1) := by decide +kernel
theorem dX5_clear_51 : decode cX5_clear 51 = .ok (.iconst 0, 1) := by decide +kernel
theorem dX5_clear_52 : decode cX5_clear 52 = .ok (.putfield 49, 3) := by decide +kernel
theorem dX5_clear_55 : decode cX5_clear 55 = .ok (.aload_n 0, 1) := by decide +kernel
theorem dX5_clear_56 : decode cX5_clear 56 = .ok (.iconst 0, 1) := by decide +kernel
theorem dX5_clear_57 : decode cX5_clear 57 = .ok (.putfield 52, 3) := by decide +kernel
theorem dX5_clear_60 : decode cX5_clear 60 = .ok (.return_, 1) := by decide +kernel
theorem dX6_init_0 : decode cX6_init 0 = .ok (.aload_n 0, 1) := by decide +kernel
theorem dX6_init_1 : decode cX6_init 1 = .ok (.invokespecial 3, 3) := by decide +kernel
theorem dX6_init_4 : decode cX6_init 4 = .ok (.aload_n 0, 1) := by decide +kernel
theorem dX6_init_5 : decode cX6_init 5 = .ok (.sipush 4096, 3) := by decide +kernel
theorem dX6_init_8 : decode cX6_init 8 = .ok (.newarray .int, 2) := by decide +kernel
theorem dX6_init_10 : decode cX6_init 10 = .ok (.putfield 9, 3) := by decide +kernel
theorem dX6_init_13 : decode cX6_init 13 = .ok (.aload_n 0, 1) := by decide +kernel
theorem dX6_init_14 : decode cX6_init 14 = .ok (.sipush 4096, 3) := by decide +kernel
theorem dX6_init_17 : decode cX6_init 17 = .ok (.newarray .int, 2) := by decide +kernel
theorem dX6_init_19 : decode cX6_init 19 = .ok (.putfield 15, 3) := by decide +kernel
theorem dX6_init_22 : decode cX6_init 22 = .ok (.aload_n 0, 1) := by decide +kernel
theorem dX6_init_23 : decode cX6_init 23 = .ok (.sipush 4096, 3) := by decide +kernel
theorem dX6_init_26 : decode cX6_init 26 = .ok (.newarray .int, 2) := by decide +kernel
theorem dX6_init_28 : decode cX6_init 28 = .ok (.putfield 18, 3) := by decide +kernel
theorem dX6_init_31 : decode cX6_init 31 = .ok (.return_, 1) := by decide +kernel
theorem dX6_explore_0 : decode cX6_explore 0 = .ok (.aload_n 0, 1) := by decide +kernel
theorem dX6_explore_1 : decode cX6_explore 1 = .ok (.getfield 9, 3) := by decide +kernel
theorem dX6_explore_4 : decode cX6_explore 4 = .ok (.iconst 0, 1) := by decide +kernel
theorem dX6_explore_5 : decode cX6_explore 5 = .ok (.invokestatic 21, 3) := by decide +kernel
theorem dX6_explore_8 : decode cX6_explore 8 = .ok (.aload_n 0, 1) := by decide +kernel
theorem dX6_explore_9 : decode cX6_explore 9 = .ok (.getfield 15, 3) := by decide +kernel
theorem dX6_explore_12 : decode cX6_explore 12 = .ok (.iconst 0, 1) := by decide +kernel
theorem dX6_explore_13 : decode cX6_explore 13 = .ok (.invokestatic 21, 3) := by decide +kernel
theorem dX6_explore_16 : decode cX6_explore 16 = .ok (.aload_n 0, 1) := by decide +kernel
theorem dX6_explore_17 : decode cX6_explore 17 = .ok (.iconst 0, 1) := by decide +kernel
theorem dX6_explore_18 : decode cX6_explore 18 = .ok (.putfield 27, 3) := by decide +kernel
theorem dX6_explore_21 : decode cX6_explore 21 = .ok (.aload_n 0, 1) := by decide +kernel
theorem dX6_explore_22 : decode cX6_explore 22 = .ok (.iconst 0, 1) := by decide +kernel
theorem dX6_explore_23 : decode cX6_explore 23 = .ok (.putfield 31, 3) := by decide +kernel
theorem dX6_explore_26 : decode cX6_explore 26 = .ok (.aload_n 0, 1) := by decide +kernel
theorem dX6_explore_27 : decode cX6_explore 27 = .ok (.aload_n 1, 1) := by decide +kernel
theorem dX6_explore_28 : decode cX6_explore 28 = .ok (.getfield 34, 3) := by decide +kernel
theorem dX6_explore_31 : decode cX6_explore 31 = .ok (.invokevirtual 39, 3) := by decide +kernel
theorem dX6_explore_34 : decode cX6_explore 34 = .ok (.iconst 0, 1) := by decide +kernel
theorem dX6_explore_35 : decode cX6_explore 35 = .ok (.istore_n 2, 1) := by decide +kernel
theorem dX6_explore_36 : decode cX6_explore 36 = .ok (.iload_n 2, 1) := by decide +kernel
theorem dX6_explore_37 : decode cX6_explore 37 = .ok (.bipush 8, 2) := by decide +kernel
theorem dX6_explore_39 : decode cX6_explore 39 = .ok (.if_icmp .ge 18, 3) := by decide +kernel
theorem dX6_explore_42 : decode cX6_explore 42 = .ok (.aload_n 0, 1) := by decide +kernel
theorem dX6_explore_43 : decode cX6_explore 43 = .ok (.aload_n 1, 1) := by decide +kernel
theorem dX6_explore_44 : decode cX6_explore 44 = .ok (.iload_n 2, 1) := by decide +kernel
theorem dX6_explore_45 : decode cX6_explore 45 = .ok (.invokevirtual 43, 3) := by decide +kernel
theorem dX6_explore_48 : decode cX6_explore 48 = .ok (.invokevirtual 39, 3) := by decide +kernel
theorem dX6_explore_51 : decode cX6_explore 51 = .ok (.iinc 2 1, 3) := by decide +kernel
theorem dX6_explore_54 : decode cX6_explore 54 = .ok (.goto (-18), 3) := by decide +kernel
theorem dX6_explore_57 : decode cX6_explore 57 = .ok (.iconst 0, 1) := by decide +kernel
theorem dX6_explore_58 : decode cX6_explore 58 = .ok (.istore_n 2, 1) := by decide +kernel
theorem dX6_explore_59 : decode cX6_explore 59 = .ok (.iload_n 2, 1) := by decide +kernel
theorem dX6_explore_60 : decode cX6_explore 60 = .ok (.sipush 4096, 3) := by decide +kernel
theorem dX6_explore_63 : decode cX6_explore 63 = .ok (.if_icmp .ge 42, 3) := by decide +kernel
theorem dX6_explore_66 : decode cX6_explore 66 = .ok (.aload_n 0, 1) := by decide +kernel
theorem dX6_explore_67 : decode cX6_explore 67 = .ok (.getfield 27, 3) := by decide +kernel
theorem dX6_explore_70 : decode cX6_explore 70 = .ok (.ifCond .le 35, 3) := by decide +kernel
theorem dX6_explore_73 : decode cX6_explore 73 = .ok (.aload_n 0, 1) := by decide +kernel
theorem dX6_explore_74 : decode cX6_explore 74 = .ok (.dup, 1) := by decide +kernel
theorem dX6_explore_75 : decode cX6_explore 75 = .ok (.getfield 27, 3) := by decide +kernel
theorem dX6_explore_78 : decode cX6_explore 78 = .ok (.iconst 1, 1) := by decide +kernel
theorem dX6_explore_79 : decode cX6_explore 79 = .ok (.isub, 1) := by decide +kernel
theorem dX6_explore_80 : decode cX6_explore 80 = .ok (.putfield 27, 3) := by decide +kernel
theorem dX6_explore_83 : decode cX6_explore 83 = .ok (.aload_n 0, 1) := by decide +kernel
theorem dX6_explore_84 : decode cX6_explore 84 = .ok (.aload_n 1, 1) := by decide +kernel
theorem dX6_explore_85 : decode cX6_explore 85 = .ok (.aload_n 0, 1) := by decide +kernel
theorem dX6_explore_86 : decode cX6_explore 86 = .ok (.getfield 18, 3) := by decide +kernel
theorem dX6_explore_89 : decode cX6_explore 89 = .ok (.aload_n 0, 1) := by decide +kernel
theorem dX6_explore_90 : decode cX6_explore 90 = .ok (.getfield 27, 3) := by decide +kernel
theorem dX6_explore_93 : decode cX6_explore 93 = .ok (.invokestatic 47, 3) := by decide +kernel
theorem dX6_explore_96 : decode cX6_explore 96 = .ok (.invokevirtual 51, 3) := by decide +kernel
theorem dX6_explore_99 : decode cX6_explore 99 = .ok (.iinc 2 1, 3) := by decide +kernel
theorem dX6_explore_102 : decode cX6_explore 102 = .ok (.goto (-43), 3) := by decide +kernel
theorem dX6_explore_105 : decode cX6_explore 105 = .ok (.return_, 1) := by decide +kernel
theorem dX6_comeTo_0 : decode cX6_comeTo 0 = .ok (.aload_n 0, 1) := by decide +kernel
theorem dX6_comeTo_1 : decode cX6_comeTo 1 = .ok (.getfield 9, 3) := by decide +kernel
theorem dX6_comeTo_4 : decode cX6_comeTo 4 = .ok (.iload_n 1, 1) := by decide +kernel
theorem dX6_comeTo_5 : decode cX6_comeTo 5 = .ok (.invokestatic 47, 3) := by decide +kernel
theorem dX6_comeTo_8 : decode cX6_comeTo 8 = .ok (.ifCond .eq 4, 3) := by decide +kernel
theorem dX6_comeTo_11 : decode cX6_comeTo 11 = .ok (.return_, 1) := by decide +kernel
theorem dX6_comeTo_12 : decode cX6_comeTo 12 = .ok (.aload_n 0, 1) := by decide +kernel
theorem dX6_comeTo_13 : decode cX6_comeTo 13 = .ok (.getfield 9, 3) := by decide +kernel
theorem dX6_comeTo_16 : decode cX6_comeTo 16 = .ok (.iload_n 1, 1) := by decide +kernel
theorem dX6_comeTo_17 : decode cX6_comeTo 17 = .ok (.iconst 1, 1) := by decide +kernel
theorem dX6_comeTo_18 : decode cX6_comeTo 18 = .ok (.invokestatic 55, 3) := by decide +kernel
theorem dX6_comeTo_21 : decode cX6_comeTo 21 = .ok (.aload_n 0, 1) := by decide +kernel
theorem dX6_comeTo_22 : decode cX6_comeTo 22 = .ok (.getfield 18, 3) := by decide +kernel
theorem dX6_comeTo_25 : decode cX6_comeTo 25 = .ok (.aload_n 0, 1) := by decide +kernel
theorem dX6_comeTo_26 : decode cX6_comeTo 26 = .ok (.getfield 27, 3) := by decide +kernel
theorem dX6_comeTo_29 : decode cX6_comeTo 29 = .ok (.iload_n 1, 1) := by decide +kernel
theorem dX6_comeTo_30 : decode cX6_comeTo 30 = .ok (.invokestatic 55, 3) := by decide +kernel
theorem dX6_comeTo_33 : decode cX6_comeTo 33 = .ok (.aload_n 0, 1) := by decide +kernel
theorem dX6_comeTo_34 : decode cX6_comeTo 34 = .ok (.dup, 1) := by decide +kernel
theorem dX6_comeTo_35 : decode cX6_comeTo 35 = .ok (.getfield 27, 3) := by decide +kernel
theorem dX6_comeTo_38 : decode cX6_comeTo 38 = .ok (.iconst 1, 1) := by decide +kernel
theorem dX6_comeTo_39 : decode cX6_comeTo 39 = .ok (.iadd, 1) := by decide +kernel
theorem dX6_comeTo_40 : decode cX6_comeTo 40 = .ok (.putfield 27, 3) := by decide +kernel
theorem dX6_comeTo_43 : decode cX6_comeTo 43 = .ok (.return_, 1) := by decide +kernel
theorem dX6_goFrom_0 : decode cX6_goFrom 0 = .ok (.aload_n 1, 1) := by decide +kernel
theorem dX6_goFrom_1 : decode cX6_goFrom 1 = .ok (.iload_n 2, 1) := by decide +kernel
theorem dX6_goFrom_2 : decode cX6_goFrom 2 = .ok (.invokevirtual 59, 3) := by decide +kernel
theorem dX6_goFrom_5 : decode cX6_goFrom 5 = .ok (.istore_n 3, 1) := by decide +kernel
theorem dX6_goFrom_6 : decode cX6_goFrom 6 = .ok (.iload_n 3, 1) := by decide +kernel
theorem dX6_goFrom_7 : decode cX6_goFrom 7 = .ok (.invokestatic 62, 3) := by decide +kernel
theorem dX6_goFrom_10 : decode cX6_goFrom 10 = .ok (.istore 4, 2) := by decide +kernel
theorem dX6_goFrom_12 : decode cX6_goFrom 12 = .ok (.iload 4, 2) := by decide +kernel
theorem dX6_goFrom_14 : decode cX6_goFrom 14 = .ok (.ifCond .ne 4, 3) := by decide +kernel
theorem dX6_goFrom_17 : decode cX6_goFrom 17 = .ok (.return_, 1) := by decide +kernel
theorem dX6_goFrom_18 : decode cX6_goFrom 18 = .ok (.aload_n 0, 1) := by decide +kernel
theorem dX6_goFrom_19 : decode cX6_goFrom 19 = .ok (.getfield 15, 3) := by decide +kernel
theorem dX6_goFrom_22 : decode cX6_goFrom 22 = .ok (.iload_n 2, 1) := by decide +kernel
theorem dX6_goFrom_23 : decode cX6_goFrom 23 = .ok (.iconst 1, 1) := by decide +kernel
theorem dX6_goFrom_24 : decode cX6_goFrom 24 = .ok (.invokestatic 55, 3) := by decide +kernel
theorem dX6_goFrom_27 : decode cX6_goFrom 27 = .ok (.aload_n 0, 1) := by decide +kernel
theorem dX6_goFrom_28 : decode cX6_goFrom 28 = .ok (.dup, 1) := by decide +kernel
theorem dX6_goFrom_29 : decode cX6_goFrom 29 = .ok (.getfield 31, 3) := by decide +kernel
theorem dX6_goFrom_32 : decode cX6_goFrom 32 = .ok (.iconst 1, 1) := by decide +kernel
theorem dX6_goFrom_33 : decode cX6_goFrom 33 = .ok (.iadd, 1) := by decide +kernel
theorem dX6_goFrom_34 : decode cX6_goFrom 34 = .ok (.putfield 31, 3) := by decide +kernel
theorem dX6_goFrom_37 : decode cX6_goFrom 37 = .ok (.iload_n 3, 1) := by decide +kernel
theorem dX6_goFrom_38 : decode cX6_goFrom 38 = .ok (.iconst 3, 1) := by decide +kernel
theorem dX6_goFrom_39 : decode cX6_goFrom 39 = .ok (.ishr, 1) := by decide +kernel
theorem dX6_goFrom_40 : decode cX6_goFrom 40 = .ok (.istore 5, 2) := by decide +kernel
theorem dX6_goFrom_42 : decode cX6_goFrom 42 = .ok (.iload_n 3, 1) := by decide +kernel
theorem dX6_goFrom_43 : decode cX6_goFrom 43 = .ok (.iconst 1, 1) := by decide +kernel
theorem dX6_goFrom_44 : decode cX6_goFrom 44 = .ok (.if_icmp .eq 27, 3) := by decide +kernel
theorem dX6_goFrom_47 : decode cX6_goFrom 47 = .ok (.iload_n 3, 1) := by decide +kernel
theorem dX6_goFrom_48 : decode cX6_goFrom 48 = .ok (.iconst 3, 1) := by decide +kernel
theorem dX6_goFrom_49 : decode cX6_goFrom 49 = .ok (.if_icmp .eq 22, 3) := by decide +kernel
theorem dX6_goFrom_52 : decode cX6_goFrom 52 = .ok (.iload_n 3, 1) := by decide +kernel
theorem dX6_goFrom_53 : decode cX6_goFrom 53 = .ok (.iconst 4, 1) := by decide +kernel
theorem dX6_goFrom_54 : decode cX6_goFrom 54 = .ok (.if_icmp .eq 17, 3) := by decide +kernel
theorem dX6_goFrom_57 : decode cX6_goFrom 57 = .ok (.iload_n 3, 1) := by decide +kernel
theorem dX6_goFrom_58 : decode cX6_goFrom 58 = .ok (.sipush 216, 3) := by decide +kernel
theorem dX6_goFrom_61 : decode cX6_goFrom 61 = .ok (.if_icmp .eq 10, 3) := by decide +kernel
theorem dX6_goFrom_64 : decode cX6_goFrom 64 = .ok (.iload 5, 2) := by decide +kernel
theorem dX6_goFrom_66 : decode cX6_goFrom 66 = .ok (.bipush 24, 2) := by decide +kernel
theorem dX6_goFrom_68 : decode cX6_goFrom 68 = .ok (.if_icmp .ne 7, 3) := by decide +kernel
theorem dX6_goFrom_71 : decode cX6_goFrom 71 = .ok (.iconst 1, 1) := by decide +kernel
theorem dX6_goFrom_72 : decode cX6_goFrom 72 = .ok (.goto 4, 3) := by decide +kernel
theorem dX6_goFrom_75 : decode cX6_goFrom 75 = .ok (.iconst 0, 1) := by decide +kernel
theorem dX6_goFrom_76 : decode cX6_goFrom 76 = .ok (.istore 6, 2) := by decide +kernel
theorem dX6_goFrom_78 : decode cX6_goFrom 78 = .ok (.iload 6, 2) := by decide +kernel
theorem dX6_goFrom_80 : decode cX6_goFrom 80 = .ok (.ifCond .ne 15, 3) := by decide +kernel
theorem dX6_goFrom_83 : decode cX6_goFrom 83 = .ok (.aload_n 0, 1) := by decide +kernel
theorem dX6_goFrom_84 : decode cX6_goFrom 84 = .ok (.iload_n 2, 1) := by decide +kernel
theorem dX6_goFrom_85 : decode cX6_goFrom 85 = .ok (.iload 4, 2) := by decide +kernel
theorem dX6_goFrom_87 : decode cX6_goFrom 87 = .ok (.iadd, 1) := by decide +kernel
theorem dX6_goFrom_88 : decode cX6_goFrom 88 = .ok (.sipush 4095, 3) := by decide +kernel
theorem dX6_goFrom_91 : decode cX6_goFrom 91 = .ok (.iand, 1) := by decide +kernel
theorem dX6_goFrom_92 : decode cX6_goFrom 92 = .ok (.invokevirtual 39, 3) := by decide +kernel
theorem dX6_goFrom_95 : decode cX6_goFrom 95 = .ok (.iload 5, 2) := by decide +kernel
theorem dX6_goFrom_97 : decode cX6_goFrom 97 = .ok (.bipush 24, 2) := by decide +kernel
theorem dX6_goFrom_99 : decode cX6_goFrom 99 = .ok (.if_icmp .eq 10, 3) := by decide +kernel
theorem dX6_goFrom_102 : decode cX6_goFrom 102 = .ok (.iload 5, 2) := by decide +kernel
theorem dX6_goFrom_104 : decode cX6_goFrom 104 = .ok (.bipush 25, 2) := by decide +kernel
theorem dX6_goFrom_106 : decode cX6_goFrom 106 = .ok (.if_icmp .ne 15, 3) := by decide +kernel
theorem dX6_goFrom_109 : decode cX6_goFrom 109 = .ok (.iload_n 3, 1) := by decide +kernel
theorem dX6_goFrom_110 : decode cX6_goFrom 110 = .ok (.bipush 7, 2) := by decide +kernel
theorem dX6_goFrom_112 : decode cX6_goFrom 112 = .ok (.iand, 1) := by decide +kernel
theorem dX6_goFrom_113 : decode cX6_goFrom 113 = .ok (.iconst 3, 1) := by decide +kernel
theorem dX6_goFrom_114 : decode cX6_goFrom 114 = .ok (.if_icmp .ne 7, 3) := by decide +kernel
theorem dX6_goFrom_117 : decode cX6_goFrom 117 = .ok (.iconst 1, 1) := by decide +kernel
theorem dX6_goFrom_118 : decode cX6_goFrom 118 = .ok (.goto 4, 3) := by decide +kernel
theorem dX6_goFrom_121 : decode cX6_goFrom 121 = .ok (.iconst 0, 1) := by decide +kernel
theorem dX6_goFrom_122 : decode cX6_goFrom 122 = .ok (.istore 7, 2) := by decide +kernel
theorem dX6_goFrom_124 : decode cX6_goFrom 124 = .ok (.iload 7, 2) := by decide +kernel
theorem dX6_goFrom_126 : decode cX6_goFrom 126 = .ok (.ifCond .ne 10, 3) := by decide +kernel
theorem dX6_goFrom_129 : decode cX6_goFrom 129 = .ok (.iload_n 3, 1) := by decide +kernel
theorem dX6_goFrom_130 : decode cX6_goFrom 130 = .ok (.sipush 208, 3) := by decide +kernel
theorem dX6_goFrom_133 : decode cX6_goFrom 133 = .ok (.if_icmp .lt 16, 3) := by decide +kernel
theorem dX6_goFrom_136 : decode cX6_goFrom 136 = .ok (.aload_n 0, 1) := by decide +kernel
theorem dX6_goFrom_137 : decode cX6_goFrom 137 = .ok (.aload_n 1, 1) := by decide +kernel
theorem dX6_goFrom_138 : decode cX6_goFrom 138 = .ok (.iload_n 2, 1) := by decide +kernel
theorem dX6_goFrom_139 : decode cX6_goFrom 139 = .ok (.invokevirtual 65, 3) := by decide +kernel
theorem dX6_goFrom_142 : decode cX6_goFrom 142 = .ok (.sipush 4095, 3) := by decide +kernel
theorem dX6_goFrom_145 : decode cX6_goFrom 145 = .ok (.iand, 1) := by decide +kernel
theorem dX6_goFrom_146 : decode cX6_goFrom 146 = .ok (.invokevirtual 39, 3) := by decide +kernel
theorem dX6_goFrom_149 : decode cX6_goFrom 149 = .ok (.iload_n 3, 1) := by decide +kernel
theorem dX6_goFrom_150 : decode cX6_goFrom 150 = .ok (.iconst 5, 1) := by decide +kernel
theorem dX6_goFrom_151 : decode cX6_goFrom 151 = .ok (.if_icmp .ne 13, 3) := by decide +kernel
theorem dX6_goFrom_154 : decode cX6_goFrom 154 = .ok (.aload_n 0, 1) := by decide +kernel
theorem dX6_goFrom_155 : decode cX6_goFrom 155 = .ok (.aload_n 1, 1) := by decide +kernel
theorem dX6_goFrom_156 : decode cX6_goFrom 156 = .ok (.bipush 6, 2) := by decide +kernel
theorem dX6_goFrom_158 : decode cX6_goFrom 158 = .ok (.invokevirtual 43, 3) := by decide +kernel
theorem dX6_goFrom_161 : decode cX6_goFrom 161 = .ok (.invokevirtual 39, 3) := by decide +kernel
theorem dX6_goFrom_164 : decode cX6_goFrom 164 = .ok (.return_, 1) := by decide +kernel
theorem dX7_init_0 : decode cX7_init 0 = .ok (.aload_n 0, 1) := by decide +kernel
theorem dX7_init_1 : decode cX7_init 1 = .ok (.invokespecial 3, 3) := by decide +kernel
theorem dX7_init_4 : decode cX7_init 4 = .ok (.aload_n 0, 1) := by decide +kernel
theorem dX7_init_5 : decode cX7_init 5 = .ok (.bipush 6, 2) := by decide +kernel
theorem dX7_init_7 : decode cX7_init 7 = .ok (.newarray .int, 2) := by decide +kernel
theorem dX7_init_9 : decode cX7_init 9 = .ok (.putfield 11, 3) := by decide +kernel
theorem dX7_init_12 : decode cX7_init 12 = .ok (.aload_n 0, 1) := by decide +kernel
theorem dX7_init_13 : decode cX7_init 13 = .ok (.bipush 6, 2) := by decide +kernel
theorem dX7_init_15 : decode cX7_init 15 = .ok (.newarray .int, 2) := by decide +kernel
theorem dX7_init_17 : decode cX7_init 17 = .ok (.putfield 15, 3) := by decide +kernel
theorem dX7_init_20 : decode cX7_init 20 = .ok (.aload_n 0, 1) := by decide +kernel
theorem dX7_init_21 : decode cX7_init 21 = .ok (.iconst 4, 1) := by decide +kernel
theorem dX7_init_22 : decode cX7_init 22 = .ok (.newarray .int, 2) := by decide +kernel
theorem dX7_init_24 : decode cX7_init 24 = .ok (.putfield 18, 3) := by decide +kernel
theorem dX7_init_27 : decode cX7_init 27 = .ok (.aload_n 0, 1) := by decide +kernel
theorem dX7_init_28 : decode cX7_init 28 = .ok (.iconst 4, 1) := by decide +kernel
theorem dX7_init_29 : decode cX7_init 29 = .ok (.newarray .int, 2) := by decide +kernel
theorem dX7_init_31 : decode cX7_init 31 = .ok (.putfield 21, 3) := by decide +kernel
theorem dX7_init_34 : decode cX7_init 34 = .ok (.aload_n 0, 1) := by decide +kernel
theorem dX7_init_35 : decode cX7_init 35 = .ok (.iconst 4, 1) := by decide +kernel
theorem dX7_init_36 : decode cX7_init 36 = .ok (.newarray .int, 2) := by decide +kernel
theorem dX7_init_38 : decode cX7_init 38 = .ok (.putfield 24, 3) := by decide +kernel
theorem dX7_init_41 : decode cX7_init 41 = .ok (.return_, 1) := by decide +kernel
theorem dX8_init_0 : decode cX8_init 0 = .ok (.aload_n 0, 1) := by decide +kernel
theorem dX8_init_1 : decode cX8_init 1 = .ok (.invokespecial 3, 3) := by decide +kernel
theorem dX8_init_4 : decode cX8_init 4 = .ok (.aload_n 0, 1) := by decide +kernel
theorem dX8_init_5 : decode cX8_init 5 = .ok (.bipush 120, 2) := by decide +kernel
theorem dX8_init_7 : decode cX8_init 7 = .ok (.anewarray 9, 3) := by decide +kernel
theorem dX8_init_10 : decode cX8_init 10 = .ok (.putfield 11, 3) := by decide +kernel
theorem dX8_init_13 : decode cX8_init 13 = .ok (.aload_n 0, 1) := by decide +kernel
theorem dX8_init_14 : decode cX8_init 14 = .ok (.new 9, 3) := by decide +kernel
theorem dX8_init_17 : decode cX8_init 17 = .ok (.dup, 1) := by decide +kernel
theorem dX8_init_18 : decode cX8_init 18 = .ok (.invokespecial 17, 3) := by decide +kernel
theorem dX8_init_21 : decode cX8_init 21 = .ok (.putfield 18, 3) := by decide +kernel
theorem dX8_init_24 : decode cX8_init 24 = .ok (.aload_n 0, 1) := by decide +kernel
theorem dX8_init_25 : decode cX8_init 25 = .ok (.aload_n 1, 1) := by decide +kernel
theorem dX8_init_26 : decode cX8_init 26 = .ok (.putfield 22, 3) := by decide +kernel
theorem dX8_init_29 : decode cX8_init 29 = .ok (.aload_n 0, 1) := by decide +kernel
theorem dX8_init_30 : decode cX8_init 30 = .ok (.aload_n 2, 1) := by decide +kernel
theorem dX8_init_31 : decode cX8_init 31 = .ok (.putfield 26, 3) := by decide +kernel
theorem dX8_init_34 : decode cX8_init 34 = .ok (.iconst 0, 1) := by decide +kernel
theorem dX8_init_35 : decode cX8_init 35 = .ok (.istore_n 3, 1) := by decide +kernel
theorem dX8_init_36 : decode cX8_init 36 = .ok (.iload_n 3, 1) := by decide +kernel
theorem dX8_init_37 : decode cX8_init 37 = .ok (.aload_n 0, 1) := by decide +kernel
theorem dX8_init_38 : decode cX8_init 38 = .ok (.getfield 11, 3) := by decide +kernel
theorem dX8_init_41 : decode cX8_init 41 = .ok (.arraylength, 1) := by decide +kernel
theorem dX8_init_42 : decode cX8_init 42 = .ok (.if_icmp .ge 22, 3) := by decide +kernel
theorem dX8_init_45 : decode cX8_init 45 = .ok (.aload_n 0, 1) := by decide +kernel
theorem dX8_init_46 : decode cX8_init 46 = .ok (.getfield 11, 3) := by decide +kernel
theorem dX8_init_49 : decode cX8_init 49 = .ok (.iload_n 3, 1) := by decide +kernel
theorem dX8_init_50 : decode cX8_init 50 = .ok (.new 9, 3) := by decide +kernel
theorem dX8_init_53 : decode cX8_init 53 = .ok (.dup, 1) := by decide +kernel
theorem dX8_init_54 : decode cX8_init 54 = .ok (.invokespecial 17, 3) := by decide +kernel
theorem dX8_init_57 : decode cX8_init 57 = .ok (.aastore, 1) := by decide +kernel
theorem dX8_init_58 : decode cX8_init 58 = .ok (.iinc 3 1, 3) := by decide +kernel
theorem dX8_init_61 : decode cX8_init 61 = .ok (.goto (-25), 3) := by decide +kernel
theorem dX8_init_64 : decode cX8_init 64 = .ok (.return_, 1) := by decide +kernel
theorem dX9_init_0 : decode cX9_init 0 = .ok (.aload_n 0, 1) := by decide +kernel
theorem dX9_init_1 : decode cX9_init 1 = .ok (.invokespecial 3, 3) := by decide +kernel
theorem dX9_init_4 : decode cX9_init 4 = .ok (.aload_n 0, 1) := by decide +kernel
theorem dX9_init_5 : decode cX9_init 5 = .ok (.sipush 2000, 3) := by decide +kernel
theorem dX9_init_8 : decode cX9_init 8 = .ok (.newarray .int, 2) := by decide +kernel
theorem dX9_init_10 : decode cX9_init 10 = .ok (.putfield 9, 3) := by decide +kernel
theorem dX9_init_13 : decode cX9_init 13 = .ok (.aload_n 0, 1) := by decide +kernel
theorem dX9_init_14 : decode cX9_init 14 = .ok (.sipush 2001, 3) := by decide +kernel
theorem dX9_init_17 : decode cX9_init 17 = .ok (.newarray .int, 2) := by decide +kernel
theorem dX9_init_19 : decode cX9_init 19 = .ok (.putfield 15, 3) := by decide +kernel
theorem dX9_init_22 : decode cX9_init 22 = .ok (.aload_n 0, 1) := by decide +kernel
theorem dX9_init_23 : decode cX9_init 23 = .ok (.sipush 2001, 3) := by decide +kernel
theorem dX9_init_26 : decode cX9_init 26 = .ok (.newarray .int, 2) := by decide +kernel
theorem dX9_init_28 : decode cX9_init 28 = .ok (.putfield 18, 3) := by decide +kernel
theorem dX9_init_31 : decode cX9_init 31 = .ok (.aload_n 0, 1) := by decide +kernel
theorem dX9_init_32 : decode cX9_init 32 = .ok (.sipush 2001, 3) := by decide +kernel
theorem dX9_init_35 : decode cX9_init 35 = .ok (.newarray .long, 2) := by decide +kernel
theorem dX9_init_37 : decode cX9_init 37 = .ok (.putfield 21, 3) := by decide +kernel
theorem dX9_init_40 : decode cX9_init 40 = .ok (.return_, 1) := by decide +kernel
theorem dX10_init_0 : decode cX10_init 0 = .ok (.aload_n 0, 1) := by decide +kernel
theorem dX10_init_1 : decode cX10_init 1 = .ok (.invokespecial 3, 3) := by decide +kernel
theorem dX10_init_4 : decode cX10_init 4 = .ok (.aload_n 0, 1) := by decide +kernel
theorem dX10_init_5 : decode cX10_init 5 = .ok (.aload_n 1, 1) := by decide +kernel
theorem dX10_init_6 : decode cX10_init 6 = .ok (.putfield 9, 3) := by decide +kernel
theorem dX10_init_9 : decode cX10_init 9 = .ok (.aload_n 0, 1) := by decide +kernel
theorem dX10_init_10 : decode cX10_init 10 = .ok (.aload_n 2, 1) := by decide +kernel
theorem dX10_init_11 : decode cX10_init 11 = .ok (.putfield 15, 3) := by decide +kernel
theorem dX10_init_14 : decode cX10_init 14 = .ok (.return_, 1) := by decide +kernel
theorem dX11_init_0 : decode cX11_init 0 = .ok (.aload_n 0, 1) := by decide +kernel
theorem dX11_init_1 : decode cX11_init 1 = .ok (.invokespecial 3, 3) := by decide +kernel
theorem dX11_init_4 : decode cX11_init 4 = .ok (.aload_n 0, 1) := by decide +kernel
theorem dX11_init_5 : decode cX11_init 5 = .ok (.new 9, 3) := by decide +kernel
theorem dX11_init_8 : decode cX11_init 8 = .ok (.dup, 1) := by decide +kernel
theorem dX11_init_9 : decode cX11_init 9 = .ok (.invokespecial 11, 3) := by decide +kernel
theorem dX11_init_12 : decode cX11_init 12 = .ok (.putfield 12, 3) := by decide +kernel
theorem dX11_init_15 : decode cX11_init 15 = .ok (.aload_n 0, 1) := by decide +kernel
theorem dX11_init_16 : decode cX11_init 16 = .ok (.new 16, 3) := by decide +kernel
theorem dX11_init_19 : decode cX11_init 19 = .ok (.dup, 1) := by decide +kernel
theorem dX11_init_20 : decode cX11_init 20 = .ok (.invokespecial 18, 3) := by decide +kernel
theorem dX11_init_23 : decode cX11_init 23 = .ok (.putfield 19, 3) := by decide +kernel
theorem dX11_init_26 : decode cX11_init 26 = .ok (.aload_n 0, 1) := by decide +kernel
theorem dX11_init_27 : decode cX11_init 27 = .ok (.new 23, 3) := by decide +kernel
theorem dX11_init_30 : decode cX11_init 30 = .ok (.dup, 1) := by decide +kernel
theorem dX11_init_31 : decode cX11_init 31 = .ok (.aload_n 0, 1) := by decide +kernel
theorem dX11_init_32 : decode cX11_init 32 = .ok (.getfield 12, 3) := by decide +kernel
theorem dX11_init_35 : decode cX11_init 35 = .ok (.aload_n 0, 1) := by decide +kernel
theorem dX11_init_36 : decode cX11_init 36 = .ok (.getfield 19, 3) := by decide +kernel
theorem dX11_init_39 : decode cX11_init 39 = .ok (.invokespecial 25, 3) := by decide +kernel
theorem dX11_init_42 : decode cX11_init 42 = .ok (.putfield 28, 3) := by decide +kernel
theorem dX11_init_45 : decode cX11_init 45 = .ok (.aload_n 0, 1) := by decide +kernel
theorem dX11_init_46 : decode cX11_init 46 = .ok (.new 32, 3) := by decide +kernel
theorem dX11_init_49 : decode cX11_init 49 = .ok (.dup, 1) := by decide +kernel
theorem dX11_init_50 : decode cX11_init 50 = .ok (.aload_n 0, 1) := by decide +kernel
theorem dX11_init_51 : decode cX11_init 51 = .ok (.getfield 12, 3) := by decide +kernel
theorem dX11_init_54 : decode cX11_init 54 = .ok (.aload_n 0, 1) := by decide +kernel
theorem dX11_init_55 : decode cX11_init 55 = .ok (.getfield 28, 3) := by decide +kernel
theorem dX11_init_58 : decode cX11_init 58 = .ok (.invokespecial 34, 3) := by decide +kernel
theorem dX11_init_61 : decode cX11_init 61 = .ok (.putfield 37, 3) := by decide +kernel
theorem dX11_init_64 : decode cX11_init 64 = .ok (.aload_n 0, 1) := by decide +kernel
theorem dX11_init_65 : decode cX11_init 65 = .ok (.new 41, 3) := by decide +kernel
theorem dX11_init_68 : decode cX11_init 68 = .ok (.dup, 1) := by decide +kernel
theorem dX11_init_69 : decode cX11_init 69 = .ok (.aload_n 0, 1) := by decide +kernel
theorem dX11_init_70 : decode cX11_init 70 = .ok (.getfield 12, 3) := by decide +kernel
theorem dX11_init_73 : decode cX11_init 73 = .ok (.aload_n 0, 1) := by decide +kernel
theorem dX11_init_74 : decode cX11_init 74 = .ok (.getfield 28, 3) := by decide +kernel
theorem dX11_init_77 : decode cX11_init 77 = .ok (.aload_n 0, 1) := by decide +kernel
theorem dX11_init_78 : decode cX11_init 78 = .ok (.getfield 19, 3) := by decide +kernel
theorem dX11_init_81 : decode cX11_init 81 = .ok (.aload_n 0, 1) := by decide +kernel
theorem dX11_init_82 : decode cX11_init 82 = .ok (.getfield 37, 3) := by decide +kernel
theorem dX11_init_85 : decode cX11_init 85 = .ok (.invokespecial 43, 3) := by decide +kernel
theorem dX11_init_88 : decode cX11_init 88 = .ok (.putfield 46, 3) := by decide +kernel
theorem dX11_init_91 : decode cX11_init 91 = .ok (.aload_n 0, 1) := by decide +kernel
theorem dX11_init_92 : decode cX11_init 92 = .ok (.new 50, 3) := by decide +kernel
theorem dX11_init_95 : decode cX11_init 95 = .ok (.dup, 1) := by decide +kernel
theorem dX11_init_96 : decode cX11_init 96 = .ok (.invokespecial 52, 3) := by decide +kernel
theorem dX11_init_99 : decode cX11_init 99 = .ok (.putfield 53, 3) := by decide +kernel
theorem dX11_init_102 : decode cX11_init 102 = .ok (.aload_n 0, 1) := by decide +kernel
theorem dX11_init_103 : decode cX11_init 103 = .ok (.new 50, 3) := by decide +kernel
theorem dX11_init_106 : decode cX11_init 106 = .ok (.dup, 1) := by decide +kernel
theorem dX11_init_107 : decode cX11_init 107 = .ok (.invokespecial 52, 3) := by decide +kernel
theorem dX11_init_110 : decode cX11_init 110 = .ok (.putfield 57, 3) := by decide +kernel
theorem dX11_init_113 : decode cX11_init 113 = .ok (.aload_n 0, 1) := by decide +kernel
theorem dX11_init_114 : decode cX11_init 114 = .ok (.new 60, 3) := by decide +kernel
theorem dX11_init_117 : decode cX11_init 117 = .ok (.dup, 1) := by decide +kernel
theorem dX11_init_118 : decode cX11_init 118 = .ok (.invokespecial 62, 3) := by decide +kernel
theorem dX11_init_121 : decode cX11_init 121 = .ok (.putfield 63, 3) := by decide +kernel
theorem dX11_init_124 : decode cX11_init 124 = .ok (.aload_n 0, 1) := by decide +kernel
theorem dX11_init_125 : decode cX11_init 125 = .ok (.new 67, 3) := by decide +kernel
theorem dX11_init_128 : decode cX11_init 128 = .ok (.dup, 1) := by decide +kernel
theorem dX11_init_129 : decode cX11_init 129 = .ok (.invokespecial 69, 3) := by decide +kernel
theorem dX11_init_132 : decode cX11_init 132 = .ok (.putfield 70, 3) := by decide +kernel
theorem dX11_init_135 : decode cX11_init 135 = .ok (.aload_n 0, 1) := by decide +kernel
theorem dX11_init_136 : decode cX11_init 136 = .ok (.new 74, 3) := by decide +kernel
theorem dX11_init_139 : decode cX11_init 139 = .ok (.dup, 1) := by decide +kernel
theorem dX11_init_140 : decode cX11_init 140 = .ok (.invokespecial 76, 3) := by decide +kernel
theorem dX11_init_143 : decode cX11_init 143 = .ok (.putfield 77, 3) := by decide +kernel
theorem dX11_init_146 : decode cX11_init 146 = .ok (.aload_n 0, 1) := by decide +kernel
theorem dX11_init_147 : decode cX11_init 147 = .ok (.getfield 53, 3) := by decide +kernel
theorem dX11_init_150 : decode cX11_init 150 = .ok (.invokevirtual 81, 3) := by decide +kernel
theorem dX11_init_153 : decode cX11_init 153 = .ok (.return_, 1) := by decide +kernel
end
section
theorem dX11_codes_0 : decode cX11_codes 0 = .ok (.aload_n 0, 1) := by decide +kernel
theorem dX11_codes_1 : decode cX11_codes 1 = .ok (.getfield 77, 3) := by decide +kernel
theorem dX11_codes_4 : decode cX11_codes 4 = .ok (.aload_n 0, 1) := by decide +kernel
theorem dX11_codes_5 : decode cX11_codes 5 = .ok (.getfield 53, 3) := by decide +kernel
theorem dX11_codes_8 : decode cX11_codes 8 = .ok (.invokevirtual 390, 3) := by decide +kernel
theorem dX11_codes_11 : decode cX11_codes 11 = .ok (.aload_n 0, 1) := by decide +kernel
theorem dX11_codes_12 : decode cX11_codes 12 = .ok (.getfield 77, 3) := by decide +kernel
theorem dX11_codes_15 : decode cX11_codes 15 = .ok (.getfield 396, 3) := by decide +kernel
theorem dX11_codes_18 : decode cX11_codes 18 = .ok (.ireturn, 1) := by decide +kernel
theorem dX11_at_0 : decode cX11_at 0 = .ok (.iload_n 1, 1) := by decide +kernel
theorem dX11_at_1 : decode cX11_at 1 = .ok (.ifCond .lt 15, 3) := by decide +kernel
theorem dX11_at_4 : decode cX11_at 4 = .ok (.iload_n 1, 1) := by decide +kernel
theorem dX11_at_5 : decode cX11_at 5 = .ok (.aload_n 0, 1) := by decide +kernel
theorem dX11_at_6 : decode cX11_at 6 = .ok (.arraylength, 1) := by decide +kernel
theorem dX11_at_7 : decode cX11_at 7 = .ok (.if_icmp .ge 9, 3) := by decide +kernel
theorem dX11_at_10 : decode cX11_at 10 = .ok (.aload_n 0, 1) := by decide +kernel
theorem dX11_at_11 : decode cX11_at 11 = .ok (.iload_n 1, 1) := by decide +kernel
theorem dX11_at_12 : decode cX11_at 12 = .ok (.iaload, 1) := by decide +kernel
theorem dX11_at_13 : decode cX11_at 13 = .ok (.goto 4, 3) := by decide +kernel
theorem dX11_at_16 : decode cX11_at 16 = .ok (.iconst 0, 1) := by decide +kernel
theorem dX11_at_17 : decode cX11_at 17 = .ok (.ireturn, 1) := by decide +kernel
theorem dX11_put_0 : decode cX11_put 0 = .ok (.iload_n 1, 1) := by decide +kernel
theorem dX11_put_1 : decode cX11_put 1 = .ok (.ifCond .lt 13, 3) := by decide +kernel
theorem dX11_put_4 : decode cX11_put 4 = .ok (.iload_n 1, 1) := by decide +kernel
theorem dX11_put_5 : decode cX11_put 5 = .ok (.aload_n 0, 1) := by decide +kernel
theorem dX11_put_6 : decode cX11_put 6 = .ok (.arraylength, 1) := by decide +kernel
theorem dX11_put_7 : decode cX11_put 7 = .ok (.if_icmp .ge 7, 3) := by decide +kernel
theorem dX11_put_10 : decode cX11_put 10 = .ok (.aload_n 0, 1) := by decide +kernel
theorem dX11_put_11 : decode cX11_put 11 = .ok (.iload_n 1, 1) := by decide +kernel
theorem dX11_put_12 : decode cX11_put 12 = .ok (.iload_n 2, 1) := by decide +kernel
theorem dX11_put_13 : decode cX11_put 13 = .ok (.iastore, 1) := by decide +kernel
theorem dX11_put_14 : decode cX11_put 14 = .ok (.return_, 1) := by decide +kernel
theorem dX11_placeOf_0 : decode cX11_placeOf 0 = .ok (.iload_n 0, 1) := by decide +kernel
theorem dX11_placeOf_1 : decode cX11_placeOf 1 = .ok (.sipush 1792, 3) := by decide +kernel
theorem dX11_placeOf_4 : decode cX11_placeOf 4 = .ok (.if_icmp .ge 5, 3) := by decide +kernel
theorem dX11_placeOf_7 : decode cX11_placeOf 7 = .ok (.iload_n 0, 1) := by decide +kernel
theorem dX11_placeOf_8 : decode cX11_placeOf 8 = .ok (.ireturn, 1) := by decide +kernel
theorem dX11_placeOf_9 : decode cX11_placeOf 9 = .ok (.iload_n 0, 1) := by decide +kernel
theorem dX11_placeOf_10 : decode cX11_placeOf 10 = .ok (.sipush 2048, 3) := by decide +kernel
theorem dX11_placeOf_13 : decode cX11_placeOf 13 = .ok (.if_icmp .ge 5, 3) := by decide +kernel
theorem dX11_placeOf_16 : decode cX11_placeOf 16 = .ok (.iconst (-1), 1) := by decide +kernel
theorem dX11_placeOf_17 : decode cX11_placeOf 17 = .ok (.ireturn, 1) := by decide +kernel
theorem dX11_placeOf_18 : decode cX11_placeOf 18 = .ok (.iload_n 0, 1) := by decide +kernel
theorem dX11_placeOf_19 : decode cX11_placeOf 19 = .ok (.sipush 3072, 3) := by decide +kernel
theorem dX11_placeOf_22 : decode cX11_placeOf 22 = .ok (.if_icmp .ge 19, 3) := by decide +kernel
theorem dX11_placeOf_25 : decode cX11_placeOf 25 = .ok (.sipush 1792, 3) := by decide +kernel
theorem dX11_placeOf_28 : decode cX11_placeOf 28 = .ok (.iload_n 1, 1) := by decide +kernel
theorem dX11_placeOf_29 : decode cX11_placeOf 29 = .ok (.sipush 1024, 3) := by decide +kernel
theorem dX11_placeOf_32 : decode cX11_placeOf 32 = .ok (.imul, 1) := by decide +kernel
theorem dX11_placeOf_33 : decode cX11_placeOf 33 = .ok (.iadd, 1) := by decide +kernel
theorem dX11_placeOf_34 : decode cX11_placeOf 34 = .ok (.iload_n 0, 1) := by decide +kernel
theorem dX11_placeOf_35 : decode cX11_placeOf 35 = .ok (.iadd, 1) := by decide +kernel
theorem dX11_placeOf_36 : decode cX11_placeOf 36 = .ok (.sipush 2048, 3) := by decide +kernel
theorem dX11_placeOf_39 : decode cX11_placeOf 39 = .ok (.isub, 1) := by decide +kernel
theorem dX11_placeOf_40 : decode cX11_placeOf 40 = .ok (.ireturn, 1) := by decide +kernel
theorem dX11_placeOf_41 : decode cX11_placeOf 41 = .ok (.sipush 9984, 3) := by decide +kernel
theorem dX11_placeOf_44 : decode cX11_placeOf 44 = .ok (.iload_n 0, 1) := by decide +kernel
theorem dX11_placeOf_45 : decode cX11_placeOf 45 = .ok (.iadd, 1) := by decide +kernel
theorem dX11_placeOf_46 : decode cX11_placeOf 46 = .ok (.sipush 3072, 3) := by decide +kernel
theorem dX11_placeOf_49 : decode cX11_placeOf 49 = .ok (.isub, 1) := by decide +kernel
theorem dX11_placeOf_50 : decode cX11_placeOf 50 = .ok (.ireturn, 1) := by decide +kernel
theorem dX11_hasMode_0 : decode cX11_hasMode 0 = .ok (.iload_n 0, 1) := by decide +kernel
theorem dX11_hasMode_1 : decode cX11_hasMode 1 = .ok (.bipush 24, 2) := by decide +kernel
theorem dX11_hasMode_3 : decode cX11_hasMode 3 = .ok (.if_icmp .lt 19, 3) := by decide +kernel
theorem dX11_hasMode_6 : decode cX11_hasMode 6 = .ok (.iload_n 1, 1) := by decide +kernel
theorem dX11_hasMode_7 : decode cX11_hasMode 7 = .ok (.iconst 3, 1) := by decide +kernel
theorem dX11_hasMode_8 : decode cX11_hasMode 8 = .ok (.if_icmp .lt 12, 3) := by decide +kernel
theorem dX11_hasMode_11 : decode cX11_hasMode 11 = .ok (.iload_n 1, 1) := by decide +kernel
theorem dX11_hasMode_12 : decode cX11_hasMode 12 = .ok (.iconst 5, 1) := by decide +kernel
theorem dX11_hasMode_13 : decode cX11_hasMode 13 = .ok (.if_icmp .gt 7, 3) := by decide +kernel
theorem dX11_hasMode_16 : decode cX11_hasMode 16 = .ok (.iconst 1, 1) := by decide +kernel
theorem dX11_hasMode_17 : decode cX11_hasMode 17 = .ok (.goto 4, 3) := by decide +kernel
theorem dX11_hasMode_20 : decode cX11_hasMode 20 = .ok (.iconst 0, 1) := by decide +kernel
theorem dX11_hasMode_21 : decode cX11_hasMode 21 = .ok (.ireturn, 1) := by decide +kernel
theorem dX11_hasMode_22 : decode cX11_hasMode 22 = .ok (.iload_n 0, 1) := by decide +kernel
theorem dX11_hasMode_23 : decode cX11_hasMode 23 = .ok (.bipush 16, 2) := by decide +kernel
theorem dX11_hasMode_25 : decode cX11_hasMode 25 = .ok (.if_icmp .ge 7, 3) := by decide +kernel
theorem dX11_hasMode_28 : decode cX11_hasMode 28 = .ok (.iconst 1, 1) := by decide +kernel
theorem dX11_hasMode_29 : decode cX11_hasMode 29 = .ok (.goto 4, 3) := by decide +kernel
theorem dX11_hasMode_32 : decode cX11_hasMode 32 = .ok (.iconst 2, 1) := by decide +kernel
theorem dX11_hasMode_33 : decode cX11_hasMode 33 = .ok (.istore_n 2, 1) := by decide +kernel
theorem dX11_hasMode_34 : decode cX11_hasMode 34 = .ok (.iload_n 1, 1) := by decide +kernel
theorem dX11_hasMode_35 : decode cX11_hasMode 35 = .ok (.iload_n 2, 1) := by decide +kernel
theorem dX11_hasMode_36 : decode cX11_hasMode 36 = .ok (.if_icmp .lt 13, 3) := by decide +kernel
theorem dX11_hasMode_39 : decode cX11_hasMode 39 = .ok (.iload_n 1, 1) := by decide +kernel
theorem dX11_hasMode_40 : decode cX11_hasMode 40 = .ok (.bipush 6, 2) := by decide +kernel
theorem dX11_hasMode_42 : decode cX11_hasMode 42 = .ok (.if_icmp .gt 7, 3) := by decide +kernel
theorem dX11_hasMode_45 : decode cX11_hasMode 45 = .ok (.iconst 1, 1) := by decide +kernel
theorem dX11_hasMode_46 : decode cX11_hasMode 46 = .ok (.goto 4, 3) := by decide +kernel
theorem dX11_hasMode_49 : decode cX11_hasMode 49 = .ok (.iconst 0, 1) := by decide +kernel
theorem dX11_hasMode_50 : decode cX11_hasMode 50 = .ok (.ireturn, 1) := by decide +kernel
theorem dX11_lengthOf_0 : decode cX11_lengthOf 0 = .ok (.iload_n 0, 1) := by decide +kernel
theorem dX11_lengthOf_1 : decode cX11_lengthOf 1 = .ok (.iconst 3, 1) := by decide +kernel
theorem dX11_lengthOf_2 : decode cX11_lengthOf 2 = .ok (.ishr, 1) := by decide +kernel
theorem dX11_lengthOf_3 : decode cX11_lengthOf 3 = .ok (.istore_n 1, 1) := by decide +kernel
theorem dX11_lengthOf_4 : decode cX11_lengthOf 4 = .ok (.iload_n 0, 1) := by decide +kernel
theorem dX11_lengthOf_5 : decode cX11_lengthOf 5 = .ok (.bipush 7, 2) := by decide +kernel
theorem dX11_lengthOf_7 : decode cX11_lengthOf 7 = .ok (.iand, 1) := by decide +kernel
theorem dX11_lengthOf_8 : decode cX11_lengthOf 8 = .ok (.istore_n 2, 1) := by decide +kernel
theorem dX11_lengthOf_9 : decode cX11_lengthOf 9 = .ok (.iload_n 1, 1) := by decide +kernel
theorem dX11_lengthOf_10 : decode cX11_lengthOf 10 = .ok (.iconst 4, 1) := by decide +kernel
theorem dX11_lengthOf_11 : decode cX11_lengthOf 11 = .ok (.if_icmp .ge 5, 3) := by decide +kernel
theorem dX11_lengthOf_14 : decode cX11_lengthOf 14 = .ok (.iconst 1, 1) := by decide +kernel
theorem dX11_lengthOf_15 : decode cX11_lengthOf 15 = .ok (.ireturn, 1) := by decide +kernel
theorem dX11_lengthOf_16 : decode cX11_lengthOf 16 = .ok (.iload_n 0, 1) := by decide +kernel
theorem dX11_lengthOf_17 : decode cX11_lengthOf 17 = .ok (.sipush 208, 3) := by decide +kernel
theorem dX11_lengthOf_20 : decode cX11_lengthOf 20 = .ok (.if_icmp .lt 16, 3) := by decide +kernel
theorem dX11_lengthOf_23 : decode cX11_lengthOf 23 = .ok (.iload_n 0, 1) := by decide +kernel
theorem dX11_lengthOf_24 : decode cX11_lengthOf 24 = .ok (.sipush 217, 3) := by decide +kernel
theorem dX11_lengthOf_27 : decode cX11_lengthOf 27 = .ok (.if_icmp .gt 7, 3) := by decide +kernel
theorem dX11_lengthOf_30 : decode cX11_lengthOf 30 = .ok (.iconst 2, 1) := by decide +kernel
theorem dX11_lengthOf_31 : decode cX11_lengthOf 31 = .ok (.goto 4, 3) := by decide +kernel
theorem dX11_lengthOf_34 : decode cX11_lengthOf 34 = .ok (.iconst 0, 1) := by decide +kernel
theorem dX11_lengthOf_35 : decode cX11_lengthOf 35 = .ok (.ireturn, 1) := by decide +kernel
theorem dX11_lengthOf_36 : decode cX11_lengthOf 36 = .ok (.iload_n 1, 1) := by decide +kernel
theorem dX11_lengthOf_37 : decode cX11_lengthOf 37 = .ok (.iload_n 2, 1) := by decide +kernel
theorem dX11_lengthOf_38 : decode cX11_lengthOf 38 = .ok (.invokestatic 419, 3) := by decide +kernel
theorem dX11_lengthOf_41 : decode cX11_lengthOf 41 = .ok (.ifCond .ne 5, 3) := by decide +kernel
theorem dX11_lengthOf_44 : decode cX11_lengthOf 44 = .ok (.iconst 0, 1) := by decide +kernel
theorem dX11_lengthOf_45 : decode cX11_lengthOf 45 = .ok (.ireturn, 1) := by decide +kernel
theorem dX11_lengthOf_46 : decode cX11_lengthOf 46 = .ok (.iload_n 2, 1) := by decide +kernel
theorem dX11_lengthOf_47 : decode cX11_lengthOf 47 = .ok (.iconst 3, 1) := by decide +kernel
theorem dX11_lengthOf_48 : decode cX11_lengthOf 48 = .ok (.if_icmp .eq 8, 3) := by decide +kernel
theorem dX11_lengthOf_51 : decode cX11_lengthOf 51 = .ok (.iload_n 2, 1) := by decide +kernel
theorem dX11_lengthOf_52 : decode cX11_lengthOf 52 = .ok (.iconst 4, 1) := by decide +kernel
theorem dX11_lengthOf_53 : decode cX11_lengthOf 53 = .ok (.if_icmp .ne 7, 3) := by decide +kernel
theorem dX11_lengthOf_56 : decode cX11_lengthOf 56 = .ok (.iconst 3, 1) := by decide +kernel
theorem dX11_lengthOf_57 : decode cX11_lengthOf 57 = .ok (.goto 4, 3) := by decide +kernel
theorem dX11_lengthOf_60 : decode cX11_lengthOf 60 = .ok (.iconst 2, 1) := by decide +kernel
theorem dX11_lengthOf_61 : decode cX11_lengthOf 61 = .ok (.ireturn, 1) := by decide +kernel
theorem dX11_signed_0 : decode cX11_signed 0 = .ok (.iload_n 0, 1) := by decide +kernel
theorem dX11_signed_1 : decode cX11_signed 1 = .ok (.sipush 128, 3) := by decide +kernel
theorem dX11_signed_4 : decode cX11_signed 4 = .ok (.if_icmp .ge 7, 3) := by decide +kernel
theorem dX11_signed_7 : decode cX11_signed 7 = .ok (.iload_n 0, 1) := by decide +kernel
theorem dX11_signed_8 : decode cX11_signed 8 = .ok (.goto 8, 3) := by decide +kernel
theorem dX11_signed_11 : decode cX11_signed 11 = .ok (.iload_n 0, 1) := by decide +kernel
theorem dX11_signed_12 : decode cX11_signed 12 = .ok (.sipush 256, 3) := by decide +kernel
theorem dX11_signed_15 : decode cX11_signed 15 = .ok (.isub, 1) := by decide +kernel
theorem dX11_signed_16 : decode cX11_signed 16 = .ok (.ireturn, 1) := by decide +kernel
theorem dX12_init_0 : decode cX12_init 0 = .ok (.aload_n 0, 1) := by decide +kernel
theorem dX12_init_1 : decode cX12_init 1 = .ok (.invokespecial 3, 3) := by decide +kernel
theorem dX12_init_4 : decode cX12_init 4 = .ok (.aload_n 0, 1) := by decide +kernel
theorem dX12_init_5 : decode cX12_init 5 = .ok (.sipush 16205, 3) := by decide +kernel
theorem dX12_init_8 : decode cX12_init 8 = .ok (.newarray .int, 2) := by decide +kernel
theorem dX12_init_10 : decode cX12_init 10 = .ok (.putfield 9, 3) := by decide +kernel
theorem dX12_init_13 : decode cX12_init 13 = .ok (.aload_n 0, 1) := by decide +kernel
theorem dX12_init_14 : decode cX12_init 14 = .ok (.sipush 200, 3) := by decide +kernel
theorem dX12_init_17 : decode cX12_init 17 = .ok (.anewarray 13, 3) := by decide +kernel
theorem dX12_init_20 : decode cX12_init 20 = .ok (.putfield 14, 3) := by decide +kernel
theorem dX12_init_23 : decode cX12_init 23 = .ok (.aload_n 0, 1) := by decide +kernel
theorem dX12_init_24 : decode cX12_init 24 = .ok (.bipush 64, 2) := by decide +kernel
theorem dX12_init_26 : decode cX12_init 26 = .ok (.newarray .int, 2) := by decide +kernel
theorem dX12_init_28 : decode cX12_init 28 = .ok (.putfield 18, 3) := by decide +kernel
theorem dX12_init_31 : decode cX12_init 31 = .ok (.aload_n 0, 1) := by decide +kernel
theorem dX12_init_32 : decode cX12_init 32 = .ok (.iconst (-1), 1) := by decide +kernel
theorem dX12_init_33 : decode cX12_init 33 = .ok (.putfield 21, 3) := by decide +kernel
theorem dX12_init_36 : decode cX12_init 36 = .ok (.aload_n 0, 1) := by decide +kernel
theorem dX12_init_37 : decode cX12_init 37 = .ok (.bipush 6, 2) := by decide +kernel
theorem dX12_init_39 : decode cX12_init 39 = .ok (.newarray .int, 2) := by decide +kernel
theorem dX12_init_41 : decode cX12_init 41 = .ok (.putfield 25, 3) := by decide +kernel
theorem dX12_init_44 : decode cX12_init 44 = .ok (.aload_n 0, 1) := by decide +kernel
theorem dX12_init_45 : decode cX12_init 45 = .ok (.bipush 6, 2) := by decide +kernel
theorem dX12_init_47 : decode cX12_init 47 = .ok (.newarray .int, 2) := by decide +kernel
theorem dX12_init_49 : decode cX12_init 49 = .ok (.putfield 28, 3) := by decide +kernel
theorem dX12_init_52 : decode cX12_init 52 = .ok (.aload_n 0, 1) := by decide +kernel
theorem dX12_init_53 : decode cX12_init 53 = .ok (.iconst 4, 1) := by decide +kernel
theorem dX12_init_54 : decode cX12_init 54 = .ok (.newarray .int, 2) := by decide +kernel
theorem dX12_init_56 : decode cX12_init 56 = .ok (.putfield 31, 3) := by decide +kernel
theorem dX12_init_59 : decode cX12_init 59 = .ok (.aload_n 0, 1) := by decide +kernel
theorem dX12_init_60 : decode cX12_init 60 = .ok (.iconst 4, 1) := by decide +kernel
theorem dX12_init_61 : decode cX12_init 61 = .ok (.newarray .int, 2) := by decide +kernel
theorem dX12_init_63 : decode cX12_init 63 = .ok (.putfield 34, 3) := by decide +kernel
theorem dX12_init_66 : decode cX12_init 66 = .ok (.aload_n 0, 1) := by decide +kernel
theorem dX12_init_67 : decode cX12_init 67 = .ok (.iconst 4, 1) := by decide +kernel
theorem dX12_init_68 : decode cX12_init 68 = .ok (.newarray .boolean, 2) := by decide +kernel
theorem dX12_init_70 : decode cX12_init 70 = .ok (.putfield 37, 3) := by decide +kernel
theorem dX12_init_73 : decode cX12_init 73 = .ok (.aload_n 0, 1) := by decide +kernel
theorem dX12_init_74 : decode cX12_init 74 = .ok (.iconst 4, 1) := by decide +kernel
theorem dX12_init_75 : decode cX12_init 75 = .ok (.newarray .boolean, 2) := by decide +kernel
theorem dX12_init_77 : decode cX12_init 77 = .ok (.putfield 41, 3) := by decide +kernel
theorem dX12_init_80 : decode cX12_init 80 = .ok (.aload_n 0, 1) := by decide +kernel
theorem dX12_init_81 : decode cX12_init 81 = .ok (.sipush 2000, 3) := by decide +kernel
theorem dX12_init_84 : decode cX12_init 84 = .ok (.newarray .byte, 2) := by decide +kernel
theorem dX12_init_86 : decode cX12_init 86 = .ok (.putfield 44, 3) := by decide +kernel
theorem dX12_init_89 : decode cX12_init 89 = .ok (.aload_n 0, 1) := by decide +kernel
theorem dX12_init_90 : decode cX12_init 90 = .ok (.sipush 2200, 3) := by decide +kernel
theorem dX12_init_93 : decode cX12_init 93 = .ok (.newarray .int, 2) := by decide +kernel
theorem dX12_init_95 : decode cX12_init 95 = .ok (.putfield 48, 3) := by decide +kernel
theorem dX12_init_98 : decode cX12_init 98 = .ok (.aload_n 0, 1) := by decide +kernel
theorem dX12_init_99 : decode cX12_init 99 = .ok (.sipush 2200, 3) := by decide +kernel
theorem dX12_init_102 : decode cX12_init 102 = .ok (.newarray .int, 2) := by decide +kernel
theorem dX12_init_104 : decode cX12_init 104 = .ok (.putfield 51, 3) := by decide +kernel
theorem dX12_init_107 : decode cX12_init 107 = .ok (.aload_n 0, 1) := by decide +kernel
theorem dX12_init_108 : decode cX12_init 108 = .ok (.sipush 2200, 3) := by decide +kernel
theorem dX12_init_111 : decode cX12_init 111 = .ok (.newarray .int, 2) := by decide +kernel
theorem dX12_init_113 : decode cX12_init 113 = .ok (.putfield 54, 3) := by decide +kernel
theorem dX12_init_116 : decode cX12_init 116 = .ok (.aload_n 0, 1) := by decide +kernel
theorem dX12_init_117 : decode cX12_init 117 = .ok (.sipush 2200, 3) := by decide +kernel
theorem dX12_init_120 : decode cX12_init 120 = .ok (.newarray .int, 2) := by decide +kernel
theorem dX12_init_122 : decode cX12_init 122 = .ok (.putfield 57, 3) := by decide +kernel
theorem dX12_init_125 : decode cX12_init 125 = .ok (.aload_n 0, 1) := by decide +kernel
theorem dX12_init_126 : decode cX12_init 126 = .ok (.iconst (-1), 1) := by decide +kernel
theorem dX12_init_127 : decode cX12_init 127 = .ok (.putfield 60, 3) := by decide +kernel
theorem dX12_init_130 : decode cX12_init 130 = .ok (.aload_n 0, 1) := by decide +kernel
theorem dX12_init_131 : decode cX12_init 131 = .ok (.sipush 200, 3) := by decide +kernel
theorem dX12_init_134 : decode cX12_init 134 = .ok (.newarray .int, 2) := by decide +kernel
theorem dX12_init_136 : decode cX12_init 136 = .ok (.putfield 63, 3) := by decide +kernel
theorem dX12_init_139 : decode cX12_init 139 = .ok (.aload_n 0, 1) := by decide +kernel
theorem dX12_init_140 : decode cX12_init 140 = .ok (.sipush 200, 3) := by decide +kernel
theorem dX12_init_143 : decode cX12_init 143 = .ok (.newarray .int, 2) := by decide +kernel
theorem dX12_init_145 : decode cX12_init 145 = .ok (.putfield 66, 3) := by decide +kernel
theorem dX12_init_148 : decode cX12_init 148 = .ok (.aload_n 0, 1) := by decide +kernel
theorem dX12_init_149 : decode cX12_init 149 = .ok (.sipush 130, 3) := by decide +kernel
theorem dX12_init_152 : decode cX12_init 152 = .ok (.newarray .int, 2) := by decide +kernel
theorem dX12_init_154 : decode cX12_init 154 = .ok (.putfield 69, 3) := by decide +kernel
theorem dX12_init_157 : decode cX12_init 157 = .ok (.aload_n 0, 1) := by decide +kernel
theorem dX12_init_158 : decode cX12_init 158 = .ok (.sipush 130, 3) := by decide +kernel
theorem dX12_init_161 : decode cX12_init 161 = .ok (.newarray .boolean, 2) := by decide +kernel
theorem dX12_init_163 : decode cX12_init 163 = .ok (.putfield 72, 3) := by decide +kernel
theorem dX12_init_166 : decode cX12_init 166 = .ok (.aload_n 0, 1) := by decide +kernel
theorem dX12_init_167 : decode cX12_init 167 = .ok (.bipush 8, 2) := by decide +kernel
theorem dX12_init_169 : decode cX12_init 169 = .ok (.newarray .int, 2) := by decide +kernel
theorem dX12_init_171 : decode cX12_init 171 = .ok (.putfield 75, 3) := by decide +kernel
theorem dX12_init_174 : decode cX12_init 174 = .ok (.aload_n 0, 1) := by decide +kernel
theorem dX12_init_175 : decode cX12_init 175 = .ok (.sipush 11008, 3) := by decide +kernel
theorem dX12_init_178 : decode cX12_init 178 = .ok (.newarray .int, 2) := by decide +kernel
theorem dX12_init_180 : decode cX12_init 180 = .ok (.putfield 78, 3) := by decide +kernel
theorem dX12_init_183 : decode cX12_init 183 = .ok (.aload_n 0, 1) := by decide +kernel
theorem dX12_init_184 : decode cX12_init 184 = .ok (.sipush 11008, 3) := by decide +kernel
theorem dX12_init_187 : decode cX12_init 187 = .ok (.newarray .int, 2) := by decide +kernel
theorem dX12_init_189 : decode cX12_init 189 = .ok (.putfield 81, 3) := by decide +kernel
theorem dX12_init_192 : decode cX12_init 192 = .ok (.aload_n 0, 1) := by decide +kernel
theorem dX12_init_193 : decode cX12_init 193 = .ok (.sipush 11008, 3) := by decide +kernel
theorem dX12_init_196 : decode cX12_init 196 = .ok (.newarray .int, 2) := by decide +kernel
theorem dX12_init_198 : decode cX12_init 198 = .ok (.putfield 84, 3) := by decide +kernel
theorem dX12_init_201 : decode cX12_init 201 = .ok (.aload_n 0, 1) := by decide +kernel
theorem dX12_init_202 : decode cX12_init 202 = .ok (.sipush 200, 3) := by decide +kernel
theorem dX12_init_205 : decode cX12_init 205 = .ok (.newarray .int, 2) := by decide +kernel
theorem dX12_init_207 : decode cX12_init 207 = .ok (.putfield 87, 3) := by decide +kernel
theorem dX12_init_210 : decode cX12_init 210 = .ok (.aload_n 0, 1) := by decide +kernel
theorem dX12_init_211 : decode cX12_init 211 = .ok (.invokevirtual 90, 3) := by decide +kernel
theorem dX12_init_214 : decode cX12_init 214 = .ok (.return_, 1) := by decide +kernel
theorem dX12_isIn_0 : decode cX12_isIn 0 = .ok (.iload_n 0, 1) := by decide +kernel
theorem dX12_isIn_1 : decode cX12_isIn 1 = .ok (.iload_n 1, 1) := by decide +kernel
theorem dX12_isIn_2 : decode cX12_isIn 2 = .ok (.if_icmp .lt 12, 3) := by decide +kernel
theorem dX12_isIn_5 : decode cX12_isIn 5 = .ok (.iload_n 0, 1) := by decide +kernel
theorem dX12_isIn_6 : decode cX12_isIn 6 = .ok (.iload_n 2, 1) := by decide +kernel
theorem dX12_isIn_7 : decode cX12_isIn 7 = .ok (.if_icmp .gt 7, 3) := by decide +kernel
theorem dX12_isIn_10 : decode cX12_isIn 10 = .ok (.iconst 1, 1) := by decide +kernel
theorem dX12_isIn_11 : decode cX12_isIn 11 = .ok (.goto 4, 3) := by decide +kernel
theorem dX12_isIn_14 : decode cX12_isIn 14 = .ok (.iconst 0, 1) := by decide +kernel
theorem dX12_isIn_15 : decode cX12_isIn 15 = .ok (.ireturn, 1) := by decide +kernel
theorem dX12_isPort_0 : decode cX12_isPort 0 = .ok (.iload_n 0, 1) := by decide +kernel
theorem dX12_isPort_1 : decode cX12_isPort 1 = .ok (.sipush 1792, 3) := by decide +kernel
theorem dX12_isPort_4 : decode cX12_isPort 4 = .ok (.if_icmp .lt 14, 3) := by decide +kernel
theorem dX12_isPort_7 : decode cX12_isPort 7 = .ok (.iload_n 0, 1) := by decide +kernel
theorem dX12_isPort_8 : decode cX12_isPort 8 = .ok (.sipush 2048, 3) := by decide +kernel
theorem dX12_isPort_11 : decode cX12_isPort 11 = .ok (.if_icmp .ge 7, 3) := by decide +kernel
theorem dX12_isPort_14 : decode cX12_isPort 14 = .ok (.iconst 1, 1) := by decide +kernel
theorem dX12_isPort_15 : decode cX12_isPort 15 = .ok (.goto 4, 3) := by decide +kernel
theorem dX12_isPort_18 : decode cX12_isPort 18 = .ok (.iconst 0, 1) := by decide +kernel
theorem dX12_isPort_19 : decode cX12_isPort 19 = .ok (.ireturn, 1) := by decide +kernel
theorem dX12_place_0 : decode cX12_place 0 = .ok (.iload_n 1, 1) := by decide +kernel
theorem dX12_place_1 : decode cX12_place 1 = .ok (.sipush 1792, 3) := by decide +kernel
theorem dX12_place_4 : decode cX12_place 4 = .ok (.if_icmp .ge 11, 3) := by decide +kernel
theorem dX12_place_7 : decode cX12_place 7 = .ok (.sipush 1101, 3) := by decide +kernel
theorem dX12_place_10 : decode cX12_place 10 = .ok (.iload_n 1, 1) := by decide +kernel
theorem dX12_place_11 : decode cX12_place 11 = .ok (.iadd, 1) := by decide +kernel
theorem dX12_place_12 : decode cX12_place 12 = .ok (.goto 43, 3) := by decide +kernel
theorem dX12_place_15 : decode cX12_place 15 = .ok (.iload_n 1, 1) := by decide +kernel
theorem dX12_place_16 : decode cX12_place 16 = .ok (.sipush 3072, 3) := by decide +kernel
theorem dX12_place_19 : decode cX12_place 19 = .ok (.if_icmp .ge 27, 3) := by decide +kernel
theorem dX12_place_22 : decode cX12_place 22 = .ok (.sipush 2893, 3) := by decide +kernel
theorem dX12_place_25 : decode cX12_place 25 = .ok (.sipush 1024, 3) := by decide +kernel
theorem dX12_place_28 : decode cX12_place 28 = .ok (.aload_n 0, 1) := by decide +kernel
theorem dX12_place_29 : decode cX12_place 29 = .ok (.getfield 9, 3) := by decide +kernel
theorem dX12_place_32 : decode cX12_place 32 = .ok (.bipush 9, 2) := by decide +kernel
theorem dX12_place_34 : decode cX12_place 34 = .ok (.iaload, 1) := by decide +kernel
theorem dX12_place_35 : decode cX12_place 35 = .ok (.imul, 1) := by decide +kernel
theorem dX12_place_36 : decode cX12_place 36 = .ok (.iadd, 1) := by decide +kernel
theorem dX12_place_37 : decode cX12_place 37 = .ok (.iload_n 1, 1) := by decide +kernel
theorem dX12_place_38 : decode cX12_place 38 = .ok (.iadd, 1) := by decide +kernel
theorem dX12_place_39 : decode cX12_place 39 = .ok (.sipush 2048, 3) := by decide +kernel
theorem dX12_place_42 : decode cX12_place 42 = .ok (.isub, 1) := by decide +kernel
theorem dX12_place_43 : decode cX12_place 43 = .ok (.goto 12, 3) := by decide +kernel
theorem dX12_place_46 : decode cX12_place 46 = .ok (.sipush 11085, 3) := by decide +kernel
theorem dX12_place_49 : decode cX12_place 49 = .ok (.iload_n 1, 1) := by decide +kernel
theorem dX12_place_50 : decode cX12_place 50 = .ok (.iadd, 1) := by decide +kernel
theorem dX12_place_51 : decode cX12_place 51 = .ok (.sipush 3072, 3) := by decide +kernel
theorem dX12_place_54 : decode cX12_place 54 = .ok (.isub, 1) := by decide +kernel
theorem dX12_place_55 : decode cX12_place 55 = .ok (.ireturn, 1) := by decide +kernel
theorem dX12_code_0 : decode cX12_code 0 = .ok (.iload_n 1, 1) := by decide +kernel
theorem dX12_code_1 : decode cX12_code 1 = .ok (.sipush 4095, 3) := by decide +kernel
theorem dX12_code_4 : decode cX12_code 4 = .ok (.iand, 1) := by decide +kernel
theorem dX12_code_5 : decode cX12_code 5 = .ok (.invokestatic 117, 3) := by decide +kernel
theorem dX12_code_8 : decode cX12_code 8 = .ok (.ifCond .eq 7, 3) := by decide +kernel
theorem dX12_code_11 : decode cX12_code 11 = .ok (.iconst 0, 1) := by decide +kernel
theorem dX12_code_12 : decode cX12_code 12 = .ok (.goto 17, 3) := by decide +kernel
theorem dX12_code_15 : decode cX12_code 15 = .ok (.aload_n 0, 1) := by decide +kernel
theorem dX12_code_16 : decode cX12_code 16 = .ok (.getfield 9, 3) := by decide +kernel
theorem dX12_code_19 : decode cX12_code 19 = .ok (.aload_n 0, 1) := by decide +kernel
theorem dX12_code_20 : decode cX12_code 20 = .ok (.iload_n 1, 1) := by decide +kernel
theorem dX12_code_21 : decode cX12_code 21 = .ok (.sipush 4095, 3) := by decide +kernel
theorem dX12_code_24 : decode cX12_code 24 = .ok (.iand, 1) := by decide +kernel
theorem dX12_code_25 : decode cX12_code 25 = .ok (.invokevirtual 121, 3) := by decide +kernel
theorem dX12_code_28 : decode cX12_code 28 = .ok (.iaload, 1) := by decide +kernel
theorem dX12_code_29 : decode cX12_code 29 = .ok (.ireturn, 1) := by decide +kernel
theorem dX12_vector_0 : decode cX12_vector 0 = .ok (.aload_n 0, 1) := by decide +kernel
theorem dX12_vector_1 : decode cX12_vector 1 = .ok (.sipush 4080, 3) := by decide +kernel
theorem dX12_vector_4 : decode cX12_vector 4 = .ok (.iconst 2, 1) := by decide +kernel
theorem dX12_vector_5 : decode cX12_vector 5 = .ok (.iload_n 1, 1) := by decide +kernel
theorem dX12_vector_6 : decode cX12_vector 6 = .ok (.imul, 1) := by decide +kernel
theorem dX12_vector_7 : decode cX12_vector 7 = .ok (.iadd, 1) := by decide +kernel
theorem dX12_vector_8 : decode cX12_vector 8 = .ok (.invokevirtual 125, 3) := by decide +kernel
theorem dX12_vector_11 : decode cX12_vector 11 = .ok (.sipush 256, 3) := by decide +kernel
theorem dX12_vector_14 : decode cX12_vector 14 = .ok (.aload_n 0, 1) := by decide +kernel
theorem dX12_vector_15 : decode cX12_vector 15 = .ok (.sipush 4081, 3) := by decide +kernel
theorem dX12_vector_18 : decode cX12_vector 18 = .ok (.iconst 2, 1) := by decide +kernel
theorem dX12_vector_19 : decode cX12_vector 19 = .ok (.iload_n 1, 1) := by decide +kernel
theorem dX12_vector_20 : decode cX12_vector 20 = .ok (.imul, 1) := by decide +kernel
theorem dX12_vector_21 : decode cX12_vector 21 = .ok (.iadd, 1) := by decide +kernel
theorem dX12_vector_22 : decode cX12_vector 22 = .ok (.invokevirtual 125, 3) := by decide +kernel
theorem dX12_vector_25 : decode cX12_vector 25 = .ok (.imul, 1) := by decide +kernel
theorem dX12_vector_26 : decode cX12_vector 26 = .ok (.iadd, 1) := by decide +kernel
theorem dX12_vector_27 : decode cX12_vector 27 = .ok (.sipush 4095, 3) := by decide +kernel
theorem dX12_vector_30 : decode cX12_vector 30 = .ok (.iand, 1) := by decide +kernel
theorem dX12_vector_31 : decode cX12_vector 31 = .ok (.ireturn, 1) := by decide +kernel
theorem dX12_modesFrom_0 : decode cX12_modesFrom 0 = .ok (.iload_n 0, 1) := by decide +kernel
theorem dX12_modesFrom_1 : decode cX12_modesFrom 1 = .ok (.bipush 16, 2) := by decide +kernel
theorem dX12_modesFrom_3 : decode cX12_modesFrom 3 = .ok (.if_icmp .ge 7, 3) := by decide +kernel
theorem dX12_modesFrom_6 : decode cX12_modesFrom 6 = .ok (.iconst 1, 1) := by decide +kernel
theorem dX12_modesFrom_7 : decode cX12_modesFrom 7 = .ok (.goto 14, 3) := by decide +kernel
theorem dX12_modesFrom_10 : decode cX12_modesFrom 10 = .ok (.iload_n 0, 1) := by decide +kernel
theorem dX12_modesFrom_11 : decode cX12_modesFrom 11 = .ok (.bipush 24, 2) := by decide +kernel
theorem dX12_modesFrom_13 : decode cX12_modesFrom 13 = .ok (.if_icmp .ge 7, 3) := by decide +kernel
theorem dX12_modesFrom_16 : decode cX12_modesFrom 16 = .ok (.iconst 2, 1) := by decide +kernel
theorem dX12_modesFrom_17 : decode cX12_modesFrom 17 = .ok (.goto 4, 3) := by decide +kernel
theorem dX12_modesFrom_20 : decode cX12_modesFrom 20 = .ok (.iconst 3, 1) := by decide +kernel
theorem dX12_modesFrom_21 : decode cX12_modesFrom 21 = .ok (.ireturn, 1) := by decide +kernel
theorem dX12_modesTo_0 : decode cX12_modesTo 0 = .ok (.iload_n 0, 1) := by decide +kernel
theorem dX12_modesTo_1 : decode cX12_modesTo 1 = .ok (.bipush 24, 2) := by decide +kernel
theorem dX12_modesTo_3 : decode cX12_modesTo 3 = .ok (.if_icmp .ge 8, 3) := by decide +kernel
theorem dX12_modesTo_6 : decode cX12_modesTo 6 = .ok (.bipush 6, 2) := by decide +kernel
theorem dX12_modesTo_8 : decode cX12_modesTo 8 = .ok (.goto 4, 3) := by decide +kernel
theorem dX12_modesTo_11 : decode cX12_modesTo 11 = .ok (.iconst 5, 1) := by decide +kernel
theorem dX12_modesTo_12 : decode cX12_modesTo 12 = .ok (.ireturn, 1) := by decide +kernel
theorem dX12_isInstruction_0 : decode cX12_isInstruction 0 = .ok (.iload_n 0, 1) := by decide +kernel
theorem dX12_isInstruction_1 : decode cX12_isInstruction 1 = .ok (.bipush 8, 2) := by decide +kernel
theorem dX12_isInstruction_3 : decode cX12_isInstruction 3 = .ok (.idiv, 1) := by decide +kernel
theorem dX12_isInstruction_4 : decode cX12_isInstruction 4 = .ok (.istore_n 1, 1) := by decide +kernel
theorem dX12_isInstruction_5 : decode cX12_isInstruction 5 = .ok (.iload_n 0, 1) := by decide +kernel
theorem dX12_isInstruction_6 : decode cX12_isInstruction 6 = .ok (.bipush 8, 2) := by decide +kernel
theorem dX12_isInstruction_8 : decode cX12_isInstruction 8 = .ok (.irem, 1) := by decide +kernel
theorem dX12_isInstruction_9 : decode cX12_isInstruction 9 = .ok (.istore_n 2, 1) := by decide +kernel
theorem dX12_isInstruction_10 : decode cX12_isInstruction 10 = .ok (.iload_n 1, 1) := by decide +kernel
theorem dX12_isInstruction_11 : decode cX12_isInstruction 11 = .ok (.iconst 4, 1) := by decide +kernel
theorem dX12_isInstruction_12 : decode cX12_isInstruction 12 = .ok (.if_icmp .lt 9, 3) := by decide +kernel
theorem dX12_isInstruction_15 : decode cX12_isInstruction 15 = .ok (.iload_n 1, 1) := by decide +kernel
theorem dX12_isInstruction_16 : decode cX12_isInstruction 16 = .ok (.bipush 26, 2) := by decide +kernel
theorem dX12_isInstruction_18 : decode cX12_isInstruction 18 = .ok (.if_icmp .ne 5, 3) := by decide +kernel
theorem dX12_isInstruction_21 : decode cX12_isInstruction 21 = .ok (.iconst 1, 1) := by decide +kernel
theorem dX12_isInstruction_22 : decode cX12_isInstruction 22 = .ok (.ireturn, 1) := by decide +kernel
theorem dX12_isInstruction_23 : decode cX12_isInstruction 23 = .ok (.iload_n 1, 1) := by decide +kernel
theorem dX12_isInstruction_24 : decode cX12_isInstruction 24 = .ok (.bipush 27, 2) := by decide +kernel
theorem dX12_isInstruction_26 : decode cX12_isInstruction 26 = .ok (.if_icmp .ne 14, 3) := by decide +kernel
theorem dX12_isInstruction_29 : decode cX12_isInstruction 29 = .ok (.iload_n 2, 1) := by decide +kernel
theorem dX12_isInstruction_30 : decode cX12_isInstruction 30 = .ok (.iconst 2, 1) := by decide +kernel
theorem dX12_isInstruction_31 : decode cX12_isInstruction 31 = .ok (.if_icmp .ge 7, 3) := by decide +kernel
theorem dX12_isInstruction_34 : decode cX12_isInstruction 34 = .ok (.iconst 1, 1) := by decide +kernel
theorem dX12_isInstruction_35 : decode cX12_isInstruction 35 = .ok (.goto 4, 3) := by decide +kernel
theorem dX12_isInstruction_38 : decode cX12_isInstruction 38 = .ok (.iconst 0, 1) := by decide +kernel
theorem dX12_isInstruction_39 : decode cX12_isInstruction 39 = .ok (.ireturn, 1) := by decide +kernel
theorem dX12_isInstruction_40 : decode cX12_isInstruction 40 = .ok (.iload_n 1, 1) := by decide +kernel
theorem dX12_isInstruction_41 : decode cX12_isInstruction 41 = .ok (.bipush 26, 2) := by decide +kernel
theorem dX12_isInstruction_43 : decode cX12_isInstruction 43 = .ok (.if_icmp .ge 22, 3) := by decide +kernel
theorem dX12_isInstruction_46 : decode cX12_isInstruction 46 = .ok (.iload_n 2, 1) := by decide +kernel
theorem dX12_isInstruction_47 : decode cX12_isInstruction 47 = .ok (.iload_n 1, 1) := by decide +kernel
theorem dX12_isInstruction_48 : decode cX12_isInstruction 48 = .ok (.invokestatic 182, 3) := by decide +kernel
theorem dX12_isInstruction_51 : decode cX12_isInstruction 51 = .ok (.iload_n 1, 1) := by decide +kernel
theorem dX12_isInstruction_52 : decode cX12_isInstruction 52 = .ok (.invokestatic 185, 3) := by decide +kernel
theorem dX12_isInstruction_55 : decode cX12_isInstruction 55 = .ok (.invokestatic 96, 3) := by decide +kernel
theorem dX12_isInstruction_58 : decode cX12_isInstruction 58 = .ok (.ifCond .eq 7, 3) := by decide +kernel
theorem dX12_isInstruction_61 : decode cX12_isInstruction 61 = .ok (.iconst 1, 1) := by decide +kernel
theorem dX12_isInstruction_62 : decode cX12_isInstruction 62 = .ok (.goto 4, 3) := by decide +kernel
theorem dX12_isInstruction_65 : decode cX12_isInstruction 65 = .ok (.iconst 0, 1) := by decide +kernel
theorem dX12_isInstruction_66 : decode cX12_isInstruction 66 = .ok (.ireturn, 1) := by decide +kernel
theorem dX12_length_0 : decode cX12_length 0 = .ok (.iload_n 0, 1) := by decide +kernel
theorem dX12_length_1 : decode cX12_length 1 = .ok (.bipush 8, 2) := by decide +kernel
theorem dX12_length_3 : decode cX12_length 3 = .ok (.idiv, 1) := by decide +kernel
theorem dX12_length_4 : decode cX12_length 4 = .ok (.istore_n 1, 1) := by decide +kernel
theorem dX12_length_5 : decode cX12_length 5 = .ok (.iload_n 0, 1) := by decide +kernel
theorem dX12_length_6 : decode cX12_length 6 = .ok (.bipush 8, 2) := by decide +kernel
theorem dX12_length_8 : decode cX12_length 8 = .ok (.irem, 1) := by decide +kernel
theorem dX12_length_9 : decode cX12_length 9 = .ok (.istore_n 2, 1) := by decide +kernel
theorem dX12_length_10 : decode cX12_length 10 = .ok (.iload_n 1, 1) := by decide +kernel
theorem dX12_length_11 : decode cX12_length 11 = .ok (.iconst 4, 1) := by decide +kernel
theorem dX12_length_12 : decode cX12_length 12 = .ok (.if_icmp .ge 7, 3) := by decide +kernel
theorem dX12_length_15 : decode cX12_length 15 = .ok (.iconst 1, 1) := by decide +kernel
theorem dX12_length_16 : decode cX12_length 16 = .ok (.goto 24, 3) := by decide +kernel
theorem dX12_length_19 : decode cX12_length 19 = .ok (.iload_n 1, 1) := by decide +kernel
theorem dX12_length_20 : decode cX12_length 20 = .ok (.bipush 25, 2) := by decide +kernel
theorem dX12_length_22 : decode cX12_length 22 = .ok (.if_icmp .gt 13, 3) := by decide +kernel
theorem dX12_length_25 : decode cX12_length 25 = .ok (.iload_n 2, 1) := by decide +kernel
theorem dX12_length_26 : decode cX12_length 26 = .ok (.iconst 3, 1) := by decide +kernel
theorem dX12_length_27 : decode cX12_length 27 = .ok (.if_icmp .lt 8, 3) := by decide +kernel
theorem dX12_length_30 : decode cX12_length 30 = .ok (.iload_n 2, 1) := by decide +kernel
theorem dX12_length_31 : decode cX12_length 31 = .ok (.iconst 4, 1) := by decide +kernel
theorem dX12_length_32 : decode cX12_length 32 = .ok (.if_icmp .le 7, 3) := by decide +kernel
theorem dX12_length_35 : decode cX12_length 35 = .ok (.iconst 2, 1) := by decide +kernel
theorem dX12_length_36 : decode cX12_length 36 = .ok (.goto 4, 3) := by decide +kernel
theorem dX12_length_39 : decode cX12_length 39 = .ok (.iconst 3, 1) := by decide +kernel
theorem dX12_length_40 : decode cX12_length 40 = .ok (.ireturn, 1) := by decide +kernel
end
section
theorem dX12_forget_0 : decode cX12_forget 0 = .ok (.aload_n 0, 1) := by decide +kernel
theorem dX12_forget_1 : decode cX12_forget 1 = .ok (.iconst 0, 1) := by decide +kernel
theorem dX12_forget_2 : decode cX12_forget 2 = .ok (.putfield 272, 3) := by decide +kernel
theorem dX12_forget_5 : decode cX12_forget 5 = .ok (.return_, 1) := by decide +kernel
theorem dX12_start_0 : decode cX12_start 0 = .ok (.bipush 17, 2) := by decide +kernel
theorem dX12_start_2 : decode cX12_start 2 = .ok (.newarray .int, 2) := by decide +kernel
theorem dX12_start_4 : decode cX12_start 4 = .ok (.dup, 1) := by decide +kernel
theorem dX12_start_5 : decode cX12_start 5 = .ok (.iconst 0, 1) := by decide +kernel
theorem dX12_start_6 : decode cX12_start 6 = .ok (.iconst 0, 1) := by decide +kernel
theorem dX12_start_7 : decode cX12_start 7 = .ok (.iastore, 1) := by decide +kernel
theorem dX12_start_8 : decode cX12_start 8 = .ok (.dup, 1) := by decide +kernel
theorem dX12_start_9 : decode cX12_start 9 = .ok (.iconst 1, 1) := by decide +kernel
theorem dX12_start_10 : decode cX12_start 10 = .ok (.iconst 1, 1) := by decide +kernel
theorem dX12_start_11 : decode cX12_start 11 = .ok (.iastore, 1) := by decide +kernel
theorem dX12_start_12 : decode cX12_start 12 = .ok (.dup, 1) := by decide +kernel
theorem dX12_start_13 : decode cX12_start 13 = .ok (.iconst 2, 1) := by decide +kernel
theorem dX12_start_14 : decode cX12_start 14 = .ok (.iconst 5, 1) := by decide +kernel
theorem dX12_start_15 : decode cX12_start 15 = .ok (.iastore, 1) := by decide +kernel
theorem dX12_start_16 : decode cX12_start 16 = .ok (.dup, 1) := by decide +kernel
theorem dX12_start_17 : decode cX12_start 17 = .ok (.iconst 3, 1) := by decide +kernel
theorem dX12_start_18 : decode cX12_start 18 = .ok (.bipush 6, 2) := by decide +kernel
theorem dX12_start_20 : decode cX12_start 20 = .ok (.iastore, 1) := by decide +kernel
theorem dX12_start_21 : decode cX12_start 21 = .ok (.dup, 1) := by decide +kernel
theorem dX12_start_22 : decode cX12_start 22 = .ok (.iconst 4, 1) := by decide +kernel
theorem dX12_start_23 : decode cX12_start 23 = .ok (.bipush 7, 2) := by decide +kernel
theorem dX12_start_25 : decode cX12_start 25 = .ok (.iastore, 1) := by decide +kernel
theorem dX12_start_26 : decode cX12_start 26 = .ok (.dup, 1) := by decide +kernel
theorem dX12_start_27 : decode cX12_start 27 = .ok (.iconst 5, 1) := by decide +kernel
theorem dX12_start_28 : decode cX12_start 28 = .ok (.bipush 8, 2) := by decide +kernel
theorem dX12_start_30 : decode cX12_start 30 = .ok (.iastore, 1) := by decide +kernel
theorem dX12_start_31 : decode cX12_start 31 = .ok (.dup, 1) := by decide +kernel
theorem dX12_start_32 : decode cX12_start 32 = .ok (.bipush 6, 2) := by decide +kernel
theorem dX12_start_34 : decode cX12_start 34 = .ok (.bipush 9, 2) := by decide +kernel
theorem dX12_start_36 : decode cX12_start 36 = .ok (.iastore, 1) := by decide +kernel
theorem dX12_start_37 : decode cX12_start 37 = .ok (.dup, 1) := by decide +kernel
theorem dX12_start_38 : decode cX12_start 38 = .ok (.bipush 7, 2) := by decide +kernel
theorem dX12_start_40 : decode cX12_start 40 = .ok (.bipush 10, 2) := by decide +kernel
theorem dX12_start_42 : decode cX12_start 42 = .ok (.iastore, 1) := by decide +kernel
theorem dX12_start_43 : decode cX12_start 43 = .ok (.dup, 1) := by decide +kernel
theorem dX12_start_44 : decode cX12_start 44 = .ok (.bipush 8, 2) := by decide +kernel
theorem dX12_start_46 : decode cX12_start 46 = .ok (.bipush 11, 2) := by decide +kernel
theorem dX12_start_48 : decode cX12_start 48 = .ok (.iastore, 1) := by decide +kernel
theorem dX12_start_49 : decode cX12_start 49 = .ok (.dup, 1) := by decide +kernel
theorem dX12_start_50 : decode cX12_start 50 = .ok (.bipush 9, 2) := by decide +kernel
theorem dX12_start_52 : decode cX12_start 52 = .ok (.bipush 12, 2) := by decide +kernel
theorem dX12_start_54 : decode cX12_start 54 = .ok (.iastore, 1) := by decide +kernel
theorem dX12_start_55 : decode cX12_start 55 = .ok (.dup, 1) := by decide +kernel
theorem dX12_start_56 : decode cX12_start 56 = .ok (.bipush 10, 2) := by decide +kernel
theorem dX12_start_58 : decode cX12_start 58 = .ok (.bipush 13, 2) := by decide +kernel
theorem dX12_start_60 : decode cX12_start 60 = .ok (.iastore, 1) := by decide +kernel
theorem dX12_start_61 : decode cX12_start 61 = .ok (.dup, 1) := by decide +kernel
theorem dX12_start_62 : decode cX12_start 62 = .ok (.bipush 11, 2) := by decide +kernel
theorem dX12_start_64 : decode cX12_start 64 = .ok (.bipush 14, 2) := by decide +kernel
theorem dX12_start_66 : decode cX12_start 66 = .ok (.iastore, 1) := by decide +kernel
theorem dX12_start_67 : decode cX12_start 67 = .ok (.dup, 1) := by decide +kernel
theorem dX12_start_68 : decode cX12_start 68 = .ok (.bipush 12, 2) := by decide +kernel
theorem dX12_start_70 : decode cX12_start 70 = .ok (.bipush 16, 2) := by decide +kernel
theorem dX12_start_72 : decode cX12_start 72 = .ok (.iastore, 1) := by decide +kernel
theorem dX12_start_73 : decode cX12_start 73 = .ok (.dup, 1) := by decide +kernel
theorem dX12_start_74 : decode cX12_start 74 = .ok (.bipush 13, 2) := by decide +kernel
theorem dX12_start_76 : decode cX12_start 76 = .ok (.bipush 17, 2) := by decide +kernel
theorem dX12_start_78 : decode cX12_start 78 = .ok (.iastore, 1) := by decide +kernel
theorem dX12_start_79 : decode cX12_start 79 = .ok (.dup, 1) := by decide +kernel
theorem dX12_start_80 : decode cX12_start 80 = .ok (.bipush 14, 2) := by decide +kernel
theorem dX12_start_82 : decode cX12_start 82 = .ok (.bipush 18, 2) := by decide +kernel
theorem dX12_start_84 : decode cX12_start 84 = .ok (.iastore, 1) := by decide +kernel
theorem dX12_start_85 : decode cX12_start 85 = .ok (.dup, 1) := by decide +kernel
theorem dX12_start_86 : decode cX12_start 86 = .ok (.bipush 15, 2) := by decide +kernel
theorem dX12_start_88 : decode cX12_start 88 = .ok (.bipush 19, 2) := by decide +kernel
theorem dX12_start_90 : decode cX12_start 90 = .ok (.iastore, 1) := by decide +kernel
theorem dX12_start_91 : decode cX12_start 91 = .ok (.dup, 1) := by decide +kernel
theorem dX12_start_92 : decode cX12_start 92 = .ok (.bipush 16, 2) := by decide +kernel
theorem dX12_start_94 : decode cX12_start 94 = .ok (.bipush 20, 2) := by decide +kernel
theorem dX12_start_96 : decode cX12_start 96 = .ok (.iastore, 1) := by decide +kernel
theorem dX12_start_97 : decode cX12_start 97 = .ok (.astore_n 1, 1) := by decide +kernel
theorem dX12_start_98 : decode cX12_start 98 = .ok (.aload_n 1, 1) := by decide +kernel
theorem dX12_start_99 : decode cX12_start 99 = .ok (.astore_n 2, 1) := by decide +kernel
theorem dX12_start_100 : decode cX12_start 100 = .ok (.aload_n 2, 1) := by decide +kernel
theorem dX12_start_101 : decode cX12_start 101 = .ok (.arraylength, 1) := by decide +kernel
theorem dX12_start_102 : decode cX12_start 102 = .ok (.istore_n 3, 1) := by decide +kernel
theorem dX12_start_103 : decode cX12_start 103 = .ok (.iconst 0, 1) := by decide +kernel
theorem dX12_start_104 : decode cX12_start 104 = .ok (.istore 4, 2) := by decide +kernel
theorem dX12_start_106 : decode cX12_start 106 = .ok (.iload 4, 2) := by decide +kernel
theorem dX12_start_108 : decode cX12_start 108 = .ok (.iload_n 3, 1) := by decide +kernel
theorem dX12_start_109 : decode cX12_start 109 = .ok (.if_icmp .ge 23, 3) := by decide +kernel
theorem dX12_start_112 : decode cX12_start 112 = .ok (.aload_n 2, 1) := by decide +kernel
theorem dX12_start_113 : decode cX12_start 113 = .ok (.iload 4, 2) := by decide +kernel
theorem dX12_start_115 : decode cX12_start 115 = .ok (.iaload, 1) := by decide +kernel
theorem dX12_start_116 : decode cX12_start 116 = .ok (.istore 5, 2) := by decide +kernel
theorem dX12_start_118 : decode cX12_start 118 = .ok (.aload_n 0, 1) := by decide +kernel
theorem dX12_start_119 : decode cX12_start 119 = .ok (.getfield 9, 3) := by decide +kernel
theorem dX12_start_122 : decode cX12_start 122 = .ok (.iload 5, 2) := by decide +kernel
theorem dX12_start_124 : decode cX12_start 124 = .ok (.iconst 0, 1) := by decide +kernel
theorem dX12_start_125 : decode cX12_start 125 = .ok (.iastore, 1) := by decide +kernel
theorem dX12_start_126 : decode cX12_start 126 = .ok (.iinc 4 1, 3) := by decide +kernel
theorem dX12_start_129 : decode cX12_start 129 = .ok (.goto (-23), 3) := by decide +kernel
theorem dX12_start_132 : decode cX12_start 132 = .ok (.iconst 0, 1) := by decide +kernel
theorem dX12_start_133 : decode cX12_start 133 = .ok (.istore_n 2, 1) := by decide +kernel
theorem dX12_start_134 : decode cX12_start 134 = .ok (.iload_n 2, 1) := by decide +kernel
theorem dX12_start_135 : decode cX12_start 135 = .ok (.sipush 4096, 3) := by decide +kernel
theorem dX12_start_138 : decode cX12_start 138 = .ok (.if_icmp .ge 20, 3) := by decide +kernel
theorem dX12_start_141 : decode cX12_start 141 = .ok (.aload_n 0, 1) := by decide +kernel
theorem dX12_start_142 : decode cX12_start 142 = .ok (.getfield 9, 3) := by decide +kernel
theorem dX12_start_145 : decode cX12_start 145 = .ok (.sipush 12109, 3) := by decide +kernel
theorem dX12_start_148 : decode cX12_start 148 = .ok (.iload_n 2, 1) := by decide +kernel
theorem dX12_start_149 : decode cX12_start 149 = .ok (.iadd, 1) := by decide +kernel
theorem dX12_start_150 : decode cX12_start 150 = .ok (.iconst 0, 1) := by decide +kernel
theorem dX12_start_151 : decode cX12_start 151 = .ok (.iastore, 1) := by decide +kernel
theorem dX12_start_152 : decode cX12_start 152 = .ok (.iinc 2 1, 3) := by decide +kernel
theorem dX12_start_155 : decode cX12_start 155 = .ok (.goto (-21), 3) := by decide +kernel
theorem dX12_start_158 : decode cX12_start 158 = .ok (.aload_n 0, 1) := by decide +kernel
theorem dX12_start_159 : decode cX12_start 159 = .ok (.getfield 9, 3) := by decide +kernel
theorem dX12_start_162 : decode cX12_start 162 = .ok (.iconst 2, 1) := by decide +kernel
theorem dX12_start_163 : decode cX12_start 163 = .ok (.sipush 255, 3) := by decide +kernel
theorem dX12_start_166 : decode cX12_start 166 = .ok (.iastore, 1) := by decide +kernel
theorem dX12_start_167 : decode cX12_start 167 = .ok (.aload_n 0, 1) := by decide +kernel
theorem dX12_start_168 : decode cX12_start 168 = .ok (.getfield 9, 3) := by decide +kernel
theorem dX12_start_171 : decode cX12_start 171 = .ok (.iconst 3, 1) := by decide +kernel
theorem dX12_start_172 : decode cX12_start 172 = .ok (.iconst 4, 1) := by decide +kernel
theorem dX12_start_173 : decode cX12_start 173 = .ok (.iastore, 1) := by decide +kernel
theorem dX12_start_174 : decode cX12_start 174 = .ok (.aload_n 0, 1) := by decide +kernel
theorem dX12_start_175 : decode cX12_start 175 = .ok (.getfield 9, 3) := by decide +kernel
theorem dX12_start_178 : decode cX12_start 178 = .ok (.bipush 15, 2) := by decide +kernel
theorem dX12_start_180 : decode cX12_start 180 = .ok (.iconst 1, 1) := by decide +kernel
theorem dX12_start_181 : decode cX12_start 181 = .ok (.iastore, 1) := by decide +kernel
theorem dX12_start_182 : decode cX12_start 182 = .ok (.aload_n 0, 1) := by decide +kernel
theorem dX12_start_183 : decode cX12_start 183 = .ok (.getfield 9, 3) := by decide +kernel
theorem dX12_start_186 : decode cX12_start 186 = .ok (.iconst 4, 1) := by decide +kernel
theorem dX12_start_187 : decode cX12_start 187 = .ok (.aload_n 0, 1) := by decide +kernel
theorem dX12_start_188 : decode cX12_start 188 = .ok (.iconst 0, 1) := by decide +kernel
theorem dX12_start_189 : decode cX12_start 189 = .ok (.invokevirtual 275, 3) := by decide +kernel
theorem dX12_start_192 : decode cX12_start 192 = .ok (.iastore, 1) := by decide +kernel
theorem dX12_start_193 : decode cX12_start 193 = .ok (.aload_n 0, 1) := by decide +kernel
theorem dX12_start_194 : decode cX12_start 194 = .ok (.iconst 0, 1) := by decide +kernel
theorem dX12_start_195 : decode cX12_start 195 = .ok (.putfield 278, 3) := by decide +kernel
theorem dX12_start_198 : decode cX12_start 198 = .ok (.aload_n 0, 1) := by decide +kernel
theorem dX12_start_199 : decode cX12_start 199 = .ok (.invokevirtual 281, 3) := by decide +kernel
theorem dX12_start_202 : decode cX12_start 202 = .ok (.return_, 1) := by decide +kernel
end
section
theorem dX12_reached_0 : decode cX12_reached 0 = .ok (.sipush 4096, 3) := by decide +kernel
theorem dX12_reached_3 : decode cX12_reached 3 = .ok (.newarray .boolean, 2) := by decide +kernel
theorem dX12_reached_5 : decode cX12_reached 5 = .ok (.astore_n 1, 1) := by decide +kernel
theorem dX12_reached_6 : decode cX12_reached 6 = .ok (.sipush 4096, 3) := by decide +kernel
theorem dX12_reached_9 : decode cX12_reached 9 = .ok (.newarray .int, 2) := by decide +kernel
theorem dX12_reached_11 : decode cX12_reached 11 = .ok (.astore_n 2, 1) := by decide +kernel
theorem dX12_reached_12 : decode cX12_reached 12 = .ok (.iconst 0, 1) := by decide +kernel
theorem dX12_reached_13 : decode cX12_reached 13 = .ok (.istore_n 3, 1) := by decide +kernel
theorem dX12_reached_14 : decode cX12_reached 14 = .ok (.iconst (-1), 1) := by decide +kernel
theorem dX12_reached_15 : decode cX12_reached 15 = .ok (.istore 4, 2) := by decide +kernel
theorem dX12_reached_17 : decode cX12_reached 17 = .ok (.iload 4, 2) := by decide +kernel
theorem dX12_reached_19 : decode cX12_reached 19 = .ok (.bipush 8, 2) := by decide +kernel
theorem dX12_reached_21 : decode cX12_reached 21 = .ok (.if_icmp .ge 51, 3) := by decide +kernel
theorem dX12_reached_24 : decode cX12_reached 24 = .ok (.iload 4, 2) := by decide +kernel
theorem dX12_reached_26 : decode cX12_reached 26 = .ok (.ifCond .ge 12, 3) := by decide +kernel
theorem dX12_reached_29 : decode cX12_reached 29 = .ok (.aload_n 0, 1) := by decide +kernel
theorem dX12_reached_30 : decode cX12_reached 30 = .ok (.getfield 9, 3) := by decide +kernel
theorem dX12_reached_33 : decode cX12_reached 33 = .ok (.iconst 4, 1) := by decide +kernel
theorem dX12_reached_34 : decode cX12_reached 34 = .ok (.iaload, 1) := by decide +kernel
theorem dX12_reached_35 : decode cX12_reached 35 = .ok (.goto 9, 3) := by decide +kernel
theorem dX12_reached_38 : decode cX12_reached 38 = .ok (.aload_n 0, 1) := by decide +kernel
theorem dX12_reached_39 : decode cX12_reached 39 = .ok (.iload 4, 2) := by decide +kernel
theorem dX12_reached_41 : decode cX12_reached 41 = .ok (.invokevirtual 275, 3) := by decide +kernel
theorem dX12_reached_44 : decode cX12_reached 44 = .ok (.istore 5, 2) := by decide +kernel
theorem dX12_reached_46 : decode cX12_reached 46 = .ok (.aload_n 1, 1) := by decide +kernel
theorem dX12_reached_47 : decode cX12_reached 47 = .ok (.iload 5, 2) := by decide +kernel
theorem dX12_reached_49 : decode cX12_reached 49 = .ok (.baload, 1) := by decide +kernel
theorem dX12_reached_50 : decode cX12_reached 50 = .ok (.ifCond .ne 11, 3) := by decide +kernel
theorem dX12_reached_53 : decode cX12_reached 53 = .ok (.aload_n 2, 1) := by decide +kernel
theorem dX12_reached_54 : decode cX12_reached 54 = .ok (.iload_n 3, 1) := by decide +kernel
theorem dX12_reached_55 : decode cX12_reached 55 = .ok (.iinc 3 1, 3) := by decide +kernel
theorem dX12_reached_58 : decode cX12_reached 58 = .ok (.iload 5, 2) := by decide +kernel
theorem dX12_reached_60 : decode cX12_reached 60 = .ok (.iastore, 1) := by decide +kernel
theorem dX12_reached_61 : decode cX12_reached 61 = .ok (.aload_n 1, 1) := by decide +kernel
theorem dX12_reached_62 : decode cX12_reached 62 = .ok (.iload 5, 2) := by decide +kernel
theorem dX12_reached_64 : decode cX12_reached 64 = .ok (.iconst 1, 1) := by decide +kernel
theorem dX12_reached_65 : decode cX12_reached 65 = .ok (.bastore, 1) := by decide +kernel
theorem dX12_reached_66 : decode cX12_reached 66 = .ok (.iinc 4 1, 3) := by decide +kernel
theorem dX12_reached_69 : decode cX12_reached 69 = .ok (.goto (-52), 3) := by decide +kernel
theorem dX12_reached_72 : decode cX12_reached 72 = .ok (.iconst 0, 1) := by decide +kernel
theorem dX12_reached_73 : decode cX12_reached 73 = .ok (.istore 4, 2) := by decide +kernel
theorem dX12_reached_75 : decode cX12_reached 75 = .ok (.iload 4, 2) := by decide +kernel
theorem dX12_reached_77 : decode cX12_reached 77 = .ok (.iload_n 3, 1) := by decide +kernel
theorem dX12_reached_78 : decode cX12_reached 78 = .ok (.if_icmp .ge 270, 3) := by decide +kernel
theorem dX12_reached_81 : decode cX12_reached 81 = .ok (.aload_n 2, 1) := by decide +kernel
theorem dX12_reached_82 : decode cX12_reached 82 = .ok (.iload 4, 2) := by decide +kernel
theorem dX12_reached_84 : decode cX12_reached 84 = .ok (.iaload, 1) := by decide +kernel
theorem dX12_reached_85 : decode cX12_reached 85 = .ok (.istore 5, 2) := by decide +kernel
theorem dX12_reached_87 : decode cX12_reached 87 = .ok (.aload_n 0, 1) := by decide +kernel
theorem dX12_reached_88 : decode cX12_reached 88 = .ok (.iload 5, 2) := by decide +kernel
theorem dX12_reached_90 : decode cX12_reached 90 = .ok (.invokevirtual 125, 3) := by decide +kernel
theorem dX12_reached_93 : decode cX12_reached 93 = .ok (.istore 6, 2) := by decide +kernel
theorem dX12_reached_95 : decode cX12_reached 95 = .ok (.iload 6, 2) := by decide +kernel
theorem dX12_reached_97 : decode cX12_reached 97 = .ok (.invokestatic 253, 3) := by decide +kernel
theorem dX12_reached_100 : decode cX12_reached 100 = .ok (.ifCond .ne 11, 3) := by decide +kernel
theorem dX12_reached_111 : decode cX12_reached 111 = .ok (.iload 6, 2) := by decide +kernel
theorem dX12_reached_113 : decode cX12_reached 113 = .ok (.bipush 8, 2) := by decide +kernel
theorem dX12_reached_115 : decode cX12_reached 115 = .ok (.idiv, 1) := by decide +kernel
theorem dX12_reached_116 : decode cX12_reached 116 = .ok (.istore 7, 2) := by decide +kernel
theorem dX12_reached_118 : decode cX12_reached 118 = .ok (.iload 6, 2) := by decide +kernel
theorem dX12_reached_120 : decode cX12_reached 120 = .ok (.iconst 1, 1) := by decide +kernel
theorem dX12_reached_121 : decode cX12_reached 121 = .ok (.if_icmp .eq 30, 3) := by decide +kernel
theorem dX12_reached_124 : decode cX12_reached 124 = .ok (.iload 6, 2) := by decide +kernel
theorem dX12_reached_126 : decode cX12_reached 126 = .ok (.iconst 3, 1) := by decide +kernel
theorem dX12_reached_127 : decode cX12_reached 127 = .ok (.if_icmp .eq 24, 3) := by decide +kernel
theorem dX12_reached_130 : decode cX12_reached 130 = .ok (.iload 6, 2) := by decide +kernel
theorem dX12_reached_132 : decode cX12_reached 132 = .ok (.iconst 4, 1) := by decide +kernel
theorem dX12_reached_133 : decode cX12_reached 133 = .ok (.if_icmp .eq 18, 3) := by decide +kernel
theorem dX12_reached_136 : decode cX12_reached 136 = .ok (.iload 7, 2) := by decide +kernel
theorem dX12_reached_138 : decode cX12_reached 138 = .ok (.bipush 24, 2) := by decide +kernel
theorem dX12_reached_140 : decode cX12_reached 140 = .ok (.if_icmp .eq 11, 3) := by decide +kernel
theorem dX12_reached_143 : decode cX12_reached 143 = .ok (.iload 6, 2) := by decide +kernel
theorem dX12_reached_145 : decode cX12_reached 145 = .ok (.sipush 216, 3) := by decide +kernel
theorem dX12_reached_148 : decode cX12_reached 148 = .ok (.if_icmp .ne 7, 3) := by decide +kernel
theorem dX12_reached_155 : decode cX12_reached 155 = .ok (.iconst 0, 1) := by decide +kernel
theorem dX12_reached_156 : decode cX12_reached 156 = .ok (.istore 8, 2) := by decide +kernel
theorem dX12_reached_158 : decode cX12_reached 158 = .ok (.iconst 2, 1) := by decide +kernel
theorem dX12_reached_159 : decode cX12_reached 159 = .ok (.newarray .int, 2) := by decide +kernel
theorem dX12_reached_161 : decode cX12_reached 161 = .ok (.dup, 1) := by decide +kernel
theorem dX12_reached_162 : decode cX12_reached 162 = .ok (.iconst 0, 1) := by decide +kernel
theorem dX12_reached_163 : decode cX12_reached 163 = .ok (.iload 8, 2) := by decide +kernel
theorem dX12_reached_165 : decode cX12_reached 165 = .ok (.ifCond .eq 7, 3) := by decide +kernel
theorem dX12_reached_172 : decode cX12_reached 172 = .ok (.iload 5, 2) := by decide +kernel
theorem dX12_reached_174 : decode cX12_reached 174 = .ok (.iload 6, 2) := by decide +kernel
theorem dX12_reached_176 : decode cX12_reached 176 = .ok (.invokestatic 228, 3) := by decide +kernel
theorem dX12_reached_179 : decode cX12_reached 179 = .ok (.iadd, 1) := by decide +kernel
theorem dX12_reached_180 : decode cX12_reached 180 = .ok (.sipush 4095, 3) := by decide +kernel
theorem dX12_reached_183 : decode cX12_reached 183 = .ok (.iand, 1) := by decide +kernel
theorem dX12_reached_184 : decode cX12_reached 184 = .ok (.iastore, 1) := by decide +kernel
theorem dX12_reached_185 : decode cX12_reached 185 = .ok (.dup, 1) := by decide +kernel
theorem dX12_reached_186 : decode cX12_reached 186 = .ok (.iconst 1, 1) := by decide +kernel
theorem dX12_reached_187 : decode cX12_reached 187 = .ok (.iload 7, 2) := by decide +kernel
theorem dX12_reached_189 : decode cX12_reached 189 = .ok (.bipush 24, 2) := by decide +kernel
theorem dX12_reached_191 : decode cX12_reached 191 = .ok (.if_icmp .eq 10, 3) := by decide +kernel
theorem dX12_reached_194 : decode cX12_reached 194 = .ok (.iload 7, 2) := by decide +kernel
theorem dX12_reached_196 : decode cX12_reached 196 = .ok (.bipush 25, 2) := by decide +kernel
theorem dX12_reached_198 : decode cX12_reached 198 = .ok (.if_icmp .ne 40, 3) := by decide +kernel
theorem dX12_reached_238 : decode cX12_reached 238 = .ok (.iload 7, 2) := by decide +kernel
theorem dX12_reached_240 : decode cX12_reached 240 = .ok (.bipush 25, 2) := by decide +kernel
theorem dX12_reached_242 : decode cX12_reached 242 = .ok (.if_icmp .le 12, 3) := by decide +kernel
theorem dX12_reached_254 : decode cX12_reached 254 = .ok (.iload 6, 2) := by decide +kernel
theorem dX12_reached_256 : decode cX12_reached 256 = .ok (.iconst 5, 1) := by decide +kernel
theorem dX12_reached_257 : decode cX12_reached 257 = .ok (.if_icmp .ne 12, 3) := by decide +kernel
theorem dX12_reached_269 : decode cX12_reached 269 = .ok (.iconst (-1), 1) := by decide +kernel
theorem dX12_reached_270 : decode cX12_reached 270 = .ok (.iastore, 1) := by decide +kernel
theorem dX12_reached_271 : decode cX12_reached 271 = .ok (.astore 9, 2) := by decide +kernel
theorem dX12_reached_273 : decode cX12_reached 273 = .ok (.aload 9, 2) := by decide +kernel
theorem dX12_reached_275 : decode cX12_reached 275 = .ok (.astore 10, 2) := by decide +kernel
theorem dX12_reached_277 : decode cX12_reached 277 = .ok (.aload 10, 2) := by decide +kernel
theorem dX12_reached_279 : decode cX12_reached 279 = .ok (.arraylength, 1) := by decide +kernel
theorem dX12_reached_280 : decode cX12_reached 280 = .ok (.istore 11, 2) := by decide +kernel
theorem dX12_reached_282 : decode cX12_reached 282 = .ok (.iconst 0, 1) := by decide +kernel
theorem dX12_reached_283 : decode cX12_reached 283 = .ok (.istore 12, 2) := by decide +kernel
theorem dX12_reached_285 : decode cX12_reached 285 = .ok (.iload 12, 2) := by decide +kernel
theorem dX12_reached_287 : decode cX12_reached 287 = .ok (.iload 11, 2) := by decide +kernel
theorem dX12_reached_289 : decode cX12_reached 289 = .ok (.if_icmp .ge 53, 3) := by decide +kernel
theorem dX12_reached_292 : decode cX12_reached 292 = .ok (.aload 10, 2) := by decide +kernel
theorem dX12_reached_294 : decode cX12_reached 294 = .ok (.iload 12, 2) := by decide +kernel
theorem dX12_reached_296 : decode cX12_reached 296 = .ok (.iaload, 1) := by decide +kernel
theorem dX12_reached_297 : decode cX12_reached 297 = .ok (.istore 13, 2) := by decide +kernel
theorem dX12_reached_299 : decode cX12_reached 299 = .ok (.iload 13, 2) := by decide +kernel
theorem dX12_reached_301 : decode cX12_reached 301 = .ok (.ifCond .lt 35, 3) := by decide +kernel
theorem dX12_reached_304 : decode cX12_reached 304 = .ok (.aload_n 1, 1) := by decide +kernel
theorem dX12_reached_305 : decode cX12_reached 305 = .ok (.iload 13, 2) := by decide +kernel
theorem dX12_reached_307 : decode cX12_reached 307 = .ok (.baload, 1) := by decide +kernel
theorem dX12_reached_308 : decode cX12_reached 308 = .ok (.ifCond .ne 28, 3) := by decide +kernel
theorem dX12_reached_311 : decode cX12_reached 311 = .ok (.aload_n 0, 1) := by decide +kernel
theorem dX12_reached_312 : decode cX12_reached 312 = .ok (.iload 13, 2) := by decide +kernel
theorem dX12_reached_314 : decode cX12_reached 314 = .ok (.invokevirtual 125, 3) := by decide +kernel
theorem dX12_reached_317 : decode cX12_reached 317 = .ok (.invokestatic 253, 3) := by decide +kernel
theorem dX12_reached_320 : decode cX12_reached 320 = .ok (.ifCond .eq 16, 3) := by decide +kernel
theorem dX12_reached_323 : decode cX12_reached 323 = .ok (.aload_n 1, 1) := by decide +kernel
theorem dX12_reached_324 : decode cX12_reached 324 = .ok (.iload 13, 2) := by decide +kernel
theorem dX12_reached_326 : decode cX12_reached 326 = .ok (.iconst 1, 1) := by decide +kernel
theorem dX12_reached_327 : decode cX12_reached 327 = .ok (.bastore, 1) := by decide +kernel
theorem dX12_reached_328 : decode cX12_reached 328 = .ok (.aload_n 2, 1) := by decide +kernel
theorem dX12_reached_329 : decode cX12_reached 329 = .ok (.iload_n 3, 1) := by decide +kernel
theorem dX12_reached_330 : decode cX12_reached 330 = .ok (.iinc 3 1, 3) := by decide +kernel
theorem dX12_reached_333 : decode cX12_reached 333 = .ok (.iload 13, 2) := by decide +kernel
theorem dX12_reached_335 : decode cX12_reached 335 = .ok (.iastore, 1) := by decide +kernel
theorem dX12_reached_336 : decode cX12_reached 336 = .ok (.iinc 12 1, 3) := by decide +kernel
theorem dX12_reached_339 : decode cX12_reached 339 = .ok (.goto (-54), 3) := by decide +kernel
theorem dX12_reached_342 : decode cX12_reached 342 = .ok (.iinc 4 1, 3) := by decide +kernel
theorem dX12_reached_345 : decode cX12_reached 345 = .ok (.goto (-270), 3) := by decide +kernel
theorem dX12_reached_348 : decode cX12_reached 348 = .ok (.aload_n 1, 1) := by decide +kernel
theorem dX12_reached_349 : decode cX12_reached 349 = .ok (.areturn, 1) := by decide +kernel
theorem dX12_reachable_0 : decode cX12_reachable 0 = .ok (.iconst 0, 1) := by decide +kernel
theorem dX12_reachable_1 : decode cX12_reachable 1 = .ok (.istore_n 1, 1) := by decide +kernel
theorem dX12_reachable_2 : decode cX12_reachable 2 = .ok (.aload_n 0, 1) := by decide +kernel
theorem dX12_reachable_3 : decode cX12_reachable 3 = .ok (.invokevirtual 550, 3) := by decide +kernel
theorem dX12_reachable_6 : decode cX12_reachable 6 = .ok (.astore_n 2, 1) := by decide +kernel
theorem dX12_reachable_7 : decode cX12_reachable 7 = .ok (.aload_n 2, 1) := by decide +kernel
theorem dX12_reachable_8 : decode cX12_reachable 8 = .ok (.arraylength, 1) := by decide +kernel
theorem dX12_reachable_9 : decode cX12_reachable 9 = .ok (.istore_n 3, 1) := by decide +kernel
theorem dX12_reachable_10 : decode cX12_reachable 10 = .ok (.iconst 0, 1) := by decide +kernel
theorem dX12_reachable_11 : decode cX12_reachable 11 = .ok (.istore 4, 2) := by decide +kernel
theorem dX12_reachable_13 : decode cX12_reachable 13 = .ok (.iload 4, 2) := by decide +kernel
theorem dX12_reachable_15 : decode cX12_reachable 15 = .ok (.iload_n 3, 1) := by decide +kernel
theorem dX12_reachable_16 : decode cX12_reachable 16 = .ok (.if_icmp .ge 28, 3) := by decide +kernel
theorem dX12_reachable_19 : decode cX12_reachable 19 = .ok (.aload_n 2, 1) := by decide +kernel
theorem dX12_reachable_20 : decode cX12_reachable 20 = .ok (.iload 4, 2) := by decide +kernel
theorem dX12_reachable_22 : decode cX12_reachable 22 = .ok (.baload, 1) := by decide +kernel
theorem dX12_reachable_23 : decode cX12_reachable 23 = .ok (.istore 5, 2) := by decide +kernel
theorem dX12_reachable_25 : decode cX12_reachable 25 = .ok (.iload_n 1, 1) := by decide +kernel
theorem dX12_reachable_26 : decode cX12_reachable 26 = .ok (.iload 5, 2) := by decide +kernel
theorem dX12_reachable_28 : decode cX12_reachable 28 = .ok (.ifCond .eq 7, 3) := by decide +kernel
theorem dX12_reachable_31 : decode cX12_reachable 31 = .ok (.iconst 1, 1) := by decide +kernel
theorem dX12_reachable_32 : decode cX12_reachable 32 = .ok (.goto 4, 3) := by decide +kernel
theorem dX12_reachable_36 : decode cX12_reachable 36 = .ok (.iadd, 1) := by decide +kernel
theorem dX12_reachable_37 : decode cX12_reachable 37 = .ok (.istore_n 1, 1) := by decide +kernel
theorem dX12_reachable_38 : decode cX12_reachable 38 = .ok (.iinc 4 1, 3) := by decide +kernel
theorem dX12_reachable_41 : decode cX12_reachable 41 = .ok (.goto (-28), 3) := by decide +kernel
theorem dX12_reachable_44 : decode cX12_reachable 44 = .ok (.iload_n 1, 1) := by decide +kernel
theorem dX12_reachable_45 : decode cX12_reachable 45 = .ok (.ireturn, 1) := by decide +kernel
theorem dX12_codes_0 : decode cX12_codes 0 = .ok (.aload_n 0, 1) := by decide +kernel
theorem dX12_codes_1 : decode cX12_codes 1 = .ok (.iconst 0, 1) := by decide +kernel
theorem dX12_codes_2 : decode cX12_codes 2 = .ok (.putfield 93, 3) := by decide +kernel
theorem dX12_codes_5 : decode cX12_codes 5 = .ok (.aload_n 0, 1) := by decide +kernel
theorem dX12_codes_6 : decode cX12_codes 6 = .ok (.invokevirtual 554, 3) := by decide +kernel
theorem dX12_codes_9 : decode cX12_codes 9 = .ok (.ireturn, 1) := by decide +kernel
theorem dJ7_fill_53178_0 : decode cJ7_fill_53178 0 = .ok (.iconst 0, 1) := by decide +kernel
theorem dJ7_fill_53178_1 : decode cJ7_fill_53178 1 = .ok (.istore_n 2, 1) := by decide +kernel
theorem dJ7_fill_53178_2 : decode cJ7_fill_53178 2 = .ok (.aload_n 0, 1) := by decide +kernel
theorem dJ7_fill_53178_3 : decode cJ7_fill_53178 3 = .ok (.arraylength, 1) := by decide +kernel
theorem dJ7_fill_53178_4 : decode cJ7_fill_53178 4 = .ok (.istore_n 3, 1) := by decide +kernel
theorem dJ7_fill_53178_5 : decode cJ7_fill_53178 5 = .ok (.iload_n 2, 1) := by decide +kernel
theorem dJ7_fill_53178_6 : decode cJ7_fill_53178 6 = .ok (.iload_n 3, 1) := by decide +kernel
theorem dJ7_fill_53178_7 : decode cJ7_fill_53178 7 = .ok (.if_icmp .ge 13, 3) := by decide +kernel
theorem dJ7_fill_53178_10 : decode cJ7_fill_53178 10 = .ok (.aload_n 0, 1) := by decide +kernel
theorem dJ7_fill_53178_11 : decode cJ7_fill_53178 11 = .ok (.iload_n 2, 1) := by decide +kernel
theorem dJ7_fill_53178_12 : decode cJ7_fill_53178 12 = .ok (.iload_n 1, 1) := by decide +kernel
theorem dJ7_fill_53178_13 : decode cJ7_fill_53178 13 = .ok (.iastore, 1) := by decide +kernel
theorem dJ7_fill_53178_14 : decode cJ7_fill_53178 14 = .ok (.iinc 2 1, 3) := by decide +kernel
theorem dJ7_fill_53178_17 : decode cJ7_fill_53178 17 = .ok (.goto (-12), 3) := by decide +kernel
theorem dJ7_fill_53178_20 : decode cJ7_fill_53178 20 = .ok (.return_, 1) := by decide +kernel
theorem dL_law_0 : decode cL_law 0 = .ok (.new 8, 3) := by decide +kernel
theorem dL_law_3 : decode cL_law 3 = .ok (.dup, 1) := by decide +kernel
theorem dL_law_4 : decode cL_law 4 = .ok (.invokespecial 95, 3) := by decide +kernel
theorem dL_law_7 : decode cL_law 7 = .ok (.astore_n 1, 1) := by decide +kernel
theorem dL_law_8 : decode cL_law 8 = .ok (.new 96, 3) := by decide +kernel
theorem dL_law_11 : decode cL_law 11 = .ok (.dup, 1) := by decide +kernel
theorem dL_law_12 : decode cL_law 12 = .ok (.invokespecial 98, 3) := by decide +kernel
theorem dL_law_15 : decode cL_law 15 = .ok (.astore_n 2, 1) := by decide +kernel
theorem dL_law_16 : decode cL_law 16 = .ok (.iconst 1, 1) := by decide +kernel
theorem dL_law_17 : decode cL_law 17 = .ok (.newarray .long, 2) := by decide +kernel
theorem dL_law_19 : decode cL_law 19 = .ok (.astore_n 3, 1) := by decide +kernel
theorem dL_law_20 : decode cL_law 20 = .ok (.iconst 0, 1) := by decide +kernel
theorem dL_law_21 : decode cL_law 21 = .ok (.istore 4, 2) := by decide +kernel
theorem dL_law_23 : decode cL_law 23 = .ok (.iload 4, 2) := by decide +kernel
theorem dL_law_25 : decode cL_law 25 = .ok (.aload_n 0, 1) := by decide +kernel
theorem dL_law_26 : decode cL_law 26 = .ok (.arraylength, 1) := by decide +kernel
theorem dL_law_27 : decode cL_law 27 = .ok (.bipush 6, 2) := by decide +kernel
theorem dL_law_29 : decode cL_law 29 = .ok (.isub, 1) := by decide +kernel
theorem dL_law_30 : decode cL_law 30 = .ok (.if_icmp .gt 1606, 3) := by decide +kernel
theorem dL_law_33 : decode cL_law 33 = .ok (.aload_n 0, 1) := by decide +kernel
theorem dL_law_34 : decode cL_law 34 = .ok (.iload 4, 2) := by decide +kernel
theorem dL_law_36 : decode cL_law 36 = .ok (.iaload, 1) := by decide +kernel
theorem dL_law_37 : decode cL_law 37 = .ok (.bipush 63, 2) := by decide +kernel
theorem dL_law_39 : decode cL_law 39 = .ok (.iand, 1) := by decide +kernel
theorem dL_law_40 : decode cL_law 40 = .ok (.tableswitch 1590 0 56 #[244, 320, 348, 361, 374, 387, 415, 443, 499, 512, 540, 553, 566, 606, 646, 659, 687, 700, 713, 741, 754, 767, 807, 832, 928, 941, 954, 967, 980, 993, 1006, 1019, 1032, 1045, 1073, 1113, 1126, 1139, 1152, 1165, 1178, 1191, 1219, 1232, 1260, 1288, 1301, 1329, 1357, 1385, 1413, 1453, 1481, 1521, 1549, 1562, 1577], 244) := by decide +kernel
theorem dL_law_1589 : decode cL_law 1589 = .ok (.aload_n 1, 1) := by decide +kernel
theorem dL_law_1590 : decode cL_law 1590 = .ok (.invokevirtual 301, 3) := by decide +kernel
theorem dL_law_1593 : decode cL_law 1593 = .ok (.pop, 1) := by decide +kernel
theorem dL_law_1594 : decode cL_law 1594 = .ok (.aload_n 2, 1) := by decide +kernel
theorem dL_law_1595 : decode cL_law 1595 = .ok (.invokevirtual 304, 3) := by decide +kernel
theorem dL_law_1598 : decode cL_law 1598 = .ok (.pop, 1) := by decide +kernel
theorem dL_law_1599 : decode cL_law 1599 = .ok (.goto 31, 3) := by decide +kernel
theorem dL_law_1630 : decode cL_law 1630 = .ok (.iinc 4 6, 3) := by decide +kernel
theorem dL_law_1633 : decode cL_law 1633 = .ok (.goto (-1610), 3) := by decide +kernel
theorem dL_law_1636 : decode cL_law 1636 = .ok (.iconst 1, 1) := by decide +kernel
theorem dL_law_1637 : decode cL_law 1637 = .ok (.ireturn, 1) := by decide +kernel
end
section
/-! ===== END ===== -/
/-! ===== BEGIN exceptions that leave a method, and their catching by the caller (launches without stack traces) ===== -/
section VXA
section Payer
variable {l : Launch} {R : Room} {p : Program} {e : Env} {below : List Frame} {s : State} {sargs : Array Value} {y : MethodName} {len W9 : Nat}
end Payer
section Calls
variable {p : Program} {l : Launch} {e : Env} {R : Room} {s : State} {m : MethodId} {args : Array Value} {below : List Frame} {meth : Method} {c : Code} {T : State} {locs : List Loc} {cells slots : Nat}
end Calls
section Runs
variable {p : Program} {l : Launch} {e : Env} {R : Room} {s : State} {m : MethodId} {args : Array Value} {below : List Frame} {meth : Method} {c : Code} {H : Heap} {locs : List Loc} {cells slots : Nat}
variable {y : MethodName} {bytes cc : ByteArray} {maxL nL mc ms n index : Nat} {ret : Option FieldType} {ws : List Cond} {rm : Room} {Pc : Array Value → State → Prop} {Qc : Array Value → State → Outcome → State → Prop} {XC : String → State → State → Prop} {free : Addr → Prop} {Ts : List Cond} {own C : String} {b : Addr} {As rest : List Value} {g : JFrame}
end Runs
section Rows
variable {p : Program} {l : Launch} {e : Env} {R : Room} {s : State} {m : MethodId} {args : Array Value} {below : List Frame} {meth : Method} {c : Code} {H : Heap} {locs : List Loc} {cells slots : Nat} {Q : State → Prop}
variable {mc ms : Nat} {free : Addr → Prop} {A0 A1 : Nat → Prop} {H0 : Heap} {a : Array Value} {pc : Nat} {ls : Array Slot} {st0 rest : List Value}
end Rows
section Ends
variable {p : Program} {l : Launch} {e : Env} {R : Room} {s : State} {m : MethodId} {args : Array Value} {below : List Frame} {meth : Method} {c : Code} {H : Heap} {locs : List Loc} {cells slots : Nat} {Q : State → Prop}
variable {mc ms : Nat} {free : Addr → Prop} {A0 A1 : Nat → Prop} {H0 : Heap} {a : Array Value} {ls : Array Slot} {st0 rest : List Value}
variable {Qc : Array Value → State → Outcome → State → Prop} {XC : String → State → State → Prop}
/-- where a static field lies, its class's statics cell in H -/
def vx_L (C n d : String) (A : Nat → Prop) (U : State) (H : Heap) : Prop := ∃ (c : ClassId) (k : Class) (i : Nat) (f : Field) (a : Nat) (cell : Cell), U.vm.findClass C = some c ∧ U.fieldFound? C n d = some (c, k, i, f) ∧ f.isStatic = true ∧ k.statics = some a ∧ H[a]? = some cell ∧ cell.vm.isStatics = true ∧ cell.cls = c ∧ f.slot < cell.slots.size ∧ k.staticTypes[f.slot]? = some f.type ∧ ¬ A a
theorem vx_L.moved {C n d : String} {A : Nat → Prop} {u U : State} {H : Heap} (hvm : u.vm.Alike U.vm) (h : vx_L C n d A u H) : vx_L C n d A U H := by
  obtain ⟨c, k, i, f, a, cell, h1, h2, h3, h4, h5, h6, h7, h8, h9, h10⟩ := h
  obtain ⟨k', hi', he⟩ := State.fieldFound?_setVm hvm h2
  exact ⟨c, k', i, f, a, cell, by rw [hvm.findClass]; exact h1, hi', h3, by rw [he]; exact h4, h5, h6, h7, h8, by rw [he]; exact h9, h10⟩
theorem vx_L.kept {C n d : String} {A : Nat → Prop} {U : State} {H H1 : Heap} (h : vx_L C n d A U H) (hq : ∀ a : Nat, a < H.size → ¬ A a → H1[a]? = H[a]?) : vx_L C n d A U H1 := by
  obtain ⟨c, k, i, f, a, cell, h1, h2, h3, h4, h5, h6, h7, h8, h9, h10⟩ := h
  exact ⟨c, k, i, f, a, cell, h1, h2, h3, h4, by rw [hq a (Array.getElem?_eq_some_iff.mp h5).1 h10]; exact h5, h6, h7, h8, h9, h10⟩
theorem vx_L.narrow {C n d : String} {A B : Nat → Prop} {U : State} {H : Heap} (h : vx_L C n d A U H) (hAB : ∀ q, B q → A q) : vx_L C n d B U H := by
  obtain ⟨c, k, i, f, a, cell, h1, h2, h3, h4, h5, h6, h7, h8, h9, h10⟩ := h
  exact ⟨c, k, i, f, a, cell, h1, h2, h3, h4, h5, h6, h7, h8, h9, fun z => h10 (hAB _ z)⟩
/-- .. and what it holds: null or some reference -/
def vx_Zq (C n d : String) (A : Nat → Prop) (U : State) (H : Heap) : Prop := va_Zq C n d A U H ∧ vx_L C n d A U H
theorem vx_Zq.moved {C n d : String} {A : Nat → Prop} {u U : State} {H : Heap} (hvm : u.vm.Alike U.vm) (h : vx_Zq C n d A u H) : vx_Zq C n d A U H := ⟨va_Zq.moved hvm h.1, vx_L.moved hvm h.2⟩
theorem vx_Zq.kept {C n d : String} {A : Nat → Prop} {U : State} {H H1 : Heap} (h : vx_Zq C n d A U H) (hq : ∀ a : Nat, a < H.size → ¬ A a → H1[a]? = H[a]?) : vx_Zq C n d A U H1 := ⟨va_Zq.kept h.1 hq, vx_L.kept h.2 hq⟩
theorem vx_Zq.narrow {C n d : String} {A B : Nat → Prop} {U : State} {H : Heap} (h : vx_Zq C n d A U H) (hAB : ∀ q, B q → A q) : vx_Zq C n d B U H := ⟨va_Zq.narrow h.1 hAB, vx_L.narrow h.2 hAB⟩
theorem vx_Zqof {args : Array Value} {s : State} {C n d : String} {A : Nat → Prop} (hl : (Cond.laysStatic C n d).before args s = true) (hini : (Cond.initialized C).before args s = true) (h : (Cond.isRef (.static C n d)).before args s = true) (hA : ∀ a : Nat, a < s.heap.size → ¬ A a) : vx_Zq C n d A s s.heap := by
  refine ⟨va_Zqof hl hini h hA, ?_⟩
  obtain ⟨c, k, i, f, a, cell, h1, h2, h3, h4, h5, h6, h7, h8, h9⟩ := Cond.laysStatic_spec hl
  exact ⟨c, k, i, f, a, cell, h1, h2, h3, h4, h5, h6, h7, h8, h9, hA a (Array.getElem?_eq_some_iff.mp h5).1⟩
end Ends
section Bodies
variable {l : Launch}
end Bodies
end VXA
/-! ===== END ===== -/
/-! ===== BEGIN a static call of a method with an exception table ===== -/
section VXS
variable {p : Program} {l : Launch} {e : Env} {R : Room} {s : State} {m : MethodId} {args : Array Value} {below : List Frame} {meth : Method} {c : Code} {T : State} {H : Heap} {locs : List Loc} {cells slots : Nat}
end VXS
/-! ===== END ===== -/
/-! ===== BEGIN methods with a table of their own: called by a name, returning or throwing ===== -/
section VXH
/-! vx_backW, vx_callVX, vx_callSX, vx_callVW, vx_runVW, vx_runVX, vx_runSX, vx_ofWH follow the same proofs as their sisters above (Free/Laws.lean, Shelf42/LK1.lean); vx_outP calls Shelf42/NT130.lean (outThrough). -/
section
variable {l : Launch} {R : Room} {p : Program} {e : Env} {below : List Frame} {s : State} {sargs : Array Value} {y : MethodName} {len W9 : Nat}
end
variable {p : Program} {l : Launch} {e : Env} {R : Room} {s : State} {m : MethodId} {args : Array Value} {below : List Frame} {meth : Method} {c : Code} {T : State} {H : Heap} {locs : List Loc} {cells slots : Nat}
section
variable {y : MethodName} {bytes cc : ByteArray} {maxL nL mc ms n index : Nat} {ret : Option FieldType} {ws : List Cond} {rm : Room} {Pc : Array Value → State → Prop} {Qc : Array Value → State → Outcome → State → Prop} {XC : String → State → State → Prop} {free : Addr → Prop} {Ts : List Cond} {own C : String} {b : Addr} {As rest : List Value} {g : JFrame}
end
end VXH
/-! ===== END ===== -/
/-! ===== BEGIN what the machine throws by itself, no traces kept ===== -/
section VXM
section
variable {p : Program} {l : Launch} {e : Env} {R : Room} {s : State} {m : MethodId} {args : Array Value} {below : List Frame} {meth : Method} {c : Code} {H : Heap} {locs : List Loc} {cells slots : Nat}
variable {Q : State → Prop} {cc : ByteArray} {pc : Nat} {ls : Array Slot} {rest : List Value}
end
end VXM
/-! ===== END ===== -/
/-! ===== BEGIN an exception as an object: made, kept, thrown later (no traces kept) ===== -/
section VXK
variable {p : Program} {l : Launch} {e : Env} {R : Room} {s : State} {m₀ : MethodId} {args : Array Value} {below : List Frame} {meth : Method} {c : Code} {W : State} {locs : List Loc} {cells slots : Nat}
end VXK
section VXK2
variable {p : Program} {l : Launch} {e : Env} {R : Room} {s : State} {m : MethodId} {args : Array Value} {below : List Frame} {meth : Method} {c : Code} {H : Heap} {locs : List Loc} {cells slots : Nat} {Q : State → Prop}
variable {ls : Array Slot} {rest : List Value} {D : va_G} {cl : List vw_C} {tys : List (ClassId × FieldType)} {ws : va_W}
end VXK2
/-! ===== END ===== -/
/-! ===== BEGIN a constructor that throws (launches without stack traces) ===== -/
section VXIA
variable {p : Program} {l : Launch} {e : Env} {R : Room} {s : State} {m : MethodId} {args : Array Value} {below : List Frame} {meth : Method} {c : Code} {T : State} {locs : List Loc} {cells slots : Nat}
end VXIA
section VXIB
variable {p : Program} {l : Launch} {e : Env} {R : Room} {s : State} {m : MethodId} {args : Array Value} {below : List Frame} {meth : Method} {c : Code} {H : Heap} {locs : List Loc} {cells slots : Nat}
variable {y : MethodName} {bytes cc : ByteArray} {maxL nL mc ms n index : Nat} {ret : Option FieldType} {ws : List Cond} {rm : Room} {Pc : Array Value → State → Prop} {Qc : Array Value → State → Outcome → State → Prop} {XC : String → State → State → Prop} {free : Addr → Prop} {Ts : List Cond} {own C : String} {b : Addr} {As rest : List Value} {g : JFrame}
end VXIB
/-! ===== END ===== -/
/-! ===== BEGIN a private constructor of a nest mate that throws ===== -/
section VXIC
variable {p : Program} {l : Launch} {e : Env} {R : Room} {s : State} {m : MethodId} {args : Array Value} {below : List Frame} {meth : Method} {c : Code} {T : State} {locs : List Loc} {cells slots : Nat}
end VXIC
section VXID
variable {p : Program} {l : Launch} {e : Env} {R : Room} {s : State} {m : MethodId} {args : Array Value} {below : List Frame} {meth : Method} {c : Code} {H : Heap} {locs : List Loc} {cells slots : Nat}
end VXID
/-! ===== END ===== -/
/-! ===== BEGIN a method of a class above, found by the receiver, that may throw (follows va_callVU, va_runU of this kit) ===== -/
section
variable {p : Program} {l : Launch} {e : Env} {R : Room} {s : State} {m : MethodId} {args : Array Value} {below : List Frame} {meth : Method} {c : Code} {H : Heap} {locs : List Loc} {cells slots : Nat}
end
/-! ===== END ===== -/
/-! ===== BEGIN super.m(..) that may throw (follows va_callSU, va_runSU) ===== -/
section
variable {p : Program} {l : Launch} {e : Env} {R : Room} {s : State} {m : MethodId} {args : Array Value} {below : List Frame} {meth : Method} {c : Code} {H : Heap} {locs : List Loc} {cells slots : Nat}
end
/-! ===== END ===== -/
/-! ===== BEGIN a private method of a nest mate that may throw (follows va_callVN, va_callSN, va_runVN, va_runSN) ===== -/
section
variable {p : Program} {l : Launch} {e : Env} {R : Room} {s : State} {m : MethodId} {args : Array Value} {below : List Frame} {meth : Method} {c : Code} {H : Heap} {locs : List Loc} {cells slots : Nat}
variable {T : State}
end
/-! ===== END ===== -/
/-! ===== BEGIN calls by an interface of methods that may throw (vx_callIF, vx_runF follow va_callIF, va_runF of this kit) ===== -/
section
variable {p : Program} {l : Launch} {e : Env} {R : Room} {s : State} {m : MethodId} {args : Array Value} {below : List Frame} {meth : Method} {c : Code} {H : Heap} {locs : List Loc} {cells slots : Nat} {Q : State → Prop}
variable {mc ms : Nat} {free : Addr → Prop} {A0 A1 : Nat → Prop} {H0 : Heap} {a : Array Value} {pc : Nat} {ls : Array Slot} {st0 rest : List Value}
end
/-! ===== END ===== -/
/-! ===== BEGIN by an interface, a method with a table of its own that may throw (follows va_callIFW, va_runFW) ===== -/
section
variable {p : Program} {l : Launch} {e : Env} {R : Room} {s : State} {m : MethodId} {args : Array Value} {below : List Frame} {meth : Method} {c : Code} {H : Heap} {locs : List Loc} {cells slots : Nat}
end
/-! ===== END ===== -/
/-! ===== BEGIN .. of methods that hand back an object of the pool ===== -/
section
variable {p : Program} {l : Launch} {e : Env} {R : Room} {s : State} {m : MethodId} {args : Array Value} {below : List Frame} {meth : Method} {c : Code} {H : Heap} {locs : List Loc} {cells slots : Nat} {Q : State → Prop}
variable {mc ms : Nat} {free : Addr → Prop} {A0 A1 : Nat → Prop} {H0 : Heap} {a : Array Value} {pc : Nat} {ls : Array Slot} {st0 rest : List Value}
end
/-! ===== END ===== -/
/-! ===== BEGIN .. a constant ===== -/
section
variable {p : Program} {l : Launch} {e : Env} {R : Room} {s : State} {m : MethodId} {args : Array Value} {below : List Frame} {meth : Method} {c : Code} {H : Heap} {locs : List Loc} {cells slots : Nat} {Q : State → Prop}
variable {mc ms : Nat} {free : Addr → Prop} {A0 A1 : Nat → Prop} {H0 : Heap} {a : Array Value} {pc : Nat} {ls : Array Slot} {st0 rest : List Value}
end
/-! ===== END ===== -/
/-! ===== BEGIN .. by an interface, an object ===== -/
section
variable {p : Program} {l : Launch} {e : Env} {R : Room} {s : State} {m : MethodId} {args : Array Value} {below : List Frame} {meth : Method} {c : Code} {H : Heap} {locs : List Loc} {cells slots : Nat} {Q : State → Prop}
variable {mc ms : Nat} {free : Addr → Prop} {A0 A1 : Nat → Prop} {H0 : Heap} {a : Array Value} {pc : Nat} {ls : Array Slot} {st0 rest : List Value}
end
/-! ===== END ===== -/
/-! ===== BEGIN .. by an interface, a constant ===== -/
section
variable {p : Program} {l : Launch} {e : Env} {R : Room} {s : State} {m : MethodId} {args : Array Value} {below : List Frame} {meth : Method} {c : Code} {H : Heap} {locs : List Loc} {cells slots : Nat} {Q : State → Prop}
variable {mc ms : Nat} {free : Addr → Prop} {A0 A1 : Nat → Prop} {H0 : Heap} {a : Array Value} {pc : Nat} {ls : Array Slot} {st0 rest : List Value}
end
/-! ===== END ===== -/
/-! ===== BEGIN what the machine throws by itself: null at a field, at athrow ===== -/
section VXM2
variable {p : Program} {l : Launch} {e : Env} {R : Room} {s : State} {m : MethodId} {args : Array Value} {below : List Frame} {meth : Method} {c : Code} {H : Heap} {locs : List Loc} {cells slots : Nat}
variable {Q : State → Prop} {cc : ByteArray} {pc : Nat} {ls : Array Slot} {rest : List Value}
end VXM2
end
section
/-! our own kit: one bundle for a method's context, one for its world; a row a call -/
abbrev fb_AR : Type := Nat → Int32
def fb_bI (b : Bool) : Int32 := if b then 1 else 0
def fb_nM : List (String × Nat × MethodName × String) := [
  ("FerriteBoard", 11, ⟨"FerriteBoard$Text", "<init>", "()V"⟩, "FerriteBoard"),
  ("FerriteBoard", 18, ⟨"FerriteBoard$Names", "<init>", "()V"⟩, "FerriteBoard"),
  ("FerriteBoard$Syntax", 17, ⟨"FerriteBoard$Line", "<init>", "()V"⟩, "FerriteBoard"),
  ("FerriteBoard", 52, ⟨"FerriteBoard$Machine", "<init>", "()V"⟩, "FerriteBoard"),
  ("FerriteBoard$Machine", 26, ⟨"FerriteBoard$Ports", "<init>", "()V"⟩, "FerriteBoard"),
  ("FerriteBoard", 62, ⟨"FerriteBoard$History", "<init>", "()V"⟩, "FerriteBoard"),
  ("FerriteBoard$History", 11, ⟨"FerriteBoard$Machine", "<init>", "()V"⟩, "FerriteBoard"),
  ("FerriteBoard", 69, ⟨"FerriteBoard$Stops", "<init>", "()V"⟩, "FerriteBoard"),
  ("FerriteBoard", 76, ⟨"FerriteBoard$Reach", "<init>", "()V"⟩, "FerriteBoard"),
  ("FerriteBoard$Machine", 96, ⟨"FerriteBoard", "at", "([II)I"⟩, "FerriteBoard"),
  ("FerriteBoard$Text", 33, ⟨"FerriteBoard", "at", "([II)I"⟩, "FerriteBoard"),
  ("FerriteBoard$Text", 29, ⟨"FerriteBoard", "put", "([III)V"⟩, "FerriteBoard"),
  ("FerriteBoard$Text", 51, ⟨"FerriteBoard", "put", "([JIJ)V"⟩, "FerriteBoard"),
  ("FerriteBoard$Text", 98, ⟨"FerriteBoard", "entryOf", "(Ljava/lang/String;IJ)I"⟩, "FerriteBoard"),
  ("FerriteBoard$Values", 68, ⟨"FerriteBoard", "at", "([JI)J"⟩, "FerriteBoard"),
  ("FerriteBoard$Values", 81, ⟨"FerriteBoard", "at", "([II)I"⟩, "FerriteBoard"),
  ("FerriteBoard$Syntax", 100, ⟨"FerriteBoard", "at", "([JI)J"⟩, "FerriteBoard"),
  ("FerriteBoard$Text", 37, ⟨"FerriteBoard", "at", "([JI)J"⟩, "FerriteBoard"),
  ("FerriteBoard$Passes", 70, ⟨"FerriteBoard", "at", "([II)I"⟩, "FerriteBoard"),
  ("FerriteBoard$Passes", 147, ⟨"FerriteBoard", "at", "([JI)J"⟩, "FerriteBoard"),
  ("FerriteBoard$Names", 26, ⟨"FerriteBoard", "put", "([JIJ)V"⟩, "FerriteBoard"),
  ("FerriteBoard$Names", 30, ⟨"FerriteBoard", "put", "([III)V"⟩, "FerriteBoard"),
  ("FerriteBoard$Passes", 188, ⟨"FerriteBoard", "put", "([III)V"⟩, "FerriteBoard"),
  ("FerriteBoard$Passes", 213, ⟨"FerriteBoard", "entryOf", "(Ljava/lang/String;IJ)I"⟩, "FerriteBoard"),
  ("FerriteBoard$Passes", 205, ⟨"FerriteBoard", "hasMode", "(II)Z"⟩, "FerriteBoard"),
  ("FerriteBoard$Passes", 208, ⟨"FerriteBoard", "lengthOf", "(I)I"⟩, "FerriteBoard"),
  ("FerriteBoard$Passes", 266, ⟨"FerriteBoard", "placeOf", "(II)I"⟩, "FerriteBoard"),
  ("FerriteBoard$Machine", 145, ⟨"FerriteBoard", "put", "([III)V"⟩, "FerriteBoard"),
  ("FerriteBoard$Machine", 92, ⟨"FerriteBoard", "placeOf", "(II)I"⟩, "FerriteBoard"),
  ("FerriteBoard$Machine", 103, ⟨"FerriteBoard", "lengthOf", "(I)I"⟩, "FerriteBoard"),
  ("FerriteBoard$Machine", 106, ⟨"FerriteBoard", "signed", "(I)I"⟩, "FerriteBoard"),
  ("FerriteBoard$Machine", 240, ⟨"FerriteBoard", "isPort", "(I)Z"⟩, "FerriteBoard"),
  ("FerriteBoard$Ports", 61, ⟨"FerriteBoard", "put", "([III)V"⟩, "FerriteBoard"),
  ("FerriteBoard$Stops", 37, ⟨"FerriteBoard", "at", "([II)I"⟩, "FerriteBoard"),
  ("FerriteBoard$Stops", 45, ⟨"FerriteBoard", "put", "([III)V"⟩, "FerriteBoard"),
  ("FerriteBoard$Reach", 47, ⟨"FerriteBoard", "at", "([II)I"⟩, "FerriteBoard"),
  ("FerriteBoard$Reach", 55, ⟨"FerriteBoard", "put", "([III)V"⟩, "FerriteBoard"),
  ("FerriteBoard$Reach", 62, ⟨"FerriteBoard", "lengthOf", "(I)I"⟩, "FerriteBoard"),
  ("FerriteBoard$Names", 42, ⟨"FerriteBoard", "at", "([II)I"⟩, "FerriteBoard"),
  ("FerriteBoard$Ports", 69, ⟨"FerriteBoard", "at", "([II)I"⟩, "FerriteBoard")]
/-- the rows of rows of ints that the reference makes -/
def fb_AOI (U : State) : Prop := (Cond.arrayOver (.array .int)).before #[] U = true
theorem fb_AOI.moved {u U : State} (hvm : u.vm.Alike U.vm) (h : fb_AOI u) : fb_AOI U := by
  obtain ⟨comp, c, k, h1, h2, h3, h4, h5⟩ := arrayOverA_spec h
  obtain ⟨k', hk', he⟩ := hvm.2.2 _ _ h3
  have hi : (U.vm.classes.findIdx? fun (x : Class) => match x.kind with | .array component _ => component == comp | _ => false) = some c := by
    refine Eq.trans (va_idx_bare U.vm comp).symm ?_
    first | rw [hvm.bare_eq] | rw [← hvm.bare_eq]
    exact (va_idx_bare u.vm comp).trans h2
  have hkind : k'.kind = .array comp (.array .int) := by rw [he]; exact h4
  have f1 : U.vm.findClass (FieldType.array .int).toString = some comp := by rw [hvm.findClass]; exact h1
  have f2 : U.vm.findClass ("[" ++ (FieldType.array .int).toString) = some c := by rw [hvm.findClass]; exact h5
  unfold fb_AOI Cond.before Cond.holds
  simp only [Cond.value]
  rw [f1, Option.bind_some]
  refine (congrArg (fun o : Option Nat => (o.bind (fun c => (U.vm.classes[c]?).map fun (k : Class) => match k.kind with | .array _ ty => decide (ty = FieldType.array .int) && decide (U.vm.findClass ("[" ++ (FieldType.array .int).toString) = some c) | _ => false) == some true)) hi).trans ?_
  simp [hk', hkind, f2]
def fb_dN : List MethodName := [⟨"java/lang/RuntimeException", "<init>", "(Ljava/lang/String;)V"⟩, ⟨"java/lang/Exception", "<init>", "(Ljava/lang/String;)V"⟩, ⟨"java/lang/Throwable", "<init>", "(Ljava/lang/String;)V"⟩]
def fb_cN : List String := ["java/lang/IllegalStateException", "java/lang/IllegalArgumentException", "java/lang/IndexOutOfBoundsException"]
def fb_tM : List (Nat × String) := [(104, "no such length"), (162, "no such name"), (176, "no address"), (207, "no byte"), (227, "no memory"), (233, "no such register"), (235, "it cannot be that"), (253, "not 1 to 5000 cycles"), (271, "not 1 to 200 steps"), (280, "not 0 to 1000 skips"), (296, "it ends ahead of its beginning"), (343, "no such bank"), (345, "no such place"), (359, "no such output"), (364, "no such call")]
/-- the words of throws that are no good words -/
def fb_NX (U : State) : Prop := (∀ q ∈ fb_dN, va_Nw (.declares q) U) ∧ (∀ q ∈ fb_cN, va_Nw (.castable q q) U) ∧ va_Nc "java/lang/IllegalArgumentException" "java/lang/IndexOutOfBoundsException" U ∧ ∀ q ∈ fb_tM, ∃ sa : Nat, vk_R "FerriteBoard" q.1 q.2 sa U
theorem fb_NX.same {u U : State} (h : u.vm = U.vm) (z : fb_NX u) : fb_NX U := ⟨fun q hq => va_Nw.same rfl h (z.1 q hq), fun q hq => va_Nw.same rfl h (z.2.1 q hq), va_Nc.moved (h ▸ Vm.Alike.refl u.vm) z.2.2.1, fun q hq => (z.2.2.2 q hq).elim fun sa hz => ⟨sa, vk_R.same h.symm hz⟩⟩
theorem fb_NX.warm {s U : State} (hW : s.WarmedH U.vm) (z : fb_NX s) : fb_NX U := ⟨fun q hq => va_Nw.warmD hW (z.1 q hq), fun q hq => va_Nw.warmC hW (z.2.1 q hq), va_Nc.moved hW.alike z.2.2.1, fun q hq => (z.2.2.2 q hq).elim fun sa hz => ⟨sa, vk_R.warm hW hz⟩⟩
def fb_Nst (U : State) : Prop := (∀ q ∈ fb_nM, va_Nw (.methodLinkNest q.1 q.2.1 q.2.2.1 q.2.2.2) U) ∧ va_Nw (.fieldLinkNest "FerriteBoard$Machine" 210 "FerriteBoard" "BRANCH_FLAGS" "[I" "FerriteBoard") U ∧ va_AO "FerriteBoard$Line" U ∧ fb_AOI U ∧ fb_NX U
theorem fb_Nst.same {u U : State} (h : u.vm = U.vm) (z : fb_Nst u) : fb_Nst U := ⟨fun q hq => va_Nw.same rfl h (z.1 q hq), va_Nw.same rfl h z.2.1, va_AO.moved (h ▸ Vm.Alike.refl u.vm) z.2.2.1, fb_AOI.moved (h ▸ Vm.Alike.refl u.vm) z.2.2.2.1, fb_NX.same h z.2.2.2.2⟩
theorem fb_Nst.warm {s U : State} (hW : s.WarmedH U.vm) (z : fb_Nst s) : fb_Nst U := ⟨fun q hq => va_Nw.warmM hW (z.1 q hq), va_Nw.warmF hW z.2.1, va_AO.moved hW.alike z.2.2.1, fb_AOI.moved hW.alike z.2.2.2.1, fb_NX.warm hW z.2.2.2.2⟩
theorem fb_Nst.use {s : State} (z : fb_Nst s) {a : String} {i : Nat} {y : MethodName} {h : String} (hm : (a, i, y, h) ∈ fb_nM) : va_Nw (.methodLinkNest a i y h) s := z.1 _ hm
def fb_KK (D : va_G) (tys : List (ClassId × FieldType)) (U : State) : Prop := va_K D vwCl tys U ∧ fb_Nst U
def fb_bf (j : Nat) : Int32 := if j = 0 then 2 else if j = 1 then 1 else if j = 2 then 16 else 8
/-- the static row of the branches' flags -/
def fb_Fz (A : Nat → Prop) (U : State) (H : Heap) : Prop := ∃ t : Nat, va_Z "FerriteBoard" "BRANCH_FLAGS" "[I" (.ref t) A U H ∧ va_T .int t 4 (fun j => .int (fb_bf j)) A U H ∧ vx_Zq Bundle.tN "UNASSIGNED_STACK" Bundle.steD A U H ∧ vx_Zq Bundle.tN "SUPPRESSED_SENTINEL" Bundle.listD A U H
theorem fb_Fz.go {A B : Nat → Prop} {s U : State} {H0 H : Heap} {locs : List Loc} (z : fb_Fz A s H0) (hS : va_S A H0 H locs) (hB : ∀ q, B q → A q) (hvm : s.vm.Alike U.vm) : fb_Fz B U H := by
  obtain ⟨t, z1, z2, z3, z4⟩ := z
  exact ⟨t, va_Z.narrow (va_Z.kept (va_Z.moved hvm z1) hS.2.1) hB, va_T.narrow (va_T.kept (va_T.moved hvm z2) hS.2.1) hB, vx_Zq.narrow (vx_Zq.kept (vx_Zq.moved hvm z3) hS.2.1) hB, vx_Zq.narrow (vx_Zq.kept (vx_Zq.moved hvm z4) hS.2.1) hB⟩
/-- a world at a heap -/
def fb_In (D : va_G) (A : Nat → Prop) (H0 : Heap) (ws : va_W) (H : Heap) (locs : List Loc) : Prop := va_P D vwCl ws H ∧ va_D A ws ∧ va_S A H0 H locs
/-- what a method's body stands on -/
def fb_Bx (p : Program) (s : State) (m : MethodId) (args : Array Value) (meth : Method) (c : Code) (cc : ByteArray) (own : String) (nL : Nat) (ret : Option FieldType) (D : va_G) (tys : List (ClassId × FieldType)) (A : Nat → Prop) : Prop :=
  p.tables.exec = Jvm.exec ∧ c.code = cc ∧ meth.sig.returnType = ret ∧ c.maxLocals = nL ∧ s.vm.findClass own = some m.cls ∧ (∀ w ∈ fb_all, w.before args s = true) ∧ meth.locks = false ∧ (∀ q, s.heap.size ≤ q → A q) ∧ fb_KK D tys s ∧ fb_Fz A s s.heap
/-- a contract's start -/
def fb_PP (D : va_G) (tys : List (ClassId × FieldType)) (av : List Value) (wc : va_W) (sz : Nat) : Array Value → State → Prop := va_Pc av (fun U => U.heap.size = sz ∧ va_P D vwCl wc U.heap ∧ fb_KK D tys U ∧ va_D (fun _ => True) wc ∧ fb_Fz (va_A wc sz) U U.heap)
theorem fb_PP.blind {D : va_G} {tys : List (ClassId × FieldType)} {av : List Value} {wc : va_W} {sz : Nat} : FrameBlind (fb_PP D tys av wc sz) := fun a U g mk q => by
  obtain ⟨q0, q1, qP, qK, qD, t, z1, z2, z3, z4⟩ := q
  exact ⟨q0, q1, qP, ⟨va_K.moved (u := U) (U := U.calling g mk a) (Vm.Alike.refl U.vm) qK.1, fb_Nst.same (u := U) (U := U.calling g mk a) rfl qK.2⟩, qD, t, va_Z.moved (u := U) (U := U.calling g mk a) (Vm.Alike.refl U.vm) z1, va_T.moved (u := U) (U := U.calling g mk a) (Vm.Alike.refl U.vm) z2, vx_Zq.moved (u := U) (U := U.calling g mk a) (Vm.Alike.refl U.vm) z3, vx_Zq.moved (u := U) (U := U.calling g mk a) (Vm.Alike.refl U.vm) z4⟩
theorem fb_mapP {D : va_G} {cl : List vw_C} {ws ws' : va_W} {H : Heap} (h : va_P D cl ws H) (is : List Nat) (hs : is.map (fun i => ws[i]?) = ws'.map some) : va_P D cl ws' H := by
  intro k q hk
  have h1 : (ws'.map some)[k]? = some (some q) := by rw [List.getElem?_map, hk]; rfl
  rw [← hs, List.getElem?_map] at h1
  cases h2 : is[k]? with
  | none => rw [h2] at h1; cases h1
  | some i =>
    rw [h2] at h1
    exact h i q (Option.some.inj h1)
theorem fb_In.pick {D : va_G} {A : Nat → Prop} {H0 : Heap} {ws ws' : va_W} {H : Heap} {locs : List Loc} (h : fb_In D A H0 ws H locs) (is : List Nat) (hn : va_nd is = true) (hs : is.map (fun i => ws[i]?) = ws'.map some) : fb_In D A H0 ws' H locs := ⟨fb_mapP h.1 is hs, h.2.1.sub is hn hs, h.2.2⟩
/-- the ends -/
def fb_QI {S : Type} (D : va_G) (A : Nat → Prop) (post : Int32 → S → Prop) (wf : S → va_W) : Array Value → State → Outcome → State → Prop := va_Qi post (fun u t => va_P D vwCl (wf u) t.heap ∧ va_D A (wf u)) A
def fb_QV {S : Type} (D : va_G) (A : Nat → Prop) (post : S → Prop) (wf : S → va_W) : Array Value → State → Outcome → State → Prop := va_Qv post (fun u t => va_P D vwCl (wf u) t.heap ∧ va_D A (wf u)) A
section FBE
variable {l : Launch} {y : MethodName} {rm : Room} {cc : ByteArray} {maxL mc ms sz : Nat} {ret : Option FieldType} {D : va_G} {tys : List (ClassId × FieldType)} {av : List Value} {wc : va_W}
theorem fb_ent {Qf : (Nat → Prop) → Array Value → State → Outcome → State → Prop} (hy : plainName y.cls = true) (hn : (lg_sl av).length ≤ maxL)
    (body : ∀ p e s m args below meth c A ls, fb_Bx p s m args meth c cc y.cls maxL ret D tys A → fb_In D A s.heap wc s.heap [] → lv_has ls maxL (lv_args 0 av) → (meth.name = y.name) → W p l e rm s m args below meth c s.heap [] 0 0 (MQ below (Qf A) args s mc ms A) (F0 m 0 ls [])) : Met l y (Cond.code y cc maxL ret :: fb_all) rm (fb_PP D tys av wc sz) (Qf (va_A wc sz)) mc ms (va_A wc sz) := by
  refine Met.ofW (cc := cc) (maxL := maxL) (ret := ret) hy rfl ?_
  intro p e s m args below meth c s₁ B hml hv
  obtain ⟨rfl, hsz, hP, hK, hD0, hF⟩ := hv
  subst hsz
  have hts : ∀ w ∈ fb_all, w.before av.toArray s = true := fun w h => atoms_spec (ws := Cond.code y cc maxL ret :: fb_all) B.pre w (List.mem_cons_of_mem _ h)
  have hown : s.vm.findClass y.cls = some m.cls := findClass_of_methodNamed (x := y) B.named
  have hl := lv_entry av (n := maxL) hn
  rw [lg_entry_eq]
  refine body p e s m av.toArray below meth c (va_A wc s.heap.size) _ ⟨B.exec, B.bytes, B.returns, hml, hown, hts, B.notSynchronized, fun q h => Or.inr h, hK, hF⟩ ⟨hP, hD0.self, va_S.rf⟩ hl ?_
  exact (name_of_methodNamed B.named B.method).1
/-- one that only reads: the heap stays -/
theorem fb_entR {Qc : Array Value → State → Outcome → State → Prop} (hy : plainName y.cls = true) (hn : (lg_sl av).length ≤ maxL)
    (body : ∀ p e s m args below meth c A ls, fb_Bx p s m args meth c cc y.cls maxL ret D tys A → fb_In D A s.heap wc s.heap [] → lv_has ls maxL (lv_args 0 av) → (meth.name = y.name) → W p l e rm s m args below meth c s.heap [] 0 0 (MQ below Qc args s mc ms (fun _ => False)) (F0 m 0 ls [])) : Met l y (Cond.code y cc maxL ret :: fb_all) rm (fb_PP D tys av wc sz) Qc mc ms (fun _ => False) := by
  refine Met.ofW (cc := cc) (maxL := maxL) (ret := ret) hy rfl ?_
  intro p e s m args below meth c s₁ B hml hv
  obtain ⟨rfl, hsz, hP, hK, hD0, hF⟩ := hv
  subst hsz
  have hts : ∀ w ∈ fb_all, w.before av.toArray s = true := fun w h => atoms_spec (ws := Cond.code y cc maxL ret :: fb_all) B.pre w (List.mem_cons_of_mem _ h)
  have hown : s.vm.findClass y.cls = some m.cls := findClass_of_methodNamed (x := y) B.named
  have hl := lv_entry av (n := maxL) hn
  rw [lg_entry_eq]
  refine body p e s m av.toArray below meth c (va_A wc s.heap.size) _ ⟨B.exec, B.bytes, B.returns, hml, hown, hts, B.notSynchronized, fun q h => Or.inr h, hK, hF⟩ ⟨hP, hD0.self, va_S.rf⟩ hl ?_
  exact (name_of_methodNamed B.named B.method).1
end FBE
section FBC
variable {p : Program} {l : Launch} {e : Env} {R : Room} {s : State} {m : MethodId} {args : Array Value} {below : List Frame} {meth : Method} {c : Code} {H : Heap} {locs : List Loc} {cells slots : Nat} {Q : State → Prop}
  {cc : ByteArray} {own : String} {nL : Nat} {ret : Option FieldType} {D : va_G} {tys : List (ClassId × FieldType)} {A : Nat → Prop} {H0 : Heap} {ws wc wr : va_W} {pc : Nat} {ls : Array Slot} {lv : List (Nat × Value)} {rest : List Value}
/-- a callee's start out of the world here -/
theorem fb_pre (X : fb_Bx p s m args meth c cc own nL ret D tys A) (I : fb_In D A s.heap ws H locs) (isC : List Nat) (hnC : va_nd isC = true) (hC : isC.map (fun i => ws[i]?) = wc.map some) {av : List Value} :
    ∀ U : State, U.heap = H → s.WarmedH U.vm → fb_PP D tys av wc H.size av.toArray U := by
  obtain ⟨hx, hb, hr, hml, hown, hts, hlk, hA, hK, hF⟩ := X
  intro U hU hW
  subst hU
  exact ⟨rfl, rfl, fb_mapP I.1 isC hC, ⟨va_K.moved hW.alike hK.1, hK.2.warm hW⟩, (I.2.1.sub isC hnC hC).weaken (fun _ _ _ _ => trivial), hF.go I.2.2 (va_free I.2.1 I.2.2 hA isC hC) hW.alike⟩
theorem fb_csi {post : Int32 → Prop} {a : Array Value} {st0 : List Value} (hr : va_Run p l e R s m args below meth c H locs cells slots 0 0 (F0 m pc ls st0) rest (vp_Si post a) (fun _ => False))
    (kk : ∀ r : Int32, post r → W p l e R s m args below meth c H locs cells slots Q (F0 m (pc + 3) ls (.int r :: rest))) : W p l e R s m args below meth c H locs cells slots Q (F0 m pc ls st0) := by
  intro T hT X
  obtain ⟨v, st₀, t, T', L, h0, X', hL, e1, -, ⟨r, hv, hp, hh⟩, st⟩ := hr T hT X
  cases hv
  obtain ⟨t2, a1, b1⟩ := kk r hp T' (by rw [e1, hh, h0]) (Stand.forget X' (fun q h => (hL q h).elim))
  exact ⟨t2, st t2 a1, b1⟩
/-- behind a call: the callee's cells are new ones at the same places, the rest stays -/
theorem fb_back {w1 wn : va_W} {H1 : Heap} {locs1 : List Loc} (I : fb_In D A H0 ws H locs) (hA : ∀ q, H0.size ≤ q → A q) (isC isR isB : List Nat) (hC : isC.map (fun i => ws[i]?) = wc.map some) (hR : isR.map (fun i => ws[i]?) = wr.map some) (hnR : va_nd isR = true) (hdis : ∀ i ∈ isR, i ∉ isC) (hnB : va_nd isB = true) (hB : isB.map (fun i => (wr ++ w1)[i]?) = wn.map some)
    (hk : ∀ q : Nat, q < H.size → ¬ va_A wc H.size q → H1[q]? = H[q]?) (hP1 : va_P D vwCl w1 H1) (hD1 : va_D (va_A wc H.size) w1) (hS1 : va_S A H0 H1 locs1) : fb_In D A H0 wn H1 locs1 := by
  obtain ⟨h1, h2⟩ := va_join I.1 I.2.1 isC isR hC hR hnR hdis hk (va_free I.2.1 I.2.2 hA isC hC) hP1 hD1
  exact fb_In.pick ⟨h1, h2, hS1⟩ isB hnB hB
variable {y : MethodName} {bytes : ByteArray} {maxL index n : Nat} {ret' : Option FieldType} {rm : Room} {As : List Value} {b : Nat} {C : String} {fs : List Value} {ci q0 : Nat} {qc : vw_C} {host : String}
abbrev fb_hd (y : MethodName) (n : Nat) : Prop := y.cls ≠ "java/lang/invoke/MethodHandle" ∧ y.cls ≠ "java/lang/invoke/VarHandle" ∧ (parseMethodDescriptor y.desc).map (fun d => d.parameters.length) = some n
theorem fb_runV {Qc : Array Value → State → Outcome → State → Prop} {free : Addr → Prop} {st0 : List Value} (X : fb_Bx p s m args meth c cc own nL ret D tys A) (I : fb_In D A s.heap ws H locs) (hl : lv_has ls nL lv)
    (hM : Met l y (Cond.code y bytes maxL ret' :: fb_all) rm (fb_PP D tys (.ref b :: As) wc H.size) Qc 0 0 free) (hG : GoodIn fb_all (wsV own index C y (Cond.code y bytes maxL ret' :: fb_all))) (hrc : rm.cells = 0) (hrs : rm.slots = 0) (hyC : y.cls = C) (hd : fb_hd y n) (hR : rm.frames + 1 ≤ R.frames ∧ 8 + (maxL + 11) + rm.locals ≤ R.locals)
    (isC : List Nat) (hnC : va_nd isC = true) (hC : isC.map (fun i => ws[i]?) = wc.map some) (hq : vwCl[ci]? = some qc) (hqC : qc.1 = C) (he : ws[q0]? = some (b, .inr (ci, fs))) (hn : As.length = n) (hst : st0 = As.reverse ++ .ref b :: rest) (hrest : (rest.map fun v => v.category).sum ≤ 8) (hcl : cells ≤ R.cells ∧ slots ≤ R.slots) (hdg : decode cc pc = .ok (.invokevirtual index, 3)) :
    va_Run p l e R s m args below meth c H locs cells slots 0 0 (F0 m pc ls st0) rest (Qc (Value.ref b :: As).toArray) free := by
  have X0 := X
  obtain ⟨hx, hb, hr, hml, hown, hts, hlk, hA, hK, hF⟩ := X
  subst hst
  subst hqC
  exact va_runV (As := As) (rest := rest) ⟨hx, hb, hml, hown, hts⟩ hM (cwV n hts hG rfl hrc hrs ⟨hyC, hd⟩ hR) ⟨fb_PP.blind, va_recv hK.1 I.1 hq he, fb_pre X0 I isC hnC hC⟩ rfl hn hl.1 rfl (lv_room hrest) hdg hcl
theorem fb_runSN {Qc : Array Value → State → Outcome → State → Prop} {free : Addr → Prop} {st0 : List Value} (X : fb_Bx p s m args meth c cc own nL ret D tys A) (I : fb_In D A s.heap ws H locs) (hl : lv_has ls nL lv)
    (hM : Met l y (Cond.code y bytes maxL ret' :: fb_all) rm (fb_PP D tys As wc H.size) Qc 0 0 free) (hcode : Cond.code y bytes maxL ret' ∈ fb_all) (hrc : rm.cells = 0) (hrs : rm.slots = 0) (hnest : (own, index, y, host) ∈ fb_nM) (hini : Cond.initialized y.cls ∈ fb_all) (hstat : Cond.static y ∈ fb_all) (hd : fb_hd y n) (hR : rm.frames + 1 ≤ R.frames ∧ 8 + (maxL + 11) + rm.locals ≤ R.locals)
    (isC : List Nat) (hnC : va_nd isC = true) (hC : isC.map (fun i => ws[i]?) = wc.map some) (hn : As.length = n) (hst : st0 = As.reverse ++ rest) (hrest : (rest.map fun v => v.category).sum ≤ 8) (hcl : cells ≤ R.cells ∧ slots ≤ R.slots) (hdg : decode cc pc = .ok (.invokestatic index, 3)) :
    va_Run p l e R s m args below meth c H locs cells slots 0 0 (F0 m pc ls st0) rest (Qc As.toArray) free := by
  have X0 := X
  obtain ⟨hx, hb, hr, hml, hown, hts, hlk, hA, hK, hF⟩ := X
  subst hst
  exact va_runSN (As := As) (rest := rest) ⟨hx, hb, hml, hown, hts⟩ hM ⟨va_cnB n hts (fb_goodC hcode) rfl hrc hrs (hK.2.use hnest) (hts _ hini) hd hR, hts _ hstat, trivial⟩ ⟨fb_PP.blind, fb_pre X0 I isC hnC hC⟩ rfl hn hl.1 rfl (lv_room hrest) hdg hcl
theorem fb_runS {Qc : Array Value → State → Outcome → State → Prop} {free : Addr → Prop} {st0 : List Value} (X : fb_Bx p s m args meth c cc own nL ret D tys A) (I : fb_In D A s.heap ws H locs) (hl : lv_has ls nL lv)
    (hM : Met l y (Cond.code y bytes maxL ret' :: fb_all) rm (fb_PP D tys As wc H.size) Qc 0 0 free) (hG : GoodIn fb_all (va_wsS own index y (Cond.code y bytes maxL ret' :: fb_all))) (hrc : rm.cells = 0) (hrs : rm.slots = 0) (hd : fb_hd y n) (hR : rm.frames + 1 ≤ R.frames ∧ 8 + (maxL + 11) + rm.locals ≤ R.locals)
    (isC : List Nat) (hnC : va_nd isC = true) (hC : isC.map (fun i => ws[i]?) = wc.map some) (hn : As.length = n) (hst : st0 = As.reverse ++ rest) (hrest : (rest.map fun v => v.category).sum ≤ 8) (hcl : cells ≤ R.cells ∧ slots ≤ R.slots) (hdg : decode cc pc = .ok (.invokestatic index, 3)) :
    va_Run p l e R s m args below meth c H locs cells slots 0 0 (F0 m pc ls st0) rest (Qc As.toArray) free := by
  have X0 := X
  obtain ⟨hx, hb, hr, hml, hown, hts, hlk, hA, hK, hF⟩ := X
  subst hst
  exact va_runS (As := As) (rest := rest) ⟨hx, hb, hml, hown, hts⟩ hM (va_cwS n hts hG rfl hrc hrs hd hR) ⟨fb_PP.blind, fb_pre X0 I isC hnC hC⟩ rfl hn hl.1 rfl (lv_room hrest) hdg hcl
theorem fb_goV {S : Type} {post : S → Prop} {wf wn : S → va_W} {a : Array Value} {st0 : List Value} (X : fb_Bx p s m args meth c cc own nL ret D tys A) (I : fb_In D A s.heap ws H locs)
    (hr : va_Run p l e R s m args below meth c H locs cells slots 0 0 (F0 m pc ls st0) rest (fb_QV D (va_A wc H.size) post wf a) (va_A wc H.size)) (isC isR isB : List Nat) (hC : isC.map (fun i => ws[i]?) = wc.map some) (hR : isR.map (fun i => ws[i]?) = (isR.filterMap (fun i => ws[i]?)).map some) (hnR : va_nd isR = true) (hdis : ∀ i ∈ isR, i ∉ isC) (hnB : va_nd isB = true) (hB : ∀ u : S, isB.map (fun i => (isR.filterMap (fun i => ws[i]?) ++ wf u)[i]?) = (wn u).map some)
    (kk : ∀ (u : S) (H1 : Heap) (locs1 : List Loc), post u → fb_In D A s.heap (wn u) H1 locs1 → W p l e R s m args below meth c H1 locs1 cells slots Q (F0 m (pc + 3) ls rest)) : W p l e R s m args below meth c H locs cells slots Q (F0 m pc ls st0) := by
  obtain ⟨hx, hb, hr', hml, hown, hts, hlk, hA, hK, hF⟩ := X
  refine va_callv hr I.2.2 (fun q _ h => va_free I.2.1 I.2.2 hA isC hC q h) (va_free I.2.1 I.2.2 hA isC hC) ?_
  intro u t H1 locs1 ht hvm hp hBt hsz hkk hS1
  subst ht
  exact kk u _ locs1 hp (fb_back I hA isC isR isB hC hR hnR hdis hnB (hB u) hkk hBt.1 hBt.2 hS1)
/-- fields and rows of the world -/
theorem fb_get (X : fb_Bx p s m args meth c cc own nL ret D tys A) (I : fb_In D A s.heap ws H locs) {a index ci N k : Nat} {ref C : String} {T : u_T} {fs : List Value} {v : Value} (hin : ∀ w ∈ u_ws C T N, w ∈ fb_all) (q0 : Nat) (he : ws[q0]? = some (a, .inr (ci, fs))) (hc : vwCl[ci]? = some (C, T, N)) (hk : k < N) (hlink : Cond.fieldLink own index ref (T k).2.1 (T k).2.2.1 ∈ fb_all) (href : (T k).1 = ref) (hv : fs[k]? = some v) (hdg : decode cc pc = .ok (.getfield index, 3))
    (kk : W p l e R s m args below meth c H locs cells slots Q (F0 m (pc + 3) ls (v :: rest))) : W p l e R s m args below meth c H locs cells slots Q (F0 m pc ls (.ref a :: rest)) := by
  obtain ⟨hx, hb, hr, hml, hown, hts, hlk, hA, hK, hF⟩ := X
  subst href
  exact va_get hx hb hts hin hown hK.1 I.1 q0 he hc k hk (hts _ hlink) (fun _ h9 => h9) hv hdg kk
theorem fb_put (X : fb_Bx p s m args meth c cc own nL ret D tys A) (I : fb_In D A s.heap ws H locs) {a index ci N k : Nat} {ref C : String} {T : u_T} {fs : List Value} {v : Value} {wn : va_W} {ty : FieldType} (hin : ∀ w ∈ u_ws C T N, w ∈ fb_all) (ty0 : Nat → FieldType) (hty : ∀ k, k < N → parseFieldDescriptor (T k).2.2.1 = some (ty0 k)) (hnm : ∀ a, a < N → ∀ b, b < N → a ≠ b → (T a).2.1 ≠ (T b).2.1) (q0 : Nat) (he : ws[q0]? = some (a, .inr (ci, fs))) (hc : vwCl[ci]? = some (C, T, N)) (hk : k < N) (hlink : Cond.fieldLink own index ref (T k).2.1 (T k).2.2.1 ∈ fb_all) (href : (T k).1 = ref) (hfin : (T k).2.2.2 = false) (ht0 : ty0 k = ty) (hn : narrow ty v = v) (hfit : fits ty v = true) (hlen : k < fs.length) (hwn : ws.set q0 (a, .inr (ci, fs.set k v)) = wn) (hdg : decode cc pc = .ok (.putfield index, 3))
    (kk : ∀ (H1 : Heap) (locs1 : List Loc), fb_In D A s.heap wn H1 locs1 → W p l e R s m args below meth c H1 locs1 cells slots Q (F0 m (pc + 3) ls rest)) : W p l e R s m args below meth c H locs cells slots Q (F0 m pc ls (v :: .ref a :: rest)) := by
  obtain ⟨hx, hb, hr, hml, hown, hts, hlk, hA, hK, hF⟩ := X
  subst href
  subst ht0
  refine va_put hx hb hts hin ty0 hty hnm hown hK.1 I.1 I.2.1 I.2.2 q0 he hc k hk (hts _ hlink) (fun _ h9 => h9) hfin (hty k hk) hn hfit hlen hdg ?_
  intro H1 locs1 h1 h2 h3
  rw [hwn] at h1 h2
  exact kk H1 locs1 ⟨h1, h2, h3⟩
theorem fb_alen (X : fb_Bx p s m args meth c cc own nL ret D tys A) (I : fb_In D A s.heap ws H locs) {a : Nat} {cA : ClassId} {x : vp_A} {ty : FieldType} {v : Int32} (q0 t0 : Nat) (ha : ws[q0]? = some (a, .inl (cA, x))) (ht : tys[t0]? = some (cA, ty)) (hv : nI x.1 = v) (hdg : decode cc pc = .ok (.arraylength, 1))
    (kk : W p l e R s m args below meth c H locs cells slots Q (F0 m (pc + 1) ls (.int v :: rest))) : W p l e R s m args below meth c H locs cells slots Q (F0 m pc ls (.ref a :: rest)) := by
  obtain ⟨hx, hb, hr, hml, hown, hts, hlk, hA, hK, hF⟩ := X
  exact va_alen hx hb hK.1 I.1 q0 t0 ha ht hv hdg kk
theorem fb_iald (X : fb_Bx p s m args meth c cc own nL ret D tys A) (I : fb_In D A s.heap ws H locs) {a : Nat} {cA : ClassId} {N : Nat} {f : Nat → Int32} (q0 t0 : Nat) (ha : ws[q0]? = some (a, .inl (cA, N, .inl f))) (ht : tys[t0]? = some (cA, .int)) {i : Int32} (hin : vp_in i N) (hdg : decode cc pc = .ok (.iaload, 1))
    (kk : W p l e R s m args below meth c H locs cells slots Q (F0 m (pc + 1) ls (.int (f i.toNatClampNeg) :: rest))) : W p l e R s m args below meth c H locs cells slots Q (F0 m pc ls (.int i :: .ref a :: rest)) := by
  obtain ⟨hx, hb, hr, hml, hown, hts, hlk, hA, hK, hF⟩ := X
  exact va_iald hx hb hK.1 I.1 q0 t0 ha ht hin hdg kk
theorem fb_iast (X : fb_Bx p s m args meth c cc own nL ret D tys A) (I : fb_In D A s.heap ws H locs) {a : Nat} {cA : ClassId} {N : Nat} {f : Nat → Int32} {wn : va_W} (q0 t0 : Nat) (ha : ws[q0]? = some (a, .inl (cA, N, .inl f))) (ht : tys[t0]? = some (cA, .int)) {i x : Int32} (hin : vp_in i N) (hwn : ws.set q0 (a, .inl (cA, N, .inl (upd f i.toNatClampNeg x))) = wn) (hdg : decode cc pc = .ok (.iastore, 1))
    (kk : ∀ (H1 : Heap) (locs1 : List Loc), fb_In D A s.heap wn H1 locs1 → W p l e R s m args below meth c H1 locs1 cells slots Q (F0 m (pc + 1) ls rest)) : W p l e R s m args below meth c H locs cells slots Q (F0 m pc ls (.int x :: .int i :: .ref a :: rest)) := by
  obtain ⟨hx, hb, hr, hml, hown, hts, hlk, hA, hK, hF⟩ := X
  refine va_iast hx hb hK.1 I.1 I.2.1 I.2.2 q0 t0 ha ht hin hdg ?_
  intro H1 locs1 h1 h2 h3
  rw [hwn] at h1 h2
  exact kk H1 locs1 ⟨h1, h2, h3⟩
/-- the ends of a method -/
theorem fb_retI {S : Type} {post : Int32 → S → Prop} {wf : S → va_W} {u : S} {v : Int32} {ty : FieldType} (X : fb_Bx p s m args meth c cc own nL (some ty) D tys A) (I : fb_In D A s.heap (wf u) H locs) (hp : post v u) (hn : narrow ty (.int v) = .int v) (hdg : decode cc pc = .ok (.ireturn, 1)) : W p l e R s m args below meth c H locs cells slots (MQ below (fb_QI D A post wf) args s cells slots A) (F0 m pc ls [.int v]) := by
  obtain ⟨hx, hb, hr, hml, hown, hts, hlk, hA, hK, hF⟩ := X
  exact W.zret hx hb hr hn (fun t ht hW => ⟨⟨v, u, rfl, hp, by rw [ht]; exact I.1, I.2.1⟩, I.2.2.F ht⟩) I.2.2.2.2 hdg
theorem fb_retV {S : Type} {post : S → Prop} {wf : S → va_W} {u : S} (X : fb_Bx p s m args meth c cc own nL none D tys A) (I : fb_In D A s.heap (wf u) H locs) (hp : post u) (hdg : decode cc pc = .ok (.return_, 1)) : W p l e R s m args below meth c H locs cells slots (MQ below (fb_QV D A post wf) args s cells slots A) (F0 m pc ls []) := by
  obtain ⟨hx, hb, hr, hml, hown, hts, hlk, hA, hK, hF⟩ := X
  exact W.vret hx hb hr (fun t ht hW => ⟨⟨u, rfl, hp, by rw [ht]; exact I.1, I.2.1⟩, I.2.2.F ht⟩) I.2.2.2.2 hdg
theorem fb_retRI {v z : Int32} {ty : FieldType} (X : fb_Bx p s m args meth c cc own nL (some ty) D tys A) (E : z = v) (hn : narrow ty (.int v) = .int v) (hdg : decode cc pc = .ok (.ireturn, 1)) : W p l e R s m args below meth c s.heap [] cells slots (MQ below (vp_Si (fun r => r = z)) args s cells slots (fun _ => False)) (F0 m pc ls [.int v]) := by
  obtain ⟨hx, hb, hr, hml, hown, hts, hlk, hA, hK, hF⟩ := X
  exact W.zret hx hb hr hn (fun t ht hW => ⟨v, rfl, E.symm, ht⟩) (fun q h => by cases h) hdg
/-- calls that leave the heap as it is -/
theorem fb_roI {v : Int32} {a : Array Value} {st0 : List Value} (X : fb_Bx p s m args meth c cc own nL ret D tys A) (I : fb_In D A s.heap ws H locs) (hr : va_Run p l e R s m args below meth c H locs cells slots 0 0 (F0 m pc ls st0) rest (vp_Si (fun r => r = v) a) (fun _ => False))
    (kk : W p l e R s m args below meth c H locs cells slots Q (F0 m (pc + 3) ls (.int v :: rest))) : W p l e R s m args below meth c H locs cells slots Q (F0 m pc ls st0) := fb_csi hr (fun r h => by subst h; exact kk)
end FBC
theorem fb_ir {i : Int32} {N : Nat} (h : N < 2 ^ 31) (c1 : ¬ i < 0) (c2 : ¬ nI N ≤ i) : vp_in i N := by
  obtain ⟨j, hj, rfl⟩ := nI_of c1
  exact vp_in_nI (Nat.lt_of_not_le fun q => c2 (nI_le q hj)) h
/-- a loop's measure: up to a bound, down to 0 -/
def fb_mu (i B : Int32) : Nat := (B.toInt - i.toInt).toNat
theorem fb_toI1 {i B : Int32} (c : i.toInt < B.toInt) : (i + 1).toInt = i.toInt + 1 := by
  have a := Int32.toInt_lt B
  have b := Int32.le_toInt i
  rw [Int32.toInt_add, show (1 : Int32).toInt = 1 from rfl]
  exact Jvm.Kit.bmod32 (by omega) (by omega)
theorem fb_mu_lt {i B : Int32} {n : Nat} (c : i < B) (hm : fb_mu i B < n + 1) : fb_mu (i + 1) B < n := by
  rw [Int32.lt_iff_toInt_lt] at c
  unfold fb_mu at hm ⊢
  rw [fb_toI1 c]; omega
theorem fb_mu_ge {i B : Int32} {n : Nat} (c : ¬ B ≤ i) (hm : fb_mu i B < n + 1) : fb_mu (i + 1) B < n := by
  rw [Int32.le_iff_toInt_le] at c
  exact fb_mu_lt (Int32.lt_iff_toInt_lt.mpr (by omega)) hm
section FBD
variable {p : Program} {l : Launch} {e : Env} {R : Room} {s : State} {m : MethodId} {args : Array Value} {below : List Frame} {meth : Method} {c : Code} {H : Heap} {locs : List Loc} {cells slots : Nat} {Q : State → Prop}
  {cc : ByteArray} {own : String} {nL : Nat} {ret : Option FieldType} {D : va_G} {tys : List (ClassId × FieldType)} {A : Nat → Prop} {ws wc : va_W} {pc : Nat} {ls : Array Slot} {lv : List (Nat × Value)} {rest : List Value}
theorem fb_cellc {cA : ClassId} {n : Nat} {f g : Nat → Int32} (h : ∀ j, j < n → f j = g j) : vp_cell cA (n, .inl f) = vp_cell cA (n, .inl g) := by
  rw [vp_cell_i, vp_cell_i]
  unfold arrV
  have e : (fun j : Fin n => Value.int (f j.val)) = (fun j : Fin n => Value.int (g j.val)) := funext fun j => by rw [h j.val j.isLt]
  rw [e]
/-- a row's content may be said in any words that agree on its places -/
theorem fb_In.row {H0 : Heap} (I : fb_In D A H0 ws H locs) (k : Nat) {a : Nat} {cA : ClassId} {n : Nat} {f g : Nat → Int32} {wn : va_W} (ha : ws[k]? = some (a, .inl (cA, n, .inl f))) (h : ∀ j, j < n → f j = g j) (hwn : ws.set k (a, .inl (cA, n, .inl g)) = wn) : fb_In D A H0 wn H locs := by
  subst hwn
  refine ⟨?_, I.2.1.set ha, I.2.2⟩
  intro i q hq
  rw [List.getElem?_set] at hq
  by_cases hki : k = i
  · rw [if_pos hki] at hq
    by_cases hl : k < ws.length
    · rw [if_pos hl] at hq
      cases hq
      have h1 := I.1 k _ ha
      show H[a]? = some (vp_cell cA (n, .inl g))
      rw [← fb_cellc h]
      exact h1
    · rw [if_neg hl] at hq; cases hq
  · rw [if_neg hki] at hq
    exact I.1 i q hq
end FBD
end
section
/-! what a machine's state is: scalars by their field's number, memory, times, callers, nmiWanted, and its ports (scalars, input, output). What the latest step touched is no part of it: its row is any row. -/
abbrev fb_PS : Type := fb_AR × fb_AR × fb_AR
abbrev fb_MS : Type := fb_AR × fb_AR × fb_AR × fb_AR × Bool × fb_PS
def fb_sR (σ : fb_MS) (k : Nat) (v : Int32) : fb_MS := (upd σ.1 k v, σ.2)
def fb_sT (σ : fb_MS) (f : fb_AR) : fb_MS := (σ.1, σ.2.1, f, σ.2.2.2)
def fb_sB (σ : fb_MS) (b : Bool) : fb_MS := (σ.1, σ.2.1, σ.2.2.1, σ.2.2.2.1, b, σ.2.2.2.2.2)
def fb_sP (σ : fb_MS) (π : fb_PS) : fb_MS := (σ.1, σ.2.1, σ.2.2.1, σ.2.2.2.1, σ.2.2.2.2.1, π)
def fb_pR (π : fb_PS) (k : Nat) (v : Int32) : fb_PS := (upd π.1 k v, π.2)
def fb_ty (D : va_G) (cI cJ : ClassId) : List (ClassId × FieldType) := [(cI, .int), (cJ, .long), (D.1 20, .boolean), (D.1 21, .byte), (D.1 22, .array .int), (D.1 23, .object "FerriteBoard$Line")]
def fb_aw (cI : ClassId) (a N : Nat) (f : fb_AR) : va_W := [(a, .inl (cI, N, .inl f))]
def fb_pf (q : Nat → Nat) (π : fb_PS) : List Value := [.ref (q 6), .ref (q 7), .int (π.1 2), .int (π.1 3), .int (π.1 4), .int (π.1 5), .int (π.1 6), .int (π.1 7), .int (π.1 8), .int (π.1 9), .int (π.1 10), .int (π.1 11), .int (π.1 12), .int (π.1 13)]
def fb_pw (cI : ClassId) (q : Nat → Nat) (π : fb_PS) : va_W := [(q 5, .inr (5, fb_pf q π)), (q 6, .inl (cI, 16, .inl π.2.1)), (q 7, .inl (cI, 40, .inl π.2.2))]
def fb_mf (q : Nat → Nat) (σ : fb_MS) : List Value := [.ref (q 1), .ref (q 2), .ref (q 3), .ref (q 4), .ref (q 5), .int (σ.1 5), .int (σ.1 6), .int (σ.1 7), .int (σ.1 8), .int (σ.1 9), .int (σ.1 10), .int (σ.1 11), .int (σ.1 12), .int (σ.1 13), .int (σ.1 14), .int (σ.1 15), .int (fb_bI σ.2.2.2.2.1)]
def fb_mw (cI : ClassId) (q : Nat → Nat) (σ : fb_MS) (w : fb_AR) : va_W := [(q 0, .inr (2, fb_mf q σ)), (q 1, .inl (cI, 11008, .inl σ.2.1)), (q 2, .inl (cI, 4096, .inl σ.2.2.1)), (q 3, .inl (cI, 40, .inl σ.2.2.2.1)), (q 4, .inl (cI, 8, .inl w)), (q 5, .inr (5, fb_pf q σ.2.2.2.2.2)), (q 6, .inl (cI, 16, .inl σ.2.2.2.2.2.2.1)), (q 7, .inl (cI, 40, .inl σ.2.2.2.2.2.2.2))]
theorem fb_ms5 {cI : ClassId} {q : Nat → Nat} {σ : fb_MS} {w : fb_AR} {v : Int32} : (fb_mw cI q σ w).set 0 (q 0, .inr (2, (fb_mf q σ).set 5 (.int v))) = fb_mw cI q (fb_sR σ 5 v) w := rfl
theorem fb_ms6 {cI : ClassId} {q : Nat → Nat} {σ : fb_MS} {w : fb_AR} {v : Int32} : (fb_mw cI q σ w).set 0 (q 0, .inr (2, (fb_mf q σ).set 6 (.int v))) = fb_mw cI q (fb_sR σ 6 v) w := rfl
theorem fb_ms7 {cI : ClassId} {q : Nat → Nat} {σ : fb_MS} {w : fb_AR} {v : Int32} : (fb_mw cI q σ w).set 0 (q 0, .inr (2, (fb_mf q σ).set 7 (.int v))) = fb_mw cI q (fb_sR σ 7 v) w := rfl
theorem fb_ms8 {cI : ClassId} {q : Nat → Nat} {σ : fb_MS} {w : fb_AR} {v : Int32} : (fb_mw cI q σ w).set 0 (q 0, .inr (2, (fb_mf q σ).set 8 (.int v))) = fb_mw cI q (fb_sR σ 8 v) w := rfl
theorem fb_ms9 {cI : ClassId} {q : Nat → Nat} {σ : fb_MS} {w : fb_AR} {v : Int32} : (fb_mw cI q σ w).set 0 (q 0, .inr (2, (fb_mf q σ).set 9 (.int v))) = fb_mw cI q (fb_sR σ 9 v) w := rfl
theorem fb_ms10 {cI : ClassId} {q : Nat → Nat} {σ : fb_MS} {w : fb_AR} {v : Int32} : (fb_mw cI q σ w).set 0 (q 0, .inr (2, (fb_mf q σ).set 10 (.int v))) = fb_mw cI q (fb_sR σ 10 v) w := rfl
theorem fb_ms11 {cI : ClassId} {q : Nat → Nat} {σ : fb_MS} {w : fb_AR} {v : Int32} : (fb_mw cI q σ w).set 0 (q 0, .inr (2, (fb_mf q σ).set 11 (.int v))) = fb_mw cI q (fb_sR σ 11 v) w := rfl
theorem fb_ms12 {cI : ClassId} {q : Nat → Nat} {σ : fb_MS} {w : fb_AR} {v : Int32} : (fb_mw cI q σ w).set 0 (q 0, .inr (2, (fb_mf q σ).set 12 (.int v))) = fb_mw cI q (fb_sR σ 12 v) w := rfl
theorem fb_ms13 {cI : ClassId} {q : Nat → Nat} {σ : fb_MS} {w : fb_AR} {v : Int32} : (fb_mw cI q σ w).set 0 (q 0, .inr (2, (fb_mf q σ).set 13 (.int v))) = fb_mw cI q (fb_sR σ 13 v) w := rfl
theorem fb_ms14 {cI : ClassId} {q : Nat → Nat} {σ : fb_MS} {w : fb_AR} {v : Int32} : (fb_mw cI q σ w).set 0 (q 0, .inr (2, (fb_mf q σ).set 14 (.int v))) = fb_mw cI q (fb_sR σ 14 v) w := rfl
theorem fb_ps2 {cI : ClassId} {q : Nat → Nat} {π : fb_PS} {v : Int32} : (fb_pw cI q π).set 0 (q 5, .inr (5, (fb_pf q π).set 2 (.int v))) = fb_pw cI q (fb_pR π 2 v) := rfl
theorem fb_ps3 {cI : ClassId} {q : Nat → Nat} {π : fb_PS} {v : Int32} : (fb_pw cI q π).set 0 (q 5, .inr (5, (fb_pf q π).set 3 (.int v))) = fb_pw cI q (fb_pR π 3 v) := rfl
theorem fb_ps4 {cI : ClassId} {q : Nat → Nat} {π : fb_PS} {v : Int32} : (fb_pw cI q π).set 0 (q 5, .inr (5, (fb_pf q π).set 4 (.int v))) = fb_pw cI q (fb_pR π 4 v) := rfl
theorem fb_ps5 {cI : ClassId} {q : Nat → Nat} {π : fb_PS} {v : Int32} : (fb_pw cI q π).set 0 (q 5, .inr (5, (fb_pf q π).set 5 (.int v))) = fb_pw cI q (fb_pR π 5 v) := rfl
theorem fb_ps6 {cI : ClassId} {q : Nat → Nat} {π : fb_PS} {v : Int32} : (fb_pw cI q π).set 0 (q 5, .inr (5, (fb_pf q π).set 6 (.int v))) = fb_pw cI q (fb_pR π 6 v) := rfl
theorem fb_ps7 {cI : ClassId} {q : Nat → Nat} {π : fb_PS} {v : Int32} : (fb_pw cI q π).set 0 (q 5, .inr (5, (fb_pf q π).set 7 (.int v))) = fb_pw cI q (fb_pR π 7 v) := rfl
theorem fb_ps8 {cI : ClassId} {q : Nat → Nat} {π : fb_PS} {v : Int32} : (fb_pw cI q π).set 0 (q 5, .inr (5, (fb_pf q π).set 8 (.int v))) = fb_pw cI q (fb_pR π 8 v) := rfl
theorem fb_ps9 {cI : ClassId} {q : Nat → Nat} {π : fb_PS} {v : Int32} : (fb_pw cI q π).set 0 (q 5, .inr (5, (fb_pf q π).set 9 (.int v))) = fb_pw cI q (fb_pR π 9 v) := rfl
theorem fb_ps10 {cI : ClassId} {q : Nat → Nat} {π : fb_PS} {v : Int32} : (fb_pw cI q π).set 0 (q 5, .inr (5, (fb_pf q π).set 10 (.int v))) = fb_pw cI q (fb_pR π 10 v) := rfl
theorem fb_ps11 {cI : ClassId} {q : Nat → Nat} {π : fb_PS} {v : Int32} : (fb_pw cI q π).set 0 (q 5, .inr (5, (fb_pf q π).set 11 (.int v))) = fb_pw cI q (fb_pR π 11 v) := rfl
theorem fb_ps12 {cI : ClassId} {q : Nat → Nat} {π : fb_PS} {v : Int32} : (fb_pw cI q π).set 0 (q 5, .inr (5, (fb_pf q π).set 12 (.int v))) = fb_pw cI q (fb_pR π 12 v) := rfl
theorem fb_ps13 {cI : ClassId} {q : Nat → Nat} {π : fb_PS} {v : Int32} : (fb_pw cI q π).set 0 (q 5, .inr (5, (fb_pf q π).set 13 (.int v))) = fb_pw cI q (fb_pR π 13 v) := rfl
/-! the other objects: addresses in their references, scalars by their field's number -/
def fb_o0 (a r0 r1 : Nat) (η : fb_AR) : va_W := [(a, .inr (0, [.ref r0, .ref r1, .int (η 2), .int (η 3), .int (η 4), .int (η 5)]))]
def fb_o3 (a r0 r1 r3 : Nat) (η : fb_AR) : va_W := [(a, .inr (3, [.ref r0, .ref r1, .int (η 2), .ref r3, .int (η 4)]))]
def fb_o4 (a r0 r1 r2 r3 r4 r5 r6 r7 r9 : Nat) (η : fb_AR) : va_W := [(a, .inr (4, [.ref r0, .ref r1, .ref r2, .ref r3, .ref r4, .ref r5, .ref r6, .ref r7, .int (η 8), .ref r9, .int (η 10), .int (η 11), .int (η 12), .int (η 13), .int (η 14)]))]
def fb_o6 (a r0 r1 r2 : Nat) (η : fb_AR) : va_W := [(a, .inr (6, [.ref r0, .ref r1, .ref r2, .int (η 3), .int (η 4)]))]
def fb_o7 (a r0 r1 r3 r4 r5 : Nat) (η : fb_AR) : va_W := [(a, .inr (7, [.ref r0, .ref r1, .int (η 2), .ref r3, .ref r4, .ref r5, .int (η 6), .int (η 7)]))]
def fb_o11 (a r0 r1 r2 r3 r4 r5 r6 r7 r8 r9 : Nat) : va_W := [(a, .inr (11, [.ref r0, .ref r1, .ref r2, .ref r3, .ref r4, .ref r5, .ref r6, .ref r7, .ref r8, .ref r9]))]
end
section
/-! X11_at -/
def f_X11_at (zN : Nat) (zf : fb_AR) (l1 : Int32) : Int32 := (if l1 < 0 then (0 : Int32) else (if (nI zN) ≤ l1 then (0 : Int32) else (zf (l1).toNatClampNeg)))
set_option maxHeartbeats 4000000 in
set_option maxRecDepth 100000 in
theorem b_X11_at_0 {p : Program} {l : Launch} {e : Env} {s : State} {m : MethodId} {args : Array Value} {below : List Frame} {meth : Method} {c : Code} {D : va_G} {cI cJ : ClassId} {A : Nat → Prop} {za : Nat} {zN : Nat} {z : Int32} (X : fb_Bx p s m args meth c cX11_at RX11 2 (some .int) D (fb_ty D cI cJ) A) {zf : fb_AR} {l1 : Int32} {ls : Array Slot} (hN : zN < 2 ^ 31) (I : fb_In D A s.heap ((fb_aw cI za zN zf)) s.heap []) (hl : lv_has ls 2 [(0, .ref za), (1, .int l1)]) (E : z = f_X11_at zN zf l1) : W p l e ({ frames := 0, cells := 0, slots := 0, locals := 0 } : Room) s m args below meth c s.heap [] 0 0 (MQ below (vp_Si (fun r => r = z)) args s 0 0 (fun _ => False)) (F0 m 0 ls []) := by
  obtain ⟨hx, hb, hr, hml, hown, hts, hlk, hA, hK, hF⟩ := id X
  refine lv_iload_n hx hb dX11_at_0 rfl (lv_at hl 1 rfl) ?_
  refine lv_if_lt (tgt := 16) hx hb dX11_at_1 (by decide) (fun c1 => ?_) (fun c1 => ?_)
  · have E2 := (E.trans (if_pos c1))
    refine lv_iconst (v := (0 : Int32)) hx hb dX11_at_16 (by decide) ?_
    exact fb_retRI X E2 rfl dX11_at_17
  · have E3 := (E.trans (if_neg c1))
    refine lv_iload_n hx hb dX11_at_4 rfl (lv_at hl 1 rfl) ?_
    refine lv_aload_n hx hb dX11_at_5 rfl (lv_at hl 0 rfl) ?_
    refine fb_alen (v := nI zN) X I 0 0 rfl rfl rfl dX11_at_6 ?_
    refine lv_icmp_ge (tgt := 16) hx hb dX11_at_7 (by decide) (fun c4 => ?_) (fun c4 => ?_)
    · have E5 := (E3.trans (if_pos c4))
      refine lv_iconst (v := (0 : Int32)) hx hb dX11_at_16 (by decide) ?_
      exact fb_retRI X E5 rfl dX11_at_17
    · have E6 := (E3.trans (if_neg c4))
      refine lv_aload_n hx hb dX11_at_10 rfl (lv_at hl 0 rfl) ?_
      refine lv_iload_n hx hb dX11_at_11 rfl (lv_at hl 1 rfl) ?_
      refine fb_iald X I (i := l1) 0 0 rfl rfl (fb_ir hN c1 c4) dX11_at_12 ?_
      refine lv_goto (tgt := 17) hx hb dX11_at_13 (by decide) ?_
      exact fb_retRI X E6 rfl dX11_at_17
set_option maxHeartbeats 4000000 in
set_option maxRecDepth 100000 in
theorem c_X11_at (l : Launch) (D : va_G) (cI cJ : ClassId) (za : Nat) (zN : Nat) (zf : fb_AR) (l1 : Int32) (sz : Nat) (hN : zN < 2 ^ 31) : Met l yX11_at (Cond.code yX11_at cX11_at 2 (some .int) :: fb_all) ({ frames := 0, cells := 0, slots := 0, locals := 0 } : Room) (fb_PP D (fb_ty D cI cJ) [.ref za, .int l1] ((fb_aw cI za zN zf)) sz) (vp_Si (fun r => r = ((f_X11_at zN zf l1)))) 0 0 (fun _ => False) := by
  refine fb_entR (by decide +kernel) (Nat.le_of_ble_eq_true rfl) ?_
  intro p e s m args below meth c A ls X I hl hin
  exact b_X11_at_0 X hN I hl rfl
/-! X11_put -/
def f_X11_put (zN : Nat) (zf : fb_AR) (l1 : Int32) (l2 : Int32) : fb_AR := (if l1 < 0 then zf else (if (nI zN) ≤ l1 then zf else (upd zf (l1).toNatClampNeg l2)))
set_option maxHeartbeats 4000000 in
set_option maxRecDepth 100000 in
theorem b_X11_put_0 {p : Program} {l : Launch} {e : Env} {s : State} {m : MethodId} {args : Array Value} {below : List Frame} {meth : Method} {c : Code} {D : va_G} {cI cJ : ClassId} {A : Nat → Prop} {za : Nat} {zN : Nat} {z : fb_AR} (X : fb_Bx p s m args meth c cX11_put RX11 3 none D (fb_ty D cI cJ) A) {zf : fb_AR} {l1 : Int32} {l2 : Int32} {H : Heap} {locs : List Loc} {ls : Array Slot} (hN : zN < 2 ^ 31) (I : fb_In D A s.heap ((fb_aw cI za zN zf)) H locs) (hl : lv_has ls 3 [(0, .ref za), (1, .int l1), (2, .int l2)]) (E : z = f_X11_put zN zf l1 l2) : W p l e ({ frames := 0, cells := 0, slots := 0, locals := 0 } : Room) s m args below meth c H locs 0 0 (MQ below (fb_QV D A (fun (_ : Unit) => True) (fun (t : Unit) => (fb_aw cI za zN (z)))) args s 0 0 A) (F0 m 0 ls []) := by
  obtain ⟨hx, hb, hr, hml, hown, hts, hlk, hA, hK, hF⟩ := id X
  refine lv_iload_n hx hb dX11_put_0 rfl (lv_at hl 1 rfl) ?_
  refine lv_if_lt (tgt := 14) hx hb dX11_put_1 (by decide) (fun c1 => ?_) (fun c1 => ?_)
  · have E2 := (E.trans (if_pos c1))
    subst E2
    exact fb_retV (u := ()) X I trivial dX11_put_14
  · have E3 := (E.trans (if_neg c1))
    refine lv_iload_n hx hb dX11_put_4 rfl (lv_at hl 1 rfl) ?_
    refine lv_aload_n hx hb dX11_put_5 rfl (lv_at hl 0 rfl) ?_
    refine fb_alen (v := nI zN) X I 0 0 rfl rfl rfl dX11_put_6 ?_
    refine lv_icmp_ge (tgt := 14) hx hb dX11_put_7 (by decide) (fun c4 => ?_) (fun c4 => ?_)
    · have E5 := (E3.trans (if_pos c4))
      subst E5
      exact fb_retV (u := ()) X I trivial dX11_put_14
    · have E6 := (E3.trans (if_neg c4))
      refine lv_aload_n hx hb dX11_put_10 rfl (lv_at hl 0 rfl) ?_
      refine lv_iload_n hx hb dX11_put_11 rfl (lv_at hl 1 rfl) ?_
      refine lv_iload_n hx hb dX11_put_12 rfl (lv_at hl 2 rfl) ?_
      refine fb_iast (wn := (fb_aw cI za zN (upd zf (l1).toNatClampNeg l2))) X I (i := l1) 0 0 rfl rfl (fb_ir hN c1 c4) rfl dX11_put_13 (fun H locs I => ?_)
      subst E6
      exact fb_retV (u := ()) X I trivial dX11_put_14
set_option maxHeartbeats 4000000 in
set_option maxRecDepth 100000 in
theorem c_X11_put (l : Launch) (D : va_G) (cI cJ : ClassId) (za : Nat) (zN : Nat) (zf : fb_AR) (l1 : Int32) (l2 : Int32) (sz : Nat) (hN : zN < 2 ^ 31) : Met l yX11_put (Cond.code yX11_put cX11_put 3 none :: fb_all) ({ frames := 0, cells := 0, slots := 0, locals := 0 } : Room) (fb_PP D (fb_ty D cI cJ) [.ref za, .int l1, .int l2] ((fb_aw cI za zN zf)) sz) (fb_QV D (va_A ((fb_aw cI za zN zf)) sz) (fun (_ : Unit) => True) (fun (t : Unit) => (fb_aw cI za zN (((f_X11_put zN zf l1 l2)))))) 0 0 (va_A ((fb_aw cI za zN zf)) sz) := by
  refine fb_ent (Qf := fun A => (fb_QV D A (fun (_ : Unit) => True) (fun (t : Unit) => (fb_aw cI za zN (((f_X11_put zN zf l1 l2))))))) (by decide +kernel) (Nat.le_of_ble_eq_true rfl) ?_
  intro p e s m args below meth c A ls X I hl hin
  exact b_X11_put_0 X hN I hl rfl
/-! X11_signed -/
def f_X11_signed (l0 : Int32) : Int32 := (if (128 : Int32) ≤ l0 then (l0 - (256 : Int32)) else l0)
set_option maxHeartbeats 4000000 in
set_option maxRecDepth 100000 in
theorem b_X11_signed_0 {p : Program} {l : Launch} {e : Env} {s : State} {m : MethodId} {args : Array Value} {below : List Frame} {meth : Method} {c : Code} {D : va_G} {cI cJ : ClassId} {A : Nat → Prop}  {z : Int32} (X : fb_Bx p s m args meth c cX11_signed RX11 1 (some .int) D (fb_ty D cI cJ) A) {l0 : Int32} {ls : Array Slot}  (I : fb_In D A s.heap (([] : va_W)) s.heap []) (hl : lv_has ls 1 [(0, .int l0)]) (E : z = f_X11_signed l0) : W p l e ({ frames := 0, cells := 0, slots := 0, locals := 0 } : Room) s m args below meth c s.heap [] 0 0 (MQ below (vp_Si (fun r => r = z)) args s 0 0 (fun _ => False)) (F0 m 0 ls []) := by
  obtain ⟨hx, hb, hr, hml, hown, hts, hlk, hA, hK, hF⟩ := id X
  refine lv_iload_n hx hb dX11_signed_0 rfl (lv_at hl 0 rfl) ?_
  refine lv_sipush (v := (128 : Int32)) hx hb dX11_signed_1 (by decide) ?_
  refine lv_icmp_ge (tgt := 11) hx hb dX11_signed_4 (by decide) (fun c1 => ?_) (fun c1 => ?_)
  · have E2 := (E.trans (if_pos c1))
    refine lv_iload_n hx hb dX11_signed_11 rfl (lv_at hl 0 rfl) ?_
    refine lv_sipush (v := (256 : Int32)) hx hb dX11_signed_12 (by decide) ?_
    refine lv_isub hx hb dX11_signed_15 ?_
    exact fb_retRI X E2 rfl dX11_signed_16
  · have E3 := (E.trans (if_neg c1))
    refine lv_iload_n hx hb dX11_signed_7 rfl (lv_at hl 0 rfl) ?_
    refine lv_goto (tgt := 16) hx hb dX11_signed_8 (by decide) ?_
    exact fb_retRI X E3 rfl dX11_signed_16
set_option maxHeartbeats 4000000 in
set_option maxRecDepth 100000 in
theorem c_X11_signed (l : Launch) (D : va_G) (cI cJ : ClassId)  (l0 : Int32) (sz : Nat)  : Met l yX11_signed (Cond.code yX11_signed cX11_signed 1 (some .int) :: fb_all) ({ frames := 0, cells := 0, slots := 0, locals := 0 } : Room) (fb_PP D (fb_ty D cI cJ) [.int l0] (([] : va_W)) sz) (vp_Si (fun r => r = ((f_X11_signed l0)))) 0 0 (fun _ => False) := by
  refine fb_entR (by decide +kernel) (Nat.le_of_ble_eq_true rfl) ?_
  intro p e s m args below meth c A ls X I hl hin
  exact b_X11_signed_0 X  I hl rfl
/-! X11_placeOf -/
def f_X11_placeOf (l0 : Int32) (l1 : Int32) : Int32 := (if (1792 : Int32) ≤ l0 then (if (2048 : Int32) ≤ l0 then (if (3072 : Int32) ≤ l0 then (((9984 : Int32) + l0) - (3072 : Int32)) else ((((1792 : Int32) + (l1 * (1024 : Int32))) + l0) - (2048 : Int32))) else (-1 : Int32)) else l0)
set_option maxHeartbeats 4000000 in
set_option maxRecDepth 100000 in
theorem b_X11_placeOf_0 {p : Program} {l : Launch} {e : Env} {s : State} {m : MethodId} {args : Array Value} {below : List Frame} {meth : Method} {c : Code} {D : va_G} {cI cJ : ClassId} {A : Nat → Prop}  {z : Int32} (X : fb_Bx p s m args meth c cX11_placeOf RX11 2 (some .int) D (fb_ty D cI cJ) A) {l0 : Int32} {l1 : Int32} {ls : Array Slot}  (I : fb_In D A s.heap (([] : va_W)) s.heap []) (hl : lv_has ls 2 [(0, .int l0), (1, .int l1)]) (E : z = f_X11_placeOf l0 l1) : W p l e ({ frames := 0, cells := 0, slots := 0, locals := 0 } : Room) s m args below meth c s.heap [] 0 0 (MQ below (vp_Si (fun r => r = z)) args s 0 0 (fun _ => False)) (F0 m 0 ls []) := by
  obtain ⟨hx, hb, hr, hml, hown, hts, hlk, hA, hK, hF⟩ := id X
  refine lv_iload_n hx hb dX11_placeOf_0 rfl (lv_at hl 0 rfl) ?_
  refine lv_sipush (v := (1792 : Int32)) hx hb dX11_placeOf_1 (by decide) ?_
  refine lv_icmp_ge (tgt := 9) hx hb dX11_placeOf_4 (by decide) (fun c1 => ?_) (fun c1 => ?_)
  · have E2 := (E.trans (if_pos c1))
    refine lv_iload_n hx hb dX11_placeOf_9 rfl (lv_at hl 0 rfl) ?_
    refine lv_sipush (v := (2048 : Int32)) hx hb dX11_placeOf_10 (by decide) ?_
    refine lv_icmp_ge (tgt := 18) hx hb dX11_placeOf_13 (by decide) (fun c4 => ?_) (fun c4 => ?_)
    · have E5 := (E2.trans (if_pos c4))
      refine lv_iload_n hx hb dX11_placeOf_18 rfl (lv_at hl 0 rfl) ?_
      refine lv_sipush (v := (3072 : Int32)) hx hb dX11_placeOf_19 (by decide) ?_
      refine lv_icmp_ge (tgt := 41) hx hb dX11_placeOf_22 (by decide) (fun c7 => ?_) (fun c7 => ?_)
      · have E8 := (E5.trans (if_pos c7))
        refine lv_sipush (v := (9984 : Int32)) hx hb dX11_placeOf_41 (by decide) ?_
        refine lv_iload_n hx hb dX11_placeOf_44 rfl (lv_at hl 0 rfl) ?_
        refine lv_iadd hx hb dX11_placeOf_45 ?_
        refine lv_sipush (v := (3072 : Int32)) hx hb dX11_placeOf_46 (by decide) ?_
        refine lv_isub hx hb dX11_placeOf_49 ?_
        exact fb_retRI X E8 rfl dX11_placeOf_50
      · have E9 := (E5.trans (if_neg c7))
        refine lv_sipush (v := (1792 : Int32)) hx hb dX11_placeOf_25 (by decide) ?_
        refine lv_iload_n hx hb dX11_placeOf_28 rfl (lv_at hl 1 rfl) ?_
        refine lv_sipush (v := (1024 : Int32)) hx hb dX11_placeOf_29 (by decide) ?_
        refine lv_imul hx hb dX11_placeOf_32 ?_
        refine lv_iadd hx hb dX11_placeOf_33 ?_
        refine lv_iload_n hx hb dX11_placeOf_34 rfl (lv_at hl 0 rfl) ?_
        refine lv_iadd hx hb dX11_placeOf_35 ?_
        refine lv_sipush (v := (2048 : Int32)) hx hb dX11_placeOf_36 (by decide) ?_
        refine lv_isub hx hb dX11_placeOf_39 ?_
        exact fb_retRI X E9 rfl dX11_placeOf_40
    · have E6 := (E2.trans (if_neg c4))
      refine lv_iconst (v := (-1 : Int32)) hx hb dX11_placeOf_16 (by decide) ?_
      exact fb_retRI X E6 rfl dX11_placeOf_17
  · have E3 := (E.trans (if_neg c1))
    refine lv_iload_n hx hb dX11_placeOf_7 rfl (lv_at hl 0 rfl) ?_
    exact fb_retRI X E3 rfl dX11_placeOf_8
set_option maxHeartbeats 4000000 in
set_option maxRecDepth 100000 in
theorem c_X11_placeOf (l : Launch) (D : va_G) (cI cJ : ClassId)  (l0 : Int32) (l1 : Int32) (sz : Nat)  : Met l yX11_placeOf (Cond.code yX11_placeOf cX11_placeOf 2 (some .int) :: fb_all) ({ frames := 0, cells := 0, slots := 0, locals := 0 } : Room) (fb_PP D (fb_ty D cI cJ) [.int l0, .int l1] (([] : va_W)) sz) (vp_Si (fun r => r = ((f_X11_placeOf l0 l1)))) 0 0 (fun _ => False) := by
  refine fb_entR (by decide +kernel) (Nat.le_of_ble_eq_true rfl) ?_
  intro p e s m args below meth c A ls X I hl hin
  exact b_X11_placeOf_0 X  I hl rfl
/-! X11_hasMode -/
def f_X11_hasMode (l0 : Int32) (l1 : Int32) : Int32 := (if l0 < (24 : Int32) then (if (16 : Int32) ≤ l0 then (if l1 < (2 : Int32) then (0 : Int32) else (if (6 : Int32) < l1 then (0 : Int32) else (1 : Int32))) else (if l1 < (1 : Int32) then (0 : Int32) else (if (6 : Int32) < l1 then (0 : Int32) else (1 : Int32)))) else (if l1 < (3 : Int32) then (0 : Int32) else (if (5 : Int32) < l1 then (0 : Int32) else (1 : Int32))))
set_option maxHeartbeats 4000000 in
set_option maxRecDepth 100000 in
theorem b_X11_hasMode_0 {p : Program} {l : Launch} {e : Env} {s : State} {m : MethodId} {args : Array Value} {below : List Frame} {meth : Method} {c : Code} {D : va_G} {cI cJ : ClassId} {A : Nat → Prop}  {z : Int32} (X : fb_Bx p s m args meth c cX11_hasMode RX11 3 (some .boolean) D (fb_ty D cI cJ) A) {l0 : Int32} {l1 : Int32} {ls : Array Slot}  (I : fb_In D A s.heap (([] : va_W)) s.heap []) (hl : lv_has ls 3 [(0, .int l0), (1, .int l1)]) (E : z = f_X11_hasMode l0 l1) : W p l e ({ frames := 0, cells := 0, slots := 0, locals := 0 } : Room) s m args below meth c s.heap [] 0 0 (MQ below (vp_Si (fun r => r = z)) args s 0 0 (fun _ => False)) (F0 m 0 ls []) := by
  obtain ⟨hx, hb, hr, hml, hown, hts, hlk, hA, hK, hF⟩ := id X
  refine lv_iload_n hx hb dX11_hasMode_0 rfl (lv_at hl 0 rfl) ?_
  refine lv_bipush (v := (24 : Int32)) hx hb dX11_hasMode_1 (by decide) ?_
  refine lv_icmp_lt (tgt := 22) hx hb dX11_hasMode_3 (by decide) (fun c1 => ?_) (fun c1 => ?_)
  · have E2 := (E.trans (if_pos c1))
    refine lv_iload_n hx hb dX11_hasMode_22 rfl (lv_at hl 0 rfl) ?_
    refine lv_bipush (v := (16 : Int32)) hx hb dX11_hasMode_23 (by decide) ?_
    refine lv_icmp_ge (tgt := 32) hx hb dX11_hasMode_25 (by decide) (fun c4 => ?_) (fun c4 => ?_)
    · have E5 := (E2.trans (if_pos c4))
      refine lv_iconst (v := (2 : Int32)) hx hb dX11_hasMode_32 (by decide) ?_
      refine lv_istore_n (lv' := [(2, .int (2 : Int32)), (0, .int l0), (1, .int l1)]) hx hb dX11_hasMode_33 rfl hl (by decide) rfl (fun ls hl => ?_)
      refine lv_iload_n hx hb dX11_hasMode_34 rfl (lv_at hl 2 rfl) ?_
      refine lv_iload_n hx hb dX11_hasMode_35 rfl (lv_at hl 0 rfl) ?_
      refine lv_icmp_lt (tgt := 49) hx hb dX11_hasMode_36 (by decide) (fun c7 => ?_) (fun c7 => ?_)
      · have E8 := (E5.trans (if_pos c7))
        refine lv_iconst (v := (0 : Int32)) hx hb dX11_hasMode_49 (by decide) ?_
        exact fb_retRI X E8 rfl dX11_hasMode_50
      · have E9 := (E5.trans (if_neg c7))
        refine lv_iload_n hx hb dX11_hasMode_39 rfl (lv_at hl 2 rfl) ?_
        refine lv_bipush (v := (6 : Int32)) hx hb dX11_hasMode_40 (by decide) ?_
        refine lv_icmp_gt (tgt := 49) hx hb dX11_hasMode_42 (by decide) (fun c10 => ?_) (fun c10 => ?_)
        · have E11 := (E9.trans (if_pos c10))
          refine lv_iconst (v := (0 : Int32)) hx hb dX11_hasMode_49 (by decide) ?_
          exact fb_retRI X E11 rfl dX11_hasMode_50
        · have E12 := (E9.trans (if_neg c10))
          refine lv_iconst (v := (1 : Int32)) hx hb dX11_hasMode_45 (by decide) ?_
          refine lv_goto (tgt := 50) hx hb dX11_hasMode_46 (by decide) ?_
          exact fb_retRI X E12 rfl dX11_hasMode_50
    · have E6 := (E2.trans (if_neg c4))
      refine lv_iconst (v := (1 : Int32)) hx hb dX11_hasMode_28 (by decide) ?_
      refine lv_goto (tgt := 33) hx hb dX11_hasMode_29 (by decide) ?_
      refine lv_istore_n (lv' := [(2, .int (1 : Int32)), (0, .int l0), (1, .int l1)]) hx hb dX11_hasMode_33 rfl hl (by decide) rfl (fun ls hl => ?_)
      refine lv_iload_n hx hb dX11_hasMode_34 rfl (lv_at hl 2 rfl) ?_
      refine lv_iload_n hx hb dX11_hasMode_35 rfl (lv_at hl 0 rfl) ?_
      refine lv_icmp_lt (tgt := 49) hx hb dX11_hasMode_36 (by decide) (fun c13 => ?_) (fun c13 => ?_)
      · have E14 := (E6.trans (if_pos c13))
        refine lv_iconst (v := (0 : Int32)) hx hb dX11_hasMode_49 (by decide) ?_
        exact fb_retRI X E14 rfl dX11_hasMode_50
      · have E15 := (E6.trans (if_neg c13))
        refine lv_iload_n hx hb dX11_hasMode_39 rfl (lv_at hl 2 rfl) ?_
        refine lv_bipush (v := (6 : Int32)) hx hb dX11_hasMode_40 (by decide) ?_
        refine lv_icmp_gt (tgt := 49) hx hb dX11_hasMode_42 (by decide) (fun c16 => ?_) (fun c16 => ?_)
        · have E17 := (E15.trans (if_pos c16))
          refine lv_iconst (v := (0 : Int32)) hx hb dX11_hasMode_49 (by decide) ?_
          exact fb_retRI X E17 rfl dX11_hasMode_50
        · have E18 := (E15.trans (if_neg c16))
          refine lv_iconst (v := (1 : Int32)) hx hb dX11_hasMode_45 (by decide) ?_
          refine lv_goto (tgt := 50) hx hb dX11_hasMode_46 (by decide) ?_
          exact fb_retRI X E18 rfl dX11_hasMode_50
  · have E3 := (E.trans (if_neg c1))
    refine lv_iload_n hx hb dX11_hasMode_6 rfl (lv_at hl 1 rfl) ?_
    refine lv_iconst (v := (3 : Int32)) hx hb dX11_hasMode_7 (by decide) ?_
    refine lv_icmp_lt (tgt := 20) hx hb dX11_hasMode_8 (by decide) (fun c19 => ?_) (fun c19 => ?_)
    · have E20 := (E3.trans (if_pos c19))
      refine lv_iconst (v := (0 : Int32)) hx hb dX11_hasMode_20 (by decide) ?_
      exact fb_retRI X E20 rfl dX11_hasMode_21
    · have E21 := (E3.trans (if_neg c19))
      refine lv_iload_n hx hb dX11_hasMode_11 rfl (lv_at hl 1 rfl) ?_
      refine lv_iconst (v := (5 : Int32)) hx hb dX11_hasMode_12 (by decide) ?_
      refine lv_icmp_gt (tgt := 20) hx hb dX11_hasMode_13 (by decide) (fun c22 => ?_) (fun c22 => ?_)
      · have E23 := (E21.trans (if_pos c22))
        refine lv_iconst (v := (0 : Int32)) hx hb dX11_hasMode_20 (by decide) ?_
        exact fb_retRI X E23 rfl dX11_hasMode_21
      · have E24 := (E21.trans (if_neg c22))
        refine lv_iconst (v := (1 : Int32)) hx hb dX11_hasMode_16 (by decide) ?_
        refine lv_goto (tgt := 21) hx hb dX11_hasMode_17 (by decide) ?_
        exact fb_retRI X E24 rfl dX11_hasMode_21
set_option maxHeartbeats 4000000 in
set_option maxRecDepth 100000 in
theorem c_X11_hasMode (l : Launch) (D : va_G) (cI cJ : ClassId)  (l0 : Int32) (l1 : Int32) (sz : Nat)  : Met l yX11_hasMode (Cond.code yX11_hasMode cX11_hasMode 3 (some .boolean) :: fb_all) ({ frames := 0, cells := 0, slots := 0, locals := 0 } : Room) (fb_PP D (fb_ty D cI cJ) [.int l0, .int l1] (([] : va_W)) sz) (vp_Si (fun r => r = ((f_X11_hasMode l0 l1)))) 0 0 (fun _ => False) := by
  refine fb_entR (by decide +kernel) (Nat.le_of_ble_eq_true rfl) ?_
  intro p e s m args below meth c A ls X I hl hin
  exact b_X11_hasMode_0 X  I hl rfl
/-! X11_lengthOf -/
def f_X11_lengthOf (l0 : Int32) : Int32 := (if (4 : Int32) ≤ (l0 >>> ((3 : Int32) &&& 31)) then (if l0 < (208 : Int32) then (if (f_X11_hasMode (l0 >>> ((3 : Int32) &&& 31)) (l0 &&& (7 : Int32))) = 0 then (0 : Int32) else (if (l0 &&& (7 : Int32)) = (3 : Int32) then (3 : Int32) else (if (l0 &&& (7 : Int32)) = (4 : Int32) then (3 : Int32) else (2 : Int32)))) else (if (217 : Int32) < l0 then (0 : Int32) else (2 : Int32))) else (1 : Int32))
set_option maxHeartbeats 4000000 in
set_option maxRecDepth 100000 in
theorem b_X11_lengthOf_0 {p : Program} {l : Launch} {e : Env} {s : State} {m : MethodId} {args : Array Value} {below : List Frame} {meth : Method} {c : Code} {D : va_G} {cI cJ : ClassId} {A : Nat → Prop}  {z : Int32} (X : fb_Bx p s m args meth c cX11_lengthOf RX11 3 (some .int) D (fb_ty D cI cJ) A) {l0 : Int32} {ls : Array Slot}  (I : fb_In D A s.heap (([] : va_W)) s.heap []) (hl : lv_has ls 3 [(0, .int l0)]) (E : z = f_X11_lengthOf l0) : W p l e ({ frames := 1, cells := 0, slots := 0, locals := 22 } : Room) s m args below meth c s.heap [] 0 0 (MQ below (vp_Si (fun r => r = z)) args s 0 0 (fun _ => False)) (F0 m 0 ls []) := by
  obtain ⟨hx, hb, hr, hml, hown, hts, hlk, hA, hK, hF⟩ := id X
  refine lv_iload_n hx hb dX11_lengthOf_0 rfl (lv_at hl 0 rfl) ?_
  refine lv_iconst (v := (3 : Int32)) hx hb dX11_lengthOf_1 (by decide) ?_
  refine lv_ishr hx hb dX11_lengthOf_2 ?_
  refine lv_istore_n (lv' := [(1, .int (l0 >>> ((3 : Int32) &&& 31))), (0, .int l0)]) hx hb dX11_lengthOf_3 rfl hl (by decide) rfl (fun ls hl => ?_)
  refine lv_iload_n hx hb dX11_lengthOf_4 rfl (lv_at hl 1 rfl) ?_
  refine lv_bipush (v := (7 : Int32)) hx hb dX11_lengthOf_5 (by decide) ?_
  refine lv_iand hx hb dX11_lengthOf_7 ?_
  refine lv_istore_n (lv' := [(2, .int (l0 &&& (7 : Int32))), (1, .int (l0 >>> ((3 : Int32) &&& 31))), (0, .int l0)]) hx hb dX11_lengthOf_8 rfl hl (by decide) rfl (fun ls hl => ?_)
  refine lv_iload_n hx hb dX11_lengthOf_9 rfl (lv_at hl 1 rfl) ?_
  refine lv_iconst (v := (4 : Int32)) hx hb dX11_lengthOf_10 (by decide) ?_
  refine lv_icmp_ge (tgt := 16) hx hb dX11_lengthOf_11 (by decide) (fun c1 => ?_) (fun c1 => ?_)
  · have E2 := (E.trans (if_pos c1))
    refine lv_iload_n hx hb dX11_lengthOf_16 rfl (lv_at hl 2 rfl) ?_
    refine lv_sipush (v := (208 : Int32)) hx hb dX11_lengthOf_17 (by decide) ?_
    refine lv_icmp_lt (tgt := 36) hx hb dX11_lengthOf_20 (by decide) (fun c4 => ?_) (fun c4 => ?_)
    · have E5 := (E2.trans (if_pos c4))
      refine lv_iload_n hx hb dX11_lengthOf_36 rfl (lv_at hl 1 rfl) ?_
      refine lv_iload_n hx hb dX11_lengthOf_37 rfl (lv_at hl 0 rfl) ?_
      refine fb_roI X I (fb_runS (As := [.int (l0 >>> ((3 : Int32) &&& 31)), .int (l0 &&& (7 : Int32))]) (rest := []) X I hl (c_X11_hasMode l D cI cJ (l0 >>> ((3 : Int32) &&& 31)) (l0 &&& (7 : Int32)) _) (fb_goodS fw_1060 fw_1055 fw_191 fw_1056) rfl rfl (by decide +kernel : fb_hd yX11_hasMode 2) ⟨Nat.le_of_ble_eq_true rfl, Nat.le_of_ble_eq_true rfl⟩ [] (by decide) rfl rfl rfl (Nat.le_of_ble_eq_true rfl) ⟨Nat.zero_le _, Nat.zero_le _⟩ dX11_lengthOf_38) ?_
      refine lv_if_ne (tgt := 46) hx hb dX11_lengthOf_41 (by decide) (fun c7 => ?_) (fun c7 => ?_)
      · have E8 := (E5.trans (if_neg c7))
        refine lv_iload_n hx hb dX11_lengthOf_46 rfl (lv_at hl 0 rfl) ?_
        refine lv_iconst (v := (3 : Int32)) hx hb dX11_lengthOf_47 (by decide) ?_
        refine lv_icmp_eq (tgt := 56) hx hb dX11_lengthOf_48 (by decide) (fun c10 => ?_) (fun c10 => ?_)
        · have E11 := (E8.trans (if_pos c10))
          refine lv_iconst (v := (3 : Int32)) hx hb dX11_lengthOf_56 (by decide) ?_
          refine lv_goto (tgt := 61) hx hb dX11_lengthOf_57 (by decide) ?_
          exact fb_retRI X E11 rfl dX11_lengthOf_61
        · have E12 := (E8.trans (if_neg c10))
          refine lv_iload_n hx hb dX11_lengthOf_51 rfl (lv_at hl 0 rfl) ?_
          refine lv_iconst (v := (4 : Int32)) hx hb dX11_lengthOf_52 (by decide) ?_
          refine lv_icmp_ne (tgt := 60) hx hb dX11_lengthOf_53 (by decide) (fun c13 => ?_) (fun c13 => ?_)
          · have E14 := (E12.trans (if_neg c13))
            refine lv_iconst (v := (2 : Int32)) hx hb dX11_lengthOf_60 (by decide) ?_
            exact fb_retRI X E14 rfl dX11_lengthOf_61
          · have E15 := (E12.trans (if_pos c13))
            refine lv_iconst (v := (3 : Int32)) hx hb dX11_lengthOf_56 (by decide) ?_
            refine lv_goto (tgt := 61) hx hb dX11_lengthOf_57 (by decide) ?_
            exact fb_retRI X E15 rfl dX11_lengthOf_61
      · have E9 := (E5.trans (if_pos c7))
        refine lv_iconst (v := (0 : Int32)) hx hb dX11_lengthOf_44 (by decide) ?_
        exact fb_retRI X E9 rfl dX11_lengthOf_45
    · have E6 := (E2.trans (if_neg c4))
      refine lv_iload_n hx hb dX11_lengthOf_23 rfl (lv_at hl 2 rfl) ?_
      refine lv_sipush (v := (217 : Int32)) hx hb dX11_lengthOf_24 (by decide) ?_
      refine lv_icmp_gt (tgt := 34) hx hb dX11_lengthOf_27 (by decide) (fun c16 => ?_) (fun c16 => ?_)
      · have E17 := (E6.trans (if_pos c16))
        refine lv_iconst (v := (0 : Int32)) hx hb dX11_lengthOf_34 (by decide) ?_
        exact fb_retRI X E17 rfl dX11_lengthOf_35
      · have E18 := (E6.trans (if_neg c16))
        refine lv_iconst (v := (2 : Int32)) hx hb dX11_lengthOf_30 (by decide) ?_
        refine lv_goto (tgt := 35) hx hb dX11_lengthOf_31 (by decide) ?_
        exact fb_retRI X E18 rfl dX11_lengthOf_35
  · have E3 := (E.trans (if_neg c1))
    refine lv_iconst (v := (1 : Int32)) hx hb dX11_lengthOf_14 (by decide) ?_
    exact fb_retRI X E3 rfl dX11_lengthOf_15
set_option maxHeartbeats 4000000 in
set_option maxRecDepth 100000 in
theorem c_X11_lengthOf (l : Launch) (D : va_G) (cI cJ : ClassId)  (l0 : Int32) (sz : Nat)  : Met l yX11_lengthOf (Cond.code yX11_lengthOf cX11_lengthOf 3 (some .int) :: fb_all) ({ frames := 1, cells := 0, slots := 0, locals := 22 } : Room) (fb_PP D (fb_ty D cI cJ) [.int l0] (([] : va_W)) sz) (vp_Si (fun r => r = ((f_X11_lengthOf l0)))) 0 0 (fun _ => False) := by
  refine fb_entR (by decide +kernel) (Nat.le_of_ble_eq_true rfl) ?_
  intro p e s m args below meth c A ls X I hl hin
  exact b_X11_lengthOf_0 X  I hl rfl
/-! X5_clear -/
def f_X5_clear (zp : fb_PS) : fb_PS := (fb_pR (fb_pR (fb_pR (fb_pR (fb_pR (fb_pR (fb_pR (fb_pR (fb_pR (fb_pR (fb_pR (fb_pR zp 2 (0 : Int32)) 3 (0 : Int32)) 4 (0 : Int32)) 5 (0 : Int32)) 6 (0 : Int32)) 7 (0 : Int32)) 8 (0 : Int32)) 9 (0 : Int32)) 10 (1 : Int32)) 11 (0 : Int32)) 12 (0 : Int32)) 13 (0 : Int32))
set_option maxHeartbeats 4000000 in
set_option maxRecDepth 100000 in
theorem b_X5_clear_0 {p : Program} {l : Launch} {e : Env} {s : State} {m : MethodId} {args : Array Value} {below : List Frame} {meth : Method} {c : Code} {D : va_G} {cI cJ : ClassId} {A : Nat → Prop} {zq : Nat → Nat} {z : fb_PS} (X : fb_Bx p s m args meth c cX5_clear RX5 1 none D (fb_ty D cI cJ) A) {zp : fb_PS} {H : Heap} {locs : List Loc} {ls : Array Slot}  (I : fb_In D A s.heap ((fb_pw cI zq zp)) H locs) (hl : lv_has ls 1 [(0, .ref (zq 5))]) (E : z = f_X5_clear zp) : W p l e ({ frames := 0, cells := 0, slots := 0, locals := 0 } : Room) s m args below meth c H locs 0 0 (MQ below (fb_QV D A (fun (_ : Unit) => True) (fun (t : Unit) => (fb_pw cI zq (z)))) args s 0 0 A) (F0 m 0 ls []) := by
  obtain ⟨hx, hb, hr, hml, hown, hts, hlk, hA, hK, hF⟩ := id X
  refine lv_aload_n hx hb dX5_clear_0 rfl (lv_at hl 0 rfl) ?_
  refine lv_iconst (v := (0 : Int32)) hx hb dX5_clear_1 (by decide) ?_
  refine fb_put X I (k := 2) (wn := (fb_pw cI zq (fb_pR zp 2 (0 : Int32)))) fu_X5 tyX5 tyX5_ok nmX5 0 rfl rfl (Nat.le_of_ble_eq_true rfl) fw_462 rfl rfl rfl rfl rfl (Nat.le_of_ble_eq_true rfl) fb_ps2 dX5_clear_2 (fun H locs I => ?_)
  refine lv_aload_n hx hb dX5_clear_5 rfl (lv_at hl 0 rfl) ?_
  refine lv_iconst (v := (0 : Int32)) hx hb dX5_clear_6 (by decide) ?_
  refine fb_put X I (k := 3) (wn := (fb_pw cI zq (fb_pR (fb_pR zp 2 (0 : Int32)) 3 (0 : Int32)))) fu_X5 tyX5 tyX5_ok nmX5 0 rfl rfl (Nat.le_of_ble_eq_true rfl) fw_465 rfl rfl rfl rfl rfl (Nat.le_of_ble_eq_true rfl) fb_ps3 dX5_clear_7 (fun H locs I => ?_)
  refine lv_aload_n hx hb dX5_clear_10 rfl (lv_at hl 0 rfl) ?_
  refine lv_iconst (v := (0 : Int32)) hx hb dX5_clear_11 (by decide) ?_
  refine fb_put X I (k := 4) (wn := (fb_pw cI zq (fb_pR (fb_pR (fb_pR zp 2 (0 : Int32)) 3 (0 : Int32)) 4 (0 : Int32)))) fu_X5 tyX5 tyX5_ok nmX5 0 rfl rfl (Nat.le_of_ble_eq_true rfl) fw_467 rfl rfl rfl rfl rfl (Nat.le_of_ble_eq_true rfl) fb_ps4 dX5_clear_12 (fun H locs I => ?_)
  refine lv_aload_n hx hb dX5_clear_15 rfl (lv_at hl 0 rfl) ?_
  refine lv_iconst (v := (0 : Int32)) hx hb dX5_clear_16 (by decide) ?_
  refine fb_put X I (k := 5) (wn := (fb_pw cI zq (fb_pR (fb_pR (fb_pR (fb_pR zp 2 (0 : Int32)) 3 (0 : Int32)) 4 (0 : Int32)) 5 (0 : Int32)))) fu_X5 tyX5 tyX5_ok nmX5 0 rfl rfl (Nat.le_of_ble_eq_true rfl) fw_470 rfl rfl rfl rfl rfl (Nat.le_of_ble_eq_true rfl) fb_ps5 dX5_clear_17 (fun H locs I => ?_)
  refine lv_aload_n hx hb dX5_clear_20 rfl (lv_at hl 0 rfl) ?_
  refine lv_iconst (v := (0 : Int32)) hx hb dX5_clear_21 (by decide) ?_
  refine fb_put X I (k := 6) (wn := (fb_pw cI zq (fb_pR (fb_pR (fb_pR (fb_pR (fb_pR zp 2 (0 : Int32)) 3 (0 : Int32)) 4 (0 : Int32)) 5 (0 : Int32)) 6 (0 : Int32)))) fu_X5 tyX5 tyX5_ok nmX5 0 rfl rfl (Nat.le_of_ble_eq_true rfl) fw_472 rfl rfl rfl rfl rfl (Nat.le_of_ble_eq_true rfl) fb_ps6 dX5_clear_22 (fun H locs I => ?_)
  refine lv_aload_n hx hb dX5_clear_25 rfl (lv_at hl 0 rfl) ?_
  refine lv_iconst (v := (0 : Int32)) hx hb dX5_clear_26 (by decide) ?_
  refine fb_put X I (k := 7) (wn := (fb_pw cI zq (fb_pR (fb_pR (fb_pR (fb_pR (fb_pR (fb_pR zp 2 (0 : Int32)) 3 (0 : Int32)) 4 (0 : Int32)) 5 (0 : Int32)) 6 (0 : Int32)) 7 (0 : Int32)))) fu_X5 tyX5 tyX5_ok nmX5 0 rfl rfl (Nat.le_of_ble_eq_true rfl) fw_474 rfl rfl rfl rfl rfl (Nat.le_of_ble_eq_true rfl) fb_ps7 dX5_clear_27 (fun H locs I => ?_)
  refine lv_aload_n hx hb dX5_clear_30 rfl (lv_at hl 0 rfl) ?_
  refine lv_iconst (v := (0 : Int32)) hx hb dX5_clear_31 (by decide) ?_
  refine fb_put X I (k := 8) (wn := (fb_pw cI zq (fb_pR (fb_pR (fb_pR (fb_pR (fb_pR (fb_pR (fb_pR zp 2 (0 : Int32)) 3 (0 : Int32)) 4 (0 : Int32)) 5 (0 : Int32)) 6 (0 : Int32)) 7 (0 : Int32)) 8 (0 : Int32)))) fu_X5 tyX5 tyX5_ok nmX5 0 rfl rfl (Nat.le_of_ble_eq_true rfl) fw_475 rfl rfl rfl rfl rfl (Nat.le_of_ble_eq_true rfl) fb_ps8 dX5_clear_32 (fun H locs I => ?_)
  refine lv_aload_n hx hb dX5_clear_35 rfl (lv_at hl 0 rfl) ?_
  refine lv_iconst (v := (0 : Int32)) hx hb dX5_clear_36 (by decide) ?_
  refine fb_put X I (k := 9) (wn := (fb_pw cI zq (fb_pR (fb_pR (fb_pR (fb_pR (fb_pR (fb_pR (fb_pR (fb_pR zp 2 (0 : Int32)) 3 (0 : Int32)) 4 (0 : Int32)) 5 (0 : Int32)) 6 (0 : Int32)) 7 (0 : Int32)) 8 (0 : Int32)) 9 (0 : Int32)))) fu_X5 tyX5 tyX5_ok nmX5 0 rfl rfl (Nat.le_of_ble_eq_true rfl) fw_477 rfl rfl rfl rfl rfl (Nat.le_of_ble_eq_true rfl) fb_ps9 dX5_clear_37 (fun H locs I => ?_)
  refine lv_aload_n hx hb dX5_clear_40 rfl (lv_at hl 0 rfl) ?_
  refine lv_iconst (v := (1 : Int32)) hx hb dX5_clear_41 (by decide) ?_
  refine fb_put X I (k := 10) (wn := (fb_pw cI zq (fb_pR (fb_pR (fb_pR (fb_pR (fb_pR (fb_pR (fb_pR (fb_pR (fb_pR zp 2 (0 : Int32)) 3 (0 : Int32)) 4 (0 : Int32)) 5 (0 : Int32)) 6 (0 : Int32)) 7 (0 : Int32)) 8 (0 : Int32)) 9 (0 : Int32)) 10 (1 : Int32)))) fu_X5 tyX5 tyX5_ok nmX5 0 rfl rfl (Nat.le_of_ble_eq_true rfl) fw_478 rfl rfl rfl rfl rfl (Nat.le_of_ble_eq_true rfl) fb_ps10 dX5_clear_42 (fun H locs I => ?_)
  refine lv_aload_n hx hb dX5_clear_45 rfl (lv_at hl 0 rfl) ?_
  refine lv_iconst (v := (0 : Int32)) hx hb dX5_clear_46 (by decide) ?_
  refine fb_put X I (k := 11) (wn := (fb_pw cI zq (fb_pR (fb_pR (fb_pR (fb_pR (fb_pR (fb_pR (fb_pR (fb_pR (fb_pR (fb_pR zp 2 (0 : Int32)) 3 (0 : Int32)) 4 (0 : Int32)) 5 (0 : Int32)) 6 (0 : Int32)) 7 (0 : Int32)) 8 (0 : Int32)) 9 (0 : Int32)) 10 (1 : Int32)) 11 (0 : Int32)))) fu_X5 tyX5 tyX5_ok nmX5 0 rfl rfl (Nat.le_of_ble_eq_true rfl) fw_479 rfl rfl rfl rfl rfl (Nat.le_of_ble_eq_true rfl) fb_ps11 dX5_clear_47 (fun H locs I => ?_)
  refine lv_aload_n hx hb dX5_clear_50 rfl (lv_at hl 0 rfl) ?_
  refine lv_iconst (v := (0 : Int32)) hx hb dX5_clear_51 (by decide) ?_
  refine fb_put X I (k := 12) (wn := (fb_pw cI zq (fb_pR (fb_pR (fb_pR (fb_pR (fb_pR (fb_pR (fb_pR (fb_pR (fb_pR (fb_pR (fb_pR zp 2 (0 : Int32)) 3 (0 : Int32)) 4 (0 : Int32)) 5 (0 : Int32)) 6 (0 : Int32)) 7 (0 : Int32)) 8 (0 : Int32)) 9 (0 : Int32)) 10 (1 : Int32)) 11 (0 : Int32)) 12 (0 : Int32)))) fu_X5 tyX5 tyX5_ok nmX5 0 rfl rfl (Nat.le_of_ble_eq_true rfl) fw_481 rfl rfl rfl rfl rfl (Nat.le_of_ble_eq_true rfl) fb_ps12 dX5_clear_52 (fun H locs I => ?_)
  refine lv_aload_n hx hb dX5_clear_55 rfl (lv_at hl 0 rfl) ?_
  refine lv_iconst (v := (0 : Int32)) hx hb dX5_clear_56 (by decide) ?_
  refine fb_put X I (k := 13) (wn := (fb_pw cI zq (fb_pR (fb_pR (fb_pR (fb_pR (fb_pR (fb_pR (fb_pR (fb_pR (fb_pR (fb_pR (fb_pR (fb_pR zp 2 (0 : Int32)) 3 (0 : Int32)) 4 (0 : Int32)) 5 (0 : Int32)) 6 (0 : Int32)) 7 (0 : Int32)) 8 (0 : Int32)) 9 (0 : Int32)) 10 (1 : Int32)) 11 (0 : Int32)) 12 (0 : Int32)) 13 (0 : Int32)))) fu_X5 tyX5 tyX5_ok nmX5 0 rfl rfl (Nat.le_of_ble_eq_true rfl) fw_483 rfl rfl rfl rfl rfl (Nat.le_of_ble_eq_true rfl) fb_ps13 dX5_clear_57 (fun H locs I => ?_)
  subst E
  exact fb_retV (u := ()) X I trivial dX5_clear_60
set_option maxHeartbeats 4000000 in
set_option maxRecDepth 100000 in
theorem c_X5_clear (l : Launch) (D : va_G) (cI cJ : ClassId) (zq : Nat → Nat) (zp : fb_PS)  (sz : Nat)  : Met l yX5_clear (Cond.code yX5_clear cX5_clear 1 none :: fb_all) ({ frames := 0, cells := 0, slots := 0, locals := 0 } : Room) (fb_PP D (fb_ty D cI cJ) [.ref (zq 5)] ((fb_pw cI zq zp)) sz) (fb_QV D (va_A ((fb_pw cI zq zp)) sz) (fun (_ : Unit) => True) (fun (t : Unit) => (fb_pw cI zq (((f_X5_clear zp)))))) 0 0 (va_A ((fb_pw cI zq zp)) sz) := by
  refine fb_ent (Qf := fun A => (fb_QV D A (fun (_ : Unit) => True) (fun (t : Unit) => (fb_pw cI zq (((f_X5_clear zp))))))) (by decide +kernel) (Nat.le_of_ble_eq_true rfl) ?_
  intro p e s m args below meth c A ls X I hl hin
  exact b_X5_clear_0 X  I hl rfl
/-! J7_fill_53178 -/
def f_J7_fill_53178 (_ : Nat) (_ : fb_AR) (l1 : Int32) : fb_AR := fun _ => l1
set_option maxHeartbeats 4000000 in
set_option maxRecDepth 100000 in
theorem b_J7_fill_53178_5 {p : Program} {l : Launch} {e : Env} {s : State} {m : MethodId} {args : Array Value} {below : List Frame} {meth : Method} {c : Code} {D : va_G} {cI cJ : ClassId} {A : Nat → Prop} {za zN : Nat} {l1 : Int32} (X : fb_Bx p s m args meth c cJ7_fill_53178 RJ7 4 none D (fb_ty D cI cJ) A) (hN : zN < 2 ^ 31) : ∀ (n : Nat) {zf : fb_AR} {j : Nat} {l2 : Int32} {H : Heap} {locs : List Loc} {ls : Array Slot} (hm : zN - j < n) (hj : j ≤ zN) (e2 : l2 = nI j) (hv : ∀ i, i < j → zf i = l1) (I : fb_In D A s.heap (fb_aw cI za zN zf) H locs) (hl : lv_has ls 4 [(0, .ref za), (1, .int l1), (2, .int l2), (3, .int (nI zN))]), W p l e ({ frames := 0, cells := 0, slots := 0, locals := 0 } : Room) s m args below meth c H locs 0 0 (MQ below (fb_QV D A (fun (_ : Unit) => True) (fun (_ : Unit) => (fb_aw cI za zN (fun _ => l1)))) args s 0 0 A) (F0 m 5 ls []) := by
  intro n
  obtain ⟨hx, hb, hr, hml, hown, hts, hlk, hA, hK, hF⟩ := id X
  induction n with
  | zero =>
    intro zf j l2 H locs ls hm
    exact absurd hm (Nat.not_lt_zero _)
  | succ n ih =>
    intro zf j l2 H locs ls hm hj e2 hv I hl
    refine lv_iload_n hx hb dJ7_fill_53178_5 rfl (lv_at hl 2 rfl) ?_
    refine lv_iload_n hx hb dJ7_fill_53178_6 rfl (lv_at hl 3 rfl) ?_
    refine lv_icmp_ge (tgt := 20) hx hb dJ7_fill_53178_7 (by decide) (fun c1 => ?_) (fun c1 => ?_)
    · have h9 : zN ≤ j := Nat.le_of_not_lt fun q => by rw [e2] at c1; exact nI_ge q hN c1
      have I := I.row 0 (f := zf) (g := fun _ => l1) (wn := fb_aw cI za zN (fun _ => l1)) rfl (fun i hi => hv i (by omega)) rfl
      exact fb_retV (u := ()) X I trivial dJ7_fill_53178_20
    · have h9 : j < zN := Nat.lt_of_not_le fun q => c1 (by rw [e2]; exact nI_le q (by omega))
      refine lv_aload_n hx hb dJ7_fill_53178_10 rfl (lv_at hl 0 rfl) ?_
      refine lv_iload_n hx hb dJ7_fill_53178_11 rfl (lv_at hl 2 rfl) ?_
      refine lv_iload_n hx hb dJ7_fill_53178_12 rfl (lv_at hl 1 rfl) ?_
      refine fb_iast (wn := (fb_aw cI za zN (upd zf (l2).toNatClampNeg l1))) X I (i := l2) 0 0 rfl rfl (by rw [e2]; exact vp_in_nI h9 hN) rfl dJ7_fill_53178_13 (fun H locs I => ?_)
      refine lv_iinc (v := (l2 + (1 : Int32))) (lv' := [(2, .int (l2 + (1 : Int32))), (0, .ref za), (1, .int l1), (3, .int (nI zN))]) hx hb dJ7_fill_53178_14 hl (k := 2) rfl rfl (by decide) rfl (fun ls hl => ?_)
      refine lv_goto (tgt := 5) hx hb dJ7_fill_53178_17 (by decide) ?_
      refine ih (j := j + 1) (l2 := (l2 + (1 : Int32))) (by omega) h9 (by rw [e2]; exact nI_1 j) (fun i hi => ?_) I (lv_sub hl [1, 2, 0, 3] rfl)
      have e3 : l2.toNatClampNeg = j := by rw [e2]; exact nI_clamp (by omega)
      rw [e3]
      by_cases h8 : i = j
      · rw [h8]; exact pk_us
      · rw [pk_un h8]; exact hv i (by omega)
set_option maxHeartbeats 4000000 in
set_option maxRecDepth 100000 in
theorem c_J7_fill_53178 (l : Launch) (D : va_G) (cI cJ : ClassId) (za : Nat) (zN : Nat) (zf : fb_AR) (l1 : Int32) (sz : Nat) (hN : zN < 2 ^ 31) : Met l yJ7_fill_53178 (Cond.code yJ7_fill_53178 cJ7_fill_53178 4 none :: fb_all) ({ frames := 0, cells := 0, slots := 0, locals := 0 } : Room) (fb_PP D (fb_ty D cI cJ) [.ref za, .int l1] (fb_aw cI za zN zf) sz) (fb_QV D (va_A (fb_aw cI za zN zf) sz) (fun (_ : Unit) => True) (fun (_ : Unit) => (fb_aw cI za zN (f_J7_fill_53178 zN zf l1)))) 0 0 (va_A (fb_aw cI za zN zf) sz) := by
  refine fb_ent (Qf := fun A => (fb_QV D A (fun (_ : Unit) => True) (fun (_ : Unit) => (fb_aw cI za zN (f_J7_fill_53178 zN zf l1))))) (by decide +kernel) (Nat.le_of_ble_eq_true rfl) ?_
  intro p e s m args below meth c A ls X I hl hin
  obtain ⟨hx, hb, hr, hml, hown, hts, hlk, hA, hK, hF⟩ := id X
  have hl : lv_has ls 4 [(0, .ref za), (1, .int l1)] := hl
  refine lv_iconst (v := (0 : Int32)) hx hb dJ7_fill_53178_0 (by decide) ?_
  refine lv_istore_n (lv' := [(2, .int (0 : Int32)), (0, .ref za), (1, .int l1)]) hx hb dJ7_fill_53178_1 rfl hl (by decide) rfl (fun ls hl => ?_)
  refine lv_aload_n hx hb dJ7_fill_53178_2 rfl (lv_at hl 1 rfl) ?_
  refine fb_alen (v := nI zN) X I 0 0 rfl rfl rfl dJ7_fill_53178_3 ?_
  refine lv_istore_n (lv' := [(3, .int (nI zN)), (2, .int (0 : Int32)), (0, .ref za), (1, .int l1)]) hx hb dJ7_fill_53178_4 rfl hl (by decide) rfl (fun ls hl => ?_)
  exact b_J7_fill_53178_5 X hN (zN - 0 + 1) (zf := zf) (j := 0) (by omega) (Nat.zero_le _) nI_0.symm (fun i hi => absurd hi (Nat.not_lt_zero i)) I (lv_sub hl [2, 3, 1, 0] rfl)
end
section
/-! X2_shown -/
def f_X2_shown (zs : fb_MS) (l1 : Int32) : Int32 := (f_X11_at 11008 ((zs).2.1) (f_X11_placeOf (l1 &&& (4095 : Int32)) (((zs).2.2.2.2.2).1 2)))
set_option maxHeartbeats 4000000 in
set_option maxRecDepth 100000 in
theorem b_X2_shown_0 {p : Program} {l : Launch} {e : Env} {s : State} {m : MethodId} {args : Array Value} {below : List Frame} {meth : Method} {c : Code} {D : va_G} {cI cJ : ClassId} {A : Nat → Prop} {zq : Nat → Nat} {z : Int32} (X : fb_Bx p s m args meth c cX2_shown RX2 2 (some .int) D (fb_ty D cI cJ) A) {zs : fb_MS} {zw : fb_AR} {l1 : Int32} {ls : Array Slot}  (I : fb_In D A s.heap ((fb_mw cI zq zs zw)) s.heap []) (hl : lv_has ls 2 [(0, .ref (zq 0)), (1, .int l1)]) (E : z = f_X2_shown zs l1) : W p l e ({ frames := 1, cells := 0, slots := 0, locals := 21 } : Room) s m args below meth c s.heap [] 0 0 (MQ below (vp_Si (fun r => r = z)) args s 0 0 (fun _ => False)) (F0 m 0 ls []) := by
  obtain ⟨hx, hb, hr, hml, hown, hts, hlk, hA, hK, hF⟩ := id X
  refine lv_aload_n hx hb dX2_shown_0 rfl (lv_at hl 0 rfl) ?_
  refine fb_get X I (k := 0) fu_X2 0 rfl rfl (Nat.le_of_ble_eq_true rfl) fw_514 rfl rfl dX2_shown_1 ?_
  refine lv_iload_n hx hb dX2_shown_4 rfl (lv_at hl 1 rfl) ?_
  refine lv_sipush (v := (4095 : Int32)) hx hb dX2_shown_5 (by decide) ?_
  refine lv_iand hx hb dX2_shown_8 ?_
  refine lv_aload_n hx hb dX2_shown_9 rfl (lv_at hl 0 rfl) ?_
  refine fb_get X I (k := 4) fu_X2 0 rfl rfl (Nat.le_of_ble_eq_true rfl) fw_522 rfl rfl dX2_shown_10 ?_
  refine fb_get X I (k := 2) fu_X5 5 rfl rfl (Nat.le_of_ble_eq_true rfl) fw_463 rfl rfl dX2_shown_13 ?_
  refine fb_roI X I (fb_runSN (As := [.int (l1 &&& (4095 : Int32)), .int (((zs).2.2.2.2.2).1 2)]) (rest := [.ref (zq 1)]) X I hl (c_X11_placeOf l D cI cJ (l1 &&& (4095 : Int32)) (((zs).2.2.2.2.2).1 2) _) fw_1116 rfl rfl (List.mem_of_getElem? (i := 28) rfl) fw_191 fw_1115 (by decide +kernel : fb_hd yX11_placeOf 2) ⟨Nat.le_of_ble_eq_true rfl, Nat.le_of_ble_eq_true rfl⟩ [] (by decide) rfl rfl rfl (Nat.le_of_ble_eq_true rfl) ⟨Nat.zero_le _, Nat.zero_le _⟩ dX2_shown_16) ?_
  refine fb_roI X I (fb_runSN (As := [.ref (zq 1), .int (f_X11_placeOf (l1 &&& (4095 : Int32)) (((zs).2.2.2.2.2).1 2))]) (rest := []) X I hl (c_X11_at l D cI cJ (zq 1) 11008 ((zs).2.1) (f_X11_placeOf (l1 &&& (4095 : Int32)) (((zs).2.2.2.2.2).1 2)) _ (by decide)) fw_686 rfl rfl (List.mem_of_getElem? (i := 9) rfl) fw_191 fw_685 (by decide +kernel : fb_hd yX11_at 2) ⟨Nat.le_of_ble_eq_true rfl, Nat.le_of_ble_eq_true rfl⟩ [1] (by decide) rfl rfl rfl (Nat.le_of_ble_eq_true rfl) ⟨Nat.zero_le _, Nat.zero_le _⟩ dX2_shown_19) ?_
  exact fb_retRI X E rfl dX2_shown_22
set_option maxHeartbeats 4000000 in
set_option maxRecDepth 100000 in
theorem c_X2_shown (l : Launch) (D : va_G) (cI cJ : ClassId) (zq : Nat → Nat) (zs : fb_MS) (zw : fb_AR) (l1 : Int32) (sz : Nat)  : Met l yX2_shown (Cond.code yX2_shown cX2_shown 2 (some .int) :: fb_all) ({ frames := 1, cells := 0, slots := 0, locals := 21 } : Room) (fb_PP D (fb_ty D cI cJ) [.ref (zq 0), .int l1] ((fb_mw cI zq zs zw)) sz) (vp_Si (fun r => r = ((f_X2_shown zs l1)))) 0 0 (fun _ => False) := by
  refine fb_entR (by decide +kernel) (Nat.le_of_ble_eq_true rfl) ?_
  intro p e s m args below meth c A ls X I hl hin
  exact b_X2_shown_0 X  I hl rfl
/-! X2_wordAt -/
def f_X2_wordAt (zs : fb_MS) (l1 : Int32) : Int32 := ((f_X2_shown zs l1) + ((256 : Int32) * (f_X2_shown zs (l1 + (1 : Int32)))))
set_option maxHeartbeats 4000000 in
set_option maxRecDepth 100000 in
theorem b_X2_wordAt_0 {p : Program} {l : Launch} {e : Env} {s : State} {m : MethodId} {args : Array Value} {below : List Frame} {meth : Method} {c : Code} {D : va_G} {cI cJ : ClassId} {A : Nat → Prop} {zq : Nat → Nat} {z : Int32} (X : fb_Bx p s m args meth c cX2_wordAt RX2 2 (some .int) D (fb_ty D cI cJ) A) {zs : fb_MS} {zw : fb_AR} {l1 : Int32} {ls : Array Slot}  (I : fb_In D A s.heap ((fb_mw cI zq zs zw)) s.heap []) (hl : lv_has ls 2 [(0, .ref (zq 0)), (1, .int l1)]) (E : z = f_X2_wordAt zs l1) : W p l e ({ frames := 2, cells := 0, slots := 0, locals := 42 } : Room) s m args below meth c s.heap [] 0 0 (MQ below (vp_Si (fun r => r = z)) args s 0 0 (fun _ => False)) (F0 m 0 ls []) := by
  obtain ⟨hx, hb, hr, hml, hown, hts, hlk, hA, hK, hF⟩ := id X
  refine lv_aload_n hx hb dX2_wordAt_0 rfl (lv_at hl 0 rfl) ?_
  refine lv_iload_n hx hb dX2_wordAt_1 rfl (lv_at hl 1 rfl) ?_
  refine fb_roI X I (fb_runV (As := [.int l1]) (rest := []) (q0 := 0) X I hl (c_X2_shown l D cI cJ zq zs zw l1 _) (fb_goodV fw_1224 fw_1225 fw_1226 fw_198 fw_1227) rfl rfl rfl (by decide +kernel : fb_hd yX2_shown 1) ⟨Nat.le_of_ble_eq_true rfl, Nat.le_of_ble_eq_true rfl⟩ [0, 1, 2, 3, 4, 5, 6, 7] (by decide) rfl rfl rfl rfl rfl rfl (Nat.le_of_ble_eq_true rfl) ⟨Nat.zero_le _, Nat.zero_le _⟩ dX2_wordAt_2) ?_
  refine lv_sipush (v := (256 : Int32)) hx hb dX2_wordAt_5 (by decide) ?_
  refine lv_aload_n hx hb dX2_wordAt_8 rfl (lv_at hl 0 rfl) ?_
  refine lv_iload_n hx hb dX2_wordAt_9 rfl (lv_at hl 1 rfl) ?_
  refine lv_iconst (v := (1 : Int32)) hx hb dX2_wordAt_10 (by decide) ?_
  refine lv_iadd hx hb dX2_wordAt_11 ?_
  refine fb_roI X I (fb_runV (As := [.int (l1 + (1 : Int32))]) (rest := [.int (256 : Int32), .int (f_X2_shown zs l1)]) (q0 := 0) X I hl (c_X2_shown l D cI cJ zq zs zw (l1 + (1 : Int32)) _) (fb_goodV fw_1224 fw_1225 fw_1226 fw_198 fw_1227) rfl rfl rfl (by decide +kernel : fb_hd yX2_shown 1) ⟨Nat.le_of_ble_eq_true rfl, Nat.le_of_ble_eq_true rfl⟩ [0, 1, 2, 3, 4, 5, 6, 7] (by decide) rfl rfl rfl rfl rfl rfl (Nat.le_of_ble_eq_true rfl) ⟨Nat.zero_le _, Nat.zero_le _⟩ dX2_wordAt_12) ?_
  refine lv_imul hx hb dX2_wordAt_15 ?_
  refine lv_iadd hx hb dX2_wordAt_16 ?_
  exact fb_retRI X E rfl dX2_wordAt_17
set_option maxHeartbeats 4000000 in
set_option maxRecDepth 100000 in
theorem c_X2_wordAt (l : Launch) (D : va_G) (cI cJ : ClassId) (zq : Nat → Nat) (zs : fb_MS) (zw : fb_AR) (l1 : Int32) (sz : Nat)  : Met l yX2_wordAt (Cond.code yX2_wordAt cX2_wordAt 2 (some .int) :: fb_all) ({ frames := 2, cells := 0, slots := 0, locals := 42 } : Room) (fb_PP D (fb_ty D cI cJ) [.ref (zq 0), .int l1] ((fb_mw cI zq zs zw)) sz) (vp_Si (fun r => r = ((f_X2_wordAt zs l1)))) 0 0 (fun _ => False) := by
  refine fb_entR (by decide +kernel) (Nat.le_of_ble_eq_true rfl) ?_
  intro p e s m args below meth c A ls X I hl hin
  exact b_X2_wordAt_0 X  I hl rfl
/-! X2_vector -/
def f_X2_vector (zs : fb_MS) (l1 : Int32) : Int32 := (((f_X11_at 11008 ((zs).2.1) ((10992 : Int32) + ((2 : Int32) * l1))) + ((256 : Int32) * (f_X11_at 11008 ((zs).2.1) (((10992 : Int32) + ((2 : Int32) * l1)) + (1 : Int32))))) &&& (4095 : Int32))
set_option maxHeartbeats 4000000 in
set_option maxRecDepth 100000 in
theorem b_X2_vector_0 {p : Program} {l : Launch} {e : Env} {s : State} {m : MethodId} {args : Array Value} {below : List Frame} {meth : Method} {c : Code} {D : va_G} {cI cJ : ClassId} {A : Nat → Prop} {zq : Nat → Nat} {z : Int32} (X : fb_Bx p s m args meth c cX2_vector RX2 3 (some .int) D (fb_ty D cI cJ) A) {zs : fb_MS} {zw : fb_AR} {l1 : Int32} {ls : Array Slot}  (I : fb_In D A s.heap ((fb_mw cI zq zs zw)) s.heap []) (hl : lv_has ls 3 [(0, .ref (zq 0)), (1, .int l1)]) (E : z = f_X2_vector zs l1) : W p l e ({ frames := 1, cells := 0, slots := 0, locals := 21 } : Room) s m args below meth c s.heap [] 0 0 (MQ below (vp_Si (fun r => r = z)) args s 0 0 (fun _ => False)) (F0 m 0 ls []) := by
  obtain ⟨hx, hb, hr, hml, hown, hts, hlk, hA, hK, hF⟩ := id X
  refine lv_sipush (v := (10992 : Int32)) hx hb dX2_vector_0 (by decide) ?_
  refine lv_iconst (v := (2 : Int32)) hx hb dX2_vector_3 (by decide) ?_
  refine lv_iload_n hx hb dX2_vector_4 rfl (lv_at hl 1 rfl) ?_
  refine lv_imul hx hb dX2_vector_5 ?_
  refine lv_iadd hx hb dX2_vector_6 ?_
  refine lv_istore_n (lv' := [(2, .int ((10992 : Int32) + ((2 : Int32) * l1))), (0, .ref (zq 0)), (1, .int l1)]) hx hb dX2_vector_7 rfl hl (by decide) rfl (fun ls hl => ?_)
  refine lv_aload_n hx hb dX2_vector_8 rfl (lv_at hl 1 rfl) ?_
  refine fb_get X I (k := 0) fu_X2 0 rfl rfl (Nat.le_of_ble_eq_true rfl) fw_514 rfl rfl dX2_vector_9 ?_
  refine lv_iload_n hx hb dX2_vector_12 rfl (lv_at hl 0 rfl) ?_
  refine fb_roI X I (fb_runSN (As := [.ref (zq 1), .int ((10992 : Int32) + ((2 : Int32) * l1))]) (rest := []) X I hl (c_X11_at l D cI cJ (zq 1) 11008 ((zs).2.1) ((10992 : Int32) + ((2 : Int32) * l1)) _ (by decide)) fw_686 rfl rfl (List.mem_of_getElem? (i := 9) rfl) fw_191 fw_685 (by decide +kernel : fb_hd yX11_at 2) ⟨Nat.le_of_ble_eq_true rfl, Nat.le_of_ble_eq_true rfl⟩ [1] (by decide) rfl rfl rfl (Nat.le_of_ble_eq_true rfl) ⟨Nat.zero_le _, Nat.zero_le _⟩ dX2_vector_13) ?_
  refine lv_sipush (v := (256 : Int32)) hx hb dX2_vector_16 (by decide) ?_
  refine lv_aload_n hx hb dX2_vector_19 rfl (lv_at hl 1 rfl) ?_
  refine fb_get X I (k := 0) fu_X2 0 rfl rfl (Nat.le_of_ble_eq_true rfl) fw_514 rfl rfl dX2_vector_20 ?_
  refine lv_iload_n hx hb dX2_vector_23 rfl (lv_at hl 0 rfl) ?_
  refine lv_iconst (v := (1 : Int32)) hx hb dX2_vector_24 (by decide) ?_
  refine lv_iadd hx hb dX2_vector_25 ?_
  refine fb_roI X I (fb_runSN (As := [.ref (zq 1), .int (((10992 : Int32) + ((2 : Int32) * l1)) + (1 : Int32))]) (rest := [.int (256 : Int32), .int (f_X11_at 11008 ((zs).2.1) ((10992 : Int32) + ((2 : Int32) * l1)))]) X I hl (c_X11_at l D cI cJ (zq 1) 11008 ((zs).2.1) (((10992 : Int32) + ((2 : Int32) * l1)) + (1 : Int32)) _ (by decide)) fw_686 rfl rfl (List.mem_of_getElem? (i := 9) rfl) fw_191 fw_685 (by decide +kernel : fb_hd yX11_at 2) ⟨Nat.le_of_ble_eq_true rfl, Nat.le_of_ble_eq_true rfl⟩ [1] (by decide) rfl rfl rfl (Nat.le_of_ble_eq_true rfl) ⟨Nat.zero_le _, Nat.zero_le _⟩ dX2_vector_26) ?_
  refine lv_imul hx hb dX2_vector_29 ?_
  refine lv_iadd hx hb dX2_vector_30 ?_
  refine lv_sipush (v := (4095 : Int32)) hx hb dX2_vector_31 (by decide) ?_
  refine lv_iand hx hb dX2_vector_34 ?_
  exact fb_retRI X E rfl dX2_vector_35
set_option maxHeartbeats 4000000 in
set_option maxRecDepth 100000 in
theorem c_X2_vector (l : Launch) (D : va_G) (cI cJ : ClassId) (zq : Nat → Nat) (zs : fb_MS) (zw : fb_AR) (l1 : Int32) (sz : Nat)  : Met l yX2_vector (Cond.code yX2_vector cX2_vector 3 (some .int) :: fb_all) ({ frames := 1, cells := 0, slots := 0, locals := 21 } : Room) (fb_PP D (fb_ty D cI cJ) [.ref (zq 0), .int l1] ((fb_mw cI zq zs zw)) sz) (vp_Si (fun r => r = ((f_X2_vector zs l1)))) 0 0 (fun _ => False) := by
  refine fb_entR (by decide +kernel) (Nat.le_of_ble_eq_true rfl) ?_
  intro p e s m args below meth c A ls X I hl hin
  exact b_X2_vector_0 X  I hl rfl
/-! X2_operand -/
def f_X2_operand (zs : fb_MS) (l1 : Int32) : Int32 := (if (2 : Int32) ≤ (f_X11_lengthOf (f_X2_shown zs l1)) then (if (f_X2_shown zs l1) < (208 : Int32) then (if (f_X11_lengthOf (f_X2_shown zs l1)) = (2 : Int32) then (f_X2_shown zs (l1 + (1 : Int32))) else (f_X2_wordAt zs (l1 + (1 : Int32)))) else (((l1 + (2 : Int32)) + (f_X11_signed (f_X2_shown zs (l1 + (1 : Int32))))) &&& (4095 : Int32))) else (-1 : Int32))
set_option maxHeartbeats 4000000 in
set_option maxRecDepth 100000 in
theorem b_X2_operand_0 {p : Program} {l : Launch} {e : Env} {s : State} {m : MethodId} {args : Array Value} {below : List Frame} {meth : Method} {c : Code} {D : va_G} {cI cJ : ClassId} {A : Nat → Prop} {zq : Nat → Nat} {z : Int32} (X : fb_Bx p s m args meth c cX2_operand RX2 4 (some .int) D (fb_ty D cI cJ) A) {zs : fb_MS} {zw : fb_AR} {l1 : Int32} {ls : Array Slot}  (I : fb_In D A s.heap ((fb_mw cI zq zs zw)) s.heap []) (hl : lv_has ls 4 [(0, .ref (zq 0)), (1, .int l1)]) (E : z = f_X2_operand zs l1) : W p l e ({ frames := 3, cells := 0, slots := 0, locals := 63 } : Room) s m args below meth c s.heap [] 0 0 (MQ below (vp_Si (fun r => r = z)) args s 0 0 (fun _ => False)) (F0 m 0 ls []) := by
  obtain ⟨hx, hb, hr, hml, hown, hts, hlk, hA, hK, hF⟩ := id X
  refine lv_aload_n hx hb dX2_operand_0 rfl (lv_at hl 0 rfl) ?_
  refine lv_iload_n hx hb dX2_operand_1 rfl (lv_at hl 1 rfl) ?_
  refine fb_roI X I (fb_runV (As := [.int l1]) (rest := []) (q0 := 0) X I hl (c_X2_shown l D cI cJ zq zs zw l1 _) (fb_goodV fw_1224 fw_1225 fw_1226 fw_198 fw_1227) rfl rfl rfl (by decide +kernel : fb_hd yX2_shown 1) ⟨Nat.le_of_ble_eq_true rfl, Nat.le_of_ble_eq_true rfl⟩ [0, 1, 2, 3, 4, 5, 6, 7] (by decide) rfl rfl rfl rfl rfl rfl (Nat.le_of_ble_eq_true rfl) ⟨Nat.zero_le _, Nat.zero_le _⟩ dX2_operand_2) ?_
  refine lv_istore_n (lv' := [(2, .int (f_X2_shown zs l1)), (0, .ref (zq 0)), (1, .int l1)]) hx hb dX2_operand_5 rfl hl (by decide) rfl (fun ls hl => ?_)
  refine lv_iload_n hx hb dX2_operand_6 rfl (lv_at hl 0 rfl) ?_
  refine fb_roI X I (fb_runSN (As := [.int (f_X2_shown zs l1)]) (rest := []) X I hl (c_X11_lengthOf l D cI cJ (f_X2_shown zs l1) _) fw_1059 rfl rfl (List.mem_of_getElem? (i := 29) rfl) fw_191 fw_1058 (by decide +kernel : fb_hd yX11_lengthOf 1) ⟨Nat.le_of_ble_eq_true rfl, Nat.le_of_ble_eq_true rfl⟩ [] (by decide) rfl rfl rfl (Nat.le_of_ble_eq_true rfl) ⟨Nat.zero_le _, Nat.zero_le _⟩ dX2_operand_7) ?_
  refine lv_istore_n (lv' := [(3, .int (f_X11_lengthOf (f_X2_shown zs l1))), (2, .int (f_X2_shown zs l1)), (0, .ref (zq 0)), (1, .int l1)]) hx hb dX2_operand_10 rfl hl (by decide) rfl (fun ls hl => ?_)
  refine lv_iload_n hx hb dX2_operand_11 rfl (lv_at hl 0 rfl) ?_
  refine lv_iconst (v := (2 : Int32)) hx hb dX2_operand_12 (by decide) ?_
  refine lv_icmp_ge (tgt := 18) hx hb dX2_operand_13 (by decide) (fun c1 => ?_) (fun c1 => ?_)
  · have E2 := (E.trans (if_pos c1))
    refine lv_iload_n hx hb dX2_operand_18 rfl (lv_at hl 1 rfl) ?_
    refine lv_sipush (v := (208 : Int32)) hx hb dX2_operand_19 (by decide) ?_
    refine lv_icmp_lt (tgt := 44) hx hb dX2_operand_22 (by decide) (fun c4 => ?_) (fun c4 => ?_)
    · have E5 := (E2.trans (if_pos c4))
      refine lv_iload_n hx hb dX2_operand_44 rfl (lv_at hl 0 rfl) ?_
      refine lv_iconst (v := (2 : Int32)) hx hb dX2_operand_45 (by decide) ?_
      refine lv_icmp_ne (tgt := 59) hx hb dX2_operand_46 (by decide) (fun c7 => ?_) (fun c7 => ?_)
      · have E8 := (E5.trans (if_neg c7))
        refine lv_aload_n hx hb dX2_operand_59 rfl (lv_at hl 2 rfl) ?_
        refine lv_iload_n hx hb dX2_operand_60 rfl (lv_at hl 3 rfl) ?_
        refine lv_iconst (v := (1 : Int32)) hx hb dX2_operand_61 (by decide) ?_
        refine lv_iadd hx hb dX2_operand_62 ?_
        refine fb_roI X I (fb_runV (As := [.int (l1 + (1 : Int32))]) (rest := []) (q0 := 0) X I hl (c_X2_wordAt l D cI cJ zq zs zw (l1 + (1 : Int32)) _) (fb_goodV fw_1535 fw_1536 fw_1537 fw_198 fw_1538) rfl rfl rfl (by decide +kernel : fb_hd yX2_wordAt 1) ⟨Nat.le_of_ble_eq_true rfl, Nat.le_of_ble_eq_true rfl⟩ [0, 1, 2, 3, 4, 5, 6, 7] (by decide) rfl rfl rfl rfl rfl rfl (Nat.le_of_ble_eq_true rfl) ⟨Nat.zero_le _, Nat.zero_le _⟩ dX2_operand_63) ?_
        exact fb_retRI X E8 rfl dX2_operand_66
      · have E9 := (E5.trans (if_pos c7))
        refine lv_aload_n hx hb dX2_operand_49 rfl (lv_at hl 2 rfl) ?_
        refine lv_iload_n hx hb dX2_operand_50 rfl (lv_at hl 3 rfl) ?_
        refine lv_iconst (v := (1 : Int32)) hx hb dX2_operand_51 (by decide) ?_
        refine lv_iadd hx hb dX2_operand_52 ?_
        refine fb_roI X I (fb_runV (As := [.int (l1 + (1 : Int32))]) (rest := []) (q0 := 0) X I hl (c_X2_shown l D cI cJ zq zs zw (l1 + (1 : Int32)) _) (fb_goodV fw_1224 fw_1225 fw_1226 fw_198 fw_1227) rfl rfl rfl (by decide +kernel : fb_hd yX2_shown 1) ⟨Nat.le_of_ble_eq_true rfl, Nat.le_of_ble_eq_true rfl⟩ [0, 1, 2, 3, 4, 5, 6, 7] (by decide) rfl rfl rfl rfl rfl rfl (Nat.le_of_ble_eq_true rfl) ⟨Nat.zero_le _, Nat.zero_le _⟩ dX2_operand_53) ?_
        refine lv_goto (tgt := 66) hx hb dX2_operand_56 (by decide) ?_
        exact fb_retRI X E9 rfl dX2_operand_66
    · have E6 := (E2.trans (if_neg c4))
      refine lv_iload_n hx hb dX2_operand_25 rfl (lv_at hl 3 rfl) ?_
      refine lv_iconst (v := (2 : Int32)) hx hb dX2_operand_26 (by decide) ?_
      refine lv_iadd hx hb dX2_operand_27 ?_
      refine lv_aload_n hx hb dX2_operand_28 rfl (lv_at hl 2 rfl) ?_
      refine lv_iload_n hx hb dX2_operand_29 rfl (lv_at hl 3 rfl) ?_
      refine lv_iconst (v := (1 : Int32)) hx hb dX2_operand_30 (by decide) ?_
      refine lv_iadd hx hb dX2_operand_31 ?_
      refine fb_roI X I (fb_runV (As := [.int (l1 + (1 : Int32))]) (rest := [.int (l1 + (2 : Int32))]) (q0 := 0) X I hl (c_X2_shown l D cI cJ zq zs zw (l1 + (1 : Int32)) _) (fb_goodV fw_1224 fw_1225 fw_1226 fw_198 fw_1227) rfl rfl rfl (by decide +kernel : fb_hd yX2_shown 1) ⟨Nat.le_of_ble_eq_true rfl, Nat.le_of_ble_eq_true rfl⟩ [0, 1, 2, 3, 4, 5, 6, 7] (by decide) rfl rfl rfl rfl rfl rfl (Nat.le_of_ble_eq_true rfl) ⟨Nat.zero_le _, Nat.zero_le _⟩ dX2_operand_32) ?_
      refine fb_roI X I (fb_runSN (As := [.int (f_X2_shown zs (l1 + (1 : Int32)))]) (rest := [.int (l1 + (2 : Int32))]) X I hl (c_X11_signed l D cI cJ (f_X2_shown zs (l1 + (1 : Int32))) _) fw_1290 rfl rfl (List.mem_of_getElem? (i := 30) rfl) fw_191 fw_1289 (by decide +kernel : fb_hd yX11_signed 1) ⟨Nat.le_of_ble_eq_true rfl, Nat.le_of_ble_eq_true rfl⟩ [] (by decide) rfl rfl rfl (Nat.le_of_ble_eq_true rfl) ⟨Nat.zero_le _, Nat.zero_le _⟩ dX2_operand_35) ?_
      refine lv_iadd hx hb dX2_operand_38 ?_
      refine lv_sipush (v := (4095 : Int32)) hx hb dX2_operand_39 (by decide) ?_
      refine lv_iand hx hb dX2_operand_42 ?_
      exact fb_retRI X E6 rfl dX2_operand_43
  · have E3 := (E.trans (if_neg c1))
    refine lv_iconst (v := (-1 : Int32)) hx hb dX2_operand_16 (by decide) ?_
    exact fb_retRI X E3 rfl dX2_operand_17
set_option maxHeartbeats 4000000 in
set_option maxRecDepth 100000 in
theorem c_X2_operand (l : Launch) (D : va_G) (cI cJ : ClassId) (zq : Nat → Nat) (zs : fb_MS) (zw : fb_AR) (l1 : Int32) (sz : Nat)  : Met l yX2_operand (Cond.code yX2_operand cX2_operand 4 (some .int) :: fb_all) ({ frames := 3, cells := 0, slots := 0, locals := 63 } : Room) (fb_PP D (fb_ty D cI cJ) [.ref (zq 0), .int l1] ((fb_mw cI zq zs zw)) sz) (vp_Si (fun r => r = ((f_X2_operand zs l1)))) 0 0 (fun _ => False) := by
  refine fb_entR (by decide +kernel) (Nat.le_of_ble_eq_true rfl) ?_
  intro p e s m args below meth c A ls X I hl hin
  exact b_X2_operand_0 X  I hl rfl
end
section
/-! X2_restart -/
def f_X2_restart (zs : fb_MS) : fb_MS := (fb_sB (fb_sR (fb_sR (fb_sR (fb_sR (fb_sR (fb_sR (fb_sR (fb_sR (fb_sR (fb_sR (fb_sP (fb_sT zs ((f_J7_fill_53178 4096 ((zs).2.2.1) (0 : Int32)))) ((f_X5_clear ((fb_sT zs ((f_J7_fill_53178 4096 ((zs).2.2.1) (0 : Int32))))).2.2.2.2.2))) 5 (0 : Int32)) 6 (0 : Int32)) 7 (255 : Int32)) 8 (4 : Int32)) 9 (f_X2_vector (fb_sR (fb_sR (fb_sR (fb_sR (fb_sP (fb_sT zs ((f_J7_fill_53178 4096 ((zs).2.2.1) (0 : Int32)))) ((f_X5_clear ((fb_sT zs ((f_J7_fill_53178 4096 ((zs).2.2.1) (0 : Int32))))).2.2.2.2.2))) 5 (0 : Int32)) 6 (0 : Int32)) 7 (255 : Int32)) 8 (4 : Int32)) (0 : Int32))) 10 (0 : Int32)) 11 (0 : Int32)) 12 (0 : Int32)) 13 (0 : Int32)) 14 (0 : Int32)) false)
set_option maxHeartbeats 4000000 in
set_option maxRecDepth 100000 in
theorem b_X2_restart_0 {p : Program} {l : Launch} {e : Env} {s : State} {m : MethodId} {args : Array Value} {below : List Frame} {meth : Method} {c : Code} {D : va_G} {cI cJ : ClassId} {A : Nat → Prop} {zq : Nat → Nat} {z : fb_MS} (X : fb_Bx p s m args meth c cX2_restart RX2 1 none D (fb_ty D cI cJ) A) {zs : fb_MS} {zw : fb_AR} {H : Heap} {locs : List Loc} {ls : Array Slot}  (I : fb_In D A s.heap ((fb_mw cI zq zs zw)) H locs) (hl : lv_has ls 1 [(0, .ref (zq 0))]) (E : z = f_X2_restart zs) : W p l e ({ frames := 2, cells := 0, slots := 0, locals := 43 } : Room) s m args below meth c H locs 0 0 (MQ below (fb_QV D A (fun (_ : fb_AR) => True) (fun (t : fb_AR) => (fb_mw cI zq (z) (t)))) args s 0 0 A) (F0 m 0 ls []) := by
  obtain ⟨hx, hb, hr, hml, hown, hts, hlk, hA, hK, hF⟩ := id X
  refine lv_aload_n hx hb dX2_restart_0 rfl (lv_at hl 0 rfl) ?_
  refine fb_get X I (k := 1) fu_X2 0 rfl rfl (Nat.le_of_ble_eq_true rfl) fw_516 rfl rfl dX2_restart_1 ?_
  refine lv_iconst (v := (0 : Int32)) hx hb dX2_restart_4 (by decide) ?_
  refine fb_goV (wn := fun (w1 : Unit) => (fb_mw cI zq (fb_sT zs ((f_J7_fill_53178 4096 ((zs).2.2.1) (0 : Int32)))) zw)) X I (fb_runS (As := [.ref (zq 2), .int (0 : Int32)]) (rest := []) X I hl (c_J7_fill_53178 l D cI cJ (zq 2) 4096 ((zs).2.2.1) (0 : Int32) _ (by decide)) (fb_goodS fw_673 fw_674 fw_203 fw_675) rfl rfl (by decide +kernel : fb_hd yJ7_fill_53178 2) ⟨Nat.le_of_ble_eq_true rfl, Nat.le_of_ble_eq_true rfl⟩ [2] (by decide) rfl rfl rfl (Nat.le_of_ble_eq_true rfl) ⟨Nat.zero_le _, Nat.zero_le _⟩ dX2_restart_5) [2] [0, 1, 3, 4, 5, 6, 7] [0, 1, 7, 2, 3, 4, 5, 6] rfl rfl (by decide) (by decide) (by decide) (fun _ => rfl) ?_
  intro w1 H locs _ I
  refine lv_aload_n hx hb dX2_restart_8 rfl (lv_at hl 0 rfl) ?_
  refine fb_get X I (k := 4) fu_X2 0 rfl rfl (Nat.le_of_ble_eq_true rfl) fw_522 rfl rfl dX2_restart_9 ?_
  refine fb_goV (wn := fun (w2 : Unit) => (fb_mw cI zq (fb_sP (fb_sT zs ((f_J7_fill_53178 4096 ((zs).2.2.1) (0 : Int32)))) ((f_X5_clear ((fb_sT zs ((f_J7_fill_53178 4096 ((zs).2.2.1) (0 : Int32))))).2.2.2.2.2))) zw)) X I (fb_runV (As := []) (rest := []) (q0 := 5) X I hl (c_X5_clear l D cI cJ zq ((fb_sT zs ((f_J7_fill_53178 4096 ((zs).2.2.1) (0 : Int32))))).2.2.2.2.2 _) (fb_goodV fw_676 fw_677 fw_678 fw_199 fw_679) rfl rfl rfl (by decide +kernel : fb_hd yX5_clear 0) ⟨Nat.le_of_ble_eq_true rfl, Nat.le_of_ble_eq_true rfl⟩ [5, 6, 7] (by decide) rfl rfl rfl rfl rfl rfl (Nat.le_of_ble_eq_true rfl) ⟨Nat.zero_le _, Nat.zero_le _⟩ dX2_restart_12) [5, 6, 7] [0, 1, 2, 3, 4] [0, 1, 2, 3, 4, 5, 6, 7] rfl rfl (by decide) (by decide) (by decide) (fun _ => rfl) ?_
  intro w2 H locs _ I
  refine lv_aload_n hx hb dX2_restart_15 rfl (lv_at hl 0 rfl) ?_
  refine lv_iconst (v := (0 : Int32)) hx hb dX2_restart_16 (by decide) ?_
  refine fb_put X I (k := 5) (wn := (fb_mw cI zq (fb_sR (fb_sP (fb_sT zs ((f_J7_fill_53178 4096 ((zs).2.2.1) (0 : Int32)))) ((f_X5_clear ((fb_sT zs ((f_J7_fill_53178 4096 ((zs).2.2.1) (0 : Int32))))).2.2.2.2.2))) 5 (0 : Int32)) zw)) fu_X2 tyX2 tyX2_ok nmX2 0 rfl rfl (Nat.le_of_ble_eq_true rfl) fw_524 rfl rfl rfl rfl rfl (Nat.le_of_ble_eq_true rfl) fb_ms5 dX2_restart_17 (fun H locs I => ?_)
  refine lv_aload_n hx hb dX2_restart_20 rfl (lv_at hl 0 rfl) ?_
  refine lv_iconst (v := (0 : Int32)) hx hb dX2_restart_21 (by decide) ?_
  refine fb_put X I (k := 6) (wn := (fb_mw cI zq (fb_sR (fb_sR (fb_sP (fb_sT zs ((f_J7_fill_53178 4096 ((zs).2.2.1) (0 : Int32)))) ((f_X5_clear ((fb_sT zs ((f_J7_fill_53178 4096 ((zs).2.2.1) (0 : Int32))))).2.2.2.2.2))) 5 (0 : Int32)) 6 (0 : Int32)) zw)) fu_X2 tyX2 tyX2_ok nmX2 0 rfl rfl (Nat.le_of_ble_eq_true rfl) fw_526 rfl rfl rfl rfl rfl (Nat.le_of_ble_eq_true rfl) fb_ms6 dX2_restart_22 (fun H locs I => ?_)
  refine lv_aload_n hx hb dX2_restart_25 rfl (lv_at hl 0 rfl) ?_
  refine lv_sipush (v := (255 : Int32)) hx hb dX2_restart_26 (by decide) ?_
  refine fb_put X I (k := 7) (wn := (fb_mw cI zq (fb_sR (fb_sR (fb_sR (fb_sP (fb_sT zs ((f_J7_fill_53178 4096 ((zs).2.2.1) (0 : Int32)))) ((f_X5_clear ((fb_sT zs ((f_J7_fill_53178 4096 ((zs).2.2.1) (0 : Int32))))).2.2.2.2.2))) 5 (0 : Int32)) 6 (0 : Int32)) 7 (255 : Int32)) zw)) fu_X2 tyX2 tyX2_ok nmX2 0 rfl rfl (Nat.le_of_ble_eq_true rfl) fw_528 rfl rfl rfl rfl rfl (Nat.le_of_ble_eq_true rfl) fb_ms7 dX2_restart_29 (fun H locs I => ?_)
  refine lv_aload_n hx hb dX2_restart_32 rfl (lv_at hl 0 rfl) ?_
  refine lv_iconst (v := (4 : Int32)) hx hb dX2_restart_33 (by decide) ?_
  refine fb_put X I (k := 8) (wn := (fb_mw cI zq (fb_sR (fb_sR (fb_sR (fb_sR (fb_sP (fb_sT zs ((f_J7_fill_53178 4096 ((zs).2.2.1) (0 : Int32)))) ((f_X5_clear ((fb_sT zs ((f_J7_fill_53178 4096 ((zs).2.2.1) (0 : Int32))))).2.2.2.2.2))) 5 (0 : Int32)) 6 (0 : Int32)) 7 (255 : Int32)) 8 (4 : Int32)) zw)) fu_X2 tyX2 tyX2_ok nmX2 0 rfl rfl (Nat.le_of_ble_eq_true rfl) fw_530 rfl rfl rfl rfl rfl (Nat.le_of_ble_eq_true rfl) fb_ms8 dX2_restart_34 (fun H locs I => ?_)
  refine lv_aload_n hx hb dX2_restart_37 rfl (lv_at hl 0 rfl) ?_
  refine lv_aload_n hx hb dX2_restart_38 rfl (lv_at hl 0 rfl) ?_
  refine lv_iconst (v := (0 : Int32)) hx hb dX2_restart_39 (by decide) ?_
  refine fb_roI X I (fb_runV (As := [.int (0 : Int32)]) (rest := [.ref (zq 0)]) (q0 := 0) X I hl (c_X2_vector l D cI cJ zq (fb_sR (fb_sR (fb_sR (fb_sR (fb_sP (fb_sT zs ((f_J7_fill_53178 4096 ((zs).2.2.1) (0 : Int32)))) ((f_X5_clear ((fb_sT zs ((f_J7_fill_53178 4096 ((zs).2.2.1) (0 : Int32))))).2.2.2.2.2))) 5 (0 : Int32)) 6 (0 : Int32)) 7 (255 : Int32)) 8 (4 : Int32)) zw (0 : Int32) _) (fb_goodV fw_680 fw_681 fw_682 fw_198 fw_683) rfl rfl rfl (by decide +kernel : fb_hd yX2_vector 1) ⟨Nat.le_of_ble_eq_true rfl, Nat.le_of_ble_eq_true rfl⟩ [0, 1, 2, 3, 4, 5, 6, 7] (by decide) rfl rfl rfl rfl rfl rfl (Nat.le_of_ble_eq_true rfl) ⟨Nat.zero_le _, Nat.zero_le _⟩ dX2_restart_40) ?_
  refine fb_put X I (k := 9) (wn := (fb_mw cI zq (fb_sR (fb_sR (fb_sR (fb_sR (fb_sR (fb_sP (fb_sT zs ((f_J7_fill_53178 4096 ((zs).2.2.1) (0 : Int32)))) ((f_X5_clear ((fb_sT zs ((f_J7_fill_53178 4096 ((zs).2.2.1) (0 : Int32))))).2.2.2.2.2))) 5 (0 : Int32)) 6 (0 : Int32)) 7 (255 : Int32)) 8 (4 : Int32)) 9 (f_X2_vector (fb_sR (fb_sR (fb_sR (fb_sR (fb_sP (fb_sT zs ((f_J7_fill_53178 4096 ((zs).2.2.1) (0 : Int32)))) ((f_X5_clear ((fb_sT zs ((f_J7_fill_53178 4096 ((zs).2.2.1) (0 : Int32))))).2.2.2.2.2))) 5 (0 : Int32)) 6 (0 : Int32)) 7 (255 : Int32)) 8 (4 : Int32)) (0 : Int32))) zw)) fu_X2 tyX2 tyX2_ok nmX2 0 rfl rfl (Nat.le_of_ble_eq_true rfl) fw_533 rfl rfl rfl rfl rfl (Nat.le_of_ble_eq_true rfl) fb_ms9 dX2_restart_43 (fun H locs I => ?_)
  refine lv_aload_n hx hb dX2_restart_46 rfl (lv_at hl 0 rfl) ?_
  refine lv_iconst (v := (0 : Int32)) hx hb dX2_restart_47 (by decide) ?_
  refine fb_put X I (k := 10) (wn := (fb_mw cI zq (fb_sR (fb_sR (fb_sR (fb_sR (fb_sR (fb_sR (fb_sP (fb_sT zs ((f_J7_fill_53178 4096 ((zs).2.2.1) (0 : Int32)))) ((f_X5_clear ((fb_sT zs ((f_J7_fill_53178 4096 ((zs).2.2.1) (0 : Int32))))).2.2.2.2.2))) 5 (0 : Int32)) 6 (0 : Int32)) 7 (255 : Int32)) 8 (4 : Int32)) 9 (f_X2_vector (fb_sR (fb_sR (fb_sR (fb_sR (fb_sP (fb_sT zs ((f_J7_fill_53178 4096 ((zs).2.2.1) (0 : Int32)))) ((f_X5_clear ((fb_sT zs ((f_J7_fill_53178 4096 ((zs).2.2.1) (0 : Int32))))).2.2.2.2.2))) 5 (0 : Int32)) 6 (0 : Int32)) 7 (255 : Int32)) 8 (4 : Int32)) (0 : Int32))) 10 (0 : Int32)) zw)) fu_X2 tyX2 tyX2_ok nmX2 0 rfl rfl (Nat.le_of_ble_eq_true rfl) fw_535 rfl rfl rfl rfl rfl (Nat.le_of_ble_eq_true rfl) fb_ms10 dX2_restart_48 (fun H locs I => ?_)
  refine lv_aload_n hx hb dX2_restart_51 rfl (lv_at hl 0 rfl) ?_
  refine lv_iconst (v := (0 : Int32)) hx hb dX2_restart_52 (by decide) ?_
  refine fb_put X I (k := 11) (wn := (fb_mw cI zq (fb_sR (fb_sR (fb_sR (fb_sR (fb_sR (fb_sR (fb_sR (fb_sP (fb_sT zs ((f_J7_fill_53178 4096 ((zs).2.2.1) (0 : Int32)))) ((f_X5_clear ((fb_sT zs ((f_J7_fill_53178 4096 ((zs).2.2.1) (0 : Int32))))).2.2.2.2.2))) 5 (0 : Int32)) 6 (0 : Int32)) 7 (255 : Int32)) 8 (4 : Int32)) 9 (f_X2_vector (fb_sR (fb_sR (fb_sR (fb_sR (fb_sP (fb_sT zs ((f_J7_fill_53178 4096 ((zs).2.2.1) (0 : Int32)))) ((f_X5_clear ((fb_sT zs ((f_J7_fill_53178 4096 ((zs).2.2.1) (0 : Int32))))).2.2.2.2.2))) 5 (0 : Int32)) 6 (0 : Int32)) 7 (255 : Int32)) 8 (4 : Int32)) (0 : Int32))) 10 (0 : Int32)) 11 (0 : Int32)) zw)) fu_X2 tyX2 tyX2_ok nmX2 0 rfl rfl (Nat.le_of_ble_eq_true rfl) fw_537 rfl rfl rfl rfl rfl (Nat.le_of_ble_eq_true rfl) fb_ms11 dX2_restart_53 (fun H locs I => ?_)
  refine lv_aload_n hx hb dX2_restart_56 rfl (lv_at hl 0 rfl) ?_
  refine lv_iconst (v := (0 : Int32)) hx hb dX2_restart_57 (by decide) ?_
  refine fb_put X I (k := 12) (wn := (fb_mw cI zq (fb_sR (fb_sR (fb_sR (fb_sR (fb_sR (fb_sR (fb_sR (fb_sR (fb_sP (fb_sT zs ((f_J7_fill_53178 4096 ((zs).2.2.1) (0 : Int32)))) ((f_X5_clear ((fb_sT zs ((f_J7_fill_53178 4096 ((zs).2.2.1) (0 : Int32))))).2.2.2.2.2))) 5 (0 : Int32)) 6 (0 : Int32)) 7 (255 : Int32)) 8 (4 : Int32)) 9 (f_X2_vector (fb_sR (fb_sR (fb_sR (fb_sR (fb_sP (fb_sT zs ((f_J7_fill_53178 4096 ((zs).2.2.1) (0 : Int32)))) ((f_X5_clear ((fb_sT zs ((f_J7_fill_53178 4096 ((zs).2.2.1) (0 : Int32))))).2.2.2.2.2))) 5 (0 : Int32)) 6 (0 : Int32)) 7 (255 : Int32)) 8 (4 : Int32)) (0 : Int32))) 10 (0 : Int32)) 11 (0 : Int32)) 12 (0 : Int32)) zw)) fu_X2 tyX2 tyX2_ok nmX2 0 rfl rfl (Nat.le_of_ble_eq_true rfl) fw_539 rfl rfl rfl rfl rfl (Nat.le_of_ble_eq_true rfl) fb_ms12 dX2_restart_58 (fun H locs I => ?_)
  refine lv_aload_n hx hb dX2_restart_61 rfl (lv_at hl 0 rfl) ?_
  refine lv_iconst (v := (0 : Int32)) hx hb dX2_restart_62 (by decide) ?_
  refine fb_put X I (k := 13) (wn := (fb_mw cI zq (fb_sR (fb_sR (fb_sR (fb_sR (fb_sR (fb_sR (fb_sR (fb_sR (fb_sR (fb_sP (fb_sT zs ((f_J7_fill_53178 4096 ((zs).2.2.1) (0 : Int32)))) ((f_X5_clear ((fb_sT zs ((f_J7_fill_53178 4096 ((zs).2.2.1) (0 : Int32))))).2.2.2.2.2))) 5 (0 : Int32)) 6 (0 : Int32)) 7 (255 : Int32)) 8 (4 : Int32)) 9 (f_X2_vector (fb_sR (fb_sR (fb_sR (fb_sR (fb_sP (fb_sT zs ((f_J7_fill_53178 4096 ((zs).2.2.1) (0 : Int32)))) ((f_X5_clear ((fb_sT zs ((f_J7_fill_53178 4096 ((zs).2.2.1) (0 : Int32))))).2.2.2.2.2))) 5 (0 : Int32)) 6 (0 : Int32)) 7 (255 : Int32)) 8 (4 : Int32)) (0 : Int32))) 10 (0 : Int32)) 11 (0 : Int32)) 12 (0 : Int32)) 13 (0 : Int32)) zw)) fu_X2 tyX2 tyX2_ok nmX2 0 rfl rfl (Nat.le_of_ble_eq_true rfl) fw_541 rfl rfl rfl rfl rfl (Nat.le_of_ble_eq_true rfl) fb_ms13 dX2_restart_63 (fun H locs I => ?_)
  refine lv_aload_n hx hb dX2_restart_66 rfl (lv_at hl 0 rfl) ?_
  refine lv_iconst (v := (0 : Int32)) hx hb dX2_restart_67 (by decide) ?_
  refine fb_put X I (k := 14) (wn := (fb_mw cI zq (fb_sR (fb_sR (fb_sR (fb_sR (fb_sR (fb_sR (fb_sR (fb_sR (fb_sR (fb_sR (fb_sP (fb_sT zs ((f_J7_fill_53178 4096 ((zs).2.2.1) (0 : Int32)))) ((f_X5_clear ((fb_sT zs ((f_J7_fill_53178 4096 ((zs).2.2.1) (0 : Int32))))).2.2.2.2.2))) 5 (0 : Int32)) 6 (0 : Int32)) 7 (255 : Int32)) 8 (4 : Int32)) 9 (f_X2_vector (fb_sR (fb_sR (fb_sR (fb_sR (fb_sP (fb_sT zs ((f_J7_fill_53178 4096 ((zs).2.2.1) (0 : Int32)))) ((f_X5_clear ((fb_sT zs ((f_J7_fill_53178 4096 ((zs).2.2.1) (0 : Int32))))).2.2.2.2.2))) 5 (0 : Int32)) 6 (0 : Int32)) 7 (255 : Int32)) 8 (4 : Int32)) (0 : Int32))) 10 (0 : Int32)) 11 (0 : Int32)) 12 (0 : Int32)) 13 (0 : Int32)) 14 (0 : Int32)) zw)) fu_X2 tyX2 tyX2_ok nmX2 0 rfl rfl (Nat.le_of_ble_eq_true rfl) fw_543 rfl rfl rfl rfl rfl (Nat.le_of_ble_eq_true rfl) fb_ms14 dX2_restart_68 (fun H locs I => ?_)
  refine lv_aload_n hx hb dX2_restart_71 rfl (lv_at hl 0 rfl) ?_
  refine lv_iconst (v := (0 : Int32)) hx hb dX2_restart_72 (by decide) ?_
  refine fb_put X I (k := 16) (wn := (fb_mw cI zq (fb_sB (fb_sR (fb_sR (fb_sR (fb_sR (fb_sR (fb_sR (fb_sR (fb_sR (fb_sR (fb_sR (fb_sP (fb_sT zs ((f_J7_fill_53178 4096 ((zs).2.2.1) (0 : Int32)))) ((f_X5_clear ((fb_sT zs ((f_J7_fill_53178 4096 ((zs).2.2.1) (0 : Int32))))).2.2.2.2.2))) 5 (0 : Int32)) 6 (0 : Int32)) 7 (255 : Int32)) 8 (4 : Int32)) 9 (f_X2_vector (fb_sR (fb_sR (fb_sR (fb_sR (fb_sP (fb_sT zs ((f_J7_fill_53178 4096 ((zs).2.2.1) (0 : Int32)))) ((f_X5_clear ((fb_sT zs ((f_J7_fill_53178 4096 ((zs).2.2.1) (0 : Int32))))).2.2.2.2.2))) 5 (0 : Int32)) 6 (0 : Int32)) 7 (255 : Int32)) 8 (4 : Int32)) (0 : Int32))) 10 (0 : Int32)) 11 (0 : Int32)) 12 (0 : Int32)) 13 (0 : Int32)) 14 (0 : Int32)) false) zw)) fu_X2 tyX2 tyX2_ok nmX2 0 rfl rfl (Nat.le_of_ble_eq_true rfl) fw_546 rfl rfl rfl rfl rfl (Nat.le_of_ble_eq_true rfl) rfl dX2_restart_73 (fun H locs I => ?_)
  subst E
  exact fb_retV (u := (zw)) X I trivial dX2_restart_76
set_option maxHeartbeats 4000000 in
set_option maxRecDepth 100000 in
theorem c_X2_restart (l : Launch) (D : va_G) (cI cJ : ClassId) (zq : Nat → Nat) (zs : fb_MS) (zw : fb_AR)  (sz : Nat)  : Met l yX2_restart (Cond.code yX2_restart cX2_restart 1 none :: fb_all) ({ frames := 2, cells := 0, slots := 0, locals := 43 } : Room) (fb_PP D (fb_ty D cI cJ) [.ref (zq 0)] ((fb_mw cI zq zs zw)) sz) (fb_QV D (va_A ((fb_mw cI zq zs zw)) sz) (fun (_ : fb_AR) => True) (fun (t : fb_AR) => (fb_mw cI zq (((f_X2_restart zs))) (t)))) 0 0 (va_A ((fb_mw cI zq zs zw)) sz) := by
  refine fb_ent (Qf := fun A => (fb_QV D A (fun (_ : fb_AR) => True) (fun (t : fb_AR) => (fb_mw cI zq (((f_X2_restart zs))) (t))))) (by decide +kernel) (Nat.le_of_ble_eq_true rfl) ?_
  intro p e s m args below meth c A ls X I hl hin
  exact b_X2_restart_0 X  I hl rfl
end
section
/-! X6_comeTo -/
def f_X6_comeTo (ze6 : fb_AR) (zc : fb_AR) (zop : fb_AR) (l1 : Int32) : fb_AR × fb_AR × fb_AR := (if (f_X11_at 4096 zc l1) = 0 then ((upd ze6 3 ((ze6 3) + (1 : Int32))), ((f_X11_put 4096 zc l1 (1 : Int32))), ((f_X11_put 4096 zop (ze6 3) l1))) else (ze6, zc, zop))
set_option maxHeartbeats 4000000 in
set_option maxRecDepth 100000 in
theorem b_X6_comeTo_0 {p : Program} {l : Launch} {e : Env} {s : State} {m : MethodId} {args : Array Value} {below : List Frame} {meth : Method} {c : Code} {D : va_G} {cI cJ : ClassId} {A : Nat → Prop} {zre : Nat} {zac : Nat} {zab : Nat} {zao : Nat} {z : fb_AR × fb_AR × fb_AR} (X : fb_Bx p s m args meth c cX6_comeTo RX6 2 none D (fb_ty D cI cJ) A) {ze6 : fb_AR} {zc : fb_AR} {zop : fb_AR} {l1 : Int32} {H : Heap} {locs : List Loc} {ls : Array Slot}  (I : fb_In D A s.heap ((fb_o6 zre zac zab zao ze6) ++ ((fb_aw cI zac 4096 zc) ++ (fb_aw cI zao 4096 zop))) H locs) (hl : lv_has ls 2 [(0, .ref zre), (1, .int l1)]) (E : z = f_X6_comeTo ze6 zc zop l1) : W p l e ({ frames := 1, cells := 0, slots := 0, locals := 22 } : Room) s m args below meth c H locs 0 0 (MQ below (fb_QV D A (fun (_ : Unit) => True) (fun (t : Unit) => (fb_o6 zre zac zab zao (z.1)) ++ ((fb_aw cI zac 4096 (z.2.1)) ++ (fb_aw cI zao 4096 (z.2.2))))) args s 0 0 A) (F0 m 0 ls []) := by
  obtain ⟨hx, hb, hr, hml, hown, hts, hlk, hA, hK, hF⟩ := id X
  refine lv_aload_n hx hb dX6_comeTo_0 rfl (lv_at hl 0 rfl) ?_
  refine fb_get X I (k := 0) fu_X6 0 rfl rfl (Nat.le_of_ble_eq_true rfl) fw_651 rfl rfl dX6_comeTo_1 ?_
  refine lv_iload_n hx hb dX6_comeTo_4 rfl (lv_at hl 1 rfl) ?_
  refine fb_roI X I (fb_runSN (As := [.ref zac, .int l1]) (rest := []) X I hl (c_X11_at l D cI cJ zac 4096 zc l1 _ (by decide)) fw_686 rfl rfl (List.mem_of_getElem? (i := 35) rfl) fw_191 fw_685 (by decide +kernel : fb_hd yX11_at 2) ⟨Nat.le_of_ble_eq_true rfl, Nat.le_of_ble_eq_true rfl⟩ [1] (by decide) rfl rfl rfl (Nat.le_of_ble_eq_true rfl) ⟨Nat.zero_le _, Nat.zero_le _⟩ dX6_comeTo_5) ?_
  refine lv_if_eq (tgt := 12) hx hb dX6_comeTo_8 (by decide) (fun c1 => ?_) (fun c1 => ?_)
  · have E2 := (E.trans (if_pos c1))
    refine lv_aload_n hx hb dX6_comeTo_12 rfl (lv_at hl 0 rfl) ?_
    refine fb_get X I (k := 0) fu_X6 0 rfl rfl (Nat.le_of_ble_eq_true rfl) fw_651 rfl rfl dX6_comeTo_13 ?_
    refine lv_iload_n hx hb dX6_comeTo_16 rfl (lv_at hl 1 rfl) ?_
    refine lv_iconst (v := (1 : Int32)) hx hb dX6_comeTo_17 (by decide) ?_
    refine fb_goV (wn := fun (w4 : Unit) => (fb_o6 zre zac zab zao ze6) ++ ((fb_aw cI zac 4096 ((f_X11_put 4096 zc l1 (1 : Int32)))) ++ (fb_aw cI zao 4096 zop))) X I (fb_runSN (As := [.ref zac, .int l1, .int (1 : Int32)]) (rest := []) X I hl (c_X11_put l D cI cJ zac 4096 zc l1 (1 : Int32) _ (by decide)) fw_756 rfl rfl (List.mem_of_getElem? (i := 36) rfl) fw_191 fw_755 (by decide +kernel : fb_hd yX11_put 3) ⟨Nat.le_of_ble_eq_true rfl, Nat.le_of_ble_eq_true rfl⟩ [1] (by decide) rfl rfl rfl (Nat.le_of_ble_eq_true rfl) ⟨Nat.zero_le _, Nat.zero_le _⟩ dX6_comeTo_18) [1] [0, 2] [0, 2, 1] rfl rfl (by decide) (by decide) (by decide) (fun _ => rfl) ?_
    intro w4 H locs _ I
    refine lv_aload_n hx hb dX6_comeTo_21 rfl (lv_at hl 0 rfl) ?_
    refine fb_get X I (k := 2) fu_X6 0 rfl rfl (Nat.le_of_ble_eq_true rfl) fw_654 rfl rfl dX6_comeTo_22 ?_
    refine lv_aload_n hx hb dX6_comeTo_25 rfl (lv_at hl 0 rfl) ?_
    refine fb_get X I (k := 3) fu_X6 0 rfl rfl (Nat.le_of_ble_eq_true rfl) fw_655 rfl rfl dX6_comeTo_26 ?_
    refine lv_iload_n hx hb dX6_comeTo_29 rfl (lv_at hl 1 rfl) ?_
    refine fb_goV (wn := fun (w5 : Unit) => (fb_o6 zre zac zab zao ze6) ++ ((fb_aw cI zac 4096 ((f_X11_put 4096 zc l1 (1 : Int32)))) ++ (fb_aw cI zao 4096 ((f_X11_put 4096 zop (ze6 3) l1))))) X I (fb_runSN (As := [.ref zao, .int (ze6 3), .int l1]) (rest := []) X I hl (c_X11_put l D cI cJ zao 4096 zop (ze6 3) l1 _ (by decide)) fw_756 rfl rfl (List.mem_of_getElem? (i := 36) rfl) fw_191 fw_755 (by decide +kernel : fb_hd yX11_put 3) ⟨Nat.le_of_ble_eq_true rfl, Nat.le_of_ble_eq_true rfl⟩ [2] (by decide) rfl rfl rfl (Nat.le_of_ble_eq_true rfl) ⟨Nat.zero_le _, Nat.zero_le _⟩ dX6_comeTo_30) [2] [0, 1] [0, 1, 2] rfl rfl (by decide) (by decide) (by decide) (fun _ => rfl) ?_
    intro w5 H locs _ I
    refine lv_aload_n hx hb dX6_comeTo_33 rfl (lv_at hl 0 rfl) ?_
    refine lv_dup hx hb dX6_comeTo_34 rfl ?_
    refine fb_get X I (k := 3) fu_X6 0 rfl rfl (Nat.le_of_ble_eq_true rfl) fw_655 rfl rfl dX6_comeTo_35 ?_
    refine lv_iconst (v := (1 : Int32)) hx hb dX6_comeTo_38 (by decide) ?_
    refine lv_iadd hx hb dX6_comeTo_39 ?_
    refine fb_put X I (k := 3) (wn := (fb_o6 zre zac zab zao (upd ze6 3 ((ze6 3) + (1 : Int32)))) ++ ((fb_aw cI zac 4096 ((f_X11_put 4096 zc l1 (1 : Int32)))) ++ (fb_aw cI zao 4096 ((f_X11_put 4096 zop (ze6 3) l1))))) fu_X6 tyX6 tyX6_ok nmX6 0 rfl rfl (Nat.le_of_ble_eq_true rfl) fw_655 rfl rfl rfl rfl rfl (Nat.le_of_ble_eq_true rfl) rfl dX6_comeTo_40 (fun H locs I => ?_)
    subst E2
    exact fb_retV (u := ()) X I trivial dX6_comeTo_43
  · have E3 := (E.trans (if_neg c1))
    subst E3
    exact fb_retV (u := ()) X I trivial dX6_comeTo_11
set_option maxHeartbeats 4000000 in
set_option maxRecDepth 100000 in
theorem c_X6_comeTo (l : Launch) (D : va_G) (cI cJ : ClassId) (zre : Nat) (zac : Nat) (zab : Nat) (zao : Nat) (ze6 : fb_AR) (zc : fb_AR) (zop : fb_AR) (l1 : Int32) (sz : Nat)  : Met l yX6_comeTo (Cond.code yX6_comeTo cX6_comeTo 2 none :: fb_all) ({ frames := 1, cells := 0, slots := 0, locals := 22 } : Room) (fb_PP D (fb_ty D cI cJ) [.ref zre, .int l1] ((fb_o6 zre zac zab zao ze6) ++ ((fb_aw cI zac 4096 zc) ++ (fb_aw cI zao 4096 zop))) sz) (fb_QV D (va_A ((fb_o6 zre zac zab zao ze6) ++ ((fb_aw cI zac 4096 zc) ++ (fb_aw cI zao 4096 zop))) sz) (fun (_ : Unit) => True) (fun (t : Unit) => (fb_o6 zre zac zab zao (((f_X6_comeTo ze6 zc zop l1)).1)) ++ ((fb_aw cI zac 4096 (((f_X6_comeTo ze6 zc zop l1)).2.1)) ++ (fb_aw cI zao 4096 (((f_X6_comeTo ze6 zc zop l1)).2.2))))) 0 0 (va_A ((fb_o6 zre zac zab zao ze6) ++ ((fb_aw cI zac 4096 zc) ++ (fb_aw cI zao 4096 zop))) sz) := by
  refine fb_ent (Qf := fun A => (fb_QV D A (fun (_ : Unit) => True) (fun (t : Unit) => (fb_o6 zre zac zab zao (((f_X6_comeTo ze6 zc zop l1)).1)) ++ ((fb_aw cI zac 4096 (((f_X6_comeTo ze6 zc zop l1)).2.1)) ++ (fb_aw cI zao 4096 (((f_X6_comeTo ze6 zc zop l1)).2.2)))))) (by decide +kernel) (Nat.le_of_ble_eq_true rfl) ?_
  intro p e s m args below meth c A ls X I hl hin
  exact b_X6_comeTo_0 X  I hl rfl
/-! X6_goFrom -/
def f_X6_goFrom_149 (ze6 : fb_AR) (zc : fb_AR) (zbg : fb_AR) (zop : fb_AR) (zs : fb_MS) (l3 : Int32) : fb_AR × fb_AR × fb_AR × fb_AR := (if l3 = (5 : Int32) then (((f_X6_comeTo ze6 zc zop (f_X2_vector zs (6 : Int32))).1), ((f_X6_comeTo ze6 zc zop (f_X2_vector zs (6 : Int32))).2.1), zbg, ((f_X6_comeTo ze6 zc zop (f_X2_vector zs (6 : Int32))).2.2)) else (ze6, zc, zbg, zop))
def f_X6_goFrom_136 (ze6 : fb_AR) (zc : fb_AR) (zbg : fb_AR) (zop : fb_AR) (zs : fb_MS) (l2 : Int32) (l3 : Int32) : fb_AR × fb_AR × fb_AR × fb_AR := f_X6_goFrom_149 ((f_X6_comeTo ze6 zc zop ((f_X2_operand zs l2) &&& (4095 : Int32))).1) ((f_X6_comeTo ze6 zc zop ((f_X2_operand zs l2) &&& (4095 : Int32))).2.1) zbg ((f_X6_comeTo ze6 zc zop ((f_X2_operand zs l2) &&& (4095 : Int32))).2.2) zs l3
def f_X6_goFrom_122 (ze6 : fb_AR) (zc : fb_AR) (zbg : fb_AR) (zop : fb_AR) (zs : fb_MS) (l2 : Int32) (l3 : Int32) (k0 : Int32) : fb_AR × fb_AR × fb_AR × fb_AR := (if k0 = 0 then (if l3 < (208 : Int32) then f_X6_goFrom_149 ze6 zc zbg zop zs l3 else f_X6_goFrom_136 ze6 zc zbg zop zs l2 l3) else f_X6_goFrom_136 ze6 zc zbg zop zs l2 l3)
def f_X6_goFrom_121 (ze6 : fb_AR) (zc : fb_AR) (zbg : fb_AR) (zop : fb_AR) (zs : fb_MS) (l2 : Int32) (l3 : Int32) : fb_AR × fb_AR × fb_AR × fb_AR := f_X6_goFrom_122 ze6 zc zbg zop zs l2 l3 (0 : Int32)
def f_X6_goFrom_109 (ze6 : fb_AR) (zc : fb_AR) (zbg : fb_AR) (zop : fb_AR) (zs : fb_MS) (l2 : Int32) (l3 : Int32) : fb_AR × fb_AR × fb_AR × fb_AR := (if (l3 &&& (7 : Int32)) = (3 : Int32) then f_X6_goFrom_122 ze6 zc zbg zop zs l2 l3 (1 : Int32) else f_X6_goFrom_121 ze6 zc zbg zop zs l2 l3)
def f_X6_goFrom_95 (ze6 : fb_AR) (zc : fb_AR) (zbg : fb_AR) (zop : fb_AR) (zs : fb_MS) (l2 : Int32) (l3 : Int32) (l5 : Int32) : fb_AR × fb_AR × fb_AR × fb_AR := (if l5 = (24 : Int32) then f_X6_goFrom_109 ze6 zc zbg zop zs l2 l3 else (if l5 = (25 : Int32) then f_X6_goFrom_109 ze6 zc zbg zop zs l2 l3 else f_X6_goFrom_121 ze6 zc zbg zop zs l2 l3))
def f_X6_goFrom_76 (ze6 : fb_AR) (zc : fb_AR) (zbg : fb_AR) (zop : fb_AR) (zs : fb_MS) (l2 : Int32) (l3 : Int32) (l4 : Int32) (l5 : Int32) (k0 : Int32) : fb_AR × fb_AR × fb_AR × fb_AR := (if k0 = 0 then f_X6_goFrom_95 ((f_X6_comeTo ze6 zc zop ((l2 + l4) &&& (4095 : Int32))).1) ((f_X6_comeTo ze6 zc zop ((l2 + l4) &&& (4095 : Int32))).2.1) zbg ((f_X6_comeTo ze6 zc zop ((l2 + l4) &&& (4095 : Int32))).2.2) zs l2 l3 l5 else f_X6_goFrom_95 ze6 zc zbg zop zs l2 l3 l5)
def f_X6_goFrom_71 (ze6 : fb_AR) (zc : fb_AR) (zbg : fb_AR) (zop : fb_AR) (zs : fb_MS) (l2 : Int32) (l3 : Int32) (l4 : Int32) (l5 : Int32) : fb_AR × fb_AR × fb_AR × fb_AR := f_X6_goFrom_76 ze6 zc zbg zop zs l2 l3 l4 l5 (1 : Int32)
def f_X6_goFrom (ze6 : fb_AR) (zc : fb_AR) (zbg : fb_AR) (zop : fb_AR) (zs : fb_MS) (l2 : Int32) : fb_AR × fb_AR × fb_AR × fb_AR := (if (f_X11_lengthOf (f_X2_shown zs l2)) = 0 then (ze6, zc, zbg, zop) else (if (f_X2_shown zs l2) = (1 : Int32) then f_X6_goFrom_71 (upd ze6 4 ((ze6 4) + (1 : Int32))) zc ((f_X11_put 4096 zbg l2 (1 : Int32))) zop zs l2 (f_X2_shown zs l2) (f_X11_lengthOf (f_X2_shown zs l2)) ((f_X2_shown zs l2) >>> ((3 : Int32) &&& 31)) else (if (f_X2_shown zs l2) = (3 : Int32) then f_X6_goFrom_71 (upd ze6 4 ((ze6 4) + (1 : Int32))) zc ((f_X11_put 4096 zbg l2 (1 : Int32))) zop zs l2 (f_X2_shown zs l2) (f_X11_lengthOf (f_X2_shown zs l2)) ((f_X2_shown zs l2) >>> ((3 : Int32) &&& 31)) else (if (f_X2_shown zs l2) = (4 : Int32) then f_X6_goFrom_71 (upd ze6 4 ((ze6 4) + (1 : Int32))) zc ((f_X11_put 4096 zbg l2 (1 : Int32))) zop zs l2 (f_X2_shown zs l2) (f_X11_lengthOf (f_X2_shown zs l2)) ((f_X2_shown zs l2) >>> ((3 : Int32) &&& 31)) else (if (f_X2_shown zs l2) = (216 : Int32) then f_X6_goFrom_71 (upd ze6 4 ((ze6 4) + (1 : Int32))) zc ((f_X11_put 4096 zbg l2 (1 : Int32))) zop zs l2 (f_X2_shown zs l2) (f_X11_lengthOf (f_X2_shown zs l2)) ((f_X2_shown zs l2) >>> ((3 : Int32) &&& 31)) else (if ((f_X2_shown zs l2) >>> ((3 : Int32) &&& 31)) = (24 : Int32) then f_X6_goFrom_71 (upd ze6 4 ((ze6 4) + (1 : Int32))) zc ((f_X11_put 4096 zbg l2 (1 : Int32))) zop zs l2 (f_X2_shown zs l2) (f_X11_lengthOf (f_X2_shown zs l2)) ((f_X2_shown zs l2) >>> ((3 : Int32) &&& 31)) else f_X6_goFrom_76 (upd ze6 4 ((ze6 4) + (1 : Int32))) zc ((f_X11_put 4096 zbg l2 (1 : Int32))) zop zs l2 (f_X2_shown zs l2) (f_X11_lengthOf (f_X2_shown zs l2)) ((f_X2_shown zs l2) >>> ((3 : Int32) &&& 31)) (0 : Int32)))))))
set_option maxHeartbeats 4000000 in
set_option maxRecDepth 100000 in
theorem b_X6_goFrom_149 {p : Program} {l : Launch} {e : Env} {s : State} {m : MethodId} {args : Array Value} {below : List Frame} {meth : Method} {c : Code} {D : va_G} {cI cJ : ClassId} {A : Nat → Prop} {zre : Nat} {zac : Nat} {zab : Nat} {zao : Nat} {zq : Nat → Nat} {z : fb_AR × fb_AR × fb_AR × fb_AR} (X : fb_Bx p s m args meth c cX6_goFrom RX6 8 none D (fb_ty D cI cJ) A) {ze6 : fb_AR} {zc : fb_AR} {zbg : fb_AR} {zop : fb_AR} {zs : fb_MS} {zw : fb_AR} {l3 : Int32} {H : Heap} {locs : List Loc} {ls : Array Slot}  (I : fb_In D A s.heap ((fb_o6 zre zac zab zao ze6) ++ ((fb_aw cI zac 4096 zc) ++ ((fb_aw cI zab 4096 zbg) ++ ((fb_aw cI zao 4096 zop) ++ (fb_mw cI zq zs zw))))) H locs) (hl : lv_has ls 8 [(0, .ref zre), (1, .ref (zq 0)), (3, .int l3)]) (E : z = f_X6_goFrom_149 ze6 zc zbg zop zs l3) : W p l e ({ frames := 4, cells := 0, slots := 0, locals := 86 } : Room) s m args below meth c H locs 0 0 (MQ below (fb_QV D A (fun (_ : Unit) => True) (fun (t : Unit) => (fb_o6 zre zac zab zao (z.1)) ++ ((fb_aw cI zac 4096 (z.2.1)) ++ ((fb_aw cI zab 4096 (z.2.2.1)) ++ ((fb_aw cI zao 4096 (z.2.2.2)) ++ (fb_mw cI zq zs zw)))))) args s 0 0 A) (F0 m 149 ls []) := by
  obtain ⟨hx, hb, hr, hml, hown, hts, hlk, hA, hK, hF⟩ := id X
  refine lv_iload_n hx hb dX6_goFrom_149 rfl (lv_at hl 2 rfl) ?_
  refine lv_iconst (v := (5 : Int32)) hx hb dX6_goFrom_150 (by decide) ?_
  refine lv_icmp_ne (tgt := 164) hx hb dX6_goFrom_151 (by decide) (fun c36 => ?_) (fun c36 => ?_)
  · have E37 := (E.trans (if_neg c36))
    subst E37
    exact fb_retV (u := ()) X I trivial dX6_goFrom_164
  · have E38 := (E.trans (if_pos c36))
    refine lv_aload_n hx hb dX6_goFrom_154 rfl (lv_at hl 0 rfl) ?_
    refine lv_aload_n hx hb dX6_goFrom_155 rfl (lv_at hl 1 rfl) ?_
    refine lv_bipush (v := (6 : Int32)) hx hb dX6_goFrom_156 (by decide) ?_
    refine fb_roI X I (fb_runV (As := [.int (6 : Int32)]) (rest := [.ref zre]) (q0 := 4) X I hl (c_X2_vector l D cI cJ zq zs zw (6 : Int32) _) (fb_goodV fw_1524 fw_681 fw_682 fw_198 fw_683) rfl rfl rfl (by decide +kernel : fb_hd yX2_vector 1) ⟨Nat.le_of_ble_eq_true rfl, Nat.le_of_ble_eq_true rfl⟩ [4, 5, 6, 7, 8, 9, 10, 11] (by decide) rfl rfl rfl rfl rfl rfl (Nat.le_of_ble_eq_true rfl) ⟨Nat.zero_le _, Nat.zero_le _⟩ dX6_goFrom_158) ?_
    refine fb_goV (wn := fun (w39 : Unit) => (fb_o6 zre zac zab zao ((f_X6_comeTo ze6 zc zop (f_X2_vector zs (6 : Int32))).1)) ++ ((fb_aw cI zac 4096 ((f_X6_comeTo ze6 zc zop (f_X2_vector zs (6 : Int32))).2.1)) ++ ((fb_aw cI zab 4096 zbg) ++ ((fb_aw cI zao 4096 ((f_X6_comeTo ze6 zc zop (f_X2_vector zs (6 : Int32))).2.2)) ++ (fb_mw cI zq zs zw))))) X I (fb_runV (As := [.int (f_X2_vector zs (6 : Int32))]) (rest := []) (q0 := 0) X I hl (c_X6_comeTo l D cI cJ zre zac zab zao ze6 zc zop (f_X2_vector zs (6 : Int32)) _) (fb_goodV fw_1518 fw_1520 fw_81 fw_202 fw_1521) rfl rfl rfl (by decide +kernel : fb_hd yX6_comeTo 1) ⟨Nat.le_of_ble_eq_true rfl, Nat.le_of_ble_eq_true rfl⟩ [0, 1, 3] (by decide) rfl rfl rfl rfl rfl rfl (Nat.le_of_ble_eq_true rfl) ⟨Nat.zero_le _, Nat.zero_le _⟩ dX6_goFrom_161) [0, 1, 3] [2, 4, 5, 6, 7, 8, 9, 10, 11] [9, 10, 0, 11, 1, 2, 3, 4, 5, 6, 7, 8] rfl rfl (by decide) (by decide) (by decide) (fun _ => rfl) ?_
    intro w39 H locs _ I
    subst E38
    exact fb_retV (u := ()) X I trivial dX6_goFrom_164
set_option maxHeartbeats 4000000 in
set_option maxRecDepth 100000 in
theorem b_X6_goFrom_136 {p : Program} {l : Launch} {e : Env} {s : State} {m : MethodId} {args : Array Value} {below : List Frame} {meth : Method} {c : Code} {D : va_G} {cI cJ : ClassId} {A : Nat → Prop} {zre : Nat} {zac : Nat} {zab : Nat} {zao : Nat} {zq : Nat → Nat} {z : fb_AR × fb_AR × fb_AR × fb_AR} (X : fb_Bx p s m args meth c cX6_goFrom RX6 8 none D (fb_ty D cI cJ) A) {ze6 : fb_AR} {zc : fb_AR} {zbg : fb_AR} {zop : fb_AR} {zs : fb_MS} {zw : fb_AR} {l2 : Int32} {l3 : Int32} {H : Heap} {locs : List Loc} {ls : Array Slot}  (I : fb_In D A s.heap ((fb_o6 zre zac zab zao ze6) ++ ((fb_aw cI zac 4096 zc) ++ ((fb_aw cI zab 4096 zbg) ++ ((fb_aw cI zao 4096 zop) ++ (fb_mw cI zq zs zw))))) H locs) (hl : lv_has ls 8 [(0, .ref zre), (1, .ref (zq 0)), (2, .int l2), (3, .int l3)]) (E : z = f_X6_goFrom_136 ze6 zc zbg zop zs l2 l3) : W p l e ({ frames := 4, cells := 0, slots := 0, locals := 86 } : Room) s m args below meth c H locs 0 0 (MQ below (fb_QV D A (fun (_ : Unit) => True) (fun (t : Unit) => (fb_o6 zre zac zab zao (z.1)) ++ ((fb_aw cI zac 4096 (z.2.1)) ++ ((fb_aw cI zab 4096 (z.2.2.1)) ++ ((fb_aw cI zao 4096 (z.2.2.2)) ++ (fb_mw cI zq zs zw)))))) args s 0 0 A) (F0 m 136 ls []) := by
  obtain ⟨hx, hb, hr, hml, hown, hts, hlk, hA, hK, hF⟩ := id X
  refine lv_aload_n hx hb dX6_goFrom_136 rfl (lv_at hl 0 rfl) ?_
  refine lv_aload_n hx hb dX6_goFrom_137 rfl (lv_at hl 1 rfl) ?_
  refine lv_iload_n hx hb dX6_goFrom_138 rfl (lv_at hl 2 rfl) ?_
  refine fb_roI X I (fb_runV (As := [.int l2]) (rest := [.ref zre]) (q0 := 4) X I hl (c_X2_operand l D cI cJ zq zs zw l2 _) (fb_goodV fw_1531 fw_1532 fw_1533 fw_198 fw_1534) rfl rfl rfl (by decide +kernel : fb_hd yX2_operand 1) ⟨Nat.le_of_ble_eq_true rfl, Nat.le_of_ble_eq_true rfl⟩ [4, 5, 6, 7, 8, 9, 10, 11] (by decide) rfl rfl rfl rfl rfl rfl (Nat.le_of_ble_eq_true rfl) ⟨Nat.zero_le _, Nat.zero_le _⟩ dX6_goFrom_139) ?_
  refine lv_sipush (v := (4095 : Int32)) hx hb dX6_goFrom_142 (by decide) ?_
  refine lv_iand hx hb dX6_goFrom_145 ?_
  refine fb_goV (wn := fun (w40 : Unit) => (fb_o6 zre zac zab zao ((f_X6_comeTo ze6 zc zop ((f_X2_operand zs l2) &&& (4095 : Int32))).1)) ++ ((fb_aw cI zac 4096 ((f_X6_comeTo ze6 zc zop ((f_X2_operand zs l2) &&& (4095 : Int32))).2.1)) ++ ((fb_aw cI zab 4096 zbg) ++ ((fb_aw cI zao 4096 ((f_X6_comeTo ze6 zc zop ((f_X2_operand zs l2) &&& (4095 : Int32))).2.2)) ++ (fb_mw cI zq zs zw))))) X I (fb_runV (As := [.int ((f_X2_operand zs l2) &&& (4095 : Int32))]) (rest := []) (q0 := 0) X I hl (c_X6_comeTo l D cI cJ zre zac zab zao ze6 zc zop ((f_X2_operand zs l2) &&& (4095 : Int32)) _) (fb_goodV fw_1518 fw_1520 fw_81 fw_202 fw_1521) rfl rfl rfl (by decide +kernel : fb_hd yX6_comeTo 1) ⟨Nat.le_of_ble_eq_true rfl, Nat.le_of_ble_eq_true rfl⟩ [0, 1, 3] (by decide) rfl rfl rfl rfl rfl rfl (Nat.le_of_ble_eq_true rfl) ⟨Nat.zero_le _, Nat.zero_le _⟩ dX6_goFrom_146) [0, 1, 3] [2, 4, 5, 6, 7, 8, 9, 10, 11] [9, 10, 0, 11, 1, 2, 3, 4, 5, 6, 7, 8] rfl rfl (by decide) (by decide) (by decide) (fun _ => rfl) ?_
  intro w40 H locs _ I
  exact b_X6_goFrom_149 X  (l3 := l3) I (lv_sub hl [0, 1, 3] rfl) E
set_option maxHeartbeats 4000000 in
set_option maxRecDepth 100000 in
theorem b_X6_goFrom_122 {p : Program} {l : Launch} {e : Env} {s : State} {m : MethodId} {args : Array Value} {below : List Frame} {meth : Method} {c : Code} {D : va_G} {cI cJ : ClassId} {A : Nat → Prop} {zre : Nat} {zac : Nat} {zab : Nat} {zao : Nat} {zq : Nat → Nat} {z : fb_AR × fb_AR × fb_AR × fb_AR} (X : fb_Bx p s m args meth c cX6_goFrom RX6 8 none D (fb_ty D cI cJ) A) {ze6 : fb_AR} {zc : fb_AR} {zbg : fb_AR} {zop : fb_AR} {zs : fb_MS} {zw : fb_AR} {l2 : Int32} {l3 : Int32} {k0 : Int32} {H : Heap} {locs : List Loc} {ls : Array Slot}  (I : fb_In D A s.heap ((fb_o6 zre zac zab zao ze6) ++ ((fb_aw cI zac 4096 zc) ++ ((fb_aw cI zab 4096 zbg) ++ ((fb_aw cI zao 4096 zop) ++ (fb_mw cI zq zs zw))))) H locs) (hl : lv_has ls 8 [(0, .ref zre), (1, .ref (zq 0)), (2, .int l2), (3, .int l3)]) (E : z = f_X6_goFrom_122 ze6 zc zbg zop zs l2 l3 k0) : W p l e ({ frames := 4, cells := 0, slots := 0, locals := 86 } : Room) s m args below meth c H locs 0 0 (MQ below (fb_QV D A (fun (_ : Unit) => True) (fun (t : Unit) => (fb_o6 zre zac zab zao (z.1)) ++ ((fb_aw cI zac 4096 (z.2.1)) ++ ((fb_aw cI zab 4096 (z.2.2.1)) ++ ((fb_aw cI zao 4096 (z.2.2.2)) ++ (fb_mw cI zq zs zw)))))) args s 0 0 A) (F0 m 122 ls [.int k0]) := by
  obtain ⟨hx, hb, hr, hml, hown, hts, hlk, hA, hK, hF⟩ := id X
  refine lv_istore (lv' := [(7, .int k0), (0, .ref zre), (1, .ref (zq 0)), (2, .int l2), (3, .int l3)]) hx hb dX6_goFrom_122 hl (by decide) rfl (fun ls hl => ?_)
  refine lv_iload hx hb dX6_goFrom_124 (lv_at hl 0 rfl) ?_
  refine lv_if_ne (tgt := 136) hx hb dX6_goFrom_126 (by decide) (fun c30 => ?_) (fun c30 => ?_)
  · have E31 := (E.trans (if_neg c30))
    exact b_X6_goFrom_136 X  (l2 := l2) (l3 := l3) I (lv_sub hl [1, 2, 3, 4] rfl) E31
  · have E32 := (E.trans (if_pos c30))
    refine lv_iload_n hx hb dX6_goFrom_129 rfl (lv_at hl 4 rfl) ?_
    refine lv_sipush (v := (208 : Int32)) hx hb dX6_goFrom_130 (by decide) ?_
    refine lv_icmp_lt (tgt := 149) hx hb dX6_goFrom_133 (by decide) (fun c33 => ?_) (fun c33 => ?_)
    · have E34 := (E32.trans (if_pos c33))
      exact b_X6_goFrom_149 X  (l3 := l3) I (lv_sub hl [1, 2, 4] rfl) E34
    · have E35 := (E32.trans (if_neg c33))
      exact b_X6_goFrom_136 X  (l2 := l2) (l3 := l3) I (lv_sub hl [1, 2, 3, 4] rfl) E35
set_option maxHeartbeats 4000000 in
set_option maxRecDepth 100000 in
theorem b_X6_goFrom_121 {p : Program} {l : Launch} {e : Env} {s : State} {m : MethodId} {args : Array Value} {below : List Frame} {meth : Method} {c : Code} {D : va_G} {cI cJ : ClassId} {A : Nat → Prop} {zre : Nat} {zac : Nat} {zab : Nat} {zao : Nat} {zq : Nat → Nat} {z : fb_AR × fb_AR × fb_AR × fb_AR} (X : fb_Bx p s m args meth c cX6_goFrom RX6 8 none D (fb_ty D cI cJ) A) {ze6 : fb_AR} {zc : fb_AR} {zbg : fb_AR} {zop : fb_AR} {zs : fb_MS} {zw : fb_AR} {l2 : Int32} {l3 : Int32} {H : Heap} {locs : List Loc} {ls : Array Slot}  (I : fb_In D A s.heap ((fb_o6 zre zac zab zao ze6) ++ ((fb_aw cI zac 4096 zc) ++ ((fb_aw cI zab 4096 zbg) ++ ((fb_aw cI zao 4096 zop) ++ (fb_mw cI zq zs zw))))) H locs) (hl : lv_has ls 8 [(0, .ref zre), (1, .ref (zq 0)), (2, .int l2), (3, .int l3)]) (E : z = f_X6_goFrom_121 ze6 zc zbg zop zs l2 l3) : W p l e ({ frames := 4, cells := 0, slots := 0, locals := 86 } : Room) s m args below meth c H locs 0 0 (MQ below (fb_QV D A (fun (_ : Unit) => True) (fun (t : Unit) => (fb_o6 zre zac zab zao (z.1)) ++ ((fb_aw cI zac 4096 (z.2.1)) ++ ((fb_aw cI zab 4096 (z.2.2.1)) ++ ((fb_aw cI zao 4096 (z.2.2.2)) ++ (fb_mw cI zq zs zw)))))) args s 0 0 A) (F0 m 121 ls []) := by
  obtain ⟨hx, hb, hr, hml, hown, hts, hlk, hA, hK, hF⟩ := id X
  refine lv_iconst (v := (0 : Int32)) hx hb dX6_goFrom_121 (by decide) ?_
  exact b_X6_goFrom_122 X  (l2 := l2) (l3 := l3) (k0 := (0 : Int32)) I (lv_sub hl [0, 1, 2, 3] rfl) E
set_option maxHeartbeats 4000000 in
set_option maxRecDepth 100000 in
theorem b_X6_goFrom_109 {p : Program} {l : Launch} {e : Env} {s : State} {m : MethodId} {args : Array Value} {below : List Frame} {meth : Method} {c : Code} {D : va_G} {cI cJ : ClassId} {A : Nat → Prop} {zre : Nat} {zac : Nat} {zab : Nat} {zao : Nat} {zq : Nat → Nat} {z : fb_AR × fb_AR × fb_AR × fb_AR} (X : fb_Bx p s m args meth c cX6_goFrom RX6 8 none D (fb_ty D cI cJ) A) {ze6 : fb_AR} {zc : fb_AR} {zbg : fb_AR} {zop : fb_AR} {zs : fb_MS} {zw : fb_AR} {l2 : Int32} {l3 : Int32} {H : Heap} {locs : List Loc} {ls : Array Slot}  (I : fb_In D A s.heap ((fb_o6 zre zac zab zao ze6) ++ ((fb_aw cI zac 4096 zc) ++ ((fb_aw cI zab 4096 zbg) ++ ((fb_aw cI zao 4096 zop) ++ (fb_mw cI zq zs zw))))) H locs) (hl : lv_has ls 8 [(0, .ref zre), (1, .ref (zq 0)), (2, .int l2), (3, .int l3)]) (E : z = f_X6_goFrom_109 ze6 zc zbg zop zs l2 l3) : W p l e ({ frames := 4, cells := 0, slots := 0, locals := 86 } : Room) s m args below meth c H locs 0 0 (MQ below (fb_QV D A (fun (_ : Unit) => True) (fun (t : Unit) => (fb_o6 zre zac zab zao (z.1)) ++ ((fb_aw cI zac 4096 (z.2.1)) ++ ((fb_aw cI zab 4096 (z.2.2.1)) ++ ((fb_aw cI zao 4096 (z.2.2.2)) ++ (fb_mw cI zq zs zw)))))) args s 0 0 A) (F0 m 109 ls []) := by
  obtain ⟨hx, hb, hr, hml, hown, hts, hlk, hA, hK, hF⟩ := id X
  refine lv_iload_n hx hb dX6_goFrom_109 rfl (lv_at hl 3 rfl) ?_
  refine lv_bipush (v := (7 : Int32)) hx hb dX6_goFrom_110 (by decide) ?_
  refine lv_iand hx hb dX6_goFrom_112 ?_
  refine lv_iconst (v := (3 : Int32)) hx hb dX6_goFrom_113 (by decide) ?_
  refine lv_icmp_ne (tgt := 121) hx hb dX6_goFrom_114 (by decide) (fun c41 => ?_) (fun c41 => ?_)
  · have E42 := (E.trans (if_neg c41))
    exact b_X6_goFrom_121 X  (l2 := l2) (l3 := l3) I (lv_sub hl [0, 1, 2, 3] rfl) E42
  · have E43 := (E.trans (if_pos c41))
    refine lv_iconst (v := (1 : Int32)) hx hb dX6_goFrom_117 (by decide) ?_
    refine lv_goto (tgt := 122) hx hb dX6_goFrom_118 (by decide) ?_
    exact b_X6_goFrom_122 X  (l2 := l2) (l3 := l3) (k0 := (1 : Int32)) I (lv_sub hl [0, 1, 2, 3] rfl) E43
set_option maxHeartbeats 4000000 in
set_option maxRecDepth 100000 in
theorem b_X6_goFrom_95 {p : Program} {l : Launch} {e : Env} {s : State} {m : MethodId} {args : Array Value} {below : List Frame} {meth : Method} {c : Code} {D : va_G} {cI cJ : ClassId} {A : Nat → Prop} {zre : Nat} {zac : Nat} {zab : Nat} {zao : Nat} {zq : Nat → Nat} {z : fb_AR × fb_AR × fb_AR × fb_AR} (X : fb_Bx p s m args meth c cX6_goFrom RX6 8 none D (fb_ty D cI cJ) A) {ze6 : fb_AR} {zc : fb_AR} {zbg : fb_AR} {zop : fb_AR} {zs : fb_MS} {zw : fb_AR} {l2 : Int32} {l3 : Int32} {l5 : Int32} {H : Heap} {locs : List Loc} {ls : Array Slot}  (I : fb_In D A s.heap ((fb_o6 zre zac zab zao ze6) ++ ((fb_aw cI zac 4096 zc) ++ ((fb_aw cI zab 4096 zbg) ++ ((fb_aw cI zao 4096 zop) ++ (fb_mw cI zq zs zw))))) H locs) (hl : lv_has ls 8 [(0, .ref zre), (1, .ref (zq 0)), (2, .int l2), (3, .int l3), (5, .int l5)]) (E : z = f_X6_goFrom_95 ze6 zc zbg zop zs l2 l3 l5) : W p l e ({ frames := 4, cells := 0, slots := 0, locals := 86 } : Room) s m args below meth c H locs 0 0 (MQ below (fb_QV D A (fun (_ : Unit) => True) (fun (t : Unit) => (fb_o6 zre zac zab zao (z.1)) ++ ((fb_aw cI zac 4096 (z.2.1)) ++ ((fb_aw cI zab 4096 (z.2.2.1)) ++ ((fb_aw cI zao 4096 (z.2.2.2)) ++ (fb_mw cI zq zs zw)))))) args s 0 0 A) (F0 m 95 ls []) := by
  obtain ⟨hx, hb, hr, hml, hown, hts, hlk, hA, hK, hF⟩ := id X
  refine lv_iload hx hb dX6_goFrom_95 (lv_at hl 4 rfl) ?_
  refine lv_bipush (v := (24 : Int32)) hx hb dX6_goFrom_97 (by decide) ?_
  refine lv_icmp_eq (tgt := 109) hx hb dX6_goFrom_99 (by decide) (fun c24 => ?_) (fun c24 => ?_)
  · have E25 := (E.trans (if_pos c24))
    exact b_X6_goFrom_109 X  (l2 := l2) (l3 := l3) I (lv_sub hl [0, 1, 2, 3] rfl) E25
  · have E26 := (E.trans (if_neg c24))
    refine lv_iload hx hb dX6_goFrom_102 (lv_at hl 4 rfl) ?_
    refine lv_bipush (v := (25 : Int32)) hx hb dX6_goFrom_104 (by decide) ?_
    refine lv_icmp_ne (tgt := 121) hx hb dX6_goFrom_106 (by decide) (fun c27 => ?_) (fun c27 => ?_)
    · have E28 := (E26.trans (if_neg c27))
      exact b_X6_goFrom_121 X  (l2 := l2) (l3 := l3) I (lv_sub hl [0, 1, 2, 3] rfl) E28
    · have E29 := (E26.trans (if_pos c27))
      exact b_X6_goFrom_109 X  (l2 := l2) (l3 := l3) I (lv_sub hl [0, 1, 2, 3] rfl) E29
set_option maxHeartbeats 4000000 in
set_option maxRecDepth 100000 in
theorem b_X6_goFrom_76 {p : Program} {l : Launch} {e : Env} {s : State} {m : MethodId} {args : Array Value} {below : List Frame} {meth : Method} {c : Code} {D : va_G} {cI cJ : ClassId} {A : Nat → Prop} {zre : Nat} {zac : Nat} {zab : Nat} {zao : Nat} {zq : Nat → Nat} {z : fb_AR × fb_AR × fb_AR × fb_AR} (X : fb_Bx p s m args meth c cX6_goFrom RX6 8 none D (fb_ty D cI cJ) A) {ze6 : fb_AR} {zc : fb_AR} {zbg : fb_AR} {zop : fb_AR} {zs : fb_MS} {zw : fb_AR} {l2 : Int32} {l3 : Int32} {l4 : Int32} {l5 : Int32} {k0 : Int32} {H : Heap} {locs : List Loc} {ls : Array Slot}  (I : fb_In D A s.heap ((fb_o6 zre zac zab zao ze6) ++ ((fb_aw cI zac 4096 zc) ++ ((fb_aw cI zab 4096 zbg) ++ ((fb_aw cI zao 4096 zop) ++ (fb_mw cI zq zs zw))))) H locs) (hl : lv_has ls 8 [(0, .ref zre), (1, .ref (zq 0)), (2, .int l2), (3, .int l3), (4, .int l4), (5, .int l5)]) (E : z = f_X6_goFrom_76 ze6 zc zbg zop zs l2 l3 l4 l5 k0) : W p l e ({ frames := 4, cells := 0, slots := 0, locals := 86 } : Room) s m args below meth c H locs 0 0 (MQ below (fb_QV D A (fun (_ : Unit) => True) (fun (t : Unit) => (fb_o6 zre zac zab zao (z.1)) ++ ((fb_aw cI zac 4096 (z.2.1)) ++ ((fb_aw cI zab 4096 (z.2.2.1)) ++ ((fb_aw cI zao 4096 (z.2.2.2)) ++ (fb_mw cI zq zs zw)))))) args s 0 0 A) (F0 m 76 ls [.int k0]) := by
  obtain ⟨hx, hb, hr, hml, hown, hts, hlk, hA, hK, hF⟩ := id X
  refine lv_istore (lv' := [(6, .int k0), (0, .ref zre), (1, .ref (zq 0)), (2, .int l2), (3, .int l3), (4, .int l4), (5, .int l5)]) hx hb dX6_goFrom_76 hl (by decide) rfl (fun ls hl => ?_)
  refine lv_iload hx hb dX6_goFrom_78 (lv_at hl 0 rfl) ?_
  refine lv_if_ne (tgt := 95) hx hb dX6_goFrom_80 (by decide) (fun c20 => ?_) (fun c20 => ?_)
  · have E21 := (E.trans (if_neg c20))
    exact b_X6_goFrom_95 X  (l2 := l2) (l3 := l3) (l5 := l5) I (lv_sub hl [1, 2, 3, 4, 6] rfl) E21
  · have E22 := (E.trans (if_pos c20))
    refine lv_aload_n hx hb dX6_goFrom_83 rfl (lv_at hl 1 rfl) ?_
    refine lv_iload_n hx hb dX6_goFrom_84 rfl (lv_at hl 3 rfl) ?_
    refine lv_iload hx hb dX6_goFrom_85 (lv_at hl 5 rfl) ?_
    refine lv_iadd hx hb dX6_goFrom_87 ?_
    refine lv_sipush (v := (4095 : Int32)) hx hb dX6_goFrom_88 (by decide) ?_
    refine lv_iand hx hb dX6_goFrom_91 ?_
    refine fb_goV (wn := fun (w23 : Unit) => (fb_o6 zre zac zab zao ((f_X6_comeTo ze6 zc zop ((l2 + l4) &&& (4095 : Int32))).1)) ++ ((fb_aw cI zac 4096 ((f_X6_comeTo ze6 zc zop ((l2 + l4) &&& (4095 : Int32))).2.1)) ++ ((fb_aw cI zab 4096 zbg) ++ ((fb_aw cI zao 4096 ((f_X6_comeTo ze6 zc zop ((l2 + l4) &&& (4095 : Int32))).2.2)) ++ (fb_mw cI zq zs zw))))) X I (fb_runV (As := [.int ((l2 + l4) &&& (4095 : Int32))]) (rest := []) (q0 := 0) X I hl (c_X6_comeTo l D cI cJ zre zac zab zao ze6 zc zop ((l2 + l4) &&& (4095 : Int32)) _) (fb_goodV fw_1518 fw_1520 fw_81 fw_202 fw_1521) rfl rfl rfl (by decide +kernel : fb_hd yX6_comeTo 1) ⟨Nat.le_of_ble_eq_true rfl, Nat.le_of_ble_eq_true rfl⟩ [0, 1, 3] (by decide) rfl rfl rfl rfl rfl rfl (Nat.le_of_ble_eq_true rfl) ⟨Nat.zero_le _, Nat.zero_le _⟩ dX6_goFrom_92) [0, 1, 3] [2, 4, 5, 6, 7, 8, 9, 10, 11] [9, 10, 0, 11, 1, 2, 3, 4, 5, 6, 7, 8] rfl rfl (by decide) (by decide) (by decide) (fun _ => rfl) ?_
    intro w23 H locs _ I
    exact b_X6_goFrom_95 X  (l2 := l2) (l3 := l3) (l5 := l5) I (lv_sub hl [1, 2, 3, 4, 6] rfl) E22
set_option maxHeartbeats 4000000 in
set_option maxRecDepth 100000 in
theorem b_X6_goFrom_71 {p : Program} {l : Launch} {e : Env} {s : State} {m : MethodId} {args : Array Value} {below : List Frame} {meth : Method} {c : Code} {D : va_G} {cI cJ : ClassId} {A : Nat → Prop} {zre : Nat} {zac : Nat} {zab : Nat} {zao : Nat} {zq : Nat → Nat} {z : fb_AR × fb_AR × fb_AR × fb_AR} (X : fb_Bx p s m args meth c cX6_goFrom RX6 8 none D (fb_ty D cI cJ) A) {ze6 : fb_AR} {zc : fb_AR} {zbg : fb_AR} {zop : fb_AR} {zs : fb_MS} {zw : fb_AR} {l2 : Int32} {l3 : Int32} {l4 : Int32} {l5 : Int32} {H : Heap} {locs : List Loc} {ls : Array Slot}  (I : fb_In D A s.heap ((fb_o6 zre zac zab zao ze6) ++ ((fb_aw cI zac 4096 zc) ++ ((fb_aw cI zab 4096 zbg) ++ ((fb_aw cI zao 4096 zop) ++ (fb_mw cI zq zs zw))))) H locs) (hl : lv_has ls 8 [(0, .ref zre), (1, .ref (zq 0)), (2, .int l2), (3, .int l3), (4, .int l4), (5, .int l5)]) (E : z = f_X6_goFrom_71 ze6 zc zbg zop zs l2 l3 l4 l5) : W p l e ({ frames := 4, cells := 0, slots := 0, locals := 86 } : Room) s m args below meth c H locs 0 0 (MQ below (fb_QV D A (fun (_ : Unit) => True) (fun (t : Unit) => (fb_o6 zre zac zab zao (z.1)) ++ ((fb_aw cI zac 4096 (z.2.1)) ++ ((fb_aw cI zab 4096 (z.2.2.1)) ++ ((fb_aw cI zao 4096 (z.2.2.2)) ++ (fb_mw cI zq zs zw)))))) args s 0 0 A) (F0 m 71 ls []) := by
  obtain ⟨hx, hb, hr, hml, hown, hts, hlk, hA, hK, hF⟩ := id X
  refine lv_iconst (v := (1 : Int32)) hx hb dX6_goFrom_71 (by decide) ?_
  refine lv_goto (tgt := 76) hx hb dX6_goFrom_72 (by decide) ?_
  exact b_X6_goFrom_76 X  (l2 := l2) (l3 := l3) (l4 := l4) (l5 := l5) (k0 := (1 : Int32)) I (lv_sub hl [0, 1, 2, 3, 4, 5] rfl) E
set_option maxHeartbeats 4000000 in
set_option maxRecDepth 100000 in
theorem b_X6_goFrom_0 {p : Program} {l : Launch} {e : Env} {s : State} {m : MethodId} {args : Array Value} {below : List Frame} {meth : Method} {c : Code} {D : va_G} {cI cJ : ClassId} {A : Nat → Prop} {zre : Nat} {zac : Nat} {zab : Nat} {zao : Nat} {zq : Nat → Nat} {z : fb_AR × fb_AR × fb_AR × fb_AR} (X : fb_Bx p s m args meth c cX6_goFrom RX6 8 none D (fb_ty D cI cJ) A) {ze6 : fb_AR} {zc : fb_AR} {zbg : fb_AR} {zop : fb_AR} {zs : fb_MS} {zw : fb_AR} {l2 : Int32} {H : Heap} {locs : List Loc} {ls : Array Slot}  (I : fb_In D A s.heap ((fb_o6 zre zac zab zao ze6) ++ ((fb_aw cI zac 4096 zc) ++ ((fb_aw cI zab 4096 zbg) ++ ((fb_aw cI zao 4096 zop) ++ (fb_mw cI zq zs zw))))) H locs) (hl : lv_has ls 8 [(0, .ref zre), (1, .ref (zq 0)), (2, .int l2)]) (E : z = f_X6_goFrom ze6 zc zbg zop zs l2) : W p l e ({ frames := 4, cells := 0, slots := 0, locals := 86 } : Room) s m args below meth c H locs 0 0 (MQ below (fb_QV D A (fun (_ : Unit) => True) (fun (t : Unit) => (fb_o6 zre zac zab zao (z.1)) ++ ((fb_aw cI zac 4096 (z.2.1)) ++ ((fb_aw cI zab 4096 (z.2.2.1)) ++ ((fb_aw cI zao 4096 (z.2.2.2)) ++ (fb_mw cI zq zs zw)))))) args s 0 0 A) (F0 m 0 ls []) := by
  obtain ⟨hx, hb, hr, hml, hown, hts, hlk, hA, hK, hF⟩ := id X
  refine lv_aload_n hx hb dX6_goFrom_0 rfl (lv_at hl 1 rfl) ?_
  refine lv_iload_n hx hb dX6_goFrom_1 rfl (lv_at hl 2 rfl) ?_
  refine fb_roI X I (fb_runV (As := [.int l2]) (rest := []) (q0 := 4) X I hl (c_X2_shown l D cI cJ zq zs zw l2 _) (fb_goodV fw_1529 fw_1225 fw_1226 fw_198 fw_1227) rfl rfl rfl (by decide +kernel : fb_hd yX2_shown 1) ⟨Nat.le_of_ble_eq_true rfl, Nat.le_of_ble_eq_true rfl⟩ [4, 5, 6, 7, 8, 9, 10, 11] (by decide) rfl rfl rfl rfl rfl rfl (Nat.le_of_ble_eq_true rfl) ⟨Nat.zero_le _, Nat.zero_le _⟩ dX6_goFrom_2) ?_
  refine lv_istore_n (lv' := [(3, .int (f_X2_shown zs l2)), (0, .ref zre), (1, .ref (zq 0)), (2, .int l2)]) hx hb dX6_goFrom_5 rfl hl (by decide) rfl (fun ls hl => ?_)
  refine lv_iload_n hx hb dX6_goFrom_6 rfl (lv_at hl 0 rfl) ?_
  refine fb_roI X I (fb_runSN (As := [.int (f_X2_shown zs l2)]) (rest := []) X I hl (c_X11_lengthOf l D cI cJ (f_X2_shown zs l2) _) fw_1059 rfl rfl (List.mem_of_getElem? (i := 37) rfl) fw_191 fw_1058 (by decide +kernel : fb_hd yX11_lengthOf 1) ⟨Nat.le_of_ble_eq_true rfl, Nat.le_of_ble_eq_true rfl⟩ [] (by decide) rfl rfl rfl (Nat.le_of_ble_eq_true rfl) ⟨Nat.zero_le _, Nat.zero_le _⟩ dX6_goFrom_7) ?_
  refine lv_istore (lv' := [(4, .int (f_X11_lengthOf (f_X2_shown zs l2))), (3, .int (f_X2_shown zs l2)), (0, .ref zre), (1, .ref (zq 0)), (2, .int l2)]) hx hb dX6_goFrom_10 hl (by decide) rfl (fun ls hl => ?_)
  refine lv_iload hx hb dX6_goFrom_12 (lv_at hl 0 rfl) ?_
  refine lv_if_ne (tgt := 18) hx hb dX6_goFrom_14 (by decide) (fun c1 => ?_) (fun c1 => ?_)
  · have E2 := (E.trans (if_neg c1))
    refine lv_aload_n hx hb dX6_goFrom_18 rfl (lv_at hl 2 rfl) ?_
    refine fb_get X I (k := 1) fu_X6 0 rfl rfl (Nat.le_of_ble_eq_true rfl) fw_652 rfl rfl dX6_goFrom_19 ?_
    refine lv_iload_n hx hb dX6_goFrom_22 rfl (lv_at hl 4 rfl) ?_
    refine lv_iconst (v := (1 : Int32)) hx hb dX6_goFrom_23 (by decide) ?_
    refine fb_goV (wn := fun (w4 : Unit) => (fb_o6 zre zac zab zao ze6) ++ ((fb_aw cI zac 4096 zc) ++ ((fb_aw cI zab 4096 ((f_X11_put 4096 zbg l2 (1 : Int32)))) ++ ((fb_aw cI zao 4096 zop) ++ (fb_mw cI zq zs zw))))) X I (fb_runSN (As := [.ref zab, .int l2, .int (1 : Int32)]) (rest := []) X I hl (c_X11_put l D cI cJ zab 4096 zbg l2 (1 : Int32) _ (by decide)) fw_756 rfl rfl (List.mem_of_getElem? (i := 36) rfl) fw_191 fw_755 (by decide +kernel : fb_hd yX11_put 3) ⟨Nat.le_of_ble_eq_true rfl, Nat.le_of_ble_eq_true rfl⟩ [2] (by decide) rfl rfl rfl (Nat.le_of_ble_eq_true rfl) ⟨Nat.zero_le _, Nat.zero_le _⟩ dX6_goFrom_24) [2] [0, 1, 3, 4, 5, 6, 7, 8, 9, 10, 11] [0, 1, 11, 2, 3, 4, 5, 6, 7, 8, 9, 10] rfl rfl (by decide) (by decide) (by decide) (fun _ => rfl) ?_
    intro w4 H locs _ I
    refine lv_aload_n hx hb dX6_goFrom_27 rfl (lv_at hl 2 rfl) ?_
    refine lv_dup hx hb dX6_goFrom_28 rfl ?_
    refine fb_get X I (k := 4) fu_X6 0 rfl rfl (Nat.le_of_ble_eq_true rfl) fw_656 rfl rfl dX6_goFrom_29 ?_
    refine lv_iconst (v := (1 : Int32)) hx hb dX6_goFrom_32 (by decide) ?_
    refine lv_iadd hx hb dX6_goFrom_33 ?_
    refine fb_put X I (k := 4) (wn := (fb_o6 zre zac zab zao (upd ze6 4 ((ze6 4) + (1 : Int32)))) ++ ((fb_aw cI zac 4096 zc) ++ ((fb_aw cI zab 4096 ((f_X11_put 4096 zbg l2 (1 : Int32)))) ++ ((fb_aw cI zao 4096 zop) ++ (fb_mw cI zq zs zw))))) fu_X6 tyX6 tyX6_ok nmX6 0 rfl rfl (Nat.le_of_ble_eq_true rfl) fw_656 rfl rfl rfl rfl rfl (Nat.le_of_ble_eq_true rfl) rfl dX6_goFrom_34 (fun H locs I => ?_)
    refine lv_iload_n hx hb dX6_goFrom_37 rfl (lv_at hl 1 rfl) ?_
    refine lv_iconst (v := (3 : Int32)) hx hb dX6_goFrom_38 (by decide) ?_
    refine lv_ishr hx hb dX6_goFrom_39 ?_
    refine lv_istore (lv' := [(5, .int ((f_X2_shown zs l2) >>> ((3 : Int32) &&& 31))), (4, .int (f_X11_lengthOf (f_X2_shown zs l2))), (3, .int (f_X2_shown zs l2)), (0, .ref zre), (1, .ref (zq 0)), (2, .int l2)]) hx hb dX6_goFrom_40 hl (by decide) rfl (fun ls hl => ?_)
    refine lv_iload_n hx hb dX6_goFrom_42 rfl (lv_at hl 2 rfl) ?_
    refine lv_iconst (v := (1 : Int32)) hx hb dX6_goFrom_43 (by decide) ?_
    refine lv_icmp_eq (tgt := 71) hx hb dX6_goFrom_44 (by decide) (fun c5 => ?_) (fun c5 => ?_)
    · have E6 := (E2.trans (if_pos c5))
      exact b_X6_goFrom_71 X  (l2 := l2) (l3 := (f_X2_shown zs l2)) (l4 := (f_X11_lengthOf (f_X2_shown zs l2))) (l5 := ((f_X2_shown zs l2) >>> ((3 : Int32) &&& 31))) I (lv_sub hl [3, 4, 5, 2, 1, 0] rfl) E6
    · have E7 := (E2.trans (if_neg c5))
      refine lv_iload_n hx hb dX6_goFrom_47 rfl (lv_at hl 2 rfl) ?_
      refine lv_iconst (v := (3 : Int32)) hx hb dX6_goFrom_48 (by decide) ?_
      refine lv_icmp_eq (tgt := 71) hx hb dX6_goFrom_49 (by decide) (fun c8 => ?_) (fun c8 => ?_)
      · have E9 := (E7.trans (if_pos c8))
        exact b_X6_goFrom_71 X  (l2 := l2) (l3 := (f_X2_shown zs l2)) (l4 := (f_X11_lengthOf (f_X2_shown zs l2))) (l5 := ((f_X2_shown zs l2) >>> ((3 : Int32) &&& 31))) I (lv_sub hl [3, 4, 5, 2, 1, 0] rfl) E9
      · have E10 := (E7.trans (if_neg c8))
        refine lv_iload_n hx hb dX6_goFrom_52 rfl (lv_at hl 2 rfl) ?_
        refine lv_iconst (v := (4 : Int32)) hx hb dX6_goFrom_53 (by decide) ?_
        refine lv_icmp_eq (tgt := 71) hx hb dX6_goFrom_54 (by decide) (fun c11 => ?_) (fun c11 => ?_)
        · have E12 := (E10.trans (if_pos c11))
          exact b_X6_goFrom_71 X  (l2 := l2) (l3 := (f_X2_shown zs l2)) (l4 := (f_X11_lengthOf (f_X2_shown zs l2))) (l5 := ((f_X2_shown zs l2) >>> ((3 : Int32) &&& 31))) I (lv_sub hl [3, 4, 5, 2, 1, 0] rfl) E12
        · have E13 := (E10.trans (if_neg c11))
          refine lv_iload_n hx hb dX6_goFrom_57 rfl (lv_at hl 2 rfl) ?_
          refine lv_sipush (v := (216 : Int32)) hx hb dX6_goFrom_58 (by decide) ?_
          refine lv_icmp_eq (tgt := 71) hx hb dX6_goFrom_61 (by decide) (fun c14 => ?_) (fun c14 => ?_)
          · have E15 := (E13.trans (if_pos c14))
            exact b_X6_goFrom_71 X  (l2 := l2) (l3 := (f_X2_shown zs l2)) (l4 := (f_X11_lengthOf (f_X2_shown zs l2))) (l5 := ((f_X2_shown zs l2) >>> ((3 : Int32) &&& 31))) I (lv_sub hl [3, 4, 5, 2, 1, 0] rfl) E15
          · have E16 := (E13.trans (if_neg c14))
            refine lv_iload hx hb dX6_goFrom_64 (lv_at hl 0 rfl) ?_
            refine lv_bipush (v := (24 : Int32)) hx hb dX6_goFrom_66 (by decide) ?_
            refine lv_icmp_ne (tgt := 75) hx hb dX6_goFrom_68 (by decide) (fun c17 => ?_) (fun c17 => ?_)
            · have E18 := (E16.trans (if_neg c17))
              refine lv_iconst (v := (0 : Int32)) hx hb dX6_goFrom_75 (by decide) ?_
              exact b_X6_goFrom_76 X  (l2 := l2) (l3 := (f_X2_shown zs l2)) (l4 := (f_X11_lengthOf (f_X2_shown zs l2))) (l5 := ((f_X2_shown zs l2) >>> ((3 : Int32) &&& 31))) (k0 := (0 : Int32)) I (lv_sub hl [3, 4, 5, 2, 1, 0] rfl) E18
            · have E19 := (E16.trans (if_pos c17))
              exact b_X6_goFrom_71 X  (l2 := l2) (l3 := (f_X2_shown zs l2)) (l4 := (f_X11_lengthOf (f_X2_shown zs l2))) (l5 := ((f_X2_shown zs l2) >>> ((3 : Int32) &&& 31))) I (lv_sub hl [3, 4, 5, 2, 1, 0] rfl) E19
  · have E3 := (E.trans (if_pos c1))
    subst E3
    exact fb_retV (u := ()) X I trivial dX6_goFrom_17
set_option maxHeartbeats 4000000 in
set_option maxRecDepth 100000 in
theorem c_X6_goFrom (l : Launch) (D : va_G) (cI cJ : ClassId) (zre : Nat) (zac : Nat) (zab : Nat) (zao : Nat) (ze6 : fb_AR) (zc : fb_AR) (zbg : fb_AR) (zop : fb_AR) (zq : Nat → Nat) (zs : fb_MS) (zw : fb_AR) (l2 : Int32) (sz : Nat)  : Met l yX6_goFrom (Cond.code yX6_goFrom cX6_goFrom 8 none :: fb_all) ({ frames := 4, cells := 0, slots := 0, locals := 86 } : Room) (fb_PP D (fb_ty D cI cJ) [.ref zre, .ref (zq 0), .int l2] ((fb_o6 zre zac zab zao ze6) ++ ((fb_aw cI zac 4096 zc) ++ ((fb_aw cI zab 4096 zbg) ++ ((fb_aw cI zao 4096 zop) ++ (fb_mw cI zq zs zw))))) sz) (fb_QV D (va_A ((fb_o6 zre zac zab zao ze6) ++ ((fb_aw cI zac 4096 zc) ++ ((fb_aw cI zab 4096 zbg) ++ ((fb_aw cI zao 4096 zop) ++ (fb_mw cI zq zs zw))))) sz) (fun (_ : Unit) => True) (fun (t : Unit) => (fb_o6 zre zac zab zao (((f_X6_goFrom ze6 zc zbg zop zs l2)).1)) ++ ((fb_aw cI zac 4096 (((f_X6_goFrom ze6 zc zbg zop zs l2)).2.1)) ++ ((fb_aw cI zab 4096 (((f_X6_goFrom ze6 zc zbg zop zs l2)).2.2.1)) ++ ((fb_aw cI zao 4096 (((f_X6_goFrom ze6 zc zbg zop zs l2)).2.2.2)) ++ (fb_mw cI zq zs zw)))))) 0 0 (va_A ((fb_o6 zre zac zab zao ze6) ++ ((fb_aw cI zac 4096 zc) ++ ((fb_aw cI zab 4096 zbg) ++ ((fb_aw cI zao 4096 zop) ++ (fb_mw cI zq zs zw))))) sz) := by
  refine fb_ent (Qf := fun A => (fb_QV D A (fun (_ : Unit) => True) (fun (t : Unit) => (fb_o6 zre zac zab zao (((f_X6_goFrom ze6 zc zbg zop zs l2)).1)) ++ ((fb_aw cI zac 4096 (((f_X6_goFrom ze6 zc zbg zop zs l2)).2.1)) ++ ((fb_aw cI zab 4096 (((f_X6_goFrom ze6 zc zbg zop zs l2)).2.2.1)) ++ ((fb_aw cI zao 4096 (((f_X6_goFrom ze6 zc zbg zop zs l2)).2.2.2)) ++ (fb_mw cI zq zs zw))))))) (by decide +kernel) (Nat.le_of_ble_eq_true rfl) ?_
  intro p e s m args below meth c A ls X I hl hin
  exact b_X6_goFrom_0 X  I hl rfl
end
section
/-! X6_explore -/
def f_X6_explore_59  : Nat → fb_AR → fb_AR → fb_AR → fb_AR → fb_MS → Int32 → fb_AR × fb_AR × fb_AR × fb_AR
  | 0, ze6, zc, zbg, zop, zs, _ => (ze6, zc, zbg, zop)
  | n + 1, ze6, zc, zbg, zop, zs, l2 => (if (4096 : Int32) ≤ l2 then (ze6, zc, zbg, zop) else (if (ze6 3) ≤ 0 then (ze6, zc, zbg, zop) else f_X6_explore_59 n ((f_X6_goFrom (upd ze6 3 ((ze6 3) - (1 : Int32))) zc zbg zop zs (f_X11_at 4096 zop ((upd ze6 3 ((ze6 3) - (1 : Int32))) 3))).1) ((f_X6_goFrom (upd ze6 3 ((ze6 3) - (1 : Int32))) zc zbg zop zs (f_X11_at 4096 zop ((upd ze6 3 ((ze6 3) - (1 : Int32))) 3))).2.1) ((f_X6_goFrom (upd ze6 3 ((ze6 3) - (1 : Int32))) zc zbg zop zs (f_X11_at 4096 zop ((upd ze6 3 ((ze6 3) - (1 : Int32))) 3))).2.2.1) ((f_X6_goFrom (upd ze6 3 ((ze6 3) - (1 : Int32))) zc zbg zop zs (f_X11_at 4096 zop ((upd ze6 3 ((ze6 3) - (1 : Int32))) 3))).2.2.2) zs (l2 + (1 : Int32))))
def f_X6_explore_36  : Nat → fb_AR → fb_AR → fb_AR → fb_AR → fb_MS → Int32 → fb_AR × fb_AR × fb_AR × fb_AR
  | 0, ze6, zc, zbg, zop, zs, _ => (ze6, zc, zbg, zop)
  | n + 1, ze6, zc, zbg, zop, zs, l2 => (if (8 : Int32) ≤ l2 then f_X6_explore_59 ((fb_mu (0 : Int32) (4096 : Int32)) + 1) ze6 zc zbg zop zs (0 : Int32) else f_X6_explore_36 n ((f_X6_comeTo ze6 zc zop (f_X2_vector zs l2)).1) ((f_X6_comeTo ze6 zc zop (f_X2_vector zs l2)).2.1) zbg ((f_X6_comeTo ze6 zc zop (f_X2_vector zs l2)).2.2) zs (l2 + (1 : Int32)))
def f_X6_explore (ze6 : fb_AR) (zc : fb_AR) (zbg : fb_AR) (zop : fb_AR) (zs : fb_MS) : fb_AR × fb_AR × fb_AR × fb_AR := f_X6_explore_36 ((fb_mu (0 : Int32) (8 : Int32)) + 1) ((f_X6_comeTo (fun _ => (0 : Int32)) ((f_J7_fill_53178 4096 zc (0 : Int32))) zop ((zs).1 9)).1) ((f_X6_comeTo (fun _ => (0 : Int32)) ((f_J7_fill_53178 4096 zc (0 : Int32))) zop ((zs).1 9)).2.1) ((f_J7_fill_53178 4096 zbg (0 : Int32))) ((f_X6_comeTo (fun _ => (0 : Int32)) ((f_J7_fill_53178 4096 zc (0 : Int32))) zop ((zs).1 9)).2.2) zs (0 : Int32)
set_option maxHeartbeats 4000000 in
set_option maxRecDepth 100000 in
theorem b_X6_explore_59 {p : Program} {l : Launch} {e : Env} {s : State} {m : MethodId} {args : Array Value} {below : List Frame} {meth : Method} {c : Code} {D : va_G} {cI cJ : ClassId} {A : Nat → Prop} {zre : Nat} {zac : Nat} {zab : Nat} {zao : Nat} {zq : Nat → Nat} {zs : fb_MS} {zw : fb_AR} {z : fb_AR × fb_AR × fb_AR × fb_AR} (X : fb_Bx p s m args meth c cX6_explore RX6 3 none D (fb_ty D cI cJ) A)  : ∀ (n : Nat) {ze6 : fb_AR} {zc : fb_AR} {zbg : fb_AR} {zop : fb_AR} {l2 : Int32} {H : Heap} {locs : List Loc} {ls : Array Slot} (hm : (fb_mu l2 (4096 : Int32)) < n) (I : fb_In D A s.heap ((fb_o6 zre zac zab zao ze6) ++ ((fb_aw cI zac 4096 zc) ++ ((fb_aw cI zab 4096 zbg) ++ ((fb_aw cI zao 4096 zop) ++ (fb_mw cI zq zs zw))))) H locs) (hl : lv_has ls 3 [(0, .ref zre), (1, .ref (zq 0)), (2, .int l2)]) (E : z = f_X6_explore_59 n ze6 zc zbg zop zs l2), W p l e ({ frames := 5, cells := 0, slots := 0, locals := 113 } : Room) s m args below meth c H locs 0 0 (MQ below (fb_QV D A (fun (_ : Unit) => True) (fun (t : Unit) => (fb_o6 zre zac zab zao (z.1)) ++ ((fb_aw cI zac 4096 (z.2.1)) ++ ((fb_aw cI zab 4096 (z.2.2.1)) ++ ((fb_aw cI zao 4096 (z.2.2.2)) ++ (fb_mw cI zq zs zw)))))) args s 0 0 A) (F0 m 59 ls []) := by
  intro n
  obtain ⟨hx, hb, hr, hml, hown, hts, hlk, hA, hK, hF⟩ := id X
  induction n with
  | zero =>
    intro ze6 zc zbg zop l2 H locs ls hm
    exact absurd hm (Nat.not_lt_zero _)
  | succ n ih =>
    intro ze6 zc zbg zop l2 H locs ls hm I hl E
    refine lv_iload_n hx hb dX6_explore_59 rfl (lv_at hl 2 rfl) ?_
    refine lv_sipush (v := (4096 : Int32)) hx hb dX6_explore_60 (by decide) ?_
    refine lv_icmp_ge (tgt := 105) hx hb dX6_explore_63 (by decide) (fun c8 => ?_) (fun c8 => ?_)
    · have E9 := (E.trans (if_pos c8))
      subst E9
      exact fb_retV (u := ()) X I trivial dX6_explore_105
    · have E10 := (E.trans (if_neg c8))
      refine lv_aload_n hx hb dX6_explore_66 rfl (lv_at hl 0 rfl) ?_
      refine fb_get X I (k := 3) fu_X6 0 rfl rfl (Nat.le_of_ble_eq_true rfl) fw_655 rfl rfl dX6_explore_67 ?_
      refine lv_if_le (tgt := 105) hx hb dX6_explore_70 (by decide) (fun c11 => ?_) (fun c11 => ?_)
      · have E12 := (E10.trans (if_pos c11))
        subst E12
        exact fb_retV (u := ()) X I trivial dX6_explore_105
      · have E13 := (E10.trans (if_neg c11))
        refine lv_aload_n hx hb dX6_explore_73 rfl (lv_at hl 0 rfl) ?_
        refine lv_dup hx hb dX6_explore_74 rfl ?_
        refine fb_get X I (k := 3) fu_X6 0 rfl rfl (Nat.le_of_ble_eq_true rfl) fw_655 rfl rfl dX6_explore_75 ?_
        refine lv_iconst (v := (1 : Int32)) hx hb dX6_explore_78 (by decide) ?_
        refine lv_isub hx hb dX6_explore_79 ?_
        refine fb_put X I (k := 3) (wn := (fb_o6 zre zac zab zao (upd ze6 3 ((ze6 3) - (1 : Int32)))) ++ ((fb_aw cI zac 4096 zc) ++ ((fb_aw cI zab 4096 zbg) ++ ((fb_aw cI zao 4096 zop) ++ (fb_mw cI zq zs zw))))) fu_X6 tyX6 tyX6_ok nmX6 0 rfl rfl (Nat.le_of_ble_eq_true rfl) fw_655 rfl rfl rfl rfl rfl (Nat.le_of_ble_eq_true rfl) rfl dX6_explore_80 (fun H locs I => ?_)
        refine lv_aload_n hx hb dX6_explore_83 rfl (lv_at hl 0 rfl) ?_
        refine lv_aload_n hx hb dX6_explore_84 rfl (lv_at hl 1 rfl) ?_
        refine lv_aload_n hx hb dX6_explore_85 rfl (lv_at hl 0 rfl) ?_
        refine fb_get X I (k := 2) fu_X6 0 rfl rfl (Nat.le_of_ble_eq_true rfl) fw_654 rfl rfl dX6_explore_86 ?_
        refine lv_aload_n hx hb dX6_explore_89 rfl (lv_at hl 0 rfl) ?_
        refine fb_get X I (k := 3) fu_X6 0 rfl rfl (Nat.le_of_ble_eq_true rfl) fw_655 rfl rfl dX6_explore_90 ?_
        refine fb_roI X I (fb_runSN (As := [.ref zao, .int ((upd ze6 3 ((ze6 3) - (1 : Int32))) 3)]) (rest := [.ref (zq 0), .ref zre]) X I hl (c_X11_at l D cI cJ zao 4096 zop ((upd ze6 3 ((ze6 3) - (1 : Int32))) 3) _ (by decide)) fw_686 rfl rfl (List.mem_of_getElem? (i := 35) rfl) fw_191 fw_685 (by decide +kernel : fb_hd yX11_at 2) ⟨Nat.le_of_ble_eq_true rfl, Nat.le_of_ble_eq_true rfl⟩ [3] (by decide) rfl rfl rfl (Nat.le_of_ble_eq_true rfl) ⟨Nat.zero_le _, Nat.zero_le _⟩ dX6_explore_93) ?_
        refine fb_goV (wn := fun (w14 : Unit) => (fb_o6 zre zac zab zao ((f_X6_goFrom (upd ze6 3 ((ze6 3) - (1 : Int32))) zc zbg zop zs (f_X11_at 4096 zop ((upd ze6 3 ((ze6 3) - (1 : Int32))) 3))).1)) ++ ((fb_aw cI zac 4096 ((f_X6_goFrom (upd ze6 3 ((ze6 3) - (1 : Int32))) zc zbg zop zs (f_X11_at 4096 zop ((upd ze6 3 ((ze6 3) - (1 : Int32))) 3))).2.1)) ++ ((fb_aw cI zab 4096 ((f_X6_goFrom (upd ze6 3 ((ze6 3) - (1 : Int32))) zc zbg zop zs (f_X11_at 4096 zop ((upd ze6 3 ((ze6 3) - (1 : Int32))) 3))).2.2.1)) ++ ((fb_aw cI zao 4096 ((f_X6_goFrom (upd ze6 3 ((ze6 3) - (1 : Int32))) zc zbg zop zs (f_X11_at 4096 zop ((upd ze6 3 ((ze6 3) - (1 : Int32))) 3))).2.2.2)) ++ (fb_mw cI zq zs zw))))) X I (fb_runV (As := [.ref (zq 0), .int (f_X11_at 4096 zop ((upd ze6 3 ((ze6 3) - (1 : Int32))) 3))]) (rest := []) (q0 := 0) X I hl (c_X6_goFrom l D cI cJ zre zac zab zao (upd ze6 3 ((ze6 3) - (1 : Int32))) zc zbg zop zq zs zw (f_X11_at 4096 zop ((upd ze6 3 ((ze6 3) - (1 : Int32))) 3)) _) (fb_goodV fw_1525 fw_1527 fw_82 fw_202 fw_1528) rfl rfl rfl (by decide +kernel : fb_hd yX6_goFrom 2) ⟨Nat.le_of_ble_eq_true rfl, Nat.le_of_ble_eq_true rfl⟩ [0, 1, 2, 3, 4, 5, 6, 7, 8, 9, 10, 11] (by decide) rfl rfl rfl rfl rfl rfl (Nat.le_of_ble_eq_true rfl) ⟨Nat.zero_le _, Nat.zero_le _⟩ dX6_explore_96) [0, 1, 2, 3, 4, 5, 6, 7, 8, 9, 10, 11] [] [0, 1, 2, 3, 4, 5, 6, 7, 8, 9, 10, 11] rfl rfl (by decide) (by decide) (by decide) (fun _ => rfl) ?_
        intro w14 H locs _ I
        refine lv_iinc (v := (l2 + (1 : Int32))) (lv' := [(2, .int (l2 + (1 : Int32))), (0, .ref zre), (1, .ref (zq 0))]) hx hb dX6_explore_99 hl (k := 2) rfl rfl (by decide) rfl (fun ls hl => ?_)
        refine lv_goto (tgt := 59) hx hb dX6_explore_102 (by decide) ?_
        exact ih (l2 := (l2 + (1 : Int32))) (fb_mu_ge c8 hm)  I (lv_sub hl [1, 2, 0] rfl) E13
set_option maxHeartbeats 4000000 in
set_option maxRecDepth 100000 in
theorem b_X6_explore_36 {p : Program} {l : Launch} {e : Env} {s : State} {m : MethodId} {args : Array Value} {below : List Frame} {meth : Method} {c : Code} {D : va_G} {cI cJ : ClassId} {A : Nat → Prop} {zre : Nat} {zac : Nat} {zab : Nat} {zao : Nat} {zq : Nat → Nat} {zs : fb_MS} {zw : fb_AR} {z : fb_AR × fb_AR × fb_AR × fb_AR} (X : fb_Bx p s m args meth c cX6_explore RX6 3 none D (fb_ty D cI cJ) A)  : ∀ (n : Nat) {ze6 : fb_AR} {zc : fb_AR} {zbg : fb_AR} {zop : fb_AR} {l2 : Int32} {H : Heap} {locs : List Loc} {ls : Array Slot} (hm : (fb_mu l2 (8 : Int32)) < n) (I : fb_In D A s.heap ((fb_o6 zre zac zab zao ze6) ++ ((fb_aw cI zac 4096 zc) ++ ((fb_aw cI zab 4096 zbg) ++ ((fb_aw cI zao 4096 zop) ++ (fb_mw cI zq zs zw))))) H locs) (hl : lv_has ls 3 [(0, .ref zre), (1, .ref (zq 0)), (2, .int l2)]) (E : z = f_X6_explore_36 n ze6 zc zbg zop zs l2), W p l e ({ frames := 5, cells := 0, slots := 0, locals := 113 } : Room) s m args below meth c H locs 0 0 (MQ below (fb_QV D A (fun (_ : Unit) => True) (fun (t : Unit) => (fb_o6 zre zac zab zao (z.1)) ++ ((fb_aw cI zac 4096 (z.2.1)) ++ ((fb_aw cI zab 4096 (z.2.2.1)) ++ ((fb_aw cI zao 4096 (z.2.2.2)) ++ (fb_mw cI zq zs zw)))))) args s 0 0 A) (F0 m 36 ls []) := by
  intro n
  obtain ⟨hx, hb, hr, hml, hown, hts, hlk, hA, hK, hF⟩ := id X
  induction n with
  | zero =>
    intro ze6 zc zbg zop l2 H locs ls hm
    exact absurd hm (Nat.not_lt_zero _)
  | succ n ih =>
    intro ze6 zc zbg zop l2 H locs ls hm I hl E
    refine lv_iload_n hx hb dX6_explore_36 rfl (lv_at hl 2 rfl) ?_
    refine lv_bipush (v := (8 : Int32)) hx hb dX6_explore_37 (by decide) ?_
    refine lv_icmp_ge (tgt := 57) hx hb dX6_explore_39 (by decide) (fun c4 => ?_) (fun c4 => ?_)
    · have E5 := (E.trans (if_pos c4))
      refine lv_iconst (v := (0 : Int32)) hx hb dX6_explore_57 (by decide) ?_
      refine lv_istore_n (lv' := [(2, .int (0 : Int32)), (0, .ref zre), (1, .ref (zq 0))]) hx hb dX6_explore_58 rfl hl (by decide) rfl (fun ls hl => ?_)
      exact b_X6_explore_59 X  ((fb_mu (0 : Int32) (4096 : Int32)) + 1) (l2 := (0 : Int32)) (Nat.lt_succ_self _)  I (lv_sub hl [1, 2, 0] rfl) E5
    · have E6 := (E.trans (if_neg c4))
      refine lv_aload_n hx hb dX6_explore_42 rfl (lv_at hl 0 rfl) ?_
      refine lv_aload_n hx hb dX6_explore_43 rfl (lv_at hl 1 rfl) ?_
      refine lv_iload_n hx hb dX6_explore_44 rfl (lv_at hl 2 rfl) ?_
      refine fb_roI X I (fb_runV (As := [.int l2]) (rest := [.ref zre]) (q0 := 4) X I hl (c_X2_vector l D cI cJ zq zs zw l2 _) (fb_goodV fw_1524 fw_681 fw_682 fw_198 fw_683) rfl rfl rfl (by decide +kernel : fb_hd yX2_vector 1) ⟨Nat.le_of_ble_eq_true rfl, Nat.le_of_ble_eq_true rfl⟩ [4, 5, 6, 7, 8, 9, 10, 11] (by decide) rfl rfl rfl rfl rfl rfl (Nat.le_of_ble_eq_true rfl) ⟨Nat.zero_le _, Nat.zero_le _⟩ dX6_explore_45) ?_
      refine fb_goV (wn := fun (w7 : Unit) => (fb_o6 zre zac zab zao ((f_X6_comeTo ze6 zc zop (f_X2_vector zs l2)).1)) ++ ((fb_aw cI zac 4096 ((f_X6_comeTo ze6 zc zop (f_X2_vector zs l2)).2.1)) ++ ((fb_aw cI zab 4096 zbg) ++ ((fb_aw cI zao 4096 ((f_X6_comeTo ze6 zc zop (f_X2_vector zs l2)).2.2)) ++ (fb_mw cI zq zs zw))))) X I (fb_runV (As := [.int (f_X2_vector zs l2)]) (rest := []) (q0 := 0) X I hl (c_X6_comeTo l D cI cJ zre zac zab zao ze6 zc zop (f_X2_vector zs l2) _) (fb_goodV fw_1518 fw_1520 fw_81 fw_202 fw_1521) rfl rfl rfl (by decide +kernel : fb_hd yX6_comeTo 1) ⟨Nat.le_of_ble_eq_true rfl, Nat.le_of_ble_eq_true rfl⟩ [0, 1, 3] (by decide) rfl rfl rfl rfl rfl rfl (Nat.le_of_ble_eq_true rfl) ⟨Nat.zero_le _, Nat.zero_le _⟩ dX6_explore_48) [0, 1, 3] [2, 4, 5, 6, 7, 8, 9, 10, 11] [9, 10, 0, 11, 1, 2, 3, 4, 5, 6, 7, 8] rfl rfl (by decide) (by decide) (by decide) (fun _ => rfl) ?_
      intro w7 H locs _ I
      refine lv_iinc (v := (l2 + (1 : Int32))) (lv' := [(2, .int (l2 + (1 : Int32))), (0, .ref zre), (1, .ref (zq 0))]) hx hb dX6_explore_51 hl (k := 2) rfl rfl (by decide) rfl (fun ls hl => ?_)
      refine lv_goto (tgt := 36) hx hb dX6_explore_54 (by decide) ?_
      exact ih (l2 := (l2 + (1 : Int32))) (fb_mu_ge c4 hm)  I (lv_sub hl [1, 2, 0] rfl) E6
set_option maxHeartbeats 4000000 in
set_option maxRecDepth 100000 in
theorem b_X6_explore_0 {p : Program} {l : Launch} {e : Env} {s : State} {m : MethodId} {args : Array Value} {below : List Frame} {meth : Method} {c : Code} {D : va_G} {cI cJ : ClassId} {A : Nat → Prop} {zre : Nat} {zac : Nat} {zab : Nat} {zao : Nat} {zq : Nat → Nat} {zs : fb_MS} {zw : fb_AR} {z : fb_AR × fb_AR × fb_AR × fb_AR} (X : fb_Bx p s m args meth c cX6_explore RX6 3 none D (fb_ty D cI cJ) A) {ze6 : fb_AR} {zc : fb_AR} {zbg : fb_AR} {zop : fb_AR} {H : Heap} {locs : List Loc} {ls : Array Slot}  (I : fb_In D A s.heap ((fb_o6 zre zac zab zao ze6) ++ ((fb_aw cI zac 4096 zc) ++ ((fb_aw cI zab 4096 zbg) ++ ((fb_aw cI zao 4096 zop) ++ (fb_mw cI zq zs zw))))) H locs) (hl : lv_has ls 3 [(0, .ref zre), (1, .ref (zq 0))]) (E : z = f_X6_explore ze6 zc zbg zop zs) : W p l e ({ frames := 5, cells := 0, slots := 0, locals := 113 } : Room) s m args below meth c H locs 0 0 (MQ below (fb_QV D A (fun (_ : Unit) => True) (fun (t : Unit) => (fb_o6 zre zac zab zao (z.1)) ++ ((fb_aw cI zac 4096 (z.2.1)) ++ ((fb_aw cI zab 4096 (z.2.2.1)) ++ ((fb_aw cI zao 4096 (z.2.2.2)) ++ (fb_mw cI zq zs zw)))))) args s 0 0 A) (F0 m 0 ls []) := by
  obtain ⟨hx, hb, hr, hml, hown, hts, hlk, hA, hK, hF⟩ := id X
  refine lv_aload_n hx hb dX6_explore_0 rfl (lv_at hl 0 rfl) ?_
  refine fb_get X I (k := 0) fu_X6 0 rfl rfl (Nat.le_of_ble_eq_true rfl) fw_651 rfl rfl dX6_explore_1 ?_
  refine lv_iconst (v := (0 : Int32)) hx hb dX6_explore_4 (by decide) ?_
  refine fb_goV (wn := fun (w1 : Unit) => (fb_o6 zre zac zab zao ze6) ++ ((fb_aw cI zac 4096 ((f_J7_fill_53178 4096 zc (0 : Int32)))) ++ ((fb_aw cI zab 4096 zbg) ++ ((fb_aw cI zao 4096 zop) ++ (fb_mw cI zq zs zw))))) X I (fb_runS (As := [.ref zac, .int (0 : Int32)]) (rest := []) X I hl (c_J7_fill_53178 l D cI cJ zac 4096 zc (0 : Int32) _ (by decide)) (fb_goodS fw_1517 fw_674 fw_203 fw_675) rfl rfl (by decide +kernel : fb_hd yJ7_fill_53178 2) ⟨Nat.le_of_ble_eq_true rfl, Nat.le_of_ble_eq_true rfl⟩ [1] (by decide) rfl rfl rfl (Nat.le_of_ble_eq_true rfl) ⟨Nat.zero_le _, Nat.zero_le _⟩ dX6_explore_5) [1] [0, 2, 3, 4, 5, 6, 7, 8, 9, 10, 11] [0, 11, 1, 2, 3, 4, 5, 6, 7, 8, 9, 10] rfl rfl (by decide) (by decide) (by decide) (fun _ => rfl) ?_
  intro w1 H locs _ I
  refine lv_aload_n hx hb dX6_explore_8 rfl (lv_at hl 0 rfl) ?_
  refine fb_get X I (k := 1) fu_X6 0 rfl rfl (Nat.le_of_ble_eq_true rfl) fw_652 rfl rfl dX6_explore_9 ?_
  refine lv_iconst (v := (0 : Int32)) hx hb dX6_explore_12 (by decide) ?_
  refine fb_goV (wn := fun (w2 : Unit) => (fb_o6 zre zac zab zao ze6) ++ ((fb_aw cI zac 4096 ((f_J7_fill_53178 4096 zc (0 : Int32)))) ++ ((fb_aw cI zab 4096 ((f_J7_fill_53178 4096 zbg (0 : Int32)))) ++ ((fb_aw cI zao 4096 zop) ++ (fb_mw cI zq zs zw))))) X I (fb_runS (As := [.ref zab, .int (0 : Int32)]) (rest := []) X I hl (c_J7_fill_53178 l D cI cJ zab 4096 zbg (0 : Int32) _ (by decide)) (fb_goodS fw_1517 fw_674 fw_203 fw_675) rfl rfl (by decide +kernel : fb_hd yJ7_fill_53178 2) ⟨Nat.le_of_ble_eq_true rfl, Nat.le_of_ble_eq_true rfl⟩ [2] (by decide) rfl rfl rfl (Nat.le_of_ble_eq_true rfl) ⟨Nat.zero_le _, Nat.zero_le _⟩ dX6_explore_13) [2] [0, 1, 3, 4, 5, 6, 7, 8, 9, 10, 11] [0, 1, 11, 2, 3, 4, 5, 6, 7, 8, 9, 10] rfl rfl (by decide) (by decide) (by decide) (fun _ => rfl) ?_
  intro w2 H locs _ I
  refine lv_aload_n hx hb dX6_explore_16 rfl (lv_at hl 0 rfl) ?_
  refine lv_iconst (v := (0 : Int32)) hx hb dX6_explore_17 (by decide) ?_
  refine fb_put X I (k := 3) (wn := (fb_o6 zre zac zab zao (upd ze6 3 (0 : Int32))) ++ ((fb_aw cI zac 4096 ((f_J7_fill_53178 4096 zc (0 : Int32)))) ++ ((fb_aw cI zab 4096 ((f_J7_fill_53178 4096 zbg (0 : Int32)))) ++ ((fb_aw cI zao 4096 zop) ++ (fb_mw cI zq zs zw))))) fu_X6 tyX6 tyX6_ok nmX6 0 rfl rfl (Nat.le_of_ble_eq_true rfl) fw_655 rfl rfl rfl rfl rfl (Nat.le_of_ble_eq_true rfl) rfl dX6_explore_18 (fun H locs I => ?_)
  refine lv_aload_n hx hb dX6_explore_21 rfl (lv_at hl 0 rfl) ?_
  refine lv_iconst (v := (0 : Int32)) hx hb dX6_explore_22 (by decide) ?_
  refine fb_put X I (k := 4) (wn := (fb_o6 zre zac zab zao (upd (upd ze6 3 (0 : Int32)) 4 (0 : Int32))) ++ ((fb_aw cI zac 4096 ((f_J7_fill_53178 4096 zc (0 : Int32)))) ++ ((fb_aw cI zab 4096 ((f_J7_fill_53178 4096 zbg (0 : Int32)))) ++ ((fb_aw cI zao 4096 zop) ++ (fb_mw cI zq zs zw))))) fu_X6 tyX6 tyX6_ok nmX6 0 rfl rfl (Nat.le_of_ble_eq_true rfl) fw_656 rfl rfl rfl rfl rfl (Nat.le_of_ble_eq_true rfl) rfl dX6_explore_23 (fun H locs I => ?_)
  have I : fb_In D A s.heap ((fb_o6 zre zac zab zao (fun _ => (0 : Int32))) ++ ((fb_aw cI zac 4096 ((f_J7_fill_53178 4096 zc (0 : Int32)))) ++ ((fb_aw cI zab 4096 ((f_J7_fill_53178 4096 zbg (0 : Int32)))) ++ ((fb_aw cI zao 4096 zop) ++ (fb_mw cI zq zs zw))))) H locs := I
  refine lv_aload_n hx hb dX6_explore_26 rfl (lv_at hl 0 rfl) ?_
  refine lv_aload_n hx hb dX6_explore_27 rfl (lv_at hl 1 rfl) ?_
  refine fb_get X I (k := 9) fu_X2 4 rfl rfl (Nat.le_of_ble_eq_true rfl) fw_532 rfl rfl dX6_explore_28 ?_
  refine fb_goV (wn := fun (w3 : Unit) => (fb_o6 zre zac zab zao ((f_X6_comeTo (fun _ => (0 : Int32)) ((f_J7_fill_53178 4096 zc (0 : Int32))) zop ((zs).1 9)).1)) ++ ((fb_aw cI zac 4096 ((f_X6_comeTo (fun _ => (0 : Int32)) ((f_J7_fill_53178 4096 zc (0 : Int32))) zop ((zs).1 9)).2.1)) ++ ((fb_aw cI zab 4096 ((f_J7_fill_53178 4096 zbg (0 : Int32)))) ++ ((fb_aw cI zao 4096 ((f_X6_comeTo (fun _ => (0 : Int32)) ((f_J7_fill_53178 4096 zc (0 : Int32))) zop ((zs).1 9)).2.2)) ++ (fb_mw cI zq zs zw))))) X I (fb_runV (As := [.int ((zs).1 9)]) (rest := []) (q0 := 0) X I hl (c_X6_comeTo l D cI cJ zre zac zab zao (fun _ => (0 : Int32)) ((f_J7_fill_53178 4096 zc (0 : Int32))) zop ((zs).1 9) _) (fb_goodV fw_1518 fw_1520 fw_81 fw_202 fw_1521) rfl rfl rfl (by decide +kernel : fb_hd yX6_comeTo 1) ⟨Nat.le_of_ble_eq_true rfl, Nat.le_of_ble_eq_true rfl⟩ [0, 1, 3] (by decide) rfl rfl rfl rfl rfl rfl (Nat.le_of_ble_eq_true rfl) ⟨Nat.zero_le _, Nat.zero_le _⟩ dX6_explore_31) [0, 1, 3] [2, 4, 5, 6, 7, 8, 9, 10, 11] [9, 10, 0, 11, 1, 2, 3, 4, 5, 6, 7, 8] rfl rfl (by decide) (by decide) (by decide) (fun _ => rfl) ?_
  intro w3 H locs _ I
  refine lv_iconst (v := (0 : Int32)) hx hb dX6_explore_34 (by decide) ?_
  refine lv_istore_n (lv' := [(2, .int (0 : Int32)), (0, .ref zre), (1, .ref (zq 0))]) hx hb dX6_explore_35 rfl hl (by decide) rfl (fun ls hl => ?_)
  exact b_X6_explore_36 X  ((fb_mu (0 : Int32) (8 : Int32)) + 1) (l2 := (0 : Int32)) (Nat.lt_succ_self _)  I (lv_sub hl [1, 2, 0] rfl) E
set_option maxHeartbeats 4000000 in
set_option maxRecDepth 100000 in
theorem c_X6_explore (l : Launch) (D : va_G) (cI cJ : ClassId) (zre : Nat) (zac : Nat) (zab : Nat) (zao : Nat) (ze6 : fb_AR) (zc : fb_AR) (zbg : fb_AR) (zop : fb_AR) (zq : Nat → Nat) (zs : fb_MS) (zw : fb_AR)  (sz : Nat)  : Met l yX6_explore (Cond.code yX6_explore cX6_explore 3 none :: fb_all) ({ frames := 5, cells := 0, slots := 0, locals := 113 } : Room) (fb_PP D (fb_ty D cI cJ) [.ref zre, .ref (zq 0)] ((fb_o6 zre zac zab zao ze6) ++ ((fb_aw cI zac 4096 zc) ++ ((fb_aw cI zab 4096 zbg) ++ ((fb_aw cI zao 4096 zop) ++ (fb_mw cI zq zs zw))))) sz) (fb_QV D (va_A ((fb_o6 zre zac zab zao ze6) ++ ((fb_aw cI zac 4096 zc) ++ ((fb_aw cI zab 4096 zbg) ++ ((fb_aw cI zao 4096 zop) ++ (fb_mw cI zq zs zw))))) sz) (fun (_ : Unit) => True) (fun (t : Unit) => (fb_o6 zre zac zab zao (((f_X6_explore ze6 zc zbg zop zs)).1)) ++ ((fb_aw cI zac 4096 (((f_X6_explore ze6 zc zbg zop zs)).2.1)) ++ ((fb_aw cI zab 4096 (((f_X6_explore ze6 zc zbg zop zs)).2.2.1)) ++ ((fb_aw cI zao 4096 (((f_X6_explore ze6 zc zbg zop zs)).2.2.2)) ++ (fb_mw cI zq zs zw)))))) 0 0 (va_A ((fb_o6 zre zac zab zao ze6) ++ ((fb_aw cI zac 4096 zc) ++ ((fb_aw cI zab 4096 zbg) ++ ((fb_aw cI zao 4096 zop) ++ (fb_mw cI zq zs zw))))) sz) := by
  refine fb_ent (Qf := fun A => (fb_QV D A (fun (_ : Unit) => True) (fun (t : Unit) => (fb_o6 zre zac zab zao (((f_X6_explore ze6 zc zbg zop zs)).1)) ++ ((fb_aw cI zac 4096 (((f_X6_explore ze6 zc zbg zop zs)).2.1)) ++ ((fb_aw cI zab 4096 (((f_X6_explore ze6 zc zbg zop zs)).2.2.1)) ++ ((fb_aw cI zao 4096 (((f_X6_explore ze6 zc zbg zop zs)).2.2.2)) ++ (fb_mw cI zq zs zw))))))) (by decide +kernel) (Nat.le_of_ble_eq_true rfl) ?_
  intro p e s m args below meth c A ls X I hl hin
  exact b_X6_explore_0 X  I hl rfl
/-! X11_codes -/
def f_X11_codes (zs : fb_MS) (ze6 : fb_AR) (zc : fb_AR) (zbg : fb_AR) (zop : fb_AR) : Int32 := (((f_X6_explore ze6 zc zbg zop zs).1) 4)
set_option maxHeartbeats 4000000 in
set_option maxRecDepth 100000 in
theorem b_X11_codes_0 {p : Program} {l : Launch} {e : Env} {s : State} {m : MethodId} {args : Array Value} {below : List Frame} {meth : Method} {c : Code} {D : va_G} {cI cJ : ClassId} {A : Nat → Prop} {zb : Nat} {zr0 : Nat} {zr1 : Nat} {zr2 : Nat} {zr3 : Nat} {zr4 : Nat} {zr6 : Nat} {zr7 : Nat} {zr8 : Nat} {zre : Nat} {zq : Nat → Nat} {zac : Nat} {zab : Nat} {zao : Nat} {z : Int32} (X : fb_Bx p s m args meth c cX11_codes RX11 1 (some .int) D (fb_ty D cI cJ) A) {zs : fb_MS} {zw : fb_AR} {ze6 : fb_AR} {zc : fb_AR} {zbg : fb_AR} {zop : fb_AR} {H : Heap} {locs : List Loc} {ls : Array Slot}  (I : fb_In D A s.heap ((fb_o11 zb zr0 zr1 zr2 zr3 zr4 (zq 0) zr6 zr7 zr8 zre) ++ ((fb_mw cI zq zs zw) ++ ((fb_o6 zre zac zab zao ze6) ++ ((fb_aw cI zac 4096 zc) ++ ((fb_aw cI zab 4096 zbg) ++ (fb_aw cI zao 4096 zop)))))) H locs) (hl : lv_has ls 1 [(0, .ref zb)]) (E : z = f_X11_codes zs ze6 zc zbg zop) : W p l e ({ frames := 6, cells := 0, slots := 0, locals := 135 } : Room) s m args below meth c H locs 0 0 (MQ below (fb_QI D A (fun (r : Int32) (_ : fb_AR × fb_AR × fb_AR × fb_AR) => r = z) (fun (t : fb_AR × fb_AR × fb_AR × fb_AR) => (fb_o11 zb zr0 zr1 zr2 zr3 zr4 (zq 0) zr6 zr7 zr8 zre) ++ ((fb_mw cI zq zs zw) ++ ((fb_o6 zre zac zab zao (t.1)) ++ ((fb_aw cI zac 4096 (t.2.1)) ++ ((fb_aw cI zab 4096 (t.2.2.1)) ++ (fb_aw cI zao 4096 (t.2.2.2)))))))) args s 0 0 A) (F0 m 0 ls []) := by
  obtain ⟨hx, hb, hr, hml, hown, hts, hlk, hA, hK, hF⟩ := id X
  refine lv_aload_n hx hb dX11_codes_0 rfl (lv_at hl 0 rfl) ?_
  refine fb_get X I (k := 9) fu_X11 0 rfl rfl (Nat.le_of_ble_eq_true rfl) fw_696 rfl rfl dX11_codes_1 ?_
  refine lv_aload_n hx hb dX11_codes_4 rfl (lv_at hl 0 rfl) ?_
  refine fb_get X I (k := 5) fu_X11 0 rfl rfl (Nat.le_of_ble_eq_true rfl) fw_692 rfl rfl dX11_codes_5 ?_
  refine fb_goV (wn := fun (w1 : Unit) => (fb_o11 zb zr0 zr1 zr2 zr3 zr4 (zq 0) zr6 zr7 zr8 zre) ++ ((fb_mw cI zq zs zw) ++ ((fb_o6 zre zac zab zao ((f_X6_explore ze6 zc zbg zop zs).1)) ++ ((fb_aw cI zac 4096 ((f_X6_explore ze6 zc zbg zop zs).2.1)) ++ ((fb_aw cI zab 4096 ((f_X6_explore ze6 zc zbg zop zs).2.2.1)) ++ (fb_aw cI zao 4096 ((f_X6_explore ze6 zc zbg zop zs).2.2.2))))))) X I (fb_runV (As := [.ref (zq 0)]) (rest := []) (q0 := 9) X I hl (c_X6_explore l D cI cJ zre zac zab zao ze6 zc zbg zop zq zs zw _) (fb_goodV fw_1513 fw_1514 fw_1515 fw_202 fw_1516) rfl rfl rfl (by decide +kernel : fb_hd yX6_explore 1) ⟨Nat.le_of_ble_eq_true rfl, Nat.le_of_ble_eq_true rfl⟩ [9, 10, 11, 12, 1, 2, 3, 4, 5, 6, 7, 8] (by decide) rfl rfl rfl rfl rfl rfl (Nat.le_of_ble_eq_true rfl) ⟨Nat.zero_le _, Nat.zero_le _⟩ dX11_codes_8) [9, 10, 11, 12, 1, 2, 3, 4, 5, 6, 7, 8] [0] [0, 5, 6, 7, 8, 9, 10, 11, 12, 1, 2, 3, 4] rfl rfl (by decide) (by decide) (by decide) (fun _ => rfl) ?_
  intro w1 H locs _ I
  refine lv_aload_n hx hb dX11_codes_11 rfl (lv_at hl 0 rfl) ?_
  refine fb_get X I (k := 9) fu_X11 0 rfl rfl (Nat.le_of_ble_eq_true rfl) fw_696 rfl rfl dX11_codes_12 ?_
  refine fb_get X I (k := 4) fu_X6 9 rfl rfl (Nat.le_of_ble_eq_true rfl) fw_657 rfl rfl dX11_codes_15 ?_
  subst E
  exact fb_retI (u := (((f_X6_explore ze6 zc zbg zop zs).1), ((f_X6_explore ze6 zc zbg zop zs).2.1), ((f_X6_explore ze6 zc zbg zop zs).2.2.1), ((f_X6_explore ze6 zc zbg zop zs).2.2.2))) X I rfl rfl dX11_codes_18
set_option maxHeartbeats 4000000 in
set_option maxRecDepth 100000 in
theorem c_X11_codes (l : Launch) (D : va_G) (cI cJ : ClassId) (zb : Nat) (zr0 : Nat) (zr1 : Nat) (zr2 : Nat) (zr3 : Nat) (zr4 : Nat) (zr6 : Nat) (zr7 : Nat) (zr8 : Nat) (zre : Nat) (zq : Nat → Nat) (zs : fb_MS) (zw : fb_AR) (zac : Nat) (zab : Nat) (zao : Nat) (ze6 : fb_AR) (zc : fb_AR) (zbg : fb_AR) (zop : fb_AR)  (sz : Nat)  : Met l yX11_codes (Cond.code yX11_codes cX11_codes 1 (some .int) :: fb_all) ({ frames := 6, cells := 0, slots := 0, locals := 135 } : Room) (fb_PP D (fb_ty D cI cJ) [.ref zb] ((fb_o11 zb zr0 zr1 zr2 zr3 zr4 (zq 0) zr6 zr7 zr8 zre) ++ ((fb_mw cI zq zs zw) ++ ((fb_o6 zre zac zab zao ze6) ++ ((fb_aw cI zac 4096 zc) ++ ((fb_aw cI zab 4096 zbg) ++ (fb_aw cI zao 4096 zop)))))) sz) (fb_QI D (va_A ((fb_o11 zb zr0 zr1 zr2 zr3 zr4 (zq 0) zr6 zr7 zr8 zre) ++ ((fb_mw cI zq zs zw) ++ ((fb_o6 zre zac zab zao ze6) ++ ((fb_aw cI zac 4096 zc) ++ ((fb_aw cI zab 4096 zbg) ++ (fb_aw cI zao 4096 zop)))))) sz) (fun (r : Int32) (_ : fb_AR × fb_AR × fb_AR × fb_AR) => r = ((f_X11_codes zs ze6 zc zbg zop))) (fun (t : fb_AR × fb_AR × fb_AR × fb_AR) => (fb_o11 zb zr0 zr1 zr2 zr3 zr4 (zq 0) zr6 zr7 zr8 zre) ++ ((fb_mw cI zq zs zw) ++ ((fb_o6 zre zac zab zao (t.1)) ++ ((fb_aw cI zac 4096 (t.2.1)) ++ ((fb_aw cI zab 4096 (t.2.2.1)) ++ (fb_aw cI zao 4096 (t.2.2.2)))))))) 0 0 (va_A ((fb_o11 zb zr0 zr1 zr2 zr3 zr4 (zq 0) zr6 zr7 zr8 zre) ++ ((fb_mw cI zq zs zw) ++ ((fb_o6 zre zac zab zao ze6) ++ ((fb_aw cI zac 4096 zc) ++ ((fb_aw cI zab 4096 zbg) ++ (fb_aw cI zao 4096 zop)))))) sz) := by
  refine fb_ent (Qf := fun A => (fb_QI D A (fun (r : Int32) (_ : fb_AR × fb_AR × fb_AR × fb_AR) => r = ((f_X11_codes zs ze6 zc zbg zop))) (fun (t : fb_AR × fb_AR × fb_AR × fb_AR) => (fb_o11 zb zr0 zr1 zr2 zr3 zr4 (zq 0) zr6 zr7 zr8 zre) ++ ((fb_mw cI zq zs zw) ++ ((fb_o6 zre zac zab zao (t.1)) ++ ((fb_aw cI zac 4096 (t.2.1)) ++ ((fb_aw cI zab 4096 (t.2.2.1)) ++ (fb_aw cI zao 4096 (t.2.2.2))))))))) (by decide +kernel) (Nat.le_of_ble_eq_true rfl) ?_
  intro p e s m args below meth c A ls X I hl hin
  exact b_X11_codes_0 X  I hl rfl
end
section
/-! rows for what makes cells -/
section FBN
variable {p : Program} {l : Launch} {e : Env} {R : Room} {s : State} {m : MethodId} {args : Array Value} {below : List Frame} {meth : Method} {c : Code} {H : Heap} {locs : List Loc} {cells slots mc ms : Nat} {Q : State → Prop}
  {cc : ByteArray} {own : String} {nL : Nat} {ret : Option FieldType} {D : va_G} {cI cJ : ClassId} {tys : List (ClassId × FieldType)} {A : Nat → Prop} {ws wc : va_W} {pc : Nat} {ls : Array Slot} {lv : List (Nat × Value)} {rest : List Value}
theorem fb_newI (X : fb_Bx p s m args meth c cc own nL ret D (fb_ty D cI cJ) A) (I : fb_In D A s.heap ws H locs) {n : Int32} {N : Nat} (harr : Cond.arrayClass .int ∈ fb_all) (hn : ¬ n < 0 ∧ n.toNatClampNeg = N) (hby : N * componentBytes .int ≤ 536870912) (hc : cells + 1 ≤ R.cells) (hs : slots + N ≤ R.slots) (hdg : decode cc pc = .ok (.newarray .int, 2))
    (kk : ∀ (q : Nat) (H1 : Heap), fb_In D A s.heap (ws ++ [(q, .inl (cI, N, .inl (fun _ => 0)))]) H1 locs → W p l e R s m args below meth c H1 locs (cells + 1) (slots + N) Q (F0 m (pc + 2) ls (.ref q :: rest))) : W p l e R s m args below meth c H locs cells slots Q (F0 m pc ls (.int n :: rest)) := by
  obtain ⟨hx, hb, hr, hml, hown, hts, hlk, hA, hK, hF⟩ := X
  refine va_newa (atype := .int) hx hb (hts _ harr) rfl hK.1 I.1 I.2.1 I.2.2 hA (a0 := (N, .inl (fun _ => 0))) (fun cA => rfl) hn.1 hn.2 hby hc hs hdg ?_
  intro q cA H1 k1 k2 k3 k4
  have e1 : s.vm.findClass ("[" ++ (FieldType.int).toString) = some cA := (k1.2 6 (cA, .int) rfl).2
  have e2 : s.vm.findClass ("[" ++ (FieldType.int).toString) = some cI := (hK.1.2 0 (cI, .int) rfl).2
  have e3 : cA = cI := Option.some.inj (e1.symm.trans e2)
  rw [e3] at k2 k3
  exact kk q H1 ⟨k2, k3, k4⟩
theorem fb_newZ (X : fb_Bx p s m args meth c cc own nL ret D (fb_ty D cI cJ) A) (I : fb_In D A s.heap ws H locs) {n : Int32} {N : Nat} (harr : Cond.arrayClass .boolean ∈ fb_all) (hn : ¬ n < 0 ∧ n.toNatClampNeg = N) (hby : N * componentBytes .boolean ≤ 536870912) (hc : cells + 1 ≤ R.cells) (hs : slots + N ≤ R.slots) (hdg : decode cc pc = .ok (.newarray .boolean, 2))
    (kk : ∀ (q : Nat) (H1 : Heap), fb_In D A s.heap (ws ++ [(q, .inl ((D.1 20), N, .inl (fun _ => 0)))]) H1 locs → W p l e R s m args below meth c H1 locs (cells + 1) (slots + N) Q (F0 m (pc + 2) ls (.ref q :: rest))) : W p l e R s m args below meth c H locs cells slots Q (F0 m pc ls (.int n :: rest)) := by
  obtain ⟨hx, hb, hr, hml, hown, hts, hlk, hA, hK, hF⟩ := X
  refine va_newa (atype := .boolean) hx hb (hts _ harr) rfl hK.1 I.1 I.2.1 I.2.2 hA (a0 := (N, .inl (fun _ => 0))) (fun cA => rfl) hn.1 hn.2 hby hc hs hdg ?_
  intro q cA H1 k1 k2 k3 k4
  have e1 : s.vm.findClass ("[" ++ (FieldType.boolean).toString) = some cA := (k1.2 6 (cA, .boolean) rfl).2
  have e2 : s.vm.findClass ("[" ++ (FieldType.boolean).toString) = some (D.1 20) := (hK.1.2 2 ((D.1 20), .boolean) rfl).2
  have e3 : cA = (D.1 20) := Option.some.inj (e1.symm.trans e2)
  rw [e3] at k2 k3
  exact kk q H1 ⟨k2, k3, k4⟩
theorem fb_newB (X : fb_Bx p s m args meth c cc own nL ret D (fb_ty D cI cJ) A) (I : fb_In D A s.heap ws H locs) {n : Int32} {N : Nat} (harr : Cond.arrayClass .byte ∈ fb_all) (hn : ¬ n < 0 ∧ n.toNatClampNeg = N) (hby : N * componentBytes .byte ≤ 536870912) (hc : cells + 1 ≤ R.cells) (hs : slots + N ≤ R.slots) (hdg : decode cc pc = .ok (.newarray .byte, 2))
    (kk : ∀ (q : Nat) (H1 : Heap), fb_In D A s.heap (ws ++ [(q, .inl ((D.1 21), N, .inl (fun _ => 0)))]) H1 locs → W p l e R s m args below meth c H1 locs (cells + 1) (slots + N) Q (F0 m (pc + 2) ls (.ref q :: rest))) : W p l e R s m args below meth c H locs cells slots Q (F0 m pc ls (.int n :: rest)) := by
  obtain ⟨hx, hb, hr, hml, hown, hts, hlk, hA, hK, hF⟩ := X
  refine va_newa (atype := .byte) hx hb (hts _ harr) rfl hK.1 I.1 I.2.1 I.2.2 hA (a0 := (N, .inl (fun _ => 0))) (fun cA => rfl) hn.1 hn.2 hby hc hs hdg ?_
  intro q cA H1 k1 k2 k3 k4
  have e1 : s.vm.findClass ("[" ++ (FieldType.byte).toString) = some cA := (k1.2 6 (cA, .byte) rfl).2
  have e2 : s.vm.findClass ("[" ++ (FieldType.byte).toString) = some (D.1 21) := (hK.1.2 3 ((D.1 21), .byte) rfl).2
  have e3 : cA = (D.1 21) := Option.some.inj (e1.symm.trans e2)
  rw [e3] at k2 k3
  exact kk q H1 ⟨k2, k3, k4⟩
theorem fb_newQ (X : fb_Bx p s m args meth c cc own nL ret D (fb_ty D cI cJ) A) (I : fb_In D A s.heap ws H locs) {index : Nat} {n : Int32} {N : Nat} (hcl : Cond.classLink own index RX1 ∈ fb_all) (hn : ¬ n < 0 ∧ n.toNatClampNeg = N) (hby : N * 4 ≤ 536870912) (hc : cells + 1 ≤ R.cells) (hs : slots + N ≤ R.slots) (hdg : decode cc pc = .ok (.anewarray index, 3))
    (kk : ∀ (q : Nat) (H1 : Heap), fb_In D A s.heap (ws ++ [(q, .inl (D.1 23, N, .inr (.inr (.inr (.inr (fun _ => none))))))]) H1 locs → W p l e R s m args below meth c H1 locs (cells + 1) (slots + N) Q (F0 m (pc + 3) ls (.ref q :: rest))) : W p l e R s m args below meth c H locs cells slots Q (F0 m pc ls (.int n :: rest)) := by
  obtain ⟨hx, hb, hr, hml, hown, hts, hlk, hA, hK, hF⟩ := X
  refine va_newq (N' := N) hx hb hown (hts _ hcl) hK.2.2.2.1 hK.1 I.1 I.2.1 I.2.2 hA hn.1 hn.2 hby hc hs hdg ?_
  intro q cA H1 k1 k2 k3 k4
  obtain ⟨-, -, -, -, -, e1⟩ := (k1.2 6 (cA, .object RX1) rfl).2
  obtain ⟨-, -, -, -, -, e2⟩ := (hK.1.2 5 (D.1 23, .object "FerriteBoard$Line") rfl).2
  have e3 : cA = D.1 23 := Option.some.inj (e1.symm.trans e2)
  rw [e3] at k2 k3
  exact kk q H1 ⟨k2, k3, k4⟩
theorem fb_newH (X : fb_Bx p s m args meth c cc own nL ret D (fb_ty D cI cJ) A) (I : fb_In D A s.heap ws H locs) {index : Nat} {n : Int32} {N : Nat} (hcl : Cond.classLink own index (FieldType.array .int).toString ∈ fb_all) (hn : ¬ n < 0 ∧ n.toNatClampNeg = N) (hby : N * 4 ≤ 536870912) (hc : cells + 1 ≤ R.cells) (hs : slots + N ≤ R.slots) (hdg : decode cc pc = .ok (.anewarray index, 3))
    (kk : ∀ (q : Nat) (H1 : Heap), fb_In D A s.heap (ws ++ [(q, .inl (D.1 22, N, .inr (.inr (.inr (.inr (fun _ => none))))))]) H1 locs → W p l e R s m args below meth c H1 locs (cells + 1) (slots + N) Q (F0 m (pc + 3) ls (.ref q :: rest))) : W p l e R s m args below meth c H locs cells slots Q (F0 m pc ls (.int n :: rest)) := by
  obtain ⟨hx, hb, hr, hml, hown, hts, hlk, hA, hK, hF⟩ := X
  obtain ⟨hn0, hN⟩ := hn
  subst hN
  refine W.anewA (t := .int) hx hb hown (hts _ hcl) (show (Cond.arrayOver (.array .int)).before args s = true from hK.2.2.2.2.1) rfl hdg rfl hn0 hby hc hs fun cA kA comp f1 f2 f3 f4 => ?_
  have e2 : s.vm.findClass ("[" ++ (FieldType.array .int).toString) = some (D.1 22) := (hK.1.2 4 (D.1 22, .array .int) rfl).2
  have e3 : cA = D.1 22 := Option.some.inj (f1.symm.trans e2)
  generalize hH1 : H.push ({ cls := cA, slots := Array.replicate n.toNatClampNeg .null, vm := .none } : Cell) = H1
  have z1 : H1.size = H.size + 1 := by rw [← hH1, Array.size_push]
  have e1 : H1[H.size]? = some (arrV cA n.toNatClampNeg (fun _ => .null)) := by rw [← hH1, Array.getElem?_push_size, ← arrV_new]
  have o1 : ∀ q : Nat, q < H.size → H1[q]? = H[q]? := fun q hq => by rw [← hH1, Array.getElem?_push, if_neg (Nat.ne_of_lt hq)]
  have hk : ∀ (k : Nat) (x : Nat × va_E), ws[k]? = some x → H1[x.1]? = H[x.1]? := fun k x hx => o1 x.1 ((I.1 k x hx).lt)
  refine kk H.size H1 ⟨(I.1.kept hk).app (fun k x hx => ?_), I.2.1.push I.1 rfl (hA _ I.2.2.1), Nat.le_trans I.2.2.1 (by omega), fun x h1 h2 => (o1 x (Nat.lt_of_lt_of_le h1 I.2.2.1)).trans (I.2.2.2.1 x h1 h2), I.2.2.2.2⟩
  have hz : k < 1 := (List.getElem?_eq_some_iff.mp hx).1
  rw [show k = 0 by omega] at hx
  cases hx
  show H1[H.size]? = some (vp_cell _ _)
  rw [vp_cell_q, ← e3]
  exact e1
theorem fb_newJ (X : fb_Bx p s m args meth c cc own nL ret D (fb_ty D cI cJ) A) (I : fb_In D A s.heap ws H locs) {n : Int32} {N : Nat} (harr : Cond.arrayClass .long ∈ fb_all) (hn : ¬ n < 0 ∧ n.toNatClampNeg = N) (hby : N * componentBytes .long ≤ 536870912) (hc : cells + 1 ≤ R.cells) (hs : slots + N ≤ R.slots) (hdg : decode cc pc = .ok (.newarray .long, 2))
    (kk : ∀ (q : Nat) (H1 : Heap), fb_In D A s.heap (ws ++ [(q, .inl (cJ, N, .inr (.inl (fun _ => 0))))]) H1 locs → W p l e R s m args below meth c H1 locs (cells + 1) (slots + N) Q (F0 m (pc + 2) ls (.ref q :: rest))) : W p l e R s m args below meth c H locs cells slots Q (F0 m pc ls (.int n :: rest)) := by
  obtain ⟨hx, hb, hr, hml, hown, hts, hlk, hA, hK, hF⟩ := X
  refine va_newa (atype := .long) hx hb (hts _ harr) rfl hK.1 I.1 I.2.1 I.2.2 hA (a0 := (N, .inr (.inl (fun _ => 0)))) (fun cA => rfl) hn.1 hn.2 hby hc hs hdg ?_
  intro q cA H1 k1 k2 k3 k4
  have e1 : s.vm.findClass ("[" ++ (FieldType.long).toString) = some cA := (k1.2 6 (cA, .long) rfl).2
  have e2 : s.vm.findClass ("[" ++ (FieldType.long).toString) = some cJ := (hK.1.2 1 (cJ, .long) rfl).2
  have e3 : cA = cJ := Option.some.inj (e1.symm.trans e2)
  rw [e3] at k2 k3
  exact kk q H1 ⟨k2, k3, k4⟩
theorem fb_newO (X : fb_Bx p s m args meth c cc own nL ret D tys A) (I : fb_In D A s.heap ws H locs) {C : String} {T : u_T} {N ci index : Nat} {fs : List Value} (hin : ∀ w ∈ u_ws C T N, w ∈ fb_all) (ty : Nat → FieldType) (hty : ∀ k, k < N → parseFieldDescriptor (T k).2.2.1 = some (ty k)) (hcl : Cond.classLink own index C ∈ fb_all) (hinst : Cond.instantiable C N ∈ fb_all) (hini : Cond.initialized C ∈ fb_all) (hc : vwCl[ci]? = some (C, T, N)) (hfs : ∀ j, j < N → defaultValue (ty j) = vp_V fs j) (hcells : cells + 1 ≤ R.cells) (hslots : slots + N ≤ R.slots) (hdg : decode cc pc = .ok (.new index, 3))
    (kk : ∀ (q : Nat) (H1 : Heap), fb_In D A s.heap (ws ++ [(q, .inr (ci, fs))]) H1 locs → W p l e R s m args below meth c H1 locs (cells + 1) (slots + N) Q (F0 m (pc + 3) ls (.ref q :: rest))) : W p l e R s m args below meth c H locs cells slots Q (F0 m pc ls rest) := by
  obtain ⟨hx, hb, hr, hml, hown, hts, hlk, hA, hK, hF⟩ := X
  exact va_new hx hb hts hin ty hty hown (hts _ hcl) (hts _ hinst) (hts _ hini) hK.1 I.1 I.2.1 I.2.2 hA hc hfs hcells hslots hdg (fun q H1 k2 k3 k4 => kk q H1 ⟨k2, k3, k4⟩)
theorem fb_putF (X : fb_Bx p s m args meth c cc own nL ret D tys A) (I : fb_In D A s.heap ws H locs) (hin2 : meth.name = "<init>") {a index ci N k : Nat} {ref C : String} {T : u_T} {fs : List Value} {v : Value} {wn : va_W} {ty : FieldType} (hin : ∀ w ∈ u_ws C T N, w ∈ fb_all) (ty0 : Nat → FieldType) (hty : ∀ k, k < N → parseFieldDescriptor (T k).2.2.1 = some (ty0 k)) (hnm : ∀ a, a < N → ∀ b, b < N → a ≠ b → (T a).2.1 ≠ (T b).2.1) (q0 : Nat) (he : ws[q0]? = some (a, .inr (ci, fs))) (hc : vwCl[ci]? = some (C, T, N)) (hk : k < N) (hlink : Cond.fieldLink own index ref (T k).2.1 (T k).2.2.1 ∈ fb_all) (href : (T k).1 = ref) (hfin : (T k).2.2.2 = true) (hdecl : (T k).1 = own) (ht0 : ty0 k = ty) (hn : narrow ty v = v) (hfit : fits ty v = true) (hlen : k < fs.length) (hwn : ws.set q0 (a, .inr (ci, fs.set k v)) = wn) (hdg : decode cc pc = .ok (.putfield index, 3))
    (kk : ∀ (H1 : Heap) (locs1 : List Loc), fb_In D A s.heap wn H1 locs1 → W p l e R s m args below meth c H1 locs1 cells slots Q (F0 m (pc + 3) ls rest)) : W p l e R s m args below meth c H locs cells slots Q (F0 m pc ls (v :: .ref a :: rest)) := by
  obtain ⟨hx, hb, hr, hml, hown, hts, hlk, hA, hK, hF⟩ := X
  subst href
  subst ht0
  refine va_putF hx hb hts hin ty0 hty hnm hown hK.1 I.1 I.2.1 I.2.2 q0 he hc k hk (hts _ hlink) (fun _ h9 => h9) hfin hin2 hdecl (hty k hk) hn hfit hlen hdg ?_
  intro H1 locs1 h1 h2 h3
  rw [hwn] at h1 h2
  exact kk H1 locs1 ⟨h1, h2, h3⟩
theorem fb_obj (X : fb_Bx p s m args meth c cc own nL ret D tys A) (hl : lv_has ls nL lv) {index a : Nat} (hlink : Cond.methodLink own index objectInit ∈ fb_all) (hinst : Cond.instanceMethod objectInit ∈ fb_all) (hcode : Cond.code objectInit ⟨#[0xb1]⟩ 1 none ∈ fb_all) (hdg : decode cc pc = .ok (.invokespecial index, 3)) (hfr : 1 ≤ R.frames) (hlo : 2 * (F0 m pc ls rest).monitorRoom + (rest.map fun v => v.category).sum + 12 ≤ R.locals)
    (kk : W p l e R s m args below meth c H locs cells slots Q (F0 m (pc + 3) ls rest)) : W p l e R s m args below meth c H locs cells slots Q (F0 m pc ls (.ref a :: rest)) := by
  obtain ⟨hx, hb, hr, hml, hown, hts, hlk, hA, hK, hF⟩ := X
  exact W.objInit hx hb hown (hts _ hlink) (hts _ hinst) (hts _ hcode) rfl (by rw [hml]; exact hl.1) rfl hdg hfr hlo kk
variable {y : MethodName} {bytes : ByteArray} {maxL index n : Nat} {rm : Room} {As : List Value} {b : Nat} {host : String}
theorem fb_runIN {Qc : Array Value → State → Outcome → State → Prop} {free : Addr → Prop} {st0 : List Value} (X : fb_Bx p s m args meth c cc own nL ret D tys A) (I : fb_In D A s.heap ws H locs) (hl : lv_has ls nL lv)
    (hM : Met l y (Cond.code y bytes maxL none :: fb_all) rm (fb_PP D tys (.ref b :: As) wc H.size) Qc mc ms free) (hcode : Cond.code y bytes maxL none ∈ fb_all) (hrc : rm.cells = mc) (hrs : rm.slots = ms) (hnest : (own, index, y, host) ∈ fb_nM) (hini : Cond.initialized y.cls ∈ fb_all) (hy : y.name = "<init>") (him : Cond.instanceMethod y ∈ fb_all) (hd : fb_hd y n) (hR : rm.frames + 1 ≤ R.frames ∧ 8 + (maxL + 11) + rm.locals ≤ R.locals)
    (isC : List Nat) (hnC : va_nd isC = true) (hC : isC.map (fun i => ws[i]?) = wc.map some) (hn : As.length = n) (hst : st0 = As.reverse ++ .ref b :: rest) (hrest : (rest.map fun v => v.category).sum ≤ 8) (hcl : cells + mc ≤ R.cells ∧ slots + ms ≤ R.slots) (hdg : decode cc pc = .ok (.invokespecial index, 3)) :
    va_Run p l e R s m args below meth c H locs cells slots mc ms (F0 m pc ls st0) rest (Qc (Value.ref b :: As).toArray) free := by
  have X0 := X
  obtain ⟨hx, hb, hr, hml, hown, hts, hlk, hA, hK, hF⟩ := X
  subst hst
  exact va_runIN (As := As) (rest := rest) ⟨hx, hb, hml, hown, hts⟩ hM ⟨va_cnB n hts (fb_goodC hcode) rfl hrc hrs (hK.2.use hnest) (hts _ hini) hd hR, hy, hts _ him⟩ ⟨fb_PP.blind, fb_pre X0 I isC hnC hC⟩ rfl hn hl.1 rfl (lv_room hrest) hdg hcl
theorem fb_runI {Qc : Array Value → State → Outcome → State → Prop} {free : Addr → Prop} {st0 : List Value} (X : fb_Bx p s m args meth c cc own nL ret D tys A) (I : fb_In D A s.heap ws H locs) (hl : lv_has ls nL lv)
    (hM : Met l y (Cond.code y bytes maxL none :: fb_all) rm (fb_PP D tys (.ref b :: As) wc H.size) Qc mc ms free) (hcode : Cond.code y bytes maxL none ∈ fb_all) (hrc : rm.cells = mc) (hrs : rm.slots = ms) (hlink : Cond.methodLink own index y ∈ fb_all) (hini : Cond.initialized y.cls ∈ fb_all) (hy : y.name = "<init>") (him : Cond.instanceMethod y ∈ fb_all) (hd : fb_hd y n) (hR : rm.frames + 1 ≤ R.frames ∧ 8 + (maxL + 11) + rm.locals ≤ R.locals)
    (isC : List Nat) (hnC : va_nd isC = true) (hC : isC.map (fun i => ws[i]?) = wc.map some) (hn : As.length = n) (hst : st0 = As.reverse ++ .ref b :: rest) (hrest : (rest.map fun v => v.category).sum ≤ 8) (hcl : cells + mc ≤ R.cells ∧ slots + ms ≤ R.slots) (hdg : decode cc pc = .ok (.invokespecial index, 3)) :
    va_Run p l e R s m args below meth c H locs cells slots mc ms (F0 m pc ls st0) rest (Qc (Value.ref b :: As).toArray) free := by
  have X0 := X
  obtain ⟨hx, hb, hr, hml, hown, hts, hlk, hA, hK, hF⟩ := X
  subst hst
  exact va_runI (As := As) (rest := rest) ⟨hx, hb, hml, hown, hts⟩ hM (cwI n hts (fb_goodC hcode) rfl hrc hrs (hts _ hini) (hts _ hlink) (hts _ him) hy hd hR) ⟨fb_PP.blind, fb_pre X0 I isC hnC hC⟩ rfl hn hl.1 rfl (lv_room hrest) hdg hcl
/-- behind a constructor: what is left of its cells comes behind the rest -/
theorem fb_goN {S : Type} {post : S → Prop} {wf wn : S → va_W} {a : Array Value} {st0 : List Value} (X : fb_Bx p s m args meth c cc own nL ret D tys A) (I : fb_In D A s.heap ws H locs)
    (hr : va_Run p l e R s m args below meth c H locs cells slots mc ms (F0 m pc ls st0) rest (fb_QV D (va_A wc H.size) post wf a) (va_A wc H.size)) (isC isR isB : List Nat) (hC : isC.map (fun i => ws[i]?) = wc.map some) (hR : isR.map (fun i => ws[i]?) = (isR.filterMap (fun i => ws[i]?)).map some) (hnR : va_nd isR = true) (hdis : ∀ i ∈ isR, i ∉ isC) (hnB : va_nd isB = true) (hB : ∀ u : S, isB.map (fun i => (isR.filterMap (fun i => ws[i]?) ++ wf u)[i]?) = (wn u).map some)
    (kk : ∀ (u : S) (H1 : Heap) (locs1 : List Loc), post u → fb_In D A s.heap (wn u) H1 locs1 → W p l e R s m args below meth c H1 locs1 (cells + mc) (slots + ms) Q (F0 m (pc + 3) ls rest)) : W p l e R s m args below meth c H locs cells slots Q (F0 m pc ls st0) := by
  obtain ⟨hx, hb, hr', hml, hown, hts, hlk, hA, hK, hF⟩ := X
  refine va_callv hr I.2.2 (fun q _ h => va_free I.2.1 I.2.2 hA isC hC q h) (va_free I.2.1 I.2.2 hA isC hC) ?_
  intro u t H1 locs1 ht hvm hp hBt hsz hkk hS1
  subst ht
  exact kk u _ locs1 hp (fb_back I hA isC isR isB hC hR hnR hdis hnB (hB u) hkk hBt.1 hBt.2 hS1)
end FBN
end
section
set_option maxHeartbeats 4000000 in
set_option maxRecDepth 100000 in
theorem c_X5_init (l : Launch) (D : va_G) (cI cJ : ClassId) (zh : Nat) (sz : Nat) : Met l yX5_init (Cond.code yX5_init cX5_init 1 none :: fb_all) ({ frames := 1, cells := 2, slots := 56, locals := 30 } : Room) (fb_PP D (fb_ty D cI cJ) [.ref zh] ([(zh, .inr (5, [.null, .null, .int 0, .int 0, .int 0, .int 0, .int 0, .int 0, .int 0, .int 0, .int 0, .int 0, .int 0, .int 0]))] : va_W) sz) (fb_QV D (va_A ([(zh, .inr (5, [.null, .null, .int 0, .int 0, .int 0, .int 0, .int 0, .int 0, .int 0, .int 0, .int 0, .int 0, .int 0, .int 0]))] : va_W) sz) (fun (_ : Nat × Nat) => True) (fun (t : Nat × Nat) => ([(zh, .inr (5, [.ref (t.1), .ref (t.2), .int 0, .int 0, .int 0, .int 0, .int 0, .int 0, .int 0, .int 0, .int 0, .int 0, .int 0, .int 0])), ((t.1), .inl (cI, 16, .inl (fun _ => 0))), ((t.2), .inl (cI, 40, .inl (fun _ => 0)))] : va_W))) 2 56 (va_A ([(zh, .inr (5, [.null, .null, .int 0, .int 0, .int 0, .int 0, .int 0, .int 0, .int 0, .int 0, .int 0, .int 0, .int 0, .int 0]))] : va_W) sz) := by
  refine fb_ent (Qf := fun A => (fb_QV D A (fun (_ : Nat × Nat) => True) (fun (t : Nat × Nat) => ([(zh, .inr (5, [.ref (t.1), .ref (t.2), .int 0, .int 0, .int 0, .int 0, .int 0, .int 0, .int 0, .int 0, .int 0, .int 0, .int 0, .int 0])), ((t.1), .inl (cI, 16, .inl (fun _ => 0))), ((t.2), .inl (cI, 40, .inl (fun _ => 0)))] : va_W)))) (by decide +kernel) (Nat.le_of_ble_eq_true rfl) ?_
  intro p e s m args below meth c A ls X I hl hin
  obtain ⟨hx, hb, hr, hml, hown, hts, hlk, hA, hK, hF⟩ := id X
  have hl : lv_has ls 1 [(0, .ref zh)] := hl
  refine lv_aload_n hx hb dX5_init_0 rfl (lv_at hl 0 rfl) ?_
  refine fb_obj X hl fw_459 fw_224 fw_225 dX5_init_1 (Nat.le_of_ble_eq_true rfl) (Nat.le_of_ble_eq_true rfl) ?_
  refine lv_aload_n hx hb dX5_init_4 rfl (lv_at hl 0 rfl) ?_
  refine lv_bipush (v := (16 : Int32)) hx hb dX5_init_5 (by decide) ?_
  refine fb_newI (N := 16) X I fw_261 (by decide) (Nat.le_of_ble_eq_true rfl) (Nat.le_of_ble_eq_true rfl) (Nat.le_of_ble_eq_true rfl) dX5_init_7 (fun x1 H I => ?_)
  have I : fb_In D A s.heap ([(zh, .inr (5, [.null, .null, .int 0, .int 0, .int 0, .int 0, .int 0, .int 0, .int 0, .int 0, .int 0, .int 0, .int 0, .int 0])), (x1, .inl (cI, 16, .inl (fun _ => 0)))] : va_W) H _ := I
  refine fb_putF X I hin (k := 0) (wn := ([(zh, .inr (5, [.ref x1, .null, .int 0, .int 0, .int 0, .int 0, .int 0, .int 0, .int 0, .int 0, .int 0, .int 0, .int 0, .int 0])), (x1, .inl (cI, 16, .inl (fun _ => 0)))] : va_W)) fu_X5 tyX5 tyX5_ok nmX5 0 rfl rfl (Nat.le_of_ble_eq_true rfl) fw_460 rfl rfl rfl rfl rfl rfl (Nat.le_of_ble_eq_true rfl) rfl dX5_init_9 (fun H locs I => ?_)
  refine lv_aload_n hx hb dX5_init_12 rfl (lv_at hl 0 rfl) ?_
  refine lv_bipush (v := (40 : Int32)) hx hb dX5_init_13 (by decide) ?_
  refine fb_newI (N := 40) X I fw_261 (by decide) (Nat.le_of_ble_eq_true rfl) (Nat.le_of_ble_eq_true rfl) (Nat.le_of_ble_eq_true rfl) dX5_init_15 (fun x2 H I => ?_)
  have I : fb_In D A s.heap ([(zh, .inr (5, [.ref x1, .null, .int 0, .int 0, .int 0, .int 0, .int 0, .int 0, .int 0, .int 0, .int 0, .int 0, .int 0, .int 0])), (x1, .inl (cI, 16, .inl (fun _ => 0))), (x2, .inl (cI, 40, .inl (fun _ => 0)))] : va_W) H _ := I
  refine fb_putF X I hin (k := 1) (wn := ([(zh, .inr (5, [.ref x1, .ref x2, .int 0, .int 0, .int 0, .int 0, .int 0, .int 0, .int 0, .int 0, .int 0, .int 0, .int 0, .int 0])), (x1, .inl (cI, 16, .inl (fun _ => 0))), (x2, .inl (cI, 40, .inl (fun _ => 0)))] : va_W)) fu_X5 tyX5 tyX5_ok nmX5 0 rfl rfl (Nat.le_of_ble_eq_true rfl) fw_461 rfl rfl rfl rfl rfl rfl (Nat.le_of_ble_eq_true rfl) rfl dX5_init_17 (fun H locs I => ?_)
  have I := fb_In.pick (ws' := ([(zh, .inr (5, [.ref x1, .ref x2, .int 0, .int 0, .int 0, .int 0, .int 0, .int 0, .int 0, .int 0, .int 0, .int 0, .int 0, .int 0])), (x1, .inl (cI, 16, .inl (fun _ => 0))), (x2, .inl (cI, 40, .inl (fun _ => 0)))] : va_W)) I [0, 1, 2] (by decide) rfl
  exact fb_retV (u := (x1, x2)) X I trivial dX5_init_20

set_option maxHeartbeats 4000000 in
set_option maxRecDepth 100000 in
theorem c_X2_init (l : Launch) (D : va_G) (cI cJ : ClassId) (zh : Nat) (sz : Nat) : Met l yX2_init (Cond.code yX2_init cX2_init 1 none :: fb_all) ({ frames := 2, cells := 7, slots := 15222, locals := 50 } : Room) (fb_PP D (fb_ty D cI cJ) [.ref zh] ([(zh, .inr (2, [.null, .null, .null, .null, .null, .int 0, .int 0, .int 0, .int 0, .int 0, .int 0, .int 0, .int 0, .int 0, .int 0, .int 0, .int 0]))] : va_W) sz) (fb_QV D (va_A ([(zh, .inr (2, [.null, .null, .null, .null, .null, .int 0, .int 0, .int 0, .int 0, .int 0, .int 0, .int 0, .int 0, .int 0, .int 0, .int 0, .int 0]))] : va_W) sz) (fun (_ : Nat × Nat × Nat × Nat × Nat × Nat × Nat) => True) (fun (t : Nat × Nat × Nat × Nat × Nat × Nat × Nat) => ([(zh, .inr (2, [.ref (t.1), .ref (t.2.1), .ref (t.2.2.1), .ref (t.2.2.2.1), .ref (t.2.2.2.2.1), .int 0, .int 0, .int 0, .int 0, .int 0, .int 0, .int 0, .int 0, .int 0, .int 0, .int 0, .int 0])), ((t.1), .inl (cI, 11008, .inl (fun _ => 0))), ((t.2.1), .inl (cI, 4096, .inl (fun _ => 0))), ((t.2.2.1), .inl (cI, 40, .inl (fun _ => 0))), ((t.2.2.2.1), .inl (cI, 8, .inl (fun _ => 0))), ((t.2.2.2.2.1), .inr (5, [.ref (t.2.2.2.2.2.1), .ref (t.2.2.2.2.2.2), .int 0, .int 0, .int 0, .int 0, .int 0, .int 0, .int 0, .int 0, .int 0, .int 0, .int 0, .int 0])), ((t.2.2.2.2.2.1), .inl (cI, 16, .inl (fun _ => 0))), ((t.2.2.2.2.2.2), .inl (cI, 40, .inl (fun _ => 0)))] : va_W))) 7 15222 (va_A ([(zh, .inr (2, [.null, .null, .null, .null, .null, .int 0, .int 0, .int 0, .int 0, .int 0, .int 0, .int 0, .int 0, .int 0, .int 0, .int 0, .int 0]))] : va_W) sz) := by
  refine fb_ent (Qf := fun A => (fb_QV D A (fun (_ : Nat × Nat × Nat × Nat × Nat × Nat × Nat) => True) (fun (t : Nat × Nat × Nat × Nat × Nat × Nat × Nat) => ([(zh, .inr (2, [.ref (t.1), .ref (t.2.1), .ref (t.2.2.1), .ref (t.2.2.2.1), .ref (t.2.2.2.2.1), .int 0, .int 0, .int 0, .int 0, .int 0, .int 0, .int 0, .int 0, .int 0, .int 0, .int 0, .int 0])), ((t.1), .inl (cI, 11008, .inl (fun _ => 0))), ((t.2.1), .inl (cI, 4096, .inl (fun _ => 0))), ((t.2.2.1), .inl (cI, 40, .inl (fun _ => 0))), ((t.2.2.2.1), .inl (cI, 8, .inl (fun _ => 0))), ((t.2.2.2.2.1), .inr (5, [.ref (t.2.2.2.2.2.1), .ref (t.2.2.2.2.2.2), .int 0, .int 0, .int 0, .int 0, .int 0, .int 0, .int 0, .int 0, .int 0, .int 0, .int 0, .int 0])), ((t.2.2.2.2.2.1), .inl (cI, 16, .inl (fun _ => 0))), ((t.2.2.2.2.2.2), .inl (cI, 40, .inl (fun _ => 0)))] : va_W)))) (by decide +kernel) (Nat.le_of_ble_eq_true rfl) ?_
  intro p e s m args below meth c A ls X I hl hin
  obtain ⟨hx, hb, hr, hml, hown, hts, hlk, hA, hK, hF⟩ := id X
  have hl : lv_has ls 1 [(0, .ref zh)] := hl
  refine lv_aload_n hx hb dX2_init_0 rfl (lv_at hl 0 rfl) ?_
  refine fb_obj X hl fw_453 fw_224 fw_225 dX2_init_1 (Nat.le_of_ble_eq_true rfl) (Nat.le_of_ble_eq_true rfl) ?_
  refine lv_aload_n hx hb dX2_init_4 rfl (lv_at hl 0 rfl) ?_
  refine lv_sipush (v := (11008 : Int32)) hx hb dX2_init_5 (by decide) ?_
  refine fb_newI (N := 11008) X I fw_261 (by decide) (Nat.le_of_ble_eq_true rfl) (Nat.le_of_ble_eq_true rfl) (Nat.le_of_ble_eq_true rfl) dX2_init_8 (fun x1 H I => ?_)
  have I : fb_In D A s.heap ([(zh, .inr (2, [.null, .null, .null, .null, .null, .int 0, .int 0, .int 0, .int 0, .int 0, .int 0, .int 0, .int 0, .int 0, .int 0, .int 0, .int 0])), (x1, .inl (cI, 11008, .inl (fun _ => 0)))] : va_W) H _ := I
  refine fb_putF X I hin (k := 0) (wn := ([(zh, .inr (2, [.ref x1, .null, .null, .null, .null, .int 0, .int 0, .int 0, .int 0, .int 0, .int 0, .int 0, .int 0, .int 0, .int 0, .int 0, .int 0])), (x1, .inl (cI, 11008, .inl (fun _ => 0)))] : va_W)) fu_X2 tyX2 tyX2_ok nmX2 0 rfl rfl (Nat.le_of_ble_eq_true rfl) fw_514 rfl rfl rfl rfl rfl rfl (Nat.le_of_ble_eq_true rfl) rfl dX2_init_10 (fun H locs I => ?_)
  refine lv_aload_n hx hb dX2_init_13 rfl (lv_at hl 0 rfl) ?_
  refine lv_sipush (v := (4096 : Int32)) hx hb dX2_init_14 (by decide) ?_
  refine fb_newI (N := 4096) X I fw_261 (by decide) (Nat.le_of_ble_eq_true rfl) (Nat.le_of_ble_eq_true rfl) (Nat.le_of_ble_eq_true rfl) dX2_init_17 (fun x2 H I => ?_)
  have I : fb_In D A s.heap ([(zh, .inr (2, [.ref x1, .null, .null, .null, .null, .int 0, .int 0, .int 0, .int 0, .int 0, .int 0, .int 0, .int 0, .int 0, .int 0, .int 0, .int 0])), (x1, .inl (cI, 11008, .inl (fun _ => 0))), (x2, .inl (cI, 4096, .inl (fun _ => 0)))] : va_W) H _ := I
  refine fb_putF X I hin (k := 1) (wn := ([(zh, .inr (2, [.ref x1, .ref x2, .null, .null, .null, .int 0, .int 0, .int 0, .int 0, .int 0, .int 0, .int 0, .int 0, .int 0, .int 0, .int 0, .int 0])), (x1, .inl (cI, 11008, .inl (fun _ => 0))), (x2, .inl (cI, 4096, .inl (fun _ => 0)))] : va_W)) fu_X2 tyX2 tyX2_ok nmX2 0 rfl rfl (Nat.le_of_ble_eq_true rfl) fw_516 rfl rfl rfl rfl rfl rfl (Nat.le_of_ble_eq_true rfl) rfl dX2_init_19 (fun H locs I => ?_)
  refine lv_aload_n hx hb dX2_init_22 rfl (lv_at hl 0 rfl) ?_
  refine lv_bipush (v := (40 : Int32)) hx hb dX2_init_23 (by decide) ?_
  refine fb_newI (N := 40) X I fw_261 (by decide) (Nat.le_of_ble_eq_true rfl) (Nat.le_of_ble_eq_true rfl) (Nat.le_of_ble_eq_true rfl) dX2_init_25 (fun x3 H I => ?_)
  have I : fb_In D A s.heap ([(zh, .inr (2, [.ref x1, .ref x2, .null, .null, .null, .int 0, .int 0, .int 0, .int 0, .int 0, .int 0, .int 0, .int 0, .int 0, .int 0, .int 0, .int 0])), (x1, .inl (cI, 11008, .inl (fun _ => 0))), (x2, .inl (cI, 4096, .inl (fun _ => 0))), (x3, .inl (cI, 40, .inl (fun _ => 0)))] : va_W) H _ := I
  refine fb_putF X I hin (k := 2) (wn := ([(zh, .inr (2, [.ref x1, .ref x2, .ref x3, .null, .null, .int 0, .int 0, .int 0, .int 0, .int 0, .int 0, .int 0, .int 0, .int 0, .int 0, .int 0, .int 0])), (x1, .inl (cI, 11008, .inl (fun _ => 0))), (x2, .inl (cI, 4096, .inl (fun _ => 0))), (x3, .inl (cI, 40, .inl (fun _ => 0)))] : va_W)) fu_X2 tyX2 tyX2_ok nmX2 0 rfl rfl (Nat.le_of_ble_eq_true rfl) fw_518 rfl rfl rfl rfl rfl rfl (Nat.le_of_ble_eq_true rfl) rfl dX2_init_27 (fun H locs I => ?_)
  refine lv_aload_n hx hb dX2_init_30 rfl (lv_at hl 0 rfl) ?_
  refine lv_bipush (v := (8 : Int32)) hx hb dX2_init_31 (by decide) ?_
  refine fb_newI (N := 8) X I fw_261 (by decide) (Nat.le_of_ble_eq_true rfl) (Nat.le_of_ble_eq_true rfl) (Nat.le_of_ble_eq_true rfl) dX2_init_33 (fun x4 H I => ?_)
  have I : fb_In D A s.heap ([(zh, .inr (2, [.ref x1, .ref x2, .ref x3, .null, .null, .int 0, .int 0, .int 0, .int 0, .int 0, .int 0, .int 0, .int 0, .int 0, .int 0, .int 0, .int 0])), (x1, .inl (cI, 11008, .inl (fun _ => 0))), (x2, .inl (cI, 4096, .inl (fun _ => 0))), (x3, .inl (cI, 40, .inl (fun _ => 0))), (x4, .inl (cI, 8, .inl (fun _ => 0)))] : va_W) H _ := I
  refine fb_putF X I hin (k := 3) (wn := ([(zh, .inr (2, [.ref x1, .ref x2, .ref x3, .ref x4, .null, .int 0, .int 0, .int 0, .int 0, .int 0, .int 0, .int 0, .int 0, .int 0, .int 0, .int 0, .int 0])), (x1, .inl (cI, 11008, .inl (fun _ => 0))), (x2, .inl (cI, 4096, .inl (fun _ => 0))), (x3, .inl (cI, 40, .inl (fun _ => 0))), (x4, .inl (cI, 8, .inl (fun _ => 0)))] : va_W)) fu_X2 tyX2 tyX2_ok nmX2 0 rfl rfl (Nat.le_of_ble_eq_true rfl) fw_520 rfl rfl rfl rfl rfl rfl (Nat.le_of_ble_eq_true rfl) rfl dX2_init_35 (fun H locs I => ?_)
  refine lv_aload_n hx hb dX2_init_38 rfl (lv_at hl 0 rfl) ?_
  refine fb_newO X I (ci := 5) (fs := [.null, .null, .int 0, .int 0, .int 0, .int 0, .int 0, .int 0, .int 0, .int 0, .int 0, .int 0, .int 0, .int 0]) fu_X5 tyX5 tyX5_ok fw_454 fw_455 fw_199 rfl (by decide +kernel) (Nat.le_of_ble_eq_true rfl) (Nat.le_of_ble_eq_true rfl) dX2_init_39 (fun x5 H I => ?_)
  have I : fb_In D A s.heap ([(zh, .inr (2, [.ref x1, .ref x2, .ref x3, .ref x4, .null, .int 0, .int 0, .int 0, .int 0, .int 0, .int 0, .int 0, .int 0, .int 0, .int 0, .int 0, .int 0])), (x1, .inl (cI, 11008, .inl (fun _ => 0))), (x2, .inl (cI, 4096, .inl (fun _ => 0))), (x3, .inl (cI, 40, .inl (fun _ => 0))), (x4, .inl (cI, 8, .inl (fun _ => 0))), (x5, .inr (5, [.null, .null, .int 0, .int 0, .int 0, .int 0, .int 0, .int 0, .int 0, .int 0, .int 0, .int 0, .int 0, .int 0]))] : va_W) H _ := I
  refine lv_dup hx hb dX2_init_42 rfl ?_
  refine fb_goN (wn := fun (t : Nat × Nat) => ([(zh, .inr (2, [.ref x1, .ref x2, .ref x3, .ref x4, .null, .int 0, .int 0, .int 0, .int 0, .int 0, .int 0, .int 0, .int 0, .int 0, .int 0, .int 0, .int 0])), (x1, .inl (cI, 11008, .inl (fun _ => 0))), (x2, .inl (cI, 4096, .inl (fun _ => 0))), (x3, .inl (cI, 40, .inl (fun _ => 0))), (x4, .inl (cI, 8, .inl (fun _ => 0))), (x5, .inr (5, [.ref (t.1), .ref (t.2), .int 0, .int 0, .int 0, .int 0, .int 0, .int 0, .int 0, .int 0, .int 0, .int 0, .int 0, .int 0])), ((t.1), .inl (cI, 16, .inl (fun _ => 0))), ((t.2), .inl (cI, 40, .inl (fun _ => 0)))] : va_W)) X I (fb_runIN (As := []) (rest := [.ref x5, .ref zh]) X I hl (c_X5_init l D cI cJ x5 _) fw_458 rfl rfl (List.mem_of_getElem? (i := 4) rfl) fw_199 rfl fw_457 (by decide +kernel : fb_hd yX5_init 0) ⟨Nat.le_of_ble_eq_true rfl, Nat.le_of_ble_eq_true rfl⟩ [5] (by decide) rfl rfl rfl (Nat.le_of_ble_eq_true rfl) ⟨Nat.le_of_ble_eq_true rfl, Nat.le_of_ble_eq_true rfl⟩ dX2_init_43) [5] [0, 1, 2, 3, 4] [0, 1, 2, 3, 4, 5, 6, 7] rfl rfl (by decide) (by decide) (by decide) (fun _ => rfl) ?_
  intro t H locs _ I
  obtain ⟨x6, x7⟩ := t
  have I : fb_In D A s.heap ([(zh, .inr (2, [.ref x1, .ref x2, .ref x3, .ref x4, .null, .int 0, .int 0, .int 0, .int 0, .int 0, .int 0, .int 0, .int 0, .int 0, .int 0, .int 0, .int 0])), (x1, .inl (cI, 11008, .inl (fun _ => 0))), (x2, .inl (cI, 4096, .inl (fun _ => 0))), (x3, .inl (cI, 40, .inl (fun _ => 0))), (x4, .inl (cI, 8, .inl (fun _ => 0))), (x5, .inr (5, [.ref x6, .ref x7, .int 0, .int 0, .int 0, .int 0, .int 0, .int 0, .int 0, .int 0, .int 0, .int 0, .int 0, .int 0])), (x6, .inl (cI, 16, .inl (fun _ => 0))), (x7, .inl (cI, 40, .inl (fun _ => 0)))] : va_W) H _ := I
  refine fb_putF X I hin (k := 4) (wn := ([(zh, .inr (2, [.ref x1, .ref x2, .ref x3, .ref x4, .ref x5, .int 0, .int 0, .int 0, .int 0, .int 0, .int 0, .int 0, .int 0, .int 0, .int 0, .int 0, .int 0])), (x1, .inl (cI, 11008, .inl (fun _ => 0))), (x2, .inl (cI, 4096, .inl (fun _ => 0))), (x3, .inl (cI, 40, .inl (fun _ => 0))), (x4, .inl (cI, 8, .inl (fun _ => 0))), (x5, .inr (5, [.ref x6, .ref x7, .int 0, .int 0, .int 0, .int 0, .int 0, .int 0, .int 0, .int 0, .int 0, .int 0, .int 0, .int 0])), (x6, .inl (cI, 16, .inl (fun _ => 0))), (x7, .inl (cI, 40, .inl (fun _ => 0)))] : va_W)) fu_X2 tyX2 tyX2_ok nmX2 0 rfl rfl (Nat.le_of_ble_eq_true rfl) fw_522 rfl rfl rfl rfl rfl rfl (Nat.le_of_ble_eq_true rfl) rfl dX2_init_46 (fun H locs I => ?_)
  have I := fb_In.pick (ws' := ([(zh, .inr (2, [.ref x1, .ref x2, .ref x3, .ref x4, .ref x5, .int 0, .int 0, .int 0, .int 0, .int 0, .int 0, .int 0, .int 0, .int 0, .int 0, .int 0, .int 0])), (x1, .inl (cI, 11008, .inl (fun _ => 0))), (x2, .inl (cI, 4096, .inl (fun _ => 0))), (x3, .inl (cI, 40, .inl (fun _ => 0))), (x4, .inl (cI, 8, .inl (fun _ => 0))), (x5, .inr (5, [.ref x6, .ref x7, .int 0, .int 0, .int 0, .int 0, .int 0, .int 0, .int 0, .int 0, .int 0, .int 0, .int 0, .int 0])), (x6, .inl (cI, 16, .inl (fun _ => 0))), (x7, .inl (cI, 40, .inl (fun _ => 0)))] : va_W)) I [0, 1, 2, 3, 4, 5, 6, 7] (by decide) rfl
  exact fb_retV (u := (x1, x2, x3, x4, x5, x6, x7)) X I trivial dX2_init_49

set_option maxHeartbeats 4000000 in
set_option maxRecDepth 100000 in
theorem c_X0_init (l : Launch) (D : va_G) (cI cJ : ClassId) (zh : Nat) (sz : Nat) : Met l yX0_init (Cond.code yX0_init cX0_init 1 none :: fb_all) ({ frames := 3, cells := 16, slots := 30478, locals := 70 } : Room) (fb_PP D (fb_ty D cI cJ) [.ref zh] ([(zh, .inr (0, [.null, .null, .int 0, .int 0, .int 0, .int 0]))] : va_W) sz) (fb_QV D (va_A ([(zh, .inr (0, [.null, .null, .int 0, .int 0, .int 0, .int 0]))] : va_W) sz) (fun (_ : Nat × Nat × Nat × Nat × Nat × Nat × Nat × Nat × Nat × Nat × Nat × Nat × Nat × Nat × Nat × Nat) => True) (fun (t : Nat × Nat × Nat × Nat × Nat × Nat × Nat × Nat × Nat × Nat × Nat × Nat × Nat × Nat × Nat × Nat) => ([(zh, .inr (0, [.ref (t.1), .ref (t.2.1), .int (-1 : Int32), .int (-1 : Int32), .int 0, .int 0])), ((t.1), .inr (2, [.ref (t.2.2.1), .ref (t.2.2.2.1), .ref (t.2.2.2.2.1), .ref (t.2.2.2.2.2.1), .ref (t.2.2.2.2.2.2.1), .int 0, .int 0, .int 0, .int 0, .int 0, .int 0, .int 0, .int 0, .int 0, .int 0, .int 0, .int 0])), ((t.2.2.1), .inl (cI, 11008, .inl (fun _ => 0))), ((t.2.2.2.1), .inl (cI, 4096, .inl (fun _ => 0))), ((t.2.2.2.2.1), .inl (cI, 40, .inl (fun _ => 0))), ((t.2.2.2.2.2.1), .inl (cI, 8, .inl (fun _ => 0))), ((t.2.2.2.2.2.2.1), .inr (5, [.ref (t.2.2.2.2.2.2.2.1), .ref (t.2.2.2.2.2.2.2.2.1), .int 0, .int 0, .int 0, .int 0, .int 0, .int 0, .int 0, .int 0, .int 0, .int 0, .int 0, .int 0])), ((t.2.2.2.2.2.2.2.1), .inl (cI, 16, .inl (fun _ => 0))), ((t.2.2.2.2.2.2.2.2.1), .inl (cI, 40, .inl (fun _ => 0))), ((t.2.1), .inr (2, [.ref (t.2.2.2.2.2.2.2.2.2.1), .ref (t.2.2.2.2.2.2.2.2.2.2.1), .ref (t.2.2.2.2.2.2.2.2.2.2.2.1), .ref (t.2.2.2.2.2.2.2.2.2.2.2.2.1), .ref (t.2.2.2.2.2.2.2.2.2.2.2.2.2.1), .int 0, .int 0, .int 0, .int 0, .int 0, .int 0, .int 0, .int 0, .int 0, .int 0, .int 0, .int 0])), ((t.2.2.2.2.2.2.2.2.2.1), .inl (cI, 11008, .inl (fun _ => 0))), ((t.2.2.2.2.2.2.2.2.2.2.1), .inl (cI, 4096, .inl (fun _ => 0))), ((t.2.2.2.2.2.2.2.2.2.2.2.1), .inl (cI, 40, .inl (fun _ => 0))), ((t.2.2.2.2.2.2.2.2.2.2.2.2.1), .inl (cI, 8, .inl (fun _ => 0))), ((t.2.2.2.2.2.2.2.2.2.2.2.2.2.1), .inr (5, [.ref (t.2.2.2.2.2.2.2.2.2.2.2.2.2.2.1), .ref (t.2.2.2.2.2.2.2.2.2.2.2.2.2.2.2), .int 0, .int 0, .int 0, .int 0, .int 0, .int 0, .int 0, .int 0, .int 0, .int 0, .int 0, .int 0])), ((t.2.2.2.2.2.2.2.2.2.2.2.2.2.2.1), .inl (cI, 16, .inl (fun _ => 0))), ((t.2.2.2.2.2.2.2.2.2.2.2.2.2.2.2), .inl (cI, 40, .inl (fun _ => 0)))] : va_W))) 16 30478 (va_A ([(zh, .inr (0, [.null, .null, .int 0, .int 0, .int 0, .int 0]))] : va_W) sz) := by
  refine fb_ent (Qf := fun A => (fb_QV D A (fun (_ : Nat × Nat × Nat × Nat × Nat × Nat × Nat × Nat × Nat × Nat × Nat × Nat × Nat × Nat × Nat × Nat) => True) (fun (t : Nat × Nat × Nat × Nat × Nat × Nat × Nat × Nat × Nat × Nat × Nat × Nat × Nat × Nat × Nat × Nat) => ([(zh, .inr (0, [.ref (t.1), .ref (t.2.1), .int (-1 : Int32), .int (-1 : Int32), .int 0, .int 0])), ((t.1), .inr (2, [.ref (t.2.2.1), .ref (t.2.2.2.1), .ref (t.2.2.2.2.1), .ref (t.2.2.2.2.2.1), .ref (t.2.2.2.2.2.2.1), .int 0, .int 0, .int 0, .int 0, .int 0, .int 0, .int 0, .int 0, .int 0, .int 0, .int 0, .int 0])), ((t.2.2.1), .inl (cI, 11008, .inl (fun _ => 0))), ((t.2.2.2.1), .inl (cI, 4096, .inl (fun _ => 0))), ((t.2.2.2.2.1), .inl (cI, 40, .inl (fun _ => 0))), ((t.2.2.2.2.2.1), .inl (cI, 8, .inl (fun _ => 0))), ((t.2.2.2.2.2.2.1), .inr (5, [.ref (t.2.2.2.2.2.2.2.1), .ref (t.2.2.2.2.2.2.2.2.1), .int 0, .int 0, .int 0, .int 0, .int 0, .int 0, .int 0, .int 0, .int 0, .int 0, .int 0, .int 0])), ((t.2.2.2.2.2.2.2.1), .inl (cI, 16, .inl (fun _ => 0))), ((t.2.2.2.2.2.2.2.2.1), .inl (cI, 40, .inl (fun _ => 0))), ((t.2.1), .inr (2, [.ref (t.2.2.2.2.2.2.2.2.2.1), .ref (t.2.2.2.2.2.2.2.2.2.2.1), .ref (t.2.2.2.2.2.2.2.2.2.2.2.1), .ref (t.2.2.2.2.2.2.2.2.2.2.2.2.1), .ref (t.2.2.2.2.2.2.2.2.2.2.2.2.2.1), .int 0, .int 0, .int 0, .int 0, .int 0, .int 0, .int 0, .int 0, .int 0, .int 0, .int 0, .int 0])), ((t.2.2.2.2.2.2.2.2.2.1), .inl (cI, 11008, .inl (fun _ => 0))), ((t.2.2.2.2.2.2.2.2.2.2.1), .inl (cI, 4096, .inl (fun _ => 0))), ((t.2.2.2.2.2.2.2.2.2.2.2.1), .inl (cI, 40, .inl (fun _ => 0))), ((t.2.2.2.2.2.2.2.2.2.2.2.2.1), .inl (cI, 8, .inl (fun _ => 0))), ((t.2.2.2.2.2.2.2.2.2.2.2.2.2.1), .inr (5, [.ref (t.2.2.2.2.2.2.2.2.2.2.2.2.2.2.1), .ref (t.2.2.2.2.2.2.2.2.2.2.2.2.2.2.2), .int 0, .int 0, .int 0, .int 0, .int 0, .int 0, .int 0, .int 0, .int 0, .int 0, .int 0, .int 0])), ((t.2.2.2.2.2.2.2.2.2.2.2.2.2.2.1), .inl (cI, 16, .inl (fun _ => 0))), ((t.2.2.2.2.2.2.2.2.2.2.2.2.2.2.2), .inl (cI, 40, .inl (fun _ => 0)))] : va_W)))) (by decide +kernel) (Nat.le_of_ble_eq_true rfl) ?_
  intro p e s m args below meth c A ls X I hl hin
  obtain ⟨hx, hb, hr, hml, hown, hts, hlk, hA, hK, hF⟩ := id X
  have hl : lv_has ls 1 [(0, .ref zh)] := hl
  refine lv_aload_n hx hb dX0_init_0 rfl (lv_at hl 0 rfl) ?_
  refine fb_obj X hl fw_588 fw_224 fw_225 dX0_init_1 (Nat.le_of_ble_eq_true rfl) (Nat.le_of_ble_eq_true rfl) ?_
  refine lv_aload_n hx hb dX0_init_4 rfl (lv_at hl 0 rfl) ?_
  refine fb_newO X I (ci := 2) (fs := [.null, .null, .null, .null, .null, .int 0, .int 0, .int 0, .int 0, .int 0, .int 0, .int 0, .int 0, .int 0, .int 0, .int 0, .int 0]) fu_X2 tyX2 tyX2_ok fw_589 fw_449 fw_198 rfl (by decide +kernel) (Nat.le_of_ble_eq_true rfl) (Nat.le_of_ble_eq_true rfl) dX0_init_5 (fun x1 H I => ?_)
  have I : fb_In D A s.heap ([(zh, .inr (0, [.null, .null, .int 0, .int 0, .int 0, .int 0])), (x1, .inr (2, [.null, .null, .null, .null, .null, .int 0, .int 0, .int 0, .int 0, .int 0, .int 0, .int 0, .int 0, .int 0, .int 0, .int 0, .int 0]))] : va_W) H _ := I
  refine lv_dup hx hb dX0_init_8 rfl ?_
  refine fb_goN (wn := fun (t : Nat × Nat × Nat × Nat × Nat × Nat × Nat) => ([(zh, .inr (0, [.null, .null, .int 0, .int 0, .int 0, .int 0])), (x1, .inr (2, [.ref (t.1), .ref (t.2.1), .ref (t.2.2.1), .ref (t.2.2.2.1), .ref (t.2.2.2.2.1), .int 0, .int 0, .int 0, .int 0, .int 0, .int 0, .int 0, .int 0, .int 0, .int 0, .int 0, .int 0])), ((t.1), .inl (cI, 11008, .inl (fun _ => 0))), ((t.2.1), .inl (cI, 4096, .inl (fun _ => 0))), ((t.2.2.1), .inl (cI, 40, .inl (fun _ => 0))), ((t.2.2.2.1), .inl (cI, 8, .inl (fun _ => 0))), ((t.2.2.2.2.1), .inr (5, [.ref (t.2.2.2.2.2.1), .ref (t.2.2.2.2.2.2), .int 0, .int 0, .int 0, .int 0, .int 0, .int 0, .int 0, .int 0, .int 0, .int 0, .int 0, .int 0])), ((t.2.2.2.2.2.1), .inl (cI, 16, .inl (fun _ => 0))), ((t.2.2.2.2.2.2), .inl (cI, 40, .inl (fun _ => 0)))] : va_W)) X I (fb_runIN (As := []) (rest := [.ref x1, .ref zh]) X I hl (c_X2_init l D cI cJ x1 _) fw_452 rfl rfl (List.mem_of_getElem? (i := 6) rfl) fw_198 rfl fw_451 (by decide +kernel : fb_hd yX2_init 0) ⟨Nat.le_of_ble_eq_true rfl, Nat.le_of_ble_eq_true rfl⟩ [1] (by decide) rfl rfl rfl (Nat.le_of_ble_eq_true rfl) ⟨Nat.le_of_ble_eq_true rfl, Nat.le_of_ble_eq_true rfl⟩ dX0_init_9) [1] [0] [0, 1, 2, 3, 4, 5, 6, 7, 8] rfl rfl (by decide) (by decide) (by decide) (fun _ => rfl) ?_
  intro t H locs _ I
  obtain ⟨x2, x3, x4, x5, x6, x7, x8⟩ := t
  have I : fb_In D A s.heap ([(zh, .inr (0, [.null, .null, .int 0, .int 0, .int 0, .int 0])), (x1, .inr (2, [.ref x2, .ref x3, .ref x4, .ref x5, .ref x6, .int 0, .int 0, .int 0, .int 0, .int 0, .int 0, .int 0, .int 0, .int 0, .int 0, .int 0, .int 0])), (x2, .inl (cI, 11008, .inl (fun _ => 0))), (x3, .inl (cI, 4096, .inl (fun _ => 0))), (x4, .inl (cI, 40, .inl (fun _ => 0))), (x5, .inl (cI, 8, .inl (fun _ => 0))), (x6, .inr (5, [.ref x7, .ref x8, .int 0, .int 0, .int 0, .int 0, .int 0, .int 0, .int 0, .int 0, .int 0, .int 0, .int 0, .int 0])), (x7, .inl (cI, 16, .inl (fun _ => 0))), (x8, .inl (cI, 40, .inl (fun _ => 0)))] : va_W) H _ := I
  refine fb_put X I (k := 0) (wn := ([(zh, .inr (0, [.ref x1, .null, .int 0, .int 0, .int 0, .int 0])), (x1, .inr (2, [.ref x2, .ref x3, .ref x4, .ref x5, .ref x6, .int 0, .int 0, .int 0, .int 0, .int 0, .int 0, .int 0, .int 0, .int 0, .int 0, .int 0, .int 0])), (x2, .inl (cI, 11008, .inl (fun _ => 0))), (x3, .inl (cI, 4096, .inl (fun _ => 0))), (x4, .inl (cI, 40, .inl (fun _ => 0))), (x5, .inl (cI, 8, .inl (fun _ => 0))), (x6, .inr (5, [.ref x7, .ref x8, .int 0, .int 0, .int 0, .int 0, .int 0, .int 0, .int 0, .int 0, .int 0, .int 0, .int 0, .int 0])), (x7, .inl (cI, 16, .inl (fun _ => 0))), (x8, .inl (cI, 40, .inl (fun _ => 0)))] : va_W)) fu_X0 tyX0 tyX0_ok nmX0 0 rfl rfl (Nat.le_of_ble_eq_true rfl) fw_591 rfl rfl rfl rfl rfl (Nat.le_of_ble_eq_true rfl) rfl dX0_init_12 (fun H locs I => ?_)
  refine lv_aload_n hx hb dX0_init_15 rfl (lv_at hl 0 rfl) ?_
  refine fb_newO X I (ci := 2) (fs := [.null, .null, .null, .null, .null, .int 0, .int 0, .int 0, .int 0, .int 0, .int 0, .int 0, .int 0, .int 0, .int 0, .int 0, .int 0]) fu_X2 tyX2 tyX2_ok fw_589 fw_449 fw_198 rfl (by decide +kernel) (Nat.le_of_ble_eq_true rfl) (Nat.le_of_ble_eq_true rfl) dX0_init_16 (fun x9 H I => ?_)
  have I : fb_In D A s.heap ([(zh, .inr (0, [.ref x1, .null, .int 0, .int 0, .int 0, .int 0])), (x1, .inr (2, [.ref x2, .ref x3, .ref x4, .ref x5, .ref x6, .int 0, .int 0, .int 0, .int 0, .int 0, .int 0, .int 0, .int 0, .int 0, .int 0, .int 0, .int 0])), (x2, .inl (cI, 11008, .inl (fun _ => 0))), (x3, .inl (cI, 4096, .inl (fun _ => 0))), (x4, .inl (cI, 40, .inl (fun _ => 0))), (x5, .inl (cI, 8, .inl (fun _ => 0))), (x6, .inr (5, [.ref x7, .ref x8, .int 0, .int 0, .int 0, .int 0, .int 0, .int 0, .int 0, .int 0, .int 0, .int 0, .int 0, .int 0])), (x7, .inl (cI, 16, .inl (fun _ => 0))), (x8, .inl (cI, 40, .inl (fun _ => 0))), (x9, .inr (2, [.null, .null, .null, .null, .null, .int 0, .int 0, .int 0, .int 0, .int 0, .int 0, .int 0, .int 0, .int 0, .int 0, .int 0, .int 0]))] : va_W) H _ := I
  refine lv_dup hx hb dX0_init_19 rfl ?_
  refine fb_goN (wn := fun (t : Nat × Nat × Nat × Nat × Nat × Nat × Nat) => ([(zh, .inr (0, [.ref x1, .null, .int 0, .int 0, .int 0, .int 0])), (x1, .inr (2, [.ref x2, .ref x3, .ref x4, .ref x5, .ref x6, .int 0, .int 0, .int 0, .int 0, .int 0, .int 0, .int 0, .int 0, .int 0, .int 0, .int 0, .int 0])), (x2, .inl (cI, 11008, .inl (fun _ => 0))), (x3, .inl (cI, 4096, .inl (fun _ => 0))), (x4, .inl (cI, 40, .inl (fun _ => 0))), (x5, .inl (cI, 8, .inl (fun _ => 0))), (x6, .inr (5, [.ref x7, .ref x8, .int 0, .int 0, .int 0, .int 0, .int 0, .int 0, .int 0, .int 0, .int 0, .int 0, .int 0, .int 0])), (x7, .inl (cI, 16, .inl (fun _ => 0))), (x8, .inl (cI, 40, .inl (fun _ => 0))), (x9, .inr (2, [.ref (t.1), .ref (t.2.1), .ref (t.2.2.1), .ref (t.2.2.2.1), .ref (t.2.2.2.2.1), .int 0, .int 0, .int 0, .int 0, .int 0, .int 0, .int 0, .int 0, .int 0, .int 0, .int 0, .int 0])), ((t.1), .inl (cI, 11008, .inl (fun _ => 0))), ((t.2.1), .inl (cI, 4096, .inl (fun _ => 0))), ((t.2.2.1), .inl (cI, 40, .inl (fun _ => 0))), ((t.2.2.2.1), .inl (cI, 8, .inl (fun _ => 0))), ((t.2.2.2.2.1), .inr (5, [.ref (t.2.2.2.2.2.1), .ref (t.2.2.2.2.2.2), .int 0, .int 0, .int 0, .int 0, .int 0, .int 0, .int 0, .int 0, .int 0, .int 0, .int 0, .int 0])), ((t.2.2.2.2.2.1), .inl (cI, 16, .inl (fun _ => 0))), ((t.2.2.2.2.2.2), .inl (cI, 40, .inl (fun _ => 0)))] : va_W)) X I (fb_runIN (As := []) (rest := [.ref x9, .ref zh]) X I hl (c_X2_init l D cI cJ x9 _) fw_452 rfl rfl (List.mem_of_getElem? (i := 6) rfl) fw_198 rfl fw_451 (by decide +kernel : fb_hd yX2_init 0) ⟨Nat.le_of_ble_eq_true rfl, Nat.le_of_ble_eq_true rfl⟩ [9] (by decide) rfl rfl rfl (Nat.le_of_ble_eq_true rfl) ⟨Nat.le_of_ble_eq_true rfl, Nat.le_of_ble_eq_true rfl⟩ dX0_init_20) [9] [0, 1, 2, 3, 4, 5, 6, 7, 8] [0, 1, 2, 3, 4, 5, 6, 7, 8, 9, 10, 11, 12, 13, 14, 15, 16] rfl rfl (by decide) (by decide) (by decide) (fun _ => rfl) ?_
  intro t H locs _ I
  obtain ⟨x10, x11, x12, x13, x14, x15, x16⟩ := t
  have I : fb_In D A s.heap ([(zh, .inr (0, [.ref x1, .null, .int 0, .int 0, .int 0, .int 0])), (x1, .inr (2, [.ref x2, .ref x3, .ref x4, .ref x5, .ref x6, .int 0, .int 0, .int 0, .int 0, .int 0, .int 0, .int 0, .int 0, .int 0, .int 0, .int 0, .int 0])), (x2, .inl (cI, 11008, .inl (fun _ => 0))), (x3, .inl (cI, 4096, .inl (fun _ => 0))), (x4, .inl (cI, 40, .inl (fun _ => 0))), (x5, .inl (cI, 8, .inl (fun _ => 0))), (x6, .inr (5, [.ref x7, .ref x8, .int 0, .int 0, .int 0, .int 0, .int 0, .int 0, .int 0, .int 0, .int 0, .int 0, .int 0, .int 0])), (x7, .inl (cI, 16, .inl (fun _ => 0))), (x8, .inl (cI, 40, .inl (fun _ => 0))), (x9, .inr (2, [.ref x10, .ref x11, .ref x12, .ref x13, .ref x14, .int 0, .int 0, .int 0, .int 0, .int 0, .int 0, .int 0, .int 0, .int 0, .int 0, .int 0, .int 0])), (x10, .inl (cI, 11008, .inl (fun _ => 0))), (x11, .inl (cI, 4096, .inl (fun _ => 0))), (x12, .inl (cI, 40, .inl (fun _ => 0))), (x13, .inl (cI, 8, .inl (fun _ => 0))), (x14, .inr (5, [.ref x15, .ref x16, .int 0, .int 0, .int 0, .int 0, .int 0, .int 0, .int 0, .int 0, .int 0, .int 0, .int 0, .int 0])), (x15, .inl (cI, 16, .inl (fun _ => 0))), (x16, .inl (cI, 40, .inl (fun _ => 0)))] : va_W) H _ := I
  refine fb_put X I (k := 1) (wn := ([(zh, .inr (0, [.ref x1, .ref x9, .int 0, .int 0, .int 0, .int 0])), (x1, .inr (2, [.ref x2, .ref x3, .ref x4, .ref x5, .ref x6, .int 0, .int 0, .int 0, .int 0, .int 0, .int 0, .int 0, .int 0, .int 0, .int 0, .int 0, .int 0])), (x2, .inl (cI, 11008, .inl (fun _ => 0))), (x3, .inl (cI, 4096, .inl (fun _ => 0))), (x4, .inl (cI, 40, .inl (fun _ => 0))), (x5, .inl (cI, 8, .inl (fun _ => 0))), (x6, .inr (5, [.ref x7, .ref x8, .int 0, .int 0, .int 0, .int 0, .int 0, .int 0, .int 0, .int 0, .int 0, .int 0, .int 0, .int 0])), (x7, .inl (cI, 16, .inl (fun _ => 0))), (x8, .inl (cI, 40, .inl (fun _ => 0))), (x9, .inr (2, [.ref x10, .ref x11, .ref x12, .ref x13, .ref x14, .int 0, .int 0, .int 0, .int 0, .int 0, .int 0, .int 0, .int 0, .int 0, .int 0, .int 0, .int 0])), (x10, .inl (cI, 11008, .inl (fun _ => 0))), (x11, .inl (cI, 4096, .inl (fun _ => 0))), (x12, .inl (cI, 40, .inl (fun _ => 0))), (x13, .inl (cI, 8, .inl (fun _ => 0))), (x14, .inr (5, [.ref x15, .ref x16, .int 0, .int 0, .int 0, .int 0, .int 0, .int 0, .int 0, .int 0, .int 0, .int 0, .int 0, .int 0])), (x15, .inl (cI, 16, .inl (fun _ => 0))), (x16, .inl (cI, 40, .inl (fun _ => 0)))] : va_W)) fu_X0 tyX0 tyX0_ok nmX0 0 rfl rfl (Nat.le_of_ble_eq_true rfl) fw_592 rfl rfl rfl rfl rfl (Nat.le_of_ble_eq_true rfl) rfl dX0_init_23 (fun H locs I => ?_)
  refine lv_aload_n hx hb dX0_init_26 rfl (lv_at hl 0 rfl) ?_
  refine lv_iconst (v := (-1 : Int32)) hx hb dX0_init_27 (by decide) ?_
  refine fb_put X I (k := 2) (wn := ([(zh, .inr (0, [.ref x1, .ref x9, .int (-1 : Int32), .int 0, .int 0, .int 0])), (x1, .inr (2, [.ref x2, .ref x3, .ref x4, .ref x5, .ref x6, .int 0, .int 0, .int 0, .int 0, .int 0, .int 0, .int 0, .int 0, .int 0, .int 0, .int 0, .int 0])), (x2, .inl (cI, 11008, .inl (fun _ => 0))), (x3, .inl (cI, 4096, .inl (fun _ => 0))), (x4, .inl (cI, 40, .inl (fun _ => 0))), (x5, .inl (cI, 8, .inl (fun _ => 0))), (x6, .inr (5, [.ref x7, .ref x8, .int 0, .int 0, .int 0, .int 0, .int 0, .int 0, .int 0, .int 0, .int 0, .int 0, .int 0, .int 0])), (x7, .inl (cI, 16, .inl (fun _ => 0))), (x8, .inl (cI, 40, .inl (fun _ => 0))), (x9, .inr (2, [.ref x10, .ref x11, .ref x12, .ref x13, .ref x14, .int 0, .int 0, .int 0, .int 0, .int 0, .int 0, .int 0, .int 0, .int 0, .int 0, .int 0, .int 0])), (x10, .inl (cI, 11008, .inl (fun _ => 0))), (x11, .inl (cI, 4096, .inl (fun _ => 0))), (x12, .inl (cI, 40, .inl (fun _ => 0))), (x13, .inl (cI, 8, .inl (fun _ => 0))), (x14, .inr (5, [.ref x15, .ref x16, .int 0, .int 0, .int 0, .int 0, .int 0, .int 0, .int 0, .int 0, .int 0, .int 0, .int 0, .int 0])), (x15, .inl (cI, 16, .inl (fun _ => 0))), (x16, .inl (cI, 40, .inl (fun _ => 0)))] : va_W)) fu_X0 tyX0 tyX0_ok nmX0 0 rfl rfl (Nat.le_of_ble_eq_true rfl) fw_593 rfl rfl rfl rfl rfl (Nat.le_of_ble_eq_true rfl) rfl dX0_init_28 (fun H locs I => ?_)
  refine lv_aload_n hx hb dX0_init_31 rfl (lv_at hl 0 rfl) ?_
  refine lv_iconst (v := (-1 : Int32)) hx hb dX0_init_32 (by decide) ?_
  refine fb_put X I (k := 3) (wn := ([(zh, .inr (0, [.ref x1, .ref x9, .int (-1 : Int32), .int (-1 : Int32), .int 0, .int 0])), (x1, .inr (2, [.ref x2, .ref x3, .ref x4, .ref x5, .ref x6, .int 0, .int 0, .int 0, .int 0, .int 0, .int 0, .int 0, .int 0, .int 0, .int 0, .int 0, .int 0])), (x2, .inl (cI, 11008, .inl (fun _ => 0))), (x3, .inl (cI, 4096, .inl (fun _ => 0))), (x4, .inl (cI, 40, .inl (fun _ => 0))), (x5, .inl (cI, 8, .inl (fun _ => 0))), (x6, .inr (5, [.ref x7, .ref x8, .int 0, .int 0, .int 0, .int 0, .int 0, .int 0, .int 0, .int 0, .int 0, .int 0, .int 0, .int 0])), (x7, .inl (cI, 16, .inl (fun _ => 0))), (x8, .inl (cI, 40, .inl (fun _ => 0))), (x9, .inr (2, [.ref x10, .ref x11, .ref x12, .ref x13, .ref x14, .int 0, .int 0, .int 0, .int 0, .int 0, .int 0, .int 0, .int 0, .int 0, .int 0, .int 0, .int 0])), (x10, .inl (cI, 11008, .inl (fun _ => 0))), (x11, .inl (cI, 4096, .inl (fun _ => 0))), (x12, .inl (cI, 40, .inl (fun _ => 0))), (x13, .inl (cI, 8, .inl (fun _ => 0))), (x14, .inr (5, [.ref x15, .ref x16, .int 0, .int 0, .int 0, .int 0, .int 0, .int 0, .int 0, .int 0, .int 0, .int 0, .int 0, .int 0])), (x15, .inl (cI, 16, .inl (fun _ => 0))), (x16, .inl (cI, 40, .inl (fun _ => 0)))] : va_W)) fu_X0 tyX0 tyX0_ok nmX0 0 rfl rfl (Nat.le_of_ble_eq_true rfl) fw_594 rfl rfl rfl rfl rfl (Nat.le_of_ble_eq_true rfl) rfl dX0_init_33 (fun H locs I => ?_)
  have I := fb_In.pick (ws' := ([(zh, .inr (0, [.ref x1, .ref x9, .int (-1 : Int32), .int (-1 : Int32), .int 0, .int 0])), (x1, .inr (2, [.ref x2, .ref x3, .ref x4, .ref x5, .ref x6, .int 0, .int 0, .int 0, .int 0, .int 0, .int 0, .int 0, .int 0, .int 0, .int 0, .int 0, .int 0])), (x2, .inl (cI, 11008, .inl (fun _ => 0))), (x3, .inl (cI, 4096, .inl (fun _ => 0))), (x4, .inl (cI, 40, .inl (fun _ => 0))), (x5, .inl (cI, 8, .inl (fun _ => 0))), (x6, .inr (5, [.ref x7, .ref x8, .int 0, .int 0, .int 0, .int 0, .int 0, .int 0, .int 0, .int 0, .int 0, .int 0, .int 0, .int 0])), (x7, .inl (cI, 16, .inl (fun _ => 0))), (x8, .inl (cI, 40, .inl (fun _ => 0))), (x9, .inr (2, [.ref x10, .ref x11, .ref x12, .ref x13, .ref x14, .int 0, .int 0, .int 0, .int 0, .int 0, .int 0, .int 0, .int 0, .int 0, .int 0, .int 0, .int 0])), (x10, .inl (cI, 11008, .inl (fun _ => 0))), (x11, .inl (cI, 4096, .inl (fun _ => 0))), (x12, .inl (cI, 40, .inl (fun _ => 0))), (x13, .inl (cI, 8, .inl (fun _ => 0))), (x14, .inr (5, [.ref x15, .ref x16, .int 0, .int 0, .int 0, .int 0, .int 0, .int 0, .int 0, .int 0, .int 0, .int 0, .int 0, .int 0])), (x15, .inl (cI, 16, .inl (fun _ => 0))), (x16, .inl (cI, 40, .inl (fun _ => 0)))] : va_W)) I [0, 1, 2, 3, 4, 5, 6, 7, 8, 9, 10, 11, 12, 13, 14, 15, 16] (by decide) rfl
  exact fb_retV (u := (x1, x9, x2, x3, x4, x5, x6, x7, x8, x10, x11, x12, x13, x14, x15, x16)) X I trivial dX0_init_36

set_option maxHeartbeats 4000000 in
set_option maxRecDepth 100000 in
theorem c_X7_init (l : Launch) (D : va_G) (cI cJ : ClassId) (zh : Nat) (sz : Nat) : Met l yX7_init (Cond.code yX7_init cX7_init 1 none :: fb_all) ({ frames := 1, cells := 5, slots := 24, locals := 30 } : Room) (fb_PP D (fb_ty D cI cJ) [.ref zh] ([(zh, .inr (7, [.null, .null, .int 0, .null, .null, .null, .int 0, .int 0]))] : va_W) sz) (fb_QV D (va_A ([(zh, .inr (7, [.null, .null, .int 0, .null, .null, .null, .int 0, .int 0]))] : va_W) sz) (fun (_ : Nat × Nat × Nat × Nat × Nat) => True) (fun (t : Nat × Nat × Nat × Nat × Nat) => ([(zh, .inr (7, [.ref (t.1), .ref (t.2.1), .int 0, .ref (t.2.2.1), .ref (t.2.2.2.1), .ref (t.2.2.2.2), .int 0, .int 0])), ((t.1), .inl (cI, 6, .inl (fun _ => 0))), ((t.2.1), .inl (cI, 6, .inl (fun _ => 0))), ((t.2.2.1), .inl (cI, 4, .inl (fun _ => 0))), ((t.2.2.2.1), .inl (cI, 4, .inl (fun _ => 0))), ((t.2.2.2.2), .inl (cI, 4, .inl (fun _ => 0)))] : va_W))) 5 24 (va_A ([(zh, .inr (7, [.null, .null, .int 0, .null, .null, .null, .int 0, .int 0]))] : va_W) sz) := by
  refine fb_ent (Qf := fun A => (fb_QV D A (fun (_ : Nat × Nat × Nat × Nat × Nat) => True) (fun (t : Nat × Nat × Nat × Nat × Nat) => ([(zh, .inr (7, [.ref (t.1), .ref (t.2.1), .int 0, .ref (t.2.2.1), .ref (t.2.2.2.1), .ref (t.2.2.2.2), .int 0, .int 0])), ((t.1), .inl (cI, 6, .inl (fun _ => 0))), ((t.2.1), .inl (cI, 6, .inl (fun _ => 0))), ((t.2.2.1), .inl (cI, 4, .inl (fun _ => 0))), ((t.2.2.2.1), .inl (cI, 4, .inl (fun _ => 0))), ((t.2.2.2.2), .inl (cI, 4, .inl (fun _ => 0)))] : va_W)))) (by decide +kernel) (Nat.le_of_ble_eq_true rfl) ?_
  intro p e s m args below meth c A ls X I hl hin
  obtain ⟨hx, hb, hr, hml, hown, hts, hlk, hA, hK, hF⟩ := id X
  have hl : lv_has ls 1 [(0, .ref zh)] := hl
  refine lv_aload_n hx hb dX7_init_0 rfl (lv_at hl 0 rfl) ?_
  refine fb_obj X hl fw_616 fw_224 fw_225 dX7_init_1 (Nat.le_of_ble_eq_true rfl) (Nat.le_of_ble_eq_true rfl) ?_
  refine lv_aload_n hx hb dX7_init_4 rfl (lv_at hl 0 rfl) ?_
  refine lv_bipush (v := (6 : Int32)) hx hb dX7_init_5 (by decide) ?_
  refine fb_newI (N := 6) X I fw_261 (by decide) (Nat.le_of_ble_eq_true rfl) (Nat.le_of_ble_eq_true rfl) (Nat.le_of_ble_eq_true rfl) dX7_init_7 (fun x1 H I => ?_)
  have I : fb_In D A s.heap ([(zh, .inr (7, [.null, .null, .int 0, .null, .null, .null, .int 0, .int 0])), (x1, .inl (cI, 6, .inl (fun _ => 0)))] : va_W) H _ := I
  refine fb_putF X I hin (k := 0) (wn := ([(zh, .inr (7, [.ref x1, .null, .int 0, .null, .null, .null, .int 0, .int 0])), (x1, .inl (cI, 6, .inl (fun _ => 0)))] : va_W)) fu_X7 tyX7 tyX7_ok nmX7 0 rfl rfl (Nat.le_of_ble_eq_true rfl) fw_617 rfl rfl rfl rfl rfl rfl (Nat.le_of_ble_eq_true rfl) rfl dX7_init_9 (fun H locs I => ?_)
  refine lv_aload_n hx hb dX7_init_12 rfl (lv_at hl 0 rfl) ?_
  refine lv_bipush (v := (6 : Int32)) hx hb dX7_init_13 (by decide) ?_
  refine fb_newI (N := 6) X I fw_261 (by decide) (Nat.le_of_ble_eq_true rfl) (Nat.le_of_ble_eq_true rfl) (Nat.le_of_ble_eq_true rfl) dX7_init_15 (fun x2 H I => ?_)
  have I : fb_In D A s.heap ([(zh, .inr (7, [.ref x1, .null, .int 0, .null, .null, .null, .int 0, .int 0])), (x1, .inl (cI, 6, .inl (fun _ => 0))), (x2, .inl (cI, 6, .inl (fun _ => 0)))] : va_W) H _ := I
  refine fb_putF X I hin (k := 1) (wn := ([(zh, .inr (7, [.ref x1, .ref x2, .int 0, .null, .null, .null, .int 0, .int 0])), (x1, .inl (cI, 6, .inl (fun _ => 0))), (x2, .inl (cI, 6, .inl (fun _ => 0)))] : va_W)) fu_X7 tyX7 tyX7_ok nmX7 0 rfl rfl (Nat.le_of_ble_eq_true rfl) fw_618 rfl rfl rfl rfl rfl rfl (Nat.le_of_ble_eq_true rfl) rfl dX7_init_17 (fun H locs I => ?_)
  refine lv_aload_n hx hb dX7_init_20 rfl (lv_at hl 0 rfl) ?_
  refine lv_iconst (v := (4 : Int32)) hx hb dX7_init_21 (by decide) ?_
  refine fb_newI (N := 4) X I fw_261 (by decide) (Nat.le_of_ble_eq_true rfl) (Nat.le_of_ble_eq_true rfl) (Nat.le_of_ble_eq_true rfl) dX7_init_22 (fun x3 H I => ?_)
  have I : fb_In D A s.heap ([(zh, .inr (7, [.ref x1, .ref x2, .int 0, .null, .null, .null, .int 0, .int 0])), (x1, .inl (cI, 6, .inl (fun _ => 0))), (x2, .inl (cI, 6, .inl (fun _ => 0))), (x3, .inl (cI, 4, .inl (fun _ => 0)))] : va_W) H _ := I
  refine fb_putF X I hin (k := 3) (wn := ([(zh, .inr (7, [.ref x1, .ref x2, .int 0, .ref x3, .null, .null, .int 0, .int 0])), (x1, .inl (cI, 6, .inl (fun _ => 0))), (x2, .inl (cI, 6, .inl (fun _ => 0))), (x3, .inl (cI, 4, .inl (fun _ => 0)))] : va_W)) fu_X7 tyX7 tyX7_ok nmX7 0 rfl rfl (Nat.le_of_ble_eq_true rfl) fw_621 rfl rfl rfl rfl rfl rfl (Nat.le_of_ble_eq_true rfl) rfl dX7_init_24 (fun H locs I => ?_)
  refine lv_aload_n hx hb dX7_init_27 rfl (lv_at hl 0 rfl) ?_
  refine lv_iconst (v := (4 : Int32)) hx hb dX7_init_28 (by decide) ?_
  refine fb_newI (N := 4) X I fw_261 (by decide) (Nat.le_of_ble_eq_true rfl) (Nat.le_of_ble_eq_true rfl) (Nat.le_of_ble_eq_true rfl) dX7_init_29 (fun x4 H I => ?_)
  have I : fb_In D A s.heap ([(zh, .inr (7, [.ref x1, .ref x2, .int 0, .ref x3, .null, .null, .int 0, .int 0])), (x1, .inl (cI, 6, .inl (fun _ => 0))), (x2, .inl (cI, 6, .inl (fun _ => 0))), (x3, .inl (cI, 4, .inl (fun _ => 0))), (x4, .inl (cI, 4, .inl (fun _ => 0)))] : va_W) H _ := I
  refine fb_putF X I hin (k := 4) (wn := ([(zh, .inr (7, [.ref x1, .ref x2, .int 0, .ref x3, .ref x4, .null, .int 0, .int 0])), (x1, .inl (cI, 6, .inl (fun _ => 0))), (x2, .inl (cI, 6, .inl (fun _ => 0))), (x3, .inl (cI, 4, .inl (fun _ => 0))), (x4, .inl (cI, 4, .inl (fun _ => 0)))] : va_W)) fu_X7 tyX7 tyX7_ok nmX7 0 rfl rfl (Nat.le_of_ble_eq_true rfl) fw_622 rfl rfl rfl rfl rfl rfl (Nat.le_of_ble_eq_true rfl) rfl dX7_init_31 (fun H locs I => ?_)
  refine lv_aload_n hx hb dX7_init_34 rfl (lv_at hl 0 rfl) ?_
  refine lv_iconst (v := (4 : Int32)) hx hb dX7_init_35 (by decide) ?_
  refine fb_newI (N := 4) X I fw_261 (by decide) (Nat.le_of_ble_eq_true rfl) (Nat.le_of_ble_eq_true rfl) (Nat.le_of_ble_eq_true rfl) dX7_init_36 (fun x5 H I => ?_)
  have I : fb_In D A s.heap ([(zh, .inr (7, [.ref x1, .ref x2, .int 0, .ref x3, .ref x4, .null, .int 0, .int 0])), (x1, .inl (cI, 6, .inl (fun _ => 0))), (x2, .inl (cI, 6, .inl (fun _ => 0))), (x3, .inl (cI, 4, .inl (fun _ => 0))), (x4, .inl (cI, 4, .inl (fun _ => 0))), (x5, .inl (cI, 4, .inl (fun _ => 0)))] : va_W) H _ := I
  refine fb_putF X I hin (k := 5) (wn := ([(zh, .inr (7, [.ref x1, .ref x2, .int 0, .ref x3, .ref x4, .ref x5, .int 0, .int 0])), (x1, .inl (cI, 6, .inl (fun _ => 0))), (x2, .inl (cI, 6, .inl (fun _ => 0))), (x3, .inl (cI, 4, .inl (fun _ => 0))), (x4, .inl (cI, 4, .inl (fun _ => 0))), (x5, .inl (cI, 4, .inl (fun _ => 0)))] : va_W)) fu_X7 tyX7 tyX7_ok nmX7 0 rfl rfl (Nat.le_of_ble_eq_true rfl) fw_623 rfl rfl rfl rfl rfl rfl (Nat.le_of_ble_eq_true rfl) rfl dX7_init_38 (fun H locs I => ?_)
  have I := fb_In.pick (ws' := ([(zh, .inr (7, [.ref x1, .ref x2, .int 0, .ref x3, .ref x4, .ref x5, .int 0, .int 0])), (x1, .inl (cI, 6, .inl (fun _ => 0))), (x2, .inl (cI, 6, .inl (fun _ => 0))), (x3, .inl (cI, 4, .inl (fun _ => 0))), (x4, .inl (cI, 4, .inl (fun _ => 0))), (x5, .inl (cI, 4, .inl (fun _ => 0)))] : va_W)) I [0, 1, 2, 3, 4, 5] (by decide) rfl
  exact fb_retV (u := (x1, x2, x3, x4, x5)) X I trivial dX7_init_41

set_option maxHeartbeats 4000000 in
set_option maxRecDepth 100000 in
theorem c_X6_init (l : Launch) (D : va_G) (cI cJ : ClassId) (zh : Nat) (sz : Nat) : Met l yX6_init (Cond.code yX6_init cX6_init 1 none :: fb_all) ({ frames := 1, cells := 3, slots := 12288, locals := 30 } : Room) (fb_PP D (fb_ty D cI cJ) [.ref zh] ([(zh, .inr (6, [.null, .null, .null, .int 0, .int 0]))] : va_W) sz) (fb_QV D (va_A ([(zh, .inr (6, [.null, .null, .null, .int 0, .int 0]))] : va_W) sz) (fun (_ : Nat × Nat × Nat) => True) (fun (t : Nat × Nat × Nat) => ([(zh, .inr (6, [.ref (t.1), .ref (t.2.1), .ref (t.2.2), .int 0, .int 0])), ((t.1), .inl (cI, 4096, .inl (fun _ => 0))), ((t.2.1), .inl (cI, 4096, .inl (fun _ => 0))), ((t.2.2), .inl (cI, 4096, .inl (fun _ => 0)))] : va_W))) 3 12288 (va_A ([(zh, .inr (6, [.null, .null, .null, .int 0, .int 0]))] : va_W) sz) := by
  refine fb_ent (Qf := fun A => (fb_QV D A (fun (_ : Nat × Nat × Nat) => True) (fun (t : Nat × Nat × Nat) => ([(zh, .inr (6, [.ref (t.1), .ref (t.2.1), .ref (t.2.2), .int 0, .int 0])), ((t.1), .inl (cI, 4096, .inl (fun _ => 0))), ((t.2.1), .inl (cI, 4096, .inl (fun _ => 0))), ((t.2.2), .inl (cI, 4096, .inl (fun _ => 0)))] : va_W)))) (by decide +kernel) (Nat.le_of_ble_eq_true rfl) ?_
  intro p e s m args below meth c A ls X I hl hin
  obtain ⟨hx, hb, hr, hml, hown, hts, hlk, hA, hK, hF⟩ := id X
  have hl : lv_has ls 1 [(0, .ref zh)] := hl
  refine lv_aload_n hx hb dX6_init_0 rfl (lv_at hl 0 rfl) ?_
  refine fb_obj X hl fw_650 fw_224 fw_225 dX6_init_1 (Nat.le_of_ble_eq_true rfl) (Nat.le_of_ble_eq_true rfl) ?_
  refine lv_aload_n hx hb dX6_init_4 rfl (lv_at hl 0 rfl) ?_
  refine lv_sipush (v := (4096 : Int32)) hx hb dX6_init_5 (by decide) ?_
  refine fb_newI (N := 4096) X I fw_261 (by decide) (Nat.le_of_ble_eq_true rfl) (Nat.le_of_ble_eq_true rfl) (Nat.le_of_ble_eq_true rfl) dX6_init_8 (fun x1 H I => ?_)
  have I : fb_In D A s.heap ([(zh, .inr (6, [.null, .null, .null, .int 0, .int 0])), (x1, .inl (cI, 4096, .inl (fun _ => 0)))] : va_W) H _ := I
  refine fb_putF X I hin (k := 0) (wn := ([(zh, .inr (6, [.ref x1, .null, .null, .int 0, .int 0])), (x1, .inl (cI, 4096, .inl (fun _ => 0)))] : va_W)) fu_X6 tyX6 tyX6_ok nmX6 0 rfl rfl (Nat.le_of_ble_eq_true rfl) fw_651 rfl rfl rfl rfl rfl rfl (Nat.le_of_ble_eq_true rfl) rfl dX6_init_10 (fun H locs I => ?_)
  refine lv_aload_n hx hb dX6_init_13 rfl (lv_at hl 0 rfl) ?_
  refine lv_sipush (v := (4096 : Int32)) hx hb dX6_init_14 (by decide) ?_
  refine fb_newI (N := 4096) X I fw_261 (by decide) (Nat.le_of_ble_eq_true rfl) (Nat.le_of_ble_eq_true rfl) (Nat.le_of_ble_eq_true rfl) dX6_init_17 (fun x2 H I => ?_)
  have I : fb_In D A s.heap ([(zh, .inr (6, [.ref x1, .null, .null, .int 0, .int 0])), (x1, .inl (cI, 4096, .inl (fun _ => 0))), (x2, .inl (cI, 4096, .inl (fun _ => 0)))] : va_W) H _ := I
  refine fb_putF X I hin (k := 1) (wn := ([(zh, .inr (6, [.ref x1, .ref x2, .null, .int 0, .int 0])), (x1, .inl (cI, 4096, .inl (fun _ => 0))), (x2, .inl (cI, 4096, .inl (fun _ => 0)))] : va_W)) fu_X6 tyX6 tyX6_ok nmX6 0 rfl rfl (Nat.le_of_ble_eq_true rfl) fw_652 rfl rfl rfl rfl rfl rfl (Nat.le_of_ble_eq_true rfl) rfl dX6_init_19 (fun H locs I => ?_)
  refine lv_aload_n hx hb dX6_init_22 rfl (lv_at hl 0 rfl) ?_
  refine lv_sipush (v := (4096 : Int32)) hx hb dX6_init_23 (by decide) ?_
  refine fb_newI (N := 4096) X I fw_261 (by decide) (Nat.le_of_ble_eq_true rfl) (Nat.le_of_ble_eq_true rfl) (Nat.le_of_ble_eq_true rfl) dX6_init_26 (fun x3 H I => ?_)
  have I : fb_In D A s.heap ([(zh, .inr (6, [.ref x1, .ref x2, .null, .int 0, .int 0])), (x1, .inl (cI, 4096, .inl (fun _ => 0))), (x2, .inl (cI, 4096, .inl (fun _ => 0))), (x3, .inl (cI, 4096, .inl (fun _ => 0)))] : va_W) H _ := I
  refine fb_putF X I hin (k := 2) (wn := ([(zh, .inr (6, [.ref x1, .ref x2, .ref x3, .int 0, .int 0])), (x1, .inl (cI, 4096, .inl (fun _ => 0))), (x2, .inl (cI, 4096, .inl (fun _ => 0))), (x3, .inl (cI, 4096, .inl (fun _ => 0)))] : va_W)) fu_X6 tyX6 tyX6_ok nmX6 0 rfl rfl (Nat.le_of_ble_eq_true rfl) fw_654 rfl rfl rfl rfl rfl rfl (Nat.le_of_ble_eq_true rfl) rfl dX6_init_28 (fun H locs I => ?_)
  have I := fb_In.pick (ws' := ([(zh, .inr (6, [.ref x1, .ref x2, .ref x3, .int 0, .int 0])), (x1, .inl (cI, 4096, .inl (fun _ => 0))), (x2, .inl (cI, 4096, .inl (fun _ => 0))), (x3, .inl (cI, 4096, .inl (fun _ => 0)))] : va_W)) I [0, 1, 2, 3] (by decide) rfl
  exact fb_retV (u := (x1, x2, x3)) X I trivial dX6_init_31

set_option maxHeartbeats 4000000 in
set_option maxRecDepth 100000 in
theorem c_X3_init (l : Launch) (D : va_G) (cI cJ : ClassId) (zh : Nat) (sz : Nat) : Met l yX3_init (Cond.code yX3_init cX3_init 1 none :: fb_all) ({ frames := 1, cells := 3, slots := 360, locals := 30 } : Room) (fb_PP D (fb_ty D cI cJ) [.ref zh] ([(zh, .inr (3, [.null, .null, .int 0, .null, .int 0]))] : va_W) sz) (fb_QV D (va_A ([(zh, .inr (3, [.null, .null, .int 0, .null, .int 0]))] : va_W) sz) (fun (_ : Nat × Nat × Nat) => True) (fun (t : Nat × Nat × Nat) => ([(zh, .inr (3, [.ref (t.1), .ref (t.2.1), .int 0, .ref (t.2.2), .int 0])), ((t.1), .inl (cJ, 120, .inr (.inl (fun _ => 0)))), ((t.2.1), .inl (cI, 120, .inl (fun _ => 0))), ((t.2.2), .inl (cI, 120, .inl (fun _ => 0)))] : va_W))) 3 360 (va_A ([(zh, .inr (3, [.null, .null, .int 0, .null, .int 0]))] : va_W) sz) := by
  refine fb_ent (Qf := fun A => (fb_QV D A (fun (_ : Nat × Nat × Nat) => True) (fun (t : Nat × Nat × Nat) => ([(zh, .inr (3, [.ref (t.1), .ref (t.2.1), .int 0, .ref (t.2.2), .int 0])), ((t.1), .inl (cJ, 120, .inr (.inl (fun _ => 0)))), ((t.2.1), .inl (cI, 120, .inl (fun _ => 0))), ((t.2.2), .inl (cI, 120, .inl (fun _ => 0)))] : va_W)))) (by decide +kernel) (Nat.le_of_ble_eq_true rfl) ?_
  intro p e s m args below meth c A ls X I hl hin
  obtain ⟨hx, hb, hr, hml, hown, hts, hlk, hA, hK, hF⟩ := id X
  have hl : lv_has ls 1 [(0, .ref zh)] := hl
  refine lv_aload_n hx hb dX3_init_0 rfl (lv_at hl 0 rfl) ?_
  refine fb_obj X hl fw_268 fw_224 fw_225 dX3_init_1 (Nat.le_of_ble_eq_true rfl) (Nat.le_of_ble_eq_true rfl) ?_
  refine lv_aload_n hx hb dX3_init_4 rfl (lv_at hl 0 rfl) ?_
  refine lv_bipush (v := (120 : Int32)) hx hb dX3_init_5 (by decide) ?_
  refine fb_newJ (N := 120) X I fw_262 (by decide) (Nat.le_of_ble_eq_true rfl) (Nat.le_of_ble_eq_true rfl) (Nat.le_of_ble_eq_true rfl) dX3_init_7 (fun x1 H I => ?_)
  have I : fb_In D A s.heap ([(zh, .inr (3, [.null, .null, .int 0, .null, .int 0])), (x1, .inl (cJ, 120, .inr (.inl (fun _ => 0))))] : va_W) H _ := I
  refine fb_putF X I hin (k := 0) (wn := ([(zh, .inr (3, [.ref x1, .null, .int 0, .null, .int 0])), (x1, .inl (cJ, 120, .inr (.inl (fun _ => 0))))] : va_W)) fu_X3 tyX3 tyX3_ok nmX3 0 rfl rfl (Nat.le_of_ble_eq_true rfl) fw_269 rfl rfl rfl rfl rfl rfl (Nat.le_of_ble_eq_true rfl) rfl dX3_init_9 (fun H locs I => ?_)
  refine lv_aload_n hx hb dX3_init_12 rfl (lv_at hl 0 rfl) ?_
  refine lv_bipush (v := (120 : Int32)) hx hb dX3_init_13 (by decide) ?_
  refine fb_newI (N := 120) X I fw_261 (by decide) (Nat.le_of_ble_eq_true rfl) (Nat.le_of_ble_eq_true rfl) (Nat.le_of_ble_eq_true rfl) dX3_init_15 (fun x2 H I => ?_)
  have I : fb_In D A s.heap ([(zh, .inr (3, [.ref x1, .null, .int 0, .null, .int 0])), (x1, .inl (cJ, 120, .inr (.inl (fun _ => 0)))), (x2, .inl (cI, 120, .inl (fun _ => 0)))] : va_W) H _ := I
  refine fb_putF X I hin (k := 1) (wn := ([(zh, .inr (3, [.ref x1, .ref x2, .int 0, .null, .int 0])), (x1, .inl (cJ, 120, .inr (.inl (fun _ => 0)))), (x2, .inl (cI, 120, .inl (fun _ => 0)))] : va_W)) fu_X3 tyX3 tyX3_ok nmX3 0 rfl rfl (Nat.le_of_ble_eq_true rfl) fw_270 rfl rfl rfl rfl rfl rfl (Nat.le_of_ble_eq_true rfl) rfl dX3_init_17 (fun H locs I => ?_)
  refine lv_aload_n hx hb dX3_init_20 rfl (lv_at hl 0 rfl) ?_
  refine lv_bipush (v := (120 : Int32)) hx hb dX3_init_21 (by decide) ?_
  refine fb_newI (N := 120) X I fw_261 (by decide) (Nat.le_of_ble_eq_true rfl) (Nat.le_of_ble_eq_true rfl) (Nat.le_of_ble_eq_true rfl) dX3_init_23 (fun x3 H I => ?_)
  have I : fb_In D A s.heap ([(zh, .inr (3, [.ref x1, .ref x2, .int 0, .null, .int 0])), (x1, .inl (cJ, 120, .inr (.inl (fun _ => 0)))), (x2, .inl (cI, 120, .inl (fun _ => 0))), (x3, .inl (cI, 120, .inl (fun _ => 0)))] : va_W) H _ := I
  refine fb_putF X I hin (k := 3) (wn := ([(zh, .inr (3, [.ref x1, .ref x2, .int 0, .ref x3, .int 0])), (x1, .inl (cJ, 120, .inr (.inl (fun _ => 0)))), (x2, .inl (cI, 120, .inl (fun _ => 0))), (x3, .inl (cI, 120, .inl (fun _ => 0)))] : va_W)) fu_X3 tyX3 tyX3_ok nmX3 0 rfl rfl (Nat.le_of_ble_eq_true rfl) fw_273 rfl rfl rfl rfl rfl rfl (Nat.le_of_ble_eq_true rfl) rfl dX3_init_25 (fun H locs I => ?_)
  have I := fb_In.pick (ws' := ([(zh, .inr (3, [.ref x1, .ref x2, .int 0, .ref x3, .int 0])), (x1, .inl (cJ, 120, .inr (.inl (fun _ => 0)))), (x2, .inl (cI, 120, .inl (fun _ => 0))), (x3, .inl (cI, 120, .inl (fun _ => 0)))] : va_W)) I [0, 1, 2, 3] (by decide) rfl
  exact fb_retV (u := (x1, x2, x3)) X I trivial dX3_init_28

set_option maxHeartbeats 4000000 in
set_option maxRecDepth 100000 in
theorem c_X9_init (l : Launch) (D : va_G) (cI cJ : ClassId) (zh : Nat) (sz : Nat) : Met l yX9_init (Cond.code yX9_init cX9_init 1 none :: fb_all) ({ frames := 1, cells := 4, slots := 8003, locals := 30 } : Room) (fb_PP D (fb_ty D cI cJ) [.ref zh] ([(zh, .inr (9, [.null, .int 0, .null, .null, .null, .int 0]))] : va_W) sz) (fb_QV D (va_A ([(zh, .inr (9, [.null, .int 0, .null, .null, .null, .int 0]))] : va_W) sz) (fun (_ : Nat × Nat × Nat × Nat) => True) (fun (t : Nat × Nat × Nat × Nat) => ([(zh, .inr (9, [.ref (t.1), .int 0, .ref (t.2.1), .ref (t.2.2.1), .ref (t.2.2.2), .int 0])), ((t.1), .inl (cI, 2000, .inl (fun _ => 0))), ((t.2.1), .inl (cI, 2001, .inl (fun _ => 0))), ((t.2.2.1), .inl (cI, 2001, .inl (fun _ => 0))), ((t.2.2.2), .inl (cJ, 2001, .inr (.inl (fun _ => 0))))] : va_W))) 4 8003 (va_A ([(zh, .inr (9, [.null, .int 0, .null, .null, .null, .int 0]))] : va_W) sz) := by
  refine fb_ent (Qf := fun A => (fb_QV D A (fun (_ : Nat × Nat × Nat × Nat) => True) (fun (t : Nat × Nat × Nat × Nat) => ([(zh, .inr (9, [.ref (t.1), .int 0, .ref (t.2.1), .ref (t.2.2.1), .ref (t.2.2.2), .int 0])), ((t.1), .inl (cI, 2000, .inl (fun _ => 0))), ((t.2.1), .inl (cI, 2001, .inl (fun _ => 0))), ((t.2.2.1), .inl (cI, 2001, .inl (fun _ => 0))), ((t.2.2.2), .inl (cJ, 2001, .inr (.inl (fun _ => 0))))] : va_W)))) (by decide +kernel) (Nat.le_of_ble_eq_true rfl) ?_
  intro p e s m args below meth c A ls X I hl hin
  obtain ⟨hx, hb, hr, hml, hown, hts, hlk, hA, hK, hF⟩ := id X
  have hl : lv_has ls 1 [(0, .ref zh)] := hl
  refine lv_aload_n hx hb dX9_init_0 rfl (lv_at hl 0 rfl) ?_
  refine fb_obj X hl fw_231 fw_224 fw_225 dX9_init_1 (Nat.le_of_ble_eq_true rfl) (Nat.le_of_ble_eq_true rfl) ?_
  refine lv_aload_n hx hb dX9_init_4 rfl (lv_at hl 0 rfl) ?_
  refine lv_sipush (v := (2000 : Int32)) hx hb dX9_init_5 (by decide) ?_
  refine fb_newI (N := 2000) X I fw_261 (by decide) (Nat.le_of_ble_eq_true rfl) (Nat.le_of_ble_eq_true rfl) (Nat.le_of_ble_eq_true rfl) dX9_init_8 (fun x1 H I => ?_)
  have I : fb_In D A s.heap ([(zh, .inr (9, [.null, .int 0, .null, .null, .null, .int 0])), (x1, .inl (cI, 2000, .inl (fun _ => 0)))] : va_W) H _ := I
  refine fb_putF X I hin (k := 0) (wn := ([(zh, .inr (9, [.ref x1, .int 0, .null, .null, .null, .int 0])), (x1, .inl (cI, 2000, .inl (fun _ => 0)))] : va_W)) fu_X9 tyX9 tyX9_ok nmX9 0 rfl rfl (Nat.le_of_ble_eq_true rfl) fw_232 rfl rfl rfl rfl rfl rfl (Nat.le_of_ble_eq_true rfl) rfl dX9_init_10 (fun H locs I => ?_)
  refine lv_aload_n hx hb dX9_init_13 rfl (lv_at hl 0 rfl) ?_
  refine lv_sipush (v := (2001 : Int32)) hx hb dX9_init_14 (by decide) ?_
  refine fb_newI (N := 2001) X I fw_261 (by decide) (Nat.le_of_ble_eq_true rfl) (Nat.le_of_ble_eq_true rfl) (Nat.le_of_ble_eq_true rfl) dX9_init_17 (fun x2 H I => ?_)
  have I : fb_In D A s.heap ([(zh, .inr (9, [.ref x1, .int 0, .null, .null, .null, .int 0])), (x1, .inl (cI, 2000, .inl (fun _ => 0))), (x2, .inl (cI, 2001, .inl (fun _ => 0)))] : va_W) H _ := I
  refine fb_putF X I hin (k := 2) (wn := ([(zh, .inr (9, [.ref x1, .int 0, .ref x2, .null, .null, .int 0])), (x1, .inl (cI, 2000, .inl (fun _ => 0))), (x2, .inl (cI, 2001, .inl (fun _ => 0)))] : va_W)) fu_X9 tyX9 tyX9_ok nmX9 0 rfl rfl (Nat.le_of_ble_eq_true rfl) fw_237 rfl rfl rfl rfl rfl rfl (Nat.le_of_ble_eq_true rfl) rfl dX9_init_19 (fun H locs I => ?_)
  refine lv_aload_n hx hb dX9_init_22 rfl (lv_at hl 0 rfl) ?_
  refine lv_sipush (v := (2001 : Int32)) hx hb dX9_init_23 (by decide) ?_
  refine fb_newI (N := 2001) X I fw_261 (by decide) (Nat.le_of_ble_eq_true rfl) (Nat.le_of_ble_eq_true rfl) (Nat.le_of_ble_eq_true rfl) dX9_init_26 (fun x3 H I => ?_)
  have I : fb_In D A s.heap ([(zh, .inr (9, [.ref x1, .int 0, .ref x2, .null, .null, .int 0])), (x1, .inl (cI, 2000, .inl (fun _ => 0))), (x2, .inl (cI, 2001, .inl (fun _ => 0))), (x3, .inl (cI, 2001, .inl (fun _ => 0)))] : va_W) H _ := I
  refine fb_putF X I hin (k := 3) (wn := ([(zh, .inr (9, [.ref x1, .int 0, .ref x2, .ref x3, .null, .int 0])), (x1, .inl (cI, 2000, .inl (fun _ => 0))), (x2, .inl (cI, 2001, .inl (fun _ => 0))), (x3, .inl (cI, 2001, .inl (fun _ => 0)))] : va_W)) fu_X9 tyX9 tyX9_ok nmX9 0 rfl rfl (Nat.le_of_ble_eq_true rfl) fw_239 rfl rfl rfl rfl rfl rfl (Nat.le_of_ble_eq_true rfl) rfl dX9_init_28 (fun H locs I => ?_)
  refine lv_aload_n hx hb dX9_init_31 rfl (lv_at hl 0 rfl) ?_
  refine lv_sipush (v := (2001 : Int32)) hx hb dX9_init_32 (by decide) ?_
  refine fb_newJ (N := 2001) X I fw_262 (by decide) (Nat.le_of_ble_eq_true rfl) (Nat.le_of_ble_eq_true rfl) (Nat.le_of_ble_eq_true rfl) dX9_init_35 (fun x4 H I => ?_)
  have I : fb_In D A s.heap ([(zh, .inr (9, [.ref x1, .int 0, .ref x2, .ref x3, .null, .int 0])), (x1, .inl (cI, 2000, .inl (fun _ => 0))), (x2, .inl (cI, 2001, .inl (fun _ => 0))), (x3, .inl (cI, 2001, .inl (fun _ => 0))), (x4, .inl (cJ, 2001, .inr (.inl (fun _ => 0))))] : va_W) H _ := I
  refine fb_putF X I hin (k := 4) (wn := ([(zh, .inr (9, [.ref x1, .int 0, .ref x2, .ref x3, .ref x4, .int 0])), (x1, .inl (cI, 2000, .inl (fun _ => 0))), (x2, .inl (cI, 2001, .inl (fun _ => 0))), (x3, .inl (cI, 2001, .inl (fun _ => 0))), (x4, .inl (cJ, 2001, .inr (.inl (fun _ => 0))))] : va_W)) fu_X9 tyX9 tyX9_ok nmX9 0 rfl rfl (Nat.le_of_ble_eq_true rfl) fw_241 rfl rfl rfl rfl rfl rfl (Nat.le_of_ble_eq_true rfl) rfl dX9_init_37 (fun H locs I => ?_)
  have I := fb_In.pick (ws' := ([(zh, .inr (9, [.ref x1, .int 0, .ref x2, .ref x3, .ref x4, .int 0])), (x1, .inl (cI, 2000, .inl (fun _ => 0))), (x2, .inl (cI, 2001, .inl (fun _ => 0))), (x3, .inl (cI, 2001, .inl (fun _ => 0))), (x4, .inl (cJ, 2001, .inr (.inl (fun _ => 0))))] : va_W)) I [0, 1, 2, 3, 4] (by decide) rfl
  exact fb_retV (u := (x1, x2, x3, x4)) X I trivial dX9_init_40

set_option maxHeartbeats 4000000 in
set_option maxRecDepth 100000 in
theorem c_X10_init (l : Launch) (D : va_G) (cI cJ : ClassId) (zh zy1 zy2 : Nat) (sz : Nat) : Met l yX10_init (Cond.code yX10_init cX10_init 3 none :: fb_all) ({ frames := 1, cells := 0, slots := 0, locals := 30 } : Room) (fb_PP D (fb_ty D cI cJ) [.ref zh, .ref zy1, .ref zy2] ([(zh, .inr (10, [.null, .null, .int 0, .int 0, .int 0, .int 0, .int 0]))] : va_W) sz) (fb_QV D (va_A ([(zh, .inr (10, [.null, .null, .int 0, .int 0, .int 0, .int 0, .int 0]))] : va_W) sz) (fun (_ : Unit) => True) (fun (t : Unit) => ([(zh, .inr (10, [.ref zy1, .ref zy2, .int 0, .int 0, .int 0, .int 0, .int 0]))] : va_W))) 0 0 (va_A ([(zh, .inr (10, [.null, .null, .int 0, .int 0, .int 0, .int 0, .int 0]))] : va_W) sz) := by
  refine fb_ent (Qf := fun A => (fb_QV D A (fun (_ : Unit) => True) (fun (t : Unit) => ([(zh, .inr (10, [.ref zy1, .ref zy2, .int 0, .int 0, .int 0, .int 0, .int 0]))] : va_W)))) (by decide +kernel) (Nat.le_of_ble_eq_true rfl) ?_
  intro p e s m args below meth c A ls X I hl hin
  obtain ⟨hx, hb, hr, hml, hown, hts, hlk, hA, hK, hF⟩ := id X
  have hl : lv_has ls 3 [(0, .ref zh), (1, .ref zy1), (2, .ref zy2)] := hl
  refine lv_aload_n hx hb dX10_init_0 rfl (lv_at hl 0 rfl) ?_
  refine fb_obj X hl fw_293 fw_224 fw_225 dX10_init_1 (Nat.le_of_ble_eq_true rfl) (Nat.le_of_ble_eq_true rfl) ?_
  refine lv_aload_n hx hb dX10_init_4 rfl (lv_at hl 0 rfl) ?_
  refine lv_aload_n hx hb dX10_init_5 rfl (lv_at hl 1 rfl) ?_
  refine fb_putF X I hin (k := 0) (wn := ([(zh, .inr (10, [.ref zy1, .null, .int 0, .int 0, .int 0, .int 0, .int 0]))] : va_W)) fu_X10 tyX10 tyX10_ok nmX10 0 rfl rfl (Nat.le_of_ble_eq_true rfl) fw_294 rfl rfl rfl rfl rfl rfl (Nat.le_of_ble_eq_true rfl) rfl dX10_init_6 (fun H locs I => ?_)
  refine lv_aload_n hx hb dX10_init_9 rfl (lv_at hl 0 rfl) ?_
  refine lv_aload_n hx hb dX10_init_10 rfl (lv_at hl 2 rfl) ?_
  refine fb_putF X I hin (k := 1) (wn := ([(zh, .inr (10, [.ref zy1, .ref zy2, .int 0, .int 0, .int 0, .int 0, .int 0]))] : va_W)) fu_X10 tyX10 tyX10_ok nmX10 0 rfl rfl (Nat.le_of_ble_eq_true rfl) fw_295 rfl rfl rfl rfl rfl rfl (Nat.le_of_ble_eq_true rfl) rfl dX10_init_11 (fun H locs I => ?_)
  have I := fb_In.pick (ws' := ([(zh, .inr (10, [.ref zy1, .ref zy2, .int 0, .int 0, .int 0, .int 0, .int 0]))] : va_W)) I [0] (by decide) rfl
  exact fb_retV (u := ()) X I trivial dX10_init_14

set_option maxHeartbeats 4000000 in
set_option maxRecDepth 100000 in
theorem c_X1_init (l : Launch) (D : va_G) (cI cJ : ClassId) (zh : Nat) (sz : Nat) : Met l yX1_init (Cond.code yX1_init cX1_init 1 none :: fb_all) ({ frames := 1, cells := 0, slots := 0, locals := 30 } : Room) (fb_PP D (fb_ty D cI cJ) [.ref zh] ([(zh, .inr (1, [.int 0, .int 0, .int 0, .int 0, .int 0, .int 0, .int 0, .int 0, .int 0]))] : va_W) sz) (fb_QV D (va_A ([(zh, .inr (1, [.int 0, .int 0, .int 0, .int 0, .int 0, .int 0, .int 0, .int 0, .int 0]))] : va_W) sz) (fun (_ : Unit) => True) (fun (t : Unit) => ([(zh, .inr (1, [.int 0, .int 0, .int 0, .int 0, .int 0, .int 0, .int 0, .int 0, .int 0]))] : va_W))) 0 0 (va_A ([(zh, .inr (1, [.int 0, .int 0, .int 0, .int 0, .int 0, .int 0, .int 0, .int 0, .int 0]))] : va_W) sz) := by
  refine fb_ent (Qf := fun A => (fb_QV D A (fun (_ : Unit) => True) (fun (t : Unit) => ([(zh, .inr (1, [.int 0, .int 0, .int 0, .int 0, .int 0, .int 0, .int 0, .int 0, .int 0]))] : va_W)))) (by decide +kernel) (Nat.le_of_ble_eq_true rfl) ?_
  intro p e s m args below meth c A ls X I hl hin
  obtain ⟨hx, hb, hr, hml, hown, hts, hlk, hA, hK, hF⟩ := id X
  have hl : lv_has ls 1 [(0, .ref zh)] := hl
  refine lv_aload_n hx hb dX1_init_0 rfl (lv_at hl 0 rfl) ?_
  refine fb_obj X hl fw_332 fw_224 fw_225 dX1_init_1 (Nat.le_of_ble_eq_true rfl) (Nat.le_of_ble_eq_true rfl) ?_
  have I := fb_In.pick (ws' := ([(zh, .inr (1, [.int 0, .int 0, .int 0, .int 0, .int 0, .int 0, .int 0, .int 0, .int 0]))] : va_W)) I [0] (by decide) rfl
  exact fb_retV (u := ()) X I trivial dX1_init_4

set_option maxHeartbeats 4000000 in
set_option maxRecDepth 100000 in
theorem c_X4_init (l : Launch) (D : va_G) (cI cJ : ClassId) (zh zy1 zy2 zy3 zy4 : Nat) (sz : Nat) : Met l yX4_init (Cond.code yX4_init cX4_init 5 none :: fb_all) ({ frames := 1, cells := 5, slots := 35076, locals := 30 } : Room) (fb_PP D (fb_ty D cI cJ) [.ref zh, .ref zy1, .ref zy2, .ref zy3, .ref zy4] ([(zh, .inr (4, [.null, .null, .null, .null, .null, .null, .null, .null, .int 0, .null, .int 0, .int 0, .int 0, .int 0, .int 0]))] : va_W) sz) (fb_QV D (va_A ([(zh, .inr (4, [.null, .null, .null, .null, .null, .null, .null, .null, .int 0, .null, .int 0, .int 0, .int 0, .int 0, .int 0]))] : va_W) sz) (fun (_ : Nat × Nat × Nat × Nat × Nat) => True) (fun (t : Nat × Nat × Nat × Nat × Nat) => ([(zh, .inr (4, [.ref zy1, .ref zy2, .ref zy3, .ref zy4, .ref (t.1), .ref (t.2.1), .ref (t.2.2.1), .ref (t.2.2.2.1), .int 0, .ref (t.2.2.2.2), .int 0, .int 0, .int 0, .int 0, .int (-1 : Int32)])), ((t.1), .inl (cI, 11008, .inl (fun _ => 0))), ((t.2.1), .inl (cI, 11008, .inl (fun _ => 0))), ((t.2.2.1), .inl (cI, 11008, .inl (fun _ => 0))), ((t.2.2.2.1), .inl (cI, 2048, .inl (fun _ => 0))), ((t.2.2.2.2), .inl (cI, 4, .inl (fun _ => 0)))] : va_W))) 5 35076 (va_A ([(zh, .inr (4, [.null, .null, .null, .null, .null, .null, .null, .null, .int 0, .null, .int 0, .int 0, .int 0, .int 0, .int 0]))] : va_W) sz) := by
  refine fb_ent (Qf := fun A => (fb_QV D A (fun (_ : Nat × Nat × Nat × Nat × Nat) => True) (fun (t : Nat × Nat × Nat × Nat × Nat) => ([(zh, .inr (4, [.ref zy1, .ref zy2, .ref zy3, .ref zy4, .ref (t.1), .ref (t.2.1), .ref (t.2.2.1), .ref (t.2.2.2.1), .int 0, .ref (t.2.2.2.2), .int 0, .int 0, .int 0, .int 0, .int (-1 : Int32)])), ((t.1), .inl (cI, 11008, .inl (fun _ => 0))), ((t.2.1), .inl (cI, 11008, .inl (fun _ => 0))), ((t.2.2.1), .inl (cI, 11008, .inl (fun _ => 0))), ((t.2.2.2.1), .inl (cI, 2048, .inl (fun _ => 0))), ((t.2.2.2.2), .inl (cI, 4, .inl (fun _ => 0)))] : va_W)))) (by decide +kernel) (Nat.le_of_ble_eq_true rfl) ?_
  intro p e s m args below meth c A ls X I hl hin
  obtain ⟨hx, hb, hr, hml, hown, hts, hlk, hA, hK, hF⟩ := id X
  have hl : lv_has ls 5 [(0, .ref zh), (1, .ref zy1), (2, .ref zy2), (3, .ref zy3), (4, .ref zy4)] := hl
  refine lv_aload_n hx hb dX4_init_0 rfl (lv_at hl 0 rfl) ?_
  refine fb_obj X hl fw_397 fw_224 fw_225 dX4_init_1 (Nat.le_of_ble_eq_true rfl) (Nat.le_of_ble_eq_true rfl) ?_
  refine lv_aload_n hx hb dX4_init_4 rfl (lv_at hl 0 rfl) ?_
  refine lv_sipush (v := (11008 : Int32)) hx hb dX4_init_5 (by decide) ?_
  refine fb_newI (N := 11008) X I fw_261 (by decide) (Nat.le_of_ble_eq_true rfl) (Nat.le_of_ble_eq_true rfl) (Nat.le_of_ble_eq_true rfl) dX4_init_8 (fun x1 H I => ?_)
  have I : fb_In D A s.heap ([(zh, .inr (4, [.null, .null, .null, .null, .null, .null, .null, .null, .int 0, .null, .int 0, .int 0, .int 0, .int 0, .int 0])), (x1, .inl (cI, 11008, .inl (fun _ => 0)))] : va_W) H _ := I
  refine fb_putF X I hin (k := 4) (wn := ([(zh, .inr (4, [.null, .null, .null, .null, .ref x1, .null, .null, .null, .int 0, .null, .int 0, .int 0, .int 0, .int 0, .int 0])), (x1, .inl (cI, 11008, .inl (fun _ => 0)))] : va_W)) fu_X4 tyX4 tyX4_ok nmX4 0 rfl rfl (Nat.le_of_ble_eq_true rfl) fw_402 rfl rfl rfl rfl rfl rfl (Nat.le_of_ble_eq_true rfl) rfl dX4_init_10 (fun H locs I => ?_)
  refine lv_aload_n hx hb dX4_init_13 rfl (lv_at hl 0 rfl) ?_
  refine lv_sipush (v := (11008 : Int32)) hx hb dX4_init_14 (by decide) ?_
  refine fb_newI (N := 11008) X I fw_261 (by decide) (Nat.le_of_ble_eq_true rfl) (Nat.le_of_ble_eq_true rfl) (Nat.le_of_ble_eq_true rfl) dX4_init_17 (fun x2 H I => ?_)
  have I : fb_In D A s.heap ([(zh, .inr (4, [.null, .null, .null, .null, .ref x1, .null, .null, .null, .int 0, .null, .int 0, .int 0, .int 0, .int 0, .int 0])), (x1, .inl (cI, 11008, .inl (fun _ => 0))), (x2, .inl (cI, 11008, .inl (fun _ => 0)))] : va_W) H _ := I
  refine fb_putF X I hin (k := 5) (wn := ([(zh, .inr (4, [.null, .null, .null, .null, .ref x1, .ref x2, .null, .null, .int 0, .null, .int 0, .int 0, .int 0, .int 0, .int 0])), (x1, .inl (cI, 11008, .inl (fun _ => 0))), (x2, .inl (cI, 11008, .inl (fun _ => 0)))] : va_W)) fu_X4 tyX4 tyX4_ok nmX4 0 rfl rfl (Nat.le_of_ble_eq_true rfl) fw_404 rfl rfl rfl rfl rfl rfl (Nat.le_of_ble_eq_true rfl) rfl dX4_init_19 (fun H locs I => ?_)
  refine lv_aload_n hx hb dX4_init_22 rfl (lv_at hl 0 rfl) ?_
  refine lv_sipush (v := (11008 : Int32)) hx hb dX4_init_23 (by decide) ?_
  refine fb_newI (N := 11008) X I fw_261 (by decide) (Nat.le_of_ble_eq_true rfl) (Nat.le_of_ble_eq_true rfl) (Nat.le_of_ble_eq_true rfl) dX4_init_26 (fun x3 H I => ?_)
  have I : fb_In D A s.heap ([(zh, .inr (4, [.null, .null, .null, .null, .ref x1, .ref x2, .null, .null, .int 0, .null, .int 0, .int 0, .int 0, .int 0, .int 0])), (x1, .inl (cI, 11008, .inl (fun _ => 0))), (x2, .inl (cI, 11008, .inl (fun _ => 0))), (x3, .inl (cI, 11008, .inl (fun _ => 0)))] : va_W) H _ := I
  refine fb_putF X I hin (k := 6) (wn := ([(zh, .inr (4, [.null, .null, .null, .null, .ref x1, .ref x2, .ref x3, .null, .int 0, .null, .int 0, .int 0, .int 0, .int 0, .int 0])), (x1, .inl (cI, 11008, .inl (fun _ => 0))), (x2, .inl (cI, 11008, .inl (fun _ => 0))), (x3, .inl (cI, 11008, .inl (fun _ => 0)))] : va_W)) fu_X4 tyX4 tyX4_ok nmX4 0 rfl rfl (Nat.le_of_ble_eq_true rfl) fw_405 rfl rfl rfl rfl rfl rfl (Nat.le_of_ble_eq_true rfl) rfl dX4_init_28 (fun H locs I => ?_)
  refine lv_aload_n hx hb dX4_init_31 rfl (lv_at hl 0 rfl) ?_
  refine lv_sipush (v := (2048 : Int32)) hx hb dX4_init_32 (by decide) ?_
  refine fb_newI (N := 2048) X I fw_261 (by decide) (Nat.le_of_ble_eq_true rfl) (Nat.le_of_ble_eq_true rfl) (Nat.le_of_ble_eq_true rfl) dX4_init_35 (fun x4 H I => ?_)
  have I : fb_In D A s.heap ([(zh, .inr (4, [.null, .null, .null, .null, .ref x1, .ref x2, .ref x3, .null, .int 0, .null, .int 0, .int 0, .int 0, .int 0, .int 0])), (x1, .inl (cI, 11008, .inl (fun _ => 0))), (x2, .inl (cI, 11008, .inl (fun _ => 0))), (x3, .inl (cI, 11008, .inl (fun _ => 0))), (x4, .inl (cI, 2048, .inl (fun _ => 0)))] : va_W) H _ := I
  refine fb_putF X I hin (k := 7) (wn := ([(zh, .inr (4, [.null, .null, .null, .null, .ref x1, .ref x2, .ref x3, .ref x4, .int 0, .null, .int 0, .int 0, .int 0, .int 0, .int 0])), (x1, .inl (cI, 11008, .inl (fun _ => 0))), (x2, .inl (cI, 11008, .inl (fun _ => 0))), (x3, .inl (cI, 11008, .inl (fun _ => 0))), (x4, .inl (cI, 2048, .inl (fun _ => 0)))] : va_W)) fu_X4 tyX4 tyX4_ok nmX4 0 rfl rfl (Nat.le_of_ble_eq_true rfl) fw_407 rfl rfl rfl rfl rfl rfl (Nat.le_of_ble_eq_true rfl) rfl dX4_init_37 (fun H locs I => ?_)
  refine lv_aload_n hx hb dX4_init_40 rfl (lv_at hl 0 rfl) ?_
  refine lv_iconst (v := (4 : Int32)) hx hb dX4_init_41 (by decide) ?_
  refine fb_newI (N := 4) X I fw_261 (by decide) (Nat.le_of_ble_eq_true rfl) (Nat.le_of_ble_eq_true rfl) (Nat.le_of_ble_eq_true rfl) dX4_init_42 (fun x5 H I => ?_)
  have I : fb_In D A s.heap ([(zh, .inr (4, [.null, .null, .null, .null, .ref x1, .ref x2, .ref x3, .ref x4, .int 0, .null, .int 0, .int 0, .int 0, .int 0, .int 0])), (x1, .inl (cI, 11008, .inl (fun _ => 0))), (x2, .inl (cI, 11008, .inl (fun _ => 0))), (x3, .inl (cI, 11008, .inl (fun _ => 0))), (x4, .inl (cI, 2048, .inl (fun _ => 0))), (x5, .inl (cI, 4, .inl (fun _ => 0)))] : va_W) H _ := I
  refine fb_putF X I hin (k := 9) (wn := ([(zh, .inr (4, [.null, .null, .null, .null, .ref x1, .ref x2, .ref x3, .ref x4, .int 0, .ref x5, .int 0, .int 0, .int 0, .int 0, .int 0])), (x1, .inl (cI, 11008, .inl (fun _ => 0))), (x2, .inl (cI, 11008, .inl (fun _ => 0))), (x3, .inl (cI, 11008, .inl (fun _ => 0))), (x4, .inl (cI, 2048, .inl (fun _ => 0))), (x5, .inl (cI, 4, .inl (fun _ => 0)))] : va_W)) fu_X4 tyX4 tyX4_ok nmX4 0 rfl rfl (Nat.le_of_ble_eq_true rfl) fw_409 rfl rfl rfl rfl rfl rfl (Nat.le_of_ble_eq_true rfl) rfl dX4_init_44 (fun H locs I => ?_)
  refine lv_aload_n hx hb dX4_init_47 rfl (lv_at hl 0 rfl) ?_
  refine lv_iconst (v := (-1 : Int32)) hx hb dX4_init_48 (by decide) ?_
  refine fb_put X I (k := 14) (wn := ([(zh, .inr (4, [.null, .null, .null, .null, .ref x1, .ref x2, .ref x3, .ref x4, .int 0, .ref x5, .int 0, .int 0, .int 0, .int 0, .int (-1 : Int32)])), (x1, .inl (cI, 11008, .inl (fun _ => 0))), (x2, .inl (cI, 11008, .inl (fun _ => 0))), (x3, .inl (cI, 11008, .inl (fun _ => 0))), (x4, .inl (cI, 2048, .inl (fun _ => 0))), (x5, .inl (cI, 4, .inl (fun _ => 0)))] : va_W)) fu_X4 tyX4 tyX4_ok nmX4 0 rfl rfl (Nat.le_of_ble_eq_true rfl) fw_415 rfl rfl rfl rfl rfl (Nat.le_of_ble_eq_true rfl) rfl dX4_init_49 (fun H locs I => ?_)
  refine lv_aload_n hx hb dX4_init_52 rfl (lv_at hl 0 rfl) ?_
  refine lv_aload_n hx hb dX4_init_53 rfl (lv_at hl 1 rfl) ?_
  refine fb_putF X I hin (k := 0) (wn := ([(zh, .inr (4, [.ref zy1, .null, .null, .null, .ref x1, .ref x2, .ref x3, .ref x4, .int 0, .ref x5, .int 0, .int 0, .int 0, .int 0, .int (-1 : Int32)])), (x1, .inl (cI, 11008, .inl (fun _ => 0))), (x2, .inl (cI, 11008, .inl (fun _ => 0))), (x3, .inl (cI, 11008, .inl (fun _ => 0))), (x4, .inl (cI, 2048, .inl (fun _ => 0))), (x5, .inl (cI, 4, .inl (fun _ => 0)))] : va_W)) fu_X4 tyX4 tyX4_ok nmX4 0 rfl rfl (Nat.le_of_ble_eq_true rfl) fw_398 rfl rfl rfl rfl rfl rfl (Nat.le_of_ble_eq_true rfl) rfl dX4_init_54 (fun H locs I => ?_)
  refine lv_aload_n hx hb dX4_init_57 rfl (lv_at hl 0 rfl) ?_
  refine lv_aload_n hx hb dX4_init_58 rfl (lv_at hl 2 rfl) ?_
  refine fb_putF X I hin (k := 1) (wn := ([(zh, .inr (4, [.ref zy1, .ref zy2, .null, .null, .ref x1, .ref x2, .ref x3, .ref x4, .int 0, .ref x5, .int 0, .int 0, .int 0, .int 0, .int (-1 : Int32)])), (x1, .inl (cI, 11008, .inl (fun _ => 0))), (x2, .inl (cI, 11008, .inl (fun _ => 0))), (x3, .inl (cI, 11008, .inl (fun _ => 0))), (x4, .inl (cI, 2048, .inl (fun _ => 0))), (x5, .inl (cI, 4, .inl (fun _ => 0)))] : va_W)) fu_X4 tyX4 tyX4_ok nmX4 0 rfl rfl (Nat.le_of_ble_eq_true rfl) fw_399 rfl rfl rfl rfl rfl rfl (Nat.le_of_ble_eq_true rfl) rfl dX4_init_59 (fun H locs I => ?_)
  refine lv_aload_n hx hb dX4_init_62 rfl (lv_at hl 0 rfl) ?_
  refine lv_aload_n hx hb dX4_init_63 rfl (lv_at hl 3 rfl) ?_
  refine fb_putF X I hin (k := 2) (wn := ([(zh, .inr (4, [.ref zy1, .ref zy2, .ref zy3, .null, .ref x1, .ref x2, .ref x3, .ref x4, .int 0, .ref x5, .int 0, .int 0, .int 0, .int 0, .int (-1 : Int32)])), (x1, .inl (cI, 11008, .inl (fun _ => 0))), (x2, .inl (cI, 11008, .inl (fun _ => 0))), (x3, .inl (cI, 11008, .inl (fun _ => 0))), (x4, .inl (cI, 2048, .inl (fun _ => 0))), (x5, .inl (cI, 4, .inl (fun _ => 0)))] : va_W)) fu_X4 tyX4 tyX4_ok nmX4 0 rfl rfl (Nat.le_of_ble_eq_true rfl) fw_400 rfl rfl rfl rfl rfl rfl (Nat.le_of_ble_eq_true rfl) rfl dX4_init_64 (fun H locs I => ?_)
  refine lv_aload_n hx hb dX4_init_67 rfl (lv_at hl 0 rfl) ?_
  refine lv_aload hx hb dX4_init_68 (lv_at hl 4 rfl) ?_
  refine fb_putF X I hin (k := 3) (wn := ([(zh, .inr (4, [.ref zy1, .ref zy2, .ref zy3, .ref zy4, .ref x1, .ref x2, .ref x3, .ref x4, .int 0, .ref x5, .int 0, .int 0, .int 0, .int 0, .int (-1 : Int32)])), (x1, .inl (cI, 11008, .inl (fun _ => 0))), (x2, .inl (cI, 11008, .inl (fun _ => 0))), (x3, .inl (cI, 11008, .inl (fun _ => 0))), (x4, .inl (cI, 2048, .inl (fun _ => 0))), (x5, .inl (cI, 4, .inl (fun _ => 0)))] : va_W)) fu_X4 tyX4 tyX4_ok nmX4 0 rfl rfl (Nat.le_of_ble_eq_true rfl) fw_401 rfl rfl rfl rfl rfl rfl (Nat.le_of_ble_eq_true rfl) rfl dX4_init_70 (fun H locs I => ?_)
  have I := fb_In.pick (ws' := ([(zh, .inr (4, [.ref zy1, .ref zy2, .ref zy3, .ref zy4, .ref x1, .ref x2, .ref x3, .ref x4, .int 0, .ref x5, .int 0, .int 0, .int 0, .int 0, .int (-1 : Int32)])), (x1, .inl (cI, 11008, .inl (fun _ => 0))), (x2, .inl (cI, 11008, .inl (fun _ => 0))), (x3, .inl (cI, 11008, .inl (fun _ => 0))), (x4, .inl (cI, 2048, .inl (fun _ => 0))), (x5, .inl (cI, 4, .inl (fun _ => 0)))] : va_W)) I [0, 1, 2, 3, 4, 5] (by decide) rfl
  exact fb_retV (u := (x1, x2, x3, x4, x5)) X I trivial dX4_init_73
end
section
theorem fb_In.rowq {D : va_G} {A : Nat → Prop} {H0 : Heap} {ws : va_W} {H : Heap} {locs : List Loc} (I : fb_In D A H0 ws H locs) (k : Nat) {a : Nat} {cA : ClassId} {n : Nat} {f g : Nat → Option Nat} {wn : va_W} (ha : ws[k]? = some (a, .inl (cA, n, .inr (.inr (.inr (.inr f)))))) (h : ∀ j, j < n → f j = g j) (hwn : ws.set k (a, .inl (cA, n, .inr (.inr (.inr (.inr g))))) = wn) : fb_In D A H0 wn H locs := by
  subst hwn
  refine ⟨?_, I.2.1.set ha, I.2.2⟩
  intro i q hq
  rw [List.getElem?_set] at hq
  by_cases hki : k = i
  · rw [if_pos hki] at hq
    by_cases hl : k < ws.length
    · rw [if_pos hl] at hq
      cases hq
      have h1 := I.1 k _ ha
      show H[a]? = some (vp_cell cA (n, .inr (.inr (.inr (.inr g)))))
      rw [vp_cell_q]
      have h2 : H[a]? = some (vp_cell cA (n, .inr (.inr (.inr (.inr f))))) := h1
      rw [vp_cell_q] at h2
      rw [h2]
      unfold arrV
      have e : (fun j : Fin n => va_rf (f j.val)) = (fun j : Fin n => va_rf (g j.val)) := funext fun j => by rw [h j.val j.isLt]
      rw [e]
    · rw [if_neg hl] at hq; cases hq
  · rw [if_neg hki] at hq
    exact I.1 i q hq
/-- where a row's lines are -/
def fb_ln (f : Nat → Option Nat) (j : Nat) : Nat := (f j).getD 0
theorem fb_ln_up {f : Nat → Option Nat} {j x : Nat} (h : ∀ i, i < j → f i = some (fb_ln f i)) : ∀ i, i < j + 1 → va_up f j (some x) i = some (fb_ln (va_up f j (some x)) i) := by
  intro i hi
  unfold fb_ln
  by_cases q : i = j
  · subst q; simp [va_up]
  · simp only [va_up, if_neg q]
    exact h i (by omega)
set_option maxHeartbeats 4000000 in
set_option maxRecDepth 100000 in
theorem b_X8_init_36 {p : Program} {l : Launch} {e : Env} {s : State} {m : MethodId} {args : Array Value} {below : List Frame} {meth : Method} {c : Code} {D : va_G} {cI cJ : ClassId} {A : Nat → Prop} {zh zy1 zy2 xa xb x0 : Nat} (X : fb_Bx p s m args meth c cX8_init RX8 4 none D (fb_ty D cI cJ) A) : ∀ (n : Nat) {j : Nat} {f : Nat → Option Nat} {H : Heap} {locs : List Loc} {ls : Array Slot} (hm : 120 - j < n) (hj : j ≤ 120) (hj1 : 1 ≤ j) (hf : ∀ i, i < j → f i = some (fb_ln f i)) (hf0 : f 0 = some x0) (I : fb_In D A s.heap ([(zh, .inr (8, [.ref zy1, .ref zy2, .ref xa, .ref xb, .int 0])), (xa, .inl (D.1 23, 120, .inr (.inr (.inr (.inr f))))), (x0, .inr (1, [.int 0, .int 0, .int 0, .int 0, .int 0, .int 0, .int 0, .int 0, .int 0]))] : va_W) H locs) (hl : lv_has ls 4 [(0, .ref zh), (1, .ref zy1), (2, .ref zy2), (3, .int (nI j))]), W p l e ({ frames := 2, cells := 122, slots := 1209, locals := 50 } : Room) s m args below meth c H locs (2 + j) (129 + 9 * j) (MQ below (fb_QV D A (fun (_ : Nat × Nat × (Nat → Nat)) => True) (fun (t : Nat × Nat × (Nat → Nat)) => ([(zh, .inr (8, [.ref zy1, .ref zy2, .ref t.1, .ref t.2.1, .int 0])), (t.1, .inl (D.1 23, 120, .inr (.inr (.inr (.inr (fun j => some (t.2.2 j))))))), (t.2.2 0, .inr (1, [.int 0, .int 0, .int 0, .int 0, .int 0, .int 0, .int 0, .int 0, .int 0]))] : va_W))) args s 122 1209 A) (F0 m 36 ls []) := by
  intro n
  obtain ⟨hx, hb, hr, hml, hown, hts, hlk, hA, hK, hF⟩ := id X
  induction n with
  | zero =>
    intro j f H locs ls hm
    exact absurd hm (Nat.not_lt_zero _)
  | succ n ih =>
    intro j f H locs ls hm hj hj1 hf hf0 I hl
    refine lv_iload_n hx hb dX8_init_36 rfl (lv_at hl 3 rfl) ?_
    refine lv_aload_n hx hb dX8_init_37 rfl (lv_at hl 0 rfl) ?_
    refine fb_get X I (k := 2) fu_X8 0 rfl rfl (Nat.le_of_ble_eq_true rfl) fw_377 rfl rfl dX8_init_38 ?_
    refine va_alen (v := nI 120) hx hb hK.1 I.1 1 5 rfl rfl rfl dX8_init_41 ?_
    refine lv_icmp_ge (tgt := 64) hx hb dX8_init_42 (by decide) (fun c1 => ?_) (fun c1 => ?_)
    · have h9 : ¬ j < 120 := fun q => nI_ge q (by decide) c1
      refine W.widen (k := 122) (n := 1209) (by omega) (by omega) ?_
      have I := I.rowq 1 (g := fun i => some (fb_ln f i)) rfl (fun i hi => hf i (by omega)) rfl
      have e0 : fb_ln f 0 = x0 := by unfold fb_ln; rw [hf0]; rfl
      subst e0
      exact fb_retV (u := (xa, xb, fb_ln f)) X I trivial dX8_init_64
    · have h9 : j < 120 := Nat.lt_of_not_le fun q => c1 (nI_le q (by omega))
      have hc1 : 2 + j + 1 ≤ 122 := by omega
      have hs1 : 129 + 9 * j + 9 ≤ 1209 := by omega
      refine lv_aload_n hx hb dX8_init_45 rfl (lv_at hl 0 rfl) ?_
      refine fb_get X I (k := 2) fu_X8 0 rfl rfl (Nat.le_of_ble_eq_true rfl) fw_377 rfl rfl dX8_init_46 ?_
      refine lv_iload_n hx hb dX8_init_49 rfl (lv_at hl 3 rfl) ?_
      refine fb_newO X I (ci := 1) (fs := [.int 0, .int 0, .int 0, .int 0, .int 0, .int 0, .int 0, .int 0, .int 0]) fu_X1 tyX1 tyX1_ok fw_326 fw_328 fw_196 rfl (by decide +kernel) hc1 hs1 dX8_init_50 (fun xl H I => ?_)
      have I : fb_In D A s.heap ([(zh, .inr (8, [.ref zy1, .ref zy2, .ref xa, .ref xb, .int 0])), (xa, .inl (D.1 23, 120, .inr (.inr (.inr (.inr f))))), (x0, .inr (1, [.int 0, .int 0, .int 0, .int 0, .int 0, .int 0, .int 0, .int 0, .int 0])), (xl, .inr (1, [.int 0, .int 0, .int 0, .int 0, .int 0, .int 0, .int 0, .int 0, .int 0]))] : va_W) H _ := I
      refine lv_dup hx hb dX8_init_53 rfl ?_
      refine fb_goN (wn := fun (t : Unit) => ([(zh, .inr (8, [.ref zy1, .ref zy2, .ref xa, .ref xb, .int 0])), (xa, .inl (D.1 23, 120, .inr (.inr (.inr (.inr f))))), (x0, .inr (1, [.int 0, .int 0, .int 0, .int 0, .int 0, .int 0, .int 0, .int 0, .int 0])), (xl, .inr (1, [.int 0, .int 0, .int 0, .int 0, .int 0, .int 0, .int 0, .int 0, .int 0]))] : va_W)) X I (fb_runIN (As := []) (rest := [.ref xl, .int (nI j), .ref xa]) X I hl (c_X1_init l D cI cJ xl _) fw_331 rfl rfl (List.mem_of_getElem? (i := 2) rfl) fw_196 rfl fw_330 (by decide +kernel : fb_hd yX1_init 0) ⟨Nat.le_of_ble_eq_true rfl, Nat.le_of_ble_eq_true rfl⟩ [3] (by decide) rfl rfl rfl (Nat.le_of_ble_eq_true rfl) ⟨hc1, hs1⟩ dX8_init_54) [3] [0, 1, 2] [0, 1, 2, 3] rfl rfl (by decide) (by decide) (by decide) (fun _ => rfl) ?_
      intro t H locs _ I
      have I : fb_In D A s.heap ([(zh, .inr (8, [.ref zy1, .ref zy2, .ref xa, .ref xb, .int 0])), (xa, .inl (D.1 23, 120, .inr (.inr (.inr (.inr f))))), (x0, .inr (1, [.int 0, .int 0, .int 0, .int 0, .int 0, .int 0, .int 0, .int 0, .int 0])), (xl, .inr (1, [.int 0, .int 0, .int 0, .int 0, .int 0, .int 0, .int 0, .int 0, .int 0]))] : va_W) H locs := I
      refine va_astq hx hb hK.1 I.1 I.2.1 I.2.2 1 5 3 1 rfl rfl rfl rfl (vp_in_nI h9 (by decide)) dX8_init_57 (fun H locs k1 k2 k3 => ?_)
      have I : fb_In D A s.heap ([(zh, .inr (8, [.ref zy1, .ref zy2, .ref xa, .ref xb, .int 0])), (xa, .inl (D.1 23, 120, .inr (.inr (.inr (.inr (va_up f ((nI j)).toNatClampNeg (some xl))))))), (x0, .inr (1, [.int 0, .int 0, .int 0, .int 0, .int 0, .int 0, .int 0, .int 0, .int 0])), (xl, .inr (1, [.int 0, .int 0, .int 0, .int 0, .int 0, .int 0, .int 0, .int 0, .int 0]))] : va_W) H locs := ⟨k1, k2, k3⟩
      have I := fb_In.pick (ws' := ([(zh, .inr (8, [.ref zy1, .ref zy2, .ref xa, .ref xb, .int 0])), (xa, .inl (D.1 23, 120, .inr (.inr (.inr (.inr (va_up f ((nI j)).toNatClampNeg (some xl))))))), (x0, .inr (1, [.int 0, .int 0, .int 0, .int 0, .int 0, .int 0, .int 0, .int 0, .int 0]))] : va_W)) I [0, 1, 2] (by decide) rfl
      refine lv_iinc (v := nI (j + 1)) (lv' := [(3, .int (nI (j + 1))), (0, .ref zh), (1, .ref zy1), (2, .ref zy2)]) hx hb dX8_init_58 hl (k := 3) rfl (by exact nI_1 j) (by decide) rfl (fun ls hl => ?_)
      refine lv_goto (tgt := 36) hx hb dX8_init_61 (by decide) ?_
      refine W.widen (k := 2 + (j + 1)) (n := 129 + 9 * (j + 1)) (by omega) (by omega) ?_
      rw [nI_clamp (show j < 2 ^ 31 by omega)] at I
      refine ih (by omega) h9 (by omega) (fb_ln_up hf) ?_ I (lv_sub hl [1, 2, 3, 0] rfl)
      show va_up f j (some xl) 0 = some x0
      unfold va_up
      rw [if_neg (by omega)]
      exact hf0
set_option maxHeartbeats 4000000 in
set_option maxRecDepth 100000 in
theorem c_X8_init (l : Launch) (D : va_G) (cI cJ : ClassId) (zh zy1 zy2 : Nat) (sz : Nat) : Met l yX8_init (Cond.code yX8_init cX8_init 4 none :: fb_all) ({ frames := 2, cells := 122, slots := 1209, locals := 50 } : Room) (fb_PP D (fb_ty D cI cJ) [.ref zh, .ref zy1, .ref zy2] ([(zh, .inr (8, [.null, .null, .null, .null, .int 0]))] : va_W) sz) (fb_QV D (va_A ([(zh, .inr (8, [.null, .null, .null, .null, .int 0]))] : va_W) sz) (fun (_ : Nat × Nat × (Nat → Nat)) => True) (fun (t : Nat × Nat × (Nat → Nat)) => ([(zh, .inr (8, [.ref zy1, .ref zy2, .ref t.1, .ref t.2.1, .int 0])), (t.1, .inl (D.1 23, 120, .inr (.inr (.inr (.inr (fun j => some (t.2.2 j))))))), (t.2.2 0, .inr (1, [.int 0, .int 0, .int 0, .int 0, .int 0, .int 0, .int 0, .int 0, .int 0]))] : va_W))) 122 1209 (va_A ([(zh, .inr (8, [.null, .null, .null, .null, .int 0]))] : va_W) sz) := by
  refine fb_ent (Qf := fun A => (fb_QV D A (fun (_ : Nat × Nat × (Nat → Nat)) => True) (fun (t : Nat × Nat × (Nat → Nat)) => ([(zh, .inr (8, [.ref zy1, .ref zy2, .ref t.1, .ref t.2.1, .int 0])), (t.1, .inl (D.1 23, 120, .inr (.inr (.inr (.inr (fun j => some (t.2.2 j))))))), (t.2.2 0, .inr (1, [.int 0, .int 0, .int 0, .int 0, .int 0, .int 0, .int 0, .int 0, .int 0]))] : va_W)))) (by decide +kernel) (Nat.le_of_ble_eq_true rfl) ?_
  intro p e s m args below meth c A ls X I hl hin
  obtain ⟨hx, hb, hr, hml, hown, hts, hlk, hA, hK, hF⟩ := id X
  have hl : lv_has ls 4 [(0, .ref zh), (1, .ref zy1), (2, .ref zy2)] := hl
  refine lv_aload_n hx hb dX8_init_0 rfl (lv_at hl 0 rfl) ?_
  refine fb_obj X hl fw_325 fw_224 fw_225 dX8_init_1 (Nat.le_of_ble_eq_true rfl) (Nat.le_of_ble_eq_true rfl) ?_
  refine lv_aload_n hx hb dX8_init_4 rfl (lv_at hl 0 rfl) ?_
  refine lv_bipush (v := (120 : Int32)) hx hb dX8_init_5 (by decide) ?_
  refine fb_newQ (N := 120) X I fw_326 (by decide) (Nat.le_of_ble_eq_true rfl) (Nat.le_of_ble_eq_true rfl) (Nat.le_of_ble_eq_true rfl) dX8_init_7 (fun xa H I => ?_)
  have I : fb_In D A s.heap ([(zh, .inr (8, [.null, .null, .null, .null, .int 0])), (xa, .inl (D.1 23, 120, .inr (.inr (.inr (.inr (fun _ => none))))))] : va_W) H _ := I
  refine fb_putF X I hin (k := 2) (wn := ([(zh, .inr (8, [.null, .null, .ref xa, .null, .int 0])), (xa, .inl (D.1 23, 120, .inr (.inr (.inr (.inr (fun _ => none))))))] : va_W)) fu_X8 tyX8 tyX8_ok nmX8 0 rfl rfl (Nat.le_of_ble_eq_true rfl) fw_377 rfl rfl rfl rfl rfl rfl (Nat.le_of_ble_eq_true rfl) rfl dX8_init_10 (fun H locs I => ?_)
  refine lv_aload_n hx hb dX8_init_13 rfl (lv_at hl 0 rfl) ?_
  refine fb_newO X I (ci := 1) (fs := [.int 0, .int 0, .int 0, .int 0, .int 0, .int 0, .int 0, .int 0, .int 0]) fu_X1 tyX1 tyX1_ok fw_326 fw_328 fw_196 rfl (by decide +kernel) (Nat.le_of_ble_eq_true rfl) (Nat.le_of_ble_eq_true rfl) dX8_init_14 (fun xb H I => ?_)
  have I : fb_In D A s.heap ([(zh, .inr (8, [.null, .null, .ref xa, .null, .int 0])), (xa, .inl (D.1 23, 120, .inr (.inr (.inr (.inr (fun _ => none)))))), (xb, .inr (1, [.int 0, .int 0, .int 0, .int 0, .int 0, .int 0, .int 0, .int 0, .int 0]))] : va_W) H _ := I
  refine lv_dup hx hb dX8_init_17 rfl ?_
  refine fb_goN (wn := fun (t : Unit) => ([(zh, .inr (8, [.null, .null, .ref xa, .null, .int 0])), (xa, .inl (D.1 23, 120, .inr (.inr (.inr (.inr (fun _ => none)))))), (xb, .inr (1, [.int 0, .int 0, .int 0, .int 0, .int 0, .int 0, .int 0, .int 0, .int 0]))] : va_W)) X I (fb_runIN (As := []) (rest := [.ref xb, .ref zh]) X I hl (c_X1_init l D cI cJ xb _) fw_331 rfl rfl (List.mem_of_getElem? (i := 2) rfl) fw_196 rfl fw_330 (by decide +kernel : fb_hd yX1_init 0) ⟨Nat.le_of_ble_eq_true rfl, Nat.le_of_ble_eq_true rfl⟩ [2] (by decide) rfl rfl rfl (Nat.le_of_ble_eq_true rfl) ⟨Nat.le_of_ble_eq_true rfl, Nat.le_of_ble_eq_true rfl⟩ dX8_init_18) [2] [0, 1] [0, 1, 2] rfl rfl (by decide) (by decide) (by decide) (fun _ => rfl) ?_
  intro t H locs _ I
  have I := fb_In.pick (ws' := ([(zh, .inr (8, [.null, .null, .ref xa, .null, .int 0])), (xa, .inl (D.1 23, 120, .inr (.inr (.inr (.inr (fun _ => none))))))] : va_W)) I [0, 1] (by decide) rfl
  refine fb_putF X I hin (k := 3) (wn := ([(zh, .inr (8, [.null, .null, .ref xa, .ref xb, .int 0])), (xa, .inl (D.1 23, 120, .inr (.inr (.inr (.inr (fun _ => none))))))] : va_W)) fu_X8 tyX8 tyX8_ok nmX8 0 rfl rfl (Nat.le_of_ble_eq_true rfl) fw_378 rfl rfl rfl rfl rfl rfl (Nat.le_of_ble_eq_true rfl) rfl dX8_init_21 (fun H locs I => ?_)
  refine lv_aload_n hx hb dX8_init_24 rfl (lv_at hl 0 rfl) ?_
  refine lv_aload_n hx hb dX8_init_25 rfl (lv_at hl 1 rfl) ?_
  refine fb_putF X I hin (k := 0) (wn := ([(zh, .inr (8, [.ref zy1, .null, .ref xa, .ref xb, .int 0])), (xa, .inl (D.1 23, 120, .inr (.inr (.inr (.inr (fun _ => none))))))] : va_W)) fu_X8 tyX8 tyX8_ok nmX8 0 rfl rfl (Nat.le_of_ble_eq_true rfl) fw_375 rfl rfl rfl rfl rfl rfl (Nat.le_of_ble_eq_true rfl) rfl dX8_init_26 (fun H locs I => ?_)
  refine lv_aload_n hx hb dX8_init_29 rfl (lv_at hl 0 rfl) ?_
  refine lv_aload_n hx hb dX8_init_30 rfl (lv_at hl 2 rfl) ?_
  refine fb_putF X I hin (k := 1) (wn := ([(zh, .inr (8, [.ref zy1, .ref zy2, .ref xa, .ref xb, .int 0])), (xa, .inl (D.1 23, 120, .inr (.inr (.inr (.inr (fun _ => none))))))] : va_W)) fu_X8 tyX8 tyX8_ok nmX8 0 rfl rfl (Nat.le_of_ble_eq_true rfl) fw_376 rfl rfl rfl rfl rfl rfl (Nat.le_of_ble_eq_true rfl) rfl dX8_init_31 (fun H locs I => ?_)
  refine lv_iconst (v := (0 : Int32)) hx hb dX8_init_34 (by decide) ?_
  refine lv_istore_n (lv' := [(3, .int (0 : Int32)), (0, .ref zh), (1, .ref zy1), (2, .ref zy2)]) hx hb dX8_init_35 rfl hl (by decide) rfl (fun ls hl => ?_)
  have hc1 : 2 + 1 ≤ 122 := by omega
  have hs1 : 129 + 9 ≤ 1209 := by omega
  refine lv_iload_n hx hb dX8_init_36 rfl (lv_at hl 0 rfl) ?_
  refine lv_aload_n hx hb dX8_init_37 rfl (lv_at hl 1 rfl) ?_
  refine fb_get X I (k := 2) fu_X8 0 rfl rfl (Nat.le_of_ble_eq_true rfl) fw_377 rfl rfl dX8_init_38 ?_
  refine va_alen (v := nI 120) hx hb hK.1 I.1 1 5 rfl rfl rfl dX8_init_41 ?_
  refine lv_icmp_ge (tgt := 64) hx hb dX8_init_42 (by decide) (fun c1 => absurd c1 (by decide)) (fun _ => ?_)
  refine lv_aload_n hx hb dX8_init_45 rfl (lv_at hl 1 rfl) ?_
  refine fb_get X I (k := 2) fu_X8 0 rfl rfl (Nat.le_of_ble_eq_true rfl) fw_377 rfl rfl dX8_init_46 ?_
  refine lv_iload_n hx hb dX8_init_49 rfl (lv_at hl 0 rfl) ?_
  refine fb_newO X I (ci := 1) (fs := [.int 0, .int 0, .int 0, .int 0, .int 0, .int 0, .int 0, .int 0, .int 0]) fu_X1 tyX1 tyX1_ok fw_326 fw_328 fw_196 rfl (by decide +kernel) hc1 hs1 dX8_init_50 (fun xl H I => ?_)
  have I : fb_In D A s.heap ([(zh, .inr (8, [.ref zy1, .ref zy2, .ref xa, .ref xb, .int 0])), (xa, .inl (D.1 23, 120, .inr (.inr (.inr (.inr (fun _ => none)))))), (xl, .inr (1, [.int 0, .int 0, .int 0, .int 0, .int 0, .int 0, .int 0, .int 0, .int 0]))] : va_W) H _ := I
  refine lv_dup hx hb dX8_init_53 rfl ?_
  refine fb_goN (wn := fun (t : Unit) => ([(zh, .inr (8, [.ref zy1, .ref zy2, .ref xa, .ref xb, .int 0])), (xa, .inl (D.1 23, 120, .inr (.inr (.inr (.inr (fun _ => none)))))), (xl, .inr (1, [.int 0, .int 0, .int 0, .int 0, .int 0, .int 0, .int 0, .int 0, .int 0]))] : va_W)) X I (fb_runIN (As := []) (rest := [.ref xl, .int (0 : Int32), .ref xa]) X I hl (c_X1_init l D cI cJ xl _) fw_331 rfl rfl (List.mem_of_getElem? (i := 2) rfl) fw_196 rfl fw_330 (by decide +kernel : fb_hd yX1_init 0) ⟨Nat.le_of_ble_eq_true rfl, Nat.le_of_ble_eq_true rfl⟩ [2] (by decide) rfl rfl rfl (Nat.le_of_ble_eq_true rfl) ⟨hc1, hs1⟩ dX8_init_54) [2] [0, 1] [0, 1, 2] rfl rfl (by decide) (by decide) (by decide) (fun _ => rfl) ?_
  intro t H locs _ I
  have I : fb_In D A s.heap ([(zh, .inr (8, [.ref zy1, .ref zy2, .ref xa, .ref xb, .int 0])), (xa, .inl (D.1 23, 120, .inr (.inr (.inr (.inr (fun _ => none)))))), (xl, .inr (1, [.int 0, .int 0, .int 0, .int 0, .int 0, .int 0, .int 0, .int 0, .int 0]))] : va_W) H locs := I
  refine va_astq hx hb hK.1 I.1 I.2.1 I.2.2 1 5 2 1 rfl rfl rfl rfl (fb_ir (by decide) (by decide) (by decide)) dX8_init_57 (fun H locs k1 k2 k3 => ?_)
  have I : fb_In D A s.heap ([(zh, .inr (8, [.ref zy1, .ref zy2, .ref xa, .ref xb, .int 0])), (xa, .inl (D.1 23, 120, .inr (.inr (.inr (.inr (va_up (fun _ => none) ((0 : Int32)).toNatClampNeg (some xl))))))), (xl, .inr (1, [.int 0, .int 0, .int 0, .int 0, .int 0, .int 0, .int 0, .int 0, .int 0]))] : va_W) H locs := ⟨k1, k2, k3⟩
  refine lv_iinc (v := nI 1) (lv' := [(3, .int (nI 1)), (0, .ref zh), (1, .ref zy1), (2, .ref zy2)]) hx hb dX8_init_58 hl (k := 0) rfl (by decide) (by decide) rfl (fun ls hl => ?_)
  refine lv_goto (tgt := 36) hx hb dX8_init_61 (by decide) ?_
  exact b_X8_init_36 X 121 (j := 1) (by omega) (by omega) (by omega) (fb_ln_up (f := fun _ => none) (j := 0) (fun i hi => absurd hi (Nat.not_lt_zero _))) rfl I (lv_sub hl [1, 2, 3, 0] rfl)
end
section
/-! the board, when it is made -/
def fb_jw (cJ : ClassId) (a N : Nat) (f : Nat → Int64) : va_W := [(a, .inl (cJ, N, .inr (.inl f)))]
def fb_qw (cL : ClassId) (a N : Nat) (tl : Nat → Nat) : va_W := [(a, .inl (cL, N, .inr (.inr (.inr (.inr (fun j => some (tl j)))))))]
def fb_o1 (a : Nat) (η : fb_AR) : va_W := [(a, .inr (1, [.int (η 0), .int (η 1), .int (η 2), .int (η 3), .int (η 4), .int (η 5), .int (η 6), .int (η 7), .int (η 8)]))]
def fb_o8 (a r0 r1 r2 r3 : Nat) (η : fb_AR) : va_W := [(a, .inr (8, [.ref r0, .ref r1, .ref r2, .ref r3, .int (η 4)]))]
def fb_o9 (a r0 r2 r3 r4 : Nat) (η : fb_AR) : va_W := [(a, .inr (9, [.ref r0, .int (η 1), .ref r2, .ref r3, .ref r4, .int (η 5)]))]
def fb_o10 (a r0 r1 : Nat) (η : fb_AR) : va_W := [(a, .inr (10, [.ref r0, .ref r1, .int (η 2), .int (η 3), .int (η 4), .int (η 5), .int (η 6)]))]
def fb_m0 : fb_MS := (fun _ => 0, fun _ => 0, fun _ => 0, fun _ => 0, false, (fun _ => 0, fun _ => 0, fun _ => 0))
def fb_h0 : fb_AR := fun k => if k = 2 then -1 else if k = 3 then -1 else 0
def fb_p0 : fb_AR := fun k => if k = 14 then -1 else 0
/-- the board's cells: all but the lines behind the first -/
def fb_bw (cI cJ cL : ClassId) (zb : Nat) (t tl : Nat → Nat) (σ : fb_MS) (w : fb_AR) : va_W := fb_o11 zb (t 0) (t 1) (t 2) (t 3) (t 4) (t 10) (t 20) (t 7) (t 8) (t 9) ++ (fb_o3 (t 1) (t 50) (t 51) (t 52) (fun _ => 0) ++ (fb_aw cI (t 52) 120 (fun _ => 0) ++ (fb_o4 (t 4) (t 0) (t 2) (t 1) (t 3) (t 64) (t 65) (t 66) (t 67) (t 69) fb_p0 ++ (fb_aw cI (t 66) 11008 (fun _ => 0) ++ (fb_mw cI (fun k => t (10 + k)) σ w ++ (fb_mw cI (fun k => t (20 + k)) fb_m0 (fun _ => 0) ++ (fb_o0 (t 7) (t 30) (t 40) fb_h0 ++ (fb_mw cI (fun k => t (30 + k)) fb_m0 (fun _ => 0) ++ (fb_mw cI (fun k => t (40 + k)) fb_m0 (fun _ => 0) ++ (fb_o7 (t 8) (t 70) (t 71) (t 73) (t 74) (t 75) (fun _ => 0) ++ (fb_o6 (t 9) (t 80) (t 81) (t 82) (fun _ => 0) ++ (fb_aw cI (t 80) 4096 (fun _ => 0) ++ (fb_aw cI (t 81) 4096 (fun _ => 0) ++ (fb_aw cI (t 82) 4096 (fun _ => 0) ++ (fb_o9 (t 0) (t 100) (t 101) (t 102) (t 103) (fun _ => 0) ++ (fb_aw cI (t 100) 2000 (fun _ => 0) ++ (fb_aw cI (t 101) 2001 (fun _ => 0) ++ (fb_aw cI (t 102) 2001 (fun _ => 0) ++ (fb_jw cJ (t 103) 2001 (fun _ => 0) ++ (fb_jw cJ (t 50) 120 (fun _ => 0) ++ (fb_aw cI (t 51) 120 (fun _ => 0) ++ (fb_o10 (t 2) (t 0) (t 1) (fun _ => 0) ++ (fb_o8 (t 3) (t 0) (t 2) (t 90) (t 91) (fun _ => 0) ++ (fb_qw cL (t 90) 120 tl ++ (fb_o1 (tl 0) (fun _ => 0) ++ (fb_aw cI (t 64) 11008 (fun _ => 0) ++ (fb_aw cI (t 65) 11008 (fun _ => 0) ++ (fb_aw cI (t 67) 2048 (fun _ => 0) ++ (fb_aw cI (t 69) 4 (fun _ => 0) ++ (fb_aw cI (t 70) 6 (fun _ => 0) ++ (fb_aw cI (t 71) 6 (fun _ => 0) ++ (fb_aw cI (t 73) 4 (fun _ => 0) ++ (fb_aw cI (t 74) 4 (fun _ => 0) ++ (fb_aw cI (t 75) 4 (fun _ => 0)))))))))))))))))))))))))))))))))))
set_option maxHeartbeats 8000000 in
set_option maxRecDepth 100000 in
theorem c_X11_init (l : Launch) (D : va_G) (cI cJ : ClassId) (zh : Nat) (sz : Nat) : Met l yX11_init (Cond.code yX11_init cX11_init 1 none :: fb_all) ({ frames := 4, cells := 182, slots := 117973, locals := 90 } : Room) (fb_PP D (fb_ty D cI cJ) [.ref zh] ([(zh, .inr (11, [.null, .null, .null, .null, .null, .null, .null, .null, .null, .null]))] : va_W) sz) (fb_QV D (va_A ([(zh, .inr (11, [.null, .null, .null, .null, .null, .null, .null, .null, .null, .null]))] : va_W) sz) (fun (_ : (Nat → Nat) × (Nat → Nat) × fb_AR) => True) (fun (t : (Nat → Nat) × (Nat → Nat) × fb_AR) => fb_bw cI cJ (D.1 23) zh t.1 t.2.1 (f_X2_restart fb_m0) t.2.2)) 182 117973 (va_A ([(zh, .inr (11, [.null, .null, .null, .null, .null, .null, .null, .null, .null, .null]))] : va_W) sz) := by
  refine fb_ent (Qf := fun A => (fb_QV D A (fun (_ : (Nat → Nat) × (Nat → Nat) × fb_AR) => True) (fun (t : (Nat → Nat) × (Nat → Nat) × fb_AR) => fb_bw cI cJ (D.1 23) zh t.1 t.2.1 (f_X2_restart fb_m0) t.2.2))) (by decide +kernel) (Nat.le_of_ble_eq_true rfl) ?_
  intro p e s m args below meth c A ls X I hl hin
  obtain ⟨hx, hb, hr, hml, hown, hts, hlk, hA, hK, hF⟩ := id X
  have hl : lv_has ls 1 [(0, .ref zh)] := hl
  refine lv_aload_n hx hb dX11_init_0 rfl (lv_at hl 0 rfl) ?_
  refine fb_obj X hl fw_223 fw_224 fw_225 dX11_init_1 (Nat.le_of_ble_eq_true rfl) (Nat.le_of_ble_eq_true rfl) ?_
  refine lv_aload_n hx hb dX11_init_4 rfl (lv_at hl 0 rfl) ?_
  refine fb_newO X I (ci := 9) (fs := [.null, .int 0, .null, .null, .null, .int 0]) fu_X9 tyX9 tyX9_ok fw_226 fw_227 fw_192 rfl (by decide +kernel) (Nat.le_of_ble_eq_true rfl) (Nat.le_of_ble_eq_true rfl) dX11_init_5 (fun x1 H I => ?_)
  have I : fb_In D A s.heap ([(zh, .inr (11, [.null, .null, .null, .null, .null, .null, .null, .null, .null, .null])), (x1, .inr (9, [.null, .int 0, .null, .null, .null, .int 0]))] : va_W) H _ := I
  refine lv_dup hx hb dX11_init_8 rfl ?_
  refine fb_goN (wn := fun (t : Nat × Nat × Nat × Nat) => ([(zh, .inr (11, [.null, .null, .null, .null, .null, .null, .null, .null, .null, .null])), (x1, .inr (9, [.ref (t.1), .int 0, .ref (t.2.1), .ref (t.2.2.1), .ref (t.2.2.2), .int 0])), ((t.1), .inl (cI, 2000, .inl (fun _ => 0))), ((t.2.1), .inl (cI, 2001, .inl (fun _ => 0))), ((t.2.2.1), .inl (cI, 2001, .inl (fun _ => 0))), ((t.2.2.2), .inl (cJ, 2001, .inr (.inl (fun _ => 0))))] : va_W)) X I (fb_runIN (As := []) (rest := [.ref x1, .ref zh]) X I hl (c_X9_init l D cI cJ x1 _) fw_230 rfl rfl (List.mem_of_getElem? (i := 0) rfl) fw_192 rfl fw_229 (by decide +kernel : fb_hd yX9_init 0) ⟨Nat.le_of_ble_eq_true rfl, Nat.le_of_ble_eq_true rfl⟩ [1] (by decide) rfl rfl rfl (Nat.le_of_ble_eq_true rfl) ⟨Nat.le_of_ble_eq_true rfl, Nat.le_of_ble_eq_true rfl⟩ dX11_init_9) [1] [0] [0, 1, 2, 3, 4, 5] rfl rfl (by decide) (by decide) (by decide) (fun _ => rfl) ?_
  intro t H locs _ I
  obtain ⟨x2, x3, x4, x5⟩ := t
  have I : fb_In D A s.heap ([(zh, .inr (11, [.null, .null, .null, .null, .null, .null, .null, .null, .null, .null])), (x1, .inr (9, [.ref x2, .int 0, .ref x3, .ref x4, .ref x5, .int 0])), (x2, .inl (cI, 2000, .inl (fun _ => 0))), (x3, .inl (cI, 2001, .inl (fun _ => 0))), (x4, .inl (cI, 2001, .inl (fun _ => 0))), (x5, .inl (cJ, 2001, .inr (.inl (fun _ => 0))))] : va_W) H _ := I
  refine fb_putF X I hin (k := 0) (wn := ([(zh, .inr (11, [.ref x1, .null, .null, .null, .null, .null, .null, .null, .null, .null])), (x1, .inr (9, [.ref x2, .int 0, .ref x3, .ref x4, .ref x5, .int 0])), (x2, .inl (cI, 2000, .inl (fun _ => 0))), (x3, .inl (cI, 2001, .inl (fun _ => 0))), (x4, .inl (cI, 2001, .inl (fun _ => 0))), (x5, .inl (cJ, 2001, .inr (.inl (fun _ => 0))))] : va_W)) fu_X11 tyX11 tyX11_ok nmX11 0 rfl rfl (Nat.le_of_ble_eq_true rfl) fw_687 rfl rfl rfl rfl rfl rfl (Nat.le_of_ble_eq_true rfl) rfl dX11_init_12 (fun H locs I => ?_)
  refine lv_aload_n hx hb dX11_init_15 rfl (lv_at hl 0 rfl) ?_
  refine fb_newO X I (ci := 3) (fs := [.null, .null, .int 0, .null, .int 0]) fu_X3 tyX3 tyX3_ok fw_263 fw_264 fw_193 rfl (by decide +kernel) (Nat.le_of_ble_eq_true rfl) (Nat.le_of_ble_eq_true rfl) dX11_init_16 (fun x6 H I => ?_)
  have I : fb_In D A s.heap ([(zh, .inr (11, [.ref x1, .null, .null, .null, .null, .null, .null, .null, .null, .null])), (x1, .inr (9, [.ref x2, .int 0, .ref x3, .ref x4, .ref x5, .int 0])), (x2, .inl (cI, 2000, .inl (fun _ => 0))), (x3, .inl (cI, 2001, .inl (fun _ => 0))), (x4, .inl (cI, 2001, .inl (fun _ => 0))), (x5, .inl (cJ, 2001, .inr (.inl (fun _ => 0)))), (x6, .inr (3, [.null, .null, .int 0, .null, .int 0]))] : va_W) H _ := I
  refine lv_dup hx hb dX11_init_19 rfl ?_
  refine fb_goN (wn := fun (t : Nat × Nat × Nat) => ([(zh, .inr (11, [.ref x1, .null, .null, .null, .null, .null, .null, .null, .null, .null])), (x1, .inr (9, [.ref x2, .int 0, .ref x3, .ref x4, .ref x5, .int 0])), (x2, .inl (cI, 2000, .inl (fun _ => 0))), (x3, .inl (cI, 2001, .inl (fun _ => 0))), (x4, .inl (cI, 2001, .inl (fun _ => 0))), (x5, .inl (cJ, 2001, .inr (.inl (fun _ => 0)))), (x6, .inr (3, [.ref (t.1), .ref (t.2.1), .int 0, .ref (t.2.2), .int 0])), ((t.1), .inl (cJ, 120, .inr (.inl (fun _ => 0)))), ((t.2.1), .inl (cI, 120, .inl (fun _ => 0))), ((t.2.2), .inl (cI, 120, .inl (fun _ => 0)))] : va_W)) X I (fb_runIN (As := []) (rest := [.ref x6, .ref zh]) X I hl (c_X3_init l D cI cJ x6 _) fw_267 rfl rfl (List.mem_of_getElem? (i := 1) rfl) fw_193 rfl fw_266 (by decide +kernel : fb_hd yX3_init 0) ⟨Nat.le_of_ble_eq_true rfl, Nat.le_of_ble_eq_true rfl⟩ [6] (by decide) rfl rfl rfl (Nat.le_of_ble_eq_true rfl) ⟨Nat.le_of_ble_eq_true rfl, Nat.le_of_ble_eq_true rfl⟩ dX11_init_20) [6] [0, 1, 2, 3, 4, 5] [0, 1, 2, 3, 4, 5, 6, 7, 8, 9] rfl rfl (by decide) (by decide) (by decide) (fun _ => rfl) ?_
  intro t H locs _ I
  obtain ⟨x7, x8, x9⟩ := t
  have I : fb_In D A s.heap ([(zh, .inr (11, [.ref x1, .null, .null, .null, .null, .null, .null, .null, .null, .null])), (x1, .inr (9, [.ref x2, .int 0, .ref x3, .ref x4, .ref x5, .int 0])), (x2, .inl (cI, 2000, .inl (fun _ => 0))), (x3, .inl (cI, 2001, .inl (fun _ => 0))), (x4, .inl (cI, 2001, .inl (fun _ => 0))), (x5, .inl (cJ, 2001, .inr (.inl (fun _ => 0)))), (x6, .inr (3, [.ref x7, .ref x8, .int 0, .ref x9, .int 0])), (x7, .inl (cJ, 120, .inr (.inl (fun _ => 0)))), (x8, .inl (cI, 120, .inl (fun _ => 0))), (x9, .inl (cI, 120, .inl (fun _ => 0)))] : va_W) H _ := I
  refine fb_putF X I hin (k := 1) (wn := ([(zh, .inr (11, [.ref x1, .ref x6, .null, .null, .null, .null, .null, .null, .null, .null])), (x1, .inr (9, [.ref x2, .int 0, .ref x3, .ref x4, .ref x5, .int 0])), (x2, .inl (cI, 2000, .inl (fun _ => 0))), (x3, .inl (cI, 2001, .inl (fun _ => 0))), (x4, .inl (cI, 2001, .inl (fun _ => 0))), (x5, .inl (cJ, 2001, .inr (.inl (fun _ => 0)))), (x6, .inr (3, [.ref x7, .ref x8, .int 0, .ref x9, .int 0])), (x7, .inl (cJ, 120, .inr (.inl (fun _ => 0)))), (x8, .inl (cI, 120, .inl (fun _ => 0))), (x9, .inl (cI, 120, .inl (fun _ => 0)))] : va_W)) fu_X11 tyX11 tyX11_ok nmX11 0 rfl rfl (Nat.le_of_ble_eq_true rfl) fw_688 rfl rfl rfl rfl rfl rfl (Nat.le_of_ble_eq_true rfl) rfl dX11_init_23 (fun H locs I => ?_)
  refine lv_aload_n hx hb dX11_init_26 rfl (lv_at hl 0 rfl) ?_
  refine fb_newO X I (ci := 10) (fs := [.null, .null, .int 0, .int 0, .int 0, .int 0, .int 0]) fu_X10 tyX10 tyX10_ok fw_288 fw_289 fw_194 rfl (by decide +kernel) (Nat.le_of_ble_eq_true rfl) (Nat.le_of_ble_eq_true rfl) dX11_init_27 (fun x10 H I => ?_)
  have I : fb_In D A s.heap ([(zh, .inr (11, [.ref x1, .ref x6, .null, .null, .null, .null, .null, .null, .null, .null])), (x1, .inr (9, [.ref x2, .int 0, .ref x3, .ref x4, .ref x5, .int 0])), (x2, .inl (cI, 2000, .inl (fun _ => 0))), (x3, .inl (cI, 2001, .inl (fun _ => 0))), (x4, .inl (cI, 2001, .inl (fun _ => 0))), (x5, .inl (cJ, 2001, .inr (.inl (fun _ => 0)))), (x6, .inr (3, [.ref x7, .ref x8, .int 0, .ref x9, .int 0])), (x7, .inl (cJ, 120, .inr (.inl (fun _ => 0)))), (x8, .inl (cI, 120, .inl (fun _ => 0))), (x9, .inl (cI, 120, .inl (fun _ => 0))), (x10, .inr (10, [.null, .null, .int 0, .int 0, .int 0, .int 0, .int 0]))] : va_W) H _ := I
  refine lv_dup hx hb dX11_init_30 rfl ?_
  refine lv_aload_n hx hb dX11_init_31 rfl (lv_at hl 0 rfl) ?_
  refine fb_get X I (k := 0) fu_X11 0 rfl rfl (Nat.le_of_ble_eq_true rfl) fw_687 rfl rfl dX11_init_32 ?_
  refine lv_aload_n hx hb dX11_init_35 rfl (lv_at hl 0 rfl) ?_
  refine fb_get X I (k := 1) fu_X11 0 rfl rfl (Nat.le_of_ble_eq_true rfl) fw_688 rfl rfl dX11_init_36 ?_
  refine fb_goN (wn := fun (t : Unit) => ([(zh, .inr (11, [.ref x1, .ref x6, .null, .null, .null, .null, .null, .null, .null, .null])), (x1, .inr (9, [.ref x2, .int 0, .ref x3, .ref x4, .ref x5, .int 0])), (x2, .inl (cI, 2000, .inl (fun _ => 0))), (x3, .inl (cI, 2001, .inl (fun _ => 0))), (x4, .inl (cI, 2001, .inl (fun _ => 0))), (x5, .inl (cJ, 2001, .inr (.inl (fun _ => 0)))), (x6, .inr (3, [.ref x7, .ref x8, .int 0, .ref x9, .int 0])), (x7, .inl (cJ, 120, .inr (.inl (fun _ => 0)))), (x8, .inl (cI, 120, .inl (fun _ => 0))), (x9, .inl (cI, 120, .inl (fun _ => 0))), (x10, .inr (10, [.ref x1, .ref x6, .int 0, .int 0, .int 0, .int 0, .int 0]))] : va_W)) X I (fb_runI (As := [.ref x1, .ref x6]) (rest := [.ref x10, .ref zh]) X I hl (c_X10_init l D cI cJ x10 x1 x6 _) fw_292 rfl rfl fw_290 fw_194 rfl fw_291 (by decide +kernel : fb_hd yX10_init 2) ⟨Nat.le_of_ble_eq_true rfl, Nat.le_of_ble_eq_true rfl⟩ [10] (by decide) rfl rfl rfl (Nat.le_of_ble_eq_true rfl) ⟨Nat.le_of_ble_eq_true rfl, Nat.le_of_ble_eq_true rfl⟩ dX11_init_39) [10] [0, 1, 2, 3, 4, 5, 6, 7, 8, 9] [0, 1, 2, 3, 4, 5, 6, 7, 8, 9, 10] rfl rfl (by decide) (by decide) (by decide) (fun _ => rfl) ?_
  intro t H locs _ I
  have I : fb_In D A s.heap ([(zh, .inr (11, [.ref x1, .ref x6, .null, .null, .null, .null, .null, .null, .null, .null])), (x1, .inr (9, [.ref x2, .int 0, .ref x3, .ref x4, .ref x5, .int 0])), (x2, .inl (cI, 2000, .inl (fun _ => 0))), (x3, .inl (cI, 2001, .inl (fun _ => 0))), (x4, .inl (cI, 2001, .inl (fun _ => 0))), (x5, .inl (cJ, 2001, .inr (.inl (fun _ => 0)))), (x6, .inr (3, [.ref x7, .ref x8, .int 0, .ref x9, .int 0])), (x7, .inl (cJ, 120, .inr (.inl (fun _ => 0)))), (x8, .inl (cI, 120, .inl (fun _ => 0))), (x9, .inl (cI, 120, .inl (fun _ => 0))), (x10, .inr (10, [.ref x1, .ref x6, .int 0, .int 0, .int 0, .int 0, .int 0]))] : va_W) H _ := I
  refine fb_putF X I hin (k := 2) (wn := ([(zh, .inr (11, [.ref x1, .ref x6, .ref x10, .null, .null, .null, .null, .null, .null, .null])), (x1, .inr (9, [.ref x2, .int 0, .ref x3, .ref x4, .ref x5, .int 0])), (x2, .inl (cI, 2000, .inl (fun _ => 0))), (x3, .inl (cI, 2001, .inl (fun _ => 0))), (x4, .inl (cI, 2001, .inl (fun _ => 0))), (x5, .inl (cJ, 2001, .inr (.inl (fun _ => 0)))), (x6, .inr (3, [.ref x7, .ref x8, .int 0, .ref x9, .int 0])), (x7, .inl (cJ, 120, .inr (.inl (fun _ => 0)))), (x8, .inl (cI, 120, .inl (fun _ => 0))), (x9, .inl (cI, 120, .inl (fun _ => 0))), (x10, .inr (10, [.ref x1, .ref x6, .int 0, .int 0, .int 0, .int 0, .int 0]))] : va_W)) fu_X11 tyX11 tyX11_ok nmX11 0 rfl rfl (Nat.le_of_ble_eq_true rfl) fw_689 rfl rfl rfl rfl rfl rfl (Nat.le_of_ble_eq_true rfl) rfl dX11_init_42 (fun H locs I => ?_)
  refine lv_aload_n hx hb dX11_init_45 rfl (lv_at hl 0 rfl) ?_
  refine fb_newO X I (ci := 8) (fs := [.null, .null, .null, .null, .int 0]) fu_X8 tyX8 tyX8_ok fw_320 fw_321 fw_195 rfl (by decide +kernel) (Nat.le_of_ble_eq_true rfl) (Nat.le_of_ble_eq_true rfl) dX11_init_46 (fun x11 H I => ?_)
  have I : fb_In D A s.heap ([(zh, .inr (11, [.ref x1, .ref x6, .ref x10, .null, .null, .null, .null, .null, .null, .null])), (x1, .inr (9, [.ref x2, .int 0, .ref x3, .ref x4, .ref x5, .int 0])), (x2, .inl (cI, 2000, .inl (fun _ => 0))), (x3, .inl (cI, 2001, .inl (fun _ => 0))), (x4, .inl (cI, 2001, .inl (fun _ => 0))), (x5, .inl (cJ, 2001, .inr (.inl (fun _ => 0)))), (x6, .inr (3, [.ref x7, .ref x8, .int 0, .ref x9, .int 0])), (x7, .inl (cJ, 120, .inr (.inl (fun _ => 0)))), (x8, .inl (cI, 120, .inl (fun _ => 0))), (x9, .inl (cI, 120, .inl (fun _ => 0))), (x10, .inr (10, [.ref x1, .ref x6, .int 0, .int 0, .int 0, .int 0, .int 0])), (x11, .inr (8, [.null, .null, .null, .null, .int 0]))] : va_W) H _ := I
  refine lv_dup hx hb dX11_init_49 rfl ?_
  refine lv_aload_n hx hb dX11_init_50 rfl (lv_at hl 0 rfl) ?_
  refine fb_get X I (k := 0) fu_X11 0 rfl rfl (Nat.le_of_ble_eq_true rfl) fw_687 rfl rfl dX11_init_51 ?_
  refine lv_aload_n hx hb dX11_init_54 rfl (lv_at hl 0 rfl) ?_
  refine fb_get X I (k := 2) fu_X11 0 rfl rfl (Nat.le_of_ble_eq_true rfl) fw_689 rfl rfl dX11_init_55 ?_
  refine fb_goN (wn := fun (t : Nat × Nat × (Nat → Nat)) => ([(zh, .inr (11, [.ref x1, .ref x6, .ref x10, .null, .null, .null, .null, .null, .null, .null])), (x1, .inr (9, [.ref x2, .int 0, .ref x3, .ref x4, .ref x5, .int 0])), (x2, .inl (cI, 2000, .inl (fun _ => 0))), (x3, .inl (cI, 2001, .inl (fun _ => 0))), (x4, .inl (cI, 2001, .inl (fun _ => 0))), (x5, .inl (cJ, 2001, .inr (.inl (fun _ => 0)))), (x6, .inr (3, [.ref x7, .ref x8, .int 0, .ref x9, .int 0])), (x7, .inl (cJ, 120, .inr (.inl (fun _ => 0)))), (x8, .inl (cI, 120, .inl (fun _ => 0))), (x9, .inl (cI, 120, .inl (fun _ => 0))), (x10, .inr (10, [.ref x1, .ref x6, .int 0, .int 0, .int 0, .int 0, .int 0])), (x11, .inr (8, [.ref x1, .ref x10, .ref (t.1), .ref (t.2.1), .int 0])), ((t.1), .inl (D.1 23, 120, .inr (.inr (.inr (.inr (fun j => some ((t.2.2) j))))))), (((t.2.2) 0), .inr (1, [.int 0, .int 0, .int 0, .int 0, .int 0, .int 0, .int 0, .int 0, .int 0]))] : va_W)) X I (fb_runI (As := [.ref x1, .ref x10]) (rest := [.ref x11, .ref zh]) X I hl (c_X8_init l D cI cJ x11 x1 x10 _) fw_324 rfl rfl fw_322 fw_195 rfl fw_323 (by decide +kernel : fb_hd yX8_init 2) ⟨Nat.le_of_ble_eq_true rfl, Nat.le_of_ble_eq_true rfl⟩ [11] (by decide) rfl rfl rfl (Nat.le_of_ble_eq_true rfl) ⟨Nat.le_of_ble_eq_true rfl, Nat.le_of_ble_eq_true rfl⟩ dX11_init_58) [11] [0, 1, 2, 3, 4, 5, 6, 7, 8, 9, 10] [0, 1, 2, 3, 4, 5, 6, 7, 8, 9, 10, 11, 12, 13] rfl rfl (by decide) (by decide) (by decide) (fun _ => rfl) ?_
  intro t H locs _ I
  obtain ⟨x12, x13, x14⟩ := t
  have I : fb_In D A s.heap ([(zh, .inr (11, [.ref x1, .ref x6, .ref x10, .null, .null, .null, .null, .null, .null, .null])), (x1, .inr (9, [.ref x2, .int 0, .ref x3, .ref x4, .ref x5, .int 0])), (x2, .inl (cI, 2000, .inl (fun _ => 0))), (x3, .inl (cI, 2001, .inl (fun _ => 0))), (x4, .inl (cI, 2001, .inl (fun _ => 0))), (x5, .inl (cJ, 2001, .inr (.inl (fun _ => 0)))), (x6, .inr (3, [.ref x7, .ref x8, .int 0, .ref x9, .int 0])), (x7, .inl (cJ, 120, .inr (.inl (fun _ => 0)))), (x8, .inl (cI, 120, .inl (fun _ => 0))), (x9, .inl (cI, 120, .inl (fun _ => 0))), (x10, .inr (10, [.ref x1, .ref x6, .int 0, .int 0, .int 0, .int 0, .int 0])), (x11, .inr (8, [.ref x1, .ref x10, .ref x12, .ref x13, .int 0])), (x12, .inl (D.1 23, 120, .inr (.inr (.inr (.inr (fun j => some (x14 j))))))), ((x14 0), .inr (1, [.int 0, .int 0, .int 0, .int 0, .int 0, .int 0, .int 0, .int 0, .int 0]))] : va_W) H _ := I
  refine fb_putF X I hin (k := 3) (wn := ([(zh, .inr (11, [.ref x1, .ref x6, .ref x10, .ref x11, .null, .null, .null, .null, .null, .null])), (x1, .inr (9, [.ref x2, .int 0, .ref x3, .ref x4, .ref x5, .int 0])), (x2, .inl (cI, 2000, .inl (fun _ => 0))), (x3, .inl (cI, 2001, .inl (fun _ => 0))), (x4, .inl (cI, 2001, .inl (fun _ => 0))), (x5, .inl (cJ, 2001, .inr (.inl (fun _ => 0)))), (x6, .inr (3, [.ref x7, .ref x8, .int 0, .ref x9, .int 0])), (x7, .inl (cJ, 120, .inr (.inl (fun _ => 0)))), (x8, .inl (cI, 120, .inl (fun _ => 0))), (x9, .inl (cI, 120, .inl (fun _ => 0))), (x10, .inr (10, [.ref x1, .ref x6, .int 0, .int 0, .int 0, .int 0, .int 0])), (x11, .inr (8, [.ref x1, .ref x10, .ref x12, .ref x13, .int 0])), (x12, .inl (D.1 23, 120, .inr (.inr (.inr (.inr (fun j => some (x14 j))))))), ((x14 0), .inr (1, [.int 0, .int 0, .int 0, .int 0, .int 0, .int 0, .int 0, .int 0, .int 0]))] : va_W)) fu_X11 tyX11 tyX11_ok nmX11 0 rfl rfl (Nat.le_of_ble_eq_true rfl) fw_690 rfl rfl rfl rfl rfl rfl (Nat.le_of_ble_eq_true rfl) rfl dX11_init_61 (fun H locs I => ?_)
  refine lv_aload_n hx hb dX11_init_64 rfl (lv_at hl 0 rfl) ?_
  refine fb_newO X I (ci := 4) (fs := [.null, .null, .null, .null, .null, .null, .null, .null, .int 0, .null, .int 0, .int 0, .int 0, .int 0, .int 0]) fu_X4 tyX4 tyX4_ok fw_392 fw_393 fw_197 rfl (by decide +kernel) (Nat.le_of_ble_eq_true rfl) (Nat.le_of_ble_eq_true rfl) dX11_init_65 (fun x15 H I => ?_)
  have I : fb_In D A s.heap ([(zh, .inr (11, [.ref x1, .ref x6, .ref x10, .ref x11, .null, .null, .null, .null, .null, .null])), (x1, .inr (9, [.ref x2, .int 0, .ref x3, .ref x4, .ref x5, .int 0])), (x2, .inl (cI, 2000, .inl (fun _ => 0))), (x3, .inl (cI, 2001, .inl (fun _ => 0))), (x4, .inl (cI, 2001, .inl (fun _ => 0))), (x5, .inl (cJ, 2001, .inr (.inl (fun _ => 0)))), (x6, .inr (3, [.ref x7, .ref x8, .int 0, .ref x9, .int 0])), (x7, .inl (cJ, 120, .inr (.inl (fun _ => 0)))), (x8, .inl (cI, 120, .inl (fun _ => 0))), (x9, .inl (cI, 120, .inl (fun _ => 0))), (x10, .inr (10, [.ref x1, .ref x6, .int 0, .int 0, .int 0, .int 0, .int 0])), (x11, .inr (8, [.ref x1, .ref x10, .ref x12, .ref x13, .int 0])), (x12, .inl (D.1 23, 120, .inr (.inr (.inr (.inr (fun j => some (x14 j))))))), ((x14 0), .inr (1, [.int 0, .int 0, .int 0, .int 0, .int 0, .int 0, .int 0, .int 0, .int 0])), (x15, .inr (4, [.null, .null, .null, .null, .null, .null, .null, .null, .int 0, .null, .int 0, .int 0, .int 0, .int 0, .int 0]))] : va_W) H _ := I
  refine lv_dup hx hb dX11_init_68 rfl ?_
  refine lv_aload_n hx hb dX11_init_69 rfl (lv_at hl 0 rfl) ?_
  refine fb_get X I (k := 0) fu_X11 0 rfl rfl (Nat.le_of_ble_eq_true rfl) fw_687 rfl rfl dX11_init_70 ?_
  refine lv_aload_n hx hb dX11_init_73 rfl (lv_at hl 0 rfl) ?_
  refine fb_get X I (k := 2) fu_X11 0 rfl rfl (Nat.le_of_ble_eq_true rfl) fw_689 rfl rfl dX11_init_74 ?_
  refine lv_aload_n hx hb dX11_init_77 rfl (lv_at hl 0 rfl) ?_
  refine fb_get X I (k := 1) fu_X11 0 rfl rfl (Nat.le_of_ble_eq_true rfl) fw_688 rfl rfl dX11_init_78 ?_
  refine lv_aload_n hx hb dX11_init_81 rfl (lv_at hl 0 rfl) ?_
  refine fb_get X I (k := 3) fu_X11 0 rfl rfl (Nat.le_of_ble_eq_true rfl) fw_690 rfl rfl dX11_init_82 ?_
  refine fb_goN (wn := fun (t : Nat × Nat × Nat × Nat × Nat) => ([(zh, .inr (11, [.ref x1, .ref x6, .ref x10, .ref x11, .null, .null, .null, .null, .null, .null])), (x1, .inr (9, [.ref x2, .int 0, .ref x3, .ref x4, .ref x5, .int 0])), (x2, .inl (cI, 2000, .inl (fun _ => 0))), (x3, .inl (cI, 2001, .inl (fun _ => 0))), (x4, .inl (cI, 2001, .inl (fun _ => 0))), (x5, .inl (cJ, 2001, .inr (.inl (fun _ => 0)))), (x6, .inr (3, [.ref x7, .ref x8, .int 0, .ref x9, .int 0])), (x7, .inl (cJ, 120, .inr (.inl (fun _ => 0)))), (x8, .inl (cI, 120, .inl (fun _ => 0))), (x9, .inl (cI, 120, .inl (fun _ => 0))), (x10, .inr (10, [.ref x1, .ref x6, .int 0, .int 0, .int 0, .int 0, .int 0])), (x11, .inr (8, [.ref x1, .ref x10, .ref x12, .ref x13, .int 0])), (x12, .inl (D.1 23, 120, .inr (.inr (.inr (.inr (fun j => some (x14 j))))))), ((x14 0), .inr (1, [.int 0, .int 0, .int 0, .int 0, .int 0, .int 0, .int 0, .int 0, .int 0])), (x15, .inr (4, [.ref x1, .ref x10, .ref x6, .ref x11, .ref (t.1), .ref (t.2.1), .ref (t.2.2.1), .ref (t.2.2.2.1), .int 0, .ref (t.2.2.2.2), .int 0, .int 0, .int 0, .int 0, .int (-1 : Int32)])), ((t.1), .inl (cI, 11008, .inl (fun _ => 0))), ((t.2.1), .inl (cI, 11008, .inl (fun _ => 0))), ((t.2.2.1), .inl (cI, 11008, .inl (fun _ => 0))), ((t.2.2.2.1), .inl (cI, 2048, .inl (fun _ => 0))), ((t.2.2.2.2), .inl (cI, 4, .inl (fun _ => 0)))] : va_W)) X I (fb_runI (As := [.ref x1, .ref x10, .ref x6, .ref x11]) (rest := [.ref x15, .ref zh]) X I hl (c_X4_init l D cI cJ x15 x1 x10 x6 x11 _) fw_396 rfl rfl fw_394 fw_197 rfl fw_395 (by decide +kernel : fb_hd yX4_init 4) ⟨Nat.le_of_ble_eq_true rfl, Nat.le_of_ble_eq_true rfl⟩ [14] (by decide) rfl rfl rfl (Nat.le_of_ble_eq_true rfl) ⟨Nat.le_of_ble_eq_true rfl, Nat.le_of_ble_eq_true rfl⟩ dX11_init_85) [14] [0, 1, 2, 3, 4, 5, 6, 7, 8, 9, 10, 11, 12, 13] [0, 1, 2, 3, 4, 5, 6, 7, 8, 9, 10, 11, 12, 13, 14, 15, 16, 17, 18, 19] rfl rfl (by decide) (by decide) (by decide) (fun _ => rfl) ?_
  intro t H locs _ I
  obtain ⟨x16, x17, x18, x19, x20⟩ := t
  have I : fb_In D A s.heap ([(zh, .inr (11, [.ref x1, .ref x6, .ref x10, .ref x11, .null, .null, .null, .null, .null, .null])), (x1, .inr (9, [.ref x2, .int 0, .ref x3, .ref x4, .ref x5, .int 0])), (x2, .inl (cI, 2000, .inl (fun _ => 0))), (x3, .inl (cI, 2001, .inl (fun _ => 0))), (x4, .inl (cI, 2001, .inl (fun _ => 0))), (x5, .inl (cJ, 2001, .inr (.inl (fun _ => 0)))), (x6, .inr (3, [.ref x7, .ref x8, .int 0, .ref x9, .int 0])), (x7, .inl (cJ, 120, .inr (.inl (fun _ => 0)))), (x8, .inl (cI, 120, .inl (fun _ => 0))), (x9, .inl (cI, 120, .inl (fun _ => 0))), (x10, .inr (10, [.ref x1, .ref x6, .int 0, .int 0, .int 0, .int 0, .int 0])), (x11, .inr (8, [.ref x1, .ref x10, .ref x12, .ref x13, .int 0])), (x12, .inl (D.1 23, 120, .inr (.inr (.inr (.inr (fun j => some (x14 j))))))), ((x14 0), .inr (1, [.int 0, .int 0, .int 0, .int 0, .int 0, .int 0, .int 0, .int 0, .int 0])), (x15, .inr (4, [.ref x1, .ref x10, .ref x6, .ref x11, .ref x16, .ref x17, .ref x18, .ref x19, .int 0, .ref x20, .int 0, .int 0, .int 0, .int 0, .int (-1 : Int32)])), (x16, .inl (cI, 11008, .inl (fun _ => 0))), (x17, .inl (cI, 11008, .inl (fun _ => 0))), (x18, .inl (cI, 11008, .inl (fun _ => 0))), (x19, .inl (cI, 2048, .inl (fun _ => 0))), (x20, .inl (cI, 4, .inl (fun _ => 0)))] : va_W) H _ := I
  refine fb_putF X I hin (k := 4) (wn := ([(zh, .inr (11, [.ref x1, .ref x6, .ref x10, .ref x11, .ref x15, .null, .null, .null, .null, .null])), (x1, .inr (9, [.ref x2, .int 0, .ref x3, .ref x4, .ref x5, .int 0])), (x2, .inl (cI, 2000, .inl (fun _ => 0))), (x3, .inl (cI, 2001, .inl (fun _ => 0))), (x4, .inl (cI, 2001, .inl (fun _ => 0))), (x5, .inl (cJ, 2001, .inr (.inl (fun _ => 0)))), (x6, .inr (3, [.ref x7, .ref x8, .int 0, .ref x9, .int 0])), (x7, .inl (cJ, 120, .inr (.inl (fun _ => 0)))), (x8, .inl (cI, 120, .inl (fun _ => 0))), (x9, .inl (cI, 120, .inl (fun _ => 0))), (x10, .inr (10, [.ref x1, .ref x6, .int 0, .int 0, .int 0, .int 0, .int 0])), (x11, .inr (8, [.ref x1, .ref x10, .ref x12, .ref x13, .int 0])), (x12, .inl (D.1 23, 120, .inr (.inr (.inr (.inr (fun j => some (x14 j))))))), ((x14 0), .inr (1, [.int 0, .int 0, .int 0, .int 0, .int 0, .int 0, .int 0, .int 0, .int 0])), (x15, .inr (4, [.ref x1, .ref x10, .ref x6, .ref x11, .ref x16, .ref x17, .ref x18, .ref x19, .int 0, .ref x20, .int 0, .int 0, .int 0, .int 0, .int (-1 : Int32)])), (x16, .inl (cI, 11008, .inl (fun _ => 0))), (x17, .inl (cI, 11008, .inl (fun _ => 0))), (x18, .inl (cI, 11008, .inl (fun _ => 0))), (x19, .inl (cI, 2048, .inl (fun _ => 0))), (x20, .inl (cI, 4, .inl (fun _ => 0)))] : va_W)) fu_X11 tyX11 tyX11_ok nmX11 0 rfl rfl (Nat.le_of_ble_eq_true rfl) fw_691 rfl rfl rfl rfl rfl rfl (Nat.le_of_ble_eq_true rfl) rfl dX11_init_88 (fun H locs I => ?_)
  refine lv_aload_n hx hb dX11_init_91 rfl (lv_at hl 0 rfl) ?_
  refine fb_newO X I (ci := 2) (fs := [.null, .null, .null, .null, .null, .int 0, .int 0, .int 0, .int 0, .int 0, .int 0, .int 0, .int 0, .int 0, .int 0, .int 0, .int 0]) fu_X2 tyX2 tyX2_ok fw_448 fw_449 fw_198 rfl (by decide +kernel) (Nat.le_of_ble_eq_true rfl) (Nat.le_of_ble_eq_true rfl) dX11_init_92 (fun x21 H I => ?_)
  have I : fb_In D A s.heap ([(zh, .inr (11, [.ref x1, .ref x6, .ref x10, .ref x11, .ref x15, .null, .null, .null, .null, .null])), (x1, .inr (9, [.ref x2, .int 0, .ref x3, .ref x4, .ref x5, .int 0])), (x2, .inl (cI, 2000, .inl (fun _ => 0))), (x3, .inl (cI, 2001, .inl (fun _ => 0))), (x4, .inl (cI, 2001, .inl (fun _ => 0))), (x5, .inl (cJ, 2001, .inr (.inl (fun _ => 0)))), (x6, .inr (3, [.ref x7, .ref x8, .int 0, .ref x9, .int 0])), (x7, .inl (cJ, 120, .inr (.inl (fun _ => 0)))), (x8, .inl (cI, 120, .inl (fun _ => 0))), (x9, .inl (cI, 120, .inl (fun _ => 0))), (x10, .inr (10, [.ref x1, .ref x6, .int 0, .int 0, .int 0, .int 0, .int 0])), (x11, .inr (8, [.ref x1, .ref x10, .ref x12, .ref x13, .int 0])), (x12, .inl (D.1 23, 120, .inr (.inr (.inr (.inr (fun j => some (x14 j))))))), ((x14 0), .inr (1, [.int 0, .int 0, .int 0, .int 0, .int 0, .int 0, .int 0, .int 0, .int 0])), (x15, .inr (4, [.ref x1, .ref x10, .ref x6, .ref x11, .ref x16, .ref x17, .ref x18, .ref x19, .int 0, .ref x20, .int 0, .int 0, .int 0, .int 0, .int (-1 : Int32)])), (x16, .inl (cI, 11008, .inl (fun _ => 0))), (x17, .inl (cI, 11008, .inl (fun _ => 0))), (x18, .inl (cI, 11008, .inl (fun _ => 0))), (x19, .inl (cI, 2048, .inl (fun _ => 0))), (x20, .inl (cI, 4, .inl (fun _ => 0))), (x21, .inr (2, [.null, .null, .null, .null, .null, .int 0, .int 0, .int 0, .int 0, .int 0, .int 0, .int 0, .int 0, .int 0, .int 0, .int 0, .int 0]))] : va_W) H _ := I
  refine lv_dup hx hb dX11_init_95 rfl ?_
  refine fb_goN (wn := fun (t : Nat × Nat × Nat × Nat × Nat × Nat × Nat) => ([(zh, .inr (11, [.ref x1, .ref x6, .ref x10, .ref x11, .ref x15, .null, .null, .null, .null, .null])), (x1, .inr (9, [.ref x2, .int 0, .ref x3, .ref x4, .ref x5, .int 0])), (x2, .inl (cI, 2000, .inl (fun _ => 0))), (x3, .inl (cI, 2001, .inl (fun _ => 0))), (x4, .inl (cI, 2001, .inl (fun _ => 0))), (x5, .inl (cJ, 2001, .inr (.inl (fun _ => 0)))), (x6, .inr (3, [.ref x7, .ref x8, .int 0, .ref x9, .int 0])), (x7, .inl (cJ, 120, .inr (.inl (fun _ => 0)))), (x8, .inl (cI, 120, .inl (fun _ => 0))), (x9, .inl (cI, 120, .inl (fun _ => 0))), (x10, .inr (10, [.ref x1, .ref x6, .int 0, .int 0, .int 0, .int 0, .int 0])), (x11, .inr (8, [.ref x1, .ref x10, .ref x12, .ref x13, .int 0])), (x12, .inl (D.1 23, 120, .inr (.inr (.inr (.inr (fun j => some (x14 j))))))), ((x14 0), .inr (1, [.int 0, .int 0, .int 0, .int 0, .int 0, .int 0, .int 0, .int 0, .int 0])), (x15, .inr (4, [.ref x1, .ref x10, .ref x6, .ref x11, .ref x16, .ref x17, .ref x18, .ref x19, .int 0, .ref x20, .int 0, .int 0, .int 0, .int 0, .int (-1 : Int32)])), (x16, .inl (cI, 11008, .inl (fun _ => 0))), (x17, .inl (cI, 11008, .inl (fun _ => 0))), (x18, .inl (cI, 11008, .inl (fun _ => 0))), (x19, .inl (cI, 2048, .inl (fun _ => 0))), (x20, .inl (cI, 4, .inl (fun _ => 0))), (x21, .inr (2, [.ref (t.1), .ref (t.2.1), .ref (t.2.2.1), .ref (t.2.2.2.1), .ref (t.2.2.2.2.1), .int 0, .int 0, .int 0, .int 0, .int 0, .int 0, .int 0, .int 0, .int 0, .int 0, .int 0, .int 0])), ((t.1), .inl (cI, 11008, .inl (fun _ => 0))), ((t.2.1), .inl (cI, 4096, .inl (fun _ => 0))), ((t.2.2.1), .inl (cI, 40, .inl (fun _ => 0))), ((t.2.2.2.1), .inl (cI, 8, .inl (fun _ => 0))), ((t.2.2.2.2.1), .inr (5, [.ref (t.2.2.2.2.2.1), .ref (t.2.2.2.2.2.2), .int 0, .int 0, .int 0, .int 0, .int 0, .int 0, .int 0, .int 0, .int 0, .int 0, .int 0, .int 0])), ((t.2.2.2.2.2.1), .inl (cI, 16, .inl (fun _ => 0))), ((t.2.2.2.2.2.2), .inl (cI, 40, .inl (fun _ => 0)))] : va_W)) X I (fb_runIN (As := []) (rest := [.ref x21, .ref zh]) X I hl (c_X2_init l D cI cJ x21 _) fw_452 rfl rfl (List.mem_of_getElem? (i := 3) rfl) fw_198 rfl fw_451 (by decide +kernel : fb_hd yX2_init 0) ⟨Nat.le_of_ble_eq_true rfl, Nat.le_of_ble_eq_true rfl⟩ [20] (by decide) rfl rfl rfl (Nat.le_of_ble_eq_true rfl) ⟨Nat.le_of_ble_eq_true rfl, Nat.le_of_ble_eq_true rfl⟩ dX11_init_96) [20] [0, 1, 2, 3, 4, 5, 6, 7, 8, 9, 10, 11, 12, 13, 14, 15, 16, 17, 18, 19] [0, 1, 2, 3, 4, 5, 6, 7, 8, 9, 10, 11, 12, 13, 14, 15, 16, 17, 18, 19, 20, 21, 22, 23, 24, 25, 26, 27] rfl rfl (by decide) (by decide) (by decide) (fun _ => rfl) ?_
  intro t H locs _ I
  obtain ⟨x22, x23, x24, x25, x26, x27, x28⟩ := t
  have I : fb_In D A s.heap ([(zh, .inr (11, [.ref x1, .ref x6, .ref x10, .ref x11, .ref x15, .null, .null, .null, .null, .null])), (x1, .inr (9, [.ref x2, .int 0, .ref x3, .ref x4, .ref x5, .int 0])), (x2, .inl (cI, 2000, .inl (fun _ => 0))), (x3, .inl (cI, 2001, .inl (fun _ => 0))), (x4, .inl (cI, 2001, .inl (fun _ => 0))), (x5, .inl (cJ, 2001, .inr (.inl (fun _ => 0)))), (x6, .inr (3, [.ref x7, .ref x8, .int 0, .ref x9, .int 0])), (x7, .inl (cJ, 120, .inr (.inl (fun _ => 0)))), (x8, .inl (cI, 120, .inl (fun _ => 0))), (x9, .inl (cI, 120, .inl (fun _ => 0))), (x10, .inr (10, [.ref x1, .ref x6, .int 0, .int 0, .int 0, .int 0, .int 0])), (x11, .inr (8, [.ref x1, .ref x10, .ref x12, .ref x13, .int 0])), (x12, .inl (D.1 23, 120, .inr (.inr (.inr (.inr (fun j => some (x14 j))))))), ((x14 0), .inr (1, [.int 0, .int 0, .int 0, .int 0, .int 0, .int 0, .int 0, .int 0, .int 0])), (x15, .inr (4, [.ref x1, .ref x10, .ref x6, .ref x11, .ref x16, .ref x17, .ref x18, .ref x19, .int 0, .ref x20, .int 0, .int 0, .int 0, .int 0, .int (-1 : Int32)])), (x16, .inl (cI, 11008, .inl (fun _ => 0))), (x17, .inl (cI, 11008, .inl (fun _ => 0))), (x18, .inl (cI, 11008, .inl (fun _ => 0))), (x19, .inl (cI, 2048, .inl (fun _ => 0))), (x20, .inl (cI, 4, .inl (fun _ => 0))), (x21, .inr (2, [.ref x22, .ref x23, .ref x24, .ref x25, .ref x26, .int 0, .int 0, .int 0, .int 0, .int 0, .int 0, .int 0, .int 0, .int 0, .int 0, .int 0, .int 0])), (x22, .inl (cI, 11008, .inl (fun _ => 0))), (x23, .inl (cI, 4096, .inl (fun _ => 0))), (x24, .inl (cI, 40, .inl (fun _ => 0))), (x25, .inl (cI, 8, .inl (fun _ => 0))), (x26, .inr (5, [.ref x27, .ref x28, .int 0, .int 0, .int 0, .int 0, .int 0, .int 0, .int 0, .int 0, .int 0, .int 0, .int 0, .int 0])), (x27, .inl (cI, 16, .inl (fun _ => 0))), (x28, .inl (cI, 40, .inl (fun _ => 0)))] : va_W) H _ := I
  refine fb_putF X I hin (k := 5) (wn := ([(zh, .inr (11, [.ref x1, .ref x6, .ref x10, .ref x11, .ref x15, .ref x21, .null, .null, .null, .null])), (x1, .inr (9, [.ref x2, .int 0, .ref x3, .ref x4, .ref x5, .int 0])), (x2, .inl (cI, 2000, .inl (fun _ => 0))), (x3, .inl (cI, 2001, .inl (fun _ => 0))), (x4, .inl (cI, 2001, .inl (fun _ => 0))), (x5, .inl (cJ, 2001, .inr (.inl (fun _ => 0)))), (x6, .inr (3, [.ref x7, .ref x8, .int 0, .ref x9, .int 0])), (x7, .inl (cJ, 120, .inr (.inl (fun _ => 0)))), (x8, .inl (cI, 120, .inl (fun _ => 0))), (x9, .inl (cI, 120, .inl (fun _ => 0))), (x10, .inr (10, [.ref x1, .ref x6, .int 0, .int 0, .int 0, .int 0, .int 0])), (x11, .inr (8, [.ref x1, .ref x10, .ref x12, .ref x13, .int 0])), (x12, .inl (D.1 23, 120, .inr (.inr (.inr (.inr (fun j => some (x14 j))))))), ((x14 0), .inr (1, [.int 0, .int 0, .int 0, .int 0, .int 0, .int 0, .int 0, .int 0, .int 0])), (x15, .inr (4, [.ref x1, .ref x10, .ref x6, .ref x11, .ref x16, .ref x17, .ref x18, .ref x19, .int 0, .ref x20, .int 0, .int 0, .int 0, .int 0, .int (-1 : Int32)])), (x16, .inl (cI, 11008, .inl (fun _ => 0))), (x17, .inl (cI, 11008, .inl (fun _ => 0))), (x18, .inl (cI, 11008, .inl (fun _ => 0))), (x19, .inl (cI, 2048, .inl (fun _ => 0))), (x20, .inl (cI, 4, .inl (fun _ => 0))), (x21, .inr (2, [.ref x22, .ref x23, .ref x24, .ref x25, .ref x26, .int 0, .int 0, .int 0, .int 0, .int 0, .int 0, .int 0, .int 0, .int 0, .int 0, .int 0, .int 0])), (x22, .inl (cI, 11008, .inl (fun _ => 0))), (x23, .inl (cI, 4096, .inl (fun _ => 0))), (x24, .inl (cI, 40, .inl (fun _ => 0))), (x25, .inl (cI, 8, .inl (fun _ => 0))), (x26, .inr (5, [.ref x27, .ref x28, .int 0, .int 0, .int 0, .int 0, .int 0, .int 0, .int 0, .int 0, .int 0, .int 0, .int 0, .int 0])), (x27, .inl (cI, 16, .inl (fun _ => 0))), (x28, .inl (cI, 40, .inl (fun _ => 0)))] : va_W)) fu_X11 tyX11 tyX11_ok nmX11 0 rfl rfl (Nat.le_of_ble_eq_true rfl) fw_692 rfl rfl rfl rfl rfl rfl (Nat.le_of_ble_eq_true rfl) rfl dX11_init_99 (fun H locs I => ?_)
  refine lv_aload_n hx hb dX11_init_102 rfl (lv_at hl 0 rfl) ?_
  refine fb_newO X I (ci := 2) (fs := [.null, .null, .null, .null, .null, .int 0, .int 0, .int 0, .int 0, .int 0, .int 0, .int 0, .int 0, .int 0, .int 0, .int 0, .int 0]) fu_X2 tyX2 tyX2_ok fw_448 fw_449 fw_198 rfl (by decide +kernel) (Nat.le_of_ble_eq_true rfl) (Nat.le_of_ble_eq_true rfl) dX11_init_103 (fun x29 H I => ?_)
  have I : fb_In D A s.heap ([(zh, .inr (11, [.ref x1, .ref x6, .ref x10, .ref x11, .ref x15, .ref x21, .null, .null, .null, .null])), (x1, .inr (9, [.ref x2, .int 0, .ref x3, .ref x4, .ref x5, .int 0])), (x2, .inl (cI, 2000, .inl (fun _ => 0))), (x3, .inl (cI, 2001, .inl (fun _ => 0))), (x4, .inl (cI, 2001, .inl (fun _ => 0))), (x5, .inl (cJ, 2001, .inr (.inl (fun _ => 0)))), (x6, .inr (3, [.ref x7, .ref x8, .int 0, .ref x9, .int 0])), (x7, .inl (cJ, 120, .inr (.inl (fun _ => 0)))), (x8, .inl (cI, 120, .inl (fun _ => 0))), (x9, .inl (cI, 120, .inl (fun _ => 0))), (x10, .inr (10, [.ref x1, .ref x6, .int 0, .int 0, .int 0, .int 0, .int 0])), (x11, .inr (8, [.ref x1, .ref x10, .ref x12, .ref x13, .int 0])), (x12, .inl (D.1 23, 120, .inr (.inr (.inr (.inr (fun j => some (x14 j))))))), ((x14 0), .inr (1, [.int 0, .int 0, .int 0, .int 0, .int 0, .int 0, .int 0, .int 0, .int 0])), (x15, .inr (4, [.ref x1, .ref x10, .ref x6, .ref x11, .ref x16, .ref x17, .ref x18, .ref x19, .int 0, .ref x20, .int 0, .int 0, .int 0, .int 0, .int (-1 : Int32)])), (x16, .inl (cI, 11008, .inl (fun _ => 0))), (x17, .inl (cI, 11008, .inl (fun _ => 0))), (x18, .inl (cI, 11008, .inl (fun _ => 0))), (x19, .inl (cI, 2048, .inl (fun _ => 0))), (x20, .inl (cI, 4, .inl (fun _ => 0))), (x21, .inr (2, [.ref x22, .ref x23, .ref x24, .ref x25, .ref x26, .int 0, .int 0, .int 0, .int 0, .int 0, .int 0, .int 0, .int 0, .int 0, .int 0, .int 0, .int 0])), (x22, .inl (cI, 11008, .inl (fun _ => 0))), (x23, .inl (cI, 4096, .inl (fun _ => 0))), (x24, .inl (cI, 40, .inl (fun _ => 0))), (x25, .inl (cI, 8, .inl (fun _ => 0))), (x26, .inr (5, [.ref x27, .ref x28, .int 0, .int 0, .int 0, .int 0, .int 0, .int 0, .int 0, .int 0, .int 0, .int 0, .int 0, .int 0])), (x27, .inl (cI, 16, .inl (fun _ => 0))), (x28, .inl (cI, 40, .inl (fun _ => 0))), (x29, .inr (2, [.null, .null, .null, .null, .null, .int 0, .int 0, .int 0, .int 0, .int 0, .int 0, .int 0, .int 0, .int 0, .int 0, .int 0, .int 0]))] : va_W) H _ := I
  refine lv_dup hx hb dX11_init_106 rfl ?_
  refine fb_goN (wn := fun (t : Nat × Nat × Nat × Nat × Nat × Nat × Nat) => ([(zh, .inr (11, [.ref x1, .ref x6, .ref x10, .ref x11, .ref x15, .ref x21, .null, .null, .null, .null])), (x1, .inr (9, [.ref x2, .int 0, .ref x3, .ref x4, .ref x5, .int 0])), (x2, .inl (cI, 2000, .inl (fun _ => 0))), (x3, .inl (cI, 2001, .inl (fun _ => 0))), (x4, .inl (cI, 2001, .inl (fun _ => 0))), (x5, .inl (cJ, 2001, .inr (.inl (fun _ => 0)))), (x6, .inr (3, [.ref x7, .ref x8, .int 0, .ref x9, .int 0])), (x7, .inl (cJ, 120, .inr (.inl (fun _ => 0)))), (x8, .inl (cI, 120, .inl (fun _ => 0))), (x9, .inl (cI, 120, .inl (fun _ => 0))), (x10, .inr (10, [.ref x1, .ref x6, .int 0, .int 0, .int 0, .int 0, .int 0])), (x11, .inr (8, [.ref x1, .ref x10, .ref x12, .ref x13, .int 0])), (x12, .inl (D.1 23, 120, .inr (.inr (.inr (.inr (fun j => some (x14 j))))))), ((x14 0), .inr (1, [.int 0, .int 0, .int 0, .int 0, .int 0, .int 0, .int 0, .int 0, .int 0])), (x15, .inr (4, [.ref x1, .ref x10, .ref x6, .ref x11, .ref x16, .ref x17, .ref x18, .ref x19, .int 0, .ref x20, .int 0, .int 0, .int 0, .int 0, .int (-1 : Int32)])), (x16, .inl (cI, 11008, .inl (fun _ => 0))), (x17, .inl (cI, 11008, .inl (fun _ => 0))), (x18, .inl (cI, 11008, .inl (fun _ => 0))), (x19, .inl (cI, 2048, .inl (fun _ => 0))), (x20, .inl (cI, 4, .inl (fun _ => 0))), (x21, .inr (2, [.ref x22, .ref x23, .ref x24, .ref x25, .ref x26, .int 0, .int 0, .int 0, .int 0, .int 0, .int 0, .int 0, .int 0, .int 0, .int 0, .int 0, .int 0])), (x22, .inl (cI, 11008, .inl (fun _ => 0))), (x23, .inl (cI, 4096, .inl (fun _ => 0))), (x24, .inl (cI, 40, .inl (fun _ => 0))), (x25, .inl (cI, 8, .inl (fun _ => 0))), (x26, .inr (5, [.ref x27, .ref x28, .int 0, .int 0, .int 0, .int 0, .int 0, .int 0, .int 0, .int 0, .int 0, .int 0, .int 0, .int 0])), (x27, .inl (cI, 16, .inl (fun _ => 0))), (x28, .inl (cI, 40, .inl (fun _ => 0))), (x29, .inr (2, [.ref (t.1), .ref (t.2.1), .ref (t.2.2.1), .ref (t.2.2.2.1), .ref (t.2.2.2.2.1), .int 0, .int 0, .int 0, .int 0, .int 0, .int 0, .int 0, .int 0, .int 0, .int 0, .int 0, .int 0])), ((t.1), .inl (cI, 11008, .inl (fun _ => 0))), ((t.2.1), .inl (cI, 4096, .inl (fun _ => 0))), ((t.2.2.1), .inl (cI, 40, .inl (fun _ => 0))), ((t.2.2.2.1), .inl (cI, 8, .inl (fun _ => 0))), ((t.2.2.2.2.1), .inr (5, [.ref (t.2.2.2.2.2.1), .ref (t.2.2.2.2.2.2), .int 0, .int 0, .int 0, .int 0, .int 0, .int 0, .int 0, .int 0, .int 0, .int 0, .int 0, .int 0])), ((t.2.2.2.2.2.1), .inl (cI, 16, .inl (fun _ => 0))), ((t.2.2.2.2.2.2), .inl (cI, 40, .inl (fun _ => 0)))] : va_W)) X I (fb_runIN (As := []) (rest := [.ref x29, .ref zh]) X I hl (c_X2_init l D cI cJ x29 _) fw_452 rfl rfl (List.mem_of_getElem? (i := 3) rfl) fw_198 rfl fw_451 (by decide +kernel : fb_hd yX2_init 0) ⟨Nat.le_of_ble_eq_true rfl, Nat.le_of_ble_eq_true rfl⟩ [28] (by decide) rfl rfl rfl (Nat.le_of_ble_eq_true rfl) ⟨Nat.le_of_ble_eq_true rfl, Nat.le_of_ble_eq_true rfl⟩ dX11_init_107) [28] [0, 1, 2, 3, 4, 5, 6, 7, 8, 9, 10, 11, 12, 13, 14, 15, 16, 17, 18, 19, 20, 21, 22, 23, 24, 25, 26, 27] [0, 1, 2, 3, 4, 5, 6, 7, 8, 9, 10, 11, 12, 13, 14, 15, 16, 17, 18, 19, 20, 21, 22, 23, 24, 25, 26, 27, 28, 29, 30, 31, 32, 33, 34, 35] rfl rfl (by decide) (by decide) (by decide) (fun _ => rfl) ?_
  intro t H locs _ I
  obtain ⟨x30, x31, x32, x33, x34, x35, x36⟩ := t
  have I : fb_In D A s.heap ([(zh, .inr (11, [.ref x1, .ref x6, .ref x10, .ref x11, .ref x15, .ref x21, .null, .null, .null, .null])), (x1, .inr (9, [.ref x2, .int 0, .ref x3, .ref x4, .ref x5, .int 0])), (x2, .inl (cI, 2000, .inl (fun _ => 0))), (x3, .inl (cI, 2001, .inl (fun _ => 0))), (x4, .inl (cI, 2001, .inl (fun _ => 0))), (x5, .inl (cJ, 2001, .inr (.inl (fun _ => 0)))), (x6, .inr (3, [.ref x7, .ref x8, .int 0, .ref x9, .int 0])), (x7, .inl (cJ, 120, .inr (.inl (fun _ => 0)))), (x8, .inl (cI, 120, .inl (fun _ => 0))), (x9, .inl (cI, 120, .inl (fun _ => 0))), (x10, .inr (10, [.ref x1, .ref x6, .int 0, .int 0, .int 0, .int 0, .int 0])), (x11, .inr (8, [.ref x1, .ref x10, .ref x12, .ref x13, .int 0])), (x12, .inl (D.1 23, 120, .inr (.inr (.inr (.inr (fun j => some (x14 j))))))), ((x14 0), .inr (1, [.int 0, .int 0, .int 0, .int 0, .int 0, .int 0, .int 0, .int 0, .int 0])), (x15, .inr (4, [.ref x1, .ref x10, .ref x6, .ref x11, .ref x16, .ref x17, .ref x18, .ref x19, .int 0, .ref x20, .int 0, .int 0, .int 0, .int 0, .int (-1 : Int32)])), (x16, .inl (cI, 11008, .inl (fun _ => 0))), (x17, .inl (cI, 11008, .inl (fun _ => 0))), (x18, .inl (cI, 11008, .inl (fun _ => 0))), (x19, .inl (cI, 2048, .inl (fun _ => 0))), (x20, .inl (cI, 4, .inl (fun _ => 0))), (x21, .inr (2, [.ref x22, .ref x23, .ref x24, .ref x25, .ref x26, .int 0, .int 0, .int 0, .int 0, .int 0, .int 0, .int 0, .int 0, .int 0, .int 0, .int 0, .int 0])), (x22, .inl (cI, 11008, .inl (fun _ => 0))), (x23, .inl (cI, 4096, .inl (fun _ => 0))), (x24, .inl (cI, 40, .inl (fun _ => 0))), (x25, .inl (cI, 8, .inl (fun _ => 0))), (x26, .inr (5, [.ref x27, .ref x28, .int 0, .int 0, .int 0, .int 0, .int 0, .int 0, .int 0, .int 0, .int 0, .int 0, .int 0, .int 0])), (x27, .inl (cI, 16, .inl (fun _ => 0))), (x28, .inl (cI, 40, .inl (fun _ => 0))), (x29, .inr (2, [.ref x30, .ref x31, .ref x32, .ref x33, .ref x34, .int 0, .int 0, .int 0, .int 0, .int 0, .int 0, .int 0, .int 0, .int 0, .int 0, .int 0, .int 0])), (x30, .inl (cI, 11008, .inl (fun _ => 0))), (x31, .inl (cI, 4096, .inl (fun _ => 0))), (x32, .inl (cI, 40, .inl (fun _ => 0))), (x33, .inl (cI, 8, .inl (fun _ => 0))), (x34, .inr (5, [.ref x35, .ref x36, .int 0, .int 0, .int 0, .int 0, .int 0, .int 0, .int 0, .int 0, .int 0, .int 0, .int 0, .int 0])), (x35, .inl (cI, 16, .inl (fun _ => 0))), (x36, .inl (cI, 40, .inl (fun _ => 0)))] : va_W) H _ := I
  refine fb_putF X I hin (k := 6) (wn := ([(zh, .inr (11, [.ref x1, .ref x6, .ref x10, .ref x11, .ref x15, .ref x21, .ref x29, .null, .null, .null])), (x1, .inr (9, [.ref x2, .int 0, .ref x3, .ref x4, .ref x5, .int 0])), (x2, .inl (cI, 2000, .inl (fun _ => 0))), (x3, .inl (cI, 2001, .inl (fun _ => 0))), (x4, .inl (cI, 2001, .inl (fun _ => 0))), (x5, .inl (cJ, 2001, .inr (.inl (fun _ => 0)))), (x6, .inr (3, [.ref x7, .ref x8, .int 0, .ref x9, .int 0])), (x7, .inl (cJ, 120, .inr (.inl (fun _ => 0)))), (x8, .inl (cI, 120, .inl (fun _ => 0))), (x9, .inl (cI, 120, .inl (fun _ => 0))), (x10, .inr (10, [.ref x1, .ref x6, .int 0, .int 0, .int 0, .int 0, .int 0])), (x11, .inr (8, [.ref x1, .ref x10, .ref x12, .ref x13, .int 0])), (x12, .inl (D.1 23, 120, .inr (.inr (.inr (.inr (fun j => some (x14 j))))))), ((x14 0), .inr (1, [.int 0, .int 0, .int 0, .int 0, .int 0, .int 0, .int 0, .int 0, .int 0])), (x15, .inr (4, [.ref x1, .ref x10, .ref x6, .ref x11, .ref x16, .ref x17, .ref x18, .ref x19, .int 0, .ref x20, .int 0, .int 0, .int 0, .int 0, .int (-1 : Int32)])), (x16, .inl (cI, 11008, .inl (fun _ => 0))), (x17, .inl (cI, 11008, .inl (fun _ => 0))), (x18, .inl (cI, 11008, .inl (fun _ => 0))), (x19, .inl (cI, 2048, .inl (fun _ => 0))), (x20, .inl (cI, 4, .inl (fun _ => 0))), (x21, .inr (2, [.ref x22, .ref x23, .ref x24, .ref x25, .ref x26, .int 0, .int 0, .int 0, .int 0, .int 0, .int 0, .int 0, .int 0, .int 0, .int 0, .int 0, .int 0])), (x22, .inl (cI, 11008, .inl (fun _ => 0))), (x23, .inl (cI, 4096, .inl (fun _ => 0))), (x24, .inl (cI, 40, .inl (fun _ => 0))), (x25, .inl (cI, 8, .inl (fun _ => 0))), (x26, .inr (5, [.ref x27, .ref x28, .int 0, .int 0, .int 0, .int 0, .int 0, .int 0, .int 0, .int 0, .int 0, .int 0, .int 0, .int 0])), (x27, .inl (cI, 16, .inl (fun _ => 0))), (x28, .inl (cI, 40, .inl (fun _ => 0))), (x29, .inr (2, [.ref x30, .ref x31, .ref x32, .ref x33, .ref x34, .int 0, .int 0, .int 0, .int 0, .int 0, .int 0, .int 0, .int 0, .int 0, .int 0, .int 0, .int 0])), (x30, .inl (cI, 11008, .inl (fun _ => 0))), (x31, .inl (cI, 4096, .inl (fun _ => 0))), (x32, .inl (cI, 40, .inl (fun _ => 0))), (x33, .inl (cI, 8, .inl (fun _ => 0))), (x34, .inr (5, [.ref x35, .ref x36, .int 0, .int 0, .int 0, .int 0, .int 0, .int 0, .int 0, .int 0, .int 0, .int 0, .int 0, .int 0])), (x35, .inl (cI, 16, .inl (fun _ => 0))), (x36, .inl (cI, 40, .inl (fun _ => 0)))] : va_W)) fu_X11 tyX11 tyX11_ok nmX11 0 rfl rfl (Nat.le_of_ble_eq_true rfl) fw_693 rfl rfl rfl rfl rfl rfl (Nat.le_of_ble_eq_true rfl) rfl dX11_init_110 (fun H locs I => ?_)
  refine lv_aload_n hx hb dX11_init_113 rfl (lv_at hl 0 rfl) ?_
  refine fb_newO X I (ci := 0) (fs := [.null, .null, .int 0, .int 0, .int 0, .int 0]) fu_X0 tyX0 tyX0_ok fw_583 fw_584 fw_200 rfl (by decide +kernel) (Nat.le_of_ble_eq_true rfl) (Nat.le_of_ble_eq_true rfl) dX11_init_114 (fun x37 H I => ?_)
  have I : fb_In D A s.heap ([(zh, .inr (11, [.ref x1, .ref x6, .ref x10, .ref x11, .ref x15, .ref x21, .ref x29, .null, .null, .null])), (x1, .inr (9, [.ref x2, .int 0, .ref x3, .ref x4, .ref x5, .int 0])), (x2, .inl (cI, 2000, .inl (fun _ => 0))), (x3, .inl (cI, 2001, .inl (fun _ => 0))), (x4, .inl (cI, 2001, .inl (fun _ => 0))), (x5, .inl (cJ, 2001, .inr (.inl (fun _ => 0)))), (x6, .inr (3, [.ref x7, .ref x8, .int 0, .ref x9, .int 0])), (x7, .inl (cJ, 120, .inr (.inl (fun _ => 0)))), (x8, .inl (cI, 120, .inl (fun _ => 0))), (x9, .inl (cI, 120, .inl (fun _ => 0))), (x10, .inr (10, [.ref x1, .ref x6, .int 0, .int 0, .int 0, .int 0, .int 0])), (x11, .inr (8, [.ref x1, .ref x10, .ref x12, .ref x13, .int 0])), (x12, .inl (D.1 23, 120, .inr (.inr (.inr (.inr (fun j => some (x14 j))))))), ((x14 0), .inr (1, [.int 0, .int 0, .int 0, .int 0, .int 0, .int 0, .int 0, .int 0, .int 0])), (x15, .inr (4, [.ref x1, .ref x10, .ref x6, .ref x11, .ref x16, .ref x17, .ref x18, .ref x19, .int 0, .ref x20, .int 0, .int 0, .int 0, .int 0, .int (-1 : Int32)])), (x16, .inl (cI, 11008, .inl (fun _ => 0))), (x17, .inl (cI, 11008, .inl (fun _ => 0))), (x18, .inl (cI, 11008, .inl (fun _ => 0))), (x19, .inl (cI, 2048, .inl (fun _ => 0))), (x20, .inl (cI, 4, .inl (fun _ => 0))), (x21, .inr (2, [.ref x22, .ref x23, .ref x24, .ref x25, .ref x26, .int 0, .int 0, .int 0, .int 0, .int 0, .int 0, .int 0, .int 0, .int 0, .int 0, .int 0, .int 0])), (x22, .inl (cI, 11008, .inl (fun _ => 0))), (x23, .inl (cI, 4096, .inl (fun _ => 0))), (x24, .inl (cI, 40, .inl (fun _ => 0))), (x25, .inl (cI, 8, .inl (fun _ => 0))), (x26, .inr (5, [.ref x27, .ref x28, .int 0, .int 0, .int 0, .int 0, .int 0, .int 0, .int 0, .int 0, .int 0, .int 0, .int 0, .int 0])), (x27, .inl (cI, 16, .inl (fun _ => 0))), (x28, .inl (cI, 40, .inl (fun _ => 0))), (x29, .inr (2, [.ref x30, .ref x31, .ref x32, .ref x33, .ref x34, .int 0, .int 0, .int 0, .int 0, .int 0, .int 0, .int 0, .int 0, .int 0, .int 0, .int 0, .int 0])), (x30, .inl (cI, 11008, .inl (fun _ => 0))), (x31, .inl (cI, 4096, .inl (fun _ => 0))), (x32, .inl (cI, 40, .inl (fun _ => 0))), (x33, .inl (cI, 8, .inl (fun _ => 0))), (x34, .inr (5, [.ref x35, .ref x36, .int 0, .int 0, .int 0, .int 0, .int 0, .int 0, .int 0, .int 0, .int 0, .int 0, .int 0, .int 0])), (x35, .inl (cI, 16, .inl (fun _ => 0))), (x36, .inl (cI, 40, .inl (fun _ => 0))), (x37, .inr (0, [.null, .null, .int 0, .int 0, .int 0, .int 0]))] : va_W) H _ := I
  refine lv_dup hx hb dX11_init_117 rfl ?_
  refine fb_goN (wn := fun (t : Nat × Nat × Nat × Nat × Nat × Nat × Nat × Nat × Nat × Nat × Nat × Nat × Nat × Nat × Nat × Nat) => ([(zh, .inr (11, [.ref x1, .ref x6, .ref x10, .ref x11, .ref x15, .ref x21, .ref x29, .null, .null, .null])), (x1, .inr (9, [.ref x2, .int 0, .ref x3, .ref x4, .ref x5, .int 0])), (x2, .inl (cI, 2000, .inl (fun _ => 0))), (x3, .inl (cI, 2001, .inl (fun _ => 0))), (x4, .inl (cI, 2001, .inl (fun _ => 0))), (x5, .inl (cJ, 2001, .inr (.inl (fun _ => 0)))), (x6, .inr (3, [.ref x7, .ref x8, .int 0, .ref x9, .int 0])), (x7, .inl (cJ, 120, .inr (.inl (fun _ => 0)))), (x8, .inl (cI, 120, .inl (fun _ => 0))), (x9, .inl (cI, 120, .inl (fun _ => 0))), (x10, .inr (10, [.ref x1, .ref x6, .int 0, .int 0, .int 0, .int 0, .int 0])), (x11, .inr (8, [.ref x1, .ref x10, .ref x12, .ref x13, .int 0])), (x12, .inl (D.1 23, 120, .inr (.inr (.inr (.inr (fun j => some (x14 j))))))), ((x14 0), .inr (1, [.int 0, .int 0, .int 0, .int 0, .int 0, .int 0, .int 0, .int 0, .int 0])), (x15, .inr (4, [.ref x1, .ref x10, .ref x6, .ref x11, .ref x16, .ref x17, .ref x18, .ref x19, .int 0, .ref x20, .int 0, .int 0, .int 0, .int 0, .int (-1 : Int32)])), (x16, .inl (cI, 11008, .inl (fun _ => 0))), (x17, .inl (cI, 11008, .inl (fun _ => 0))), (x18, .inl (cI, 11008, .inl (fun _ => 0))), (x19, .inl (cI, 2048, .inl (fun _ => 0))), (x20, .inl (cI, 4, .inl (fun _ => 0))), (x21, .inr (2, [.ref x22, .ref x23, .ref x24, .ref x25, .ref x26, .int 0, .int 0, .int 0, .int 0, .int 0, .int 0, .int 0, .int 0, .int 0, .int 0, .int 0, .int 0])), (x22, .inl (cI, 11008, .inl (fun _ => 0))), (x23, .inl (cI, 4096, .inl (fun _ => 0))), (x24, .inl (cI, 40, .inl (fun _ => 0))), (x25, .inl (cI, 8, .inl (fun _ => 0))), (x26, .inr (5, [.ref x27, .ref x28, .int 0, .int 0, .int 0, .int 0, .int 0, .int 0, .int 0, .int 0, .int 0, .int 0, .int 0, .int 0])), (x27, .inl (cI, 16, .inl (fun _ => 0))), (x28, .inl (cI, 40, .inl (fun _ => 0))), (x29, .inr (2, [.ref x30, .ref x31, .ref x32, .ref x33, .ref x34, .int 0, .int 0, .int 0, .int 0, .int 0, .int 0, .int 0, .int 0, .int 0, .int 0, .int 0, .int 0])), (x30, .inl (cI, 11008, .inl (fun _ => 0))), (x31, .inl (cI, 4096, .inl (fun _ => 0))), (x32, .inl (cI, 40, .inl (fun _ => 0))), (x33, .inl (cI, 8, .inl (fun _ => 0))), (x34, .inr (5, [.ref x35, .ref x36, .int 0, .int 0, .int 0, .int 0, .int 0, .int 0, .int 0, .int 0, .int 0, .int 0, .int 0, .int 0])), (x35, .inl (cI, 16, .inl (fun _ => 0))), (x36, .inl (cI, 40, .inl (fun _ => 0))), (x37, .inr (0, [.ref (t.1), .ref (t.2.1), .int (-1 : Int32), .int (-1 : Int32), .int 0, .int 0])), ((t.1), .inr (2, [.ref (t.2.2.1), .ref (t.2.2.2.1), .ref (t.2.2.2.2.1), .ref (t.2.2.2.2.2.1), .ref (t.2.2.2.2.2.2.1), .int 0, .int 0, .int 0, .int 0, .int 0, .int 0, .int 0, .int 0, .int 0, .int 0, .int 0, .int 0])), ((t.2.2.1), .inl (cI, 11008, .inl (fun _ => 0))), ((t.2.2.2.1), .inl (cI, 4096, .inl (fun _ => 0))), ((t.2.2.2.2.1), .inl (cI, 40, .inl (fun _ => 0))), ((t.2.2.2.2.2.1), .inl (cI, 8, .inl (fun _ => 0))), ((t.2.2.2.2.2.2.1), .inr (5, [.ref (t.2.2.2.2.2.2.2.1), .ref (t.2.2.2.2.2.2.2.2.1), .int 0, .int 0, .int 0, .int 0, .int 0, .int 0, .int 0, .int 0, .int 0, .int 0, .int 0, .int 0])), ((t.2.2.2.2.2.2.2.1), .inl (cI, 16, .inl (fun _ => 0))), ((t.2.2.2.2.2.2.2.2.1), .inl (cI, 40, .inl (fun _ => 0))), ((t.2.1), .inr (2, [.ref (t.2.2.2.2.2.2.2.2.2.1), .ref (t.2.2.2.2.2.2.2.2.2.2.1), .ref (t.2.2.2.2.2.2.2.2.2.2.2.1), .ref (t.2.2.2.2.2.2.2.2.2.2.2.2.1), .ref (t.2.2.2.2.2.2.2.2.2.2.2.2.2.1), .int 0, .int 0, .int 0, .int 0, .int 0, .int 0, .int 0, .int 0, .int 0, .int 0, .int 0, .int 0])), ((t.2.2.2.2.2.2.2.2.2.1), .inl (cI, 11008, .inl (fun _ => 0))), ((t.2.2.2.2.2.2.2.2.2.2.1), .inl (cI, 4096, .inl (fun _ => 0))), ((t.2.2.2.2.2.2.2.2.2.2.2.1), .inl (cI, 40, .inl (fun _ => 0))), ((t.2.2.2.2.2.2.2.2.2.2.2.2.1), .inl (cI, 8, .inl (fun _ => 0))), ((t.2.2.2.2.2.2.2.2.2.2.2.2.2.1), .inr (5, [.ref (t.2.2.2.2.2.2.2.2.2.2.2.2.2.2.1), .ref (t.2.2.2.2.2.2.2.2.2.2.2.2.2.2.2), .int 0, .int 0, .int 0, .int 0, .int 0, .int 0, .int 0, .int 0, .int 0, .int 0, .int 0, .int 0])), ((t.2.2.2.2.2.2.2.2.2.2.2.2.2.2.1), .inl (cI, 16, .inl (fun _ => 0))), ((t.2.2.2.2.2.2.2.2.2.2.2.2.2.2.2), .inl (cI, 40, .inl (fun _ => 0)))] : va_W)) X I (fb_runIN (As := []) (rest := [.ref x37, .ref zh]) X I hl (c_X0_init l D cI cJ x37 _) fw_587 rfl rfl (List.mem_of_getElem? (i := 5) rfl) fw_200 rfl fw_586 (by decide +kernel : fb_hd yX0_init 0) ⟨Nat.le_of_ble_eq_true rfl, Nat.le_of_ble_eq_true rfl⟩ [36] (by decide) rfl rfl rfl (Nat.le_of_ble_eq_true rfl) ⟨Nat.le_of_ble_eq_true rfl, Nat.le_of_ble_eq_true rfl⟩ dX11_init_118) [36] [0, 1, 2, 3, 4, 5, 6, 7, 8, 9, 10, 11, 12, 13, 14, 15, 16, 17, 18, 19, 20, 21, 22, 23, 24, 25, 26, 27, 28, 29, 30, 31, 32, 33, 34, 35] [0, 1, 2, 3, 4, 5, 6, 7, 8, 9, 10, 11, 12, 13, 14, 15, 16, 17, 18, 19, 20, 21, 22, 23, 24, 25, 26, 27, 28, 29, 30, 31, 32, 33, 34, 35, 36, 37, 38, 39, 40, 41, 42, 43, 44, 45, 46, 47, 48, 49, 50, 51, 52] rfl rfl (by decide) (by decide) (by decide) (fun _ => rfl) ?_
  intro t H locs _ I
  obtain ⟨x38, x39, x40, x41, x42, x43, x44, x45, x46, x47, x48, x49, x50, x51, x52, x53⟩ := t
  have I : fb_In D A s.heap ([(zh, .inr (11, [.ref x1, .ref x6, .ref x10, .ref x11, .ref x15, .ref x21, .ref x29, .null, .null, .null])), (x1, .inr (9, [.ref x2, .int 0, .ref x3, .ref x4, .ref x5, .int 0])), (x2, .inl (cI, 2000, .inl (fun _ => 0))), (x3, .inl (cI, 2001, .inl (fun _ => 0))), (x4, .inl (cI, 2001, .inl (fun _ => 0))), (x5, .inl (cJ, 2001, .inr (.inl (fun _ => 0)))), (x6, .inr (3, [.ref x7, .ref x8, .int 0, .ref x9, .int 0])), (x7, .inl (cJ, 120, .inr (.inl (fun _ => 0)))), (x8, .inl (cI, 120, .inl (fun _ => 0))), (x9, .inl (cI, 120, .inl (fun _ => 0))), (x10, .inr (10, [.ref x1, .ref x6, .int 0, .int 0, .int 0, .int 0, .int 0])), (x11, .inr (8, [.ref x1, .ref x10, .ref x12, .ref x13, .int 0])), (x12, .inl (D.1 23, 120, .inr (.inr (.inr (.inr (fun j => some (x14 j))))))), ((x14 0), .inr (1, [.int 0, .int 0, .int 0, .int 0, .int 0, .int 0, .int 0, .int 0, .int 0])), (x15, .inr (4, [.ref x1, .ref x10, .ref x6, .ref x11, .ref x16, .ref x17, .ref x18, .ref x19, .int 0, .ref x20, .int 0, .int 0, .int 0, .int 0, .int (-1 : Int32)])), (x16, .inl (cI, 11008, .inl (fun _ => 0))), (x17, .inl (cI, 11008, .inl (fun _ => 0))), (x18, .inl (cI, 11008, .inl (fun _ => 0))), (x19, .inl (cI, 2048, .inl (fun _ => 0))), (x20, .inl (cI, 4, .inl (fun _ => 0))), (x21, .inr (2, [.ref x22, .ref x23, .ref x24, .ref x25, .ref x26, .int 0, .int 0, .int 0, .int 0, .int 0, .int 0, .int 0, .int 0, .int 0, .int 0, .int 0, .int 0])), (x22, .inl (cI, 11008, .inl (fun _ => 0))), (x23, .inl (cI, 4096, .inl (fun _ => 0))), (x24, .inl (cI, 40, .inl (fun _ => 0))), (x25, .inl (cI, 8, .inl (fun _ => 0))), (x26, .inr (5, [.ref x27, .ref x28, .int 0, .int 0, .int 0, .int 0, .int 0, .int 0, .int 0, .int 0, .int 0, .int 0, .int 0, .int 0])), (x27, .inl (cI, 16, .inl (fun _ => 0))), (x28, .inl (cI, 40, .inl (fun _ => 0))), (x29, .inr (2, [.ref x30, .ref x31, .ref x32, .ref x33, .ref x34, .int 0, .int 0, .int 0, .int 0, .int 0, .int 0, .int 0, .int 0, .int 0, .int 0, .int 0, .int 0])), (x30, .inl (cI, 11008, .inl (fun _ => 0))), (x31, .inl (cI, 4096, .inl (fun _ => 0))), (x32, .inl (cI, 40, .inl (fun _ => 0))), (x33, .inl (cI, 8, .inl (fun _ => 0))), (x34, .inr (5, [.ref x35, .ref x36, .int 0, .int 0, .int 0, .int 0, .int 0, .int 0, .int 0, .int 0, .int 0, .int 0, .int 0, .int 0])), (x35, .inl (cI, 16, .inl (fun _ => 0))), (x36, .inl (cI, 40, .inl (fun _ => 0))), (x37, .inr (0, [.ref x38, .ref x39, .int (-1 : Int32), .int (-1 : Int32), .int 0, .int 0])), (x38, .inr (2, [.ref x40, .ref x41, .ref x42, .ref x43, .ref x44, .int 0, .int 0, .int 0, .int 0, .int 0, .int 0, .int 0, .int 0, .int 0, .int 0, .int 0, .int 0])), (x40, .inl (cI, 11008, .inl (fun _ => 0))), (x41, .inl (cI, 4096, .inl (fun _ => 0))), (x42, .inl (cI, 40, .inl (fun _ => 0))), (x43, .inl (cI, 8, .inl (fun _ => 0))), (x44, .inr (5, [.ref x45, .ref x46, .int 0, .int 0, .int 0, .int 0, .int 0, .int 0, .int 0, .int 0, .int 0, .int 0, .int 0, .int 0])), (x45, .inl (cI, 16, .inl (fun _ => 0))), (x46, .inl (cI, 40, .inl (fun _ => 0))), (x39, .inr (2, [.ref x47, .ref x48, .ref x49, .ref x50, .ref x51, .int 0, .int 0, .int 0, .int 0, .int 0, .int 0, .int 0, .int 0, .int 0, .int 0, .int 0, .int 0])), (x47, .inl (cI, 11008, .inl (fun _ => 0))), (x48, .inl (cI, 4096, .inl (fun _ => 0))), (x49, .inl (cI, 40, .inl (fun _ => 0))), (x50, .inl (cI, 8, .inl (fun _ => 0))), (x51, .inr (5, [.ref x52, .ref x53, .int 0, .int 0, .int 0, .int 0, .int 0, .int 0, .int 0, .int 0, .int 0, .int 0, .int 0, .int 0])), (x52, .inl (cI, 16, .inl (fun _ => 0))), (x53, .inl (cI, 40, .inl (fun _ => 0)))] : va_W) H _ := I
  refine fb_putF X I hin (k := 7) (wn := ([(zh, .inr (11, [.ref x1, .ref x6, .ref x10, .ref x11, .ref x15, .ref x21, .ref x29, .ref x37, .null, .null])), (x1, .inr (9, [.ref x2, .int 0, .ref x3, .ref x4, .ref x5, .int 0])), (x2, .inl (cI, 2000, .inl (fun _ => 0))), (x3, .inl (cI, 2001, .inl (fun _ => 0))), (x4, .inl (cI, 2001, .inl (fun _ => 0))), (x5, .inl (cJ, 2001, .inr (.inl (fun _ => 0)))), (x6, .inr (3, [.ref x7, .ref x8, .int 0, .ref x9, .int 0])), (x7, .inl (cJ, 120, .inr (.inl (fun _ => 0)))), (x8, .inl (cI, 120, .inl (fun _ => 0))), (x9, .inl (cI, 120, .inl (fun _ => 0))), (x10, .inr (10, [.ref x1, .ref x6, .int 0, .int 0, .int 0, .int 0, .int 0])), (x11, .inr (8, [.ref x1, .ref x10, .ref x12, .ref x13, .int 0])), (x12, .inl (D.1 23, 120, .inr (.inr (.inr (.inr (fun j => some (x14 j))))))), ((x14 0), .inr (1, [.int 0, .int 0, .int 0, .int 0, .int 0, .int 0, .int 0, .int 0, .int 0])), (x15, .inr (4, [.ref x1, .ref x10, .ref x6, .ref x11, .ref x16, .ref x17, .ref x18, .ref x19, .int 0, .ref x20, .int 0, .int 0, .int 0, .int 0, .int (-1 : Int32)])), (x16, .inl (cI, 11008, .inl (fun _ => 0))), (x17, .inl (cI, 11008, .inl (fun _ => 0))), (x18, .inl (cI, 11008, .inl (fun _ => 0))), (x19, .inl (cI, 2048, .inl (fun _ => 0))), (x20, .inl (cI, 4, .inl (fun _ => 0))), (x21, .inr (2, [.ref x22, .ref x23, .ref x24, .ref x25, .ref x26, .int 0, .int 0, .int 0, .int 0, .int 0, .int 0, .int 0, .int 0, .int 0, .int 0, .int 0, .int 0])), (x22, .inl (cI, 11008, .inl (fun _ => 0))), (x23, .inl (cI, 4096, .inl (fun _ => 0))), (x24, .inl (cI, 40, .inl (fun _ => 0))), (x25, .inl (cI, 8, .inl (fun _ => 0))), (x26, .inr (5, [.ref x27, .ref x28, .int 0, .int 0, .int 0, .int 0, .int 0, .int 0, .int 0, .int 0, .int 0, .int 0, .int 0, .int 0])), (x27, .inl (cI, 16, .inl (fun _ => 0))), (x28, .inl (cI, 40, .inl (fun _ => 0))), (x29, .inr (2, [.ref x30, .ref x31, .ref x32, .ref x33, .ref x34, .int 0, .int 0, .int 0, .int 0, .int 0, .int 0, .int 0, .int 0, .int 0, .int 0, .int 0, .int 0])), (x30, .inl (cI, 11008, .inl (fun _ => 0))), (x31, .inl (cI, 4096, .inl (fun _ => 0))), (x32, .inl (cI, 40, .inl (fun _ => 0))), (x33, .inl (cI, 8, .inl (fun _ => 0))), (x34, .inr (5, [.ref x35, .ref x36, .int 0, .int 0, .int 0, .int 0, .int 0, .int 0, .int 0, .int 0, .int 0, .int 0, .int 0, .int 0])), (x35, .inl (cI, 16, .inl (fun _ => 0))), (x36, .inl (cI, 40, .inl (fun _ => 0))), (x37, .inr (0, [.ref x38, .ref x39, .int (-1 : Int32), .int (-1 : Int32), .int 0, .int 0])), (x38, .inr (2, [.ref x40, .ref x41, .ref x42, .ref x43, .ref x44, .int 0, .int 0, .int 0, .int 0, .int 0, .int 0, .int 0, .int 0, .int 0, .int 0, .int 0, .int 0])), (x40, .inl (cI, 11008, .inl (fun _ => 0))), (x41, .inl (cI, 4096, .inl (fun _ => 0))), (x42, .inl (cI, 40, .inl (fun _ => 0))), (x43, .inl (cI, 8, .inl (fun _ => 0))), (x44, .inr (5, [.ref x45, .ref x46, .int 0, .int 0, .int 0, .int 0, .int 0, .int 0, .int 0, .int 0, .int 0, .int 0, .int 0, .int 0])), (x45, .inl (cI, 16, .inl (fun _ => 0))), (x46, .inl (cI, 40, .inl (fun _ => 0))), (x39, .inr (2, [.ref x47, .ref x48, .ref x49, .ref x50, .ref x51, .int 0, .int 0, .int 0, .int 0, .int 0, .int 0, .int 0, .int 0, .int 0, .int 0, .int 0, .int 0])), (x47, .inl (cI, 11008, .inl (fun _ => 0))), (x48, .inl (cI, 4096, .inl (fun _ => 0))), (x49, .inl (cI, 40, .inl (fun _ => 0))), (x50, .inl (cI, 8, .inl (fun _ => 0))), (x51, .inr (5, [.ref x52, .ref x53, .int 0, .int 0, .int 0, .int 0, .int 0, .int 0, .int 0, .int 0, .int 0, .int 0, .int 0, .int 0])), (x52, .inl (cI, 16, .inl (fun _ => 0))), (x53, .inl (cI, 40, .inl (fun _ => 0)))] : va_W)) fu_X11 tyX11 tyX11_ok nmX11 0 rfl rfl (Nat.le_of_ble_eq_true rfl) fw_694 rfl rfl rfl rfl rfl rfl (Nat.le_of_ble_eq_true rfl) rfl dX11_init_121 (fun H locs I => ?_)
  refine lv_aload_n hx hb dX11_init_124 rfl (lv_at hl 0 rfl) ?_
  refine fb_newO X I (ci := 7) (fs := [.null, .null, .int 0, .null, .null, .null, .int 0, .int 0]) fu_X7 tyX7 tyX7_ok fw_611 fw_612 fw_201 rfl (by decide +kernel) (Nat.le_of_ble_eq_true rfl) (Nat.le_of_ble_eq_true rfl) dX11_init_125 (fun x54 H I => ?_)
  have I : fb_In D A s.heap ([(zh, .inr (11, [.ref x1, .ref x6, .ref x10, .ref x11, .ref x15, .ref x21, .ref x29, .ref x37, .null, .null])), (x1, .inr (9, [.ref x2, .int 0, .ref x3, .ref x4, .ref x5, .int 0])), (x2, .inl (cI, 2000, .inl (fun _ => 0))), (x3, .inl (cI, 2001, .inl (fun _ => 0))), (x4, .inl (cI, 2001, .inl (fun _ => 0))), (x5, .inl (cJ, 2001, .inr (.inl (fun _ => 0)))), (x6, .inr (3, [.ref x7, .ref x8, .int 0, .ref x9, .int 0])), (x7, .inl (cJ, 120, .inr (.inl (fun _ => 0)))), (x8, .inl (cI, 120, .inl (fun _ => 0))), (x9, .inl (cI, 120, .inl (fun _ => 0))), (x10, .inr (10, [.ref x1, .ref x6, .int 0, .int 0, .int 0, .int 0, .int 0])), (x11, .inr (8, [.ref x1, .ref x10, .ref x12, .ref x13, .int 0])), (x12, .inl (D.1 23, 120, .inr (.inr (.inr (.inr (fun j => some (x14 j))))))), ((x14 0), .inr (1, [.int 0, .int 0, .int 0, .int 0, .int 0, .int 0, .int 0, .int 0, .int 0])), (x15, .inr (4, [.ref x1, .ref x10, .ref x6, .ref x11, .ref x16, .ref x17, .ref x18, .ref x19, .int 0, .ref x20, .int 0, .int 0, .int 0, .int 0, .int (-1 : Int32)])), (x16, .inl (cI, 11008, .inl (fun _ => 0))), (x17, .inl (cI, 11008, .inl (fun _ => 0))), (x18, .inl (cI, 11008, .inl (fun _ => 0))), (x19, .inl (cI, 2048, .inl (fun _ => 0))), (x20, .inl (cI, 4, .inl (fun _ => 0))), (x21, .inr (2, [.ref x22, .ref x23, .ref x24, .ref x25, .ref x26, .int 0, .int 0, .int 0, .int 0, .int 0, .int 0, .int 0, .int 0, .int 0, .int 0, .int 0, .int 0])), (x22, .inl (cI, 11008, .inl (fun _ => 0))), (x23, .inl (cI, 4096, .inl (fun _ => 0))), (x24, .inl (cI, 40, .inl (fun _ => 0))), (x25, .inl (cI, 8, .inl (fun _ => 0))), (x26, .inr (5, [.ref x27, .ref x28, .int 0, .int 0, .int 0, .int 0, .int 0, .int 0, .int 0, .int 0, .int 0, .int 0, .int 0, .int 0])), (x27, .inl (cI, 16, .inl (fun _ => 0))), (x28, .inl (cI, 40, .inl (fun _ => 0))), (x29, .inr (2, [.ref x30, .ref x31, .ref x32, .ref x33, .ref x34, .int 0, .int 0, .int 0, .int 0, .int 0, .int 0, .int 0, .int 0, .int 0, .int 0, .int 0, .int 0])), (x30, .inl (cI, 11008, .inl (fun _ => 0))), (x31, .inl (cI, 4096, .inl (fun _ => 0))), (x32, .inl (cI, 40, .inl (fun _ => 0))), (x33, .inl (cI, 8, .inl (fun _ => 0))), (x34, .inr (5, [.ref x35, .ref x36, .int 0, .int 0, .int 0, .int 0, .int 0, .int 0, .int 0, .int 0, .int 0, .int 0, .int 0, .int 0])), (x35, .inl (cI, 16, .inl (fun _ => 0))), (x36, .inl (cI, 40, .inl (fun _ => 0))), (x37, .inr (0, [.ref x38, .ref x39, .int (-1 : Int32), .int (-1 : Int32), .int 0, .int 0])), (x38, .inr (2, [.ref x40, .ref x41, .ref x42, .ref x43, .ref x44, .int 0, .int 0, .int 0, .int 0, .int 0, .int 0, .int 0, .int 0, .int 0, .int 0, .int 0, .int 0])), (x40, .inl (cI, 11008, .inl (fun _ => 0))), (x41, .inl (cI, 4096, .inl (fun _ => 0))), (x42, .inl (cI, 40, .inl (fun _ => 0))), (x43, .inl (cI, 8, .inl (fun _ => 0))), (x44, .inr (5, [.ref x45, .ref x46, .int 0, .int 0, .int 0, .int 0, .int 0, .int 0, .int 0, .int 0, .int 0, .int 0, .int 0, .int 0])), (x45, .inl (cI, 16, .inl (fun _ => 0))), (x46, .inl (cI, 40, .inl (fun _ => 0))), (x39, .inr (2, [.ref x47, .ref x48, .ref x49, .ref x50, .ref x51, .int 0, .int 0, .int 0, .int 0, .int 0, .int 0, .int 0, .int 0, .int 0, .int 0, .int 0, .int 0])), (x47, .inl (cI, 11008, .inl (fun _ => 0))), (x48, .inl (cI, 4096, .inl (fun _ => 0))), (x49, .inl (cI, 40, .inl (fun _ => 0))), (x50, .inl (cI, 8, .inl (fun _ => 0))), (x51, .inr (5, [.ref x52, .ref x53, .int 0, .int 0, .int 0, .int 0, .int 0, .int 0, .int 0, .int 0, .int 0, .int 0, .int 0, .int 0])), (x52, .inl (cI, 16, .inl (fun _ => 0))), (x53, .inl (cI, 40, .inl (fun _ => 0))), (x54, .inr (7, [.null, .null, .int 0, .null, .null, .null, .int 0, .int 0]))] : va_W) H _ := I
  refine lv_dup hx hb dX11_init_128 rfl ?_
  refine fb_goN (wn := fun (t : Nat × Nat × Nat × Nat × Nat) => ([(zh, .inr (11, [.ref x1, .ref x6, .ref x10, .ref x11, .ref x15, .ref x21, .ref x29, .ref x37, .null, .null])), (x1, .inr (9, [.ref x2, .int 0, .ref x3, .ref x4, .ref x5, .int 0])), (x2, .inl (cI, 2000, .inl (fun _ => 0))), (x3, .inl (cI, 2001, .inl (fun _ => 0))), (x4, .inl (cI, 2001, .inl (fun _ => 0))), (x5, .inl (cJ, 2001, .inr (.inl (fun _ => 0)))), (x6, .inr (3, [.ref x7, .ref x8, .int 0, .ref x9, .int 0])), (x7, .inl (cJ, 120, .inr (.inl (fun _ => 0)))), (x8, .inl (cI, 120, .inl (fun _ => 0))), (x9, .inl (cI, 120, .inl (fun _ => 0))), (x10, .inr (10, [.ref x1, .ref x6, .int 0, .int 0, .int 0, .int 0, .int 0])), (x11, .inr (8, [.ref x1, .ref x10, .ref x12, .ref x13, .int 0])), (x12, .inl (D.1 23, 120, .inr (.inr (.inr (.inr (fun j => some (x14 j))))))), ((x14 0), .inr (1, [.int 0, .int 0, .int 0, .int 0, .int 0, .int 0, .int 0, .int 0, .int 0])), (x15, .inr (4, [.ref x1, .ref x10, .ref x6, .ref x11, .ref x16, .ref x17, .ref x18, .ref x19, .int 0, .ref x20, .int 0, .int 0, .int 0, .int 0, .int (-1 : Int32)])), (x16, .inl (cI, 11008, .inl (fun _ => 0))), (x17, .inl (cI, 11008, .inl (fun _ => 0))), (x18, .inl (cI, 11008, .inl (fun _ => 0))), (x19, .inl (cI, 2048, .inl (fun _ => 0))), (x20, .inl (cI, 4, .inl (fun _ => 0))), (x21, .inr (2, [.ref x22, .ref x23, .ref x24, .ref x25, .ref x26, .int 0, .int 0, .int 0, .int 0, .int 0, .int 0, .int 0, .int 0, .int 0, .int 0, .int 0, .int 0])), (x22, .inl (cI, 11008, .inl (fun _ => 0))), (x23, .inl (cI, 4096, .inl (fun _ => 0))), (x24, .inl (cI, 40, .inl (fun _ => 0))), (x25, .inl (cI, 8, .inl (fun _ => 0))), (x26, .inr (5, [.ref x27, .ref x28, .int 0, .int 0, .int 0, .int 0, .int 0, .int 0, .int 0, .int 0, .int 0, .int 0, .int 0, .int 0])), (x27, .inl (cI, 16, .inl (fun _ => 0))), (x28, .inl (cI, 40, .inl (fun _ => 0))), (x29, .inr (2, [.ref x30, .ref x31, .ref x32, .ref x33, .ref x34, .int 0, .int 0, .int 0, .int 0, .int 0, .int 0, .int 0, .int 0, .int 0, .int 0, .int 0, .int 0])), (x30, .inl (cI, 11008, .inl (fun _ => 0))), (x31, .inl (cI, 4096, .inl (fun _ => 0))), (x32, .inl (cI, 40, .inl (fun _ => 0))), (x33, .inl (cI, 8, .inl (fun _ => 0))), (x34, .inr (5, [.ref x35, .ref x36, .int 0, .int 0, .int 0, .int 0, .int 0, .int 0, .int 0, .int 0, .int 0, .int 0, .int 0, .int 0])), (x35, .inl (cI, 16, .inl (fun _ => 0))), (x36, .inl (cI, 40, .inl (fun _ => 0))), (x37, .inr (0, [.ref x38, .ref x39, .int (-1 : Int32), .int (-1 : Int32), .int 0, .int 0])), (x38, .inr (2, [.ref x40, .ref x41, .ref x42, .ref x43, .ref x44, .int 0, .int 0, .int 0, .int 0, .int 0, .int 0, .int 0, .int 0, .int 0, .int 0, .int 0, .int 0])), (x40, .inl (cI, 11008, .inl (fun _ => 0))), (x41, .inl (cI, 4096, .inl (fun _ => 0))), (x42, .inl (cI, 40, .inl (fun _ => 0))), (x43, .inl (cI, 8, .inl (fun _ => 0))), (x44, .inr (5, [.ref x45, .ref x46, .int 0, .int 0, .int 0, .int 0, .int 0, .int 0, .int 0, .int 0, .int 0, .int 0, .int 0, .int 0])), (x45, .inl (cI, 16, .inl (fun _ => 0))), (x46, .inl (cI, 40, .inl (fun _ => 0))), (x39, .inr (2, [.ref x47, .ref x48, .ref x49, .ref x50, .ref x51, .int 0, .int 0, .int 0, .int 0, .int 0, .int 0, .int 0, .int 0, .int 0, .int 0, .int 0, .int 0])), (x47, .inl (cI, 11008, .inl (fun _ => 0))), (x48, .inl (cI, 4096, .inl (fun _ => 0))), (x49, .inl (cI, 40, .inl (fun _ => 0))), (x50, .inl (cI, 8, .inl (fun _ => 0))), (x51, .inr (5, [.ref x52, .ref x53, .int 0, .int 0, .int 0, .int 0, .int 0, .int 0, .int 0, .int 0, .int 0, .int 0, .int 0, .int 0])), (x52, .inl (cI, 16, .inl (fun _ => 0))), (x53, .inl (cI, 40, .inl (fun _ => 0))), (x54, .inr (7, [.ref (t.1), .ref (t.2.1), .int 0, .ref (t.2.2.1), .ref (t.2.2.2.1), .ref (t.2.2.2.2), .int 0, .int 0])), ((t.1), .inl (cI, 6, .inl (fun _ => 0))), ((t.2.1), .inl (cI, 6, .inl (fun _ => 0))), ((t.2.2.1), .inl (cI, 4, .inl (fun _ => 0))), ((t.2.2.2.1), .inl (cI, 4, .inl (fun _ => 0))), ((t.2.2.2.2), .inl (cI, 4, .inl (fun _ => 0)))] : va_W)) X I (fb_runIN (As := []) (rest := [.ref x54, .ref zh]) X I hl (c_X7_init l D cI cJ x54 _) fw_615 rfl rfl (List.mem_of_getElem? (i := 7) rfl) fw_201 rfl fw_614 (by decide +kernel : fb_hd yX7_init 0) ⟨Nat.le_of_ble_eq_true rfl, Nat.le_of_ble_eq_true rfl⟩ [53] (by decide) rfl rfl rfl (Nat.le_of_ble_eq_true rfl) ⟨Nat.le_of_ble_eq_true rfl, Nat.le_of_ble_eq_true rfl⟩ dX11_init_129) [53] [0, 1, 2, 3, 4, 5, 6, 7, 8, 9, 10, 11, 12, 13, 14, 15, 16, 17, 18, 19, 20, 21, 22, 23, 24, 25, 26, 27, 28, 29, 30, 31, 32, 33, 34, 35, 36, 37, 38, 39, 40, 41, 42, 43, 44, 45, 46, 47, 48, 49, 50, 51, 52] [0, 1, 2, 3, 4, 5, 6, 7, 8, 9, 10, 11, 12, 13, 14, 15, 16, 17, 18, 19, 20, 21, 22, 23, 24, 25, 26, 27, 28, 29, 30, 31, 32, 33, 34, 35, 36, 37, 38, 39, 40, 41, 42, 43, 44, 45, 46, 47, 48, 49, 50, 51, 52, 53, 54, 55, 56, 57, 58] rfl rfl (by decide) (by decide) (by decide) (fun _ => rfl) ?_
  intro t H locs _ I
  obtain ⟨x55, x56, x57, x58, x59⟩ := t
  have I : fb_In D A s.heap ([(zh, .inr (11, [.ref x1, .ref x6, .ref x10, .ref x11, .ref x15, .ref x21, .ref x29, .ref x37, .null, .null])), (x1, .inr (9, [.ref x2, .int 0, .ref x3, .ref x4, .ref x5, .int 0])), (x2, .inl (cI, 2000, .inl (fun _ => 0))), (x3, .inl (cI, 2001, .inl (fun _ => 0))), (x4, .inl (cI, 2001, .inl (fun _ => 0))), (x5, .inl (cJ, 2001, .inr (.inl (fun _ => 0)))), (x6, .inr (3, [.ref x7, .ref x8, .int 0, .ref x9, .int 0])), (x7, .inl (cJ, 120, .inr (.inl (fun _ => 0)))), (x8, .inl (cI, 120, .inl (fun _ => 0))), (x9, .inl (cI, 120, .inl (fun _ => 0))), (x10, .inr (10, [.ref x1, .ref x6, .int 0, .int 0, .int 0, .int 0, .int 0])), (x11, .inr (8, [.ref x1, .ref x10, .ref x12, .ref x13, .int 0])), (x12, .inl (D.1 23, 120, .inr (.inr (.inr (.inr (fun j => some (x14 j))))))), ((x14 0), .inr (1, [.int 0, .int 0, .int 0, .int 0, .int 0, .int 0, .int 0, .int 0, .int 0])), (x15, .inr (4, [.ref x1, .ref x10, .ref x6, .ref x11, .ref x16, .ref x17, .ref x18, .ref x19, .int 0, .ref x20, .int 0, .int 0, .int 0, .int 0, .int (-1 : Int32)])), (x16, .inl (cI, 11008, .inl (fun _ => 0))), (x17, .inl (cI, 11008, .inl (fun _ => 0))), (x18, .inl (cI, 11008, .inl (fun _ => 0))), (x19, .inl (cI, 2048, .inl (fun _ => 0))), (x20, .inl (cI, 4, .inl (fun _ => 0))), (x21, .inr (2, [.ref x22, .ref x23, .ref x24, .ref x25, .ref x26, .int 0, .int 0, .int 0, .int 0, .int 0, .int 0, .int 0, .int 0, .int 0, .int 0, .int 0, .int 0])), (x22, .inl (cI, 11008, .inl (fun _ => 0))), (x23, .inl (cI, 4096, .inl (fun _ => 0))), (x24, .inl (cI, 40, .inl (fun _ => 0))), (x25, .inl (cI, 8, .inl (fun _ => 0))), (x26, .inr (5, [.ref x27, .ref x28, .int 0, .int 0, .int 0, .int 0, .int 0, .int 0, .int 0, .int 0, .int 0, .int 0, .int 0, .int 0])), (x27, .inl (cI, 16, .inl (fun _ => 0))), (x28, .inl (cI, 40, .inl (fun _ => 0))), (x29, .inr (2, [.ref x30, .ref x31, .ref x32, .ref x33, .ref x34, .int 0, .int 0, .int 0, .int 0, .int 0, .int 0, .int 0, .int 0, .int 0, .int 0, .int 0, .int 0])), (x30, .inl (cI, 11008, .inl (fun _ => 0))), (x31, .inl (cI, 4096, .inl (fun _ => 0))), (x32, .inl (cI, 40, .inl (fun _ => 0))), (x33, .inl (cI, 8, .inl (fun _ => 0))), (x34, .inr (5, [.ref x35, .ref x36, .int 0, .int 0, .int 0, .int 0, .int 0, .int 0, .int 0, .int 0, .int 0, .int 0, .int 0, .int 0])), (x35, .inl (cI, 16, .inl (fun _ => 0))), (x36, .inl (cI, 40, .inl (fun _ => 0))), (x37, .inr (0, [.ref x38, .ref x39, .int (-1 : Int32), .int (-1 : Int32), .int 0, .int 0])), (x38, .inr (2, [.ref x40, .ref x41, .ref x42, .ref x43, .ref x44, .int 0, .int 0, .int 0, .int 0, .int 0, .int 0, .int 0, .int 0, .int 0, .int 0, .int 0, .int 0])), (x40, .inl (cI, 11008, .inl (fun _ => 0))), (x41, .inl (cI, 4096, .inl (fun _ => 0))), (x42, .inl (cI, 40, .inl (fun _ => 0))), (x43, .inl (cI, 8, .inl (fun _ => 0))), (x44, .inr (5, [.ref x45, .ref x46, .int 0, .int 0, .int 0, .int 0, .int 0, .int 0, .int 0, .int 0, .int 0, .int 0, .int 0, .int 0])), (x45, .inl (cI, 16, .inl (fun _ => 0))), (x46, .inl (cI, 40, .inl (fun _ => 0))), (x39, .inr (2, [.ref x47, .ref x48, .ref x49, .ref x50, .ref x51, .int 0, .int 0, .int 0, .int 0, .int 0, .int 0, .int 0, .int 0, .int 0, .int 0, .int 0, .int 0])), (x47, .inl (cI, 11008, .inl (fun _ => 0))), (x48, .inl (cI, 4096, .inl (fun _ => 0))), (x49, .inl (cI, 40, .inl (fun _ => 0))), (x50, .inl (cI, 8, .inl (fun _ => 0))), (x51, .inr (5, [.ref x52, .ref x53, .int 0, .int 0, .int 0, .int 0, .int 0, .int 0, .int 0, .int 0, .int 0, .int 0, .int 0, .int 0])), (x52, .inl (cI, 16, .inl (fun _ => 0))), (x53, .inl (cI, 40, .inl (fun _ => 0))), (x54, .inr (7, [.ref x55, .ref x56, .int 0, .ref x57, .ref x58, .ref x59, .int 0, .int 0])), (x55, .inl (cI, 6, .inl (fun _ => 0))), (x56, .inl (cI, 6, .inl (fun _ => 0))), (x57, .inl (cI, 4, .inl (fun _ => 0))), (x58, .inl (cI, 4, .inl (fun _ => 0))), (x59, .inl (cI, 4, .inl (fun _ => 0)))] : va_W) H _ := I
  refine fb_putF X I hin (k := 8) (wn := ([(zh, .inr (11, [.ref x1, .ref x6, .ref x10, .ref x11, .ref x15, .ref x21, .ref x29, .ref x37, .ref x54, .null])), (x1, .inr (9, [.ref x2, .int 0, .ref x3, .ref x4, .ref x5, .int 0])), (x2, .inl (cI, 2000, .inl (fun _ => 0))), (x3, .inl (cI, 2001, .inl (fun _ => 0))), (x4, .inl (cI, 2001, .inl (fun _ => 0))), (x5, .inl (cJ, 2001, .inr (.inl (fun _ => 0)))), (x6, .inr (3, [.ref x7, .ref x8, .int 0, .ref x9, .int 0])), (x7, .inl (cJ, 120, .inr (.inl (fun _ => 0)))), (x8, .inl (cI, 120, .inl (fun _ => 0))), (x9, .inl (cI, 120, .inl (fun _ => 0))), (x10, .inr (10, [.ref x1, .ref x6, .int 0, .int 0, .int 0, .int 0, .int 0])), (x11, .inr (8, [.ref x1, .ref x10, .ref x12, .ref x13, .int 0])), (x12, .inl (D.1 23, 120, .inr (.inr (.inr (.inr (fun j => some (x14 j))))))), ((x14 0), .inr (1, [.int 0, .int 0, .int 0, .int 0, .int 0, .int 0, .int 0, .int 0, .int 0])), (x15, .inr (4, [.ref x1, .ref x10, .ref x6, .ref x11, .ref x16, .ref x17, .ref x18, .ref x19, .int 0, .ref x20, .int 0, .int 0, .int 0, .int 0, .int (-1 : Int32)])), (x16, .inl (cI, 11008, .inl (fun _ => 0))), (x17, .inl (cI, 11008, .inl (fun _ => 0))), (x18, .inl (cI, 11008, .inl (fun _ => 0))), (x19, .inl (cI, 2048, .inl (fun _ => 0))), (x20, .inl (cI, 4, .inl (fun _ => 0))), (x21, .inr (2, [.ref x22, .ref x23, .ref x24, .ref x25, .ref x26, .int 0, .int 0, .int 0, .int 0, .int 0, .int 0, .int 0, .int 0, .int 0, .int 0, .int 0, .int 0])), (x22, .inl (cI, 11008, .inl (fun _ => 0))), (x23, .inl (cI, 4096, .inl (fun _ => 0))), (x24, .inl (cI, 40, .inl (fun _ => 0))), (x25, .inl (cI, 8, .inl (fun _ => 0))), (x26, .inr (5, [.ref x27, .ref x28, .int 0, .int 0, .int 0, .int 0, .int 0, .int 0, .int 0, .int 0, .int 0, .int 0, .int 0, .int 0])), (x27, .inl (cI, 16, .inl (fun _ => 0))), (x28, .inl (cI, 40, .inl (fun _ => 0))), (x29, .inr (2, [.ref x30, .ref x31, .ref x32, .ref x33, .ref x34, .int 0, .int 0, .int 0, .int 0, .int 0, .int 0, .int 0, .int 0, .int 0, .int 0, .int 0, .int 0])), (x30, .inl (cI, 11008, .inl (fun _ => 0))), (x31, .inl (cI, 4096, .inl (fun _ => 0))), (x32, .inl (cI, 40, .inl (fun _ => 0))), (x33, .inl (cI, 8, .inl (fun _ => 0))), (x34, .inr (5, [.ref x35, .ref x36, .int 0, .int 0, .int 0, .int 0, .int 0, .int 0, .int 0, .int 0, .int 0, .int 0, .int 0, .int 0])), (x35, .inl (cI, 16, .inl (fun _ => 0))), (x36, .inl (cI, 40, .inl (fun _ => 0))), (x37, .inr (0, [.ref x38, .ref x39, .int (-1 : Int32), .int (-1 : Int32), .int 0, .int 0])), (x38, .inr (2, [.ref x40, .ref x41, .ref x42, .ref x43, .ref x44, .int 0, .int 0, .int 0, .int 0, .int 0, .int 0, .int 0, .int 0, .int 0, .int 0, .int 0, .int 0])), (x40, .inl (cI, 11008, .inl (fun _ => 0))), (x41, .inl (cI, 4096, .inl (fun _ => 0))), (x42, .inl (cI, 40, .inl (fun _ => 0))), (x43, .inl (cI, 8, .inl (fun _ => 0))), (x44, .inr (5, [.ref x45, .ref x46, .int 0, .int 0, .int 0, .int 0, .int 0, .int 0, .int 0, .int 0, .int 0, .int 0, .int 0, .int 0])), (x45, .inl (cI, 16, .inl (fun _ => 0))), (x46, .inl (cI, 40, .inl (fun _ => 0))), (x39, .inr (2, [.ref x47, .ref x48, .ref x49, .ref x50, .ref x51, .int 0, .int 0, .int 0, .int 0, .int 0, .int 0, .int 0, .int 0, .int 0, .int 0, .int 0, .int 0])), (x47, .inl (cI, 11008, .inl (fun _ => 0))), (x48, .inl (cI, 4096, .inl (fun _ => 0))), (x49, .inl (cI, 40, .inl (fun _ => 0))), (x50, .inl (cI, 8, .inl (fun _ => 0))), (x51, .inr (5, [.ref x52, .ref x53, .int 0, .int 0, .int 0, .int 0, .int 0, .int 0, .int 0, .int 0, .int 0, .int 0, .int 0, .int 0])), (x52, .inl (cI, 16, .inl (fun _ => 0))), (x53, .inl (cI, 40, .inl (fun _ => 0))), (x54, .inr (7, [.ref x55, .ref x56, .int 0, .ref x57, .ref x58, .ref x59, .int 0, .int 0])), (x55, .inl (cI, 6, .inl (fun _ => 0))), (x56, .inl (cI, 6, .inl (fun _ => 0))), (x57, .inl (cI, 4, .inl (fun _ => 0))), (x58, .inl (cI, 4, .inl (fun _ => 0))), (x59, .inl (cI, 4, .inl (fun _ => 0)))] : va_W)) fu_X11 tyX11 tyX11_ok nmX11 0 rfl rfl (Nat.le_of_ble_eq_true rfl) fw_695 rfl rfl rfl rfl rfl rfl (Nat.le_of_ble_eq_true rfl) rfl dX11_init_132 (fun H locs I => ?_)
  refine lv_aload_n hx hb dX11_init_135 rfl (lv_at hl 0 rfl) ?_
  refine fb_newO X I (ci := 6) (fs := [.null, .null, .null, .int 0, .int 0]) fu_X6 tyX6 tyX6_ok fw_645 fw_646 fw_202 rfl (by decide +kernel) (Nat.le_of_ble_eq_true rfl) (Nat.le_of_ble_eq_true rfl) dX11_init_136 (fun x60 H I => ?_)
  have I : fb_In D A s.heap ([(zh, .inr (11, [.ref x1, .ref x6, .ref x10, .ref x11, .ref x15, .ref x21, .ref x29, .ref x37, .ref x54, .null])), (x1, .inr (9, [.ref x2, .int 0, .ref x3, .ref x4, .ref x5, .int 0])), (x2, .inl (cI, 2000, .inl (fun _ => 0))), (x3, .inl (cI, 2001, .inl (fun _ => 0))), (x4, .inl (cI, 2001, .inl (fun _ => 0))), (x5, .inl (cJ, 2001, .inr (.inl (fun _ => 0)))), (x6, .inr (3, [.ref x7, .ref x8, .int 0, .ref x9, .int 0])), (x7, .inl (cJ, 120, .inr (.inl (fun _ => 0)))), (x8, .inl (cI, 120, .inl (fun _ => 0))), (x9, .inl (cI, 120, .inl (fun _ => 0))), (x10, .inr (10, [.ref x1, .ref x6, .int 0, .int 0, .int 0, .int 0, .int 0])), (x11, .inr (8, [.ref x1, .ref x10, .ref x12, .ref x13, .int 0])), (x12, .inl (D.1 23, 120, .inr (.inr (.inr (.inr (fun j => some (x14 j))))))), ((x14 0), .inr (1, [.int 0, .int 0, .int 0, .int 0, .int 0, .int 0, .int 0, .int 0, .int 0])), (x15, .inr (4, [.ref x1, .ref x10, .ref x6, .ref x11, .ref x16, .ref x17, .ref x18, .ref x19, .int 0, .ref x20, .int 0, .int 0, .int 0, .int 0, .int (-1 : Int32)])), (x16, .inl (cI, 11008, .inl (fun _ => 0))), (x17, .inl (cI, 11008, .inl (fun _ => 0))), (x18, .inl (cI, 11008, .inl (fun _ => 0))), (x19, .inl (cI, 2048, .inl (fun _ => 0))), (x20, .inl (cI, 4, .inl (fun _ => 0))), (x21, .inr (2, [.ref x22, .ref x23, .ref x24, .ref x25, .ref x26, .int 0, .int 0, .int 0, .int 0, .int 0, .int 0, .int 0, .int 0, .int 0, .int 0, .int 0, .int 0])), (x22, .inl (cI, 11008, .inl (fun _ => 0))), (x23, .inl (cI, 4096, .inl (fun _ => 0))), (x24, .inl (cI, 40, .inl (fun _ => 0))), (x25, .inl (cI, 8, .inl (fun _ => 0))), (x26, .inr (5, [.ref x27, .ref x28, .int 0, .int 0, .int 0, .int 0, .int 0, .int 0, .int 0, .int 0, .int 0, .int 0, .int 0, .int 0])), (x27, .inl (cI, 16, .inl (fun _ => 0))), (x28, .inl (cI, 40, .inl (fun _ => 0))), (x29, .inr (2, [.ref x30, .ref x31, .ref x32, .ref x33, .ref x34, .int 0, .int 0, .int 0, .int 0, .int 0, .int 0, .int 0, .int 0, .int 0, .int 0, .int 0, .int 0])), (x30, .inl (cI, 11008, .inl (fun _ => 0))), (x31, .inl (cI, 4096, .inl (fun _ => 0))), (x32, .inl (cI, 40, .inl (fun _ => 0))), (x33, .inl (cI, 8, .inl (fun _ => 0))), (x34, .inr (5, [.ref x35, .ref x36, .int 0, .int 0, .int 0, .int 0, .int 0, .int 0, .int 0, .int 0, .int 0, .int 0, .int 0, .int 0])), (x35, .inl (cI, 16, .inl (fun _ => 0))), (x36, .inl (cI, 40, .inl (fun _ => 0))), (x37, .inr (0, [.ref x38, .ref x39, .int (-1 : Int32), .int (-1 : Int32), .int 0, .int 0])), (x38, .inr (2, [.ref x40, .ref x41, .ref x42, .ref x43, .ref x44, .int 0, .int 0, .int 0, .int 0, .int 0, .int 0, .int 0, .int 0, .int 0, .int 0, .int 0, .int 0])), (x40, .inl (cI, 11008, .inl (fun _ => 0))), (x41, .inl (cI, 4096, .inl (fun _ => 0))), (x42, .inl (cI, 40, .inl (fun _ => 0))), (x43, .inl (cI, 8, .inl (fun _ => 0))), (x44, .inr (5, [.ref x45, .ref x46, .int 0, .int 0, .int 0, .int 0, .int 0, .int 0, .int 0, .int 0, .int 0, .int 0, .int 0, .int 0])), (x45, .inl (cI, 16, .inl (fun _ => 0))), (x46, .inl (cI, 40, .inl (fun _ => 0))), (x39, .inr (2, [.ref x47, .ref x48, .ref x49, .ref x50, .ref x51, .int 0, .int 0, .int 0, .int 0, .int 0, .int 0, .int 0, .int 0, .int 0, .int 0, .int 0, .int 0])), (x47, .inl (cI, 11008, .inl (fun _ => 0))), (x48, .inl (cI, 4096, .inl (fun _ => 0))), (x49, .inl (cI, 40, .inl (fun _ => 0))), (x50, .inl (cI, 8, .inl (fun _ => 0))), (x51, .inr (5, [.ref x52, .ref x53, .int 0, .int 0, .int 0, .int 0, .int 0, .int 0, .int 0, .int 0, .int 0, .int 0, .int 0, .int 0])), (x52, .inl (cI, 16, .inl (fun _ => 0))), (x53, .inl (cI, 40, .inl (fun _ => 0))), (x54, .inr (7, [.ref x55, .ref x56, .int 0, .ref x57, .ref x58, .ref x59, .int 0, .int 0])), (x55, .inl (cI, 6, .inl (fun _ => 0))), (x56, .inl (cI, 6, .inl (fun _ => 0))), (x57, .inl (cI, 4, .inl (fun _ => 0))), (x58, .inl (cI, 4, .inl (fun _ => 0))), (x59, .inl (cI, 4, .inl (fun _ => 0))), (x60, .inr (6, [.null, .null, .null, .int 0, .int 0]))] : va_W) H _ := I
  refine lv_dup hx hb dX11_init_139 rfl ?_
  refine fb_goN (wn := fun (t : Nat × Nat × Nat) => ([(zh, .inr (11, [.ref x1, .ref x6, .ref x10, .ref x11, .ref x15, .ref x21, .ref x29, .ref x37, .ref x54, .null])), (x1, .inr (9, [.ref x2, .int 0, .ref x3, .ref x4, .ref x5, .int 0])), (x2, .inl (cI, 2000, .inl (fun _ => 0))), (x3, .inl (cI, 2001, .inl (fun _ => 0))), (x4, .inl (cI, 2001, .inl (fun _ => 0))), (x5, .inl (cJ, 2001, .inr (.inl (fun _ => 0)))), (x6, .inr (3, [.ref x7, .ref x8, .int 0, .ref x9, .int 0])), (x7, .inl (cJ, 120, .inr (.inl (fun _ => 0)))), (x8, .inl (cI, 120, .inl (fun _ => 0))), (x9, .inl (cI, 120, .inl (fun _ => 0))), (x10, .inr (10, [.ref x1, .ref x6, .int 0, .int 0, .int 0, .int 0, .int 0])), (x11, .inr (8, [.ref x1, .ref x10, .ref x12, .ref x13, .int 0])), (x12, .inl (D.1 23, 120, .inr (.inr (.inr (.inr (fun j => some (x14 j))))))), ((x14 0), .inr (1, [.int 0, .int 0, .int 0, .int 0, .int 0, .int 0, .int 0, .int 0, .int 0])), (x15, .inr (4, [.ref x1, .ref x10, .ref x6, .ref x11, .ref x16, .ref x17, .ref x18, .ref x19, .int 0, .ref x20, .int 0, .int 0, .int 0, .int 0, .int (-1 : Int32)])), (x16, .inl (cI, 11008, .inl (fun _ => 0))), (x17, .inl (cI, 11008, .inl (fun _ => 0))), (x18, .inl (cI, 11008, .inl (fun _ => 0))), (x19, .inl (cI, 2048, .inl (fun _ => 0))), (x20, .inl (cI, 4, .inl (fun _ => 0))), (x21, .inr (2, [.ref x22, .ref x23, .ref x24, .ref x25, .ref x26, .int 0, .int 0, .int 0, .int 0, .int 0, .int 0, .int 0, .int 0, .int 0, .int 0, .int 0, .int 0])), (x22, .inl (cI, 11008, .inl (fun _ => 0))), (x23, .inl (cI, 4096, .inl (fun _ => 0))), (x24, .inl (cI, 40, .inl (fun _ => 0))), (x25, .inl (cI, 8, .inl (fun _ => 0))), (x26, .inr (5, [.ref x27, .ref x28, .int 0, .int 0, .int 0, .int 0, .int 0, .int 0, .int 0, .int 0, .int 0, .int 0, .int 0, .int 0])), (x27, .inl (cI, 16, .inl (fun _ => 0))), (x28, .inl (cI, 40, .inl (fun _ => 0))), (x29, .inr (2, [.ref x30, .ref x31, .ref x32, .ref x33, .ref x34, .int 0, .int 0, .int 0, .int 0, .int 0, .int 0, .int 0, .int 0, .int 0, .int 0, .int 0, .int 0])), (x30, .inl (cI, 11008, .inl (fun _ => 0))), (x31, .inl (cI, 4096, .inl (fun _ => 0))), (x32, .inl (cI, 40, .inl (fun _ => 0))), (x33, .inl (cI, 8, .inl (fun _ => 0))), (x34, .inr (5, [.ref x35, .ref x36, .int 0, .int 0, .int 0, .int 0, .int 0, .int 0, .int 0, .int 0, .int 0, .int 0, .int 0, .int 0])), (x35, .inl (cI, 16, .inl (fun _ => 0))), (x36, .inl (cI, 40, .inl (fun _ => 0))), (x37, .inr (0, [.ref x38, .ref x39, .int (-1 : Int32), .int (-1 : Int32), .int 0, .int 0])), (x38, .inr (2, [.ref x40, .ref x41, .ref x42, .ref x43, .ref x44, .int 0, .int 0, .int 0, .int 0, .int 0, .int 0, .int 0, .int 0, .int 0, .int 0, .int 0, .int 0])), (x40, .inl (cI, 11008, .inl (fun _ => 0))), (x41, .inl (cI, 4096, .inl (fun _ => 0))), (x42, .inl (cI, 40, .inl (fun _ => 0))), (x43, .inl (cI, 8, .inl (fun _ => 0))), (x44, .inr (5, [.ref x45, .ref x46, .int 0, .int 0, .int 0, .int 0, .int 0, .int 0, .int 0, .int 0, .int 0, .int 0, .int 0, .int 0])), (x45, .inl (cI, 16, .inl (fun _ => 0))), (x46, .inl (cI, 40, .inl (fun _ => 0))), (x39, .inr (2, [.ref x47, .ref x48, .ref x49, .ref x50, .ref x51, .int 0, .int 0, .int 0, .int 0, .int 0, .int 0, .int 0, .int 0, .int 0, .int 0, .int 0, .int 0])), (x47, .inl (cI, 11008, .inl (fun _ => 0))), (x48, .inl (cI, 4096, .inl (fun _ => 0))), (x49, .inl (cI, 40, .inl (fun _ => 0))), (x50, .inl (cI, 8, .inl (fun _ => 0))), (x51, .inr (5, [.ref x52, .ref x53, .int 0, .int 0, .int 0, .int 0, .int 0, .int 0, .int 0, .int 0, .int 0, .int 0, .int 0, .int 0])), (x52, .inl (cI, 16, .inl (fun _ => 0))), (x53, .inl (cI, 40, .inl (fun _ => 0))), (x54, .inr (7, [.ref x55, .ref x56, .int 0, .ref x57, .ref x58, .ref x59, .int 0, .int 0])), (x55, .inl (cI, 6, .inl (fun _ => 0))), (x56, .inl (cI, 6, .inl (fun _ => 0))), (x57, .inl (cI, 4, .inl (fun _ => 0))), (x58, .inl (cI, 4, .inl (fun _ => 0))), (x59, .inl (cI, 4, .inl (fun _ => 0))), (x60, .inr (6, [.ref (t.1), .ref (t.2.1), .ref (t.2.2), .int 0, .int 0])), ((t.1), .inl (cI, 4096, .inl (fun _ => 0))), ((t.2.1), .inl (cI, 4096, .inl (fun _ => 0))), ((t.2.2), .inl (cI, 4096, .inl (fun _ => 0)))] : va_W)) X I (fb_runIN (As := []) (rest := [.ref x60, .ref zh]) X I hl (c_X6_init l D cI cJ x60 _) fw_649 rfl rfl (List.mem_of_getElem? (i := 8) rfl) fw_202 rfl fw_648 (by decide +kernel : fb_hd yX6_init 0) ⟨Nat.le_of_ble_eq_true rfl, Nat.le_of_ble_eq_true rfl⟩ [59] (by decide) rfl rfl rfl (Nat.le_of_ble_eq_true rfl) ⟨Nat.le_of_ble_eq_true rfl, Nat.le_of_ble_eq_true rfl⟩ dX11_init_140) [59] [0, 1, 2, 3, 4, 5, 6, 7, 8, 9, 10, 11, 12, 13, 14, 15, 16, 17, 18, 19, 20, 21, 22, 23, 24, 25, 26, 27, 28, 29, 30, 31, 32, 33, 34, 35, 36, 37, 38, 39, 40, 41, 42, 43, 44, 45, 46, 47, 48, 49, 50, 51, 52, 53, 54, 55, 56, 57, 58] [0, 1, 2, 3, 4, 5, 6, 7, 8, 9, 10, 11, 12, 13, 14, 15, 16, 17, 18, 19, 20, 21, 22, 23, 24, 25, 26, 27, 28, 29, 30, 31, 32, 33, 34, 35, 36, 37, 38, 39, 40, 41, 42, 43, 44, 45, 46, 47, 48, 49, 50, 51, 52, 53, 54, 55, 56, 57, 58, 59, 60, 61, 62] rfl rfl (by decide) (by decide) (by decide) (fun _ => rfl) ?_
  intro t H locs _ I
  obtain ⟨x61, x62, x63⟩ := t
  have I : fb_In D A s.heap ([(zh, .inr (11, [.ref x1, .ref x6, .ref x10, .ref x11, .ref x15, .ref x21, .ref x29, .ref x37, .ref x54, .null])), (x1, .inr (9, [.ref x2, .int 0, .ref x3, .ref x4, .ref x5, .int 0])), (x2, .inl (cI, 2000, .inl (fun _ => 0))), (x3, .inl (cI, 2001, .inl (fun _ => 0))), (x4, .inl (cI, 2001, .inl (fun _ => 0))), (x5, .inl (cJ, 2001, .inr (.inl (fun _ => 0)))), (x6, .inr (3, [.ref x7, .ref x8, .int 0, .ref x9, .int 0])), (x7, .inl (cJ, 120, .inr (.inl (fun _ => 0)))), (x8, .inl (cI, 120, .inl (fun _ => 0))), (x9, .inl (cI, 120, .inl (fun _ => 0))), (x10, .inr (10, [.ref x1, .ref x6, .int 0, .int 0, .int 0, .int 0, .int 0])), (x11, .inr (8, [.ref x1, .ref x10, .ref x12, .ref x13, .int 0])), (x12, .inl (D.1 23, 120, .inr (.inr (.inr (.inr (fun j => some (x14 j))))))), ((x14 0), .inr (1, [.int 0, .int 0, .int 0, .int 0, .int 0, .int 0, .int 0, .int 0, .int 0])), (x15, .inr (4, [.ref x1, .ref x10, .ref x6, .ref x11, .ref x16, .ref x17, .ref x18, .ref x19, .int 0, .ref x20, .int 0, .int 0, .int 0, .int 0, .int (-1 : Int32)])), (x16, .inl (cI, 11008, .inl (fun _ => 0))), (x17, .inl (cI, 11008, .inl (fun _ => 0))), (x18, .inl (cI, 11008, .inl (fun _ => 0))), (x19, .inl (cI, 2048, .inl (fun _ => 0))), (x20, .inl (cI, 4, .inl (fun _ => 0))), (x21, .inr (2, [.ref x22, .ref x23, .ref x24, .ref x25, .ref x26, .int 0, .int 0, .int 0, .int 0, .int 0, .int 0, .int 0, .int 0, .int 0, .int 0, .int 0, .int 0])), (x22, .inl (cI, 11008, .inl (fun _ => 0))), (x23, .inl (cI, 4096, .inl (fun _ => 0))), (x24, .inl (cI, 40, .inl (fun _ => 0))), (x25, .inl (cI, 8, .inl (fun _ => 0))), (x26, .inr (5, [.ref x27, .ref x28, .int 0, .int 0, .int 0, .int 0, .int 0, .int 0, .int 0, .int 0, .int 0, .int 0, .int 0, .int 0])), (x27, .inl (cI, 16, .inl (fun _ => 0))), (x28, .inl (cI, 40, .inl (fun _ => 0))), (x29, .inr (2, [.ref x30, .ref x31, .ref x32, .ref x33, .ref x34, .int 0, .int 0, .int 0, .int 0, .int 0, .int 0, .int 0, .int 0, .int 0, .int 0, .int 0, .int 0])), (x30, .inl (cI, 11008, .inl (fun _ => 0))), (x31, .inl (cI, 4096, .inl (fun _ => 0))), (x32, .inl (cI, 40, .inl (fun _ => 0))), (x33, .inl (cI, 8, .inl (fun _ => 0))), (x34, .inr (5, [.ref x35, .ref x36, .int 0, .int 0, .int 0, .int 0, .int 0, .int 0, .int 0, .int 0, .int 0, .int 0, .int 0, .int 0])), (x35, .inl (cI, 16, .inl (fun _ => 0))), (x36, .inl (cI, 40, .inl (fun _ => 0))), (x37, .inr (0, [.ref x38, .ref x39, .int (-1 : Int32), .int (-1 : Int32), .int 0, .int 0])), (x38, .inr (2, [.ref x40, .ref x41, .ref x42, .ref x43, .ref x44, .int 0, .int 0, .int 0, .int 0, .int 0, .int 0, .int 0, .int 0, .int 0, .int 0, .int 0, .int 0])), (x40, .inl (cI, 11008, .inl (fun _ => 0))), (x41, .inl (cI, 4096, .inl (fun _ => 0))), (x42, .inl (cI, 40, .inl (fun _ => 0))), (x43, .inl (cI, 8, .inl (fun _ => 0))), (x44, .inr (5, [.ref x45, .ref x46, .int 0, .int 0, .int 0, .int 0, .int 0, .int 0, .int 0, .int 0, .int 0, .int 0, .int 0, .int 0])), (x45, .inl (cI, 16, .inl (fun _ => 0))), (x46, .inl (cI, 40, .inl (fun _ => 0))), (x39, .inr (2, [.ref x47, .ref x48, .ref x49, .ref x50, .ref x51, .int 0, .int 0, .int 0, .int 0, .int 0, .int 0, .int 0, .int 0, .int 0, .int 0, .int 0, .int 0])), (x47, .inl (cI, 11008, .inl (fun _ => 0))), (x48, .inl (cI, 4096, .inl (fun _ => 0))), (x49, .inl (cI, 40, .inl (fun _ => 0))), (x50, .inl (cI, 8, .inl (fun _ => 0))), (x51, .inr (5, [.ref x52, .ref x53, .int 0, .int 0, .int 0, .int 0, .int 0, .int 0, .int 0, .int 0, .int 0, .int 0, .int 0, .int 0])), (x52, .inl (cI, 16, .inl (fun _ => 0))), (x53, .inl (cI, 40, .inl (fun _ => 0))), (x54, .inr (7, [.ref x55, .ref x56, .int 0, .ref x57, .ref x58, .ref x59, .int 0, .int 0])), (x55, .inl (cI, 6, .inl (fun _ => 0))), (x56, .inl (cI, 6, .inl (fun _ => 0))), (x57, .inl (cI, 4, .inl (fun _ => 0))), (x58, .inl (cI, 4, .inl (fun _ => 0))), (x59, .inl (cI, 4, .inl (fun _ => 0))), (x60, .inr (6, [.ref x61, .ref x62, .ref x63, .int 0, .int 0])), (x61, .inl (cI, 4096, .inl (fun _ => 0))), (x62, .inl (cI, 4096, .inl (fun _ => 0))), (x63, .inl (cI, 4096, .inl (fun _ => 0)))] : va_W) H _ := I
  refine fb_putF X I hin (k := 9) (wn := ([(zh, .inr (11, [.ref x1, .ref x6, .ref x10, .ref x11, .ref x15, .ref x21, .ref x29, .ref x37, .ref x54, .ref x60])), (x1, .inr (9, [.ref x2, .int 0, .ref x3, .ref x4, .ref x5, .int 0])), (x2, .inl (cI, 2000, .inl (fun _ => 0))), (x3, .inl (cI, 2001, .inl (fun _ => 0))), (x4, .inl (cI, 2001, .inl (fun _ => 0))), (x5, .inl (cJ, 2001, .inr (.inl (fun _ => 0)))), (x6, .inr (3, [.ref x7, .ref x8, .int 0, .ref x9, .int 0])), (x7, .inl (cJ, 120, .inr (.inl (fun _ => 0)))), (x8, .inl (cI, 120, .inl (fun _ => 0))), (x9, .inl (cI, 120, .inl (fun _ => 0))), (x10, .inr (10, [.ref x1, .ref x6, .int 0, .int 0, .int 0, .int 0, .int 0])), (x11, .inr (8, [.ref x1, .ref x10, .ref x12, .ref x13, .int 0])), (x12, .inl (D.1 23, 120, .inr (.inr (.inr (.inr (fun j => some (x14 j))))))), ((x14 0), .inr (1, [.int 0, .int 0, .int 0, .int 0, .int 0, .int 0, .int 0, .int 0, .int 0])), (x15, .inr (4, [.ref x1, .ref x10, .ref x6, .ref x11, .ref x16, .ref x17, .ref x18, .ref x19, .int 0, .ref x20, .int 0, .int 0, .int 0, .int 0, .int (-1 : Int32)])), (x16, .inl (cI, 11008, .inl (fun _ => 0))), (x17, .inl (cI, 11008, .inl (fun _ => 0))), (x18, .inl (cI, 11008, .inl (fun _ => 0))), (x19, .inl (cI, 2048, .inl (fun _ => 0))), (x20, .inl (cI, 4, .inl (fun _ => 0))), (x21, .inr (2, [.ref x22, .ref x23, .ref x24, .ref x25, .ref x26, .int 0, .int 0, .int 0, .int 0, .int 0, .int 0, .int 0, .int 0, .int 0, .int 0, .int 0, .int 0])), (x22, .inl (cI, 11008, .inl (fun _ => 0))), (x23, .inl (cI, 4096, .inl (fun _ => 0))), (x24, .inl (cI, 40, .inl (fun _ => 0))), (x25, .inl (cI, 8, .inl (fun _ => 0))), (x26, .inr (5, [.ref x27, .ref x28, .int 0, .int 0, .int 0, .int 0, .int 0, .int 0, .int 0, .int 0, .int 0, .int 0, .int 0, .int 0])), (x27, .inl (cI, 16, .inl (fun _ => 0))), (x28, .inl (cI, 40, .inl (fun _ => 0))), (x29, .inr (2, [.ref x30, .ref x31, .ref x32, .ref x33, .ref x34, .int 0, .int 0, .int 0, .int 0, .int 0, .int 0, .int 0, .int 0, .int 0, .int 0, .int 0, .int 0])), (x30, .inl (cI, 11008, .inl (fun _ => 0))), (x31, .inl (cI, 4096, .inl (fun _ => 0))), (x32, .inl (cI, 40, .inl (fun _ => 0))), (x33, .inl (cI, 8, .inl (fun _ => 0))), (x34, .inr (5, [.ref x35, .ref x36, .int 0, .int 0, .int 0, .int 0, .int 0, .int 0, .int 0, .int 0, .int 0, .int 0, .int 0, .int 0])), (x35, .inl (cI, 16, .inl (fun _ => 0))), (x36, .inl (cI, 40, .inl (fun _ => 0))), (x37, .inr (0, [.ref x38, .ref x39, .int (-1 : Int32), .int (-1 : Int32), .int 0, .int 0])), (x38, .inr (2, [.ref x40, .ref x41, .ref x42, .ref x43, .ref x44, .int 0, .int 0, .int 0, .int 0, .int 0, .int 0, .int 0, .int 0, .int 0, .int 0, .int 0, .int 0])), (x40, .inl (cI, 11008, .inl (fun _ => 0))), (x41, .inl (cI, 4096, .inl (fun _ => 0))), (x42, .inl (cI, 40, .inl (fun _ => 0))), (x43, .inl (cI, 8, .inl (fun _ => 0))), (x44, .inr (5, [.ref x45, .ref x46, .int 0, .int 0, .int 0, .int 0, .int 0, .int 0, .int 0, .int 0, .int 0, .int 0, .int 0, .int 0])), (x45, .inl (cI, 16, .inl (fun _ => 0))), (x46, .inl (cI, 40, .inl (fun _ => 0))), (x39, .inr (2, [.ref x47, .ref x48, .ref x49, .ref x50, .ref x51, .int 0, .int 0, .int 0, .int 0, .int 0, .int 0, .int 0, .int 0, .int 0, .int 0, .int 0, .int 0])), (x47, .inl (cI, 11008, .inl (fun _ => 0))), (x48, .inl (cI, 4096, .inl (fun _ => 0))), (x49, .inl (cI, 40, .inl (fun _ => 0))), (x50, .inl (cI, 8, .inl (fun _ => 0))), (x51, .inr (5, [.ref x52, .ref x53, .int 0, .int 0, .int 0, .int 0, .int 0, .int 0, .int 0, .int 0, .int 0, .int 0, .int 0, .int 0])), (x52, .inl (cI, 16, .inl (fun _ => 0))), (x53, .inl (cI, 40, .inl (fun _ => 0))), (x54, .inr (7, [.ref x55, .ref x56, .int 0, .ref x57, .ref x58, .ref x59, .int 0, .int 0])), (x55, .inl (cI, 6, .inl (fun _ => 0))), (x56, .inl (cI, 6, .inl (fun _ => 0))), (x57, .inl (cI, 4, .inl (fun _ => 0))), (x58, .inl (cI, 4, .inl (fun _ => 0))), (x59, .inl (cI, 4, .inl (fun _ => 0))), (x60, .inr (6, [.ref x61, .ref x62, .ref x63, .int 0, .int 0])), (x61, .inl (cI, 4096, .inl (fun _ => 0))), (x62, .inl (cI, 4096, .inl (fun _ => 0))), (x63, .inl (cI, 4096, .inl (fun _ => 0)))] : va_W)) fu_X11 tyX11 tyX11_ok nmX11 0 rfl rfl (Nat.le_of_ble_eq_true rfl) fw_696 rfl rfl rfl rfl rfl rfl (Nat.le_of_ble_eq_true rfl) rfl dX11_init_143 (fun H locs I => ?_)
  have I := fb_In.pick (ws' := ([(zh, .inr (11, [.ref x1, .ref x6, .ref x10, .ref x11, .ref x15, .ref x21, .ref x29, .ref x37, .ref x54, .ref x60])), (x6, .inr (3, [.ref x7, .ref x8, .int 0, .ref x9, .int 0])), (x9, .inl (cI, 120, .inl (fun _ => 0))), (x15, .inr (4, [.ref x1, .ref x10, .ref x6, .ref x11, .ref x16, .ref x17, .ref x18, .ref x19, .int 0, .ref x20, .int 0, .int 0, .int 0, .int 0, .int (-1 : Int32)])), (x18, .inl (cI, 11008, .inl (fun _ => 0))), (x21, .inr (2, [.ref x22, .ref x23, .ref x24, .ref x25, .ref x26, .int 0, .int 0, .int 0, .int 0, .int 0, .int 0, .int 0, .int 0, .int 0, .int 0, .int 0, .int 0])), (x22, .inl (cI, 11008, .inl (fun _ => 0))), (x23, .inl (cI, 4096, .inl (fun _ => 0))), (x24, .inl (cI, 40, .inl (fun _ => 0))), (x25, .inl (cI, 8, .inl (fun _ => 0))), (x26, .inr (5, [.ref x27, .ref x28, .int 0, .int 0, .int 0, .int 0, .int 0, .int 0, .int 0, .int 0, .int 0, .int 0, .int 0, .int 0])), (x27, .inl (cI, 16, .inl (fun _ => 0))), (x28, .inl (cI, 40, .inl (fun _ => 0))), (x29, .inr (2, [.ref x30, .ref x31, .ref x32, .ref x33, .ref x34, .int 0, .int 0, .int 0, .int 0, .int 0, .int 0, .int 0, .int 0, .int 0, .int 0, .int 0, .int 0])), (x30, .inl (cI, 11008, .inl (fun _ => 0))), (x31, .inl (cI, 4096, .inl (fun _ => 0))), (x32, .inl (cI, 40, .inl (fun _ => 0))), (x33, .inl (cI, 8, .inl (fun _ => 0))), (x34, .inr (5, [.ref x35, .ref x36, .int 0, .int 0, .int 0, .int 0, .int 0, .int 0, .int 0, .int 0, .int 0, .int 0, .int 0, .int 0])), (x35, .inl (cI, 16, .inl (fun _ => 0))), (x36, .inl (cI, 40, .inl (fun _ => 0))), (x37, .inr (0, [.ref x38, .ref x39, .int (-1 : Int32), .int (-1 : Int32), .int 0, .int 0])), (x38, .inr (2, [.ref x40, .ref x41, .ref x42, .ref x43, .ref x44, .int 0, .int 0, .int 0, .int 0, .int 0, .int 0, .int 0, .int 0, .int 0, .int 0, .int 0, .int 0])), (x40, .inl (cI, 11008, .inl (fun _ => 0))), (x41, .inl (cI, 4096, .inl (fun _ => 0))), (x42, .inl (cI, 40, .inl (fun _ => 0))), (x43, .inl (cI, 8, .inl (fun _ => 0))), (x44, .inr (5, [.ref x45, .ref x46, .int 0, .int 0, .int 0, .int 0, .int 0, .int 0, .int 0, .int 0, .int 0, .int 0, .int 0, .int 0])), (x45, .inl (cI, 16, .inl (fun _ => 0))), (x46, .inl (cI, 40, .inl (fun _ => 0))), (x39, .inr (2, [.ref x47, .ref x48, .ref x49, .ref x50, .ref x51, .int 0, .int 0, .int 0, .int 0, .int 0, .int 0, .int 0, .int 0, .int 0, .int 0, .int 0, .int 0])), (x47, .inl (cI, 11008, .inl (fun _ => 0))), (x48, .inl (cI, 4096, .inl (fun _ => 0))), (x49, .inl (cI, 40, .inl (fun _ => 0))), (x50, .inl (cI, 8, .inl (fun _ => 0))), (x51, .inr (5, [.ref x52, .ref x53, .int 0, .int 0, .int 0, .int 0, .int 0, .int 0, .int 0, .int 0, .int 0, .int 0, .int 0, .int 0])), (x52, .inl (cI, 16, .inl (fun _ => 0))), (x53, .inl (cI, 40, .inl (fun _ => 0))), (x54, .inr (7, [.ref x55, .ref x56, .int 0, .ref x57, .ref x58, .ref x59, .int 0, .int 0])), (x60, .inr (6, [.ref x61, .ref x62, .ref x63, .int 0, .int 0])), (x61, .inl (cI, 4096, .inl (fun _ => 0))), (x62, .inl (cI, 4096, .inl (fun _ => 0))), (x63, .inl (cI, 4096, .inl (fun _ => 0))), (x1, .inr (9, [.ref x2, .int 0, .ref x3, .ref x4, .ref x5, .int 0])), (x2, .inl (cI, 2000, .inl (fun _ => 0))), (x3, .inl (cI, 2001, .inl (fun _ => 0))), (x4, .inl (cI, 2001, .inl (fun _ => 0))), (x5, .inl (cJ, 2001, .inr (.inl (fun _ => 0)))), (x7, .inl (cJ, 120, .inr (.inl (fun _ => 0)))), (x8, .inl (cI, 120, .inl (fun _ => 0))), (x10, .inr (10, [.ref x1, .ref x6, .int 0, .int 0, .int 0, .int 0, .int 0])), (x11, .inr (8, [.ref x1, .ref x10, .ref x12, .ref x13, .int 0])), (x12, .inl (D.1 23, 120, .inr (.inr (.inr (.inr (fun j => some (x14 j))))))), ((x14 0), .inr (1, [.int 0, .int 0, .int 0, .int 0, .int 0, .int 0, .int 0, .int 0, .int 0])), (x16, .inl (cI, 11008, .inl (fun _ => 0))), (x17, .inl (cI, 11008, .inl (fun _ => 0))), (x19, .inl (cI, 2048, .inl (fun _ => 0))), (x20, .inl (cI, 4, .inl (fun _ => 0))), (x55, .inl (cI, 6, .inl (fun _ => 0))), (x56, .inl (cI, 6, .inl (fun _ => 0))), (x57, .inl (cI, 4, .inl (fun _ => 0))), (x58, .inl (cI, 4, .inl (fun _ => 0))), (x59, .inl (cI, 4, .inl (fun _ => 0)))] : va_W)) I [0, 6, 9, 14, 17, 20, 21, 22, 23, 24, 25, 26, 27, 28, 29, 30, 31, 32, 33, 34, 35, 36, 37, 38, 39, 40, 41, 42, 43, 44, 45, 46, 47, 48, 49, 50, 51, 52, 53, 59, 60, 61, 62, 1, 2, 3, 4, 5, 7, 8, 10, 11, 12, 13, 15, 16, 18, 19, 54, 55, 56, 57, 58] (by decide) rfl
  obtain ⟨t, ht⟩ : ∃ t : Nat → Nat, t = (fun k => ([x1, x6, x10, x11, x15, x21, x29, x37, x54, x60, x21, x22, x23, x24, x25, x26, x27, x28, 0, 0, x29, x30, x31, x32, x33, x34, x35, x36, 0, 0, x38, x40, x41, x42, x43, x44, x45, x46, 0, 0, x39, x47, x48, x49, x50, x51, x52, x53, 0, 0, x7, x8, x9, 0, 0, 0, 0, 0, 0, 0, 0, 0, 0, 0, x16, x17, x18, x19, 0, x20, x55, x56, 0, x57, x58, x59, 0, 0, 0, 0, x61, x62, x63, 0, 0, 0, 0, 0, 0, 0, x12, x13, 0, 0, 0, 0, 0, 0, 0, 0, x2, x3, x4, x5] : List Nat).getD k 0) := ⟨_, rfl⟩
  have I : fb_In D A s.heap (fb_bw cI cJ (D.1 23) zh t x14 fb_m0 (fun _ => 0)) H locs := by rw [ht]; exact I
  refine lv_aload_n hx hb dX11_init_146 rfl (lv_at hl 0 rfl) ?_
  refine fb_get X I (k := 5) fu_X11 0 rfl rfl (Nat.le_of_ble_eq_true rfl) fw_692 rfl rfl dX11_init_147 ?_
  refine fb_goV (wn := fun (w : fb_AR) => fb_bw cI cJ (D.1 23) zh t x14 (f_X2_restart fb_m0) w) X I (fb_runV (As := []) (rest := []) (q0 := 5) X I hl (c_X2_restart l D cI cJ (fun k => t (10 + k)) fb_m0 (fun _ => 0) _) (fb_goodV fw_669 fw_670 fw_671 fw_198 fw_672) rfl rfl rfl (by decide +kernel : fb_hd yX2_restart 0) ⟨Nat.le_of_ble_eq_true rfl, Nat.le_of_ble_eq_true rfl⟩ [5, 6, 7, 8, 9, 10, 11, 12] (by decide) rfl rfl rfl rfl rfl rfl (Nat.le_of_ble_eq_true rfl) ⟨Nat.le_of_ble_eq_true rfl, Nat.le_of_ble_eq_true rfl⟩ dX11_init_150) [5, 6, 7, 8, 9, 10, 11, 12] [0, 1, 2, 3, 4, 13, 14, 15, 16, 17, 18, 19, 20, 21, 22, 23, 24, 25, 26, 27, 28, 29, 30, 31, 32, 33, 34, 35, 36, 37, 38, 39, 40, 41, 42, 43, 44, 45, 46, 47, 48, 49, 50, 51, 52, 53, 54, 55, 56, 57, 58, 59, 60, 61, 62] [0, 1, 2, 3, 4, 55, 56, 57, 58, 59, 60, 61, 62, 5, 6, 7, 8, 9, 10, 11, 12, 13, 14, 15, 16, 17, 18, 19, 20, 21, 22, 23, 24, 25, 26, 27, 28, 29, 30, 31, 32, 33, 34, 35, 36, 37, 38, 39, 40, 41, 42, 43, 44, 45, 46, 47, 48, 49, 50, 51, 52, 53, 54] rfl rfl (by decide) (by decide) (by decide) (fun _ => rfl) ?_
  intro w H locs _ I
  exact fb_retV (u := (t, x14, w)) X I trivial dX11_init_153
end
section
/-! worlds as lists of blocks: what a call touches comes to the front, the rest isn't looked at -/
section BLK
variable {D : va_G} {A : Nat → Prop} {H0 H : Heap} {locs : List Loc}
theorem fb_permW {ws ws' : va_W} (h : ws.Perm ws') (I : fb_In D A H0 ws H locs) : fb_In D A H0 ws' H locs := by
  refine ⟨?_, ?_, I.2.2⟩
  · intro k q hk
    obtain ⟨i, hi⟩ := List.getElem?_of_mem (h.mem_iff.mpr (List.mem_of_getElem? hk))
    exact I.1 i q hi
  · have hp : ws.Pairwise (fun p q => p.1 ≠ q.1) := by
      rw [List.pairwise_iff_getElem]
      intro i j hi hj hij e
      have := I.2.1.1 i j ws[i] ws[j] (List.getElem?_eq_some_iff.mpr ⟨hi, rfl⟩) (List.getElem?_eq_some_iff.mpr ⟨hj, rfl⟩) e
      omega
    have hp' := h.pairwise hp (fun a => Ne.symm a)
    rw [List.pairwise_iff_getElem] at hp'
    refine ⟨?_, ?_⟩
    · intro i j p q hi hj e
      obtain ⟨hi1, hi2⟩ := List.getElem?_eq_some_iff.mp hi
      obtain ⟨hj1, hj2⟩ := List.getElem?_eq_some_iff.mp hj
      rcases Nat.lt_trichotomy i j with c | c | c
      · exact absurd (by rw [hi2, hj2]; exact e) (hp' i j hi1 hj1 c)
      · exact c
      · exact absurd (by rw [hi2, hj2]; exact e.symm) (hp' j i hj1 hi1 c)
    · intro k q hk
      obtain ⟨i, hi⟩ := List.getElem?_of_mem (h.mem_iff.mpr (List.mem_of_getElem? hk))
      exact I.2.1.2 i q hi
theorem fb_rangeM {α : Type} (bs : List α) : (List.range bs.length).map (fun i => bs[i]?) = bs.map some := by
  apply List.ext_getElem?
  intro i
  rw [List.getElem?_map, List.getElem?_map]
  by_cases h : i < bs.length
  · rw [List.getElem?_range h]
    show some (bs[i]?) = Option.map some (bs[i]?)
    rw [List.getElem?_eq_getElem h]; rfl
  · rw [List.getElem?_eq_none (by rw [List.length_range]; omega), List.getElem?_eq_none (by omega)]; rfl
theorem fb_someM {α : Type} : ∀ (l : List α), (l.map some).filterMap id = l := by
  intro l
  induction l with
  | nil => rfl
  | cons a l ih =>
    show a :: ((l.map some).filterMap id) = a :: l
    rw [ih]
theorem fb_bperm {bs bs' : List va_W} (n : Nat) (hn : bs.length = n) (is : List Nat) (h : is.Perm (List.range n)) (hb : is.map (fun i => bs[i]?) = bs'.map some) : bs.flatten.Perm bs'.flatten := by
  subst hn
  have h1 := h.map (fun i => bs[i]?)
  rw [hb, fb_rangeM] at h1
  have h2 := h1.filterMap id
  rw [fb_someM, fb_someM] at h2
  exact h2.symm.flatten
theorem fb_left {w1 w2 : va_W} (I : fb_In D A H0 (w1 ++ w2) H locs) : fb_In D A H0 w1 H locs := by
  have g : ∀ (k : Nat) (q : Nat × va_E), w1[k]? = some q → (w1 ++ w2)[k]? = some q := fun k q hk => by
    rw [List.getElem?_append_left (List.getElem?_eq_some_iff.mp hk).1]; exact hk
  exact ⟨fun k q hk => I.1 k q (g k q hk), ⟨fun i j p q hi hj e => I.2.1.1 i j p q (g i p hi) (g j q hj) e, fun k q hk => I.2.1.2 k q (g k q hk)⟩, I.2.2⟩
theorem fb_rG {w1 w2 : va_W} {k : Nat} {q : Nat × va_E} (hk : w2[k]? = some q) : (w1 ++ w2)[w1.length + k]? = some q := by
  rw [List.getElem?_append_right (by omega), show w1.length + k - w1.length = k from by omega]; exact hk
theorem fb_right {w1 w2 : va_W} (I : fb_In D A H0 (w1 ++ w2) H locs) : fb_In D A H0 w2 H locs := ⟨fun k q hk => I.1 _ q (fb_rG hk), ⟨fun i j p q hi hj e => by have := I.2.1.1 _ _ p q (fb_rG hi) (fb_rG hj) e; omega, fun k q hk => I.2.1.2 _ q (fb_rG hk)⟩, I.2.2⟩
theorem fb_apart {w1 w2 : va_W} (I : fb_In D A H0 (w1 ++ w2) H locs) {i j : Nat} {p q : Nat × va_E} (hi : w1[i]? = some p) (hj : w2[j]? = some q) : p.1 ≠ q.1 := fun e => by
  have h1 := (List.getElem?_eq_some_iff.mp hi).1
  have := I.2.1.1 i (w1.length + j) p q (by rw [List.getElem?_append_left h1]; exact hi) (fb_rG hj) e
  omega
theorem fb_freeB {wc R : va_W} (I : fb_In D A H0 (wc ++ R) H locs) (hA : ∀ q, H0.size ≤ q → A q) : ∀ q, va_A wc H.size q → A q := by
  intro q h
  rcases h with ⟨k, e, h⟩ | h
  · exact (fb_left I).2.1.2 k (q, e) h
  · exact hA q (Nat.le_trans I.2.2.1 h)
theorem fb_frame {wc w1 R : va_W} {H1 : Heap} {locs1 : List Loc} (I : fb_In D A H0 (wc ++ R) H locs) (hA : ∀ q, H0.size ≤ q → A q) (hk : ∀ q : Nat, q < H.size → ¬ va_A wc H.size q → H1[q]? = H[q]?) (hP1 : va_P D vwCl w1 H1) (hD1 : va_D (va_A wc H.size) w1) (hS1 : va_S A H0 H1 locs1) : fb_In D A H0 (w1 ++ R) H1 locs1 := by
  have out : ∀ (k : Nat) (q : Nat × va_E), R[k]? = some q → q.1 < H.size ∧ ¬ va_A wc H.size q.1 := by
    intro k q hq
    have hl := ((fb_right I).1 k q hq).lt
    refine ⟨hl, fun h => ?_⟩
    rcases h with ⟨k2, e, h⟩ | h
    · exact fb_apart I h hq rfl
    · omega
  refine ⟨va_P.app hP1 (fun k q hq => ((fb_right I).1 k q hq).kept (hk q.1 (out k q hq).1 (out k q hq).2)), va_D.app (hD1.weaken (fun k q _ h => fb_freeB I hA q.1 h)) (fb_right I).2.1 (fun i j x y hx hy hxy => ?_), hS1⟩
  exact (out j y hy).2 (hxy ▸ hD1.2 i x hx)
end BLK
section BLC
variable {p : Program} {l : Launch} {e : Env} {R0 : Room} {s : State} {m : MethodId} {args : Array Value} {below : List Frame} {meth : Method} {c : Code} {H : Heap} {locs : List Loc} {cells slots : Nat} {Q : State → Prop}
  {cc : ByteArray} {own : String} {nL : Nat} {ret : Option FieldType} {D : va_G} {tys : List (ClassId × FieldType)} {A : Nat → Prop} {wc R : va_W} {pc : Nat} {ls : Array Slot} {lv : List (Nat × Value)} {rest : List Value}
theorem fb_preB (X : fb_Bx p s m args meth c cc own nL ret D tys A) (I : fb_In D A s.heap (wc ++ R) H locs) {av : List Value} :
    ∀ U : State, U.heap = H → s.WarmedH U.vm → fb_PP D tys av wc H.size av.toArray U := by
  obtain ⟨hx, hb, hr, hml, hown, hts, hlk, hA, hK, hF⟩ := X
  intro U hU hW
  subst hU
  exact ⟨rfl, rfl, (fb_left I).1, ⟨va_K.moved hW.alike hK.1, hK.2.warm hW⟩, (fb_left I).2.1.weaken (fun _ _ _ _ => trivial), hF.go I.2.2 (fb_freeB I hA) hW.alike⟩
variable {y : MethodName} {bytes : ByteArray} {maxL index n mc ms : Nat} {ret' : Option FieldType} {rm : Room} {As : List Value} {b : Nat} {C : String} {fs : List Value} {ci : Nat} {qc : vw_C} {host : String}
theorem fb_rV {Qc : Array Value → State → Outcome → State → Prop} {free : Addr → Prop} {st0 : List Value} (X : fb_Bx p s m args meth c cc own nL ret D tys A) (hl : lv_has ls nL lv) (hG : GoodIn fb_all (wsV own index C y (Cond.code y bytes maxL ret' :: fb_all)))
    (hM : Met l y (Cond.code y bytes maxL ret' :: fb_all) rm (fb_PP D tys (.ref b :: As) wc H.size) Qc mc ms free) (hrc : rm.cells = mc) (hrs : rm.slots = ms) (hyC : y.cls = C) (hd : fb_hd y n) (hR : rm.frames + 1 ≤ R0.frames ∧ 8 + (maxL + 11) + rm.locals ≤ R0.locals)
    (hq : vwCl[ci]? = some qc) (hqC : qc.1 = C) (he : (wc ++ R)[0]? = some (b, .inr (ci, fs))) (hn : As.length = n) (hst : st0 = As.reverse ++ .ref b :: rest) (hrest : (rest.map fun v => v.category).sum ≤ 8) (hcl : cells + mc ≤ R0.cells ∧ slots + ms ≤ R0.slots) (hdg : decode cc pc = .ok (.invokevirtual index, 3)) (I : fb_In D A s.heap (wc ++ R) H locs) :
    va_Run p l e R0 s m args below meth c H locs cells slots mc ms (F0 m pc ls st0) rest (Qc (Value.ref b :: As).toArray) free := by
  have X0 := X
  obtain ⟨hx, hb, hr, hml, hown, hts, hlk, hA, hK, hF⟩ := X
  subst hst
  subst hqC
  exact va_runV (As := As) (rest := rest) ⟨hx, hb, hml, hown, hts⟩ hM (cwV n hts hG rfl hrc hrs ⟨hyC, hd⟩ hR) ⟨fb_PP.blind, va_recv hK.1 I.1 hq he, fb_preB X0 I⟩ rfl hn hl.1 rfl (lv_room hrest) hdg hcl
theorem fb_rS {Qc : Array Value → State → Outcome → State → Prop} {free : Addr → Prop} {st0 : List Value} (X : fb_Bx p s m args meth c cc own nL ret D tys A) (hl : lv_has ls nL lv) (hG : GoodIn fb_all (va_wsS own index y (Cond.code y bytes maxL ret' :: fb_all)))
    (hM : Met l y (Cond.code y bytes maxL ret' :: fb_all) rm (fb_PP D tys As wc H.size) Qc mc ms free) (hrc : rm.cells = mc) (hrs : rm.slots = ms) (hd : fb_hd y n) (hR : rm.frames + 1 ≤ R0.frames ∧ 8 + (maxL + 11) + rm.locals ≤ R0.locals)
    (hn : As.length = n) (hst : st0 = As.reverse ++ rest) (hrest : (rest.map fun v => v.category).sum ≤ 8) (hcl : cells + mc ≤ R0.cells ∧ slots + ms ≤ R0.slots) (hdg : decode cc pc = .ok (.invokestatic index, 3)) (I : fb_In D A s.heap (wc ++ R) H locs) :
    va_Run p l e R0 s m args below meth c H locs cells slots mc ms (F0 m pc ls st0) rest (Qc As.toArray) free := by
  have X0 := X
  obtain ⟨hx, hb, hr, hml, hown, hts, hlk, hA, hK, hF⟩ := X
  subst hst
  exact va_runS (As := As) (rest := rest) ⟨hx, hb, hml, hown, hts⟩ hM (va_cwS n hts hG rfl hrc hrs hd hR) ⟨fb_PP.blind, fb_preB X0 I⟩ rfl hn hl.1 rfl (lv_room hrest) hdg hcl
/-- the front of a world -/
theorem fb_cut {H0 : Heap} {bs cs rs : List va_W} (I : fb_In D A H0 bs.flatten H locs) (n : Nat) (hn : bs.length = n) (is : List Nat) (h : is.Perm (List.range n)) (hb : is.map (fun i => bs[i]?) = (cs ++ rs).map some) (hc : cs.flatten = wc) : fb_In D A H0 (wc ++ rs.flatten) H locs := by
  have := fb_permW (fb_bperm n hn is h hb) I
  rw [List.flatten_append, hc] at this
  exact this
theorem fb_uncut {H0 : Heap} {bs cs rs : List va_W} (I : fb_In D A H0 (wc ++ rs.flatten) H locs) (n : Nat) (hn : bs.length = n) (is : List Nat) (h : is.Perm (List.range n)) (hb : is.map (fun i => bs[i]?) = (cs ++ rs).map some) (hc : cs.flatten = wc) : fb_In D A H0 bs.flatten H locs := by
  rw [← hc, ← List.flatten_append] at I
  exact fb_permW (fb_bperm n hn is h hb).symm I
/-! going on behind a call, worlds by blocks; what the callee made counts -/
variable {bs cs rs : List va_W} {a : Array Value} {st0 : List Value}
theorem fb_gV {S : Type} {post : S → Prop} {wf : S → va_W} (wn ds : S → List va_W) (X : fb_Bx p s m args meth c cc own nL ret D tys A) (I : fb_In D A s.heap bs.flatten H locs) (is : List Nat) (n : Nat) (hn : bs.length = n) (h : is.Perm (List.range n)) (hb : is.map (fun i => bs[i]?) = (cs ++ rs).map some) (hc : cs.flatten = wc)
    (js : List Nat) (n2 : Nat) (hn2 : ∀ u, (wn u).length = n2) (h2 : js.Perm (List.range n2)) (hb2 : ∀ u, js.map (fun i => (wn u)[i]?) = (ds u ++ rs).map some) (hc2 : ∀ u, (ds u).flatten = wf u)
    (hr : fb_In D A s.heap (wc ++ rs.flatten) H locs → va_Run p l e R0 s m args below meth c H locs cells slots mc ms (F0 m pc ls st0) rest (fb_QV D (va_A wc H.size) post wf a) (va_A wc H.size))
    (kk : ∀ (u : S) (H1 : Heap) (locs1 : List Loc), post u → fb_In D A s.heap (wn u).flatten H1 locs1 → W p l e R0 s m args below meth c H1 locs1 (cells + mc) (slots + ms) Q (F0 m (pc + 3) ls rest)) : W p l e R0 s m args below meth c H locs cells slots Q (F0 m pc ls st0) := by
  have J := fb_cut I n hn is h hb hc
  obtain ⟨hx, hb', hr', hml, hown, hts, hlk, hA, hK, hF⟩ := X
  refine va_callv (hr J) J.2.2 (fun q _ h => fb_freeB J hA q h) (fb_freeB J hA) ?_
  intro u t H1 locs1 ht hvm hp hBt hsz hkk hS1
  subst ht
  exact kk u _ locs1 hp (fb_uncut (fb_frame J hA hkk hBt.1 hBt.2 hS1) n2 (hn2 u) js h2 (hb2 u) (hc2 u))
theorem fb_gO {v : Int32} (X : fb_Bx p s m args meth c cc own nL ret D tys A) (I : fb_In D A s.heap bs.flatten H locs) (is : List Nat) (n : Nat) (hn : bs.length = n) (h : is.Perm (List.range n)) (hb : is.map (fun i => bs[i]?) = (cs ++ rs).map some) (hc : cs.flatten = wc)
    (hr : fb_In D A s.heap (wc ++ rs.flatten) H locs → va_Run p l e R0 s m args below meth c H locs cells slots 0 0 (F0 m pc ls st0) rest (vp_Si (fun r => r = v) a) (fun _ => False))
    (kk : W p l e R0 s m args below meth c H locs cells slots Q (F0 m (pc + 3) ls (.int v :: rest))) : W p l e R0 s m args below meth c H locs cells slots Q (F0 m pc ls st0) := fb_csi (hr (fb_cut I n hn is h hb hc)) (fun r h => by subst h; exact kk)
/-! tops -/
theorem fb_tI {x v : Int32} (h : x = v) (kk : W p l e R0 s m args below meth c H locs cells slots Q (F0 m pc ls (.int v :: rest))) : W p l e R0 s m args below meth c H locs cells slots Q (F0 m pc ls (.int x :: rest)) := by rw [h]; exact kk
/-! new rows of ints and truths behind the blocks -/
theorem fb_snoc {H0 : Heap} {w : va_W} (I : fb_In D A H0 (bs.flatten ++ w) H locs) : fb_In D A H0 (bs ++ [w]).flatten H locs := by
  rw [List.flatten_append, show ([w] : List va_W).flatten = w from by simp]
  exact I
theorem fb_dropB {H0 : Heap} {bs bs' gs : List va_W} (I : fb_In D A H0 bs.flatten H locs) (n : Nat) (hn : bs.length = n) (is : List Nat) (h : is.Perm (List.range n)) (hb : is.map (fun i => bs[i]?) = (bs' ++ gs).map some) : fb_In D A H0 bs'.flatten H locs := by
  have J := fb_permW (fb_bperm n hn is h hb) I
  rw [List.flatten_append] at J
  exact fb_left J
end BLC
section BLN
variable {p : Program} {l : Launch} {e : Env} {R0 : Room} {s : State} {m : MethodId} {args : Array Value} {below : List Frame} {meth : Method} {c : Code} {H : Heap} {locs : List Loc} {cells slots : Nat} {Q : State → Prop}
  {cc : ByteArray} {own : String} {nL : Nat} {ret : Option FieldType} {D : va_G} {cI cJ : ClassId} {A : Nat → Prop} {pc : Nat} {ls : Array Slot} {rest : List Value} {bs : List va_W}
theorem fb_nI (X : fb_Bx p s m args meth c cc own nL ret D (fb_ty D cI cJ) A) (I : fb_In D A s.heap bs.flatten H locs) {n : Int32} {N : Nat} (harr : Cond.arrayClass .int ∈ fb_all) (hn : ¬ n < 0 ∧ n.toNatClampNeg = N) (hby : N * componentBytes .int ≤ 536870912) (hc : cells + 1 ≤ R0.cells) (hs : slots + N ≤ R0.slots) (hdg : decode cc pc = .ok (.newarray .int, 2))
    (kk : ∀ (q : Nat) (H1 : Heap), fb_In D A s.heap (bs ++ [fb_aw cI q N (fun _ => 0)]).flatten H1 locs → W p l e R0 s m args below meth c H1 locs (cells + 1) (slots + N) Q (F0 m (pc + 2) ls (.ref q :: rest))) : W p l e R0 s m args below meth c H locs cells slots Q (F0 m pc ls (.int n :: rest)) :=
  fb_newI X I harr hn hby hc hs hdg fun q H1 J => kk q H1 (fb_snoc (w := fb_aw cI q N (fun _ => 0)) J)
theorem fb_nZ (X : fb_Bx p s m args meth c cc own nL ret D (fb_ty D cI cJ) A) (I : fb_In D A s.heap bs.flatten H locs) {n : Int32} {N : Nat} (harr : Cond.arrayClass .boolean ∈ fb_all) (hn : ¬ n < 0 ∧ n.toNatClampNeg = N) (hby : N * componentBytes .boolean ≤ 536870912) (hc : cells + 1 ≤ R0.cells) (hs : slots + N ≤ R0.slots) (hdg : decode cc pc = .ok (.newarray .boolean, 2))
    (kk : ∀ (q : Nat) (H1 : Heap), fb_In D A s.heap (bs ++ [fb_aw (D.1 20) q N (fun _ => 0)]).flatten H1 locs → W p l e R0 s m args below meth c H1 locs (cells + 1) (slots + N) Q (F0 m (pc + 2) ls (.ref q :: rest))) : W p l e R0 s m args below meth c H locs cells slots Q (F0 m pc ls (.int n :: rest)) :=
  fb_newZ X I harr hn hby hc hs hdg fun q H1 J => kk q H1 (fb_snoc (w := fb_aw (D.1 20) q N (fun _ => 0)) J)
end BLN
section BLA
variable {p : Program} {l : Launch} {e : Env} {R : Room} {s : State} {m : MethodId} {args : Array Value} {below : List Frame} {meth : Method} {c : Code} {H : Heap} {locs : List Loc} {cells slots : Nat} {Q : State → Prop}
  {cc : ByteArray} {own : String} {nL : Nat} {ret : Option FieldType} {D : va_G} {tys : List (ClassId × FieldType)} {A : Nat → Prop} {ws : va_W} {pc : Nat} {ls : Array Slot} {rest : List Value} {a : Nat} {cA : ClassId} {N n : Nat} {f : Nat → Int32} {wn : va_W} {i x v : Int32}
theorem fb_inC (hn : i.toNatClampNeg = n) (h0 : ¬ i < 0) (hlt : n < N) : vp_in i N := by
  subst hn
  intro h
  rcases h with h | h
  · exact h0 h
  · exact absurd hlt (Nat.not_lt.mpr h)
/-! reads and writes of rows at a known place -/
theorem fb_iaC (X : fb_Bx p s m args meth c cc own nL ret D tys A) (I : fb_In D A s.heap ws H locs) (q0 t0 : Nat) (ha : ws[q0]? = some (a, .inl (cA, N, .inl f))) (ht : tys[t0]? = some (cA, .int)) (hn : i.toNatClampNeg = n) (h0 : ¬ i < 0) (hlt : n < N) (hv : f n = v) (hdg : decode cc pc = .ok (.iaload, 1))
    (kk : W p l e R s m args below meth c H locs cells slots Q (F0 m (pc + 1) ls (.int v :: rest))) : W p l e R s m args below meth c H locs cells slots Q (F0 m pc ls (.int i :: .ref a :: rest)) := by
  refine fb_iald X I q0 t0 ha ht (fb_inC hn h0 hlt) hdg ?_
  rw [hn, hv]; exact kk
theorem fb_zaC (X : fb_Bx p s m args meth c cc own nL ret D tys A) (I : fb_In D A s.heap ws H locs) (q0 t0 : Nat) (ha : ws[q0]? = some (a, .inl (cA, N, .inl f))) (ht : tys[t0]? = some (cA, .boolean)) (hn : i.toNatClampNeg = n) (h0 : ¬ i < 0) (hlt : n < N) (hv : f n = v) (hdg : decode cc pc = .ok (.baload, 1))
    (kk : W p l e R s m args below meth c H locs cells slots Q (F0 m (pc + 1) ls (.int v :: rest))) : W p l e R s m args below meth c H locs cells slots Q (F0 m pc ls (.int i :: .ref a :: rest)) := by
  obtain ⟨hx, hb, hr, hml, hown, hts, hlk, hA, hK, hF⟩ := X
  refine va_zald hx hb hK.1 I.1 q0 t0 ha ht (fb_inC hn h0 hlt) hdg ?_
  rw [hn, hv]; exact kk
theorem fb_isC (X : fb_Bx p s m args meth c cc own nL ret D tys A) (I : fb_In D A s.heap ws H locs) (q0 t0 : Nat) (ha : ws[q0]? = some (a, .inl (cA, N, .inl f))) (ht : tys[t0]? = some (cA, .int)) (hn : i.toNatClampNeg = n) (h0 : ¬ i < 0) (hlt : n < N) (hwn : ws.set q0 (a, .inl (cA, N, .inl (upd f n x))) = wn) (hdg : decode cc pc = .ok (.iastore, 1))
    (kk : ∀ (H1 : Heap) (locs1 : List Loc), fb_In D A s.heap wn H1 locs1 → W p l e R s m args below meth c H1 locs1 cells slots Q (F0 m (pc + 1) ls rest)) : W p l e R s m args below meth c H locs cells slots Q (F0 m pc ls (.int x :: .int i :: .ref a :: rest)) := by
  subst hn
  exact fb_iast X I q0 t0 ha ht (fb_inC rfl h0 hlt) hwn hdg kk
theorem fb_zsC (X : fb_Bx p s m args meth c cc own nL ret D tys A) (I : fb_In D A s.heap ws H locs) (q0 t0 : Nat) (ha : ws[q0]? = some (a, .inl (cA, N, .inl f))) (ht : tys[t0]? = some (cA, .boolean)) (hn : i.toNatClampNeg = n) (h0 : ¬ i < 0) (hlt : n < N) (hx9 : vp_nar .boolean x = v) (hwn : ws.set q0 (a, .inl (cA, N, .inl (upd f n v))) = wn) (hdg : decode cc pc = .ok (.bastore, 1))
    (kk : ∀ (H1 : Heap) (locs1 : List Loc), fb_In D A s.heap wn H1 locs1 → W p l e R s m args below meth c H1 locs1 cells slots Q (F0 m (pc + 1) ls rest)) : W p l e R s m args below meth c H locs cells slots Q (F0 m pc ls (.int x :: .int i :: .ref a :: rest)) := by
  obtain ⟨hx, hb, hr, hml, hown, hts, hlk, hA, hK, hF⟩ := X
  subst hn
  subst hx9
  refine va_zast hx hb hK.1 I.1 I.2.1 I.2.2 q0 t0 ha ht (fb_inC rfl h0 hlt) hdg ?_
  intro H1 locs1 h1 h2 h3
  rw [hwn] at h1 h2
  exact kk H1 locs1 ⟨h1, h2, h3⟩
end BLA
end
section
/-! the reference's object: scalars by their field's number, rows by theirs -/
def fb_f12 (r : Nat → Nat) (η : fb_AR) : List Value := [.ref (r 0), .ref (r 1), .int (η 2), .ref (r 3), .int (η 4), .int (η 5), .int (η 6), .int (η 7), .int (η 8), .int (η 9), .int (η 10), .ref (r 11), .ref (r 12), .int (η 13), .ref (r 14), .ref (r 15), .ref (r 16), .ref (r 17), .int (η 18), .int (η 19), .ref (r 20), .int (η 21), .ref (r 22), .ref (r 23), .ref (r 24), .ref (r 25), .int (η 26), .int (η 27), .int (η 28), .int (η 29), .int (η 30), .int (η 31), .ref (r 32), .ref (r 33), .int (η 34), .int (η 35), .int (η 36), .int (η 37), .ref (r 38), .ref (r 39), .ref (r 40), .int (η 41), .int (η 42), .int (η 43), .int (η 44), .ref (r 45), .ref (r 46), .ref (r 47), .ref (r 48), .int (η 49), .int (η 50)]
def fb_o12 (a : Nat) (r : Nat → Nat) (η : fb_AR) : va_W := [(a, .inr (12, fb_f12 r η))]
theorem fb_h12 {a : Nat} {r : Nat → Nat} {η : fb_AR} {bs : List va_W} : (fb_o12 a r η :: bs).flatten[0]? = some (a, .inr (12, fb_f12 r η)) := rfl
theorem fb_r12_2 {a : Nat} {r : Nat → Nat} {η : fb_AR} {bs : List va_W} {v : Int32} : (fb_o12 a r η :: bs).flatten.set 0 (a, .inr (12, (fb_f12 r η).set 2 (.int v))) = (fb_o12 a r (upd η 2 v) :: bs).flatten := rfl
theorem fb_r12_10 {a : Nat} {r : Nat → Nat} {η : fb_AR} {bs : List va_W} {v : Int32} : (fb_o12 a r η :: bs).flatten.set 0 (a, .inr (12, (fb_f12 r η).set 10 (.int v))) = (fb_o12 a r (upd η 10 v) :: bs).flatten := rfl
theorem fb_r12_19 {a : Nat} {r : Nat → Nat} {η : fb_AR} {bs : List va_W} {v : Int32} : (fb_o12 a r η :: bs).flatten.set 0 (a, .inr (12, (fb_f12 r η).set 19 (.int v))) = (fb_o12 a r (upd η 19 v) :: bs).flatten := rfl
def fb_qh (D : va_G) (a N : Nat) (h : Nat → Option Nat) : va_W := [(a, .inl (D.1 22, N, .inr (.inr (.inr (.inr h)))))]
section HIR
variable {p : Program} {l : Launch} {e : Env} {R : Room} {s : State} {m : MethodId} {args : Array Value} {below : List Frame} {meth : Method} {c : Code} {H : Heap} {locs : List Loc} {cells slots : Nat} {Q : State → Prop}
  {cc : ByteArray} {own : String} {nL : Nat} {ret : Option FieldType} {D : va_G} {cI cJ : ClassId} {A : Nat → Prop} {ws : va_W} {pc : Nat} {ls : Array Slot} {lv : List (Nat × Value)} {rest : List Value} {a n k v : Nat} {f : Nat → Option Nat} {i : Int32}
end HIR
end
section
/-! X12_isIn -/
def f_X12_isIn (l0 : Int32) (l1 : Int32) (l2 : Int32) : Int32 := (if l0 < l1 then (0 : Int32) else (if l2 < l0 then (0 : Int32) else (1 : Int32)))
set_option maxHeartbeats 4000000 in
set_option maxRecDepth 100000 in
theorem b_X12_isIn_0 {p : Program} {l : Launch} {e : Env} {s : State} {m : MethodId} {args : Array Value} {below : List Frame} {meth : Method} {c : Code} {D : va_G} {cI cJ : ClassId} {A : Nat → Prop}  {z : Int32} (X : fb_Bx p s m args meth c cX12_isIn RX12 3 (some .boolean) D (fb_ty D cI cJ) A) {l0 : Int32} {l1 : Int32} {l2 : Int32} {ls : Array Slot}  (I : fb_In D A s.heap (([] : va_W)) s.heap []) (hl : lv_has ls 3 [(0, .int l0), (1, .int l1), (2, .int l2)]) (E : z = f_X12_isIn l0 l1 l2) : W p l e ({ frames := 0, cells := 0, slots := 0, locals := 0 } : Room) s m args below meth c s.heap [] 0 0 (MQ below (vp_Si (fun r => r = z)) args s 0 0 (fun _ => False)) (F0 m 0 ls []) := by
  obtain ⟨hx, hb, hr, hml, hown, hts, hlk, hA, hK, hF⟩ := id X
  refine lv_iload_n hx hb dX12_isIn_0 rfl (lv_at hl 0 rfl) ?_
  refine lv_iload_n hx hb dX12_isIn_1 rfl (lv_at hl 1 rfl) ?_
  refine lv_icmp_lt (tgt := 14) hx hb dX12_isIn_2 (by decide) (fun c1 => ?_) (fun c1 => ?_)
  · have E2 := (E.trans (if_pos c1))
    refine lv_iconst (v := (0 : Int32)) hx hb dX12_isIn_14 (by decide) ?_
    exact fb_retRI X E2 rfl dX12_isIn_15
  · have E3 := (E.trans (if_neg c1))
    refine lv_iload_n hx hb dX12_isIn_5 rfl (lv_at hl 0 rfl) ?_
    refine lv_iload_n hx hb dX12_isIn_6 rfl (lv_at hl 2 rfl) ?_
    refine lv_icmp_gt (tgt := 14) hx hb dX12_isIn_7 (by decide) (fun c4 => ?_) (fun c4 => ?_)
    · have E5 := (E3.trans (if_pos c4))
      refine lv_iconst (v := (0 : Int32)) hx hb dX12_isIn_14 (by decide) ?_
      exact fb_retRI X E5 rfl dX12_isIn_15
    · have E6 := (E3.trans (if_neg c4))
      refine lv_iconst (v := (1 : Int32)) hx hb dX12_isIn_10 (by decide) ?_
      refine lv_goto (tgt := 15) hx hb dX12_isIn_11 (by decide) ?_
      exact fb_retRI X E6 rfl dX12_isIn_15
set_option maxHeartbeats 4000000 in
set_option maxRecDepth 100000 in
theorem c_X12_isIn (l : Launch) (D : va_G) (cI cJ : ClassId)  (l0 : Int32) (l1 : Int32) (l2 : Int32) (sz : Nat)  : Met l yX12_isIn (Cond.code yX12_isIn cX12_isIn 3 (some .boolean) :: fb_all) ({ frames := 0, cells := 0, slots := 0, locals := 0 } : Room) (fb_PP D (fb_ty D cI cJ) [.int l0, .int l1, .int l2] (([] : va_W)) sz) (vp_Si (fun r => r = ((f_X12_isIn l0 l1 l2)))) 0 0 (fun _ => False) := by
  refine fb_entR (by decide +kernel) (Nat.le_of_ble_eq_true rfl) ?_
  intro p e s m args below meth c A ls X I hl hin
  exact b_X12_isIn_0 X  I hl rfl
/-! X12_isPort -/
def f_X12_isPort (l0 : Int32) : Int32 := (if l0 < (1792 : Int32) then (0 : Int32) else (if (2048 : Int32) ≤ l0 then (0 : Int32) else (1 : Int32)))
set_option maxHeartbeats 4000000 in
set_option maxRecDepth 100000 in
theorem b_X12_isPort_0 {p : Program} {l : Launch} {e : Env} {s : State} {m : MethodId} {args : Array Value} {below : List Frame} {meth : Method} {c : Code} {D : va_G} {cI cJ : ClassId} {A : Nat → Prop}  {z : Int32} (X : fb_Bx p s m args meth c cX12_isPort RX12 1 (some .boolean) D (fb_ty D cI cJ) A) {l0 : Int32} {ls : Array Slot}  (I : fb_In D A s.heap (([] : va_W)) s.heap []) (hl : lv_has ls 1 [(0, .int l0)]) (E : z = f_X12_isPort l0) : W p l e ({ frames := 0, cells := 0, slots := 0, locals := 0 } : Room) s m args below meth c s.heap [] 0 0 (MQ below (vp_Si (fun r => r = z)) args s 0 0 (fun _ => False)) (F0 m 0 ls []) := by
  obtain ⟨hx, hb, hr, hml, hown, hts, hlk, hA, hK, hF⟩ := id X
  refine lv_iload_n hx hb dX12_isPort_0 rfl (lv_at hl 0 rfl) ?_
  refine lv_sipush (v := (1792 : Int32)) hx hb dX12_isPort_1 (by decide) ?_
  refine lv_icmp_lt (tgt := 18) hx hb dX12_isPort_4 (by decide) (fun c1 => ?_) (fun c1 => ?_)
  · have E2 := (E.trans (if_pos c1))
    refine lv_iconst (v := (0 : Int32)) hx hb dX12_isPort_18 (by decide) ?_
    exact fb_retRI X E2 rfl dX12_isPort_19
  · have E3 := (E.trans (if_neg c1))
    refine lv_iload_n hx hb dX12_isPort_7 rfl (lv_at hl 0 rfl) ?_
    refine lv_sipush (v := (2048 : Int32)) hx hb dX12_isPort_8 (by decide) ?_
    refine lv_icmp_ge (tgt := 18) hx hb dX12_isPort_11 (by decide) (fun c4 => ?_) (fun c4 => ?_)
    · have E5 := (E3.trans (if_pos c4))
      refine lv_iconst (v := (0 : Int32)) hx hb dX12_isPort_18 (by decide) ?_
      exact fb_retRI X E5 rfl dX12_isPort_19
    · have E6 := (E3.trans (if_neg c4))
      refine lv_iconst (v := (1 : Int32)) hx hb dX12_isPort_14 (by decide) ?_
      refine lv_goto (tgt := 19) hx hb dX12_isPort_15 (by decide) ?_
      exact fb_retRI X E6 rfl dX12_isPort_19
set_option maxHeartbeats 4000000 in
set_option maxRecDepth 100000 in
theorem c_X12_isPort (l : Launch) (D : va_G) (cI cJ : ClassId)  (l0 : Int32) (sz : Nat)  : Met l yX12_isPort (Cond.code yX12_isPort cX12_isPort 1 (some .boolean) :: fb_all) ({ frames := 0, cells := 0, slots := 0, locals := 0 } : Room) (fb_PP D (fb_ty D cI cJ) [.int l0] (([] : va_W)) sz) (vp_Si (fun r => r = ((f_X12_isPort l0)))) 0 0 (fun _ => False) := by
  refine fb_entR (by decide +kernel) (Nat.le_of_ble_eq_true rfl) ?_
  intro p e s m args below meth c A ls X I hl hin
  exact b_X12_isPort_0 X  I hl rfl
/-! X12_modesFrom -/
def f_X12_modesFrom (l0 : Int32) : Int32 := (if (16 : Int32) ≤ l0 then (if (24 : Int32) ≤ l0 then (3 : Int32) else (2 : Int32)) else (1 : Int32))
set_option maxHeartbeats 4000000 in
set_option maxRecDepth 100000 in
theorem b_X12_modesFrom_0 {p : Program} {l : Launch} {e : Env} {s : State} {m : MethodId} {args : Array Value} {below : List Frame} {meth : Method} {c : Code} {D : va_G} {cI cJ : ClassId} {A : Nat → Prop}  {z : Int32} (X : fb_Bx p s m args meth c cX12_modesFrom RX12 1 (some .int) D (fb_ty D cI cJ) A) {l0 : Int32} {ls : Array Slot}  (I : fb_In D A s.heap (([] : va_W)) s.heap []) (hl : lv_has ls 1 [(0, .int l0)]) (E : z = f_X12_modesFrom l0) : W p l e ({ frames := 0, cells := 0, slots := 0, locals := 0 } : Room) s m args below meth c s.heap [] 0 0 (MQ below (vp_Si (fun r => r = z)) args s 0 0 (fun _ => False)) (F0 m 0 ls []) := by
  obtain ⟨hx, hb, hr, hml, hown, hts, hlk, hA, hK, hF⟩ := id X
  refine lv_iload_n hx hb dX12_modesFrom_0 rfl (lv_at hl 0 rfl) ?_
  refine lv_bipush (v := (16 : Int32)) hx hb dX12_modesFrom_1 (by decide) ?_
  refine lv_icmp_ge (tgt := 10) hx hb dX12_modesFrom_3 (by decide) (fun c1 => ?_) (fun c1 => ?_)
  · have E2 := (E.trans (if_pos c1))
    refine lv_iload_n hx hb dX12_modesFrom_10 rfl (lv_at hl 0 rfl) ?_
    refine lv_bipush (v := (24 : Int32)) hx hb dX12_modesFrom_11 (by decide) ?_
    refine lv_icmp_ge (tgt := 20) hx hb dX12_modesFrom_13 (by decide) (fun c4 => ?_) (fun c4 => ?_)
    · have E5 := (E2.trans (if_pos c4))
      refine lv_iconst (v := (3 : Int32)) hx hb dX12_modesFrom_20 (by decide) ?_
      exact fb_retRI X E5 rfl dX12_modesFrom_21
    · have E6 := (E2.trans (if_neg c4))
      refine lv_iconst (v := (2 : Int32)) hx hb dX12_modesFrom_16 (by decide) ?_
      refine lv_goto (tgt := 21) hx hb dX12_modesFrom_17 (by decide) ?_
      exact fb_retRI X E6 rfl dX12_modesFrom_21
  · have E3 := (E.trans (if_neg c1))
    refine lv_iconst (v := (1 : Int32)) hx hb dX12_modesFrom_6 (by decide) ?_
    refine lv_goto (tgt := 21) hx hb dX12_modesFrom_7 (by decide) ?_
    exact fb_retRI X E3 rfl dX12_modesFrom_21
set_option maxHeartbeats 4000000 in
set_option maxRecDepth 100000 in
theorem c_X12_modesFrom (l : Launch) (D : va_G) (cI cJ : ClassId)  (l0 : Int32) (sz : Nat)  : Met l yX12_modesFrom (Cond.code yX12_modesFrom cX12_modesFrom 1 (some .int) :: fb_all) ({ frames := 0, cells := 0, slots := 0, locals := 0 } : Room) (fb_PP D (fb_ty D cI cJ) [.int l0] (([] : va_W)) sz) (vp_Si (fun r => r = ((f_X12_modesFrom l0)))) 0 0 (fun _ => False) := by
  refine fb_entR (by decide +kernel) (Nat.le_of_ble_eq_true rfl) ?_
  intro p e s m args below meth c A ls X I hl hin
  exact b_X12_modesFrom_0 X  I hl rfl
/-! X12_modesTo -/
def f_X12_modesTo (l0 : Int32) : Int32 := (if (24 : Int32) ≤ l0 then (5 : Int32) else (6 : Int32))
set_option maxHeartbeats 4000000 in
set_option maxRecDepth 100000 in
theorem b_X12_modesTo_0 {p : Program} {l : Launch} {e : Env} {s : State} {m : MethodId} {args : Array Value} {below : List Frame} {meth : Method} {c : Code} {D : va_G} {cI cJ : ClassId} {A : Nat → Prop}  {z : Int32} (X : fb_Bx p s m args meth c cX12_modesTo RX12 1 (some .int) D (fb_ty D cI cJ) A) {l0 : Int32} {ls : Array Slot}  (I : fb_In D A s.heap (([] : va_W)) s.heap []) (hl : lv_has ls 1 [(0, .int l0)]) (E : z = f_X12_modesTo l0) : W p l e ({ frames := 0, cells := 0, slots := 0, locals := 0 } : Room) s m args below meth c s.heap [] 0 0 (MQ below (vp_Si (fun r => r = z)) args s 0 0 (fun _ => False)) (F0 m 0 ls []) := by
  obtain ⟨hx, hb, hr, hml, hown, hts, hlk, hA, hK, hF⟩ := id X
  refine lv_iload_n hx hb dX12_modesTo_0 rfl (lv_at hl 0 rfl) ?_
  refine lv_bipush (v := (24 : Int32)) hx hb dX12_modesTo_1 (by decide) ?_
  refine lv_icmp_ge (tgt := 11) hx hb dX12_modesTo_3 (by decide) (fun c1 => ?_) (fun c1 => ?_)
  · have E2 := (E.trans (if_pos c1))
    refine lv_iconst (v := (5 : Int32)) hx hb dX12_modesTo_11 (by decide) ?_
    exact fb_retRI X E2 rfl dX12_modesTo_12
  · have E3 := (E.trans (if_neg c1))
    refine lv_bipush (v := (6 : Int32)) hx hb dX12_modesTo_6 (by decide) ?_
    refine lv_goto (tgt := 12) hx hb dX12_modesTo_8 (by decide) ?_
    exact fb_retRI X E3 rfl dX12_modesTo_12
set_option maxHeartbeats 4000000 in
set_option maxRecDepth 100000 in
theorem c_X12_modesTo (l : Launch) (D : va_G) (cI cJ : ClassId)  (l0 : Int32) (sz : Nat)  : Met l yX12_modesTo (Cond.code yX12_modesTo cX12_modesTo 1 (some .int) :: fb_all) ({ frames := 0, cells := 0, slots := 0, locals := 0 } : Room) (fb_PP D (fb_ty D cI cJ) [.int l0] (([] : va_W)) sz) (vp_Si (fun r => r = ((f_X12_modesTo l0)))) 0 0 (fun _ => False) := by
  refine fb_entR (by decide +kernel) (Nat.le_of_ble_eq_true rfl) ?_
  intro p e s m args below meth c A ls X I hl hin
  exact b_X12_modesTo_0 X  I hl rfl
/-! X12_isInstruction -/
def f_X12_isInstruction (l0 : Int32) : Int32 := (if (l0 / (8 : Int32)) < (4 : Int32) then (1 : Int32) else (if (l0 / (8 : Int32)) = (26 : Int32) then (1 : Int32) else (if (l0 / (8 : Int32)) = (27 : Int32) then (if (2 : Int32) ≤ (l0 - l0 / (8 : Int32) * (8 : Int32)) then (0 : Int32) else (1 : Int32)) else (if (26 : Int32) ≤ (l0 / (8 : Int32)) then (0 : Int32) else (if (f_X12_isIn (l0 - l0 / (8 : Int32) * (8 : Int32)) (f_X12_modesFrom (l0 / (8 : Int32))) (f_X12_modesTo (l0 / (8 : Int32)))) = 0 then (0 : Int32) else (1 : Int32))))))
set_option maxHeartbeats 4000000 in
set_option maxRecDepth 100000 in
theorem b_X12_isInstruction_0 {p : Program} {l : Launch} {e : Env} {s : State} {m : MethodId} {args : Array Value} {below : List Frame} {meth : Method} {c : Code} {D : va_G} {cI cJ : ClassId} {A : Nat → Prop}  {z : Int32} (X : fb_Bx p s m args meth c cX12_isInstruction RX12 3 (some .boolean) D (fb_ty D cI cJ) A) {l0 : Int32} {ls : Array Slot}  (I : fb_In D A s.heap (([] : va_W)) s.heap []) (hl : lv_has ls 3 [(0, .int l0)]) (E : z = f_X12_isInstruction l0) : W p l e ({ frames := 1, cells := 0, slots := 0, locals := 22 } : Room) s m args below meth c s.heap [] 0 0 (MQ below (vp_Si (fun r => r = z)) args s 0 0 (fun _ => False)) (F0 m 0 ls []) := by
  obtain ⟨hx, hb, hr, hml, hown, hts, hlk, hA, hK, hF⟩ := id X
  refine lv_iload_n hx hb dX12_isInstruction_0 rfl (lv_at hl 0 rfl) ?_
  refine lv_bipush (v := (8 : Int32)) hx hb dX12_isInstruction_1 (by decide) ?_
  refine lv_idiv hx hb dX12_isInstruction_3 (by decide) ?_
  refine lv_istore_n (lv' := [(1, .int (l0 / (8 : Int32))), (0, .int l0)]) hx hb dX12_isInstruction_4 rfl hl (by decide) rfl (fun ls hl => ?_)
  refine lv_iload_n hx hb dX12_isInstruction_5 rfl (lv_at hl 1 rfl) ?_
  refine lv_bipush (v := (8 : Int32)) hx hb dX12_isInstruction_6 (by decide) ?_
  refine lv_irem hx hb dX12_isInstruction_8 (by decide) ?_
  refine lv_istore_n (lv' := [(2, .int (l0 - l0 / (8 : Int32) * (8 : Int32))), (1, .int (l0 / (8 : Int32))), (0, .int l0)]) hx hb dX12_isInstruction_9 rfl hl (by decide) rfl (fun ls hl => ?_)
  refine lv_iload_n hx hb dX12_isInstruction_10 rfl (lv_at hl 1 rfl) ?_
  refine lv_iconst (v := (4 : Int32)) hx hb dX12_isInstruction_11 (by decide) ?_
  refine lv_icmp_lt (tgt := 21) hx hb dX12_isInstruction_12 (by decide) (fun c1 => ?_) (fun c1 => ?_)
  · have E2 := (E.trans (if_pos c1))
    refine lv_iconst (v := (1 : Int32)) hx hb dX12_isInstruction_21 (by decide) ?_
    exact fb_retRI X E2 rfl dX12_isInstruction_22
  · have E3 := (E.trans (if_neg c1))
    refine lv_iload_n hx hb dX12_isInstruction_15 rfl (lv_at hl 1 rfl) ?_
    refine lv_bipush (v := (26 : Int32)) hx hb dX12_isInstruction_16 (by decide) ?_
    refine lv_icmp_ne (tgt := 23) hx hb dX12_isInstruction_18 (by decide) (fun c4 => ?_) (fun c4 => ?_)
    · have E5 := (E3.trans (if_neg c4))
      refine lv_iload_n hx hb dX12_isInstruction_23 rfl (lv_at hl 1 rfl) ?_
      refine lv_bipush (v := (27 : Int32)) hx hb dX12_isInstruction_24 (by decide) ?_
      refine lv_icmp_ne (tgt := 40) hx hb dX12_isInstruction_26 (by decide) (fun c7 => ?_) (fun c7 => ?_)
      · have E8 := (E5.trans (if_neg c7))
        refine lv_iload_n hx hb dX12_isInstruction_40 rfl (lv_at hl 1 rfl) ?_
        refine lv_bipush (v := (26 : Int32)) hx hb dX12_isInstruction_41 (by decide) ?_
        refine lv_icmp_ge (tgt := 65) hx hb dX12_isInstruction_43 (by decide) (fun c10 => ?_) (fun c10 => ?_)
        · have E11 := (E8.trans (if_pos c10))
          refine lv_iconst (v := (0 : Int32)) hx hb dX12_isInstruction_65 (by decide) ?_
          exact fb_retRI X E11 rfl dX12_isInstruction_66
        · have E12 := (E8.trans (if_neg c10))
          refine lv_iload_n hx hb dX12_isInstruction_46 rfl (lv_at hl 0 rfl) ?_
          refine lv_iload_n hx hb dX12_isInstruction_47 rfl (lv_at hl 1 rfl) ?_
          refine fb_roI X I (fb_runS (As := [.int (l0 / (8 : Int32))]) (rest := [.int (l0 - l0 / (8 : Int32) * (8 : Int32))]) X I hl (c_X12_modesFrom l D cI cJ (l0 / (8 : Int32)) _) (fb_goodS fw_2296 fw_2297 fw_204 fw_2298) rfl rfl (by decide +kernel : fb_hd yX12_modesFrom 1) ⟨Nat.le_of_ble_eq_true rfl, Nat.le_of_ble_eq_true rfl⟩ [] (by decide) rfl rfl rfl (Nat.le_of_ble_eq_true rfl) ⟨Nat.zero_le _, Nat.zero_le _⟩ dX12_isInstruction_48) ?_
          refine lv_iload_n hx hb dX12_isInstruction_51 rfl (lv_at hl 1 rfl) ?_
          refine fb_roI X I (fb_runS (As := [.int (l0 / (8 : Int32))]) (rest := [.int (f_X12_modesFrom (l0 / (8 : Int32))), .int (l0 - l0 / (8 : Int32) * (8 : Int32))]) X I hl (c_X12_modesTo l D cI cJ (l0 / (8 : Int32)) _) (fb_goodS fw_2299 fw_2300 fw_204 fw_2301) rfl rfl (by decide +kernel : fb_hd yX12_modesTo 1) ⟨Nat.le_of_ble_eq_true rfl, Nat.le_of_ble_eq_true rfl⟩ [] (by decide) rfl rfl rfl (Nat.le_of_ble_eq_true rfl) ⟨Nat.zero_le _, Nat.zero_le _⟩ dX12_isInstruction_52) ?_
          refine fb_roI X I (fb_runS (As := [.int (l0 - l0 / (8 : Int32) * (8 : Int32)), .int (f_X12_modesFrom (l0 / (8 : Int32))), .int (f_X12_modesTo (l0 / (8 : Int32)))]) (rest := []) X I hl (c_X12_isIn l D cI cJ (l0 - l0 / (8 : Int32) * (8 : Int32)) (f_X12_modesFrom (l0 / (8 : Int32))) (f_X12_modesTo (l0 / (8 : Int32))) _) (fb_goodS fw_2147 fw_2148 fw_204 fw_2149) rfl rfl (by decide +kernel : fb_hd yX12_isIn 3) ⟨Nat.le_of_ble_eq_true rfl, Nat.le_of_ble_eq_true rfl⟩ [] (by decide) rfl rfl rfl (Nat.le_of_ble_eq_true rfl) ⟨Nat.zero_le _, Nat.zero_le _⟩ dX12_isInstruction_55) ?_
          refine lv_if_eq (tgt := 65) hx hb dX12_isInstruction_58 (by decide) (fun c13 => ?_) (fun c13 => ?_)
          · have E14 := (E12.trans (if_pos c13))
            refine lv_iconst (v := (0 : Int32)) hx hb dX12_isInstruction_65 (by decide) ?_
            exact fb_retRI X E14 rfl dX12_isInstruction_66
          · have E15 := (E12.trans (if_neg c13))
            refine lv_iconst (v := (1 : Int32)) hx hb dX12_isInstruction_61 (by decide) ?_
            refine lv_goto (tgt := 66) hx hb dX12_isInstruction_62 (by decide) ?_
            exact fb_retRI X E15 rfl dX12_isInstruction_66
      · have E9 := (E5.trans (if_pos c7))
        refine lv_iload_n hx hb dX12_isInstruction_29 rfl (lv_at hl 0 rfl) ?_
        refine lv_iconst (v := (2 : Int32)) hx hb dX12_isInstruction_30 (by decide) ?_
        refine lv_icmp_ge (tgt := 38) hx hb dX12_isInstruction_31 (by decide) (fun c16 => ?_) (fun c16 => ?_)
        · have E17 := (E9.trans (if_pos c16))
          refine lv_iconst (v := (0 : Int32)) hx hb dX12_isInstruction_38 (by decide) ?_
          exact fb_retRI X E17 rfl dX12_isInstruction_39
        · have E18 := (E9.trans (if_neg c16))
          refine lv_iconst (v := (1 : Int32)) hx hb dX12_isInstruction_34 (by decide) ?_
          refine lv_goto (tgt := 39) hx hb dX12_isInstruction_35 (by decide) ?_
          exact fb_retRI X E18 rfl dX12_isInstruction_39
    · have E6 := (E3.trans (if_pos c4))
      refine lv_iconst (v := (1 : Int32)) hx hb dX12_isInstruction_21 (by decide) ?_
      exact fb_retRI X E6 rfl dX12_isInstruction_22
set_option maxHeartbeats 4000000 in
set_option maxRecDepth 100000 in
theorem c_X12_isInstruction (l : Launch) (D : va_G) (cI cJ : ClassId)  (l0 : Int32) (sz : Nat)  : Met l yX12_isInstruction (Cond.code yX12_isInstruction cX12_isInstruction 3 (some .boolean) :: fb_all) ({ frames := 1, cells := 0, slots := 0, locals := 22 } : Room) (fb_PP D (fb_ty D cI cJ) [.int l0] (([] : va_W)) sz) (vp_Si (fun r => r = ((f_X12_isInstruction l0)))) 0 0 (fun _ => False) := by
  refine fb_entR (by decide +kernel) (Nat.le_of_ble_eq_true rfl) ?_
  intro p e s m args below meth c A ls X I hl hin
  exact b_X12_isInstruction_0 X  I hl rfl
/-! X12_length -/
def f_X12_length (l0 : Int32) : Int32 := (if (4 : Int32) ≤ (l0 / (8 : Int32)) then (if (25 : Int32) < (l0 / (8 : Int32)) then (2 : Int32) else (if (l0 - l0 / (8 : Int32) * (8 : Int32)) < (3 : Int32) then (2 : Int32) else (if (l0 - l0 / (8 : Int32) * (8 : Int32)) ≤ (4 : Int32) then (3 : Int32) else (2 : Int32)))) else (1 : Int32))
set_option maxHeartbeats 4000000 in
set_option maxRecDepth 100000 in
theorem b_X12_length_0 {p : Program} {l : Launch} {e : Env} {s : State} {m : MethodId} {args : Array Value} {below : List Frame} {meth : Method} {c : Code} {D : va_G} {cI cJ : ClassId} {A : Nat → Prop}  {z : Int32} (X : fb_Bx p s m args meth c cX12_length RX12 3 (some .int) D (fb_ty D cI cJ) A) {l0 : Int32} {ls : Array Slot}  (I : fb_In D A s.heap (([] : va_W)) s.heap []) (hl : lv_has ls 3 [(0, .int l0)]) (E : z = f_X12_length l0) : W p l e ({ frames := 0, cells := 0, slots := 0, locals := 0 } : Room) s m args below meth c s.heap [] 0 0 (MQ below (vp_Si (fun r => r = z)) args s 0 0 (fun _ => False)) (F0 m 0 ls []) := by
  obtain ⟨hx, hb, hr, hml, hown, hts, hlk, hA, hK, hF⟩ := id X
  refine lv_iload_n hx hb dX12_length_0 rfl (lv_at hl 0 rfl) ?_
  refine lv_bipush (v := (8 : Int32)) hx hb dX12_length_1 (by decide) ?_
  refine lv_idiv hx hb dX12_length_3 (by decide) ?_
  refine lv_istore_n (lv' := [(1, .int (l0 / (8 : Int32))), (0, .int l0)]) hx hb dX12_length_4 rfl hl (by decide) rfl (fun ls hl => ?_)
  refine lv_iload_n hx hb dX12_length_5 rfl (lv_at hl 1 rfl) ?_
  refine lv_bipush (v := (8 : Int32)) hx hb dX12_length_6 (by decide) ?_
  refine lv_irem hx hb dX12_length_8 (by decide) ?_
  refine lv_istore_n (lv' := [(2, .int (l0 - l0 / (8 : Int32) * (8 : Int32))), (1, .int (l0 / (8 : Int32))), (0, .int l0)]) hx hb dX12_length_9 rfl hl (by decide) rfl (fun ls hl => ?_)
  refine lv_iload_n hx hb dX12_length_10 rfl (lv_at hl 1 rfl) ?_
  refine lv_iconst (v := (4 : Int32)) hx hb dX12_length_11 (by decide) ?_
  refine lv_icmp_ge (tgt := 19) hx hb dX12_length_12 (by decide) (fun c1 => ?_) (fun c1 => ?_)
  · have E2 := (E.trans (if_pos c1))
    refine lv_iload_n hx hb dX12_length_19 rfl (lv_at hl 1 rfl) ?_
    refine lv_bipush (v := (25 : Int32)) hx hb dX12_length_20 (by decide) ?_
    refine lv_icmp_gt (tgt := 35) hx hb dX12_length_22 (by decide) (fun c4 => ?_) (fun c4 => ?_)
    · have E5 := (E2.trans (if_pos c4))
      refine lv_iconst (v := (2 : Int32)) hx hb dX12_length_35 (by decide) ?_
      refine lv_goto (tgt := 40) hx hb dX12_length_36 (by decide) ?_
      exact fb_retRI X E5 rfl dX12_length_40
    · have E6 := (E2.trans (if_neg c4))
      refine lv_iload_n hx hb dX12_length_25 rfl (lv_at hl 0 rfl) ?_
      refine lv_iconst (v := (3 : Int32)) hx hb dX12_length_26 (by decide) ?_
      refine lv_icmp_lt (tgt := 35) hx hb dX12_length_27 (by decide) (fun c7 => ?_) (fun c7 => ?_)
      · have E8 := (E6.trans (if_pos c7))
        refine lv_iconst (v := (2 : Int32)) hx hb dX12_length_35 (by decide) ?_
        refine lv_goto (tgt := 40) hx hb dX12_length_36 (by decide) ?_
        exact fb_retRI X E8 rfl dX12_length_40
      · have E9 := (E6.trans (if_neg c7))
        refine lv_iload_n hx hb dX12_length_30 rfl (lv_at hl 0 rfl) ?_
        refine lv_iconst (v := (4 : Int32)) hx hb dX12_length_31 (by decide) ?_
        refine lv_icmp_le (tgt := 39) hx hb dX12_length_32 (by decide) (fun c10 => ?_) (fun c10 => ?_)
        · have E11 := (E9.trans (if_pos c10))
          refine lv_iconst (v := (3 : Int32)) hx hb dX12_length_39 (by decide) ?_
          exact fb_retRI X E11 rfl dX12_length_40
        · have E12 := (E9.trans (if_neg c10))
          refine lv_iconst (v := (2 : Int32)) hx hb dX12_length_35 (by decide) ?_
          refine lv_goto (tgt := 40) hx hb dX12_length_36 (by decide) ?_
          exact fb_retRI X E12 rfl dX12_length_40
  · have E3 := (E.trans (if_neg c1))
    refine lv_iconst (v := (1 : Int32)) hx hb dX12_length_15 (by decide) ?_
    refine lv_goto (tgt := 40) hx hb dX12_length_16 (by decide) ?_
    exact fb_retRI X E3 rfl dX12_length_40
set_option maxHeartbeats 4000000 in
set_option maxRecDepth 100000 in
theorem c_X12_length (l : Launch) (D : va_G) (cI cJ : ClassId)  (l0 : Int32) (sz : Nat)  : Met l yX12_length (Cond.code yX12_length cX12_length 3 (some .int) :: fb_all) ({ frames := 0, cells := 0, slots := 0, locals := 0 } : Room) (fb_PP D (fb_ty D cI cJ) [.int l0] (([] : va_W)) sz) (vp_Si (fun r => r = ((f_X12_length l0)))) 0 0 (fun _ => False) := by
  refine fb_entR (by decide +kernel) (Nat.le_of_ble_eq_true rfl) ?_
  intro p e s m args below meth c A ls X I hl hin
  exact b_X12_length_0 X  I hl rfl
end
section
set_option maxHeartbeats 4000000 in
set_option maxRecDepth 100000 in
theorem c_forget (l : Launch) (D : va_G) (cI cJ : ClassId) (za : Nat) (zr : Nat → Nat) (ze : fb_AR) (sz : Nat)  : Met l yX12_forget (Cond.code yX12_forget cX12_forget 1 none :: fb_all) ({ frames := 1, cells := 0, slots := 0, locals := 30 } : Room) (fb_PP D (fb_ty D cI cJ) [.ref za] (([fb_o12 za zr ze] : List va_W).flatten) sz) (fb_QV D (va_A (([fb_o12 za zr ze] : List va_W).flatten) sz) (fun (_ : Unit) => True) (fun (t : Unit) => ([fb_o12 za zr (upd ze 2 (0 : Int32))] : List va_W).flatten)) 0 0 (va_A (([fb_o12 za zr ze] : List va_W).flatten) sz) := by
  refine fb_ent (Qf := fun A => (fb_QV D A (fun (_ : Unit) => True) (fun (t : Unit) => ([fb_o12 za zr (upd ze 2 (0 : Int32))] : List va_W).flatten))) (by decide +kernel) (Nat.le_of_ble_eq_true rfl) ?_
  intro p e s m args below meth c A ls X I hl hin
  obtain ⟨hx, hb, hr, hml, hown, hts, hlk, hA, hK, hF⟩ := id X
  have hl : lv_has ls 1 [(0, .ref za)] := hl
  refine lv_aload_n hx hb dX12_forget_0 rfl (lv_at hl 0 rfl) ?_
  refine lv_iconst (v := (0 : Int32)) hx hb dX12_forget_1 (by decide) ?_
  refine fb_put X I (k := 2) (wn := ([fb_o12 za zr (upd ze 2 (0 : Int32))] : List va_W).flatten) fu_X12 tyX12 tyX12_ok nmX12 0 fb_h12 rfl (Nat.le_of_ble_eq_true rfl) fw_1966 rfl rfl rfl rfl rfl (Nat.le_of_ble_eq_true rfl) fb_r12_2 dX12_forget_2 (fun H locs I => ?_)
  exact fb_retV (u := ()) X I trivial dX12_forget_5

set_option maxHeartbeats 4000000 in
set_option maxRecDepth 100000 in
theorem c_place_1 (l : Launch) (D : va_G) (cI cJ : ClassId) (za : Nat) (zr : Nat → Nat) (ze : fb_AR) (zm : fb_AR) (zj : Nat) (sz : Nat) (hj : zj < 1792) : Met l yX12_place (Cond.code yX12_place cX12_place 2 (some .int) :: fb_all) ({ frames := 1, cells := 0, slots := 0, locals := 30 } : Room) (fb_PP D (fb_ty D cI cJ) [.ref za, .int (nI zj)] (([fb_o12 za zr ze, fb_aw cI (zr 0) 16205 zm] : List va_W).flatten) sz) (vp_Si (fun r => r = (nI (1101 + zj)))) 0 0 (fun _ => False) := by
  refine fb_entR (by decide +kernel) (Nat.le_of_ble_eq_true rfl) ?_
  intro p e s m args below meth c A ls X I hl hin
  obtain ⟨hx, hb, hr, hml, hown, hts, hlk, hA, hK, hF⟩ := id X
  have hl : lv_has ls 2 [(0, .ref za), (1, .int (nI zj))] := hl
  refine lv_iload_n hx hb dX12_place_0 rfl (lv_at hl 1 rfl) ?_
  refine lv_sipush (v := (1792 : Int32)) hx hb dX12_place_1 (by decide) ?_
  refine lv_icmp_ge (tgt := 15) hx hb dX12_place_4 (by decide) (fun c1 => absurd c1 (nI_ge (a := zj) (b := 1792) (by omega) (by omega))) (fun _ => ?_)
  refine lv_sipush (v := (1101 : Int32)) hx hb dX12_place_7 (by decide) ?_
  refine lv_iload_n hx hb dX12_place_10 rfl (lv_at hl 1 rfl) ?_
  refine lv_iadd hx hb dX12_place_11 ?_
  refine fb_tI (v := (nI (1101 + zj))) (nI_add 1101 zj) ?_
  refine lv_goto (tgt := 55) hx hb dX12_place_12 (by decide) ?_
  exact fb_retRI X rfl rfl dX12_place_55

set_option maxHeartbeats 4000000 in
set_option maxRecDepth 100000 in
theorem c_place_2 (l : Launch) (D : va_G) (cI cJ : ClassId) (za : Nat) (zr : Nat → Nat) (ze : fb_AR) (zm : fb_AR) (zj : Nat) (sz : Nat) (hj : 2048 ≤ zj ∧ zj < 3072) (a9 : zm 9 = (0 : Int32)) : Met l yX12_place (Cond.code yX12_place cX12_place 2 (some .int) :: fb_all) ({ frames := 1, cells := 0, slots := 0, locals := 30 } : Room) (fb_PP D (fb_ty D cI cJ) [.ref za, .int (nI zj)] (([fb_o12 za zr ze, fb_aw cI (zr 0) 16205 zm] : List va_W).flatten) sz) (vp_Si (fun r => r = (nI (2893 + zj - 2048)))) 0 0 (fun _ => False) := by
  refine fb_entR (by decide +kernel) (Nat.le_of_ble_eq_true rfl) ?_
  intro p e s m args below meth c A ls X I hl hin
  obtain ⟨hx, hb, hr, hml, hown, hts, hlk, hA, hK, hF⟩ := id X
  have hl : lv_has ls 2 [(0, .ref za), (1, .int (nI zj))] := hl
  refine lv_iload_n hx hb dX12_place_0 rfl (lv_at hl 1 rfl) ?_
  refine lv_sipush (v := (1792 : Int32)) hx hb dX12_place_1 (by decide) ?_
  refine lv_icmp_ge (tgt := 15) hx hb dX12_place_4 (by decide) (fun _ => ?_) (fun c1 => absurd (nI_le (a := 1792) (b := zj) (by omega) (by omega)) c1)
  refine lv_iload_n hx hb dX12_place_15 rfl (lv_at hl 1 rfl) ?_
  refine lv_sipush (v := (3072 : Int32)) hx hb dX12_place_16 (by decide) ?_
  refine lv_icmp_ge (tgt := 46) hx hb dX12_place_19 (by decide) (fun c2 => absurd c2 (nI_ge (a := zj) (b := 3072) (by omega) (by omega))) (fun _ => ?_)
  refine lv_sipush (v := (2893 : Int32)) hx hb dX12_place_22 (by decide) ?_
  refine lv_sipush (v := (1024 : Int32)) hx hb dX12_place_25 (by decide) ?_
  refine lv_aload_n hx hb dX12_place_28 rfl (lv_at hl 0 rfl) ?_
  refine fb_get X I (k := 0) (v := .ref (zr 0)) fu_X12 0 fb_h12 rfl (Nat.le_of_ble_eq_true rfl) fw_1964 rfl rfl dX12_place_29 ?_
  refine lv_bipush (v := (9 : Int32)) hx hb dX12_place_32 (by decide) ?_
  refine fb_iaC (n := 9) (v := (0 : Int32)) X I 1 0 rfl rfl (by decide) (by decide) (Nat.le_of_ble_eq_true rfl) a9 dX12_place_34 ?_
  refine lv_imul hx hb dX12_place_35 ?_
  refine fb_tI (v := (0 : Int32)) (by decide) ?_
  refine lv_iadd hx hb dX12_place_36 ?_
  refine fb_tI (v := (2893 : Int32)) (by decide) ?_
  refine lv_iload_n hx hb dX12_place_37 rfl (lv_at hl 1 rfl) ?_
  refine lv_iadd hx hb dX12_place_38 ?_
  refine fb_tI (v := (nI (2893 + zj))) (nI_add 2893 zj) ?_
  refine lv_sipush (v := (2048 : Int32)) hx hb dX12_place_39 (by decide) ?_
  refine lv_isub hx hb dX12_place_42 ?_
  refine fb_tI (v := (nI (2893 + zj - 2048))) (pk_sub (a := 2893 + zj) (b := 2048) (by omega)) ?_
  refine lv_goto (tgt := 55) hx hb dX12_place_43 (by decide) ?_
  exact fb_retRI X rfl rfl dX12_place_55

set_option maxHeartbeats 4000000 in
set_option maxRecDepth 100000 in
theorem c_place_3 (l : Launch) (D : va_G) (cI cJ : ClassId) (za : Nat) (zr : Nat → Nat) (ze : fb_AR) (zm : fb_AR) (zj : Nat) (sz : Nat) (hj : 3072 ≤ zj ∧ zj < 4096) : Met l yX12_place (Cond.code yX12_place cX12_place 2 (some .int) :: fb_all) ({ frames := 1, cells := 0, slots := 0, locals := 30 } : Room) (fb_PP D (fb_ty D cI cJ) [.ref za, .int (nI zj)] (([fb_o12 za zr ze, fb_aw cI (zr 0) 16205 zm] : List va_W).flatten) sz) (vp_Si (fun r => r = (nI (11085 + zj - 3072)))) 0 0 (fun _ => False) := by
  refine fb_entR (by decide +kernel) (Nat.le_of_ble_eq_true rfl) ?_
  intro p e s m args below meth c A ls X I hl hin
  obtain ⟨hx, hb, hr, hml, hown, hts, hlk, hA, hK, hF⟩ := id X
  have hl : lv_has ls 2 [(0, .ref za), (1, .int (nI zj))] := hl
  refine lv_iload_n hx hb dX12_place_0 rfl (lv_at hl 1 rfl) ?_
  refine lv_sipush (v := (1792 : Int32)) hx hb dX12_place_1 (by decide) ?_
  refine lv_icmp_ge (tgt := 15) hx hb dX12_place_4 (by decide) (fun _ => ?_) (fun c1 => absurd (nI_le (a := 1792) (b := zj) (by omega) (by omega)) c1)
  refine lv_iload_n hx hb dX12_place_15 rfl (lv_at hl 1 rfl) ?_
  refine lv_sipush (v := (3072 : Int32)) hx hb dX12_place_16 (by decide) ?_
  refine lv_icmp_ge (tgt := 46) hx hb dX12_place_19 (by decide) (fun _ => ?_) (fun c2 => absurd (nI_le (a := 3072) (b := zj) (by omega) (by omega)) c2)
  refine lv_sipush (v := (11085 : Int32)) hx hb dX12_place_46 (by decide) ?_
  refine lv_iload_n hx hb dX12_place_49 rfl (lv_at hl 1 rfl) ?_
  refine lv_iadd hx hb dX12_place_50 ?_
  refine fb_tI (v := (nI (11085 + zj))) (nI_add 11085 zj) ?_
  refine lv_sipush (v := (3072 : Int32)) hx hb dX12_place_51 (by decide) ?_
  refine lv_isub hx hb dX12_place_54 ?_
  refine fb_tI (v := (nI (11085 + zj - 3072))) (pk_sub (a := 11085 + zj) (b := 3072) (by omega)) ?_
  exact fb_retRI X rfl rfl dX12_place_55

theorem fr_np {zj : Nat} (h : zj < 1792 ∨ (2048 ≤ zj ∧ zj < 4096)) : f_X12_isPort (nI zj) = 0 := by
  unfold f_X12_isPort
  rcases h with h | h
  · rw [if_pos (show nI zj < (1792 : Int32) from nI_lt (b := 1792) h (by decide))]
  · rw [if_neg (show ¬ nI zj < (1792 : Int32) from nI_nlt (a := zj) (b := 1792) (by omega) (by omega)), if_pos (show (2048 : Int32) ≤ nI zj from nI_le (a := 2048) (b := zj) (by omega) (by omega))]
theorem fr_yp {zj : Nat} (h : 1792 ≤ zj ∧ zj < 2048) : f_X12_isPort (nI zj) = 1 := by
  unfold f_X12_isPort
  rw [if_neg (show ¬ nI zj < (1792 : Int32) from nI_nlt (a := zj) (b := 1792) (by omega) (by omega)), if_neg (show ¬ (2048 : Int32) ≤ nI zj from nI_ge (a := zj) (b := 2048) (by omega) (by omega))]

set_option maxHeartbeats 4000000 in
set_option maxRecDepth 100000 in
theorem c_code_0 (l : Launch) (D : va_G) (cI cJ : ClassId) (za : Nat) (zr : Nat → Nat) (ze : fb_AR) (zm : fb_AR) (l1 : Int32) (zj : Nat) (sz : Nat) (hm : ∀ j, 1101 ≤ j → j < 12109 → zm j = 0) (a9 : zm 9 = (0 : Int32)) (he : (l1 &&& (4095 : Int32)) = nI zj) (hj : 1792 ≤ zj ∧ zj < 2048) : Met l yX12_code (Cond.code yX12_code cX12_code 2 (some .int) :: fb_all) ({ frames := 3, cells := 0, slots := 0, locals := 80 } : Room) (fb_PP D (fb_ty D cI cJ) [.ref za, .int l1] (([fb_o12 za zr ze, fb_aw cI (zr 0) 16205 zm] : List va_W).flatten) sz) (vp_Si (fun r => r = (0 : Int32))) 0 0 (fun _ => False) := by
  refine fb_entR (by decide +kernel) (Nat.le_of_ble_eq_true rfl) ?_
  intro p e s m args below meth c A ls X I hl hin
  obtain ⟨hx, hb, hr, hml, hown, hts, hlk, hA, hK, hF⟩ := id X
  have hl : lv_has ls 2 [(0, .ref za), (1, .int l1)] := hl
  refine lv_iload_n hx hb dX12_code_0 rfl (lv_at hl 1 rfl) ?_
  refine lv_sipush (v := (4095 : Int32)) hx hb dX12_code_1 (by decide) ?_
  refine lv_iand hx hb dX12_code_4 ?_
  refine fb_tI (v := (nI zj)) he ?_
  refine fb_gO (cs := []) (rs := [fb_o12 za zr ze, fb_aw cI (zr 0) 16205 zm]) X I [0, 1] 2 rfl (by decide +kernel) rfl rfl (fun I => fb_rS (As := [.int (nI zj)]) (rest := []) X hl (fb_goodS fw_1953 fw_1954 fw_204 fw_1955) (c_X12_isPort l D cI cJ (nI zj) _) rfl rfl (by decide +kernel : fb_hd yX12_isPort 1) ⟨Nat.le_of_ble_eq_true rfl, Nat.le_of_ble_eq_true rfl⟩ rfl rfl (Nat.le_of_ble_eq_true rfl) ⟨Nat.le_of_ble_eq_true rfl, Nat.le_of_ble_eq_true rfl⟩ dX12_code_5 I) ?_
  refine fb_tI (v := (1 : Int32)) (fr_yp hj) ?_
  refine lv_if_eq (tgt := 15) hx hb dX12_code_8 (by decide) (fun c1 => absurd c1 (by decide)) (fun _ => ?_)
  refine lv_iconst (v := (0 : Int32)) hx hb dX12_code_11 (by decide) ?_
  refine lv_goto (tgt := 29) hx hb dX12_code_12 (by decide) ?_
  exact fb_retRI X rfl rfl dX12_code_29

set_option maxHeartbeats 4000000 in
set_option maxRecDepth 100000 in
theorem c_code_1 (l : Launch) (D : va_G) (cI cJ : ClassId) (za : Nat) (zr : Nat → Nat) (ze : fb_AR) (zm : fb_AR) (l1 : Int32) (zj : Nat) (sz : Nat) (hm : ∀ j, 1101 ≤ j → j < 12109 → zm j = 0) (a9 : zm 9 = (0 : Int32)) (he : (l1 &&& (4095 : Int32)) = nI zj) (hj : zj < 1792) : Met l yX12_code (Cond.code yX12_code cX12_code 2 (some .int) :: fb_all) ({ frames := 3, cells := 0, slots := 0, locals := 80 } : Room) (fb_PP D (fb_ty D cI cJ) [.ref za, .int l1] (([fb_o12 za zr ze, fb_aw cI (zr 0) 16205 zm] : List va_W).flatten) sz) (vp_Si (fun r => r = (0 : Int32))) 0 0 (fun _ => False) := by
  refine fb_entR (by decide +kernel) (Nat.le_of_ble_eq_true rfl) ?_
  intro p e s m args below meth c A ls X I hl hin
  obtain ⟨hx, hb, hr, hml, hown, hts, hlk, hA, hK, hF⟩ := id X
  have hl : lv_has ls 2 [(0, .ref za), (1, .int l1)] := hl
  refine lv_iload_n hx hb dX12_code_0 rfl (lv_at hl 1 rfl) ?_
  refine lv_sipush (v := (4095 : Int32)) hx hb dX12_code_1 (by decide) ?_
  refine lv_iand hx hb dX12_code_4 ?_
  refine fb_tI (v := (nI zj)) he ?_
  refine fb_gO (cs := []) (rs := [fb_o12 za zr ze, fb_aw cI (zr 0) 16205 zm]) X I [0, 1] 2 rfl (by decide +kernel) rfl rfl (fun I => fb_rS (As := [.int (nI zj)]) (rest := []) X hl (fb_goodS fw_1953 fw_1954 fw_204 fw_1955) (c_X12_isPort l D cI cJ (nI zj) _) rfl rfl (by decide +kernel : fb_hd yX12_isPort 1) ⟨Nat.le_of_ble_eq_true rfl, Nat.le_of_ble_eq_true rfl⟩ rfl rfl (Nat.le_of_ble_eq_true rfl) ⟨Nat.le_of_ble_eq_true rfl, Nat.le_of_ble_eq_true rfl⟩ dX12_code_5 I) ?_
  refine fb_tI (v := (0 : Int32)) (fr_np (Or.inl hj)) ?_
  refine lv_if_eq (tgt := 15) hx hb dX12_code_8 (by decide) (fun _ => ?_) (fun c1 => absurd (by decide) c1)
  refine lv_aload_n hx hb dX12_code_15 rfl (lv_at hl 0 rfl) ?_
  refine fb_get X I (k := 0) (v := .ref (zr 0)) fu_X12 0 fb_h12 rfl (Nat.le_of_ble_eq_true rfl) fw_1964 rfl rfl dX12_code_16 ?_
  refine lv_aload_n hx hb dX12_code_19 rfl (lv_at hl 0 rfl) ?_
  refine lv_iload_n hx hb dX12_code_20 rfl (lv_at hl 1 rfl) ?_
  refine lv_sipush (v := (4095 : Int32)) hx hb dX12_code_21 (by decide) ?_
  refine lv_iand hx hb dX12_code_24 ?_
  refine fb_tI (v := (nI zj)) he ?_
  refine fb_gO (cs := [fb_o12 za zr ze, fb_aw cI (zr 0) 16205 zm]) (rs := []) X I [0, 1] 2 rfl (by decide +kernel) rfl rfl (fun I => fb_rV (As := [.int (nI zj)]) (rest := [.ref (zr 0)]) X hl (fb_goodV fw_1956 fw_1958 fw_87 fw_204 fw_1959) (c_place_1 l D cI cJ za zr ze zm zj _ (by omega)) rfl rfl rfl (by decide +kernel : fb_hd yX12_place 1) ⟨Nat.le_of_ble_eq_true rfl, Nat.le_of_ble_eq_true rfl⟩ rfl rfl rfl rfl rfl (Nat.le_of_ble_eq_true rfl) ⟨Nat.zero_le _, Nat.zero_le _⟩ dX12_code_25 I) ?_
  refine fb_iaC (n := (1101 + zj)) (v := (0 : Int32)) X I 1 0 rfl rfl (nI_clamp (by omega)) (nI_pos (by omega)) (by omega) (hm (1101 + zj) (by omega) (by omega)) dX12_code_28 ?_
  exact fb_retRI X rfl rfl dX12_code_29

set_option maxHeartbeats 4000000 in
set_option maxRecDepth 100000 in
theorem c_code_2 (l : Launch) (D : va_G) (cI cJ : ClassId) (za : Nat) (zr : Nat → Nat) (ze : fb_AR) (zm : fb_AR) (l1 : Int32) (zj : Nat) (sz : Nat) (hm : ∀ j, 1101 ≤ j → j < 12109 → zm j = 0) (a9 : zm 9 = (0 : Int32)) (he : (l1 &&& (4095 : Int32)) = nI zj) (hj : 2048 ≤ zj ∧ zj < 3072) : Met l yX12_code (Cond.code yX12_code cX12_code 2 (some .int) :: fb_all) ({ frames := 3, cells := 0, slots := 0, locals := 80 } : Room) (fb_PP D (fb_ty D cI cJ) [.ref za, .int l1] (([fb_o12 za zr ze, fb_aw cI (zr 0) 16205 zm] : List va_W).flatten) sz) (vp_Si (fun r => r = (0 : Int32))) 0 0 (fun _ => False) := by
  refine fb_entR (by decide +kernel) (Nat.le_of_ble_eq_true rfl) ?_
  intro p e s m args below meth c A ls X I hl hin
  obtain ⟨hx, hb, hr, hml, hown, hts, hlk, hA, hK, hF⟩ := id X
  have hl : lv_has ls 2 [(0, .ref za), (1, .int l1)] := hl
  refine lv_iload_n hx hb dX12_code_0 rfl (lv_at hl 1 rfl) ?_
  refine lv_sipush (v := (4095 : Int32)) hx hb dX12_code_1 (by decide) ?_
  refine lv_iand hx hb dX12_code_4 ?_
  refine fb_tI (v := (nI zj)) he ?_
  refine fb_gO (cs := []) (rs := [fb_o12 za zr ze, fb_aw cI (zr 0) 16205 zm]) X I [0, 1] 2 rfl (by decide +kernel) rfl rfl (fun I => fb_rS (As := [.int (nI zj)]) (rest := []) X hl (fb_goodS fw_1953 fw_1954 fw_204 fw_1955) (c_X12_isPort l D cI cJ (nI zj) _) rfl rfl (by decide +kernel : fb_hd yX12_isPort 1) ⟨Nat.le_of_ble_eq_true rfl, Nat.le_of_ble_eq_true rfl⟩ rfl rfl (Nat.le_of_ble_eq_true rfl) ⟨Nat.le_of_ble_eq_true rfl, Nat.le_of_ble_eq_true rfl⟩ dX12_code_5 I) ?_
  refine fb_tI (v := (0 : Int32)) (fr_np (Or.inr ⟨hj.1, by omega⟩)) ?_
  refine lv_if_eq (tgt := 15) hx hb dX12_code_8 (by decide) (fun _ => ?_) (fun c1 => absurd (by decide) c1)
  refine lv_aload_n hx hb dX12_code_15 rfl (lv_at hl 0 rfl) ?_
  refine fb_get X I (k := 0) (v := .ref (zr 0)) fu_X12 0 fb_h12 rfl (Nat.le_of_ble_eq_true rfl) fw_1964 rfl rfl dX12_code_16 ?_
  refine lv_aload_n hx hb dX12_code_19 rfl (lv_at hl 0 rfl) ?_
  refine lv_iload_n hx hb dX12_code_20 rfl (lv_at hl 1 rfl) ?_
  refine lv_sipush (v := (4095 : Int32)) hx hb dX12_code_21 (by decide) ?_
  refine lv_iand hx hb dX12_code_24 ?_
  refine fb_tI (v := (nI zj)) he ?_
  refine fb_gO (cs := [fb_o12 za zr ze, fb_aw cI (zr 0) 16205 zm]) (rs := []) X I [0, 1] 2 rfl (by decide +kernel) rfl rfl (fun I => fb_rV (As := [.int (nI zj)]) (rest := [.ref (zr 0)]) X hl (fb_goodV fw_1956 fw_1958 fw_87 fw_204 fw_1959) (c_place_2 l D cI cJ za zr ze zm zj _ (by omega) a9) rfl rfl rfl (by decide +kernel : fb_hd yX12_place 1) ⟨Nat.le_of_ble_eq_true rfl, Nat.le_of_ble_eq_true rfl⟩ rfl rfl rfl rfl rfl (Nat.le_of_ble_eq_true rfl) ⟨Nat.zero_le _, Nat.zero_le _⟩ dX12_code_25 I) ?_
  refine fb_iaC (n := (2893 + zj - 2048)) (v := (0 : Int32)) X I 1 0 rfl rfl (nI_clamp (by omega)) (nI_pos (by omega)) (by omega) (hm (2893 + zj - 2048) (by omega) (by omega)) dX12_code_28 ?_
  exact fb_retRI X rfl rfl dX12_code_29

set_option maxHeartbeats 4000000 in
set_option maxRecDepth 100000 in
theorem c_code_3 (l : Launch) (D : va_G) (cI cJ : ClassId) (za : Nat) (zr : Nat → Nat) (ze : fb_AR) (zm : fb_AR) (l1 : Int32) (zj : Nat) (sz : Nat) (hm : ∀ j, 1101 ≤ j → j < 12109 → zm j = 0) (a9 : zm 9 = (0 : Int32)) (he : (l1 &&& (4095 : Int32)) = nI zj) (hj : 3072 ≤ zj ∧ zj < 4096) : Met l yX12_code (Cond.code yX12_code cX12_code 2 (some .int) :: fb_all) ({ frames := 3, cells := 0, slots := 0, locals := 80 } : Room) (fb_PP D (fb_ty D cI cJ) [.ref za, .int l1] (([fb_o12 za zr ze, fb_aw cI (zr 0) 16205 zm] : List va_W).flatten) sz) (vp_Si (fun r => r = (0 : Int32))) 0 0 (fun _ => False) := by
  refine fb_entR (by decide +kernel) (Nat.le_of_ble_eq_true rfl) ?_
  intro p e s m args below meth c A ls X I hl hin
  obtain ⟨hx, hb, hr, hml, hown, hts, hlk, hA, hK, hF⟩ := id X
  have hl : lv_has ls 2 [(0, .ref za), (1, .int l1)] := hl
  refine lv_iload_n hx hb dX12_code_0 rfl (lv_at hl 1 rfl) ?_
  refine lv_sipush (v := (4095 : Int32)) hx hb dX12_code_1 (by decide) ?_
  refine lv_iand hx hb dX12_code_4 ?_
  refine fb_tI (v := (nI zj)) he ?_
  refine fb_gO (cs := []) (rs := [fb_o12 za zr ze, fb_aw cI (zr 0) 16205 zm]) X I [0, 1] 2 rfl (by decide +kernel) rfl rfl (fun I => fb_rS (As := [.int (nI zj)]) (rest := []) X hl (fb_goodS fw_1953 fw_1954 fw_204 fw_1955) (c_X12_isPort l D cI cJ (nI zj) _) rfl rfl (by decide +kernel : fb_hd yX12_isPort 1) ⟨Nat.le_of_ble_eq_true rfl, Nat.le_of_ble_eq_true rfl⟩ rfl rfl (Nat.le_of_ble_eq_true rfl) ⟨Nat.le_of_ble_eq_true rfl, Nat.le_of_ble_eq_true rfl⟩ dX12_code_5 I) ?_
  refine fb_tI (v := (0 : Int32)) (fr_np (Or.inr ⟨by omega, hj.2⟩)) ?_
  refine lv_if_eq (tgt := 15) hx hb dX12_code_8 (by decide) (fun _ => ?_) (fun c1 => absurd (by decide) c1)
  refine lv_aload_n hx hb dX12_code_15 rfl (lv_at hl 0 rfl) ?_
  refine fb_get X I (k := 0) (v := .ref (zr 0)) fu_X12 0 fb_h12 rfl (Nat.le_of_ble_eq_true rfl) fw_1964 rfl rfl dX12_code_16 ?_
  refine lv_aload_n hx hb dX12_code_19 rfl (lv_at hl 0 rfl) ?_
  refine lv_iload_n hx hb dX12_code_20 rfl (lv_at hl 1 rfl) ?_
  refine lv_sipush (v := (4095 : Int32)) hx hb dX12_code_21 (by decide) ?_
  refine lv_iand hx hb dX12_code_24 ?_
  refine fb_tI (v := (nI zj)) he ?_
  refine fb_gO (cs := [fb_o12 za zr ze, fb_aw cI (zr 0) 16205 zm]) (rs := []) X I [0, 1] 2 rfl (by decide +kernel) rfl rfl (fun I => fb_rV (As := [.int (nI zj)]) (rest := [.ref (zr 0)]) X hl (fb_goodV fw_1956 fw_1958 fw_87 fw_204 fw_1959) (c_place_3 l D cI cJ za zr ze zm zj _ (by omega)) rfl rfl rfl (by decide +kernel : fb_hd yX12_place 1) ⟨Nat.le_of_ble_eq_true rfl, Nat.le_of_ble_eq_true rfl⟩ rfl rfl rfl rfl rfl (Nat.le_of_ble_eq_true rfl) ⟨Nat.zero_le _, Nat.zero_le _⟩ dX12_code_25 I) ?_
  refine fb_iaC (n := (11085 + zj - 3072)) (v := (0 : Int32)) X I 1 0 rfl rfl (nI_clamp (by omega)) (nI_pos (by omega)) (by omega) (hm (11085 + zj - 3072) (by omega) (by omega)) dX12_code_28 ?_
  exact fb_retRI X rfl rfl dX12_code_29

theorem c_code (l : Launch) (D : va_G) (cI cJ : ClassId) (za : Nat) (zr : Nat → Nat) (ze : fb_AR) (zm : fb_AR) (l1 : Int32) (sz : Nat) (hm : ∀ j, 1101 ≤ j → j < 12109 → zm j = 0) (a9 : zm 9 = (0 : Int32)) : Met l yX12_code (Cond.code yX12_code cX12_code 2 (some .int) :: fb_all) ({ frames := 3, cells := 0, slots := 0, locals := 80 } : Room) (fb_PP D (fb_ty D cI cJ) [.ref za, .int l1] (([fb_o12 za zr ze, fb_aw cI (zr 0) 16205 zm] : List va_W).flatten) sz) (vp_Si (fun r => r = (0 : Int32))) 0 0 (fun _ => False) := by
  obtain ⟨zj, hz, he⟩ := pk_andE l1 (m := 4095) 12 (by decide)
  by_cases h1 : zj < 1792
  · exact c_code_1 l D cI cJ za zr ze zm l1 zj sz hm a9 he h1
  · by_cases h2 : zj < 2048
    · exact c_code_0 l D cI cJ za zr ze zm l1 zj sz hm a9 he ⟨by omega, h2⟩
    · by_cases h3 : zj < 3072
      · exact c_code_2 l D cI cJ za zr ze zm l1 zj sz hm a9 he ⟨by omega, h3⟩
      · exact c_code_3 l D cI cJ za zr ze zm l1 zj sz hm a9 he ⟨by omega, by omega⟩

set_option maxHeartbeats 4000000 in
set_option maxRecDepth 100000 in
theorem c_vector (l : Launch) (D : va_G) (cI cJ : ClassId) (za : Nat) (zr : Nat → Nat) (ze : fb_AR) (zm : fb_AR) (l1 : Int32) (sz : Nat) (hm : ∀ j, 1101 ≤ j → j < 12109 → zm j = 0) (a9 : zm 9 = (0 : Int32)) : Met l yX12_vector (Cond.code yX12_vector cX12_vector 2 (some .int) :: fb_all) ({ frames := 4, cells := 0, slots := 0, locals := 101 } : Room) (fb_PP D (fb_ty D cI cJ) [.ref za, .int l1] (([fb_o12 za zr ze, fb_aw cI (zr 0) 16205 zm] : List va_W).flatten) sz) (vp_Si (fun r => r = (0 : Int32))) 0 0 (fun _ => False) := by
  refine fb_entR (by decide +kernel) (Nat.le_of_ble_eq_true rfl) ?_
  intro p e s m args below meth c A ls X I hl hin
  obtain ⟨hx, hb, hr, hml, hown, hts, hlk, hA, hK, hF⟩ := id X
  have hl : lv_has ls 2 [(0, .ref za), (1, .int l1)] := hl
  refine lv_aload_n hx hb dX12_vector_0 rfl (lv_at hl 0 rfl) ?_
  refine lv_sipush (v := (4080 : Int32)) hx hb dX12_vector_1 (by decide) ?_
  refine lv_iconst (v := (2 : Int32)) hx hb dX12_vector_4 (by decide) ?_
  refine lv_iload_n hx hb dX12_vector_5 rfl (lv_at hl 1 rfl) ?_
  refine lv_imul hx hb dX12_vector_6 ?_
  refine lv_iadd hx hb dX12_vector_7 ?_
  refine fb_gO (cs := [fb_o12 za zr ze, fb_aw cI (zr 0) 16205 zm]) (rs := []) X I [0, 1] 2 rfl (by decide +kernel) rfl rfl (fun I => fb_rV (As := [.int ((4080 : Int32) + ((2 : Int32) * l1))]) (rest := []) X hl (fb_goodV fw_1949 fw_1951 fw_86 fw_204 fw_1952) (c_code l D cI cJ za zr ze zm ((4080 : Int32) + ((2 : Int32) * l1)) _ hm a9) rfl rfl rfl (by decide +kernel : fb_hd yX12_code 1) ⟨Nat.le_of_ble_eq_true rfl, Nat.le_of_ble_eq_true rfl⟩ rfl rfl rfl rfl rfl (Nat.le_of_ble_eq_true rfl) ⟨Nat.zero_le _, Nat.zero_le _⟩ dX12_vector_8 I) ?_
  refine lv_sipush (v := (256 : Int32)) hx hb dX12_vector_11 (by decide) ?_
  refine lv_aload_n hx hb dX12_vector_14 rfl (lv_at hl 0 rfl) ?_
  refine lv_sipush (v := (4081 : Int32)) hx hb dX12_vector_15 (by decide) ?_
  refine lv_iconst (v := (2 : Int32)) hx hb dX12_vector_18 (by decide) ?_
  refine lv_iload_n hx hb dX12_vector_19 rfl (lv_at hl 1 rfl) ?_
  refine lv_imul hx hb dX12_vector_20 ?_
  refine lv_iadd hx hb dX12_vector_21 ?_
  refine fb_gO (cs := [fb_o12 za zr ze, fb_aw cI (zr 0) 16205 zm]) (rs := []) X I [0, 1] 2 rfl (by decide +kernel) rfl rfl (fun I => fb_rV (As := [.int ((4081 : Int32) + ((2 : Int32) * l1))]) (rest := [.int (256 : Int32), .int (0 : Int32)]) X hl (fb_goodV fw_1949 fw_1951 fw_86 fw_204 fw_1952) (c_code l D cI cJ za zr ze zm ((4081 : Int32) + ((2 : Int32) * l1)) _ hm a9) rfl rfl rfl (by decide +kernel : fb_hd yX12_code 1) ⟨Nat.le_of_ble_eq_true rfl, Nat.le_of_ble_eq_true rfl⟩ rfl rfl rfl rfl rfl (Nat.le_of_ble_eq_true rfl) ⟨Nat.zero_le _, Nat.zero_le _⟩ dX12_vector_22 I) ?_
  refine lv_imul hx hb dX12_vector_25 ?_
  refine fb_tI (v := (0 : Int32)) (by decide) ?_
  refine lv_iadd hx hb dX12_vector_26 ?_
  refine fb_tI (v := (0 : Int32)) (by decide) ?_
  refine lv_sipush (v := (4095 : Int32)) hx hb dX12_vector_27 (by decide) ?_
  refine lv_iand hx hb dX12_vector_30 ?_
  refine fb_tI (v := (0 : Int32)) (by decide) ?_
  exact fb_retRI X rfl rfl dX12_vector_31

theorem hm_up {f : fb_AR} {n : Nat} {v : Int32} (h : n < 1101 ∨ 12109 ≤ n) (H : ∀ j, 1101 ≤ j → j < 12109 → f j = 0) : ∀ j, 1101 ≤ j → j < 12109 → upd f n v j = 0 := fun j a b => (pk_un (by omega)).trans (H j a b)
end
section
/-! the reference along a fresh object's road, laid by ref.py -/
/-- the reference's row behind zk such steps; zt: how often at each place -/
def fr_m (zt : fb_AR) (zk : Nat) : fb_AR := fun j => if j = 2 then 255 else if j = 3 then 4 else if j = 4 then nI (zk % 4096) else if j = 7 then nI zk else if j = 8 then nI zk else if j = 15 then 1 else if 12109 ≤ j then zt (j - 12109) else 0
theorem fr_hm (zt : fb_AR) (zk : Nat) : ∀ j, 1101 ≤ j → j < 12109 → fr_m zt zk j = 0 := fun j a b => by
  unfold fr_m
  rw [if_neg (by omega), if_neg (by omega), if_neg (by omega), if_neg (by omega), if_neg (by omega), if_neg (by omega), if_neg (by omega)]
end
section
/-! the reference along a fresh object's road, laid by ref.py -/
/-- the fresh object's numbers -/
def fr_e0 : fb_AR := fun k => if k = 8 then -1 else if k = 28 then -1 else 0
end
section
/-! the reference along a fresh object's road, laid by ref.py -/
def fr_zz (f : fb_AR) : Prop := ∀ j, ¬ j = 2 → ¬ j = 3 → ¬ j = 4 → ¬ j = 15 → f j = 0
theorem fr_zz_up {f : fb_AR} (n : Nat) (H : fr_zz f) : fr_zz (upd f n (0 : Int32)) := fun j a b c d => by
  by_cases h : j = n
  · subst h; exact pk_us
  · rw [pk_un h]; exact H j a b c d
theorem fr_zz0 : fr_zz (fr_m (fun _ => 0) 0) := fun j a b c d => by
  unfold fr_m
  rw [if_neg a, if_neg b, if_neg c]
  by_cases h7 : j = 7
  · rw [if_pos h7]; rfl
  rw [if_neg h7]
  by_cases h8 : j = 8
  · rw [if_pos h8]; rfl
  rw [if_neg h8, if_neg d]
  by_cases hj : 12109 ≤ j
  · rw [if_pos hj]
  · rw [if_neg hj]
theorem fr_zz_hm {f : fb_AR} (H : fr_zz f) : ∀ j, 1101 ≤ j → j < 12109 → f j = 0 := fun j a b => H j (by omega) (by omega) (by omega) (by omega)
theorem fr_fresh {f : fb_AR} (H : fr_zz f) : ∀ j, upd (upd (upd (upd f 2 (255 : Int32)) 3 (4 : Int32)) 15 (1 : Int32)) 4 (0 : Int32) j = fr_m (fun _ => 0) 0 j := by
  intro j
  by_cases h4 : j = 4
  · subst h4; rfl
  by_cases h15 : j = 15
  · subst h15; rfl
  by_cases h3 : j = 3
  · subst h3; rfl
  by_cases h2 : j = 2
  · subst h2; rfl
  rw [pk_un h4, pk_un h15, pk_un h3, pk_un h2, H j h2 h3 h4 h15]
  exact (fr_zz0 j h2 h3 h4 h15).symm
theorem fr_and {n : Nat} (h : n < 4096) : nI n &&& (4095 : Int32) = nI n := by
  rw [pk_andN (n := n) (by omega) (m := 4095) 12 (by decide)]
  congr 1; omega
theorem fr_r00 (j : Nat) : upd (fun _ => 0) 0 (1 : Int32) j = if j ≤ 0 then 1 else 0 := by
  by_cases h : j = 0
  · subst h; rfl
  · rw [pk_un h, if_neg (by omega)]
theorem fr_r0 (f : fb_AR) (j : Nat) (h : f j = if j ≤ 0 then 1 else 0) : upd f 0 (1 : Int32) j = if j ≤ 0 then 1 else 0 := by
  by_cases q : j = 0
  · subst q; rfl
  · rw [pk_un q]; exact h
theorem fr_rb {f : fb_AR} {z : Nat} (H : ∀ j, j < 4096 → f j = if j ≤ z then 1 else 0) : ∀ j, j < 4096 → upd f (z + 1) (1 : Int32) j = if j ≤ z + 1 then 1 else 0 := fun j hj => by
  by_cases q : j = z + 1
  · subst q; rw [pk_us, if_pos (Nat.le_refl _)]
  · rw [pk_un q, H j hj]
    by_cases r : j ≤ z
    · rw [if_pos r, if_pos (by omega)]
    · rw [if_neg r, if_neg (by omega)]
theorem fr_rc {f : fb_AR} {z : Nat} (H : ∀ j, j ≤ z → f j = nI j) : ∀ j, j ≤ z + 1 → upd f (z + 1) (nI (z + 1)) j = nI j := fun j hj => by
  by_cases q : j = z + 1
  · subst q; exact pk_us
  · rw [pk_un q]; exact H j (by omega)
set_option maxHeartbeats 4000000 in
set_option maxRecDepth 100000 in
theorem b_start_134 {p : Program} {l : Launch} {e : Env} {s : State} {m : MethodId} {args : Array Value} {below : List Frame} {meth : Method} {c : Code} {D : va_G} {cI cJ : ClassId} {A : Nat → Prop} {za : Nat} {zr : Nat → Nat} {ze : fb_AR} {zm : fb_AR}  (X : fb_Bx p s m args meth c cX12_start RX12 6 none D (fb_ty D cI cJ) A) (hz : fr_zz zm)  : ∀ (n zi : Nat) (hn : zi + n = 4096) (zw : fb_AR) (iz : fr_zz zw) (H : Heap) (locs : List Loc) (ls : Array Slot) (I : fb_In D A s.heap (([fb_o12 za zr ze, fb_aw cI (zr 0) 16205 zw] : List va_W).flatten) H locs) (hl : lv_has ls 6 [(2, .int (nI zi)), (0, .ref za)]), W p l e ({ frames := 5, cells := 1, slots := 17, locals := 122 } : Room) s m args below meth c H locs (0 + 1) (0 + 17) (MQ below (fb_QV D A (fun (_ : Unit) => True) (fun (t : Unit) => ([fb_o12 za zr (upd (upd ze 10 (0 : Int32)) 2 (0 : Int32)), fb_aw cI (zr 0) 16205 (fr_m (fun _ => 0) 0)] : List va_W).flatten)) args s 1 17 A) (F0 m 134 ls []) := by
  intro n
  obtain ⟨hx, hb, hr, hml, hown, hts, hlk, hA, hK, hF⟩ := id X
  induction n with
  | zero =>
    intro zi hn zw iz H locs ls I hl
    have ziE : 4096 = zi := by omega
    subst ziE
    refine lv_iload_n hx hb dX12_start_134 rfl (lv_at hl 0 rfl) ?_
    refine lv_sipush (v := (4096 : Int32)) hx hb dX12_start_135 (by decide) ?_
    refine lv_icmp_ge (tgt := 158) hx hb dX12_start_138 (by decide) (fun _ => ?_) (fun c21 => absurd (nI_le (a := 4096) (b := 4096) (by omega) (by omega)) c21)
    refine lv_aload_n hx hb dX12_start_158 rfl (lv_at hl 1 rfl) ?_
    refine fb_get X I (k := 0) (v := .ref (zr 0)) fu_X12 0 fb_h12 rfl (Nat.le_of_ble_eq_true rfl) fw_1964 rfl rfl dX12_start_159 ?_
    refine lv_iconst (v := (2 : Int32)) hx hb dX12_start_162 (by decide) ?_
    refine lv_sipush (v := (255 : Int32)) hx hb dX12_start_163 (by decide) ?_
    refine fb_isC (n := 2) (wn := ([fb_o12 za zr ze, fb_aw cI (zr 0) 16205 (upd zw 2 (255 : Int32))] : List va_W).flatten) X I 1 0 rfl rfl (by decide) (by decide) (Nat.le_of_ble_eq_true rfl) rfl dX12_start_166 (fun H locs I => ?_)
    refine lv_aload_n hx hb dX12_start_167 rfl (lv_at hl 1 rfl) ?_
    refine fb_get X I (k := 0) (v := .ref (zr 0)) fu_X12 0 fb_h12 rfl (Nat.le_of_ble_eq_true rfl) fw_1964 rfl rfl dX12_start_168 ?_
    refine lv_iconst (v := (3 : Int32)) hx hb dX12_start_171 (by decide) ?_
    refine lv_iconst (v := (4 : Int32)) hx hb dX12_start_172 (by decide) ?_
    refine fb_isC (n := 3) (wn := ([fb_o12 za zr ze, fb_aw cI (zr 0) 16205 (upd (upd zw 2 (255 : Int32)) 3 (4 : Int32))] : List va_W).flatten) X I 1 0 rfl rfl (by decide) (by decide) (Nat.le_of_ble_eq_true rfl) rfl dX12_start_173 (fun H locs I => ?_)
    refine lv_aload_n hx hb dX12_start_174 rfl (lv_at hl 1 rfl) ?_
    refine fb_get X I (k := 0) (v := .ref (zr 0)) fu_X12 0 fb_h12 rfl (Nat.le_of_ble_eq_true rfl) fw_1964 rfl rfl dX12_start_175 ?_
    refine lv_bipush (v := (15 : Int32)) hx hb dX12_start_178 (by decide) ?_
    refine lv_iconst (v := (1 : Int32)) hx hb dX12_start_180 (by decide) ?_
    refine fb_isC (n := 15) (wn := ([fb_o12 za zr ze, fb_aw cI (zr 0) 16205 (upd (upd (upd zw 2 (255 : Int32)) 3 (4 : Int32)) 15 (1 : Int32))] : List va_W).flatten) X I 1 0 rfl rfl (by decide) (by decide) (Nat.le_of_ble_eq_true rfl) rfl dX12_start_181 (fun H locs I => ?_)
    refine lv_aload_n hx hb dX12_start_182 rfl (lv_at hl 1 rfl) ?_
    refine fb_get X I (k := 0) (v := .ref (zr 0)) fu_X12 0 fb_h12 rfl (Nat.le_of_ble_eq_true rfl) fw_1964 rfl rfl dX12_start_183 ?_
    refine lv_iconst (v := (4 : Int32)) hx hb dX12_start_186 (by decide) ?_
    refine lv_aload_n hx hb dX12_start_187 rfl (lv_at hl 1 rfl) ?_
    refine lv_iconst (v := (0 : Int32)) hx hb dX12_start_188 (by decide) ?_
    refine fb_gO (cs := [fb_o12 za zr ze, fb_aw cI (zr 0) 16205 (upd (upd (upd zw 2 (255 : Int32)) 3 (4 : Int32)) 15 (1 : Int32))]) (rs := []) X I [0, 1] 2 rfl (by decide +kernel) rfl rfl (fun I => fb_rV (As := [.int (0 : Int32)]) (rest := [.int (4 : Int32), .ref (zr 0)]) X hl (fb_goodV fw_1945 fw_1947 fw_85 fw_204 fw_1948) (c_vector l D cI cJ za zr ze (upd (upd (upd zw 2 (255 : Int32)) 3 (4 : Int32)) 15 (1 : Int32)) (0 : Int32) _ (hm_up (by omega) (hm_up (by omega) (hm_up (by omega) (fr_zz_hm iz)))) ((pk_un (by decide)).trans ((pk_un (by decide)).trans ((pk_un (by decide)).trans (iz 9 (by decide) (by decide) (by decide) (by decide)))))) rfl rfl rfl (by decide +kernel : fb_hd yX12_vector 1) ⟨Nat.le_of_ble_eq_true rfl, Nat.le_of_ble_eq_true rfl⟩ rfl rfl rfl rfl rfl (Nat.le_of_ble_eq_true rfl) ⟨Nat.le_of_ble_eq_true rfl, Nat.le_of_ble_eq_true rfl⟩ dX12_start_189 I) ?_
    refine fb_isC (n := 4) (wn := ([fb_o12 za zr ze, fb_aw cI (zr 0) 16205 (upd (upd (upd (upd zw 2 (255 : Int32)) 3 (4 : Int32)) 15 (1 : Int32)) 4 (0 : Int32))] : List va_W).flatten) X I 1 0 rfl rfl (by decide) (by decide) (Nat.le_of_ble_eq_true rfl) rfl dX12_start_192 (fun H locs I => ?_)
    refine lv_aload_n hx hb dX12_start_193 rfl (lv_at hl 1 rfl) ?_
    refine lv_iconst (v := (0 : Int32)) hx hb dX12_start_194 (by decide) ?_
    refine fb_put X I (k := 10) (wn := ([fb_o12 za zr (upd ze 10 (0 : Int32)), fb_aw cI (zr 0) 16205 (upd (upd (upd (upd zw 2 (255 : Int32)) 3 (4 : Int32)) 15 (1 : Int32)) 4 (0 : Int32))] : List va_W).flatten) fu_X12 tyX12 tyX12_ok nmX12 0 fb_h12 rfl (Nat.le_of_ble_eq_true rfl) fw_1974 rfl rfl rfl rfl rfl (Nat.le_of_ble_eq_true rfl) fb_r12_10 dX12_start_195 (fun H locs I => ?_)
    refine lv_aload_n hx hb dX12_start_198 rfl (lv_at hl 1 rfl) ?_
    refine fb_gV (cs := [fb_o12 za zr (upd ze 10 (0 : Int32))]) (rs := [fb_aw cI (zr 0) 16205 (upd (upd (upd (upd zw 2 (255 : Int32)) 3 (4 : Int32)) 15 (1 : Int32)) 4 (0 : Int32))]) (fun (t : Unit) => [fb_o12 za zr (upd (upd ze 10 (0 : Int32)) 2 (0 : Int32)), fb_aw cI (zr 0) 16205 (upd (upd (upd (upd zw 2 (255 : Int32)) 3 (4 : Int32)) 15 (1 : Int32)) 4 (0 : Int32))]) (fun (t : Unit) => [fb_o12 za zr (upd (upd ze 10 (0 : Int32)) 2 (0 : Int32))]) X I [0, 1] 2 rfl (by decide +kernel) rfl rfl [0, 1] 2 (fun _ => rfl) (by decide +kernel) (fun _ => rfl) (fun _ => rfl) (fun I => fb_rV (As := []) (rest := []) X hl (fb_goodV fw_1960 fw_1962 fw_88 fw_204 fw_1963) (c_forget l D cI cJ za zr (upd ze 10 (0 : Int32)) _ ) rfl rfl rfl (by decide +kernel : fb_hd yX12_forget 0) ⟨Nat.le_of_ble_eq_true rfl, Nat.le_of_ble_eq_true rfl⟩ rfl rfl rfl rfl rfl (Nat.le_of_ble_eq_true rfl) ⟨Nat.le_of_ble_eq_true rfl, Nat.le_of_ble_eq_true rfl⟩ dX12_start_199 I) ?_
    intro w22 H locs _ I
    have I : fb_In D A s.heap (([fb_o12 za zr (upd (upd ze 10 (0 : Int32)) 2 (0 : Int32)), fb_aw cI (zr 0) 16205 (upd (upd (upd (upd zw 2 (255 : Int32)) 3 (4 : Int32)) 15 (1 : Int32)) 4 (0 : Int32))] : List va_W).flatten) H locs := I
    have I : fb_In D A s.heap (([fb_o12 za zr (upd (upd ze 10 (0 : Int32)) 2 (0 : Int32)), fb_aw cI (zr 0) 16205 (fr_m (fun _ => 0) 0)] : List va_W).flatten) H locs := fb_In.row I 1 rfl (fun j _ => fr_fresh iz j) rfl
    refine W.widen (k := 1) (n := 17) (by omega) (by omega) ?_
    exact fb_retV (u := ()) X I trivial dX12_start_202
  | succ n ih =>
    intro zi hn zw iz H locs ls I hl
    have ziL : zi < 4096 := by omega
    refine lv_iload_n hx hb dX12_start_134 rfl (lv_at hl 0 rfl) ?_
    refine lv_sipush (v := (4096 : Int32)) hx hb dX12_start_135 (by decide) ?_
    refine lv_icmp_ge (tgt := 158) hx hb dX12_start_138 (by decide) (fun c23 => absurd c23 (nI_ge (a := zi) (b := 4096) (by omega) (by omega))) (fun _ => ?_)
    refine lv_aload_n hx hb dX12_start_141 rfl (lv_at hl 1 rfl) ?_
    refine fb_get X I (k := 0) (v := .ref (zr 0)) fu_X12 0 fb_h12 rfl (Nat.le_of_ble_eq_true rfl) fw_1964 rfl rfl dX12_start_142 ?_
    refine lv_sipush (v := (12109 : Int32)) hx hb dX12_start_145 (by decide) ?_
    refine lv_iload_n hx hb dX12_start_148 rfl (lv_at hl 0 rfl) ?_
    refine lv_iadd hx hb dX12_start_149 ?_
    refine fb_tI (v := (nI (12109 + zi))) (nI_add 12109 zi) ?_
    refine lv_iconst (v := (0 : Int32)) hx hb dX12_start_150 (by decide) ?_
    refine fb_isC (n := (12109 + zi)) (wn := ([fb_o12 za zr ze, fb_aw cI (zr 0) 16205 (upd zw (12109 + zi) (0 : Int32))] : List va_W).flatten) X I 1 0 rfl rfl (nI_clamp (by omega)) (nI_pos (by omega)) (by omega) rfl dX12_start_151 (fun H locs I => ?_)
    refine lv_iinc (v := (nI (zi + 1))) (lv' := [(2, .int (nI (zi + 1))), (0, .ref za)]) hx hb dX12_start_152 hl (k := 0) rfl (nI_add _ 1) (by decide) rfl (fun ls hl => ?_)
    refine lv_goto (tgt := 134) hx hb dX12_start_155 (by decide) ?_
    exact ih (zi + 1) (by omega) (upd zw (12109 + zi) (0 : Int32)) (fr_zz_up _ iz) _ _ _ I (lv_sub hl [0, 1] rfl)
set_option maxHeartbeats 4000000 in
set_option maxRecDepth 100000 in
theorem c_start (l : Launch) (D : va_G) (cI cJ : ClassId) (za : Nat) (zr : Nat → Nat) (ze : fb_AR) (zm : fb_AR) (sz : Nat) (hz : fr_zz zm) : Met l yX12_start (Cond.code yX12_start cX12_start 6 none :: fb_all) ({ frames := 5, cells := 1, slots := 17, locals := 122 } : Room) (fb_PP D (fb_ty D cI cJ) [.ref za] (([fb_o12 za zr ze, fb_aw cI (zr 0) 16205 zm] : List va_W).flatten) sz) (fb_QV D (va_A (([fb_o12 za zr ze, fb_aw cI (zr 0) 16205 zm] : List va_W).flatten) sz) (fun (_ : Unit) => True) (fun (t : Unit) => ([fb_o12 za zr (upd (upd ze 10 (0 : Int32)) 2 (0 : Int32)), fb_aw cI (zr 0) 16205 (fr_m (fun _ => 0) 0)] : List va_W).flatten)) 1 17 (va_A (([fb_o12 za zr ze, fb_aw cI (zr 0) 16205 zm] : List va_W).flatten) sz) := by
  refine fb_ent (Qf := fun A => (fb_QV D A (fun (_ : Unit) => True) (fun (t : Unit) => ([fb_o12 za zr (upd (upd ze 10 (0 : Int32)) 2 (0 : Int32)), fb_aw cI (zr 0) 16205 (fr_m (fun _ => 0) 0)] : List va_W).flatten))) (by decide +kernel) (Nat.le_of_ble_eq_true rfl) ?_
  intro p e s m args below meth c A ls X I hl hin
  obtain ⟨hx, hb, hr, hml, hown, hts, hlk, hA, hK, hF⟩ := id X
  have hl : lv_has ls 6 [(0, .ref za)] := hl
  refine lv_bipush (v := (17 : Int32)) hx hb dX12_start_0 (by decide) ?_
  refine fb_nI (N := 17) X I fw_261 (by decide) (Nat.le_of_ble_eq_true rfl) (Nat.le_of_ble_eq_true rfl) (Nat.le_of_ble_eq_true rfl) dX12_start_2 (fun x1 H I => ?_)
  have I : fb_In D A s.heap (([fb_o12 za zr ze, fb_aw cI (zr 0) 16205 zm, fb_aw cI x1 17 (fun _ => 0)] : List va_W).flatten) H _ := I
  refine lv_dup hx hb dX12_start_4 rfl ?_
  refine lv_iconst (v := (0 : Int32)) hx hb dX12_start_5 (by decide) ?_
  refine lv_iconst (v := (0 : Int32)) hx hb dX12_start_6 (by decide) ?_
  refine fb_isC (n := 0) (wn := ([fb_o12 za zr ze, fb_aw cI (zr 0) 16205 zm, fb_aw cI x1 17 (upd (fun _ => 0) 0 (0 : Int32))] : List va_W).flatten) X I 2 0 rfl rfl (by decide) (by decide) (Nat.le_of_ble_eq_true rfl) rfl dX12_start_7 (fun H locs I => ?_)
  refine lv_dup hx hb dX12_start_8 rfl ?_
  refine lv_iconst (v := (1 : Int32)) hx hb dX12_start_9 (by decide) ?_
  refine lv_iconst (v := (1 : Int32)) hx hb dX12_start_10 (by decide) ?_
  refine fb_isC (n := 1) (wn := ([fb_o12 za zr ze, fb_aw cI (zr 0) 16205 zm, fb_aw cI x1 17 (upd (upd (fun _ => 0) 0 (0 : Int32)) 1 (1 : Int32))] : List va_W).flatten) X I 2 0 rfl rfl (by decide) (by decide) (Nat.le_of_ble_eq_true rfl) rfl dX12_start_11 (fun H locs I => ?_)
  refine lv_dup hx hb dX12_start_12 rfl ?_
  refine lv_iconst (v := (2 : Int32)) hx hb dX12_start_13 (by decide) ?_
  refine lv_iconst (v := (5 : Int32)) hx hb dX12_start_14 (by decide) ?_
  refine fb_isC (n := 2) (wn := ([fb_o12 za zr ze, fb_aw cI (zr 0) 16205 zm, fb_aw cI x1 17 (upd (upd (upd (fun _ => 0) 0 (0 : Int32)) 1 (1 : Int32)) 2 (5 : Int32))] : List va_W).flatten) X I 2 0 rfl rfl (by decide) (by decide) (Nat.le_of_ble_eq_true rfl) rfl dX12_start_15 (fun H locs I => ?_)
  refine lv_dup hx hb dX12_start_16 rfl ?_
  refine lv_iconst (v := (3 : Int32)) hx hb dX12_start_17 (by decide) ?_
  refine lv_bipush (v := (6 : Int32)) hx hb dX12_start_18 (by decide) ?_
  refine fb_isC (n := 3) (wn := ([fb_o12 za zr ze, fb_aw cI (zr 0) 16205 zm, fb_aw cI x1 17 (upd (upd (upd (upd (fun _ => 0) 0 (0 : Int32)) 1 (1 : Int32)) 2 (5 : Int32)) 3 (6 : Int32))] : List va_W).flatten) X I 2 0 rfl rfl (by decide) (by decide) (Nat.le_of_ble_eq_true rfl) rfl dX12_start_20 (fun H locs I => ?_)
  refine lv_dup hx hb dX12_start_21 rfl ?_
  refine lv_iconst (v := (4 : Int32)) hx hb dX12_start_22 (by decide) ?_
  refine lv_bipush (v := (7 : Int32)) hx hb dX12_start_23 (by decide) ?_
  refine fb_isC (n := 4) (wn := ([fb_o12 za zr ze, fb_aw cI (zr 0) 16205 zm, fb_aw cI x1 17 (upd (upd (upd (upd (upd (fun _ => 0) 0 (0 : Int32)) 1 (1 : Int32)) 2 (5 : Int32)) 3 (6 : Int32)) 4 (7 : Int32))] : List va_W).flatten) X I 2 0 rfl rfl (by decide) (by decide) (Nat.le_of_ble_eq_true rfl) rfl dX12_start_25 (fun H locs I => ?_)
  refine lv_dup hx hb dX12_start_26 rfl ?_
  refine lv_iconst (v := (5 : Int32)) hx hb dX12_start_27 (by decide) ?_
  refine lv_bipush (v := (8 : Int32)) hx hb dX12_start_28 (by decide) ?_
  refine fb_isC (n := 5) (wn := ([fb_o12 za zr ze, fb_aw cI (zr 0) 16205 zm, fb_aw cI x1 17 (upd (upd (upd (upd (upd (upd (fun _ => 0) 0 (0 : Int32)) 1 (1 : Int32)) 2 (5 : Int32)) 3 (6 : Int32)) 4 (7 : Int32)) 5 (8 : Int32))] : List va_W).flatten) X I 2 0 rfl rfl (by decide) (by decide) (Nat.le_of_ble_eq_true rfl) rfl dX12_start_30 (fun H locs I => ?_)
  refine lv_dup hx hb dX12_start_31 rfl ?_
  refine lv_bipush (v := (6 : Int32)) hx hb dX12_start_32 (by decide) ?_
  refine lv_bipush (v := (9 : Int32)) hx hb dX12_start_34 (by decide) ?_
  refine fb_isC (n := 6) (wn := ([fb_o12 za zr ze, fb_aw cI (zr 0) 16205 zm, fb_aw cI x1 17 (upd (upd (upd (upd (upd (upd (upd (fun _ => 0) 0 (0 : Int32)) 1 (1 : Int32)) 2 (5 : Int32)) 3 (6 : Int32)) 4 (7 : Int32)) 5 (8 : Int32)) 6 (9 : Int32))] : List va_W).flatten) X I 2 0 rfl rfl (by decide) (by decide) (Nat.le_of_ble_eq_true rfl) rfl dX12_start_36 (fun H locs I => ?_)
  refine lv_dup hx hb dX12_start_37 rfl ?_
  refine lv_bipush (v := (7 : Int32)) hx hb dX12_start_38 (by decide) ?_
  refine lv_bipush (v := (10 : Int32)) hx hb dX12_start_40 (by decide) ?_
  refine fb_isC (n := 7) (wn := ([fb_o12 za zr ze, fb_aw cI (zr 0) 16205 zm, fb_aw cI x1 17 (upd (upd (upd (upd (upd (upd (upd (upd (fun _ => 0) 0 (0 : Int32)) 1 (1 : Int32)) 2 (5 : Int32)) 3 (6 : Int32)) 4 (7 : Int32)) 5 (8 : Int32)) 6 (9 : Int32)) 7 (10 : Int32))] : List va_W).flatten) X I 2 0 rfl rfl (by decide) (by decide) (Nat.le_of_ble_eq_true rfl) rfl dX12_start_42 (fun H locs I => ?_)
  refine lv_dup hx hb dX12_start_43 rfl ?_
  refine lv_bipush (v := (8 : Int32)) hx hb dX12_start_44 (by decide) ?_
  refine lv_bipush (v := (11 : Int32)) hx hb dX12_start_46 (by decide) ?_
  refine fb_isC (n := 8) (wn := ([fb_o12 za zr ze, fb_aw cI (zr 0) 16205 zm, fb_aw cI x1 17 (upd (upd (upd (upd (upd (upd (upd (upd (upd (fun _ => 0) 0 (0 : Int32)) 1 (1 : Int32)) 2 (5 : Int32)) 3 (6 : Int32)) 4 (7 : Int32)) 5 (8 : Int32)) 6 (9 : Int32)) 7 (10 : Int32)) 8 (11 : Int32))] : List va_W).flatten) X I 2 0 rfl rfl (by decide) (by decide) (Nat.le_of_ble_eq_true rfl) rfl dX12_start_48 (fun H locs I => ?_)
  refine lv_dup hx hb dX12_start_49 rfl ?_
  refine lv_bipush (v := (9 : Int32)) hx hb dX12_start_50 (by decide) ?_
  refine lv_bipush (v := (12 : Int32)) hx hb dX12_start_52 (by decide) ?_
  refine fb_isC (n := 9) (wn := ([fb_o12 za zr ze, fb_aw cI (zr 0) 16205 zm, fb_aw cI x1 17 (upd (upd (upd (upd (upd (upd (upd (upd (upd (upd (fun _ => 0) 0 (0 : Int32)) 1 (1 : Int32)) 2 (5 : Int32)) 3 (6 : Int32)) 4 (7 : Int32)) 5 (8 : Int32)) 6 (9 : Int32)) 7 (10 : Int32)) 8 (11 : Int32)) 9 (12 : Int32))] : List va_W).flatten) X I 2 0 rfl rfl (by decide) (by decide) (Nat.le_of_ble_eq_true rfl) rfl dX12_start_54 (fun H locs I => ?_)
  refine lv_dup hx hb dX12_start_55 rfl ?_
  refine lv_bipush (v := (10 : Int32)) hx hb dX12_start_56 (by decide) ?_
  refine lv_bipush (v := (13 : Int32)) hx hb dX12_start_58 (by decide) ?_
  refine fb_isC (n := 10) (wn := ([fb_o12 za zr ze, fb_aw cI (zr 0) 16205 zm, fb_aw cI x1 17 (upd (upd (upd (upd (upd (upd (upd (upd (upd (upd (upd (fun _ => 0) 0 (0 : Int32)) 1 (1 : Int32)) 2 (5 : Int32)) 3 (6 : Int32)) 4 (7 : Int32)) 5 (8 : Int32)) 6 (9 : Int32)) 7 (10 : Int32)) 8 (11 : Int32)) 9 (12 : Int32)) 10 (13 : Int32))] : List va_W).flatten) X I 2 0 rfl rfl (by decide) (by decide) (Nat.le_of_ble_eq_true rfl) rfl dX12_start_60 (fun H locs I => ?_)
  refine lv_dup hx hb dX12_start_61 rfl ?_
  refine lv_bipush (v := (11 : Int32)) hx hb dX12_start_62 (by decide) ?_
  refine lv_bipush (v := (14 : Int32)) hx hb dX12_start_64 (by decide) ?_
  refine fb_isC (n := 11) (wn := ([fb_o12 za zr ze, fb_aw cI (zr 0) 16205 zm, fb_aw cI x1 17 (upd (upd (upd (upd (upd (upd (upd (upd (upd (upd (upd (upd (fun _ => 0) 0 (0 : Int32)) 1 (1 : Int32)) 2 (5 : Int32)) 3 (6 : Int32)) 4 (7 : Int32)) 5 (8 : Int32)) 6 (9 : Int32)) 7 (10 : Int32)) 8 (11 : Int32)) 9 (12 : Int32)) 10 (13 : Int32)) 11 (14 : Int32))] : List va_W).flatten) X I 2 0 rfl rfl (by decide) (by decide) (Nat.le_of_ble_eq_true rfl) rfl dX12_start_66 (fun H locs I => ?_)
  refine lv_dup hx hb dX12_start_67 rfl ?_
  refine lv_bipush (v := (12 : Int32)) hx hb dX12_start_68 (by decide) ?_
  refine lv_bipush (v := (16 : Int32)) hx hb dX12_start_70 (by decide) ?_
  refine fb_isC (n := 12) (wn := ([fb_o12 za zr ze, fb_aw cI (zr 0) 16205 zm, fb_aw cI x1 17 (upd (upd (upd (upd (upd (upd (upd (upd (upd (upd (upd (upd (upd (fun _ => 0) 0 (0 : Int32)) 1 (1 : Int32)) 2 (5 : Int32)) 3 (6 : Int32)) 4 (7 : Int32)) 5 (8 : Int32)) 6 (9 : Int32)) 7 (10 : Int32)) 8 (11 : Int32)) 9 (12 : Int32)) 10 (13 : Int32)) 11 (14 : Int32)) 12 (16 : Int32))] : List va_W).flatten) X I 2 0 rfl rfl (by decide) (by decide) (Nat.le_of_ble_eq_true rfl) rfl dX12_start_72 (fun H locs I => ?_)
  refine lv_dup hx hb dX12_start_73 rfl ?_
  refine lv_bipush (v := (13 : Int32)) hx hb dX12_start_74 (by decide) ?_
  refine lv_bipush (v := (17 : Int32)) hx hb dX12_start_76 (by decide) ?_
  refine fb_isC (n := 13) (wn := ([fb_o12 za zr ze, fb_aw cI (zr 0) 16205 zm, fb_aw cI x1 17 (upd (upd (upd (upd (upd (upd (upd (upd (upd (upd (upd (upd (upd (upd (fun _ => 0) 0 (0 : Int32)) 1 (1 : Int32)) 2 (5 : Int32)) 3 (6 : Int32)) 4 (7 : Int32)) 5 (8 : Int32)) 6 (9 : Int32)) 7 (10 : Int32)) 8 (11 : Int32)) 9 (12 : Int32)) 10 (13 : Int32)) 11 (14 : Int32)) 12 (16 : Int32)) 13 (17 : Int32))] : List va_W).flatten) X I 2 0 rfl rfl (by decide) (by decide) (Nat.le_of_ble_eq_true rfl) rfl dX12_start_78 (fun H locs I => ?_)
  refine lv_dup hx hb dX12_start_79 rfl ?_
  refine lv_bipush (v := (14 : Int32)) hx hb dX12_start_80 (by decide) ?_
  refine lv_bipush (v := (18 : Int32)) hx hb dX12_start_82 (by decide) ?_
  refine fb_isC (n := 14) (wn := ([fb_o12 za zr ze, fb_aw cI (zr 0) 16205 zm, fb_aw cI x1 17 (upd (upd (upd (upd (upd (upd (upd (upd (upd (upd (upd (upd (upd (upd (upd (fun _ => 0) 0 (0 : Int32)) 1 (1 : Int32)) 2 (5 : Int32)) 3 (6 : Int32)) 4 (7 : Int32)) 5 (8 : Int32)) 6 (9 : Int32)) 7 (10 : Int32)) 8 (11 : Int32)) 9 (12 : Int32)) 10 (13 : Int32)) 11 (14 : Int32)) 12 (16 : Int32)) 13 (17 : Int32)) 14 (18 : Int32))] : List va_W).flatten) X I 2 0 rfl rfl (by decide) (by decide) (Nat.le_of_ble_eq_true rfl) rfl dX12_start_84 (fun H locs I => ?_)
  refine lv_dup hx hb dX12_start_85 rfl ?_
  refine lv_bipush (v := (15 : Int32)) hx hb dX12_start_86 (by decide) ?_
  refine lv_bipush (v := (19 : Int32)) hx hb dX12_start_88 (by decide) ?_
  refine fb_isC (n := 15) (wn := ([fb_o12 za zr ze, fb_aw cI (zr 0) 16205 zm, fb_aw cI x1 17 (upd (upd (upd (upd (upd (upd (upd (upd (upd (upd (upd (upd (upd (upd (upd (upd (fun _ => 0) 0 (0 : Int32)) 1 (1 : Int32)) 2 (5 : Int32)) 3 (6 : Int32)) 4 (7 : Int32)) 5 (8 : Int32)) 6 (9 : Int32)) 7 (10 : Int32)) 8 (11 : Int32)) 9 (12 : Int32)) 10 (13 : Int32)) 11 (14 : Int32)) 12 (16 : Int32)) 13 (17 : Int32)) 14 (18 : Int32)) 15 (19 : Int32))] : List va_W).flatten) X I 2 0 rfl rfl (by decide) (by decide) (Nat.le_of_ble_eq_true rfl) rfl dX12_start_90 (fun H locs I => ?_)
  refine lv_dup hx hb dX12_start_91 rfl ?_
  refine lv_bipush (v := (16 : Int32)) hx hb dX12_start_92 (by decide) ?_
  refine lv_bipush (v := (20 : Int32)) hx hb dX12_start_94 (by decide) ?_
  refine fb_isC (n := 16) (wn := ([fb_o12 za zr ze, fb_aw cI (zr 0) 16205 zm, fb_aw cI x1 17 (upd (upd (upd (upd (upd (upd (upd (upd (upd (upd (upd (upd (upd (upd (upd (upd (upd (fun _ => 0) 0 (0 : Int32)) 1 (1 : Int32)) 2 (5 : Int32)) 3 (6 : Int32)) 4 (7 : Int32)) 5 (8 : Int32)) 6 (9 : Int32)) 7 (10 : Int32)) 8 (11 : Int32)) 9 (12 : Int32)) 10 (13 : Int32)) 11 (14 : Int32)) 12 (16 : Int32)) 13 (17 : Int32)) 14 (18 : Int32)) 15 (19 : Int32)) 16 (20 : Int32))] : List va_W).flatten) X I 2 0 rfl rfl (by decide) (by decide) (Nat.le_of_ble_eq_true rfl) rfl dX12_start_96 (fun H locs I => ?_)
  refine lv_astore_n (lv' := [(1, .ref x1), (0, .ref za)]) hx hb dX12_start_97 rfl hl (by decide) rfl (fun ls hl => ?_)
  refine lv_aload_n hx hb dX12_start_98 rfl (lv_at hl 0 rfl) ?_
  refine lv_astore_n (lv' := [(2, .ref x1), (1, .ref x1), (0, .ref za)]) hx hb dX12_start_99 rfl hl (by decide) rfl (fun ls hl => ?_)
  refine lv_aload_n hx hb dX12_start_100 rfl (lv_at hl 0 rfl) ?_
  refine fb_alen (v := (17 : Int32)) X I 2 0 rfl rfl rfl dX12_start_101 ?_
  refine lv_istore_n (lv' := [(3, .int (17 : Int32)), (2, .ref x1), (1, .ref x1), (0, .ref za)]) hx hb dX12_start_102 rfl hl (by decide) rfl (fun ls hl => ?_)
  refine lv_iconst (v := (0 : Int32)) hx hb dX12_start_103 (by decide) ?_
  refine lv_istore (lv' := [(4, .int (0 : Int32)), (3, .int (17 : Int32)), (2, .ref x1), (1, .ref x1), (0, .ref za)]) hx hb dX12_start_104 hl (by decide) rfl (fun ls hl => ?_)
  refine lv_iload hx hb dX12_start_106 (lv_at hl 0 rfl) ?_
  refine lv_iload_n hx hb dX12_start_108 rfl (lv_at hl 1 rfl) ?_
  refine lv_icmp_ge (tgt := 132) hx hb dX12_start_109 (by decide) (fun c2 => absurd c2 (by decide)) (fun _ => ?_)
  refine lv_aload_n hx hb dX12_start_112 rfl (lv_at hl 2 rfl) ?_
  refine lv_iload hx hb dX12_start_113 (lv_at hl 0 rfl) ?_
  refine fb_iaC (n := 0) (v := (0 : Int32)) X I 2 0 rfl rfl (by decide) (by decide) (Nat.le_of_ble_eq_true rfl) ((pk_un (by decide)).trans ((pk_un (by decide)).trans ((pk_un (by decide)).trans ((pk_un (by decide)).trans ((pk_un (by decide)).trans ((pk_un (by decide)).trans ((pk_un (by decide)).trans ((pk_un (by decide)).trans ((pk_un (by decide)).trans ((pk_un (by decide)).trans ((pk_un (by decide)).trans ((pk_un (by decide)).trans ((pk_un (by decide)).trans ((pk_un (by decide)).trans ((pk_un (by decide)).trans ((pk_un (by decide)).trans pk_us)))))))))))))))) dX12_start_115 ?_
  refine lv_istore (lv' := [(5, .int (0 : Int32)), (4, .int (0 : Int32)), (3, .int (17 : Int32)), (2, .ref x1), (1, .ref x1), (0, .ref za)]) hx hb dX12_start_116 hl (by decide) rfl (fun ls hl => ?_)
  refine lv_aload_n hx hb dX12_start_118 rfl (lv_at hl 5 rfl) ?_
  refine fb_get X I (k := 0) (v := .ref (zr 0)) fu_X12 0 fb_h12 rfl (Nat.le_of_ble_eq_true rfl) fw_1964 rfl rfl dX12_start_119 ?_
  refine lv_iload hx hb dX12_start_122 (lv_at hl 0 rfl) ?_
  refine lv_iconst (v := (0 : Int32)) hx hb dX12_start_124 (by decide) ?_
  refine fb_isC (n := 0) (wn := ([fb_o12 za zr ze, fb_aw cI (zr 0) 16205 (upd zm 0 (0 : Int32)), fb_aw cI x1 17 (upd (upd (upd (upd (upd (upd (upd (upd (upd (upd (upd (upd (upd (upd (upd (upd (upd (fun _ => 0) 0 (0 : Int32)) 1 (1 : Int32)) 2 (5 : Int32)) 3 (6 : Int32)) 4 (7 : Int32)) 5 (8 : Int32)) 6 (9 : Int32)) 7 (10 : Int32)) 8 (11 : Int32)) 9 (12 : Int32)) 10 (13 : Int32)) 11 (14 : Int32)) 12 (16 : Int32)) 13 (17 : Int32)) 14 (18 : Int32)) 15 (19 : Int32)) 16 (20 : Int32))] : List va_W).flatten) X I 1 0 rfl rfl (by decide) (by decide) (Nat.le_of_ble_eq_true rfl) rfl dX12_start_125 (fun H locs I => ?_)
  refine lv_iinc (v := (1 : Int32)) (lv' := [(4, .int (1 : Int32)), (5, .int (0 : Int32)), (3, .int (17 : Int32)), (2, .ref x1), (1, .ref x1), (0, .ref za)]) hx hb dX12_start_126 hl (k := 1) rfl (by decide) (by decide) rfl (fun ls hl => ?_)
  refine lv_goto (tgt := 106) hx hb dX12_start_129 (by decide) ?_
  refine lv_iload hx hb dX12_start_106 (lv_at hl 0 rfl) ?_
  refine lv_iload_n hx hb dX12_start_108 rfl (lv_at hl 2 rfl) ?_
  refine lv_icmp_ge (tgt := 132) hx hb dX12_start_109 (by decide) (fun c3 => absurd c3 (by decide)) (fun _ => ?_)
  refine lv_aload_n hx hb dX12_start_112 rfl (lv_at hl 3 rfl) ?_
  refine lv_iload hx hb dX12_start_113 (lv_at hl 0 rfl) ?_
  refine fb_iaC (n := 1) (v := (1 : Int32)) X I 2 0 rfl rfl (by decide) (by decide) (Nat.le_of_ble_eq_true rfl) ((pk_un (by decide)).trans ((pk_un (by decide)).trans ((pk_un (by decide)).trans ((pk_un (by decide)).trans ((pk_un (by decide)).trans ((pk_un (by decide)).trans ((pk_un (by decide)).trans ((pk_un (by decide)).trans ((pk_un (by decide)).trans ((pk_un (by decide)).trans ((pk_un (by decide)).trans ((pk_un (by decide)).trans ((pk_un (by decide)).trans ((pk_un (by decide)).trans ((pk_un (by decide)).trans pk_us))))))))))))))) dX12_start_115 ?_
  refine lv_istore (lv' := [(5, .int (1 : Int32)), (4, .int (1 : Int32)), (3, .int (17 : Int32)), (2, .ref x1), (1, .ref x1), (0, .ref za)]) hx hb dX12_start_116 hl (by decide) rfl (fun ls hl => ?_)
  refine lv_aload_n hx hb dX12_start_118 rfl (lv_at hl 5 rfl) ?_
  refine fb_get X I (k := 0) (v := .ref (zr 0)) fu_X12 0 fb_h12 rfl (Nat.le_of_ble_eq_true rfl) fw_1964 rfl rfl dX12_start_119 ?_
  refine lv_iload hx hb dX12_start_122 (lv_at hl 0 rfl) ?_
  refine lv_iconst (v := (0 : Int32)) hx hb dX12_start_124 (by decide) ?_
  refine fb_isC (n := 1) (wn := ([fb_o12 za zr ze, fb_aw cI (zr 0) 16205 (upd (upd zm 0 (0 : Int32)) 1 (0 : Int32)), fb_aw cI x1 17 (upd (upd (upd (upd (upd (upd (upd (upd (upd (upd (upd (upd (upd (upd (upd (upd (upd (fun _ => 0) 0 (0 : Int32)) 1 (1 : Int32)) 2 (5 : Int32)) 3 (6 : Int32)) 4 (7 : Int32)) 5 (8 : Int32)) 6 (9 : Int32)) 7 (10 : Int32)) 8 (11 : Int32)) 9 (12 : Int32)) 10 (13 : Int32)) 11 (14 : Int32)) 12 (16 : Int32)) 13 (17 : Int32)) 14 (18 : Int32)) 15 (19 : Int32)) 16 (20 : Int32))] : List va_W).flatten) X I 1 0 rfl rfl (by decide) (by decide) (Nat.le_of_ble_eq_true rfl) rfl dX12_start_125 (fun H locs I => ?_)
  refine lv_iinc (v := (2 : Int32)) (lv' := [(4, .int (2 : Int32)), (5, .int (1 : Int32)), (3, .int (17 : Int32)), (2, .ref x1), (1, .ref x1), (0, .ref za)]) hx hb dX12_start_126 hl (k := 1) rfl (by decide) (by decide) rfl (fun ls hl => ?_)
  refine lv_goto (tgt := 106) hx hb dX12_start_129 (by decide) ?_
  refine lv_iload hx hb dX12_start_106 (lv_at hl 0 rfl) ?_
  refine lv_iload_n hx hb dX12_start_108 rfl (lv_at hl 2 rfl) ?_
  refine lv_icmp_ge (tgt := 132) hx hb dX12_start_109 (by decide) (fun c4 => absurd c4 (by decide)) (fun _ => ?_)
  refine lv_aload_n hx hb dX12_start_112 rfl (lv_at hl 3 rfl) ?_
  refine lv_iload hx hb dX12_start_113 (lv_at hl 0 rfl) ?_
  refine fb_iaC (n := 2) (v := (5 : Int32)) X I 2 0 rfl rfl (by decide) (by decide) (Nat.le_of_ble_eq_true rfl) ((pk_un (by decide)).trans ((pk_un (by decide)).trans ((pk_un (by decide)).trans ((pk_un (by decide)).trans ((pk_un (by decide)).trans ((pk_un (by decide)).trans ((pk_un (by decide)).trans ((pk_un (by decide)).trans ((pk_un (by decide)).trans ((pk_un (by decide)).trans ((pk_un (by decide)).trans ((pk_un (by decide)).trans ((pk_un (by decide)).trans ((pk_un (by decide)).trans pk_us)))))))))))))) dX12_start_115 ?_
  refine lv_istore (lv' := [(5, .int (5 : Int32)), (4, .int (2 : Int32)), (3, .int (17 : Int32)), (2, .ref x1), (1, .ref x1), (0, .ref za)]) hx hb dX12_start_116 hl (by decide) rfl (fun ls hl => ?_)
  refine lv_aload_n hx hb dX12_start_118 rfl (lv_at hl 5 rfl) ?_
  refine fb_get X I (k := 0) (v := .ref (zr 0)) fu_X12 0 fb_h12 rfl (Nat.le_of_ble_eq_true rfl) fw_1964 rfl rfl dX12_start_119 ?_
  refine lv_iload hx hb dX12_start_122 (lv_at hl 0 rfl) ?_
  refine lv_iconst (v := (0 : Int32)) hx hb dX12_start_124 (by decide) ?_
  refine fb_isC (n := 5) (wn := ([fb_o12 za zr ze, fb_aw cI (zr 0) 16205 (upd (upd (upd zm 0 (0 : Int32)) 1 (0 : Int32)) 5 (0 : Int32)), fb_aw cI x1 17 (upd (upd (upd (upd (upd (upd (upd (upd (upd (upd (upd (upd (upd (upd (upd (upd (upd (fun _ => 0) 0 (0 : Int32)) 1 (1 : Int32)) 2 (5 : Int32)) 3 (6 : Int32)) 4 (7 : Int32)) 5 (8 : Int32)) 6 (9 : Int32)) 7 (10 : Int32)) 8 (11 : Int32)) 9 (12 : Int32)) 10 (13 : Int32)) 11 (14 : Int32)) 12 (16 : Int32)) 13 (17 : Int32)) 14 (18 : Int32)) 15 (19 : Int32)) 16 (20 : Int32))] : List va_W).flatten) X I 1 0 rfl rfl (by decide) (by decide) (Nat.le_of_ble_eq_true rfl) rfl dX12_start_125 (fun H locs I => ?_)
  refine lv_iinc (v := (3 : Int32)) (lv' := [(4, .int (3 : Int32)), (5, .int (5 : Int32)), (3, .int (17 : Int32)), (2, .ref x1), (1, .ref x1), (0, .ref za)]) hx hb dX12_start_126 hl (k := 1) rfl (by decide) (by decide) rfl (fun ls hl => ?_)
  refine lv_goto (tgt := 106) hx hb dX12_start_129 (by decide) ?_
  refine lv_iload hx hb dX12_start_106 (lv_at hl 0 rfl) ?_
  refine lv_iload_n hx hb dX12_start_108 rfl (lv_at hl 2 rfl) ?_
  refine lv_icmp_ge (tgt := 132) hx hb dX12_start_109 (by decide) (fun c5 => absurd c5 (by decide)) (fun _ => ?_)
  refine lv_aload_n hx hb dX12_start_112 rfl (lv_at hl 3 rfl) ?_
  refine lv_iload hx hb dX12_start_113 (lv_at hl 0 rfl) ?_
  refine fb_iaC (n := 3) (v := (6 : Int32)) X I 2 0 rfl rfl (by decide) (by decide) (Nat.le_of_ble_eq_true rfl) ((pk_un (by decide)).trans ((pk_un (by decide)).trans ((pk_un (by decide)).trans ((pk_un (by decide)).trans ((pk_un (by decide)).trans ((pk_un (by decide)).trans ((pk_un (by decide)).trans ((pk_un (by decide)).trans ((pk_un (by decide)).trans ((pk_un (by decide)).trans ((pk_un (by decide)).trans ((pk_un (by decide)).trans ((pk_un (by decide)).trans pk_us))))))))))))) dX12_start_115 ?_
  refine lv_istore (lv' := [(5, .int (6 : Int32)), (4, .int (3 : Int32)), (3, .int (17 : Int32)), (2, .ref x1), (1, .ref x1), (0, .ref za)]) hx hb dX12_start_116 hl (by decide) rfl (fun ls hl => ?_)
  refine lv_aload_n hx hb dX12_start_118 rfl (lv_at hl 5 rfl) ?_
  refine fb_get X I (k := 0) (v := .ref (zr 0)) fu_X12 0 fb_h12 rfl (Nat.le_of_ble_eq_true rfl) fw_1964 rfl rfl dX12_start_119 ?_
  refine lv_iload hx hb dX12_start_122 (lv_at hl 0 rfl) ?_
  refine lv_iconst (v := (0 : Int32)) hx hb dX12_start_124 (by decide) ?_
  refine fb_isC (n := 6) (wn := ([fb_o12 za zr ze, fb_aw cI (zr 0) 16205 (upd (upd (upd (upd zm 0 (0 : Int32)) 1 (0 : Int32)) 5 (0 : Int32)) 6 (0 : Int32)), fb_aw cI x1 17 (upd (upd (upd (upd (upd (upd (upd (upd (upd (upd (upd (upd (upd (upd (upd (upd (upd (fun _ => 0) 0 (0 : Int32)) 1 (1 : Int32)) 2 (5 : Int32)) 3 (6 : Int32)) 4 (7 : Int32)) 5 (8 : Int32)) 6 (9 : Int32)) 7 (10 : Int32)) 8 (11 : Int32)) 9 (12 : Int32)) 10 (13 : Int32)) 11 (14 : Int32)) 12 (16 : Int32)) 13 (17 : Int32)) 14 (18 : Int32)) 15 (19 : Int32)) 16 (20 : Int32))] : List va_W).flatten) X I 1 0 rfl rfl (by decide) (by decide) (Nat.le_of_ble_eq_true rfl) rfl dX12_start_125 (fun H locs I => ?_)
  refine lv_iinc (v := (4 : Int32)) (lv' := [(4, .int (4 : Int32)), (5, .int (6 : Int32)), (3, .int (17 : Int32)), (2, .ref x1), (1, .ref x1), (0, .ref za)]) hx hb dX12_start_126 hl (k := 1) rfl (by decide) (by decide) rfl (fun ls hl => ?_)
  refine lv_goto (tgt := 106) hx hb dX12_start_129 (by decide) ?_
  refine lv_iload hx hb dX12_start_106 (lv_at hl 0 rfl) ?_
  refine lv_iload_n hx hb dX12_start_108 rfl (lv_at hl 2 rfl) ?_
  refine lv_icmp_ge (tgt := 132) hx hb dX12_start_109 (by decide) (fun c6 => absurd c6 (by decide)) (fun _ => ?_)
  refine lv_aload_n hx hb dX12_start_112 rfl (lv_at hl 3 rfl) ?_
  refine lv_iload hx hb dX12_start_113 (lv_at hl 0 rfl) ?_
  refine fb_iaC (n := 4) (v := (7 : Int32)) X I 2 0 rfl rfl (by decide) (by decide) (Nat.le_of_ble_eq_true rfl) ((pk_un (by decide)).trans ((pk_un (by decide)).trans ((pk_un (by decide)).trans ((pk_un (by decide)).trans ((pk_un (by decide)).trans ((pk_un (by decide)).trans ((pk_un (by decide)).trans ((pk_un (by decide)).trans ((pk_un (by decide)).trans ((pk_un (by decide)).trans ((pk_un (by decide)).trans ((pk_un (by decide)).trans pk_us)))))))))))) dX12_start_115 ?_
  refine lv_istore (lv' := [(5, .int (7 : Int32)), (4, .int (4 : Int32)), (3, .int (17 : Int32)), (2, .ref x1), (1, .ref x1), (0, .ref za)]) hx hb dX12_start_116 hl (by decide) rfl (fun ls hl => ?_)
  refine lv_aload_n hx hb dX12_start_118 rfl (lv_at hl 5 rfl) ?_
  refine fb_get X I (k := 0) (v := .ref (zr 0)) fu_X12 0 fb_h12 rfl (Nat.le_of_ble_eq_true rfl) fw_1964 rfl rfl dX12_start_119 ?_
  refine lv_iload hx hb dX12_start_122 (lv_at hl 0 rfl) ?_
  refine lv_iconst (v := (0 : Int32)) hx hb dX12_start_124 (by decide) ?_
  refine fb_isC (n := 7) (wn := ([fb_o12 za zr ze, fb_aw cI (zr 0) 16205 (upd (upd (upd (upd (upd zm 0 (0 : Int32)) 1 (0 : Int32)) 5 (0 : Int32)) 6 (0 : Int32)) 7 (0 : Int32)), fb_aw cI x1 17 (upd (upd (upd (upd (upd (upd (upd (upd (upd (upd (upd (upd (upd (upd (upd (upd (upd (fun _ => 0) 0 (0 : Int32)) 1 (1 : Int32)) 2 (5 : Int32)) 3 (6 : Int32)) 4 (7 : Int32)) 5 (8 : Int32)) 6 (9 : Int32)) 7 (10 : Int32)) 8 (11 : Int32)) 9 (12 : Int32)) 10 (13 : Int32)) 11 (14 : Int32)) 12 (16 : Int32)) 13 (17 : Int32)) 14 (18 : Int32)) 15 (19 : Int32)) 16 (20 : Int32))] : List va_W).flatten) X I 1 0 rfl rfl (by decide) (by decide) (Nat.le_of_ble_eq_true rfl) rfl dX12_start_125 (fun H locs I => ?_)
  refine lv_iinc (v := (5 : Int32)) (lv' := [(4, .int (5 : Int32)), (5, .int (7 : Int32)), (3, .int (17 : Int32)), (2, .ref x1), (1, .ref x1), (0, .ref za)]) hx hb dX12_start_126 hl (k := 1) rfl (by decide) (by decide) rfl (fun ls hl => ?_)
  refine lv_goto (tgt := 106) hx hb dX12_start_129 (by decide) ?_
  refine lv_iload hx hb dX12_start_106 (lv_at hl 0 rfl) ?_
  refine lv_iload_n hx hb dX12_start_108 rfl (lv_at hl 2 rfl) ?_
  refine lv_icmp_ge (tgt := 132) hx hb dX12_start_109 (by decide) (fun c7 => absurd c7 (by decide)) (fun _ => ?_)
  refine lv_aload_n hx hb dX12_start_112 rfl (lv_at hl 3 rfl) ?_
  refine lv_iload hx hb dX12_start_113 (lv_at hl 0 rfl) ?_
  refine fb_iaC (n := 5) (v := (8 : Int32)) X I 2 0 rfl rfl (by decide) (by decide) (Nat.le_of_ble_eq_true rfl) ((pk_un (by decide)).trans ((pk_un (by decide)).trans ((pk_un (by decide)).trans ((pk_un (by decide)).trans ((pk_un (by decide)).trans ((pk_un (by decide)).trans ((pk_un (by decide)).trans ((pk_un (by decide)).trans ((pk_un (by decide)).trans ((pk_un (by decide)).trans ((pk_un (by decide)).trans pk_us))))))))))) dX12_start_115 ?_
  refine lv_istore (lv' := [(5, .int (8 : Int32)), (4, .int (5 : Int32)), (3, .int (17 : Int32)), (2, .ref x1), (1, .ref x1), (0, .ref za)]) hx hb dX12_start_116 hl (by decide) rfl (fun ls hl => ?_)
  refine lv_aload_n hx hb dX12_start_118 rfl (lv_at hl 5 rfl) ?_
  refine fb_get X I (k := 0) (v := .ref (zr 0)) fu_X12 0 fb_h12 rfl (Nat.le_of_ble_eq_true rfl) fw_1964 rfl rfl dX12_start_119 ?_
  refine lv_iload hx hb dX12_start_122 (lv_at hl 0 rfl) ?_
  refine lv_iconst (v := (0 : Int32)) hx hb dX12_start_124 (by decide) ?_
  refine fb_isC (n := 8) (wn := ([fb_o12 za zr ze, fb_aw cI (zr 0) 16205 (upd (upd (upd (upd (upd (upd zm 0 (0 : Int32)) 1 (0 : Int32)) 5 (0 : Int32)) 6 (0 : Int32)) 7 (0 : Int32)) 8 (0 : Int32)), fb_aw cI x1 17 (upd (upd (upd (upd (upd (upd (upd (upd (upd (upd (upd (upd (upd (upd (upd (upd (upd (fun _ => 0) 0 (0 : Int32)) 1 (1 : Int32)) 2 (5 : Int32)) 3 (6 : Int32)) 4 (7 : Int32)) 5 (8 : Int32)) 6 (9 : Int32)) 7 (10 : Int32)) 8 (11 : Int32)) 9 (12 : Int32)) 10 (13 : Int32)) 11 (14 : Int32)) 12 (16 : Int32)) 13 (17 : Int32)) 14 (18 : Int32)) 15 (19 : Int32)) 16 (20 : Int32))] : List va_W).flatten) X I 1 0 rfl rfl (by decide) (by decide) (Nat.le_of_ble_eq_true rfl) rfl dX12_start_125 (fun H locs I => ?_)
  refine lv_iinc (v := (6 : Int32)) (lv' := [(4, .int (6 : Int32)), (5, .int (8 : Int32)), (3, .int (17 : Int32)), (2, .ref x1), (1, .ref x1), (0, .ref za)]) hx hb dX12_start_126 hl (k := 1) rfl (by decide) (by decide) rfl (fun ls hl => ?_)
  refine lv_goto (tgt := 106) hx hb dX12_start_129 (by decide) ?_
  refine lv_iload hx hb dX12_start_106 (lv_at hl 0 rfl) ?_
  refine lv_iload_n hx hb dX12_start_108 rfl (lv_at hl 2 rfl) ?_
  refine lv_icmp_ge (tgt := 132) hx hb dX12_start_109 (by decide) (fun c8 => absurd c8 (by decide)) (fun _ => ?_)
  refine lv_aload_n hx hb dX12_start_112 rfl (lv_at hl 3 rfl) ?_
  refine lv_iload hx hb dX12_start_113 (lv_at hl 0 rfl) ?_
  refine fb_iaC (n := 6) (v := (9 : Int32)) X I 2 0 rfl rfl (by decide) (by decide) (Nat.le_of_ble_eq_true rfl) ((pk_un (by decide)).trans ((pk_un (by decide)).trans ((pk_un (by decide)).trans ((pk_un (by decide)).trans ((pk_un (by decide)).trans ((pk_un (by decide)).trans ((pk_un (by decide)).trans ((pk_un (by decide)).trans ((pk_un (by decide)).trans ((pk_un (by decide)).trans pk_us)))))))))) dX12_start_115 ?_
  refine lv_istore (lv' := [(5, .int (9 : Int32)), (4, .int (6 : Int32)), (3, .int (17 : Int32)), (2, .ref x1), (1, .ref x1), (0, .ref za)]) hx hb dX12_start_116 hl (by decide) rfl (fun ls hl => ?_)
  refine lv_aload_n hx hb dX12_start_118 rfl (lv_at hl 5 rfl) ?_
  refine fb_get X I (k := 0) (v := .ref (zr 0)) fu_X12 0 fb_h12 rfl (Nat.le_of_ble_eq_true rfl) fw_1964 rfl rfl dX12_start_119 ?_
  refine lv_iload hx hb dX12_start_122 (lv_at hl 0 rfl) ?_
  refine lv_iconst (v := (0 : Int32)) hx hb dX12_start_124 (by decide) ?_
  refine fb_isC (n := 9) (wn := ([fb_o12 za zr ze, fb_aw cI (zr 0) 16205 (upd (upd (upd (upd (upd (upd (upd zm 0 (0 : Int32)) 1 (0 : Int32)) 5 (0 : Int32)) 6 (0 : Int32)) 7 (0 : Int32)) 8 (0 : Int32)) 9 (0 : Int32)), fb_aw cI x1 17 (upd (upd (upd (upd (upd (upd (upd (upd (upd (upd (upd (upd (upd (upd (upd (upd (upd (fun _ => 0) 0 (0 : Int32)) 1 (1 : Int32)) 2 (5 : Int32)) 3 (6 : Int32)) 4 (7 : Int32)) 5 (8 : Int32)) 6 (9 : Int32)) 7 (10 : Int32)) 8 (11 : Int32)) 9 (12 : Int32)) 10 (13 : Int32)) 11 (14 : Int32)) 12 (16 : Int32)) 13 (17 : Int32)) 14 (18 : Int32)) 15 (19 : Int32)) 16 (20 : Int32))] : List va_W).flatten) X I 1 0 rfl rfl (by decide) (by decide) (Nat.le_of_ble_eq_true rfl) rfl dX12_start_125 (fun H locs I => ?_)
  refine lv_iinc (v := (7 : Int32)) (lv' := [(4, .int (7 : Int32)), (5, .int (9 : Int32)), (3, .int (17 : Int32)), (2, .ref x1), (1, .ref x1), (0, .ref za)]) hx hb dX12_start_126 hl (k := 1) rfl (by decide) (by decide) rfl (fun ls hl => ?_)
  refine lv_goto (tgt := 106) hx hb dX12_start_129 (by decide) ?_
  refine lv_iload hx hb dX12_start_106 (lv_at hl 0 rfl) ?_
  refine lv_iload_n hx hb dX12_start_108 rfl (lv_at hl 2 rfl) ?_
  refine lv_icmp_ge (tgt := 132) hx hb dX12_start_109 (by decide) (fun c9 => absurd c9 (by decide)) (fun _ => ?_)
  refine lv_aload_n hx hb dX12_start_112 rfl (lv_at hl 3 rfl) ?_
  refine lv_iload hx hb dX12_start_113 (lv_at hl 0 rfl) ?_
  refine fb_iaC (n := 7) (v := (10 : Int32)) X I 2 0 rfl rfl (by decide) (by decide) (Nat.le_of_ble_eq_true rfl) ((pk_un (by decide)).trans ((pk_un (by decide)).trans ((pk_un (by decide)).trans ((pk_un (by decide)).trans ((pk_un (by decide)).trans ((pk_un (by decide)).trans ((pk_un (by decide)).trans ((pk_un (by decide)).trans ((pk_un (by decide)).trans pk_us))))))))) dX12_start_115 ?_
  refine lv_istore (lv' := [(5, .int (10 : Int32)), (4, .int (7 : Int32)), (3, .int (17 : Int32)), (2, .ref x1), (1, .ref x1), (0, .ref za)]) hx hb dX12_start_116 hl (by decide) rfl (fun ls hl => ?_)
  refine lv_aload_n hx hb dX12_start_118 rfl (lv_at hl 5 rfl) ?_
  refine fb_get X I (k := 0) (v := .ref (zr 0)) fu_X12 0 fb_h12 rfl (Nat.le_of_ble_eq_true rfl) fw_1964 rfl rfl dX12_start_119 ?_
  refine lv_iload hx hb dX12_start_122 (lv_at hl 0 rfl) ?_
  refine lv_iconst (v := (0 : Int32)) hx hb dX12_start_124 (by decide) ?_
  refine fb_isC (n := 10) (wn := ([fb_o12 za zr ze, fb_aw cI (zr 0) 16205 (upd (upd (upd (upd (upd (upd (upd (upd zm 0 (0 : Int32)) 1 (0 : Int32)) 5 (0 : Int32)) 6 (0 : Int32)) 7 (0 : Int32)) 8 (0 : Int32)) 9 (0 : Int32)) 10 (0 : Int32)), fb_aw cI x1 17 (upd (upd (upd (upd (upd (upd (upd (upd (upd (upd (upd (upd (upd (upd (upd (upd (upd (fun _ => 0) 0 (0 : Int32)) 1 (1 : Int32)) 2 (5 : Int32)) 3 (6 : Int32)) 4 (7 : Int32)) 5 (8 : Int32)) 6 (9 : Int32)) 7 (10 : Int32)) 8 (11 : Int32)) 9 (12 : Int32)) 10 (13 : Int32)) 11 (14 : Int32)) 12 (16 : Int32)) 13 (17 : Int32)) 14 (18 : Int32)) 15 (19 : Int32)) 16 (20 : Int32))] : List va_W).flatten) X I 1 0 rfl rfl (by decide) (by decide) (Nat.le_of_ble_eq_true rfl) rfl dX12_start_125 (fun H locs I => ?_)
  refine lv_iinc (v := (8 : Int32)) (lv' := [(4, .int (8 : Int32)), (5, .int (10 : Int32)), (3, .int (17 : Int32)), (2, .ref x1), (1, .ref x1), (0, .ref za)]) hx hb dX12_start_126 hl (k := 1) rfl (by decide) (by decide) rfl (fun ls hl => ?_)
  refine lv_goto (tgt := 106) hx hb dX12_start_129 (by decide) ?_
  refine lv_iload hx hb dX12_start_106 (lv_at hl 0 rfl) ?_
  refine lv_iload_n hx hb dX12_start_108 rfl (lv_at hl 2 rfl) ?_
  refine lv_icmp_ge (tgt := 132) hx hb dX12_start_109 (by decide) (fun c10 => absurd c10 (by decide)) (fun _ => ?_)
  refine lv_aload_n hx hb dX12_start_112 rfl (lv_at hl 3 rfl) ?_
  refine lv_iload hx hb dX12_start_113 (lv_at hl 0 rfl) ?_
  refine fb_iaC (n := 8) (v := (11 : Int32)) X I 2 0 rfl rfl (by decide) (by decide) (Nat.le_of_ble_eq_true rfl) ((pk_un (by decide)).trans ((pk_un (by decide)).trans ((pk_un (by decide)).trans ((pk_un (by decide)).trans ((pk_un (by decide)).trans ((pk_un (by decide)).trans ((pk_un (by decide)).trans ((pk_un (by decide)).trans pk_us)))))))) dX12_start_115 ?_
  refine lv_istore (lv' := [(5, .int (11 : Int32)), (4, .int (8 : Int32)), (3, .int (17 : Int32)), (2, .ref x1), (1, .ref x1), (0, .ref za)]) hx hb dX12_start_116 hl (by decide) rfl (fun ls hl => ?_)
  refine lv_aload_n hx hb dX12_start_118 rfl (lv_at hl 5 rfl) ?_
  refine fb_get X I (k := 0) (v := .ref (zr 0)) fu_X12 0 fb_h12 rfl (Nat.le_of_ble_eq_true rfl) fw_1964 rfl rfl dX12_start_119 ?_
  refine lv_iload hx hb dX12_start_122 (lv_at hl 0 rfl) ?_
  refine lv_iconst (v := (0 : Int32)) hx hb dX12_start_124 (by decide) ?_
  refine fb_isC (n := 11) (wn := ([fb_o12 za zr ze, fb_aw cI (zr 0) 16205 (upd (upd (upd (upd (upd (upd (upd (upd (upd zm 0 (0 : Int32)) 1 (0 : Int32)) 5 (0 : Int32)) 6 (0 : Int32)) 7 (0 : Int32)) 8 (0 : Int32)) 9 (0 : Int32)) 10 (0 : Int32)) 11 (0 : Int32)), fb_aw cI x1 17 (upd (upd (upd (upd (upd (upd (upd (upd (upd (upd (upd (upd (upd (upd (upd (upd (upd (fun _ => 0) 0 (0 : Int32)) 1 (1 : Int32)) 2 (5 : Int32)) 3 (6 : Int32)) 4 (7 : Int32)) 5 (8 : Int32)) 6 (9 : Int32)) 7 (10 : Int32)) 8 (11 : Int32)) 9 (12 : Int32)) 10 (13 : Int32)) 11 (14 : Int32)) 12 (16 : Int32)) 13 (17 : Int32)) 14 (18 : Int32)) 15 (19 : Int32)) 16 (20 : Int32))] : List va_W).flatten) X I 1 0 rfl rfl (by decide) (by decide) (Nat.le_of_ble_eq_true rfl) rfl dX12_start_125 (fun H locs I => ?_)
  refine lv_iinc (v := (9 : Int32)) (lv' := [(4, .int (9 : Int32)), (5, .int (11 : Int32)), (3, .int (17 : Int32)), (2, .ref x1), (1, .ref x1), (0, .ref za)]) hx hb dX12_start_126 hl (k := 1) rfl (by decide) (by decide) rfl (fun ls hl => ?_)
  refine lv_goto (tgt := 106) hx hb dX12_start_129 (by decide) ?_
  refine lv_iload hx hb dX12_start_106 (lv_at hl 0 rfl) ?_
  refine lv_iload_n hx hb dX12_start_108 rfl (lv_at hl 2 rfl) ?_
  refine lv_icmp_ge (tgt := 132) hx hb dX12_start_109 (by decide) (fun c11 => absurd c11 (by decide)) (fun _ => ?_)
  refine lv_aload_n hx hb dX12_start_112 rfl (lv_at hl 3 rfl) ?_
  refine lv_iload hx hb dX12_start_113 (lv_at hl 0 rfl) ?_
  refine fb_iaC (n := 9) (v := (12 : Int32)) X I 2 0 rfl rfl (by decide) (by decide) (Nat.le_of_ble_eq_true rfl) ((pk_un (by decide)).trans ((pk_un (by decide)).trans ((pk_un (by decide)).trans ((pk_un (by decide)).trans ((pk_un (by decide)).trans ((pk_un (by decide)).trans ((pk_un (by decide)).trans pk_us))))))) dX12_start_115 ?_
  refine lv_istore (lv' := [(5, .int (12 : Int32)), (4, .int (9 : Int32)), (3, .int (17 : Int32)), (2, .ref x1), (1, .ref x1), (0, .ref za)]) hx hb dX12_start_116 hl (by decide) rfl (fun ls hl => ?_)
  refine lv_aload_n hx hb dX12_start_118 rfl (lv_at hl 5 rfl) ?_
  refine fb_get X I (k := 0) (v := .ref (zr 0)) fu_X12 0 fb_h12 rfl (Nat.le_of_ble_eq_true rfl) fw_1964 rfl rfl dX12_start_119 ?_
  refine lv_iload hx hb dX12_start_122 (lv_at hl 0 rfl) ?_
  refine lv_iconst (v := (0 : Int32)) hx hb dX12_start_124 (by decide) ?_
  refine fb_isC (n := 12) (wn := ([fb_o12 za zr ze, fb_aw cI (zr 0) 16205 (upd (upd (upd (upd (upd (upd (upd (upd (upd (upd zm 0 (0 : Int32)) 1 (0 : Int32)) 5 (0 : Int32)) 6 (0 : Int32)) 7 (0 : Int32)) 8 (0 : Int32)) 9 (0 : Int32)) 10 (0 : Int32)) 11 (0 : Int32)) 12 (0 : Int32)), fb_aw cI x1 17 (upd (upd (upd (upd (upd (upd (upd (upd (upd (upd (upd (upd (upd (upd (upd (upd (upd (fun _ => 0) 0 (0 : Int32)) 1 (1 : Int32)) 2 (5 : Int32)) 3 (6 : Int32)) 4 (7 : Int32)) 5 (8 : Int32)) 6 (9 : Int32)) 7 (10 : Int32)) 8 (11 : Int32)) 9 (12 : Int32)) 10 (13 : Int32)) 11 (14 : Int32)) 12 (16 : Int32)) 13 (17 : Int32)) 14 (18 : Int32)) 15 (19 : Int32)) 16 (20 : Int32))] : List va_W).flatten) X I 1 0 rfl rfl (by decide) (by decide) (Nat.le_of_ble_eq_true rfl) rfl dX12_start_125 (fun H locs I => ?_)
  refine lv_iinc (v := (10 : Int32)) (lv' := [(4, .int (10 : Int32)), (5, .int (12 : Int32)), (3, .int (17 : Int32)), (2, .ref x1), (1, .ref x1), (0, .ref za)]) hx hb dX12_start_126 hl (k := 1) rfl (by decide) (by decide) rfl (fun ls hl => ?_)
  refine lv_goto (tgt := 106) hx hb dX12_start_129 (by decide) ?_
  refine lv_iload hx hb dX12_start_106 (lv_at hl 0 rfl) ?_
  refine lv_iload_n hx hb dX12_start_108 rfl (lv_at hl 2 rfl) ?_
  refine lv_icmp_ge (tgt := 132) hx hb dX12_start_109 (by decide) (fun c12 => absurd c12 (by decide)) (fun _ => ?_)
  refine lv_aload_n hx hb dX12_start_112 rfl (lv_at hl 3 rfl) ?_
  refine lv_iload hx hb dX12_start_113 (lv_at hl 0 rfl) ?_
  refine fb_iaC (n := 10) (v := (13 : Int32)) X I 2 0 rfl rfl (by decide) (by decide) (Nat.le_of_ble_eq_true rfl) ((pk_un (by decide)).trans ((pk_un (by decide)).trans ((pk_un (by decide)).trans ((pk_un (by decide)).trans ((pk_un (by decide)).trans ((pk_un (by decide)).trans pk_us)))))) dX12_start_115 ?_
  refine lv_istore (lv' := [(5, .int (13 : Int32)), (4, .int (10 : Int32)), (3, .int (17 : Int32)), (2, .ref x1), (1, .ref x1), (0, .ref za)]) hx hb dX12_start_116 hl (by decide) rfl (fun ls hl => ?_)
  refine lv_aload_n hx hb dX12_start_118 rfl (lv_at hl 5 rfl) ?_
  refine fb_get X I (k := 0) (v := .ref (zr 0)) fu_X12 0 fb_h12 rfl (Nat.le_of_ble_eq_true rfl) fw_1964 rfl rfl dX12_start_119 ?_
  refine lv_iload hx hb dX12_start_122 (lv_at hl 0 rfl) ?_
  refine lv_iconst (v := (0 : Int32)) hx hb dX12_start_124 (by decide) ?_
  refine fb_isC (n := 13) (wn := ([fb_o12 za zr ze, fb_aw cI (zr 0) 16205 (upd (upd (upd (upd (upd (upd (upd (upd (upd (upd (upd zm 0 (0 : Int32)) 1 (0 : Int32)) 5 (0 : Int32)) 6 (0 : Int32)) 7 (0 : Int32)) 8 (0 : Int32)) 9 (0 : Int32)) 10 (0 : Int32)) 11 (0 : Int32)) 12 (0 : Int32)) 13 (0 : Int32)), fb_aw cI x1 17 (upd (upd (upd (upd (upd (upd (upd (upd (upd (upd (upd (upd (upd (upd (upd (upd (upd (fun _ => 0) 0 (0 : Int32)) 1 (1 : Int32)) 2 (5 : Int32)) 3 (6 : Int32)) 4 (7 : Int32)) 5 (8 : Int32)) 6 (9 : Int32)) 7 (10 : Int32)) 8 (11 : Int32)) 9 (12 : Int32)) 10 (13 : Int32)) 11 (14 : Int32)) 12 (16 : Int32)) 13 (17 : Int32)) 14 (18 : Int32)) 15 (19 : Int32)) 16 (20 : Int32))] : List va_W).flatten) X I 1 0 rfl rfl (by decide) (by decide) (Nat.le_of_ble_eq_true rfl) rfl dX12_start_125 (fun H locs I => ?_)
  refine lv_iinc (v := (11 : Int32)) (lv' := [(4, .int (11 : Int32)), (5, .int (13 : Int32)), (3, .int (17 : Int32)), (2, .ref x1), (1, .ref x1), (0, .ref za)]) hx hb dX12_start_126 hl (k := 1) rfl (by decide) (by decide) rfl (fun ls hl => ?_)
  refine lv_goto (tgt := 106) hx hb dX12_start_129 (by decide) ?_
  refine lv_iload hx hb dX12_start_106 (lv_at hl 0 rfl) ?_
  refine lv_iload_n hx hb dX12_start_108 rfl (lv_at hl 2 rfl) ?_
  refine lv_icmp_ge (tgt := 132) hx hb dX12_start_109 (by decide) (fun c13 => absurd c13 (by decide)) (fun _ => ?_)
  refine lv_aload_n hx hb dX12_start_112 rfl (lv_at hl 3 rfl) ?_
  refine lv_iload hx hb dX12_start_113 (lv_at hl 0 rfl) ?_
  refine fb_iaC (n := 11) (v := (14 : Int32)) X I 2 0 rfl rfl (by decide) (by decide) (Nat.le_of_ble_eq_true rfl) ((pk_un (by decide)).trans ((pk_un (by decide)).trans ((pk_un (by decide)).trans ((pk_un (by decide)).trans ((pk_un (by decide)).trans pk_us))))) dX12_start_115 ?_
  refine lv_istore (lv' := [(5, .int (14 : Int32)), (4, .int (11 : Int32)), (3, .int (17 : Int32)), (2, .ref x1), (1, .ref x1), (0, .ref za)]) hx hb dX12_start_116 hl (by decide) rfl (fun ls hl => ?_)
  refine lv_aload_n hx hb dX12_start_118 rfl (lv_at hl 5 rfl) ?_
  refine fb_get X I (k := 0) (v := .ref (zr 0)) fu_X12 0 fb_h12 rfl (Nat.le_of_ble_eq_true rfl) fw_1964 rfl rfl dX12_start_119 ?_
  refine lv_iload hx hb dX12_start_122 (lv_at hl 0 rfl) ?_
  refine lv_iconst (v := (0 : Int32)) hx hb dX12_start_124 (by decide) ?_
  refine fb_isC (n := 14) (wn := ([fb_o12 za zr ze, fb_aw cI (zr 0) 16205 (upd (upd (upd (upd (upd (upd (upd (upd (upd (upd (upd (upd zm 0 (0 : Int32)) 1 (0 : Int32)) 5 (0 : Int32)) 6 (0 : Int32)) 7 (0 : Int32)) 8 (0 : Int32)) 9 (0 : Int32)) 10 (0 : Int32)) 11 (0 : Int32)) 12 (0 : Int32)) 13 (0 : Int32)) 14 (0 : Int32)), fb_aw cI x1 17 (upd (upd (upd (upd (upd (upd (upd (upd (upd (upd (upd (upd (upd (upd (upd (upd (upd (fun _ => 0) 0 (0 : Int32)) 1 (1 : Int32)) 2 (5 : Int32)) 3 (6 : Int32)) 4 (7 : Int32)) 5 (8 : Int32)) 6 (9 : Int32)) 7 (10 : Int32)) 8 (11 : Int32)) 9 (12 : Int32)) 10 (13 : Int32)) 11 (14 : Int32)) 12 (16 : Int32)) 13 (17 : Int32)) 14 (18 : Int32)) 15 (19 : Int32)) 16 (20 : Int32))] : List va_W).flatten) X I 1 0 rfl rfl (by decide) (by decide) (Nat.le_of_ble_eq_true rfl) rfl dX12_start_125 (fun H locs I => ?_)
  refine lv_iinc (v := (12 : Int32)) (lv' := [(4, .int (12 : Int32)), (5, .int (14 : Int32)), (3, .int (17 : Int32)), (2, .ref x1), (1, .ref x1), (0, .ref za)]) hx hb dX12_start_126 hl (k := 1) rfl (by decide) (by decide) rfl (fun ls hl => ?_)
  refine lv_goto (tgt := 106) hx hb dX12_start_129 (by decide) ?_
  refine lv_iload hx hb dX12_start_106 (lv_at hl 0 rfl) ?_
  refine lv_iload_n hx hb dX12_start_108 rfl (lv_at hl 2 rfl) ?_
  refine lv_icmp_ge (tgt := 132) hx hb dX12_start_109 (by decide) (fun c14 => absurd c14 (by decide)) (fun _ => ?_)
  refine lv_aload_n hx hb dX12_start_112 rfl (lv_at hl 3 rfl) ?_
  refine lv_iload hx hb dX12_start_113 (lv_at hl 0 rfl) ?_
  refine fb_iaC (n := 12) (v := (16 : Int32)) X I 2 0 rfl rfl (by decide) (by decide) (Nat.le_of_ble_eq_true rfl) ((pk_un (by decide)).trans ((pk_un (by decide)).trans ((pk_un (by decide)).trans ((pk_un (by decide)).trans pk_us)))) dX12_start_115 ?_
  refine lv_istore (lv' := [(5, .int (16 : Int32)), (4, .int (12 : Int32)), (3, .int (17 : Int32)), (2, .ref x1), (1, .ref x1), (0, .ref za)]) hx hb dX12_start_116 hl (by decide) rfl (fun ls hl => ?_)
  refine lv_aload_n hx hb dX12_start_118 rfl (lv_at hl 5 rfl) ?_
  refine fb_get X I (k := 0) (v := .ref (zr 0)) fu_X12 0 fb_h12 rfl (Nat.le_of_ble_eq_true rfl) fw_1964 rfl rfl dX12_start_119 ?_
  refine lv_iload hx hb dX12_start_122 (lv_at hl 0 rfl) ?_
  refine lv_iconst (v := (0 : Int32)) hx hb dX12_start_124 (by decide) ?_
  refine fb_isC (n := 16) (wn := ([fb_o12 za zr ze, fb_aw cI (zr 0) 16205 (upd (upd (upd (upd (upd (upd (upd (upd (upd (upd (upd (upd (upd zm 0 (0 : Int32)) 1 (0 : Int32)) 5 (0 : Int32)) 6 (0 : Int32)) 7 (0 : Int32)) 8 (0 : Int32)) 9 (0 : Int32)) 10 (0 : Int32)) 11 (0 : Int32)) 12 (0 : Int32)) 13 (0 : Int32)) 14 (0 : Int32)) 16 (0 : Int32)), fb_aw cI x1 17 (upd (upd (upd (upd (upd (upd (upd (upd (upd (upd (upd (upd (upd (upd (upd (upd (upd (fun _ => 0) 0 (0 : Int32)) 1 (1 : Int32)) 2 (5 : Int32)) 3 (6 : Int32)) 4 (7 : Int32)) 5 (8 : Int32)) 6 (9 : Int32)) 7 (10 : Int32)) 8 (11 : Int32)) 9 (12 : Int32)) 10 (13 : Int32)) 11 (14 : Int32)) 12 (16 : Int32)) 13 (17 : Int32)) 14 (18 : Int32)) 15 (19 : Int32)) 16 (20 : Int32))] : List va_W).flatten) X I 1 0 rfl rfl (by decide) (by decide) (Nat.le_of_ble_eq_true rfl) rfl dX12_start_125 (fun H locs I => ?_)
  refine lv_iinc (v := (13 : Int32)) (lv' := [(4, .int (13 : Int32)), (5, .int (16 : Int32)), (3, .int (17 : Int32)), (2, .ref x1), (1, .ref x1), (0, .ref za)]) hx hb dX12_start_126 hl (k := 1) rfl (by decide) (by decide) rfl (fun ls hl => ?_)
  refine lv_goto (tgt := 106) hx hb dX12_start_129 (by decide) ?_
  refine lv_iload hx hb dX12_start_106 (lv_at hl 0 rfl) ?_
  refine lv_iload_n hx hb dX12_start_108 rfl (lv_at hl 2 rfl) ?_
  refine lv_icmp_ge (tgt := 132) hx hb dX12_start_109 (by decide) (fun c15 => absurd c15 (by decide)) (fun _ => ?_)
  refine lv_aload_n hx hb dX12_start_112 rfl (lv_at hl 3 rfl) ?_
  refine lv_iload hx hb dX12_start_113 (lv_at hl 0 rfl) ?_
  refine fb_iaC (n := 13) (v := (17 : Int32)) X I 2 0 rfl rfl (by decide) (by decide) (Nat.le_of_ble_eq_true rfl) ((pk_un (by decide)).trans ((pk_un (by decide)).trans ((pk_un (by decide)).trans pk_us))) dX12_start_115 ?_
  refine lv_istore (lv' := [(5, .int (17 : Int32)), (4, .int (13 : Int32)), (3, .int (17 : Int32)), (2, .ref x1), (1, .ref x1), (0, .ref za)]) hx hb dX12_start_116 hl (by decide) rfl (fun ls hl => ?_)
  refine lv_aload_n hx hb dX12_start_118 rfl (lv_at hl 5 rfl) ?_
  refine fb_get X I (k := 0) (v := .ref (zr 0)) fu_X12 0 fb_h12 rfl (Nat.le_of_ble_eq_true rfl) fw_1964 rfl rfl dX12_start_119 ?_
  refine lv_iload hx hb dX12_start_122 (lv_at hl 0 rfl) ?_
  refine lv_iconst (v := (0 : Int32)) hx hb dX12_start_124 (by decide) ?_
  refine fb_isC (n := 17) (wn := ([fb_o12 za zr ze, fb_aw cI (zr 0) 16205 (upd (upd (upd (upd (upd (upd (upd (upd (upd (upd (upd (upd (upd (upd zm 0 (0 : Int32)) 1 (0 : Int32)) 5 (0 : Int32)) 6 (0 : Int32)) 7 (0 : Int32)) 8 (0 : Int32)) 9 (0 : Int32)) 10 (0 : Int32)) 11 (0 : Int32)) 12 (0 : Int32)) 13 (0 : Int32)) 14 (0 : Int32)) 16 (0 : Int32)) 17 (0 : Int32)), fb_aw cI x1 17 (upd (upd (upd (upd (upd (upd (upd (upd (upd (upd (upd (upd (upd (upd (upd (upd (upd (fun _ => 0) 0 (0 : Int32)) 1 (1 : Int32)) 2 (5 : Int32)) 3 (6 : Int32)) 4 (7 : Int32)) 5 (8 : Int32)) 6 (9 : Int32)) 7 (10 : Int32)) 8 (11 : Int32)) 9 (12 : Int32)) 10 (13 : Int32)) 11 (14 : Int32)) 12 (16 : Int32)) 13 (17 : Int32)) 14 (18 : Int32)) 15 (19 : Int32)) 16 (20 : Int32))] : List va_W).flatten) X I 1 0 rfl rfl (by decide) (by decide) (Nat.le_of_ble_eq_true rfl) rfl dX12_start_125 (fun H locs I => ?_)
  refine lv_iinc (v := (14 : Int32)) (lv' := [(4, .int (14 : Int32)), (5, .int (17 : Int32)), (3, .int (17 : Int32)), (2, .ref x1), (1, .ref x1), (0, .ref za)]) hx hb dX12_start_126 hl (k := 1) rfl (by decide) (by decide) rfl (fun ls hl => ?_)
  refine lv_goto (tgt := 106) hx hb dX12_start_129 (by decide) ?_
  refine lv_iload hx hb dX12_start_106 (lv_at hl 0 rfl) ?_
  refine lv_iload_n hx hb dX12_start_108 rfl (lv_at hl 2 rfl) ?_
  refine lv_icmp_ge (tgt := 132) hx hb dX12_start_109 (by decide) (fun c16 => absurd c16 (by decide)) (fun _ => ?_)
  refine lv_aload_n hx hb dX12_start_112 rfl (lv_at hl 3 rfl) ?_
  refine lv_iload hx hb dX12_start_113 (lv_at hl 0 rfl) ?_
  refine fb_iaC (n := 14) (v := (18 : Int32)) X I 2 0 rfl rfl (by decide) (by decide) (Nat.le_of_ble_eq_true rfl) ((pk_un (by decide)).trans ((pk_un (by decide)).trans pk_us)) dX12_start_115 ?_
  refine lv_istore (lv' := [(5, .int (18 : Int32)), (4, .int (14 : Int32)), (3, .int (17 : Int32)), (2, .ref x1), (1, .ref x1), (0, .ref za)]) hx hb dX12_start_116 hl (by decide) rfl (fun ls hl => ?_)
  refine lv_aload_n hx hb dX12_start_118 rfl (lv_at hl 5 rfl) ?_
  refine fb_get X I (k := 0) (v := .ref (zr 0)) fu_X12 0 fb_h12 rfl (Nat.le_of_ble_eq_true rfl) fw_1964 rfl rfl dX12_start_119 ?_
  refine lv_iload hx hb dX12_start_122 (lv_at hl 0 rfl) ?_
  refine lv_iconst (v := (0 : Int32)) hx hb dX12_start_124 (by decide) ?_
  refine fb_isC (n := 18) (wn := ([fb_o12 za zr ze, fb_aw cI (zr 0) 16205 (upd (upd (upd (upd (upd (upd (upd (upd (upd (upd (upd (upd (upd (upd (upd zm 0 (0 : Int32)) 1 (0 : Int32)) 5 (0 : Int32)) 6 (0 : Int32)) 7 (0 : Int32)) 8 (0 : Int32)) 9 (0 : Int32)) 10 (0 : Int32)) 11 (0 : Int32)) 12 (0 : Int32)) 13 (0 : Int32)) 14 (0 : Int32)) 16 (0 : Int32)) 17 (0 : Int32)) 18 (0 : Int32)), fb_aw cI x1 17 (upd (upd (upd (upd (upd (upd (upd (upd (upd (upd (upd (upd (upd (upd (upd (upd (upd (fun _ => 0) 0 (0 : Int32)) 1 (1 : Int32)) 2 (5 : Int32)) 3 (6 : Int32)) 4 (7 : Int32)) 5 (8 : Int32)) 6 (9 : Int32)) 7 (10 : Int32)) 8 (11 : Int32)) 9 (12 : Int32)) 10 (13 : Int32)) 11 (14 : Int32)) 12 (16 : Int32)) 13 (17 : Int32)) 14 (18 : Int32)) 15 (19 : Int32)) 16 (20 : Int32))] : List va_W).flatten) X I 1 0 rfl rfl (by decide) (by decide) (Nat.le_of_ble_eq_true rfl) rfl dX12_start_125 (fun H locs I => ?_)
  refine lv_iinc (v := (15 : Int32)) (lv' := [(4, .int (15 : Int32)), (5, .int (18 : Int32)), (3, .int (17 : Int32)), (2, .ref x1), (1, .ref x1), (0, .ref za)]) hx hb dX12_start_126 hl (k := 1) rfl (by decide) (by decide) rfl (fun ls hl => ?_)
  refine lv_goto (tgt := 106) hx hb dX12_start_129 (by decide) ?_
  refine lv_iload hx hb dX12_start_106 (lv_at hl 0 rfl) ?_
  refine lv_iload_n hx hb dX12_start_108 rfl (lv_at hl 2 rfl) ?_
  refine lv_icmp_ge (tgt := 132) hx hb dX12_start_109 (by decide) (fun c17 => absurd c17 (by decide)) (fun _ => ?_)
  refine lv_aload_n hx hb dX12_start_112 rfl (lv_at hl 3 rfl) ?_
  refine lv_iload hx hb dX12_start_113 (lv_at hl 0 rfl) ?_
  refine fb_iaC (n := 15) (v := (19 : Int32)) X I 2 0 rfl rfl (by decide) (by decide) (Nat.le_of_ble_eq_true rfl) ((pk_un (by decide)).trans pk_us) dX12_start_115 ?_
  refine lv_istore (lv' := [(5, .int (19 : Int32)), (4, .int (15 : Int32)), (3, .int (17 : Int32)), (2, .ref x1), (1, .ref x1), (0, .ref za)]) hx hb dX12_start_116 hl (by decide) rfl (fun ls hl => ?_)
  refine lv_aload_n hx hb dX12_start_118 rfl (lv_at hl 5 rfl) ?_
  refine fb_get X I (k := 0) (v := .ref (zr 0)) fu_X12 0 fb_h12 rfl (Nat.le_of_ble_eq_true rfl) fw_1964 rfl rfl dX12_start_119 ?_
  refine lv_iload hx hb dX12_start_122 (lv_at hl 0 rfl) ?_
  refine lv_iconst (v := (0 : Int32)) hx hb dX12_start_124 (by decide) ?_
  refine fb_isC (n := 19) (wn := ([fb_o12 za zr ze, fb_aw cI (zr 0) 16205 (upd (upd (upd (upd (upd (upd (upd (upd (upd (upd (upd (upd (upd (upd (upd (upd zm 0 (0 : Int32)) 1 (0 : Int32)) 5 (0 : Int32)) 6 (0 : Int32)) 7 (0 : Int32)) 8 (0 : Int32)) 9 (0 : Int32)) 10 (0 : Int32)) 11 (0 : Int32)) 12 (0 : Int32)) 13 (0 : Int32)) 14 (0 : Int32)) 16 (0 : Int32)) 17 (0 : Int32)) 18 (0 : Int32)) 19 (0 : Int32)), fb_aw cI x1 17 (upd (upd (upd (upd (upd (upd (upd (upd (upd (upd (upd (upd (upd (upd (upd (upd (upd (fun _ => 0) 0 (0 : Int32)) 1 (1 : Int32)) 2 (5 : Int32)) 3 (6 : Int32)) 4 (7 : Int32)) 5 (8 : Int32)) 6 (9 : Int32)) 7 (10 : Int32)) 8 (11 : Int32)) 9 (12 : Int32)) 10 (13 : Int32)) 11 (14 : Int32)) 12 (16 : Int32)) 13 (17 : Int32)) 14 (18 : Int32)) 15 (19 : Int32)) 16 (20 : Int32))] : List va_W).flatten) X I 1 0 rfl rfl (by decide) (by decide) (Nat.le_of_ble_eq_true rfl) rfl dX12_start_125 (fun H locs I => ?_)
  refine lv_iinc (v := (16 : Int32)) (lv' := [(4, .int (16 : Int32)), (5, .int (19 : Int32)), (3, .int (17 : Int32)), (2, .ref x1), (1, .ref x1), (0, .ref za)]) hx hb dX12_start_126 hl (k := 1) rfl (by decide) (by decide) rfl (fun ls hl => ?_)
  refine lv_goto (tgt := 106) hx hb dX12_start_129 (by decide) ?_
  refine lv_iload hx hb dX12_start_106 (lv_at hl 0 rfl) ?_
  refine lv_iload_n hx hb dX12_start_108 rfl (lv_at hl 2 rfl) ?_
  refine lv_icmp_ge (tgt := 132) hx hb dX12_start_109 (by decide) (fun c18 => absurd c18 (by decide)) (fun _ => ?_)
  refine lv_aload_n hx hb dX12_start_112 rfl (lv_at hl 3 rfl) ?_
  refine lv_iload hx hb dX12_start_113 (lv_at hl 0 rfl) ?_
  refine fb_iaC (n := 16) (v := (20 : Int32)) X I 2 0 rfl rfl (by decide) (by decide) (Nat.le_of_ble_eq_true rfl) pk_us dX12_start_115 ?_
  refine lv_istore (lv' := [(5, .int (20 : Int32)), (4, .int (16 : Int32)), (3, .int (17 : Int32)), (2, .ref x1), (1, .ref x1), (0, .ref za)]) hx hb dX12_start_116 hl (by decide) rfl (fun ls hl => ?_)
  refine lv_aload_n hx hb dX12_start_118 rfl (lv_at hl 5 rfl) ?_
  refine fb_get X I (k := 0) (v := .ref (zr 0)) fu_X12 0 fb_h12 rfl (Nat.le_of_ble_eq_true rfl) fw_1964 rfl rfl dX12_start_119 ?_
  refine lv_iload hx hb dX12_start_122 (lv_at hl 0 rfl) ?_
  refine lv_iconst (v := (0 : Int32)) hx hb dX12_start_124 (by decide) ?_
  refine fb_isC (n := 20) (wn := ([fb_o12 za zr ze, fb_aw cI (zr 0) 16205 (upd (upd (upd (upd (upd (upd (upd (upd (upd (upd (upd (upd (upd (upd (upd (upd (upd zm 0 (0 : Int32)) 1 (0 : Int32)) 5 (0 : Int32)) 6 (0 : Int32)) 7 (0 : Int32)) 8 (0 : Int32)) 9 (0 : Int32)) 10 (0 : Int32)) 11 (0 : Int32)) 12 (0 : Int32)) 13 (0 : Int32)) 14 (0 : Int32)) 16 (0 : Int32)) 17 (0 : Int32)) 18 (0 : Int32)) 19 (0 : Int32)) 20 (0 : Int32)), fb_aw cI x1 17 (upd (upd (upd (upd (upd (upd (upd (upd (upd (upd (upd (upd (upd (upd (upd (upd (upd (fun _ => 0) 0 (0 : Int32)) 1 (1 : Int32)) 2 (5 : Int32)) 3 (6 : Int32)) 4 (7 : Int32)) 5 (8 : Int32)) 6 (9 : Int32)) 7 (10 : Int32)) 8 (11 : Int32)) 9 (12 : Int32)) 10 (13 : Int32)) 11 (14 : Int32)) 12 (16 : Int32)) 13 (17 : Int32)) 14 (18 : Int32)) 15 (19 : Int32)) 16 (20 : Int32))] : List va_W).flatten) X I 1 0 rfl rfl (by decide) (by decide) (Nat.le_of_ble_eq_true rfl) rfl dX12_start_125 (fun H locs I => ?_)
  refine lv_iinc (v := (17 : Int32)) (lv' := [(4, .int (17 : Int32)), (5, .int (20 : Int32)), (3, .int (17 : Int32)), (2, .ref x1), (1, .ref x1), (0, .ref za)]) hx hb dX12_start_126 hl (k := 1) rfl (by decide) (by decide) rfl (fun ls hl => ?_)
  refine lv_goto (tgt := 106) hx hb dX12_start_129 (by decide) ?_
  refine lv_iload hx hb dX12_start_106 (lv_at hl 0 rfl) ?_
  refine lv_iload_n hx hb dX12_start_108 rfl (lv_at hl 2 rfl) ?_
  refine lv_icmp_ge (tgt := 132) hx hb dX12_start_109 (by decide) (fun _ => ?_) (fun c19 => absurd (by decide) c19)
  have hz9 : fr_zz (upd (upd (upd (upd (upd (upd (upd (upd (upd (upd (upd (upd (upd (upd (upd (upd (upd zm 0 (0 : Int32)) 1 (0 : Int32)) 5 (0 : Int32)) 6 (0 : Int32)) 7 (0 : Int32)) 8 (0 : Int32)) 9 (0 : Int32)) 10 (0 : Int32)) 11 (0 : Int32)) 12 (0 : Int32)) 13 (0 : Int32)) 14 (0 : Int32)) 16 (0 : Int32)) 17 (0 : Int32)) 18 (0 : Int32)) 19 (0 : Int32)) 20 (0 : Int32)) := (fr_zz_up 20 (fr_zz_up 19 (fr_zz_up 18 (fr_zz_up 17 (fr_zz_up 16 (fr_zz_up 14 (fr_zz_up 13 (fr_zz_up 12 (fr_zz_up 11 (fr_zz_up 10 (fr_zz_up 9 (fr_zz_up 8 (fr_zz_up 7 (fr_zz_up 6 (fr_zz_up 5 (fr_zz_up 1 (fr_zz_up 0 hz)))))))))))))))))
  obtain ⟨w20, ew20⟩ : ∃ z : fb_AR, (upd (upd (upd (upd (upd (upd (upd (upd (upd (upd (upd (upd (upd (upd (upd (upd (upd zm 0 (0 : Int32)) 1 (0 : Int32)) 5 (0 : Int32)) 6 (0 : Int32)) 7 (0 : Int32)) 8 (0 : Int32)) 9 (0 : Int32)) 10 (0 : Int32)) 11 (0 : Int32)) 12 (0 : Int32)) 13 (0 : Int32)) 14 (0 : Int32)) 16 (0 : Int32)) 17 (0 : Int32)) 18 (0 : Int32)) 19 (0 : Int32)) 20 (0 : Int32)) = z := ⟨_, rfl⟩
  rw [ew20] at I hz9
  have I : fb_In D A s.heap (([fb_o12 za zr ze, fb_aw cI (zr 0) 16205 w20] : List va_W).flatten) H _ := fb_dropB (bs := [fb_o12 za zr ze, fb_aw cI (zr 0) 16205 w20, fb_aw cI x1 17 (upd (upd (upd (upd (upd (upd (upd (upd (upd (upd (upd (upd (upd (upd (upd (upd (upd (fun _ => 0) 0 (0 : Int32)) 1 (1 : Int32)) 2 (5 : Int32)) 3 (6 : Int32)) 4 (7 : Int32)) 5 (8 : Int32)) 6 (9 : Int32)) 7 (10 : Int32)) 8 (11 : Int32)) 9 (12 : Int32)) 10 (13 : Int32)) 11 (14 : Int32)) 12 (16 : Int32)) 13 (17 : Int32)) 14 (18 : Int32)) 15 (19 : Int32)) 16 (20 : Int32))]) (bs' := [fb_o12 za zr ze, fb_aw cI (zr 0) 16205 w20]) (gs := [fb_aw cI x1 17 (upd (upd (upd (upd (upd (upd (upd (upd (upd (upd (upd (upd (upd (upd (upd (upd (upd (fun _ => 0) 0 (0 : Int32)) 1 (1 : Int32)) 2 (5 : Int32)) 3 (6 : Int32)) 4 (7 : Int32)) 5 (8 : Int32)) 6 (9 : Int32)) 7 (10 : Int32)) 8 (11 : Int32)) 9 (12 : Int32)) 10 (13 : Int32)) 11 (14 : Int32)) 12 (16 : Int32)) 13 (17 : Int32)) 14 (18 : Int32)) 15 (19 : Int32)) 16 (20 : Int32))]) I 3 rfl [0, 1, 2] (by decide +kernel) rfl
  refine lv_iconst (v := (0 : Int32)) hx hb dX12_start_132 (by decide) ?_
  refine lv_istore_n (lv' := [(2, .int (0 : Int32)), (4, .int (17 : Int32)), (5, .int (20 : Int32)), (3, .int (17 : Int32)), (1, .ref x1), (0, .ref za)]) hx hb dX12_start_133 rfl hl (by decide) rfl (fun ls hl => ?_)
  exact b_start_134 (za := za) (zr := zr) (ze := ze) (zm := zm)  X hz  (4096) 0 (by omega) w20 hz9 _ _ _ I (lv_sub hl [0, 5] rfl)
end
section
/-! the reference along a fresh object's road, laid by ref.py -/
/-- the reference, when it is made -/
def fr_w (D : va_G) (cI : ClassId) (zh : Nat) (ta : Nat → Nat) : List va_W := [fb_o12 zh ta fr_e0, fb_aw cI (ta 0) 16205 (fr_m (fun _ => 0) 0), fb_qh D (ta 1) 200 (fun _ => none), fb_aw cI (ta 3) 64 (fun _ => 0), fb_aw cI (ta 11) 6 (fun _ => 0), fb_aw cI (ta 12) 6 (fun _ => 0), fb_aw cI (ta 14) 4 (fun _ => 0), fb_aw cI (ta 15) 4 (fun _ => 0), fb_aw (D.1 20) (ta 16) 4 (fun _ => 0), fb_aw (D.1 20) (ta 17) 4 (fun _ => 0), fb_aw (D.1 21) (ta 20) 2000 (fun _ => 0), fb_aw cI (ta 22) 2200 (fun _ => 0), fb_aw cI (ta 23) 2200 (fun _ => 0), fb_aw cI (ta 24) 2200 (fun _ => 0), fb_aw cI (ta 25) 2200 (fun _ => 0), fb_aw cI (ta 32) 200 (fun _ => 0), fb_aw cI (ta 33) 200 (fun _ => 0), fb_aw cI (ta 38) 130 (fun _ => 0), fb_aw (D.1 20) (ta 39) 130 (fun _ => 0), fb_aw cI (ta 40) 8 (fun _ => 0), fb_aw cI (ta 45) 11008 (fun _ => 0), fb_aw cI (ta 46) 11008 (fun _ => 0), fb_aw cI (ta 47) 11008 (fun _ => 0), fb_aw cI (ta 48) 200 (fun _ => 0)]
set_option maxHeartbeats 8000000 in
set_option maxRecDepth 100000 in
theorem c_X12_init (l : Launch) (D : va_G) (cI cJ : ClassId) (zh : Nat) (sz : Nat) : Met l yX12_init (Cond.code yX12_init cX12_init 1 none :: fb_all) ({ frames := 6, cells := 24, slots := 61206, locals := 147 } : Room) (fb_PP D (fb_ty D cI cJ) [.ref zh] ([(zh, .inr (12, [.null, .null, .int 0, .null, .int 0, .int 0, .int 0, .int 0, .int 0, .int 0, .int 0, .null, .null, .int 0, .null, .null, .null, .null, .int 0, .int 0, .null, .int 0, .null, .null, .null, .null, .int 0, .int 0, .int 0, .int 0, .int 0, .int 0, .null, .null, .int 0, .int 0, .int 0, .int 0, .null, .null, .null, .int 0, .int 0, .int 0, .int 0, .null, .null, .null, .null, .int 0, .int 0]))] : va_W) sz) (fb_QV D (va_A ([(zh, .inr (12, [.null, .null, .int 0, .null, .int 0, .int 0, .int 0, .int 0, .int 0, .int 0, .int 0, .null, .null, .int 0, .null, .null, .null, .null, .int 0, .int 0, .null, .int 0, .null, .null, .null, .null, .int 0, .int 0, .int 0, .int 0, .int 0, .int 0, .null, .null, .int 0, .int 0, .int 0, .int 0, .null, .null, .null, .int 0, .int 0, .int 0, .int 0, .null, .null, .null, .null, .int 0, .int 0]))] : va_W) sz) (fun (_ : Nat → Nat) => True) (fun (t : Nat → Nat) => (fr_w D cI zh t).flatten)) 24 61206 (va_A ([(zh, .inr (12, [.null, .null, .int 0, .null, .int 0, .int 0, .int 0, .int 0, .int 0, .int 0, .int 0, .null, .null, .int 0, .null, .null, .null, .null, .int 0, .int 0, .null, .int 0, .null, .null, .null, .null, .int 0, .int 0, .int 0, .int 0, .int 0, .int 0, .null, .null, .int 0, .int 0, .int 0, .int 0, .null, .null, .null, .int 0, .int 0, .int 0, .int 0, .null, .null, .null, .null, .int 0, .int 0]))] : va_W) sz) := by
  refine fb_ent (Qf := fun A => (fb_QV D A (fun (_ : Nat → Nat) => True) (fun (t : Nat → Nat) => (fr_w D cI zh t).flatten))) (by decide +kernel) (Nat.le_of_ble_eq_true rfl) ?_
  intro p e s m args below meth c A ls X I hl hin
  obtain ⟨hx, hb, hr, hml, hown, hts, hlk, hA, hK, hF⟩ := id X
  have hl : lv_has ls 1 [(0, .ref zh)] := hl
  refine lv_aload_n hx hb dX12_init_0 rfl (lv_at hl 0 rfl) ?_
  refine fb_obj X hl fw_1938 fw_224 fw_225 dX12_init_1 (Nat.le_of_ble_eq_true rfl) (Nat.le_of_ble_eq_true rfl) ?_
  refine lv_aload_n hx hb dX12_init_4 rfl (lv_at hl 0 rfl) ?_
  refine lv_sipush (v := (16205 : Int32)) hx hb dX12_init_5 (by decide) ?_
  refine fb_newI (N := 16205) X I fw_261 (by decide) (Nat.le_of_ble_eq_true rfl) (Nat.le_of_ble_eq_true rfl) (Nat.le_of_ble_eq_true rfl) dX12_init_8 (fun x1 H I => ?_)
  have I : fb_In D A s.heap ([(zh, .inr (12, [.null, .null, .int 0, .null, .int 0, .int 0, .int 0, .int 0, .int 0, .int 0, .int 0, .null, .null, .int 0, .null, .null, .null, .null, .int 0, .int 0, .null, .int 0, .null, .null, .null, .null, .int 0, .int 0, .int 0, .int 0, .int 0, .int 0, .null, .null, .int 0, .int 0, .int 0, .int 0, .null, .null, .null, .int 0, .int 0, .int 0, .int 0, .null, .null, .null, .null, .int 0, .int 0])), (x1, .inl (cI, 16205, .inl (fun _ => 0)))] : va_W) H _ := I
  refine fb_put X I (k := 0) (wn := ([(zh, .inr (12, [.ref x1, .null, .int 0, .null, .int 0, .int 0, .int 0, .int 0, .int 0, .int 0, .int 0, .null, .null, .int 0, .null, .null, .null, .null, .int 0, .int 0, .null, .int 0, .null, .null, .null, .null, .int 0, .int 0, .int 0, .int 0, .int 0, .int 0, .null, .null, .int 0, .int 0, .int 0, .int 0, .null, .null, .null, .int 0, .int 0, .int 0, .int 0, .null, .null, .null, .null, .int 0, .int 0])), (x1, .inl (cI, 16205, .inl (fun _ => 0)))] : va_W)) fu_X12 tyX12 tyX12_ok nmX12 0 rfl rfl (Nat.le_of_ble_eq_true rfl) fw_1964 rfl rfl rfl rfl rfl (Nat.le_of_ble_eq_true rfl) rfl dX12_init_10 (fun H locs I => ?_)
  refine lv_aload_n hx hb dX12_init_13 rfl (lv_at hl 0 rfl) ?_
  refine lv_sipush (v := (200 : Int32)) hx hb dX12_init_14 (by decide) ?_
  refine fb_newH (N := 200) X I fw_1939 (by decide) (Nat.le_of_ble_eq_true rfl) (Nat.le_of_ble_eq_true rfl) (Nat.le_of_ble_eq_true rfl) dX12_init_17 (fun x2 H I => ?_)
  have I : fb_In D A s.heap ([(zh, .inr (12, [.ref x1, .null, .int 0, .null, .int 0, .int 0, .int 0, .int 0, .int 0, .int 0, .int 0, .null, .null, .int 0, .null, .null, .null, .null, .int 0, .int 0, .null, .int 0, .null, .null, .null, .null, .int 0, .int 0, .int 0, .int 0, .int 0, .int 0, .null, .null, .int 0, .int 0, .int 0, .int 0, .null, .null, .null, .int 0, .int 0, .int 0, .int 0, .null, .null, .null, .null, .int 0, .int 0])), (x1, .inl (cI, 16205, .inl (fun _ => 0))), (x2, .inl (D.1 22, 200, .inr (.inr (.inr (.inr (fun _ => none))))))] : va_W) H _ := I
  refine fb_putF X I hin (k := 1) (wn := ([(zh, .inr (12, [.ref x1, .ref x2, .int 0, .null, .int 0, .int 0, .int 0, .int 0, .int 0, .int 0, .int 0, .null, .null, .int 0, .null, .null, .null, .null, .int 0, .int 0, .null, .int 0, .null, .null, .null, .null, .int 0, .int 0, .int 0, .int 0, .int 0, .int 0, .null, .null, .int 0, .int 0, .int 0, .int 0, .null, .null, .null, .int 0, .int 0, .int 0, .int 0, .null, .null, .null, .null, .int 0, .int 0])), (x1, .inl (cI, 16205, .inl (fun _ => 0))), (x2, .inl (D.1 22, 200, .inr (.inr (.inr (.inr (fun _ => none))))))] : va_W)) fu_X12 tyX12 tyX12_ok nmX12 0 rfl rfl (Nat.le_of_ble_eq_true rfl) fw_1965 rfl rfl rfl rfl rfl rfl (Nat.le_of_ble_eq_true rfl) rfl dX12_init_20 (fun H locs I => ?_)
  refine lv_aload_n hx hb dX12_init_23 rfl (lv_at hl 0 rfl) ?_
  refine lv_bipush (v := (64 : Int32)) hx hb dX12_init_24 (by decide) ?_
  refine fb_newI (N := 64) X I fw_261 (by decide) (Nat.le_of_ble_eq_true rfl) (Nat.le_of_ble_eq_true rfl) (Nat.le_of_ble_eq_true rfl) dX12_init_26 (fun x3 H I => ?_)
  have I : fb_In D A s.heap ([(zh, .inr (12, [.ref x1, .ref x2, .int 0, .null, .int 0, .int 0, .int 0, .int 0, .int 0, .int 0, .int 0, .null, .null, .int 0, .null, .null, .null, .null, .int 0, .int 0, .null, .int 0, .null, .null, .null, .null, .int 0, .int 0, .int 0, .int 0, .int 0, .int 0, .null, .null, .int 0, .int 0, .int 0, .int 0, .null, .null, .null, .int 0, .int 0, .int 0, .int 0, .null, .null, .null, .null, .int 0, .int 0])), (x1, .inl (cI, 16205, .inl (fun _ => 0))), (x2, .inl (D.1 22, 200, .inr (.inr (.inr (.inr (fun _ => none)))))), (x3, .inl (cI, 64, .inl (fun _ => 0)))] : va_W) H _ := I
  refine fb_put X I (k := 3) (wn := ([(zh, .inr (12, [.ref x1, .ref x2, .int 0, .ref x3, .int 0, .int 0, .int 0, .int 0, .int 0, .int 0, .int 0, .null, .null, .int 0, .null, .null, .null, .null, .int 0, .int 0, .null, .int 0, .null, .null, .null, .null, .int 0, .int 0, .int 0, .int 0, .int 0, .int 0, .null, .null, .int 0, .int 0, .int 0, .int 0, .null, .null, .null, .int 0, .int 0, .int 0, .int 0, .null, .null, .null, .null, .int 0, .int 0])), (x1, .inl (cI, 16205, .inl (fun _ => 0))), (x2, .inl (D.1 22, 200, .inr (.inr (.inr (.inr (fun _ => none)))))), (x3, .inl (cI, 64, .inl (fun _ => 0)))] : va_W)) fu_X12 tyX12 tyX12_ok nmX12 0 rfl rfl (Nat.le_of_ble_eq_true rfl) fw_1967 rfl rfl rfl rfl rfl (Nat.le_of_ble_eq_true rfl) rfl dX12_init_28 (fun H locs I => ?_)
  refine lv_aload_n hx hb dX12_init_31 rfl (lv_at hl 0 rfl) ?_
  refine lv_iconst (v := (-1 : Int32)) hx hb dX12_init_32 (by decide) ?_
  refine fb_put X I (k := 8) (wn := ([(zh, .inr (12, [.ref x1, .ref x2, .int 0, .ref x3, .int 0, .int 0, .int 0, .int 0, .int (-1 : Int32), .int 0, .int 0, .null, .null, .int 0, .null, .null, .null, .null, .int 0, .int 0, .null, .int 0, .null, .null, .null, .null, .int 0, .int 0, .int 0, .int 0, .int 0, .int 0, .null, .null, .int 0, .int 0, .int 0, .int 0, .null, .null, .null, .int 0, .int 0, .int 0, .int 0, .null, .null, .null, .null, .int 0, .int 0])), (x1, .inl (cI, 16205, .inl (fun _ => 0))), (x2, .inl (D.1 22, 200, .inr (.inr (.inr (.inr (fun _ => none)))))), (x3, .inl (cI, 64, .inl (fun _ => 0)))] : va_W)) fu_X12 tyX12 tyX12_ok nmX12 0 rfl rfl (Nat.le_of_ble_eq_true rfl) fw_1972 rfl rfl rfl rfl rfl (Nat.le_of_ble_eq_true rfl) rfl dX12_init_33 (fun H locs I => ?_)
  refine lv_aload_n hx hb dX12_init_36 rfl (lv_at hl 0 rfl) ?_
  refine lv_bipush (v := (6 : Int32)) hx hb dX12_init_37 (by decide) ?_
  refine fb_newI (N := 6) X I fw_261 (by decide) (Nat.le_of_ble_eq_true rfl) (Nat.le_of_ble_eq_true rfl) (Nat.le_of_ble_eq_true rfl) dX12_init_39 (fun x4 H I => ?_)
  have I : fb_In D A s.heap ([(zh, .inr (12, [.ref x1, .ref x2, .int 0, .ref x3, .int 0, .int 0, .int 0, .int 0, .int (-1 : Int32), .int 0, .int 0, .null, .null, .int 0, .null, .null, .null, .null, .int 0, .int 0, .null, .int 0, .null, .null, .null, .null, .int 0, .int 0, .int 0, .int 0, .int 0, .int 0, .null, .null, .int 0, .int 0, .int 0, .int 0, .null, .null, .null, .int 0, .int 0, .int 0, .int 0, .null, .null, .null, .null, .int 0, .int 0])), (x1, .inl (cI, 16205, .inl (fun _ => 0))), (x2, .inl (D.1 22, 200, .inr (.inr (.inr (.inr (fun _ => none)))))), (x3, .inl (cI, 64, .inl (fun _ => 0))), (x4, .inl (cI, 6, .inl (fun _ => 0)))] : va_W) H _ := I
  refine fb_putF X I hin (k := 11) (wn := ([(zh, .inr (12, [.ref x1, .ref x2, .int 0, .ref x3, .int 0, .int 0, .int 0, .int 0, .int (-1 : Int32), .int 0, .int 0, .ref x4, .null, .int 0, .null, .null, .null, .null, .int 0, .int 0, .null, .int 0, .null, .null, .null, .null, .int 0, .int 0, .int 0, .int 0, .int 0, .int 0, .null, .null, .int 0, .int 0, .int 0, .int 0, .null, .null, .null, .int 0, .int 0, .int 0, .int 0, .null, .null, .null, .null, .int 0, .int 0])), (x1, .inl (cI, 16205, .inl (fun _ => 0))), (x2, .inl (D.1 22, 200, .inr (.inr (.inr (.inr (fun _ => none)))))), (x3, .inl (cI, 64, .inl (fun _ => 0))), (x4, .inl (cI, 6, .inl (fun _ => 0)))] : va_W)) fu_X12 tyX12 tyX12_ok nmX12 0 rfl rfl (Nat.le_of_ble_eq_true rfl) fw_1975 rfl rfl rfl rfl rfl rfl (Nat.le_of_ble_eq_true rfl) rfl dX12_init_41 (fun H locs I => ?_)
  refine lv_aload_n hx hb dX12_init_44 rfl (lv_at hl 0 rfl) ?_
  refine lv_bipush (v := (6 : Int32)) hx hb dX12_init_45 (by decide) ?_
  refine fb_newI (N := 6) X I fw_261 (by decide) (Nat.le_of_ble_eq_true rfl) (Nat.le_of_ble_eq_true rfl) (Nat.le_of_ble_eq_true rfl) dX12_init_47 (fun x5 H I => ?_)
  have I : fb_In D A s.heap ([(zh, .inr (12, [.ref x1, .ref x2, .int 0, .ref x3, .int 0, .int 0, .int 0, .int 0, .int (-1 : Int32), .int 0, .int 0, .ref x4, .null, .int 0, .null, .null, .null, .null, .int 0, .int 0, .null, .int 0, .null, .null, .null, .null, .int 0, .int 0, .int 0, .int 0, .int 0, .int 0, .null, .null, .int 0, .int 0, .int 0, .int 0, .null, .null, .null, .int 0, .int 0, .int 0, .int 0, .null, .null, .null, .null, .int 0, .int 0])), (x1, .inl (cI, 16205, .inl (fun _ => 0))), (x2, .inl (D.1 22, 200, .inr (.inr (.inr (.inr (fun _ => none)))))), (x3, .inl (cI, 64, .inl (fun _ => 0))), (x4, .inl (cI, 6, .inl (fun _ => 0))), (x5, .inl (cI, 6, .inl (fun _ => 0)))] : va_W) H _ := I
  refine fb_putF X I hin (k := 12) (wn := ([(zh, .inr (12, [.ref x1, .ref x2, .int 0, .ref x3, .int 0, .int 0, .int 0, .int 0, .int (-1 : Int32), .int 0, .int 0, .ref x4, .ref x5, .int 0, .null, .null, .null, .null, .int 0, .int 0, .null, .int 0, .null, .null, .null, .null, .int 0, .int 0, .int 0, .int 0, .int 0, .int 0, .null, .null, .int 0, .int 0, .int 0, .int 0, .null, .null, .null, .int 0, .int 0, .int 0, .int 0, .null, .null, .null, .null, .int 0, .int 0])), (x1, .inl (cI, 16205, .inl (fun _ => 0))), (x2, .inl (D.1 22, 200, .inr (.inr (.inr (.inr (fun _ => none)))))), (x3, .inl (cI, 64, .inl (fun _ => 0))), (x4, .inl (cI, 6, .inl (fun _ => 0))), (x5, .inl (cI, 6, .inl (fun _ => 0)))] : va_W)) fu_X12 tyX12 tyX12_ok nmX12 0 rfl rfl (Nat.le_of_ble_eq_true rfl) fw_1976 rfl rfl rfl rfl rfl rfl (Nat.le_of_ble_eq_true rfl) rfl dX12_init_49 (fun H locs I => ?_)
  refine lv_aload_n hx hb dX12_init_52 rfl (lv_at hl 0 rfl) ?_
  refine lv_iconst (v := (4 : Int32)) hx hb dX12_init_53 (by decide) ?_
  refine fb_newI (N := 4) X I fw_261 (by decide) (Nat.le_of_ble_eq_true rfl) (Nat.le_of_ble_eq_true rfl) (Nat.le_of_ble_eq_true rfl) dX12_init_54 (fun x6 H I => ?_)
  have I : fb_In D A s.heap ([(zh, .inr (12, [.ref x1, .ref x2, .int 0, .ref x3, .int 0, .int 0, .int 0, .int 0, .int (-1 : Int32), .int 0, .int 0, .ref x4, .ref x5, .int 0, .null, .null, .null, .null, .int 0, .int 0, .null, .int 0, .null, .null, .null, .null, .int 0, .int 0, .int 0, .int 0, .int 0, .int 0, .null, .null, .int 0, .int 0, .int 0, .int 0, .null, .null, .null, .int 0, .int 0, .int 0, .int 0, .null, .null, .null, .null, .int 0, .int 0])), (x1, .inl (cI, 16205, .inl (fun _ => 0))), (x2, .inl (D.1 22, 200, .inr (.inr (.inr (.inr (fun _ => none)))))), (x3, .inl (cI, 64, .inl (fun _ => 0))), (x4, .inl (cI, 6, .inl (fun _ => 0))), (x5, .inl (cI, 6, .inl (fun _ => 0))), (x6, .inl (cI, 4, .inl (fun _ => 0)))] : va_W) H _ := I
  refine fb_putF X I hin (k := 14) (wn := ([(zh, .inr (12, [.ref x1, .ref x2, .int 0, .ref x3, .int 0, .int 0, .int 0, .int 0, .int (-1 : Int32), .int 0, .int 0, .ref x4, .ref x5, .int 0, .ref x6, .null, .null, .null, .int 0, .int 0, .null, .int 0, .null, .null, .null, .null, .int 0, .int 0, .int 0, .int 0, .int 0, .int 0, .null, .null, .int 0, .int 0, .int 0, .int 0, .null, .null, .null, .int 0, .int 0, .int 0, .int 0, .null, .null, .null, .null, .int 0, .int 0])), (x1, .inl (cI, 16205, .inl (fun _ => 0))), (x2, .inl (D.1 22, 200, .inr (.inr (.inr (.inr (fun _ => none)))))), (x3, .inl (cI, 64, .inl (fun _ => 0))), (x4, .inl (cI, 6, .inl (fun _ => 0))), (x5, .inl (cI, 6, .inl (fun _ => 0))), (x6, .inl (cI, 4, .inl (fun _ => 0)))] : va_W)) fu_X12 tyX12 tyX12_ok nmX12 0 rfl rfl (Nat.le_of_ble_eq_true rfl) fw_1978 rfl rfl rfl rfl rfl rfl (Nat.le_of_ble_eq_true rfl) rfl dX12_init_56 (fun H locs I => ?_)
  refine lv_aload_n hx hb dX12_init_59 rfl (lv_at hl 0 rfl) ?_
  refine lv_iconst (v := (4 : Int32)) hx hb dX12_init_60 (by decide) ?_
  refine fb_newI (N := 4) X I fw_261 (by decide) (Nat.le_of_ble_eq_true rfl) (Nat.le_of_ble_eq_true rfl) (Nat.le_of_ble_eq_true rfl) dX12_init_61 (fun x7 H I => ?_)
  have I : fb_In D A s.heap ([(zh, .inr (12, [.ref x1, .ref x2, .int 0, .ref x3, .int 0, .int 0, .int 0, .int 0, .int (-1 : Int32), .int 0, .int 0, .ref x4, .ref x5, .int 0, .ref x6, .null, .null, .null, .int 0, .int 0, .null, .int 0, .null, .null, .null, .null, .int 0, .int 0, .int 0, .int 0, .int 0, .int 0, .null, .null, .int 0, .int 0, .int 0, .int 0, .null, .null, .null, .int 0, .int 0, .int 0, .int 0, .null, .null, .null, .null, .int 0, .int 0])), (x1, .inl (cI, 16205, .inl (fun _ => 0))), (x2, .inl (D.1 22, 200, .inr (.inr (.inr (.inr (fun _ => none)))))), (x3, .inl (cI, 64, .inl (fun _ => 0))), (x4, .inl (cI, 6, .inl (fun _ => 0))), (x5, .inl (cI, 6, .inl (fun _ => 0))), (x6, .inl (cI, 4, .inl (fun _ => 0))), (x7, .inl (cI, 4, .inl (fun _ => 0)))] : va_W) H _ := I
  refine fb_putF X I hin (k := 15) (wn := ([(zh, .inr (12, [.ref x1, .ref x2, .int 0, .ref x3, .int 0, .int 0, .int 0, .int 0, .int (-1 : Int32), .int 0, .int 0, .ref x4, .ref x5, .int 0, .ref x6, .ref x7, .null, .null, .int 0, .int 0, .null, .int 0, .null, .null, .null, .null, .int 0, .int 0, .int 0, .int 0, .int 0, .int 0, .null, .null, .int 0, .int 0, .int 0, .int 0, .null, .null, .null, .int 0, .int 0, .int 0, .int 0, .null, .null, .null, .null, .int 0, .int 0])), (x1, .inl (cI, 16205, .inl (fun _ => 0))), (x2, .inl (D.1 22, 200, .inr (.inr (.inr (.inr (fun _ => none)))))), (x3, .inl (cI, 64, .inl (fun _ => 0))), (x4, .inl (cI, 6, .inl (fun _ => 0))), (x5, .inl (cI, 6, .inl (fun _ => 0))), (x6, .inl (cI, 4, .inl (fun _ => 0))), (x7, .inl (cI, 4, .inl (fun _ => 0)))] : va_W)) fu_X12 tyX12 tyX12_ok nmX12 0 rfl rfl (Nat.le_of_ble_eq_true rfl) fw_1979 rfl rfl rfl rfl rfl rfl (Nat.le_of_ble_eq_true rfl) rfl dX12_init_63 (fun H locs I => ?_)
  refine lv_aload_n hx hb dX12_init_66 rfl (lv_at hl 0 rfl) ?_
  refine lv_iconst (v := (4 : Int32)) hx hb dX12_init_67 (by decide) ?_
  refine fb_newZ (N := 4) X I fw_2118 (by decide) (Nat.le_of_ble_eq_true rfl) (Nat.le_of_ble_eq_true rfl) (Nat.le_of_ble_eq_true rfl) dX12_init_68 (fun x8 H I => ?_)
  have I : fb_In D A s.heap ([(zh, .inr (12, [.ref x1, .ref x2, .int 0, .ref x3, .int 0, .int 0, .int 0, .int 0, .int (-1 : Int32), .int 0, .int 0, .ref x4, .ref x5, .int 0, .ref x6, .ref x7, .null, .null, .int 0, .int 0, .null, .int 0, .null, .null, .null, .null, .int 0, .int 0, .int 0, .int 0, .int 0, .int 0, .null, .null, .int 0, .int 0, .int 0, .int 0, .null, .null, .null, .int 0, .int 0, .int 0, .int 0, .null, .null, .null, .null, .int 0, .int 0])), (x1, .inl (cI, 16205, .inl (fun _ => 0))), (x2, .inl (D.1 22, 200, .inr (.inr (.inr (.inr (fun _ => none)))))), (x3, .inl (cI, 64, .inl (fun _ => 0))), (x4, .inl (cI, 6, .inl (fun _ => 0))), (x5, .inl (cI, 6, .inl (fun _ => 0))), (x6, .inl (cI, 4, .inl (fun _ => 0))), (x7, .inl (cI, 4, .inl (fun _ => 0))), (x8, .inl (D.1 20, 4, .inl (fun _ => 0)))] : va_W) H _ := I
  refine fb_putF X I hin (k := 16) (wn := ([(zh, .inr (12, [.ref x1, .ref x2, .int 0, .ref x3, .int 0, .int 0, .int 0, .int 0, .int (-1 : Int32), .int 0, .int 0, .ref x4, .ref x5, .int 0, .ref x6, .ref x7, .ref x8, .null, .int 0, .int 0, .null, .int 0, .null, .null, .null, .null, .int 0, .int 0, .int 0, .int 0, .int 0, .int 0, .null, .null, .int 0, .int 0, .int 0, .int 0, .null, .null, .null, .int 0, .int 0, .int 0, .int 0, .null, .null, .null, .null, .int 0, .int 0])), (x1, .inl (cI, 16205, .inl (fun _ => 0))), (x2, .inl (D.1 22, 200, .inr (.inr (.inr (.inr (fun _ => none)))))), (x3, .inl (cI, 64, .inl (fun _ => 0))), (x4, .inl (cI, 6, .inl (fun _ => 0))), (x5, .inl (cI, 6, .inl (fun _ => 0))), (x6, .inl (cI, 4, .inl (fun _ => 0))), (x7, .inl (cI, 4, .inl (fun _ => 0))), (x8, .inl (D.1 20, 4, .inl (fun _ => 0)))] : va_W)) fu_X12 tyX12 tyX12_ok nmX12 0 rfl rfl (Nat.le_of_ble_eq_true rfl) fw_1980 rfl rfl rfl rfl rfl rfl (Nat.le_of_ble_eq_true rfl) rfl dX12_init_70 (fun H locs I => ?_)
  refine lv_aload_n hx hb dX12_init_73 rfl (lv_at hl 0 rfl) ?_
  refine lv_iconst (v := (4 : Int32)) hx hb dX12_init_74 (by decide) ?_
  refine fb_newZ (N := 4) X I fw_2118 (by decide) (Nat.le_of_ble_eq_true rfl) (Nat.le_of_ble_eq_true rfl) (Nat.le_of_ble_eq_true rfl) dX12_init_75 (fun x9 H I => ?_)
  have I : fb_In D A s.heap ([(zh, .inr (12, [.ref x1, .ref x2, .int 0, .ref x3, .int 0, .int 0, .int 0, .int 0, .int (-1 : Int32), .int 0, .int 0, .ref x4, .ref x5, .int 0, .ref x6, .ref x7, .ref x8, .null, .int 0, .int 0, .null, .int 0, .null, .null, .null, .null, .int 0, .int 0, .int 0, .int 0, .int 0, .int 0, .null, .null, .int 0, .int 0, .int 0, .int 0, .null, .null, .null, .int 0, .int 0, .int 0, .int 0, .null, .null, .null, .null, .int 0, .int 0])), (x1, .inl (cI, 16205, .inl (fun _ => 0))), (x2, .inl (D.1 22, 200, .inr (.inr (.inr (.inr (fun _ => none)))))), (x3, .inl (cI, 64, .inl (fun _ => 0))), (x4, .inl (cI, 6, .inl (fun _ => 0))), (x5, .inl (cI, 6, .inl (fun _ => 0))), (x6, .inl (cI, 4, .inl (fun _ => 0))), (x7, .inl (cI, 4, .inl (fun _ => 0))), (x8, .inl (D.1 20, 4, .inl (fun _ => 0))), (x9, .inl (D.1 20, 4, .inl (fun _ => 0)))] : va_W) H _ := I
  refine fb_putF X I hin (k := 17) (wn := ([(zh, .inr (12, [.ref x1, .ref x2, .int 0, .ref x3, .int 0, .int 0, .int 0, .int 0, .int (-1 : Int32), .int 0, .int 0, .ref x4, .ref x5, .int 0, .ref x6, .ref x7, .ref x8, .ref x9, .int 0, .int 0, .null, .int 0, .null, .null, .null, .null, .int 0, .int 0, .int 0, .int 0, .int 0, .int 0, .null, .null, .int 0, .int 0, .int 0, .int 0, .null, .null, .null, .int 0, .int 0, .int 0, .int 0, .null, .null, .null, .null, .int 0, .int 0])), (x1, .inl (cI, 16205, .inl (fun _ => 0))), (x2, .inl (D.1 22, 200, .inr (.inr (.inr (.inr (fun _ => none)))))), (x3, .inl (cI, 64, .inl (fun _ => 0))), (x4, .inl (cI, 6, .inl (fun _ => 0))), (x5, .inl (cI, 6, .inl (fun _ => 0))), (x6, .inl (cI, 4, .inl (fun _ => 0))), (x7, .inl (cI, 4, .inl (fun _ => 0))), (x8, .inl (D.1 20, 4, .inl (fun _ => 0))), (x9, .inl (D.1 20, 4, .inl (fun _ => 0)))] : va_W)) fu_X12 tyX12 tyX12_ok nmX12 0 rfl rfl (Nat.le_of_ble_eq_true rfl) fw_1981 rfl rfl rfl rfl rfl rfl (Nat.le_of_ble_eq_true rfl) rfl dX12_init_77 (fun H locs I => ?_)
  refine lv_aload_n hx hb dX12_init_80 rfl (lv_at hl 0 rfl) ?_
  refine lv_sipush (v := (2000 : Int32)) hx hb dX12_init_81 (by decide) ?_
  refine fb_newB (N := 2000) X I fw_1142 (by decide) (Nat.le_of_ble_eq_true rfl) (Nat.le_of_ble_eq_true rfl) (Nat.le_of_ble_eq_true rfl) dX12_init_84 (fun x10 H I => ?_)
  have I : fb_In D A s.heap ([(zh, .inr (12, [.ref x1, .ref x2, .int 0, .ref x3, .int 0, .int 0, .int 0, .int 0, .int (-1 : Int32), .int 0, .int 0, .ref x4, .ref x5, .int 0, .ref x6, .ref x7, .ref x8, .ref x9, .int 0, .int 0, .null, .int 0, .null, .null, .null, .null, .int 0, .int 0, .int 0, .int 0, .int 0, .int 0, .null, .null, .int 0, .int 0, .int 0, .int 0, .null, .null, .null, .int 0, .int 0, .int 0, .int 0, .null, .null, .null, .null, .int 0, .int 0])), (x1, .inl (cI, 16205, .inl (fun _ => 0))), (x2, .inl (D.1 22, 200, .inr (.inr (.inr (.inr (fun _ => none)))))), (x3, .inl (cI, 64, .inl (fun _ => 0))), (x4, .inl (cI, 6, .inl (fun _ => 0))), (x5, .inl (cI, 6, .inl (fun _ => 0))), (x6, .inl (cI, 4, .inl (fun _ => 0))), (x7, .inl (cI, 4, .inl (fun _ => 0))), (x8, .inl (D.1 20, 4, .inl (fun _ => 0))), (x9, .inl (D.1 20, 4, .inl (fun _ => 0))), (x10, .inl (D.1 21, 2000, .inl (fun _ => 0)))] : va_W) H _ := I
  refine fb_putF X I hin (k := 20) (wn := ([(zh, .inr (12, [.ref x1, .ref x2, .int 0, .ref x3, .int 0, .int 0, .int 0, .int 0, .int (-1 : Int32), .int 0, .int 0, .ref x4, .ref x5, .int 0, .ref x6, .ref x7, .ref x8, .ref x9, .int 0, .int 0, .ref x10, .int 0, .null, .null, .null, .null, .int 0, .int 0, .int 0, .int 0, .int 0, .int 0, .null, .null, .int 0, .int 0, .int 0, .int 0, .null, .null, .null, .int 0, .int 0, .int 0, .int 0, .null, .null, .null, .null, .int 0, .int 0])), (x1, .inl (cI, 16205, .inl (fun _ => 0))), (x2, .inl (D.1 22, 200, .inr (.inr (.inr (.inr (fun _ => none)))))), (x3, .inl (cI, 64, .inl (fun _ => 0))), (x4, .inl (cI, 6, .inl (fun _ => 0))), (x5, .inl (cI, 6, .inl (fun _ => 0))), (x6, .inl (cI, 4, .inl (fun _ => 0))), (x7, .inl (cI, 4, .inl (fun _ => 0))), (x8, .inl (D.1 20, 4, .inl (fun _ => 0))), (x9, .inl (D.1 20, 4, .inl (fun _ => 0))), (x10, .inl (D.1 21, 2000, .inl (fun _ => 0)))] : va_W)) fu_X12 tyX12 tyX12_ok nmX12 0 rfl rfl (Nat.le_of_ble_eq_true rfl) fw_1984 rfl rfl rfl rfl rfl rfl (Nat.le_of_ble_eq_true rfl) rfl dX12_init_86 (fun H locs I => ?_)
  refine lv_aload_n hx hb dX12_init_89 rfl (lv_at hl 0 rfl) ?_
  refine lv_sipush (v := (2200 : Int32)) hx hb dX12_init_90 (by decide) ?_
  refine fb_newI (N := 2200) X I fw_261 (by decide) (Nat.le_of_ble_eq_true rfl) (Nat.le_of_ble_eq_true rfl) (Nat.le_of_ble_eq_true rfl) dX12_init_93 (fun x11 H I => ?_)
  have I : fb_In D A s.heap ([(zh, .inr (12, [.ref x1, .ref x2, .int 0, .ref x3, .int 0, .int 0, .int 0, .int 0, .int (-1 : Int32), .int 0, .int 0, .ref x4, .ref x5, .int 0, .ref x6, .ref x7, .ref x8, .ref x9, .int 0, .int 0, .ref x10, .int 0, .null, .null, .null, .null, .int 0, .int 0, .int 0, .int 0, .int 0, .int 0, .null, .null, .int 0, .int 0, .int 0, .int 0, .null, .null, .null, .int 0, .int 0, .int 0, .int 0, .null, .null, .null, .null, .int 0, .int 0])), (x1, .inl (cI, 16205, .inl (fun _ => 0))), (x2, .inl (D.1 22, 200, .inr (.inr (.inr (.inr (fun _ => none)))))), (x3, .inl (cI, 64, .inl (fun _ => 0))), (x4, .inl (cI, 6, .inl (fun _ => 0))), (x5, .inl (cI, 6, .inl (fun _ => 0))), (x6, .inl (cI, 4, .inl (fun _ => 0))), (x7, .inl (cI, 4, .inl (fun _ => 0))), (x8, .inl (D.1 20, 4, .inl (fun _ => 0))), (x9, .inl (D.1 20, 4, .inl (fun _ => 0))), (x10, .inl (D.1 21, 2000, .inl (fun _ => 0))), (x11, .inl (cI, 2200, .inl (fun _ => 0)))] : va_W) H _ := I
  refine fb_putF X I hin (k := 22) (wn := ([(zh, .inr (12, [.ref x1, .ref x2, .int 0, .ref x3, .int 0, .int 0, .int 0, .int 0, .int (-1 : Int32), .int 0, .int 0, .ref x4, .ref x5, .int 0, .ref x6, .ref x7, .ref x8, .ref x9, .int 0, .int 0, .ref x10, .int 0, .ref x11, .null, .null, .null, .int 0, .int 0, .int 0, .int 0, .int 0, .int 0, .null, .null, .int 0, .int 0, .int 0, .int 0, .null, .null, .null, .int 0, .int 0, .int 0, .int 0, .null, .null, .null, .null, .int 0, .int 0])), (x1, .inl (cI, 16205, .inl (fun _ => 0))), (x2, .inl (D.1 22, 200, .inr (.inr (.inr (.inr (fun _ => none)))))), (x3, .inl (cI, 64, .inl (fun _ => 0))), (x4, .inl (cI, 6, .inl (fun _ => 0))), (x5, .inl (cI, 6, .inl (fun _ => 0))), (x6, .inl (cI, 4, .inl (fun _ => 0))), (x7, .inl (cI, 4, .inl (fun _ => 0))), (x8, .inl (D.1 20, 4, .inl (fun _ => 0))), (x9, .inl (D.1 20, 4, .inl (fun _ => 0))), (x10, .inl (D.1 21, 2000, .inl (fun _ => 0))), (x11, .inl (cI, 2200, .inl (fun _ => 0)))] : va_W)) fu_X12 tyX12 tyX12_ok nmX12 0 rfl rfl (Nat.le_of_ble_eq_true rfl) fw_1986 rfl rfl rfl rfl rfl rfl (Nat.le_of_ble_eq_true rfl) rfl dX12_init_95 (fun H locs I => ?_)
  refine lv_aload_n hx hb dX12_init_98 rfl (lv_at hl 0 rfl) ?_
  refine lv_sipush (v := (2200 : Int32)) hx hb dX12_init_99 (by decide) ?_
  refine fb_newI (N := 2200) X I fw_261 (by decide) (Nat.le_of_ble_eq_true rfl) (Nat.le_of_ble_eq_true rfl) (Nat.le_of_ble_eq_true rfl) dX12_init_102 (fun x12 H I => ?_)
  have I : fb_In D A s.heap ([(zh, .inr (12, [.ref x1, .ref x2, .int 0, .ref x3, .int 0, .int 0, .int 0, .int 0, .int (-1 : Int32), .int 0, .int 0, .ref x4, .ref x5, .int 0, .ref x6, .ref x7, .ref x8, .ref x9, .int 0, .int 0, .ref x10, .int 0, .ref x11, .null, .null, .null, .int 0, .int 0, .int 0, .int 0, .int 0, .int 0, .null, .null, .int 0, .int 0, .int 0, .int 0, .null, .null, .null, .int 0, .int 0, .int 0, .int 0, .null, .null, .null, .null, .int 0, .int 0])), (x1, .inl (cI, 16205, .inl (fun _ => 0))), (x2, .inl (D.1 22, 200, .inr (.inr (.inr (.inr (fun _ => none)))))), (x3, .inl (cI, 64, .inl (fun _ => 0))), (x4, .inl (cI, 6, .inl (fun _ => 0))), (x5, .inl (cI, 6, .inl (fun _ => 0))), (x6, .inl (cI, 4, .inl (fun _ => 0))), (x7, .inl (cI, 4, .inl (fun _ => 0))), (x8, .inl (D.1 20, 4, .inl (fun _ => 0))), (x9, .inl (D.1 20, 4, .inl (fun _ => 0))), (x10, .inl (D.1 21, 2000, .inl (fun _ => 0))), (x11, .inl (cI, 2200, .inl (fun _ => 0))), (x12, .inl (cI, 2200, .inl (fun _ => 0)))] : va_W) H _ := I
  refine fb_putF X I hin (k := 23) (wn := ([(zh, .inr (12, [.ref x1, .ref x2, .int 0, .ref x3, .int 0, .int 0, .int 0, .int 0, .int (-1 : Int32), .int 0, .int 0, .ref x4, .ref x5, .int 0, .ref x6, .ref x7, .ref x8, .ref x9, .int 0, .int 0, .ref x10, .int 0, .ref x11, .ref x12, .null, .null, .int 0, .int 0, .int 0, .int 0, .int 0, .int 0, .null, .null, .int 0, .int 0, .int 0, .int 0, .null, .null, .null, .int 0, .int 0, .int 0, .int 0, .null, .null, .null, .null, .int 0, .int 0])), (x1, .inl (cI, 16205, .inl (fun _ => 0))), (x2, .inl (D.1 22, 200, .inr (.inr (.inr (.inr (fun _ => none)))))), (x3, .inl (cI, 64, .inl (fun _ => 0))), (x4, .inl (cI, 6, .inl (fun _ => 0))), (x5, .inl (cI, 6, .inl (fun _ => 0))), (x6, .inl (cI, 4, .inl (fun _ => 0))), (x7, .inl (cI, 4, .inl (fun _ => 0))), (x8, .inl (D.1 20, 4, .inl (fun _ => 0))), (x9, .inl (D.1 20, 4, .inl (fun _ => 0))), (x10, .inl (D.1 21, 2000, .inl (fun _ => 0))), (x11, .inl (cI, 2200, .inl (fun _ => 0))), (x12, .inl (cI, 2200, .inl (fun _ => 0)))] : va_W)) fu_X12 tyX12 tyX12_ok nmX12 0 rfl rfl (Nat.le_of_ble_eq_true rfl) fw_1987 rfl rfl rfl rfl rfl rfl (Nat.le_of_ble_eq_true rfl) rfl dX12_init_104 (fun H locs I => ?_)
  refine lv_aload_n hx hb dX12_init_107 rfl (lv_at hl 0 rfl) ?_
  refine lv_sipush (v := (2200 : Int32)) hx hb dX12_init_108 (by decide) ?_
  refine fb_newI (N := 2200) X I fw_261 (by decide) (Nat.le_of_ble_eq_true rfl) (Nat.le_of_ble_eq_true rfl) (Nat.le_of_ble_eq_true rfl) dX12_init_111 (fun x13 H I => ?_)
  have I : fb_In D A s.heap ([(zh, .inr (12, [.ref x1, .ref x2, .int 0, .ref x3, .int 0, .int 0, .int 0, .int 0, .int (-1 : Int32), .int 0, .int 0, .ref x4, .ref x5, .int 0, .ref x6, .ref x7, .ref x8, .ref x9, .int 0, .int 0, .ref x10, .int 0, .ref x11, .ref x12, .null, .null, .int 0, .int 0, .int 0, .int 0, .int 0, .int 0, .null, .null, .int 0, .int 0, .int 0, .int 0, .null, .null, .null, .int 0, .int 0, .int 0, .int 0, .null, .null, .null, .null, .int 0, .int 0])), (x1, .inl (cI, 16205, .inl (fun _ => 0))), (x2, .inl (D.1 22, 200, .inr (.inr (.inr (.inr (fun _ => none)))))), (x3, .inl (cI, 64, .inl (fun _ => 0))), (x4, .inl (cI, 6, .inl (fun _ => 0))), (x5, .inl (cI, 6, .inl (fun _ => 0))), (x6, .inl (cI, 4, .inl (fun _ => 0))), (x7, .inl (cI, 4, .inl (fun _ => 0))), (x8, .inl (D.1 20, 4, .inl (fun _ => 0))), (x9, .inl (D.1 20, 4, .inl (fun _ => 0))), (x10, .inl (D.1 21, 2000, .inl (fun _ => 0))), (x11, .inl (cI, 2200, .inl (fun _ => 0))), (x12, .inl (cI, 2200, .inl (fun _ => 0))), (x13, .inl (cI, 2200, .inl (fun _ => 0)))] : va_W) H _ := I
  refine fb_putF X I hin (k := 24) (wn := ([(zh, .inr (12, [.ref x1, .ref x2, .int 0, .ref x3, .int 0, .int 0, .int 0, .int 0, .int (-1 : Int32), .int 0, .int 0, .ref x4, .ref x5, .int 0, .ref x6, .ref x7, .ref x8, .ref x9, .int 0, .int 0, .ref x10, .int 0, .ref x11, .ref x12, .ref x13, .null, .int 0, .int 0, .int 0, .int 0, .int 0, .int 0, .null, .null, .int 0, .int 0, .int 0, .int 0, .null, .null, .null, .int 0, .int 0, .int 0, .int 0, .null, .null, .null, .null, .int 0, .int 0])), (x1, .inl (cI, 16205, .inl (fun _ => 0))), (x2, .inl (D.1 22, 200, .inr (.inr (.inr (.inr (fun _ => none)))))), (x3, .inl (cI, 64, .inl (fun _ => 0))), (x4, .inl (cI, 6, .inl (fun _ => 0))), (x5, .inl (cI, 6, .inl (fun _ => 0))), (x6, .inl (cI, 4, .inl (fun _ => 0))), (x7, .inl (cI, 4, .inl (fun _ => 0))), (x8, .inl (D.1 20, 4, .inl (fun _ => 0))), (x9, .inl (D.1 20, 4, .inl (fun _ => 0))), (x10, .inl (D.1 21, 2000, .inl (fun _ => 0))), (x11, .inl (cI, 2200, .inl (fun _ => 0))), (x12, .inl (cI, 2200, .inl (fun _ => 0))), (x13, .inl (cI, 2200, .inl (fun _ => 0)))] : va_W)) fu_X12 tyX12 tyX12_ok nmX12 0 rfl rfl (Nat.le_of_ble_eq_true rfl) fw_1988 rfl rfl rfl rfl rfl rfl (Nat.le_of_ble_eq_true rfl) rfl dX12_init_113 (fun H locs I => ?_)
  refine lv_aload_n hx hb dX12_init_116 rfl (lv_at hl 0 rfl) ?_
  refine lv_sipush (v := (2200 : Int32)) hx hb dX12_init_117 (by decide) ?_
  refine fb_newI (N := 2200) X I fw_261 (by decide) (Nat.le_of_ble_eq_true rfl) (Nat.le_of_ble_eq_true rfl) (Nat.le_of_ble_eq_true rfl) dX12_init_120 (fun x14 H I => ?_)
  have I : fb_In D A s.heap ([(zh, .inr (12, [.ref x1, .ref x2, .int 0, .ref x3, .int 0, .int 0, .int 0, .int 0, .int (-1 : Int32), .int 0, .int 0, .ref x4, .ref x5, .int 0, .ref x6, .ref x7, .ref x8, .ref x9, .int 0, .int 0, .ref x10, .int 0, .ref x11, .ref x12, .ref x13, .null, .int 0, .int 0, .int 0, .int 0, .int 0, .int 0, .null, .null, .int 0, .int 0, .int 0, .int 0, .null, .null, .null, .int 0, .int 0, .int 0, .int 0, .null, .null, .null, .null, .int 0, .int 0])), (x1, .inl (cI, 16205, .inl (fun _ => 0))), (x2, .inl (D.1 22, 200, .inr (.inr (.inr (.inr (fun _ => none)))))), (x3, .inl (cI, 64, .inl (fun _ => 0))), (x4, .inl (cI, 6, .inl (fun _ => 0))), (x5, .inl (cI, 6, .inl (fun _ => 0))), (x6, .inl (cI, 4, .inl (fun _ => 0))), (x7, .inl (cI, 4, .inl (fun _ => 0))), (x8, .inl (D.1 20, 4, .inl (fun _ => 0))), (x9, .inl (D.1 20, 4, .inl (fun _ => 0))), (x10, .inl (D.1 21, 2000, .inl (fun _ => 0))), (x11, .inl (cI, 2200, .inl (fun _ => 0))), (x12, .inl (cI, 2200, .inl (fun _ => 0))), (x13, .inl (cI, 2200, .inl (fun _ => 0))), (x14, .inl (cI, 2200, .inl (fun _ => 0)))] : va_W) H _ := I
  refine fb_putF X I hin (k := 25) (wn := ([(zh, .inr (12, [.ref x1, .ref x2, .int 0, .ref x3, .int 0, .int 0, .int 0, .int 0, .int (-1 : Int32), .int 0, .int 0, .ref x4, .ref x5, .int 0, .ref x6, .ref x7, .ref x8, .ref x9, .int 0, .int 0, .ref x10, .int 0, .ref x11, .ref x12, .ref x13, .ref x14, .int 0, .int 0, .int 0, .int 0, .int 0, .int 0, .null, .null, .int 0, .int 0, .int 0, .int 0, .null, .null, .null, .int 0, .int 0, .int 0, .int 0, .null, .null, .null, .null, .int 0, .int 0])), (x1, .inl (cI, 16205, .inl (fun _ => 0))), (x2, .inl (D.1 22, 200, .inr (.inr (.inr (.inr (fun _ => none)))))), (x3, .inl (cI, 64, .inl (fun _ => 0))), (x4, .inl (cI, 6, .inl (fun _ => 0))), (x5, .inl (cI, 6, .inl (fun _ => 0))), (x6, .inl (cI, 4, .inl (fun _ => 0))), (x7, .inl (cI, 4, .inl (fun _ => 0))), (x8, .inl (D.1 20, 4, .inl (fun _ => 0))), (x9, .inl (D.1 20, 4, .inl (fun _ => 0))), (x10, .inl (D.1 21, 2000, .inl (fun _ => 0))), (x11, .inl (cI, 2200, .inl (fun _ => 0))), (x12, .inl (cI, 2200, .inl (fun _ => 0))), (x13, .inl (cI, 2200, .inl (fun _ => 0))), (x14, .inl (cI, 2200, .inl (fun _ => 0)))] : va_W)) fu_X12 tyX12 tyX12_ok nmX12 0 rfl rfl (Nat.le_of_ble_eq_true rfl) fw_1989 rfl rfl rfl rfl rfl rfl (Nat.le_of_ble_eq_true rfl) rfl dX12_init_122 (fun H locs I => ?_)
  refine lv_aload_n hx hb dX12_init_125 rfl (lv_at hl 0 rfl) ?_
  refine lv_iconst (v := (-1 : Int32)) hx hb dX12_init_126 (by decide) ?_
  refine fb_put X I (k := 28) (wn := ([(zh, .inr (12, [.ref x1, .ref x2, .int 0, .ref x3, .int 0, .int 0, .int 0, .int 0, .int (-1 : Int32), .int 0, .int 0, .ref x4, .ref x5, .int 0, .ref x6, .ref x7, .ref x8, .ref x9, .int 0, .int 0, .ref x10, .int 0, .ref x11, .ref x12, .ref x13, .ref x14, .int 0, .int 0, .int (-1 : Int32), .int 0, .int 0, .int 0, .null, .null, .int 0, .int 0, .int 0, .int 0, .null, .null, .null, .int 0, .int 0, .int 0, .int 0, .null, .null, .null, .null, .int 0, .int 0])), (x1, .inl (cI, 16205, .inl (fun _ => 0))), (x2, .inl (D.1 22, 200, .inr (.inr (.inr (.inr (fun _ => none)))))), (x3, .inl (cI, 64, .inl (fun _ => 0))), (x4, .inl (cI, 6, .inl (fun _ => 0))), (x5, .inl (cI, 6, .inl (fun _ => 0))), (x6, .inl (cI, 4, .inl (fun _ => 0))), (x7, .inl (cI, 4, .inl (fun _ => 0))), (x8, .inl (D.1 20, 4, .inl (fun _ => 0))), (x9, .inl (D.1 20, 4, .inl (fun _ => 0))), (x10, .inl (D.1 21, 2000, .inl (fun _ => 0))), (x11, .inl (cI, 2200, .inl (fun _ => 0))), (x12, .inl (cI, 2200, .inl (fun _ => 0))), (x13, .inl (cI, 2200, .inl (fun _ => 0))), (x14, .inl (cI, 2200, .inl (fun _ => 0)))] : va_W)) fu_X12 tyX12 tyX12_ok nmX12 0 rfl rfl (Nat.le_of_ble_eq_true rfl) fw_1992 rfl rfl rfl rfl rfl (Nat.le_of_ble_eq_true rfl) rfl dX12_init_127 (fun H locs I => ?_)
  refine lv_aload_n hx hb dX12_init_130 rfl (lv_at hl 0 rfl) ?_
  refine lv_sipush (v := (200 : Int32)) hx hb dX12_init_131 (by decide) ?_
  refine fb_newI (N := 200) X I fw_261 (by decide) (Nat.le_of_ble_eq_true rfl) (Nat.le_of_ble_eq_true rfl) (Nat.le_of_ble_eq_true rfl) dX12_init_134 (fun x15 H I => ?_)
  have I : fb_In D A s.heap ([(zh, .inr (12, [.ref x1, .ref x2, .int 0, .ref x3, .int 0, .int 0, .int 0, .int 0, .int (-1 : Int32), .int 0, .int 0, .ref x4, .ref x5, .int 0, .ref x6, .ref x7, .ref x8, .ref x9, .int 0, .int 0, .ref x10, .int 0, .ref x11, .ref x12, .ref x13, .ref x14, .int 0, .int 0, .int (-1 : Int32), .int 0, .int 0, .int 0, .null, .null, .int 0, .int 0, .int 0, .int 0, .null, .null, .null, .int 0, .int 0, .int 0, .int 0, .null, .null, .null, .null, .int 0, .int 0])), (x1, .inl (cI, 16205, .inl (fun _ => 0))), (x2, .inl (D.1 22, 200, .inr (.inr (.inr (.inr (fun _ => none)))))), (x3, .inl (cI, 64, .inl (fun _ => 0))), (x4, .inl (cI, 6, .inl (fun _ => 0))), (x5, .inl (cI, 6, .inl (fun _ => 0))), (x6, .inl (cI, 4, .inl (fun _ => 0))), (x7, .inl (cI, 4, .inl (fun _ => 0))), (x8, .inl (D.1 20, 4, .inl (fun _ => 0))), (x9, .inl (D.1 20, 4, .inl (fun _ => 0))), (x10, .inl (D.1 21, 2000, .inl (fun _ => 0))), (x11, .inl (cI, 2200, .inl (fun _ => 0))), (x12, .inl (cI, 2200, .inl (fun _ => 0))), (x13, .inl (cI, 2200, .inl (fun _ => 0))), (x14, .inl (cI, 2200, .inl (fun _ => 0))), (x15, .inl (cI, 200, .inl (fun _ => 0)))] : va_W) H _ := I
  refine fb_putF X I hin (k := 32) (wn := ([(zh, .inr (12, [.ref x1, .ref x2, .int 0, .ref x3, .int 0, .int 0, .int 0, .int 0, .int (-1 : Int32), .int 0, .int 0, .ref x4, .ref x5, .int 0, .ref x6, .ref x7, .ref x8, .ref x9, .int 0, .int 0, .ref x10, .int 0, .ref x11, .ref x12, .ref x13, .ref x14, .int 0, .int 0, .int (-1 : Int32), .int 0, .int 0, .int 0, .ref x15, .null, .int 0, .int 0, .int 0, .int 0, .null, .null, .null, .int 0, .int 0, .int 0, .int 0, .null, .null, .null, .null, .int 0, .int 0])), (x1, .inl (cI, 16205, .inl (fun _ => 0))), (x2, .inl (D.1 22, 200, .inr (.inr (.inr (.inr (fun _ => none)))))), (x3, .inl (cI, 64, .inl (fun _ => 0))), (x4, .inl (cI, 6, .inl (fun _ => 0))), (x5, .inl (cI, 6, .inl (fun _ => 0))), (x6, .inl (cI, 4, .inl (fun _ => 0))), (x7, .inl (cI, 4, .inl (fun _ => 0))), (x8, .inl (D.1 20, 4, .inl (fun _ => 0))), (x9, .inl (D.1 20, 4, .inl (fun _ => 0))), (x10, .inl (D.1 21, 2000, .inl (fun _ => 0))), (x11, .inl (cI, 2200, .inl (fun _ => 0))), (x12, .inl (cI, 2200, .inl (fun _ => 0))), (x13, .inl (cI, 2200, .inl (fun _ => 0))), (x14, .inl (cI, 2200, .inl (fun _ => 0))), (x15, .inl (cI, 200, .inl (fun _ => 0)))] : va_W)) fu_X12 tyX12 tyX12_ok nmX12 0 rfl rfl (Nat.le_of_ble_eq_true rfl) fw_1996 rfl rfl rfl rfl rfl rfl (Nat.le_of_ble_eq_true rfl) rfl dX12_init_136 (fun H locs I => ?_)
  refine lv_aload_n hx hb dX12_init_139 rfl (lv_at hl 0 rfl) ?_
  refine lv_sipush (v := (200 : Int32)) hx hb dX12_init_140 (by decide) ?_
  refine fb_newI (N := 200) X I fw_261 (by decide) (Nat.le_of_ble_eq_true rfl) (Nat.le_of_ble_eq_true rfl) (Nat.le_of_ble_eq_true rfl) dX12_init_143 (fun x16 H I => ?_)
  have I : fb_In D A s.heap ([(zh, .inr (12, [.ref x1, .ref x2, .int 0, .ref x3, .int 0, .int 0, .int 0, .int 0, .int (-1 : Int32), .int 0, .int 0, .ref x4, .ref x5, .int 0, .ref x6, .ref x7, .ref x8, .ref x9, .int 0, .int 0, .ref x10, .int 0, .ref x11, .ref x12, .ref x13, .ref x14, .int 0, .int 0, .int (-1 : Int32), .int 0, .int 0, .int 0, .ref x15, .null, .int 0, .int 0, .int 0, .int 0, .null, .null, .null, .int 0, .int 0, .int 0, .int 0, .null, .null, .null, .null, .int 0, .int 0])), (x1, .inl (cI, 16205, .inl (fun _ => 0))), (x2, .inl (D.1 22, 200, .inr (.inr (.inr (.inr (fun _ => none)))))), (x3, .inl (cI, 64, .inl (fun _ => 0))), (x4, .inl (cI, 6, .inl (fun _ => 0))), (x5, .inl (cI, 6, .inl (fun _ => 0))), (x6, .inl (cI, 4, .inl (fun _ => 0))), (x7, .inl (cI, 4, .inl (fun _ => 0))), (x8, .inl (D.1 20, 4, .inl (fun _ => 0))), (x9, .inl (D.1 20, 4, .inl (fun _ => 0))), (x10, .inl (D.1 21, 2000, .inl (fun _ => 0))), (x11, .inl (cI, 2200, .inl (fun _ => 0))), (x12, .inl (cI, 2200, .inl (fun _ => 0))), (x13, .inl (cI, 2200, .inl (fun _ => 0))), (x14, .inl (cI, 2200, .inl (fun _ => 0))), (x15, .inl (cI, 200, .inl (fun _ => 0))), (x16, .inl (cI, 200, .inl (fun _ => 0)))] : va_W) H _ := I
  refine fb_putF X I hin (k := 33) (wn := ([(zh, .inr (12, [.ref x1, .ref x2, .int 0, .ref x3, .int 0, .int 0, .int 0, .int 0, .int (-1 : Int32), .int 0, .int 0, .ref x4, .ref x5, .int 0, .ref x6, .ref x7, .ref x8, .ref x9, .int 0, .int 0, .ref x10, .int 0, .ref x11, .ref x12, .ref x13, .ref x14, .int 0, .int 0, .int (-1 : Int32), .int 0, .int 0, .int 0, .ref x15, .ref x16, .int 0, .int 0, .int 0, .int 0, .null, .null, .null, .int 0, .int 0, .int 0, .int 0, .null, .null, .null, .null, .int 0, .int 0])), (x1, .inl (cI, 16205, .inl (fun _ => 0))), (x2, .inl (D.1 22, 200, .inr (.inr (.inr (.inr (fun _ => none)))))), (x3, .inl (cI, 64, .inl (fun _ => 0))), (x4, .inl (cI, 6, .inl (fun _ => 0))), (x5, .inl (cI, 6, .inl (fun _ => 0))), (x6, .inl (cI, 4, .inl (fun _ => 0))), (x7, .inl (cI, 4, .inl (fun _ => 0))), (x8, .inl (D.1 20, 4, .inl (fun _ => 0))), (x9, .inl (D.1 20, 4, .inl (fun _ => 0))), (x10, .inl (D.1 21, 2000, .inl (fun _ => 0))), (x11, .inl (cI, 2200, .inl (fun _ => 0))), (x12, .inl (cI, 2200, .inl (fun _ => 0))), (x13, .inl (cI, 2200, .inl (fun _ => 0))), (x14, .inl (cI, 2200, .inl (fun _ => 0))), (x15, .inl (cI, 200, .inl (fun _ => 0))), (x16, .inl (cI, 200, .inl (fun _ => 0)))] : va_W)) fu_X12 tyX12 tyX12_ok nmX12 0 rfl rfl (Nat.le_of_ble_eq_true rfl) fw_1997 rfl rfl rfl rfl rfl rfl (Nat.le_of_ble_eq_true rfl) rfl dX12_init_145 (fun H locs I => ?_)
  refine lv_aload_n hx hb dX12_init_148 rfl (lv_at hl 0 rfl) ?_
  refine lv_sipush (v := (130 : Int32)) hx hb dX12_init_149 (by decide) ?_
  refine fb_newI (N := 130) X I fw_261 (by decide) (Nat.le_of_ble_eq_true rfl) (Nat.le_of_ble_eq_true rfl) (Nat.le_of_ble_eq_true rfl) dX12_init_152 (fun x17 H I => ?_)
  have I : fb_In D A s.heap ([(zh, .inr (12, [.ref x1, .ref x2, .int 0, .ref x3, .int 0, .int 0, .int 0, .int 0, .int (-1 : Int32), .int 0, .int 0, .ref x4, .ref x5, .int 0, .ref x6, .ref x7, .ref x8, .ref x9, .int 0, .int 0, .ref x10, .int 0, .ref x11, .ref x12, .ref x13, .ref x14, .int 0, .int 0, .int (-1 : Int32), .int 0, .int 0, .int 0, .ref x15, .ref x16, .int 0, .int 0, .int 0, .int 0, .null, .null, .null, .int 0, .int 0, .int 0, .int 0, .null, .null, .null, .null, .int 0, .int 0])), (x1, .inl (cI, 16205, .inl (fun _ => 0))), (x2, .inl (D.1 22, 200, .inr (.inr (.inr (.inr (fun _ => none)))))), (x3, .inl (cI, 64, .inl (fun _ => 0))), (x4, .inl (cI, 6, .inl (fun _ => 0))), (x5, .inl (cI, 6, .inl (fun _ => 0))), (x6, .inl (cI, 4, .inl (fun _ => 0))), (x7, .inl (cI, 4, .inl (fun _ => 0))), (x8, .inl (D.1 20, 4, .inl (fun _ => 0))), (x9, .inl (D.1 20, 4, .inl (fun _ => 0))), (x10, .inl (D.1 21, 2000, .inl (fun _ => 0))), (x11, .inl (cI, 2200, .inl (fun _ => 0))), (x12, .inl (cI, 2200, .inl (fun _ => 0))), (x13, .inl (cI, 2200, .inl (fun _ => 0))), (x14, .inl (cI, 2200, .inl (fun _ => 0))), (x15, .inl (cI, 200, .inl (fun _ => 0))), (x16, .inl (cI, 200, .inl (fun _ => 0))), (x17, .inl (cI, 130, .inl (fun _ => 0)))] : va_W) H _ := I
  refine fb_putF X I hin (k := 38) (wn := ([(zh, .inr (12, [.ref x1, .ref x2, .int 0, .ref x3, .int 0, .int 0, .int 0, .int 0, .int (-1 : Int32), .int 0, .int 0, .ref x4, .ref x5, .int 0, .ref x6, .ref x7, .ref x8, .ref x9, .int 0, .int 0, .ref x10, .int 0, .ref x11, .ref x12, .ref x13, .ref x14, .int 0, .int 0, .int (-1 : Int32), .int 0, .int 0, .int 0, .ref x15, .ref x16, .int 0, .int 0, .int 0, .int 0, .ref x17, .null, .null, .int 0, .int 0, .int 0, .int 0, .null, .null, .null, .null, .int 0, .int 0])), (x1, .inl (cI, 16205, .inl (fun _ => 0))), (x2, .inl (D.1 22, 200, .inr (.inr (.inr (.inr (fun _ => none)))))), (x3, .inl (cI, 64, .inl (fun _ => 0))), (x4, .inl (cI, 6, .inl (fun _ => 0))), (x5, .inl (cI, 6, .inl (fun _ => 0))), (x6, .inl (cI, 4, .inl (fun _ => 0))), (x7, .inl (cI, 4, .inl (fun _ => 0))), (x8, .inl (D.1 20, 4, .inl (fun _ => 0))), (x9, .inl (D.1 20, 4, .inl (fun _ => 0))), (x10, .inl (D.1 21, 2000, .inl (fun _ => 0))), (x11, .inl (cI, 2200, .inl (fun _ => 0))), (x12, .inl (cI, 2200, .inl (fun _ => 0))), (x13, .inl (cI, 2200, .inl (fun _ => 0))), (x14, .inl (cI, 2200, .inl (fun _ => 0))), (x15, .inl (cI, 200, .inl (fun _ => 0))), (x16, .inl (cI, 200, .inl (fun _ => 0))), (x17, .inl (cI, 130, .inl (fun _ => 0)))] : va_W)) fu_X12 tyX12 tyX12_ok nmX12 0 rfl rfl (Nat.le_of_ble_eq_true rfl) fw_2002 rfl rfl rfl rfl rfl rfl (Nat.le_of_ble_eq_true rfl) rfl dX12_init_154 (fun H locs I => ?_)
  refine lv_aload_n hx hb dX12_init_157 rfl (lv_at hl 0 rfl) ?_
  refine lv_sipush (v := (130 : Int32)) hx hb dX12_init_158 (by decide) ?_
  refine fb_newZ (N := 130) X I fw_2118 (by decide) (Nat.le_of_ble_eq_true rfl) (Nat.le_of_ble_eq_true rfl) (Nat.le_of_ble_eq_true rfl) dX12_init_161 (fun x18 H I => ?_)
  have I : fb_In D A s.heap ([(zh, .inr (12, [.ref x1, .ref x2, .int 0, .ref x3, .int 0, .int 0, .int 0, .int 0, .int (-1 : Int32), .int 0, .int 0, .ref x4, .ref x5, .int 0, .ref x6, .ref x7, .ref x8, .ref x9, .int 0, .int 0, .ref x10, .int 0, .ref x11, .ref x12, .ref x13, .ref x14, .int 0, .int 0, .int (-1 : Int32), .int 0, .int 0, .int 0, .ref x15, .ref x16, .int 0, .int 0, .int 0, .int 0, .ref x17, .null, .null, .int 0, .int 0, .int 0, .int 0, .null, .null, .null, .null, .int 0, .int 0])), (x1, .inl (cI, 16205, .inl (fun _ => 0))), (x2, .inl (D.1 22, 200, .inr (.inr (.inr (.inr (fun _ => none)))))), (x3, .inl (cI, 64, .inl (fun _ => 0))), (x4, .inl (cI, 6, .inl (fun _ => 0))), (x5, .inl (cI, 6, .inl (fun _ => 0))), (x6, .inl (cI, 4, .inl (fun _ => 0))), (x7, .inl (cI, 4, .inl (fun _ => 0))), (x8, .inl (D.1 20, 4, .inl (fun _ => 0))), (x9, .inl (D.1 20, 4, .inl (fun _ => 0))), (x10, .inl (D.1 21, 2000, .inl (fun _ => 0))), (x11, .inl (cI, 2200, .inl (fun _ => 0))), (x12, .inl (cI, 2200, .inl (fun _ => 0))), (x13, .inl (cI, 2200, .inl (fun _ => 0))), (x14, .inl (cI, 2200, .inl (fun _ => 0))), (x15, .inl (cI, 200, .inl (fun _ => 0))), (x16, .inl (cI, 200, .inl (fun _ => 0))), (x17, .inl (cI, 130, .inl (fun _ => 0))), (x18, .inl (D.1 20, 130, .inl (fun _ => 0)))] : va_W) H _ := I
  refine fb_putF X I hin (k := 39) (wn := ([(zh, .inr (12, [.ref x1, .ref x2, .int 0, .ref x3, .int 0, .int 0, .int 0, .int 0, .int (-1 : Int32), .int 0, .int 0, .ref x4, .ref x5, .int 0, .ref x6, .ref x7, .ref x8, .ref x9, .int 0, .int 0, .ref x10, .int 0, .ref x11, .ref x12, .ref x13, .ref x14, .int 0, .int 0, .int (-1 : Int32), .int 0, .int 0, .int 0, .ref x15, .ref x16, .int 0, .int 0, .int 0, .int 0, .ref x17, .ref x18, .null, .int 0, .int 0, .int 0, .int 0, .null, .null, .null, .null, .int 0, .int 0])), (x1, .inl (cI, 16205, .inl (fun _ => 0))), (x2, .inl (D.1 22, 200, .inr (.inr (.inr (.inr (fun _ => none)))))), (x3, .inl (cI, 64, .inl (fun _ => 0))), (x4, .inl (cI, 6, .inl (fun _ => 0))), (x5, .inl (cI, 6, .inl (fun _ => 0))), (x6, .inl (cI, 4, .inl (fun _ => 0))), (x7, .inl (cI, 4, .inl (fun _ => 0))), (x8, .inl (D.1 20, 4, .inl (fun _ => 0))), (x9, .inl (D.1 20, 4, .inl (fun _ => 0))), (x10, .inl (D.1 21, 2000, .inl (fun _ => 0))), (x11, .inl (cI, 2200, .inl (fun _ => 0))), (x12, .inl (cI, 2200, .inl (fun _ => 0))), (x13, .inl (cI, 2200, .inl (fun _ => 0))), (x14, .inl (cI, 2200, .inl (fun _ => 0))), (x15, .inl (cI, 200, .inl (fun _ => 0))), (x16, .inl (cI, 200, .inl (fun _ => 0))), (x17, .inl (cI, 130, .inl (fun _ => 0))), (x18, .inl (D.1 20, 130, .inl (fun _ => 0)))] : va_W)) fu_X12 tyX12 tyX12_ok nmX12 0 rfl rfl (Nat.le_of_ble_eq_true rfl) fw_2003 rfl rfl rfl rfl rfl rfl (Nat.le_of_ble_eq_true rfl) rfl dX12_init_163 (fun H locs I => ?_)
  refine lv_aload_n hx hb dX12_init_166 rfl (lv_at hl 0 rfl) ?_
  refine lv_bipush (v := (8 : Int32)) hx hb dX12_init_167 (by decide) ?_
  refine fb_newI (N := 8) X I fw_261 (by decide) (Nat.le_of_ble_eq_true rfl) (Nat.le_of_ble_eq_true rfl) (Nat.le_of_ble_eq_true rfl) dX12_init_169 (fun x19 H I => ?_)
  have I : fb_In D A s.heap ([(zh, .inr (12, [.ref x1, .ref x2, .int 0, .ref x3, .int 0, .int 0, .int 0, .int 0, .int (-1 : Int32), .int 0, .int 0, .ref x4, .ref x5, .int 0, .ref x6, .ref x7, .ref x8, .ref x9, .int 0, .int 0, .ref x10, .int 0, .ref x11, .ref x12, .ref x13, .ref x14, .int 0, .int 0, .int (-1 : Int32), .int 0, .int 0, .int 0, .ref x15, .ref x16, .int 0, .int 0, .int 0, .int 0, .ref x17, .ref x18, .null, .int 0, .int 0, .int 0, .int 0, .null, .null, .null, .null, .int 0, .int 0])), (x1, .inl (cI, 16205, .inl (fun _ => 0))), (x2, .inl (D.1 22, 200, .inr (.inr (.inr (.inr (fun _ => none)))))), (x3, .inl (cI, 64, .inl (fun _ => 0))), (x4, .inl (cI, 6, .inl (fun _ => 0))), (x5, .inl (cI, 6, .inl (fun _ => 0))), (x6, .inl (cI, 4, .inl (fun _ => 0))), (x7, .inl (cI, 4, .inl (fun _ => 0))), (x8, .inl (D.1 20, 4, .inl (fun _ => 0))), (x9, .inl (D.1 20, 4, .inl (fun _ => 0))), (x10, .inl (D.1 21, 2000, .inl (fun _ => 0))), (x11, .inl (cI, 2200, .inl (fun _ => 0))), (x12, .inl (cI, 2200, .inl (fun _ => 0))), (x13, .inl (cI, 2200, .inl (fun _ => 0))), (x14, .inl (cI, 2200, .inl (fun _ => 0))), (x15, .inl (cI, 200, .inl (fun _ => 0))), (x16, .inl (cI, 200, .inl (fun _ => 0))), (x17, .inl (cI, 130, .inl (fun _ => 0))), (x18, .inl (D.1 20, 130, .inl (fun _ => 0))), (x19, .inl (cI, 8, .inl (fun _ => 0)))] : va_W) H _ := I
  refine fb_putF X I hin (k := 40) (wn := ([(zh, .inr (12, [.ref x1, .ref x2, .int 0, .ref x3, .int 0, .int 0, .int 0, .int 0, .int (-1 : Int32), .int 0, .int 0, .ref x4, .ref x5, .int 0, .ref x6, .ref x7, .ref x8, .ref x9, .int 0, .int 0, .ref x10, .int 0, .ref x11, .ref x12, .ref x13, .ref x14, .int 0, .int 0, .int (-1 : Int32), .int 0, .int 0, .int 0, .ref x15, .ref x16, .int 0, .int 0, .int 0, .int 0, .ref x17, .ref x18, .ref x19, .int 0, .int 0, .int 0, .int 0, .null, .null, .null, .null, .int 0, .int 0])), (x1, .inl (cI, 16205, .inl (fun _ => 0))), (x2, .inl (D.1 22, 200, .inr (.inr (.inr (.inr (fun _ => none)))))), (x3, .inl (cI, 64, .inl (fun _ => 0))), (x4, .inl (cI, 6, .inl (fun _ => 0))), (x5, .inl (cI, 6, .inl (fun _ => 0))), (x6, .inl (cI, 4, .inl (fun _ => 0))), (x7, .inl (cI, 4, .inl (fun _ => 0))), (x8, .inl (D.1 20, 4, .inl (fun _ => 0))), (x9, .inl (D.1 20, 4, .inl (fun _ => 0))), (x10, .inl (D.1 21, 2000, .inl (fun _ => 0))), (x11, .inl (cI, 2200, .inl (fun _ => 0))), (x12, .inl (cI, 2200, .inl (fun _ => 0))), (x13, .inl (cI, 2200, .inl (fun _ => 0))), (x14, .inl (cI, 2200, .inl (fun _ => 0))), (x15, .inl (cI, 200, .inl (fun _ => 0))), (x16, .inl (cI, 200, .inl (fun _ => 0))), (x17, .inl (cI, 130, .inl (fun _ => 0))), (x18, .inl (D.1 20, 130, .inl (fun _ => 0))), (x19, .inl (cI, 8, .inl (fun _ => 0)))] : va_W)) fu_X12 tyX12 tyX12_ok nmX12 0 rfl rfl (Nat.le_of_ble_eq_true rfl) fw_2004 rfl rfl rfl rfl rfl rfl (Nat.le_of_ble_eq_true rfl) rfl dX12_init_171 (fun H locs I => ?_)
  refine lv_aload_n hx hb dX12_init_174 rfl (lv_at hl 0 rfl) ?_
  refine lv_sipush (v := (11008 : Int32)) hx hb dX12_init_175 (by decide) ?_
  refine fb_newI (N := 11008) X I fw_261 (by decide) (Nat.le_of_ble_eq_true rfl) (Nat.le_of_ble_eq_true rfl) (Nat.le_of_ble_eq_true rfl) dX12_init_178 (fun x20 H I => ?_)
  have I : fb_In D A s.heap ([(zh, .inr (12, [.ref x1, .ref x2, .int 0, .ref x3, .int 0, .int 0, .int 0, .int 0, .int (-1 : Int32), .int 0, .int 0, .ref x4, .ref x5, .int 0, .ref x6, .ref x7, .ref x8, .ref x9, .int 0, .int 0, .ref x10, .int 0, .ref x11, .ref x12, .ref x13, .ref x14, .int 0, .int 0, .int (-1 : Int32), .int 0, .int 0, .int 0, .ref x15, .ref x16, .int 0, .int 0, .int 0, .int 0, .ref x17, .ref x18, .ref x19, .int 0, .int 0, .int 0, .int 0, .null, .null, .null, .null, .int 0, .int 0])), (x1, .inl (cI, 16205, .inl (fun _ => 0))), (x2, .inl (D.1 22, 200, .inr (.inr (.inr (.inr (fun _ => none)))))), (x3, .inl (cI, 64, .inl (fun _ => 0))), (x4, .inl (cI, 6, .inl (fun _ => 0))), (x5, .inl (cI, 6, .inl (fun _ => 0))), (x6, .inl (cI, 4, .inl (fun _ => 0))), (x7, .inl (cI, 4, .inl (fun _ => 0))), (x8, .inl (D.1 20, 4, .inl (fun _ => 0))), (x9, .inl (D.1 20, 4, .inl (fun _ => 0))), (x10, .inl (D.1 21, 2000, .inl (fun _ => 0))), (x11, .inl (cI, 2200, .inl (fun _ => 0))), (x12, .inl (cI, 2200, .inl (fun _ => 0))), (x13, .inl (cI, 2200, .inl (fun _ => 0))), (x14, .inl (cI, 2200, .inl (fun _ => 0))), (x15, .inl (cI, 200, .inl (fun _ => 0))), (x16, .inl (cI, 200, .inl (fun _ => 0))), (x17, .inl (cI, 130, .inl (fun _ => 0))), (x18, .inl (D.1 20, 130, .inl (fun _ => 0))), (x19, .inl (cI, 8, .inl (fun _ => 0))), (x20, .inl (cI, 11008, .inl (fun _ => 0)))] : va_W) H _ := I
  refine fb_putF X I hin (k := 45) (wn := ([(zh, .inr (12, [.ref x1, .ref x2, .int 0, .ref x3, .int 0, .int 0, .int 0, .int 0, .int (-1 : Int32), .int 0, .int 0, .ref x4, .ref x5, .int 0, .ref x6, .ref x7, .ref x8, .ref x9, .int 0, .int 0, .ref x10, .int 0, .ref x11, .ref x12, .ref x13, .ref x14, .int 0, .int 0, .int (-1 : Int32), .int 0, .int 0, .int 0, .ref x15, .ref x16, .int 0, .int 0, .int 0, .int 0, .ref x17, .ref x18, .ref x19, .int 0, .int 0, .int 0, .int 0, .ref x20, .null, .null, .null, .int 0, .int 0])), (x1, .inl (cI, 16205, .inl (fun _ => 0))), (x2, .inl (D.1 22, 200, .inr (.inr (.inr (.inr (fun _ => none)))))), (x3, .inl (cI, 64, .inl (fun _ => 0))), (x4, .inl (cI, 6, .inl (fun _ => 0))), (x5, .inl (cI, 6, .inl (fun _ => 0))), (x6, .inl (cI, 4, .inl (fun _ => 0))), (x7, .inl (cI, 4, .inl (fun _ => 0))), (x8, .inl (D.1 20, 4, .inl (fun _ => 0))), (x9, .inl (D.1 20, 4, .inl (fun _ => 0))), (x10, .inl (D.1 21, 2000, .inl (fun _ => 0))), (x11, .inl (cI, 2200, .inl (fun _ => 0))), (x12, .inl (cI, 2200, .inl (fun _ => 0))), (x13, .inl (cI, 2200, .inl (fun _ => 0))), (x14, .inl (cI, 2200, .inl (fun _ => 0))), (x15, .inl (cI, 200, .inl (fun _ => 0))), (x16, .inl (cI, 200, .inl (fun _ => 0))), (x17, .inl (cI, 130, .inl (fun _ => 0))), (x18, .inl (D.1 20, 130, .inl (fun _ => 0))), (x19, .inl (cI, 8, .inl (fun _ => 0))), (x20, .inl (cI, 11008, .inl (fun _ => 0)))] : va_W)) fu_X12 tyX12 tyX12_ok nmX12 0 rfl rfl (Nat.le_of_ble_eq_true rfl) fw_2009 rfl rfl rfl rfl rfl rfl (Nat.le_of_ble_eq_true rfl) rfl dX12_init_180 (fun H locs I => ?_)
  refine lv_aload_n hx hb dX12_init_183 rfl (lv_at hl 0 rfl) ?_
  refine lv_sipush (v := (11008 : Int32)) hx hb dX12_init_184 (by decide) ?_
  refine fb_newI (N := 11008) X I fw_261 (by decide) (Nat.le_of_ble_eq_true rfl) (Nat.le_of_ble_eq_true rfl) (Nat.le_of_ble_eq_true rfl) dX12_init_187 (fun x21 H I => ?_)
  have I : fb_In D A s.heap ([(zh, .inr (12, [.ref x1, .ref x2, .int 0, .ref x3, .int 0, .int 0, .int 0, .int 0, .int (-1 : Int32), .int 0, .int 0, .ref x4, .ref x5, .int 0, .ref x6, .ref x7, .ref x8, .ref x9, .int 0, .int 0, .ref x10, .int 0, .ref x11, .ref x12, .ref x13, .ref x14, .int 0, .int 0, .int (-1 : Int32), .int 0, .int 0, .int 0, .ref x15, .ref x16, .int 0, .int 0, .int 0, .int 0, .ref x17, .ref x18, .ref x19, .int 0, .int 0, .int 0, .int 0, .ref x20, .null, .null, .null, .int 0, .int 0])), (x1, .inl (cI, 16205, .inl (fun _ => 0))), (x2, .inl (D.1 22, 200, .inr (.inr (.inr (.inr (fun _ => none)))))), (x3, .inl (cI, 64, .inl (fun _ => 0))), (x4, .inl (cI, 6, .inl (fun _ => 0))), (x5, .inl (cI, 6, .inl (fun _ => 0))), (x6, .inl (cI, 4, .inl (fun _ => 0))), (x7, .inl (cI, 4, .inl (fun _ => 0))), (x8, .inl (D.1 20, 4, .inl (fun _ => 0))), (x9, .inl (D.1 20, 4, .inl (fun _ => 0))), (x10, .inl (D.1 21, 2000, .inl (fun _ => 0))), (x11, .inl (cI, 2200, .inl (fun _ => 0))), (x12, .inl (cI, 2200, .inl (fun _ => 0))), (x13, .inl (cI, 2200, .inl (fun _ => 0))), (x14, .inl (cI, 2200, .inl (fun _ => 0))), (x15, .inl (cI, 200, .inl (fun _ => 0))), (x16, .inl (cI, 200, .inl (fun _ => 0))), (x17, .inl (cI, 130, .inl (fun _ => 0))), (x18, .inl (D.1 20, 130, .inl (fun _ => 0))), (x19, .inl (cI, 8, .inl (fun _ => 0))), (x20, .inl (cI, 11008, .inl (fun _ => 0))), (x21, .inl (cI, 11008, .inl (fun _ => 0)))] : va_W) H _ := I
  refine fb_putF X I hin (k := 46) (wn := ([(zh, .inr (12, [.ref x1, .ref x2, .int 0, .ref x3, .int 0, .int 0, .int 0, .int 0, .int (-1 : Int32), .int 0, .int 0, .ref x4, .ref x5, .int 0, .ref x6, .ref x7, .ref x8, .ref x9, .int 0, .int 0, .ref x10, .int 0, .ref x11, .ref x12, .ref x13, .ref x14, .int 0, .int 0, .int (-1 : Int32), .int 0, .int 0, .int 0, .ref x15, .ref x16, .int 0, .int 0, .int 0, .int 0, .ref x17, .ref x18, .ref x19, .int 0, .int 0, .int 0, .int 0, .ref x20, .ref x21, .null, .null, .int 0, .int 0])), (x1, .inl (cI, 16205, .inl (fun _ => 0))), (x2, .inl (D.1 22, 200, .inr (.inr (.inr (.inr (fun _ => none)))))), (x3, .inl (cI, 64, .inl (fun _ => 0))), (x4, .inl (cI, 6, .inl (fun _ => 0))), (x5, .inl (cI, 6, .inl (fun _ => 0))), (x6, .inl (cI, 4, .inl (fun _ => 0))), (x7, .inl (cI, 4, .inl (fun _ => 0))), (x8, .inl (D.1 20, 4, .inl (fun _ => 0))), (x9, .inl (D.1 20, 4, .inl (fun _ => 0))), (x10, .inl (D.1 21, 2000, .inl (fun _ => 0))), (x11, .inl (cI, 2200, .inl (fun _ => 0))), (x12, .inl (cI, 2200, .inl (fun _ => 0))), (x13, .inl (cI, 2200, .inl (fun _ => 0))), (x14, .inl (cI, 2200, .inl (fun _ => 0))), (x15, .inl (cI, 200, .inl (fun _ => 0))), (x16, .inl (cI, 200, .inl (fun _ => 0))), (x17, .inl (cI, 130, .inl (fun _ => 0))), (x18, .inl (D.1 20, 130, .inl (fun _ => 0))), (x19, .inl (cI, 8, .inl (fun _ => 0))), (x20, .inl (cI, 11008, .inl (fun _ => 0))), (x21, .inl (cI, 11008, .inl (fun _ => 0)))] : va_W)) fu_X12 tyX12 tyX12_ok nmX12 0 rfl rfl (Nat.le_of_ble_eq_true rfl) fw_2010 rfl rfl rfl rfl rfl rfl (Nat.le_of_ble_eq_true rfl) rfl dX12_init_189 (fun H locs I => ?_)
  refine lv_aload_n hx hb dX12_init_192 rfl (lv_at hl 0 rfl) ?_
  refine lv_sipush (v := (11008 : Int32)) hx hb dX12_init_193 (by decide) ?_
  refine fb_newI (N := 11008) X I fw_261 (by decide) (Nat.le_of_ble_eq_true rfl) (Nat.le_of_ble_eq_true rfl) (Nat.le_of_ble_eq_true rfl) dX12_init_196 (fun x22 H I => ?_)
  have I : fb_In D A s.heap ([(zh, .inr (12, [.ref x1, .ref x2, .int 0, .ref x3, .int 0, .int 0, .int 0, .int 0, .int (-1 : Int32), .int 0, .int 0, .ref x4, .ref x5, .int 0, .ref x6, .ref x7, .ref x8, .ref x9, .int 0, .int 0, .ref x10, .int 0, .ref x11, .ref x12, .ref x13, .ref x14, .int 0, .int 0, .int (-1 : Int32), .int 0, .int 0, .int 0, .ref x15, .ref x16, .int 0, .int 0, .int 0, .int 0, .ref x17, .ref x18, .ref x19, .int 0, .int 0, .int 0, .int 0, .ref x20, .ref x21, .null, .null, .int 0, .int 0])), (x1, .inl (cI, 16205, .inl (fun _ => 0))), (x2, .inl (D.1 22, 200, .inr (.inr (.inr (.inr (fun _ => none)))))), (x3, .inl (cI, 64, .inl (fun _ => 0))), (x4, .inl (cI, 6, .inl (fun _ => 0))), (x5, .inl (cI, 6, .inl (fun _ => 0))), (x6, .inl (cI, 4, .inl (fun _ => 0))), (x7, .inl (cI, 4, .inl (fun _ => 0))), (x8, .inl (D.1 20, 4, .inl (fun _ => 0))), (x9, .inl (D.1 20, 4, .inl (fun _ => 0))), (x10, .inl (D.1 21, 2000, .inl (fun _ => 0))), (x11, .inl (cI, 2200, .inl (fun _ => 0))), (x12, .inl (cI, 2200, .inl (fun _ => 0))), (x13, .inl (cI, 2200, .inl (fun _ => 0))), (x14, .inl (cI, 2200, .inl (fun _ => 0))), (x15, .inl (cI, 200, .inl (fun _ => 0))), (x16, .inl (cI, 200, .inl (fun _ => 0))), (x17, .inl (cI, 130, .inl (fun _ => 0))), (x18, .inl (D.1 20, 130, .inl (fun _ => 0))), (x19, .inl (cI, 8, .inl (fun _ => 0))), (x20, .inl (cI, 11008, .inl (fun _ => 0))), (x21, .inl (cI, 11008, .inl (fun _ => 0))), (x22, .inl (cI, 11008, .inl (fun _ => 0)))] : va_W) H _ := I
  refine fb_putF X I hin (k := 47) (wn := ([(zh, .inr (12, [.ref x1, .ref x2, .int 0, .ref x3, .int 0, .int 0, .int 0, .int 0, .int (-1 : Int32), .int 0, .int 0, .ref x4, .ref x5, .int 0, .ref x6, .ref x7, .ref x8, .ref x9, .int 0, .int 0, .ref x10, .int 0, .ref x11, .ref x12, .ref x13, .ref x14, .int 0, .int 0, .int (-1 : Int32), .int 0, .int 0, .int 0, .ref x15, .ref x16, .int 0, .int 0, .int 0, .int 0, .ref x17, .ref x18, .ref x19, .int 0, .int 0, .int 0, .int 0, .ref x20, .ref x21, .ref x22, .null, .int 0, .int 0])), (x1, .inl (cI, 16205, .inl (fun _ => 0))), (x2, .inl (D.1 22, 200, .inr (.inr (.inr (.inr (fun _ => none)))))), (x3, .inl (cI, 64, .inl (fun _ => 0))), (x4, .inl (cI, 6, .inl (fun _ => 0))), (x5, .inl (cI, 6, .inl (fun _ => 0))), (x6, .inl (cI, 4, .inl (fun _ => 0))), (x7, .inl (cI, 4, .inl (fun _ => 0))), (x8, .inl (D.1 20, 4, .inl (fun _ => 0))), (x9, .inl (D.1 20, 4, .inl (fun _ => 0))), (x10, .inl (D.1 21, 2000, .inl (fun _ => 0))), (x11, .inl (cI, 2200, .inl (fun _ => 0))), (x12, .inl (cI, 2200, .inl (fun _ => 0))), (x13, .inl (cI, 2200, .inl (fun _ => 0))), (x14, .inl (cI, 2200, .inl (fun _ => 0))), (x15, .inl (cI, 200, .inl (fun _ => 0))), (x16, .inl (cI, 200, .inl (fun _ => 0))), (x17, .inl (cI, 130, .inl (fun _ => 0))), (x18, .inl (D.1 20, 130, .inl (fun _ => 0))), (x19, .inl (cI, 8, .inl (fun _ => 0))), (x20, .inl (cI, 11008, .inl (fun _ => 0))), (x21, .inl (cI, 11008, .inl (fun _ => 0))), (x22, .inl (cI, 11008, .inl (fun _ => 0)))] : va_W)) fu_X12 tyX12 tyX12_ok nmX12 0 rfl rfl (Nat.le_of_ble_eq_true rfl) fw_2011 rfl rfl rfl rfl rfl rfl (Nat.le_of_ble_eq_true rfl) rfl dX12_init_198 (fun H locs I => ?_)
  refine lv_aload_n hx hb dX12_init_201 rfl (lv_at hl 0 rfl) ?_
  refine lv_sipush (v := (200 : Int32)) hx hb dX12_init_202 (by decide) ?_
  refine fb_newI (N := 200) X I fw_261 (by decide) (Nat.le_of_ble_eq_true rfl) (Nat.le_of_ble_eq_true rfl) (Nat.le_of_ble_eq_true rfl) dX12_init_205 (fun x23 H I => ?_)
  have I : fb_In D A s.heap ([(zh, .inr (12, [.ref x1, .ref x2, .int 0, .ref x3, .int 0, .int 0, .int 0, .int 0, .int (-1 : Int32), .int 0, .int 0, .ref x4, .ref x5, .int 0, .ref x6, .ref x7, .ref x8, .ref x9, .int 0, .int 0, .ref x10, .int 0, .ref x11, .ref x12, .ref x13, .ref x14, .int 0, .int 0, .int (-1 : Int32), .int 0, .int 0, .int 0, .ref x15, .ref x16, .int 0, .int 0, .int 0, .int 0, .ref x17, .ref x18, .ref x19, .int 0, .int 0, .int 0, .int 0, .ref x20, .ref x21, .ref x22, .null, .int 0, .int 0])), (x1, .inl (cI, 16205, .inl (fun _ => 0))), (x2, .inl (D.1 22, 200, .inr (.inr (.inr (.inr (fun _ => none)))))), (x3, .inl (cI, 64, .inl (fun _ => 0))), (x4, .inl (cI, 6, .inl (fun _ => 0))), (x5, .inl (cI, 6, .inl (fun _ => 0))), (x6, .inl (cI, 4, .inl (fun _ => 0))), (x7, .inl (cI, 4, .inl (fun _ => 0))), (x8, .inl (D.1 20, 4, .inl (fun _ => 0))), (x9, .inl (D.1 20, 4, .inl (fun _ => 0))), (x10, .inl (D.1 21, 2000, .inl (fun _ => 0))), (x11, .inl (cI, 2200, .inl (fun _ => 0))), (x12, .inl (cI, 2200, .inl (fun _ => 0))), (x13, .inl (cI, 2200, .inl (fun _ => 0))), (x14, .inl (cI, 2200, .inl (fun _ => 0))), (x15, .inl (cI, 200, .inl (fun _ => 0))), (x16, .inl (cI, 200, .inl (fun _ => 0))), (x17, .inl (cI, 130, .inl (fun _ => 0))), (x18, .inl (D.1 20, 130, .inl (fun _ => 0))), (x19, .inl (cI, 8, .inl (fun _ => 0))), (x20, .inl (cI, 11008, .inl (fun _ => 0))), (x21, .inl (cI, 11008, .inl (fun _ => 0))), (x22, .inl (cI, 11008, .inl (fun _ => 0))), (x23, .inl (cI, 200, .inl (fun _ => 0)))] : va_W) H _ := I
  refine fb_putF X I hin (k := 48) (wn := ([(zh, .inr (12, [.ref x1, .ref x2, .int 0, .ref x3, .int 0, .int 0, .int 0, .int 0, .int (-1 : Int32), .int 0, .int 0, .ref x4, .ref x5, .int 0, .ref x6, .ref x7, .ref x8, .ref x9, .int 0, .int 0, .ref x10, .int 0, .ref x11, .ref x12, .ref x13, .ref x14, .int 0, .int 0, .int (-1 : Int32), .int 0, .int 0, .int 0, .ref x15, .ref x16, .int 0, .int 0, .int 0, .int 0, .ref x17, .ref x18, .ref x19, .int 0, .int 0, .int 0, .int 0, .ref x20, .ref x21, .ref x22, .ref x23, .int 0, .int 0])), (x1, .inl (cI, 16205, .inl (fun _ => 0))), (x2, .inl (D.1 22, 200, .inr (.inr (.inr (.inr (fun _ => none)))))), (x3, .inl (cI, 64, .inl (fun _ => 0))), (x4, .inl (cI, 6, .inl (fun _ => 0))), (x5, .inl (cI, 6, .inl (fun _ => 0))), (x6, .inl (cI, 4, .inl (fun _ => 0))), (x7, .inl (cI, 4, .inl (fun _ => 0))), (x8, .inl (D.1 20, 4, .inl (fun _ => 0))), (x9, .inl (D.1 20, 4, .inl (fun _ => 0))), (x10, .inl (D.1 21, 2000, .inl (fun _ => 0))), (x11, .inl (cI, 2200, .inl (fun _ => 0))), (x12, .inl (cI, 2200, .inl (fun _ => 0))), (x13, .inl (cI, 2200, .inl (fun _ => 0))), (x14, .inl (cI, 2200, .inl (fun _ => 0))), (x15, .inl (cI, 200, .inl (fun _ => 0))), (x16, .inl (cI, 200, .inl (fun _ => 0))), (x17, .inl (cI, 130, .inl (fun _ => 0))), (x18, .inl (D.1 20, 130, .inl (fun _ => 0))), (x19, .inl (cI, 8, .inl (fun _ => 0))), (x20, .inl (cI, 11008, .inl (fun _ => 0))), (x21, .inl (cI, 11008, .inl (fun _ => 0))), (x22, .inl (cI, 11008, .inl (fun _ => 0))), (x23, .inl (cI, 200, .inl (fun _ => 0)))] : va_W)) fu_X12 tyX12 tyX12_ok nmX12 0 rfl rfl (Nat.le_of_ble_eq_true rfl) fw_2012 rfl rfl rfl rfl rfl rfl (Nat.le_of_ble_eq_true rfl) rfl dX12_init_207 (fun H locs I => ?_)
  have I := fb_In.pick (ws' := ([(zh, .inr (12, [.ref x1, .ref x2, .int 0, .ref x3, .int 0, .int 0, .int 0, .int 0, .int (-1 : Int32), .int 0, .int 0, .ref x4, .ref x5, .int 0, .ref x6, .ref x7, .ref x8, .ref x9, .int 0, .int 0, .ref x10, .int 0, .ref x11, .ref x12, .ref x13, .ref x14, .int 0, .int 0, .int (-1 : Int32), .int 0, .int 0, .int 0, .ref x15, .ref x16, .int 0, .int 0, .int 0, .int 0, .ref x17, .ref x18, .ref x19, .int 0, .int 0, .int 0, .int 0, .ref x20, .ref x21, .ref x22, .ref x23, .int 0, .int 0])), (x1, .inl (cI, 16205, .inl (fun _ => 0))), (x2, .inl (D.1 22, 200, .inr (.inr (.inr (.inr (fun _ => none)))))), (x3, .inl (cI, 64, .inl (fun _ => 0))), (x4, .inl (cI, 6, .inl (fun _ => 0))), (x5, .inl (cI, 6, .inl (fun _ => 0))), (x6, .inl (cI, 4, .inl (fun _ => 0))), (x7, .inl (cI, 4, .inl (fun _ => 0))), (x8, .inl (D.1 20, 4, .inl (fun _ => 0))), (x9, .inl (D.1 20, 4, .inl (fun _ => 0))), (x10, .inl (D.1 21, 2000, .inl (fun _ => 0))), (x11, .inl (cI, 2200, .inl (fun _ => 0))), (x12, .inl (cI, 2200, .inl (fun _ => 0))), (x13, .inl (cI, 2200, .inl (fun _ => 0))), (x14, .inl (cI, 2200, .inl (fun _ => 0))), (x15, .inl (cI, 200, .inl (fun _ => 0))), (x16, .inl (cI, 200, .inl (fun _ => 0))), (x17, .inl (cI, 130, .inl (fun _ => 0))), (x18, .inl (D.1 20, 130, .inl (fun _ => 0))), (x19, .inl (cI, 8, .inl (fun _ => 0))), (x20, .inl (cI, 11008, .inl (fun _ => 0))), (x21, .inl (cI, 11008, .inl (fun _ => 0))), (x22, .inl (cI, 11008, .inl (fun _ => 0))), (x23, .inl (cI, 200, .inl (fun _ => 0)))] : va_W)) I [0, 1, 2, 3, 4, 5, 6, 7, 8, 9, 10, 11, 12, 13, 14, 15, 16, 17, 18, 19, 20, 21, 22, 23] (by decide) rfl
  obtain ⟨ta, ht⟩ : ∃ ta : Nat → Nat, ta = (fun k => ([x1, x2, 0, x3, 0, 0, 0, 0, 0, 0, 0, x4, x5, 0, x6, x7, x8, x9, 0, 0, x10, 0, x11, x12, x13, x14, 0, 0, 0, 0, 0, 0, x15, x16, 0, 0, 0, 0, x17, x18, x19, 0, 0, 0, 0, x20, x21, x22, x23, 0, 0] : List Nat).getD k 0) := ⟨_, rfl⟩
  have I : fb_In D A s.heap (([fb_o12 zh ta fr_e0, fb_aw cI (ta 0) 16205 (fun _ => 0), fb_qh D (ta 1) 200 (fun _ => none), fb_aw cI (ta 3) 64 (fun _ => 0), fb_aw cI (ta 11) 6 (fun _ => 0), fb_aw cI (ta 12) 6 (fun _ => 0), fb_aw cI (ta 14) 4 (fun _ => 0), fb_aw cI (ta 15) 4 (fun _ => 0), fb_aw (D.1 20) (ta 16) 4 (fun _ => 0), fb_aw (D.1 20) (ta 17) 4 (fun _ => 0), fb_aw (D.1 21) (ta 20) 2000 (fun _ => 0), fb_aw cI (ta 22) 2200 (fun _ => 0), fb_aw cI (ta 23) 2200 (fun _ => 0), fb_aw cI (ta 24) 2200 (fun _ => 0), fb_aw cI (ta 25) 2200 (fun _ => 0), fb_aw cI (ta 32) 200 (fun _ => 0), fb_aw cI (ta 33) 200 (fun _ => 0), fb_aw cI (ta 38) 130 (fun _ => 0), fb_aw (D.1 20) (ta 39) 130 (fun _ => 0), fb_aw cI (ta 40) 8 (fun _ => 0), fb_aw cI (ta 45) 11008 (fun _ => 0), fb_aw cI (ta 46) 11008 (fun _ => 0), fb_aw cI (ta 47) 11008 (fun _ => 0), fb_aw cI (ta 48) 200 (fun _ => 0)] : List va_W).flatten) H locs := by rw [ht]; exact I
  refine lv_aload_n hx hb dX12_init_210 rfl (lv_at hl 0 rfl) ?_
  refine fb_gV (cs := [fb_o12 zh ta fr_e0, fb_aw cI (ta 0) 16205 (fun _ => 0)]) (rs := [fb_qh D (ta 1) 200 (fun _ => none), fb_aw cI (ta 3) 64 (fun _ => 0), fb_aw cI (ta 11) 6 (fun _ => 0), fb_aw cI (ta 12) 6 (fun _ => 0), fb_aw cI (ta 14) 4 (fun _ => 0), fb_aw cI (ta 15) 4 (fun _ => 0), fb_aw (D.1 20) (ta 16) 4 (fun _ => 0), fb_aw (D.1 20) (ta 17) 4 (fun _ => 0), fb_aw (D.1 21) (ta 20) 2000 (fun _ => 0), fb_aw cI (ta 22) 2200 (fun _ => 0), fb_aw cI (ta 23) 2200 (fun _ => 0), fb_aw cI (ta 24) 2200 (fun _ => 0), fb_aw cI (ta 25) 2200 (fun _ => 0), fb_aw cI (ta 32) 200 (fun _ => 0), fb_aw cI (ta 33) 200 (fun _ => 0), fb_aw cI (ta 38) 130 (fun _ => 0), fb_aw (D.1 20) (ta 39) 130 (fun _ => 0), fb_aw cI (ta 40) 8 (fun _ => 0), fb_aw cI (ta 45) 11008 (fun _ => 0), fb_aw cI (ta 46) 11008 (fun _ => 0), fb_aw cI (ta 47) 11008 (fun _ => 0), fb_aw cI (ta 48) 200 (fun _ => 0)]) (fun (t : Unit) => [fb_o12 zh ta (upd (upd fr_e0 10 (0 : Int32)) 2 (0 : Int32)), fb_aw cI (ta 0) 16205 (fr_m (fun _ => 0) 0), fb_qh D (ta 1) 200 (fun _ => none), fb_aw cI (ta 3) 64 (fun _ => 0), fb_aw cI (ta 11) 6 (fun _ => 0), fb_aw cI (ta 12) 6 (fun _ => 0), fb_aw cI (ta 14) 4 (fun _ => 0), fb_aw cI (ta 15) 4 (fun _ => 0), fb_aw (D.1 20) (ta 16) 4 (fun _ => 0), fb_aw (D.1 20) (ta 17) 4 (fun _ => 0), fb_aw (D.1 21) (ta 20) 2000 (fun _ => 0), fb_aw cI (ta 22) 2200 (fun _ => 0), fb_aw cI (ta 23) 2200 (fun _ => 0), fb_aw cI (ta 24) 2200 (fun _ => 0), fb_aw cI (ta 25) 2200 (fun _ => 0), fb_aw cI (ta 32) 200 (fun _ => 0), fb_aw cI (ta 33) 200 (fun _ => 0), fb_aw cI (ta 38) 130 (fun _ => 0), fb_aw (D.1 20) (ta 39) 130 (fun _ => 0), fb_aw cI (ta 40) 8 (fun _ => 0), fb_aw cI (ta 45) 11008 (fun _ => 0), fb_aw cI (ta 46) 11008 (fun _ => 0), fb_aw cI (ta 47) 11008 (fun _ => 0), fb_aw cI (ta 48) 200 (fun _ => 0)]) (fun (t : Unit) => [fb_o12 zh ta (upd (upd fr_e0 10 (0 : Int32)) 2 (0 : Int32)), fb_aw cI (ta 0) 16205 (fr_m (fun _ => 0) 0)]) X I [0, 1, 2, 3, 4, 5, 6, 7, 8, 9, 10, 11, 12, 13, 14, 15, 16, 17, 18, 19, 20, 21, 22, 23] 24 rfl (by decide +kernel) rfl rfl [0, 1, 2, 3, 4, 5, 6, 7, 8, 9, 10, 11, 12, 13, 14, 15, 16, 17, 18, 19, 20, 21, 22, 23] 24 (fun _ => rfl) (by decide +kernel) (fun _ => rfl) (fun _ => rfl) (fun I => fb_rV (As := []) (rest := []) X hl (fb_goodV fw_1941 fw_1943 fw_84 fw_204 fw_1944) (c_start l D cI cJ zh ta fr_e0 (fun _ => 0) _ (fun _ _ _ _ _ => rfl)) rfl rfl rfl (by decide +kernel : fb_hd yX12_start 0) ⟨Nat.le_of_ble_eq_true rfl, Nat.le_of_ble_eq_true rfl⟩ rfl rfl rfl rfl rfl (Nat.le_of_ble_eq_true rfl) ⟨Nat.le_of_ble_eq_true rfl, Nat.le_of_ble_eq_true rfl⟩ dX12_init_211 I) ?_
  intro w1 H locs _ I
  have I : fb_In D A s.heap (([fb_o12 zh ta (upd (upd fr_e0 10 (0 : Int32)) 2 (0 : Int32)), fb_aw cI (ta 0) 16205 (fr_m (fun _ => 0) 0), fb_qh D (ta 1) 200 (fun _ => none), fb_aw cI (ta 3) 64 (fun _ => 0), fb_aw cI (ta 11) 6 (fun _ => 0), fb_aw cI (ta 12) 6 (fun _ => 0), fb_aw cI (ta 14) 4 (fun _ => 0), fb_aw cI (ta 15) 4 (fun _ => 0), fb_aw (D.1 20) (ta 16) 4 (fun _ => 0), fb_aw (D.1 20) (ta 17) 4 (fun _ => 0), fb_aw (D.1 21) (ta 20) 2000 (fun _ => 0), fb_aw cI (ta 22) 2200 (fun _ => 0), fb_aw cI (ta 23) 2200 (fun _ => 0), fb_aw cI (ta 24) 2200 (fun _ => 0), fb_aw cI (ta 25) 2200 (fun _ => 0), fb_aw cI (ta 32) 200 (fun _ => 0), fb_aw cI (ta 33) 200 (fun _ => 0), fb_aw cI (ta 38) 130 (fun _ => 0), fb_aw (D.1 20) (ta 39) 130 (fun _ => 0), fb_aw cI (ta 40) 8 (fun _ => 0), fb_aw cI (ta 45) 11008 (fun _ => 0), fb_aw cI (ta 46) 11008 (fun _ => 0), fb_aw cI (ta 47) 11008 (fun _ => 0), fb_aw cI (ta 48) 200 (fun _ => 0)] : List va_W).flatten) H locs := I
  have I : fb_In D A s.heap (([fb_o12 zh ta fr_e0, fb_aw cI (ta 0) 16205 (fr_m (fun _ => 0) 0), fb_qh D (ta 1) 200 (fun _ => none), fb_aw cI (ta 3) 64 (fun _ => 0), fb_aw cI (ta 11) 6 (fun _ => 0), fb_aw cI (ta 12) 6 (fun _ => 0), fb_aw cI (ta 14) 4 (fun _ => 0), fb_aw cI (ta 15) 4 (fun _ => 0), fb_aw (D.1 20) (ta 16) 4 (fun _ => 0), fb_aw (D.1 20) (ta 17) 4 (fun _ => 0), fb_aw (D.1 21) (ta 20) 2000 (fun _ => 0), fb_aw cI (ta 22) 2200 (fun _ => 0), fb_aw cI (ta 23) 2200 (fun _ => 0), fb_aw cI (ta 24) 2200 (fun _ => 0), fb_aw cI (ta 25) 2200 (fun _ => 0), fb_aw cI (ta 32) 200 (fun _ => 0), fb_aw cI (ta 33) 200 (fun _ => 0), fb_aw cI (ta 38) 130 (fun _ => 0), fb_aw (D.1 20) (ta 39) 130 (fun _ => 0), fb_aw cI (ta 40) 8 (fun _ => 0), fb_aw cI (ta 45) 11008 (fun _ => 0), fb_aw cI (ta 46) 11008 (fun _ => 0), fb_aw cI (ta 47) 11008 (fun _ => 0), fb_aw cI (ta 48) 200 (fun _ => 0)] : List va_W).flatten) H locs := I
  refine W.widen (k := 24) (n := 61206) (by omega) (by omega) ?_
  exact fb_retV (u := ta) X I trivial dX12_init_214
end
section
/-! a machine over a memory of zeros: its steps, its answers -/
/-- the machine behind k steps over zeros -/
abbrev fb_np (k : Nat) (s : fb_MS) : Prop := (s.2.1 = fun _ => 0) ∧ s.1 10 = 0 ∧ s.1 9 = nI (k % 4096) ∧ s.1 11 = nI k ∧ s.1 12 = nI k ∧ s.1 13 = 0 ∧ s.2.2.2.2.1 = false ∧ s.2.2.2.2.2.1 2 = 0 ∧ s.2.2.2.2.2.1 3 = 0 ∧ s.2.2.2.2.2.1 6 = 0 ∧ s.2.2.2.2.2.1 9 = 0
theorem fb_np.pc {k : Nat} {s : fb_MS} (h : fb_np k s) : s.1 9 = nI (k % 4096) := h.2.2.1
theorem fb_np.ic {k : Nat} {s : fb_MS} (h : fb_np k s) : s.1 12 = nI k := h.2.2.2.2.1
theorem fb_np.cc {k : Nat} {s : fb_MS} (h : fb_np k s) : s.1 13 = 0 := h.2.2.2.2.2.1
theorem fb_np.p3 {k : Nat} {s : fb_MS} (h : fb_np k s) : s.2.2.2.2.2.1 3 = 0 := h.2.2.2.2.2.2.2.2.1
end
section
section NFR
variable {p : Program} {l : Launch} {e : Env} {R0 : Room} {s : State} {m : MethodId} {args : Array Value} {below : List Frame} {meth : Method} {c : Code} {H : Heap} {locs : List Loc} {cells slots mc ms : Nat} {Q : State → Prop}
  {cc : ByteArray} {own : String} {nL : Nat} {ret' : Option FieldType} {D : va_G} {tys : List (ClassId × FieldType)} {A : Nat → Prop} {wc R : va_W} {pc : Nat} {ls : Array Slot} {lv : List (Nat × Value)} {rest : List Value}
theorem fb_goNF {S : Type} {post : S → Prop} {wf : S → va_W} {a : Array Value} {st0 : List Value} (X : fb_Bx p s m args meth c cc own nL ret' D tys A) (I : fb_In D A s.heap (wc ++ R) H locs)
    (hr : va_Run p l e R0 s m args below meth c H locs cells slots mc ms (F0 m pc ls st0) rest (fb_QV D (va_A wc H.size) post wf a) (va_A wc H.size))
    (kk : ∀ (u : S) (H1 : Heap) (locs1 : List Loc), post u → fb_In D A s.heap (wf u ++ R) H1 locs1 → W p l e R0 s m args below meth c H1 locs1 (cells + mc) (slots + ms) Q (F0 m (pc + 3) ls rest)) : W p l e R0 s m args below meth c H locs cells slots Q (F0 m pc ls st0) := by
  obtain ⟨hx, hb, hr', hml, hown, hts, hlk, hA, hK, hF⟩ := X
  refine va_callv hr I.2.2 (fun q _ h => fb_freeB I hA q h) (fb_freeB I hA) ?_
  intro u t H1 locs1 ht hvm hp hBt hsz hkk hS1
  subst ht
  exact kk u _ locs1 hp (fb_frame I hA hkk hBt.1 hBt.2 hS1)
variable {y : MethodName} {bytes : ByteArray} {maxL index n : Nat} {rm : Room} {As : List Value} {b : Nat}
theorem fb_runIF {Qc : Array Value → State → Outcome → State → Prop} {free : Addr → Prop} {st0 : List Value} (X : fb_Bx p s m args meth c cc own nL ret' D tys A) (I : fb_In D A s.heap (wc ++ R) H locs) (hl : lv_has ls nL lv)
    (hM : Met l y (Cond.code y bytes maxL none :: fb_all) rm (fb_PP D tys (.ref b :: As) wc H.size) Qc mc ms free) (hcode : Cond.code y bytes maxL none ∈ fb_all) (hrc : rm.cells = mc) (hrs : rm.slots = ms) (hlink : Cond.methodLink own index y ∈ fb_all) (hini : Cond.initialized y.cls ∈ fb_all) (hy : y.name = "<init>") (him : Cond.instanceMethod y ∈ fb_all) (hd : fb_hd y n) (hR : rm.frames + 1 ≤ R0.frames ∧ 8 + (maxL + 11) + rm.locals ≤ R0.locals)
    (hn : As.length = n) (hst : st0 = As.reverse ++ .ref b :: rest) (hrest : (rest.map fun v => v.category).sum ≤ 8) (hcl : cells + mc ≤ R0.cells ∧ slots + ms ≤ R0.slots) (hdg : decode cc pc = .ok (.invokespecial index, 3)) :
    va_Run p l e R0 s m args below meth c H locs cells slots mc ms (F0 m pc ls st0) rest (Qc (Value.ref b :: As).toArray) free := by
  have X0 := X
  obtain ⟨hx, hb, hr, hml, hown, hts, hlk, hA, hK, hF⟩ := X
  subst hst
  exact va_runI (As := As) (rest := rest) ⟨hx, hb, hml, hown, hts⟩ hM (cwI n hts (fb_goodC hcode) rfl hrc hrs (hts _ hini) (hts _ hlink) (hts _ him) hy hd hR) ⟨fb_PP.blind, fb_preB X0 I⟩ rfl hn hl.1 rfl (lv_room hrest) hdg hcl
end NFR
theorem fb_bwB (cI cJ cL : ClassId) (zb : Nat) (t tl : Nat → Nat) (σ : fb_MS) (w : fb_AR) : fb_bw cI cJ cL zb t tl σ w = ([fb_o11 zb (t 0) (t 1) (t 2) (t 3) (t 4) (t 10) (t 20) (t 7) (t 8) (t 9), fb_o3 (t 1) (t 50) (t 51) (t 52) (fun _ => 0), fb_aw cI (t 52) 120 (fun _ => 0), fb_o4 (t 4) (t 0) (t 2) (t 1) (t 3) (t 64) (t 65) (t 66) (t 67) (t 69) fb_p0, fb_aw cI (t 66) 11008 (fun _ => 0), fb_mw cI (fun k => t (10 + k)) σ w, fb_mw cI (fun k => t (20 + k)) fb_m0 (fun _ => 0), fb_o0 (t 7) (t 30) (t 40) fb_h0, fb_mw cI (fun k => t (30 + k)) fb_m0 (fun _ => 0), fb_mw cI (fun k => t (40 + k)) fb_m0 (fun _ => 0), fb_o7 (t 8) (t 70) (t 71) (t 73) (t 74) (t 75) (fun _ => 0), fb_o6 (t 9) (t 80) (t 81) (t 82) (fun _ => 0), fb_aw cI (t 80) 4096 (fun _ => 0), fb_aw cI (t 81) 4096 (fun _ => 0), fb_aw cI (t 82) 4096 (fun _ => 0), fb_o9 (t 0) (t 100) (t 101) (t 102) (t 103) (fun _ => 0), fb_aw cI (t 100) 2000 (fun _ => 0), fb_aw cI (t 101) 2001 (fun _ => 0), fb_aw cI (t 102) 2001 (fun _ => 0), fb_jw cJ (t 103) 2001 (fun _ => 0), fb_jw cJ (t 50) 120 (fun _ => 0), fb_aw cI (t 51) 120 (fun _ => 0), fb_o10 (t 2) (t 0) (t 1) (fun _ => 0), fb_o8 (t 3) (t 0) (t 2) (t 90) (t 91) (fun _ => 0), fb_qw cL (t 90) 120 tl, fb_o1 (tl 0) (fun _ => 0), fb_aw cI (t 64) 11008 (fun _ => 0), fb_aw cI (t 65) 11008 (fun _ => 0), fb_aw cI (t 67) 2048 (fun _ => 0), fb_aw cI (t 69) 4 (fun _ => 0), fb_aw cI (t 70) 6 (fun _ => 0), fb_aw cI (t 71) 6 (fun _ => 0), fb_aw cI (t 73) 4 (fun _ => 0), fb_aw cI (t 74) 4 (fun _ => 0), fb_aw cI (t 75) 4 (fun _ => 0)] : List va_W).flatten := by
  unfold fb_bw
  simp only [List.flatten_cons, List.flatten_nil, List.append_nil]
end
section
/-! THE CLAIM OUT OF ONE WALK OF THE LAW'S BODY. Your part is whole_start (and what it stands on); all else here is the same for every law, but numbers. -/
def R_law : String := "FerriteBoardLaw"
/-- what holds at the law's entry: the machine, the code, the tables' words (any of lw_tbl by 'hts w (by decide +kernel)'), the script of L ints xs at the cell b, what the Statement gives of the start (any of its parts by flat_of_before) -/
def lw_At (p : Program) (s : State) (m : MethodId) (meth : Method) (c : Code) (b L : Nat) (xs : Nat → Int32) : Prop :=
  p.tables.exec = Jvm.exec ∧ c.code = code ∧ meth.sig.returnType = ret ∧ c.maxLocals = 9 ∧ s.vm.findClass R_law = some m.cls ∧ (∀ w ∈ lw_tbl, w.before #[Value.ref b] s = true) ∧ va_X b L xs s s.heap ∧ b < s.heap.size ∧ meth.locks = false ∧ (Jvm.Cond.and given_1 narrow_1).before #[Value.ref b] s = true

theorem fb_nIn : ∀ q ∈ fb_nM, Cond.methodLinkNest q.1 q.2.1 q.2.2.1 q.2.2.2 ∈ lw_tbl := by
  unfold fb_nM
  exact List.forall_mem_cons.mpr ⟨(List.mem_of_getElem? (i := 228) (by decide +kernel)), List.forall_mem_cons.mpr ⟨(List.mem_of_getElem? (i := 265) (by decide +kernel)), List.forall_mem_cons.mpr ⟨(List.mem_of_getElem? (i := 329) (by decide +kernel)), List.forall_mem_cons.mpr ⟨(List.mem_of_getElem? (i := 450) (by decide +kernel)), List.forall_mem_cons.mpr ⟨(List.mem_of_getElem? (i := 456) (by decide +kernel)), List.forall_mem_cons.mpr ⟨(List.mem_of_getElem? (i := 585) (by decide +kernel)), List.forall_mem_cons.mpr ⟨(List.mem_of_getElem? (i := 590) (by decide +kernel)), List.forall_mem_cons.mpr ⟨(List.mem_of_getElem? (i := 613) (by decide +kernel)), List.forall_mem_cons.mpr ⟨(List.mem_of_getElem? (i := 647) (by decide +kernel)), List.forall_mem_cons.mpr ⟨(List.mem_of_getElem? (i := 684) (by decide +kernel)), List.forall_mem_cons.mpr ⟨(List.mem_of_getElem? (i := 730) (by decide +kernel)), List.forall_mem_cons.mpr ⟨(List.mem_of_getElem? (i := 754) (by decide +kernel)), List.forall_mem_cons.mpr ⟨(List.mem_of_getElem? (i := 757) (by decide +kernel)), List.forall_mem_cons.mpr ⟨(List.mem_of_getElem? (i := 785) (by decide +kernel)), List.forall_mem_cons.mpr ⟨(List.mem_of_getElem? (i := 948) (by decide +kernel)), List.forall_mem_cons.mpr ⟨(List.mem_of_getElem? (i := 955) (by decide +kernel)), List.forall_mem_cons.mpr ⟨(List.mem_of_getElem? (i := 971) (by decide +kernel)), List.forall_mem_cons.mpr ⟨(List.mem_of_getElem? (i := 977) (by decide +kernel)), List.forall_mem_cons.mpr ⟨(List.mem_of_getElem? (i := 996) (by decide +kernel)), List.forall_mem_cons.mpr ⟨(List.mem_of_getElem? (i := 1001) (by decide +kernel)), List.forall_mem_cons.mpr ⟨(List.mem_of_getElem? (i := 1019) (by decide +kernel)), List.forall_mem_cons.mpr ⟨(List.mem_of_getElem? (i := 1020) (by decide +kernel)), List.forall_mem_cons.mpr ⟨(List.mem_of_getElem? (i := 1029) (by decide +kernel)), List.forall_mem_cons.mpr ⟨(List.mem_of_getElem? (i := 1051) (by decide +kernel)), List.forall_mem_cons.mpr ⟨(List.mem_of_getElem? (i := 1054) (by decide +kernel)), List.forall_mem_cons.mpr ⟨(List.mem_of_getElem? (i := 1057) (by decide +kernel)), List.forall_mem_cons.mpr ⟨(List.mem_of_getElem? (i := 1114) (by decide +kernel)), List.forall_mem_cons.mpr ⟨(List.mem_of_getElem? (i := 1206) (by decide +kernel)), List.forall_mem_cons.mpr ⟨(List.mem_of_getElem? (i := 1228) (by decide +kernel)), List.forall_mem_cons.mpr ⟨(List.mem_of_getElem? (i := 1229) (by decide +kernel)), List.forall_mem_cons.mpr ⟨(List.mem_of_getElem? (i := 1288) (by decide +kernel)), List.forall_mem_cons.mpr ⟨(List.mem_of_getElem? (i := 1307) (by decide +kernel)), List.forall_mem_cons.mpr ⟨(List.mem_of_getElem? (i := 1314) (by decide +kernel)), List.forall_mem_cons.mpr ⟨(List.mem_of_getElem? (i := 1402) (by decide +kernel)), List.forall_mem_cons.mpr ⟨(List.mem_of_getElem? (i := 1415) (by decide +kernel)), List.forall_mem_cons.mpr ⟨(List.mem_of_getElem? (i := 1522) (by decide +kernel)), List.forall_mem_cons.mpr ⟨(List.mem_of_getElem? (i := 1523) (by decide +kernel)), List.forall_mem_cons.mpr ⟨(List.mem_of_getElem? (i := 1530) (by decide +kernel)), List.forall_mem_cons.mpr ⟨(List.mem_of_getElem? (i := 1568) (by decide +kernel)), List.forall_mem_cons.mpr ⟨(List.mem_of_getElem? (i := 1582) (by decide +kernel)), fun _ h => absurd h List.not_mem_nil⟩⟩⟩⟩⟩⟩⟩⟩⟩⟩⟩⟩⟩⟩⟩⟩⟩⟩⟩⟩⟩⟩⟩⟩⟩⟩⟩⟩⟩⟩⟩⟩⟩⟩⟩⟩⟩⟩⟩⟩
theorem fb_dNOf {args : Array Value} {s : State} (hts : ∀ w ∈ lw_tbl, w.before args s = true) : ∀ q ∈ fb_dN, va_Nw (.declares q) s := by
  unfold fb_dN
  exact List.forall_mem_cons.mpr ⟨va_Nw.of rfl (hts _ (List.mem_of_getElem? (i := 1595) (by decide +kernel))), List.forall_mem_cons.mpr ⟨va_Nw.of rfl (hts _ (List.mem_of_getElem? (i := 1597) (by decide +kernel))), List.forall_mem_cons.mpr ⟨va_Nw.of rfl (hts _ (List.mem_of_getElem? (i := 1599) (by decide +kernel))), fun _ h => absurd h List.not_mem_nil⟩⟩⟩
theorem fb_cNOf {args : Array Value} {s : State} (hts : ∀ w ∈ lw_tbl, w.before args s = true) : ∀ q ∈ fb_cN, va_Nw (.castable q q) s := by
  unfold fb_cN
  exact List.forall_mem_cons.mpr ⟨va_Nw.of rfl (hts _ (List.mem_of_getElem? (i := 1593) (by decide +kernel))), List.forall_mem_cons.mpr ⟨va_Nw.of rfl (hts _ (List.mem_of_getElem? (i := 1672) (by decide +kernel))), List.forall_mem_cons.mpr ⟨va_Nw.of rfl (hts _ (List.mem_of_getElem? (i := 1696) (by decide +kernel))), fun _ h => absurd h List.not_mem_nil⟩⟩⟩
theorem fb_tx104 {args : Array Value} {s : State} (hts : ∀ w ∈ lw_tbl, w.before args s = true) (hgv : (Jvm.Cond.and given_1 narrow_1).before args s = true) : ∃ sa : Nat, vk_R "FerriteBoard" 104 "no such length" sa s := by
  have hs := flat_of_before _ hgv
  have h1 : (Cond.exactly (.string "FerriteBoard" 104) "java/lang/String").before args s = true := hs _ (by decide +kernel)
  obtain ⟨a, c, cell, k, h2, -⟩ := Cond.exactly_spec h1
  exact ⟨a, vk_R.of (A := args) (hts _ (List.mem_of_getElem? (i := 1679) (by decide +kernel))) h2⟩
theorem fb_tx162 {args : Array Value} {s : State} (hts : ∀ w ∈ lw_tbl, w.before args s = true) (hgv : (Jvm.Cond.and given_1 narrow_1).before args s = true) : ∃ sa : Nat, vk_R "FerriteBoard" 162 "no such name" sa s := by
  have hs := flat_of_before _ hgv
  have h1 : (Cond.exactly (.string "FerriteBoard" 162) "java/lang/String").before args s = true := hs _ (by decide +kernel)
  obtain ⟨a, c, cell, k, h2, -⟩ := Cond.exactly_spec h1
  exact ⟨a, vk_R.of (A := args) (hts _ (List.mem_of_getElem? (i := 1703) (by decide +kernel))) h2⟩
theorem fb_tx176 {args : Array Value} {s : State} (hts : ∀ w ∈ lw_tbl, w.before args s = true) (hgv : (Jvm.Cond.and given_1 narrow_1).before args s = true) : ∃ sa : Nat, vk_R "FerriteBoard" 176 "no address" sa s := by
  have hs := flat_of_before _ hgv
  have h1 : (Cond.exactly (.string "FerriteBoard" 176) "java/lang/String").before args s = true := hs _ (by decide +kernel)
  obtain ⟨a, c, cell, k, h2, -⟩ := Cond.exactly_spec h1
  exact ⟨a, vk_R.of (A := args) (hts _ (List.mem_of_getElem? (i := 1720) (by decide +kernel))) h2⟩
theorem fb_tx207 {args : Array Value} {s : State} (hts : ∀ w ∈ lw_tbl, w.before args s = true) (hgv : (Jvm.Cond.and given_1 narrow_1).before args s = true) : ∃ sa : Nat, vk_R "FerriteBoard" 207 "no byte" sa s := by
  have hs := flat_of_before _ hgv
  have h1 : (Cond.exactly (.string "FerriteBoard" 207) "java/lang/String").before args s = true := hs _ (by decide +kernel)
  obtain ⟨a, c, cell, k, h2, -⟩ := Cond.exactly_spec h1
  exact ⟨a, vk_R.of (A := args) (hts _ (List.mem_of_getElem? (i := 1743) (by decide +kernel))) h2⟩
theorem fb_tx227 {args : Array Value} {s : State} (hts : ∀ w ∈ lw_tbl, w.before args s = true) (hgv : (Jvm.Cond.and given_1 narrow_1).before args s = true) : ∃ sa : Nat, vk_R "FerriteBoard" 227 "no memory" sa s := by
  have hs := flat_of_before _ hgv
  have h1 : (Cond.exactly (.string "FerriteBoard" 227) "java/lang/String").before args s = true := hs _ (by decide +kernel)
  obtain ⟨a, c, cell, k, h2, -⟩ := Cond.exactly_spec h1
  exact ⟨a, vk_R.of (A := args) (hts _ (List.mem_of_getElem? (i := 1757) (by decide +kernel))) h2⟩
theorem fb_tx233 {args : Array Value} {s : State} (hts : ∀ w ∈ lw_tbl, w.before args s = true) (hgv : (Jvm.Cond.and given_1 narrow_1).before args s = true) : ∃ sa : Nat, vk_R "FerriteBoard" 233 "no such register" sa s := by
  have hs := flat_of_before _ hgv
  have h1 : (Cond.exactly (.string "FerriteBoard" 233) "java/lang/String").before args s = true := hs _ (by decide +kernel)
  obtain ⟨a, c, cell, k, h2, -⟩ := Cond.exactly_spec h1
  exact ⟨a, vk_R.of (A := args) (hts _ (List.mem_of_getElem? (i := 1766) (by decide +kernel))) h2⟩
theorem fb_tx235 {args : Array Value} {s : State} (hts : ∀ w ∈ lw_tbl, w.before args s = true) (hgv : (Jvm.Cond.and given_1 narrow_1).before args s = true) : ∃ sa : Nat, vk_R "FerriteBoard" 235 "it cannot be that" sa s := by
  have hs := flat_of_before _ hgv
  have h1 : (Cond.exactly (.string "FerriteBoard" 235) "java/lang/String").before args s = true := hs _ (by decide +kernel)
  obtain ⟨a, c, cell, k, h2, -⟩ := Cond.exactly_spec h1
  exact ⟨a, vk_R.of (A := args) (hts _ (List.mem_of_getElem? (i := 1767) (by decide +kernel))) h2⟩
theorem fb_tx253 {args : Array Value} {s : State} (hts : ∀ w ∈ lw_tbl, w.before args s = true) (hgv : (Jvm.Cond.and given_1 narrow_1).before args s = true) : ∃ sa : Nat, vk_R "FerriteBoard" 253 "not 1 to 5000 cycles" sa s := by
  have hs := flat_of_before _ hgv
  have h1 : (Cond.exactly (.string "FerriteBoard" 253) "java/lang/String").before args s = true := hs _ (by decide +kernel)
  obtain ⟨a, c, cell, k, h2, -⟩ := Cond.exactly_spec h1
  exact ⟨a, vk_R.of (A := args) (hts _ (List.mem_of_getElem? (i := 1782) (by decide +kernel))) h2⟩
theorem fb_tx271 {args : Array Value} {s : State} (hts : ∀ w ∈ lw_tbl, w.before args s = true) (hgv : (Jvm.Cond.and given_1 narrow_1).before args s = true) : ∃ sa : Nat, vk_R "FerriteBoard" 271 "not 1 to 200 steps" sa s := by
  have hs := flat_of_before _ hgv
  have h1 : (Cond.exactly (.string "FerriteBoard" 271) "java/lang/String").before args s = true := hs _ (by decide +kernel)
  obtain ⟨a, c, cell, k, h2, -⟩ := Cond.exactly_spec h1
  exact ⟨a, vk_R.of (A := args) (hts _ (List.mem_of_getElem? (i := 1790) (by decide +kernel))) h2⟩
theorem fb_tx280 {args : Array Value} {s : State} (hts : ∀ w ∈ lw_tbl, w.before args s = true) (hgv : (Jvm.Cond.and given_1 narrow_1).before args s = true) : ∃ sa : Nat, vk_R "FerriteBoard" 280 "not 0 to 1000 skips" sa s := by
  have hs := flat_of_before _ hgv
  have h1 : (Cond.exactly (.string "FerriteBoard" 280) "java/lang/String").before args s = true := hs _ (by decide +kernel)
  obtain ⟨a, c, cell, k, h2, -⟩ := Cond.exactly_spec h1
  exact ⟨a, vk_R.of (A := args) (hts _ (List.mem_of_getElem? (i := 1803) (by decide +kernel))) h2⟩
theorem fb_tx296 {args : Array Value} {s : State} (hts : ∀ w ∈ lw_tbl, w.before args s = true) (hgv : (Jvm.Cond.and given_1 narrow_1).before args s = true) : ∃ sa : Nat, vk_R "FerriteBoard" 296 "it ends ahead of its beginning" sa s := by
  have hs := flat_of_before _ hgv
  have h1 : (Cond.exactly (.string "FerriteBoard" 296) "java/lang/String").before args s = true := hs _ (by decide +kernel)
  obtain ⟨a, c, cell, k, h2, -⟩ := Cond.exactly_spec h1
  exact ⟨a, vk_R.of (A := args) (hts _ (List.mem_of_getElem? (i := 1817) (by decide +kernel))) h2⟩
theorem fb_tx343 {args : Array Value} {s : State} (hts : ∀ w ∈ lw_tbl, w.before args s = true) (hgv : (Jvm.Cond.and given_1 narrow_1).before args s = true) : ∃ sa : Nat, vk_R "FerriteBoard" 343 "no such bank" sa s := by
  have hs := flat_of_before _ hgv
  have h1 : (Cond.exactly (.string "FerriteBoard" 343) "java/lang/String").before args s = true := hs _ (by decide +kernel)
  obtain ⟨a, c, cell, k, h2, -⟩ := Cond.exactly_spec h1
  exact ⟨a, vk_R.of (A := args) (hts _ (List.mem_of_getElem? (i := 1838) (by decide +kernel))) h2⟩
theorem fb_tx345 {args : Array Value} {s : State} (hts : ∀ w ∈ lw_tbl, w.before args s = true) (hgv : (Jvm.Cond.and given_1 narrow_1).before args s = true) : ∃ sa : Nat, vk_R "FerriteBoard" 345 "no such place" sa s := by
  have hs := flat_of_before _ hgv
  have h1 : (Cond.exactly (.string "FerriteBoard" 345) "java/lang/String").before args s = true := hs _ (by decide +kernel)
  obtain ⟨a, c, cell, k, h2, -⟩ := Cond.exactly_spec h1
  exact ⟨a, vk_R.of (A := args) (hts _ (List.mem_of_getElem? (i := 1839) (by decide +kernel))) h2⟩
theorem fb_tx359 {args : Array Value} {s : State} (hts : ∀ w ∈ lw_tbl, w.before args s = true) (hgv : (Jvm.Cond.and given_1 narrow_1).before args s = true) : ∃ sa : Nat, vk_R "FerriteBoard" 359 "no such output" sa s := by
  have hs := flat_of_before _ hgv
  have h1 : (Cond.exactly (.string "FerriteBoard" 359) "java/lang/String").before args s = true := hs _ (by decide +kernel)
  obtain ⟨a, c, cell, k, h2, -⟩ := Cond.exactly_spec h1
  exact ⟨a, vk_R.of (A := args) (hts _ (List.mem_of_getElem? (i := 1848) (by decide +kernel))) h2⟩
theorem fb_tx364 {args : Array Value} {s : State} (hts : ∀ w ∈ lw_tbl, w.before args s = true) (hgv : (Jvm.Cond.and given_1 narrow_1).before args s = true) : ∃ sa : Nat, vk_R "FerriteBoard" 364 "no such call" sa s := by
  have hs := flat_of_before _ hgv
  have h1 : (Cond.exactly (.string "FerriteBoard" 364) "java/lang/String").before args s = true := hs _ (by decide +kernel)
  obtain ⟨a, c, cell, k, h2, -⟩ := Cond.exactly_spec h1
  exact ⟨a, vk_R.of (A := args) (hts _ (List.mem_of_getElem? (i := 1857) (by decide +kernel))) h2⟩
theorem fb_tMOf {args : Array Value} {s : State} (hts : ∀ w ∈ lw_tbl, w.before args s = true) (hgv : (Jvm.Cond.and given_1 narrow_1).before args s = true) : ∀ q ∈ fb_tM, ∃ sa : Nat, vk_R "FerriteBoard" q.1 q.2 sa s := by
  unfold fb_tM
  exact List.forall_mem_cons.mpr ⟨fb_tx104 hts hgv, List.forall_mem_cons.mpr ⟨fb_tx162 hts hgv, List.forall_mem_cons.mpr ⟨fb_tx176 hts hgv, List.forall_mem_cons.mpr ⟨fb_tx207 hts hgv, List.forall_mem_cons.mpr ⟨fb_tx227 hts hgv, List.forall_mem_cons.mpr ⟨fb_tx233 hts hgv, List.forall_mem_cons.mpr ⟨fb_tx235 hts hgv, List.forall_mem_cons.mpr ⟨fb_tx253 hts hgv, List.forall_mem_cons.mpr ⟨fb_tx271 hts hgv, List.forall_mem_cons.mpr ⟨fb_tx280 hts hgv, List.forall_mem_cons.mpr ⟨fb_tx296 hts hgv, List.forall_mem_cons.mpr ⟨fb_tx343 hts hgv, List.forall_mem_cons.mpr ⟨fb_tx345 hts hgv, List.forall_mem_cons.mpr ⟨fb_tx359 hts hgv, List.forall_mem_cons.mpr ⟨fb_tx364 hts hgv, fun _ h => absurd h List.not_mem_nil⟩⟩⟩⟩⟩⟩⟩⟩⟩⟩⟩⟩⟩⟩⟩
theorem fb_NstOf {args : Array Value} {s : State} (hts : ∀ w ∈ lw_tbl, w.before args s = true) (hgv : (Jvm.Cond.and given_1 narrow_1).before args s = true) : fb_Nst s := by
  have hs := flat_of_before _ hgv
  have h9 : (Cond.not (.castable "java/lang/IllegalArgumentException" "java/lang/IndexOutOfBoundsException")).before args s = true := hs _ (by decide +kernel)
  exact ⟨fun q hq => va_Nw.of rfl (hts _ (fb_nIn q hq)), va_Nw.of rfl (hts (.fieldLinkNest "FerriteBoard$Machine" 210 "FerriteBoard" "BRANCH_FLAGS" "[I" "FerriteBoard") (List.mem_of_getElem? (i := 1282) (by decide +kernel))), va_AO.of (hts _ (List.mem_of_getElem? (i := 327) (by decide +kernel))), (show fb_AOI s from hts (.arrayOver (.array .int)) (List.mem_of_getElem? (i := 1940) (by decide +kernel))), fb_dNOf hts, fb_cNOf hts, va_Nc.of h9, fb_tMOf hts hgv⟩
theorem fb_FzOf {args : Array Value} {s : State} (hts : ∀ w ∈ lw_tbl, w.before args s = true) (hgv : (Jvm.Cond.and given_1 narrow_1).before args s = true) : fb_Fz (fun q : Nat => s.heap.size ≤ q) s s.heap := by
  have hs := flat_of_before _ hgv
  have h1 : (Cond.arrayOf (.static "FerriteBoard" "BRANCH_FLAGS" "[I") .int).before args s = true := hs _ (by decide +kernel)
  have h2 := va_eqt (hs (.eq (.length (.static "FerriteBoard" "BRANCH_FLAGS" "[I")) (.int 4)) (by decide +kernel))
  have e0 := va_eqt (hs (.eq (.elem (.static "FerriteBoard" "BRANCH_FLAGS" "[I") (.int 0)) (.int 2)) (by decide +kernel))
  have e1 := va_eqt (hs (.eq (.elem (.static "FerriteBoard" "BRANCH_FLAGS" "[I") (.int 1)) (.int 1)) (by decide +kernel))
  have e2 := va_eqt (hs (.eq (.elem (.static "FerriteBoard" "BRANCH_FLAGS" "[I") (.int 2)) (.int 16)) (by decide +kernel))
  have e3 := va_eqt (hs (.eq (.elem (.static "FerriteBoard" "BRANCH_FLAGS" "[I") (.int 3)) (.int 8)) (by decide +kernel))
  have u1 : (Cond.isRef (.static "java/lang/Throwable" "UNASSIGNED_STACK" "[Ljava/lang/StackTraceElement;")).before args s = true := hs _ (by decide +kernel)
  have u2 : (Cond.isRef (.static "java/lang/Throwable" "SUPPRESSED_SENTINEL" "Ljava/util/List;")).before args s = true := hs _ (by decide +kernel)
  have hA : ∀ a : Nat, a < s.heap.size → ¬ (fun q : Nat => s.heap.size ≤ q) a := fun a ha => Nat.not_le.mpr ha
  obtain ⟨t, ht, hT⟩ := va_Tof (N := 4) (f := fun j => .int (fb_bf j)) (A := fun q : Nat => s.heap.size ≤ q) (by decide) h1 h2 (fun j hj => by
    match j, hj with
    | 0, _ => exact e0
    | 1, _ => exact e1
    | 2, _ => exact e2
    | 3, _ => exact e3
    | j + 4, hj => omega) hA
  exact ⟨t, va_Zof (hts _ (List.mem_of_getElem? (i := 1283) (by decide +kernel))) (hts _ (List.mem_of_getElem? (i := 191) (by decide +kernel))) ht hA, hT, vx_Zqof (hts _ (List.mem_of_getElem? (i := 1618) (by decide +kernel))) (hts _ (List.mem_of_getElem? (i := 205) (by decide +kernel))) u1 hA, vx_Zqof (hts _ (List.mem_of_getElem? (i := 1620) (by decide +kernel))) (hts _ (List.mem_of_getElem? (i := 205) (by decide +kernel))) u2 hA⟩
set_option maxRecDepth 100000 in
theorem fb_KOf {args : Array Value} {s : State} (htb : ∀ w ∈ lw_tbl, w.before args s = true) (hts : ∀ w ∈ fb_all, w.before args s = true) : ∃ (D : va_G) (cI cJ : ClassId), va_K D vwCl (fb_ty D cI cJ) s := by
  obtain ⟨c0, i0, h0⟩ := u_known (C := RX0) (T := TX0) (N := 6) (n := 6) hts fu_X0 (hts _ fw_584)
  obtain ⟨c1, i1, h1⟩ := u_known (C := RX1) (T := TX1) (N := 9) (n := 9) hts fu_X1 (hts _ fw_328)
  obtain ⟨c2, i2, h2⟩ := u_known (C := RX2) (T := TX2) (N := 17) (n := 17) hts fu_X2 (hts _ fw_449)
  obtain ⟨c3, i3, h3⟩ := u_known (C := RX3) (T := TX3) (N := 5) (n := 5) hts fu_X3 (hts _ fw_264)
  obtain ⟨c4, i4, h4⟩ := u_known (C := RX4) (T := TX4) (N := 15) (n := 15) hts fu_X4 (hts _ fw_393)
  obtain ⟨c5, i5, h5⟩ := u_known (C := RX5) (T := TX5) (N := 14) (n := 14) hts fu_X5 (hts _ fw_455)
  obtain ⟨c6, i6, h6⟩ := u_known (C := RX6) (T := TX6) (N := 5) (n := 5) hts fu_X6 (hts _ fw_646)
  obtain ⟨c7, i7, h7⟩ := u_known (C := RX7) (T := TX7) (N := 8) (n := 8) hts fu_X7 (hts _ fw_612)
  obtain ⟨c8, i8, h8⟩ := u_known (C := RX8) (T := TX8) (N := 5) (n := 5) hts fu_X8 (hts _ fw_321)
  obtain ⟨c9, i9, h9⟩ := u_known (C := RX9) (T := TX9) (N := 6) (n := 6) hts fu_X9 (hts _ fw_227)
  obtain ⟨c10, i10, h10⟩ := u_known (C := RX10) (T := TX10) (N := 7) (n := 7) hts fu_X10 (hts _ fw_289)
  obtain ⟨c11, i11, h11⟩ := u_known (C := RX11) (T := TX11) (N := 10) (n := 10) hts fu_X11 (hts _ fw_219)
  obtain ⟨c12, i12, h12⟩ := u_known (C := RX12) (T := TX12) (N := 51) (n := 51) hts fu_X12 (hts _ fw_1934)
  obtain ⟨cI, kI, pI, aI, bI, dI⟩ := Cond.arrayClass_spec (hts _ fw_261)
  obtain ⟨cJ, kJ, pJ, aJ, bJ, dJ⟩ := Cond.arrayClass_spec (hts _ fw_262)
  obtain ⟨cZ, kZ, pZ, aZ, bZ, dZ⟩ := Cond.arrayClass_spec (hts _ fw_2118)
  obtain ⟨cB, kB, pB, aB, bB, dB⟩ := Cond.arrayClass_spec (hts _ fw_1142)
  obtain ⟨pH, cH, kH, uH, bH, dH, aH⟩ := Cond.arrayOver_specA (t := .int) (htb (.arrayOver (.array .int)) (List.mem_of_getElem? (i := 1940) (by decide +kernel)))
  obtain ⟨pL, cL, kL, uL, -, bL, dL, aL⟩ := Cond.arrayOver_spec (n := "FerriteBoard$Line") (htb (.arrayOver (.object "FerriteBoard$Line")) (List.mem_of_getElem? (i := 327) (by decide +kernel)))
  refine ⟨(fun k => if k = 0 then c0 else if k = 1 then c1 else if k = 2 then c2 else if k = 3 then c3 else if k = 4 then c4 else if k = 5 then c5 else if k = 6 then c6 else if k = 7 then c7 else if k = 8 then c8 else if k = 9 then c9 else if k = 10 then c10 else if k = 11 then c11 else if k = 12 then c12 else if k = 20 then cZ else if k = 21 then cB else if k = 22 then cH else cL, fun k => if k = 0 then i0 else if k = 1 then i1 else if k = 2 then i2 else if k = 3 then i3 else if k = 4 then i4 else if k = 5 then i5 else if k = 6 then i6 else if k = 7 then i7 else if k = 8 then i8 else if k = 9 then i9 else if k = 10 then i10 else if k = 11 then i11 else i12), cI, cJ, ?_, ?_⟩
  · intro k q hq
    match k, hq with
    | 0, hq => cases hq; exact h0
    | 1, hq => cases hq; exact h1
    | 2, hq => cases hq; exact h2
    | 3, hq => cases hq; exact h3
    | 4, hq => cases hq; exact h4
    | 5, hq => cases hq; exact h5
    | 6, hq => cases hq; exact h6
    | 7, hq => cases hq; exact h7
    | 8, hq => cases hq; exact h8
    | 9, hq => cases hq; exact h9
    | 10, hq => cases hq; exact h10
    | 11, hq => cases hq; exact h11
    | 12, hq => cases hq; exact h12
    | k + 13, hq => simp [vwCl] at hq
  · intro k q hq
    match k, hq with
    | 0, hq => cases hq; exact ⟨fun n z => ⟨fun k h => (by cases h), kI, bI, pI, dI⟩, aI⟩
    | 1, hq => cases hq; exact ⟨fun n z => ⟨fun k h => (by cases h), kJ, bJ, pJ, dJ⟩, aJ⟩
    | 2, hq => cases hq; exact ⟨fun n z => ⟨fun k h => (by cases h), kZ, bZ, pZ, dZ⟩, aZ⟩
    | 3, hq => cases hq; exact ⟨fun n z => ⟨fun k h => (by cases h), kB, bB, pB, dB⟩, aB⟩
    | 4, hq => cases hq; exact ⟨fun n z => ⟨fun k h => (by cases h), kH, bH, pH, dH⟩, aH⟩
    | 5, hq => cases hq; exact ⟨fun n z => ⟨fun k h => (by cases h), kL, bL, pL, dL⟩, ⟨kL, pL, bL, dL, uL, aL⟩⟩
    | k + 6, hq => simp [fb_ty] at hq
end
section
/-! rows that keep how far the heap has grown: the refutation of a row whose room one script passes -/
section ZR
variable {p : Program} {l : Launch} {e : Env} {R0 : Room} {s : State} {m : MethodId} {args : Array Value} {below : List Frame} {meth : Method} {c : Code} {H : Heap} {locs : List Loc} {cells slots mc ms K : Nat} {Q : State → Prop}
  {cc : ByteArray} {own : String} {nL : Nat} {ret : Option FieldType} {D : va_G} {cI cJ : ClassId} {tys : List (ClassId × FieldType)} {A : Nat → Prop} {pc : Nat} {ls : Array Slot} {rest : List Value} {bs cs rs : List va_W} {ws wc : va_W}
theorem zz_S {H0 H1 : Heap} {locs1 : List Loc} (h : va_S A H0 H locs) (h1 : va_S A H H1 locs1) : va_S A H0 H1 locs1 :=
  ⟨Nat.le_trans h.1 h1.1, fun q a b => (h1.2.1 q (Nat.lt_of_lt_of_le a h.1) b).trans (h.2.1 q a b), h1.2.2⟩
theorem zz_r {H0 : Heap} (h : va_S A H0 H locs) : va_S A H H locs := ⟨Nat.le_refl _, fun _ _ _ => rfl, h.2.2⟩
def fb_QRz {S : Type} (K : Nat) (D : va_G) (A : Nat → Prop) (post : S → Prop) (wf : S → Nat → va_W) : Array Value → State → Outcome → State → Prop := va_Qr post (fun u a t => (va_P D vwCl (wf u a) t.heap ∧ va_D A (wf u a)) ∧ K ≤ t.heap.size) A
def fb_QIz {S : Type} (K : Nat) (D : va_G) (A : Nat → Prop) (post : Int32 → S → Prop) (wf : S → va_W) : Array Value → State → Outcome → State → Prop := va_Qi post (fun u t => (va_P D vwCl (wf u) t.heap ∧ va_D A (wf u)) ∧ K ≤ t.heap.size) A
theorem fb_nIz (hz : K ≤ H.size) (X : fb_Bx p s m args meth c cc own nL ret D (fb_ty D cI cJ) A) (I : fb_In D A s.heap bs.flatten H locs) {n : Int32} {N : Nat} (harr : Cond.arrayClass .int ∈ fb_all) (hn : ¬ n < 0 ∧ n.toNatClampNeg = N) (hby : N * componentBytes .int ≤ 536870912) (hc : cells + 1 ≤ R0.cells) (hs : slots + N ≤ R0.slots) (hdg : decode cc pc = .ok (.newarray .int, 2))
    (kk : ∀ (q : Nat) (H1 : Heap), fb_In D A s.heap (bs ++ [fb_aw cI q N (fun _ => 0)]).flatten H1 locs → K + 1 ≤ H1.size → W p l e R0 s m args below meth c H1 locs (cells + 1) (slots + N) Q (F0 m (pc + 2) ls (.ref q :: rest))) : W p l e R0 s m args below meth c H locs cells slots Q (F0 m pc ls (.int n :: rest)) := by
  obtain ⟨hx, hb, hr, hml, hown, hts, hlk, hA, hK, hF⟩ := X
  refine va_newaK (atype := .int) hx hb (hts _ harr) rfl hdg rfl hn.1 hn.2 hby hc hs rfl fun H1 cA e1 z1 o1 hAr hNm => ?_
  have e2 : s.vm.findClass ("[" ++ (FieldType.int).toString) = some cI := (hK.1.2 0 (cI, .int) rfl).2
  have e3 : cA = cI := Option.some.inj (hNm.symm.trans e2)
  rw [e3] at e1
  have hk : ∀ (k : Nat) (x : Nat × va_E), bs.flatten[k]? = some x → H1[x.1]? = H[x.1]? := fun k x hx => o1 x.1 ((I.1 k x hx).lt)
  have hz1 : K + 1 ≤ H1.size := by omega
  have hS1 : s.heap.size ≤ H1.size := Nat.le_trans I.2.2.1 (by omega)
  refine kk H.size H1 (fb_snoc (w := fb_aw cI H.size N (fun _ => 0)) ⟨(I.1.kept hk).app (fun k x hx => ?_), I.2.1.push I.1 rfl (hA _ I.2.2.1), hS1, fun x h1 h2 => (o1 x (Nat.lt_of_lt_of_le h1 I.2.2.1)).trans (I.2.2.2.1 x h1 h2), I.2.2.2.2⟩) hz1
  have hz2 : k < 1 := (List.getElem?_eq_some_iff.mp hx).1
  rw [show k = 0 by omega] at hx
  cases hx
  exact e1
theorem fb_isCz {a : Nat} {cA : ClassId} {N n : Nat} {f : Nat → Int32} {wn : va_W} {i x : Int32} (hz : K ≤ H.size) (X : fb_Bx p s m args meth c cc own nL ret D tys A) (I : fb_In D A s.heap ws H locs) (q0 t0 : Nat) (ha : ws[q0]? = some (a, .inl (cA, N, .inl f))) (ht : tys[t0]? = some (cA, .int)) (hn : i.toNatClampNeg = n) (h0 : ¬ i < 0) (hlt : n < N) (hwn : ws.set q0 (a, .inl (cA, N, .inl (upd f n x))) = wn) (hdg : decode cc pc = .ok (.iastore, 1))
    (kk : ∀ (H1 : Heap) (locs1 : List Loc), fb_In D A s.heap wn H1 locs1 → K ≤ H1.size → W p l e R0 s m args below meth c H1 locs1 cells slots Q (F0 m (pc + 1) ls rest)) : W p l e R0 s m args below meth c H locs cells slots Q (F0 m pc ls (.int x :: .int i :: .ref a :: rest)) := by
  obtain ⟨hx, hb, hr, hml, hown, hts, hlk, hA, hK, hF⟩ := X
  subst hn
  refine va_iast hx hb hK.1 I.1 I.2.1 (zz_r I.2.2) q0 t0 ha ht (fb_inC rfl h0 hlt) hdg ?_
  intro H1 locs1 h1 h2 h3
  rw [hwn] at h1 h2
  exact kk H1 locs1 ⟨h1, h2, zz_S I.2.2 h3⟩ (Nat.le_trans hz h3.1)
theorem fb_zsCz {a : Nat} {cA : ClassId} {N n : Nat} {f : Nat → Int32} {wn : va_W} {i x v : Int32} (hz : K ≤ H.size) (X : fb_Bx p s m args meth c cc own nL ret D tys A) (I : fb_In D A s.heap ws H locs) (q0 t0 : Nat) (ha : ws[q0]? = some (a, .inl (cA, N, .inl f))) (ht : tys[t0]? = some (cA, .boolean)) (hn : i.toNatClampNeg = n) (h0 : ¬ i < 0) (hlt : n < N) (hx9 : vp_nar .boolean x = v) (hwn : ws.set q0 (a, .inl (cA, N, .inl (upd f n v))) = wn) (hdg : decode cc pc = .ok (.bastore, 1))
    (kk : ∀ (H1 : Heap) (locs1 : List Loc), fb_In D A s.heap wn H1 locs1 → K ≤ H1.size → W p l e R0 s m args below meth c H1 locs1 cells slots Q (F0 m (pc + 1) ls rest)) : W p l e R0 s m args below meth c H locs cells slots Q (F0 m pc ls (.int x :: .int i :: .ref a :: rest)) := by
  obtain ⟨hx, hb, hr, hml, hown, hts, hlk, hA, hK, hF⟩ := X
  subst hn
  subst hx9
  refine va_zast hx hb hK.1 I.1 I.2.1 (zz_r I.2.2) q0 t0 ha ht (fb_inC rfl h0 hlt) hdg ?_
  intro H1 locs1 h1 h2 h3
  rw [hwn] at h1 h2
  exact kk H1 locs1 ⟨h1, h2, zz_S I.2.2 h3⟩ (Nat.le_trans hz h3.1)
theorem fb_retRz {S : Type} {post : S → Prop} {wf : S → Nat → va_W} {u : S} {v : Nat} {ty : FieldType} (hz : K ≤ H.size) (X : fb_Bx p s m args meth c cc own nL (some ty) D tys A) (I : fb_In D A s.heap (wf u v) H locs) (hp : post u) (hty : (∃ n, ty = .object n) ∨ ∃ t, ty = .array t) (hdg : decode cc pc = .ok (.areturn, 1)) : W p l e R0 s m args below meth c H locs cells slots (MQ below (fb_QRz K D A post wf) args s cells slots A) (F0 m pc ls [.ref v]) := by
  obtain ⟨hx, hb, hr, hml, hown, hts, hlk, hA, hK, hF⟩ := X
  exact W.aret hx hb hr hty (Or.inr ⟨_, rfl⟩) (fun t ht hW => ⟨⟨u, v, rfl, hp, ⟨by rw [ht]; exact I.1, I.2.1⟩, by rw [ht]; exact hz⟩, I.2.2.F ht⟩) I.2.2.2.2 hdg
theorem fb_retIz {S : Type} {post : Int32 → S → Prop} {wf : S → va_W} {u : S} {v : Int32} {ty : FieldType} (hz : K ≤ H.size) (X : fb_Bx p s m args meth c cc own nL (some ty) D tys A) (I : fb_In D A s.heap (wf u) H locs) (hp : post v u) (hn : narrow ty (.int v) = .int v) (hdg : decode cc pc = .ok (.ireturn, 1)) : W p l e R0 s m args below meth c H locs cells slots (MQ below (fb_QIz K D A post wf) args s cells slots A) (F0 m pc ls [.int v]) := by
  obtain ⟨hx, hb, hr, hml, hown, hts, hlk, hA, hK, hF⟩ := X
  exact W.zret hx hb hr hn (fun t ht hW => ⟨⟨v, u, rfl, hp, ⟨by rw [ht]; exact I.1, I.2.1⟩, by rw [ht]; exact hz⟩, I.2.2.F ht⟩) I.2.2.2.2 hdg
variable {a : Array Value} {st0 : List Value}
theorem fb_gRz {S : Type} {post : S → Prop} {wf : S → Nat → va_W} (wn ds : S → Nat → List va_W) (X : fb_Bx p s m args meth c cc own nL ret D tys A) (I : fb_In D A s.heap bs.flatten H locs) (is : List Nat) (n : Nat) (hn : bs.length = n) (h : is.Perm (List.range n)) (hb : is.map (fun i => bs[i]?) = (cs ++ rs).map some) (hc : cs.flatten = wc)
    (js : List Nat) (n2 : Nat) (hn2 : ∀ u r, (wn u r).length = n2) (h2 : js.Perm (List.range n2)) (hb2 : ∀ u r, js.map (fun i => (wn u r)[i]?) = (ds u r ++ rs).map some) (hc2 : ∀ u r, (ds u r).flatten = wf u r)
    (hr : fb_In D A s.heap (wc ++ rs.flatten) H locs → va_Run p l e R0 s m args below meth c H locs cells slots mc ms (F0 m pc ls st0) rest (fb_QRz K D (va_A wc H.size) post wf a) (va_A wc H.size))
    (kk : ∀ (u : S) (r : Nat) (H1 : Heap) (locs1 : List Loc), post u → K ≤ H1.size → fb_In D A s.heap (wn u r).flatten H1 locs1 → W p l e R0 s m args below meth c H1 locs1 (cells + mc) (slots + ms) Q (F0 m (pc + 3) ls (.ref r :: rest))) : W p l e R0 s m args below meth c H locs cells slots Q (F0 m pc ls st0) := by
  have J := fb_cut I n hn is h hb hc
  obtain ⟨hx, hb', hr', hml, hown, hts, hlk, hA, hK, hF⟩ := X
  refine va_callr (hr J) J.2.2 (fun q _ h => fb_freeB J hA q h) (fb_freeB J hA) ?_
  intro u r t H1 locs1 ht hvm hp hBt hsz hkk hS1
  subst ht
  exact kk u r _ locs1 hp hBt.2 (fb_uncut (fb_frame J hA hkk hBt.1.1 hBt.1.2 hS1) n2 (hn2 u r) js h2 (hb2 u r) (hc2 u r))
theorem fb_gIz {S : Type} {post : Int32 → S → Prop} {wf : S → va_W} (wn ds : S → List va_W) (X : fb_Bx p s m args meth c cc own nL ret D tys A) (I : fb_In D A s.heap bs.flatten H locs) (is : List Nat) (n : Nat) (hn : bs.length = n) (h : is.Perm (List.range n)) (hb : is.map (fun i => bs[i]?) = (cs ++ rs).map some) (hc : cs.flatten = wc)
    (js : List Nat) (n2 : Nat) (hn2 : ∀ u, (wn u).length = n2) (h2 : js.Perm (List.range n2)) (hb2 : ∀ u, js.map (fun i => (wn u)[i]?) = (ds u ++ rs).map some) (hc2 : ∀ u, (ds u).flatten = wf u)
    (hr : fb_In D A s.heap (wc ++ rs.flatten) H locs → va_Run p l e R0 s m args below meth c H locs cells slots mc ms (F0 m pc ls st0) rest (fb_QIz K D (va_A wc H.size) post wf a) (va_A wc H.size))
    (kk : ∀ (r : Int32) (u : S) (H1 : Heap) (locs1 : List Loc), post r u → K ≤ H1.size → fb_In D A s.heap (wn u).flatten H1 locs1 → W p l e R0 s m args below meth c H1 locs1 (cells + mc) (slots + ms) Q (F0 m (pc + 3) ls (.int r :: rest))) : W p l e R0 s m args below meth c H locs cells slots Q (F0 m pc ls st0) := by
  have J := fb_cut I n hn is h hb hc
  obtain ⟨hx, hb', hr', hml, hown, hts, hlk, hA, hK, hF⟩ := X
  refine va_calli (hr J) J.2.2 (fun q _ h => fb_freeB J hA q h) (fb_freeB J hA) ?_
  intro r u t H1 locs1 ht hvm hp hBt hsz hkk hS1
  subst ht
  exact kk r u _ locs1 hp hBt.2 (fb_uncut (fb_frame J hA hkk hBt.1.1 hBt.1.2 hS1) n2 (hn2 u) js h2 (hb2 u) (hc2 u))
theorem fb_gIs {S : Type} {post : Int32 → S → Prop} {wf : S → va_W} (wn ds : S → List va_W) (hz : K ≤ H.size) (X : fb_Bx p s m args meth c cc own nL ret D tys A) (I : fb_In D A s.heap bs.flatten H locs) (is : List Nat) (n : Nat) (hn : bs.length = n) (h : is.Perm (List.range n)) (hb : is.map (fun i => bs[i]?) = (cs ++ rs).map some) (hc : cs.flatten = wc)
    (js : List Nat) (n2 : Nat) (hn2 : ∀ u, (wn u).length = n2) (h2 : js.Perm (List.range n2)) (hb2 : ∀ u, js.map (fun i => (wn u)[i]?) = (ds u ++ rs).map some) (hc2 : ∀ u, (ds u).flatten = wf u)
    (hr : fb_In D A s.heap (wc ++ rs.flatten) H locs → va_Run p l e R0 s m args below meth c H locs cells slots mc ms (F0 m pc ls st0) rest (fb_QI D (va_A wc H.size) post wf a) (va_A wc H.size))
    (kk : ∀ (r : Int32) (u : S) (H1 : Heap) (locs1 : List Loc), K ≤ H1.size → fb_In D A s.heap (wn u).flatten H1 locs1 → W p l e R0 s m args below meth c H1 locs1 (cells + mc) (slots + ms) Q (F0 m (pc + 3) ls (.int r :: rest))) : W p l e R0 s m args below meth c H locs cells slots Q (F0 m pc ls st0) := by
  have J := fb_cut I n hn is h hb hc
  obtain ⟨hx, hb', hr', hml, hown, hts, hlk, hA, hK, hF⟩ := X
  refine va_calli (hr J) J.2.2 (fun q _ h => fb_freeB J hA q h) (fb_freeB J hA) ?_
  intro r u t H1 locs1 ht hvm hp hBt hsz hkk hS1
  subst ht
  exact kk r u _ locs1 (Nat.le_trans hz hsz) (fb_uncut (fb_frame J hA hkk hBt.1 hBt.2 hS1) n2 (hn2 u) js h2 (hb2 u) (hc2 u))
end ZR
section ZE
variable {l : Launch} {y : MethodName} {rm : Room} {cc : ByteArray} {maxL mc ms sz : Nat} {ret : Option FieldType} {D : va_G} {tys : List (ClassId × FieldType)} {av : List Value} {wc : va_W}
theorem fb_entz {Qf : (Nat → Prop) → Array Value → State → Outcome → State → Prop} (hy : plainName y.cls = true) (hn : (lg_sl av).length ≤ maxL)
    (body : ∀ p e s m args below meth c A ls, s.heap.size = sz → fb_Bx p s m args meth c cc y.cls maxL ret D tys A → fb_In D A s.heap wc s.heap [] → lv_has ls maxL (lv_args 0 av) → (meth.name = y.name) → W p l e rm s m args below meth c s.heap [] 0 0 (MQ below (Qf A) args s mc ms A) (F0 m 0 ls [])) : Met l y (Cond.code y cc maxL ret :: fb_all) rm (fb_PP D tys av wc sz) (Qf (va_A wc sz)) mc ms (va_A wc sz) := by
  refine Met.ofW (cc := cc) (maxL := maxL) (ret := ret) hy rfl ?_
  intro p e s m args below meth c s₁ B hml hv
  obtain ⟨rfl, hsz, hP, hK, hD0, hF⟩ := hv
  subst hsz
  have hts : ∀ w ∈ fb_all, w.before av.toArray s = true := fun w h => atoms_spec (ws := Cond.code y cc maxL ret :: fb_all) B.pre w (List.mem_cons_of_mem _ h)
  have hown : s.vm.findClass y.cls = some m.cls := findClass_of_methodNamed (x := y) B.named
  have hl := lv_entry av (n := maxL) hn
  rw [lg_entry_eq]
  refine body p e s m av.toArray below meth c (va_A wc s.heap.size) _ rfl ⟨B.exec, B.bytes, B.returns, hml, hown, hts, B.notSynchronized, fun q h => Or.inr h, hK, hF⟩ ⟨hP, hD0.self, va_S.rf⟩ hl ?_
  exact (name_of_methodNamed B.named B.method).1
end ZE
set_option maxHeartbeats 4000000 in
set_option maxRecDepth 100000 in
theorem bz_reached_75 {p : Program} {l : Launch} {e : Env} {s : State} {m : MethodId} {args : Array Value} {below : List Frame} {meth : Method} {c : Code} {D : va_G} {cI cJ : ClassId} {A : Nat → Prop} {za : Nat} {zr : Nat → Nat} {x1 : Nat} {x2 : Nat} (X : fb_Bx p s m args meth c cX12_reached RX12 14 (some (.array .boolean)) D (fb_ty D cI cJ) A)   : ∀ (n zi : Nat) (hn : zi + n = 4095) (zb : fb_AR) (zc : fb_AR) (ib : ∀ j, j < 4096 → zb j = if j ≤ zi then 1 else 0) (ic : ∀ j, j ≤ zi → zc j = nI j) (H : Heap) (locs : List Loc) (ls : Array Slot) (I : fb_In D A s.heap (([fb_o12 za zr fr_e0, fb_aw cI (zr 0) 16205 (fr_m (fun _ => 0) 0), fb_aw (D.1 20) x1 4096 zb, fb_aw cI x2 4096 zc] : List va_W).flatten) H locs) (hz : s.heap.size + zi ≤ H.size) (hl : lv_has ls 14 [(4, .int (nI zi)), (3, .int (nI (zi + 1))), (2, .ref x2), (1, .ref x1), (0, .ref za)]), W p l e ({ frames := 5, cells := 4098, slots := 16384, locals := 122 } : Room) s m args below meth c H locs ((0 + 1 + 1 + 1 * zi)) ((0 + 4096 + 4096 + 2 * zi)) (MQ below (fb_QRz (s.heap.size + 4096) D A (fun (t : fb_AR) => ∀ j, j < 4096 → t j = 1) (fun (t : fb_AR) (rr : Nat) => ([fb_o12 za zr fr_e0, fb_aw cI (zr 0) 16205 (fr_m (fun _ => 0) 0), fb_aw (D.1 20) rr 4096 t] : List va_W).flatten)) args s 4098 16384 A) (F0 m 75 ls []) := by
  intro n
  obtain ⟨hx, hb, hr, hml, hown, hts, hlk, hA, hK, hF⟩ := id X
  induction n with
  | zero =>
    intro zi hn zb zc ib ic H locs ls I hz hl
    have ziE : 4095 = zi := by omega
    subst ziE
    refine lv_iload hx hb dX12_reached_75 (lv_at hl 0 rfl) ?_
    refine lv_iload_n hx hb dX12_reached_77 rfl (lv_at hl 1 rfl) ?_
    refine lv_icmp_ge (tgt := 348) hx hb dX12_reached_78 (by decide) (fun c31 => absurd c31 (nI_ge (a := 4095) (b := (4095 + 1)) (by omega) (by omega))) (fun _ => ?_)
    refine lv_aload_n hx hb dX12_reached_81 rfl (lv_at hl 2 rfl) ?_
    refine lv_iload hx hb dX12_reached_82 (lv_at hl 0 rfl) ?_
    refine fb_iaC (n := 4095) (v := (nI 4095)) X I 3 0 rfl rfl (nI_clamp (by omega)) (nI_pos (by omega)) (by omega) (ic 4095 (by omega)) dX12_reached_84 ?_
    refine lv_istore (lv' := [(5, .int (nI 4095)), (4, .int (nI 4095)), (3, .int (nI (4095 + 1))), (2, .ref x2), (1, .ref x1), (0, .ref za)]) hx hb dX12_reached_85 hl (by decide) rfl (fun ls hl => ?_)
    refine lv_aload_n hx hb dX12_reached_87 rfl (lv_at hl 5 rfl) ?_
    refine lv_iload hx hb dX12_reached_88 (lv_at hl 0 rfl) ?_
    refine fb_gO (cs := [fb_o12 za zr fr_e0, fb_aw cI (zr 0) 16205 (fr_m (fun _ => 0) 0)]) (rs := [fb_aw (D.1 20) x1 4096 zb, fb_aw cI x2 4096 zc]) X I [0, 1, 2, 3] 4 rfl (by decide +kernel) rfl rfl (fun I => fb_rV (As := [.int (nI 4095)]) (rest := []) X hl (fb_goodV fw_1949 fw_1951 fw_86 fw_204 fw_1952) (c_code l D cI cJ za zr fr_e0 (fr_m (fun _ => 0) 0) (nI 4095) _ (fr_hm _ _) rfl) rfl rfl rfl (by decide +kernel : fb_hd yX12_code 1) ⟨Nat.le_of_ble_eq_true rfl, Nat.le_of_ble_eq_true rfl⟩ rfl rfl rfl rfl rfl (Nat.le_of_ble_eq_true rfl) ⟨by show (0 + 1 + 1 + 1 * 4095) + 0 ≤ 4098; omega, by show (0 + 4096 + 4096 + 2 * 4095) + 0 ≤ 16384; omega⟩ dX12_reached_90 I) ?_
    refine lv_istore (lv' := [(6, .int (0 : Int32)), (5, .int (nI 4095)), (4, .int (nI 4095)), (3, .int (nI (4095 + 1))), (2, .ref x2), (1, .ref x1), (0, .ref za)]) hx hb dX12_reached_93 hl (by decide) rfl (fun ls hl => ?_)
    refine lv_iload hx hb dX12_reached_95 (lv_at hl 0 rfl) ?_
    refine fb_gO (cs := []) (rs := [fb_o12 za zr fr_e0, fb_aw cI (zr 0) 16205 (fr_m (fun _ => 0) 0), fb_aw (D.1 20) x1 4096 zb, fb_aw cI x2 4096 zc]) X I [0, 1, 2, 3] 4 rfl (by decide +kernel) rfl rfl (fun I => fb_rS (As := [.int (0 : Int32)]) (rest := []) X hl (fb_goodS fw_2492 fw_2493 fw_204 fw_2494) (c_X12_isInstruction l D cI cJ (0 : Int32) _) rfl rfl (by decide +kernel : fb_hd yX12_isInstruction 1) ⟨Nat.le_of_ble_eq_true rfl, Nat.le_of_ble_eq_true rfl⟩ rfl rfl (Nat.le_of_ble_eq_true rfl) ⟨by show (0 + 1 + 1 + 1 * 4095) + 0 ≤ 4098; omega, by show (0 + 4096 + 4096 + 2 * 4095) + 0 ≤ 16384; omega⟩ dX12_reached_97 I) ?_
    refine fb_tI (v := (1 : Int32)) (by decide) ?_
    refine lv_if_ne (tgt := 111) hx hb dX12_reached_100 (by decide) (fun _ => ?_) (fun c32 => absurd c32 (by decide))
    refine lv_iload hx hb dX12_reached_111 (lv_at hl 0 rfl) ?_
    refine lv_bipush (v := (8 : Int32)) hx hb dX12_reached_113 (by decide) ?_
    refine lv_idiv hx hb dX12_reached_115 (by decide) ?_
    refine fb_tI (v := (0 : Int32)) (by decide) ?_
    refine lv_istore (lv' := [(7, .int (0 : Int32)), (6, .int (0 : Int32)), (5, .int (nI 4095)), (4, .int (nI 4095)), (3, .int (nI (4095 + 1))), (2, .ref x2), (1, .ref x1), (0, .ref za)]) hx hb dX12_reached_116 hl (by decide) rfl (fun ls hl => ?_)
    refine lv_iload hx hb dX12_reached_118 (lv_at hl 1 rfl) ?_
    refine lv_iconst (v := (1 : Int32)) hx hb dX12_reached_120 (by decide) ?_
    refine lv_icmp_eq (tgt := 151) hx hb dX12_reached_121 (by decide) (fun c33 => absurd c33 (by decide)) (fun _ => ?_)
    refine lv_iload hx hb dX12_reached_124 (lv_at hl 1 rfl) ?_
    refine lv_iconst (v := (3 : Int32)) hx hb dX12_reached_126 (by decide) ?_
    refine lv_icmp_eq (tgt := 151) hx hb dX12_reached_127 (by decide) (fun c34 => absurd c34 (by decide)) (fun _ => ?_)
    refine lv_iload hx hb dX12_reached_130 (lv_at hl 1 rfl) ?_
    refine lv_iconst (v := (4 : Int32)) hx hb dX12_reached_132 (by decide) ?_
    refine lv_icmp_eq (tgt := 151) hx hb dX12_reached_133 (by decide) (fun c35 => absurd c35 (by decide)) (fun _ => ?_)
    refine lv_iload hx hb dX12_reached_136 (lv_at hl 0 rfl) ?_
    refine lv_bipush (v := (24 : Int32)) hx hb dX12_reached_138 (by decide) ?_
    refine lv_icmp_eq (tgt := 151) hx hb dX12_reached_140 (by decide) (fun c36 => absurd c36 (by decide)) (fun _ => ?_)
    refine lv_iload hx hb dX12_reached_143 (lv_at hl 1 rfl) ?_
    refine lv_sipush (v := (216 : Int32)) hx hb dX12_reached_145 (by decide) ?_
    refine lv_icmp_ne (tgt := 155) hx hb dX12_reached_148 (by decide) (fun _ => ?_) (fun c37 => absurd c37 (by decide))
    refine lv_iconst (v := (0 : Int32)) hx hb dX12_reached_155 (by decide) ?_
    refine lv_istore (lv' := [(8, .int (0 : Int32)), (7, .int (0 : Int32)), (6, .int (0 : Int32)), (5, .int (nI 4095)), (4, .int (nI 4095)), (3, .int (nI (4095 + 1))), (2, .ref x2), (1, .ref x1), (0, .ref za)]) hx hb dX12_reached_156 hl (by decide) rfl (fun ls hl => ?_)
    refine lv_iconst (v := (2 : Int32)) hx hb dX12_reached_158 (by decide) ?_
    refine fb_nIz hz (N := 2) X I fw_261 (by decide) (Nat.le_of_ble_eq_true rfl) (by show (0 + 1 + 1 + 1 * 4095) + 1 ≤ 4098; omega) (by show (0 + 4096 + 4096 + 2 * 4095) + 2 ≤ 16384; omega) dX12_reached_159 (fun x38 H I hz => ?_)
    have I : fb_In D A s.heap (([fb_o12 za zr fr_e0, fb_aw cI (zr 0) 16205 (fr_m (fun _ => 0) 0), fb_aw (D.1 20) x1 4096 zb, fb_aw cI x2 4096 zc, fb_aw cI x38 2 (fun _ => 0)] : List va_W).flatten) H _ := I
    refine lv_dup hx hb dX12_reached_161 rfl ?_
    refine lv_iconst (v := (0 : Int32)) hx hb dX12_reached_162 (by decide) ?_
    refine lv_iload hx hb dX12_reached_163 (lv_at hl 0 rfl) ?_
    refine lv_if_eq (tgt := 172) hx hb dX12_reached_165 (by decide) (fun _ => ?_) (fun c39 => absurd (by decide) c39)
    refine lv_iload hx hb dX12_reached_172 (lv_at hl 3 rfl) ?_
    refine lv_iload hx hb dX12_reached_174 (lv_at hl 2 rfl) ?_
    refine fb_gO (cs := []) (rs := [fb_o12 za zr fr_e0, fb_aw cI (zr 0) 16205 (fr_m (fun _ => 0) 0), fb_aw (D.1 20) x1 4096 zb, fb_aw cI x2 4096 zc, fb_aw cI x38 2 (fun _ => 0)]) X I [0, 1, 2, 3, 4] 5 rfl (by decide +kernel) rfl rfl (fun I => fb_rS (As := [.int (0 : Int32)]) (rest := [.int (nI 4095), .int (0 : Int32), .ref x38, .ref x38]) X hl (fb_goodS fw_2499 fw_2500 fw_204 fw_2501) (c_X12_length l D cI cJ (0 : Int32) _) rfl rfl (by decide +kernel : fb_hd yX12_length 1) ⟨Nat.le_of_ble_eq_true rfl, Nat.le_of_ble_eq_true rfl⟩ rfl rfl (Nat.le_of_ble_eq_true rfl) ⟨by show (0 + 1 + 1 + 1 * 4095) + 1 + 0 ≤ 4098; omega, by show (0 + 4096 + 4096 + 2 * 4095) + 2 + 0 ≤ 16384; omega⟩ dX12_reached_176 I) ?_
    refine fb_tI (v := (1 : Int32)) (by decide) ?_
    refine lv_iadd hx hb dX12_reached_179 ?_
    refine fb_tI (v := (nI (4095 + 1))) (nI_add 4095 1) ?_
    refine lv_sipush (v := (4095 : Int32)) hx hb dX12_reached_180 (by decide) ?_
    refine lv_iand hx hb dX12_reached_183 ?_
    refine fb_tI (v := (0 : Int32)) (by decide) ?_
    refine fb_isCz hz (n := 0) (wn := ([fb_o12 za zr fr_e0, fb_aw cI (zr 0) 16205 (fr_m (fun _ => 0) 0), fb_aw (D.1 20) x1 4096 zb, fb_aw cI x2 4096 zc, fb_aw cI x38 2 (upd (fun _ => 0) 0 (0 : Int32))] : List va_W).flatten) X I 4 0 rfl rfl (by decide) (by decide) (Nat.le_of_ble_eq_true rfl) rfl dX12_reached_184 (fun H locs I hz => ?_)
    refine lv_dup hx hb dX12_reached_185 rfl ?_
    refine lv_iconst (v := (1 : Int32)) hx hb dX12_reached_186 (by decide) ?_
    refine lv_iload hx hb dX12_reached_187 (lv_at hl 1 rfl) ?_
    refine lv_bipush (v := (24 : Int32)) hx hb dX12_reached_189 (by decide) ?_
    refine lv_icmp_eq (tgt := 201) hx hb dX12_reached_191 (by decide) (fun c40 => absurd c40 (by decide)) (fun _ => ?_)
    refine lv_iload hx hb dX12_reached_194 (lv_at hl 1 rfl) ?_
    refine lv_bipush (v := (25 : Int32)) hx hb dX12_reached_196 (by decide) ?_
    refine lv_icmp_ne (tgt := 238) hx hb dX12_reached_198 (by decide) (fun _ => ?_) (fun c41 => absurd c41 (by decide))
    refine lv_iload hx hb dX12_reached_238 (lv_at hl 1 rfl) ?_
    refine lv_bipush (v := (25 : Int32)) hx hb dX12_reached_240 (by decide) ?_
    refine lv_icmp_le (tgt := 254) hx hb dX12_reached_242 (by decide) (fun _ => ?_) (fun c42 => absurd (by decide) c42)
    refine lv_iload hx hb dX12_reached_254 (lv_at hl 2 rfl) ?_
    refine lv_iconst (v := (5 : Int32)) hx hb dX12_reached_256 (by decide) ?_
    refine lv_icmp_ne (tgt := 269) hx hb dX12_reached_257 (by decide) (fun _ => ?_) (fun c43 => absurd c43 (by decide))
    refine lv_iconst (v := (-1 : Int32)) hx hb dX12_reached_269 (by decide) ?_
    refine fb_isCz hz (n := 1) (wn := ([fb_o12 za zr fr_e0, fb_aw cI (zr 0) 16205 (fr_m (fun _ => 0) 0), fb_aw (D.1 20) x1 4096 zb, fb_aw cI x2 4096 zc, fb_aw cI x38 2 (upd (upd (fun _ => 0) 0 (0 : Int32)) 1 (-1 : Int32))] : List va_W).flatten) X I 4 0 rfl rfl (by decide) (by decide) (Nat.le_of_ble_eq_true rfl) rfl dX12_reached_270 (fun H locs I hz => ?_)
    refine lv_astore (lv' := [(9, .ref x38), (8, .int (0 : Int32)), (7, .int (0 : Int32)), (6, .int (0 : Int32)), (5, .int (nI 4095)), (4, .int (nI 4095)), (3, .int (nI (4095 + 1))), (2, .ref x2), (1, .ref x1), (0, .ref za)]) hx hb dX12_reached_271 hl (by decide) rfl (fun ls hl => ?_)
    refine lv_aload hx hb dX12_reached_273 (lv_at hl 0 rfl) ?_
    refine lv_astore (lv' := [(10, .ref x38), (9, .ref x38), (8, .int (0 : Int32)), (7, .int (0 : Int32)), (6, .int (0 : Int32)), (5, .int (nI 4095)), (4, .int (nI 4095)), (3, .int (nI (4095 + 1))), (2, .ref x2), (1, .ref x1), (0, .ref za)]) hx hb dX12_reached_275 hl (by decide) rfl (fun ls hl => ?_)
    refine lv_aload hx hb dX12_reached_277 (lv_at hl 0 rfl) ?_
    refine fb_alen (v := (2 : Int32)) X I 4 0 rfl rfl rfl dX12_reached_279 ?_
    refine lv_istore (lv' := [(11, .int (2 : Int32)), (10, .ref x38), (9, .ref x38), (8, .int (0 : Int32)), (7, .int (0 : Int32)), (6, .int (0 : Int32)), (5, .int (nI 4095)), (4, .int (nI 4095)), (3, .int (nI (4095 + 1))), (2, .ref x2), (1, .ref x1), (0, .ref za)]) hx hb dX12_reached_280 hl (by decide) rfl (fun ls hl => ?_)
    refine lv_iconst (v := (0 : Int32)) hx hb dX12_reached_282 (by decide) ?_
    refine lv_istore (lv' := [(12, .int (0 : Int32)), (11, .int (2 : Int32)), (10, .ref x38), (9, .ref x38), (8, .int (0 : Int32)), (7, .int (0 : Int32)), (6, .int (0 : Int32)), (5, .int (nI 4095)), (4, .int (nI 4095)), (3, .int (nI (4095 + 1))), (2, .ref x2), (1, .ref x1), (0, .ref za)]) hx hb dX12_reached_283 hl (by decide) rfl (fun ls hl => ?_)
    refine lv_iload hx hb dX12_reached_285 (lv_at hl 0 rfl) ?_
    refine lv_iload hx hb dX12_reached_287 (lv_at hl 1 rfl) ?_
    refine lv_icmp_ge (tgt := 342) hx hb dX12_reached_289 (by decide) (fun c44 => absurd c44 (by decide)) (fun _ => ?_)
    refine lv_aload hx hb dX12_reached_292 (lv_at hl 2 rfl) ?_
    refine lv_iload hx hb dX12_reached_294 (lv_at hl 0 rfl) ?_
    refine fb_iaC (n := 0) (v := (0 : Int32)) X I 4 0 rfl rfl (by decide) (by decide) (Nat.le_of_ble_eq_true rfl) ((pk_un (by decide)).trans pk_us) dX12_reached_296 ?_
    refine lv_istore (lv' := [(13, .int (0 : Int32)), (12, .int (0 : Int32)), (11, .int (2 : Int32)), (10, .ref x38), (9, .ref x38), (8, .int (0 : Int32)), (7, .int (0 : Int32)), (6, .int (0 : Int32)), (5, .int (nI 4095)), (4, .int (nI 4095)), (3, .int (nI (4095 + 1))), (2, .ref x2), (1, .ref x1), (0, .ref za)]) hx hb dX12_reached_297 hl (by decide) rfl (fun ls hl => ?_)
    refine lv_iload hx hb dX12_reached_299 (lv_at hl 0 rfl) ?_
    refine lv_if_lt (tgt := 336) hx hb dX12_reached_301 (by decide) (fun c45 => absurd c45 (by decide)) (fun _ => ?_)
    refine lv_aload_n hx hb dX12_reached_304 rfl (lv_at hl 12 rfl) ?_
    refine lv_iload hx hb dX12_reached_305 (lv_at hl 0 rfl) ?_
    refine fb_zaC (n := 0) (v := (1 : Int32)) X I 2 2 rfl rfl (by decide) (by decide) (Nat.le_of_ble_eq_true rfl) ((ib 0 (by omega)).trans (if_pos (by omega))) dX12_reached_307 ?_
    refine lv_if_ne (tgt := 336) hx hb dX12_reached_308 (by decide) (fun _ => ?_) (fun c46 => absurd c46 (by decide))
    refine lv_iinc (v := (1 : Int32)) (lv' := [(12, .int (1 : Int32)), (13, .int (0 : Int32)), (11, .int (2 : Int32)), (10, .ref x38), (9, .ref x38), (8, .int (0 : Int32)), (7, .int (0 : Int32)), (6, .int (0 : Int32)), (5, .int (nI 4095)), (4, .int (nI 4095)), (3, .int (nI (4095 + 1))), (2, .ref x2), (1, .ref x1), (0, .ref za)]) hx hb dX12_reached_336 hl (k := 1) rfl (by decide) (by decide) rfl (fun ls hl => ?_)
    refine lv_goto (tgt := 285) hx hb dX12_reached_339 (by decide) ?_
    refine lv_iload hx hb dX12_reached_285 (lv_at hl 0 rfl) ?_
    refine lv_iload hx hb dX12_reached_287 (lv_at hl 2 rfl) ?_
    refine lv_icmp_ge (tgt := 342) hx hb dX12_reached_289 (by decide) (fun c47 => absurd c47 (by decide)) (fun _ => ?_)
    refine lv_aload hx hb dX12_reached_292 (lv_at hl 3 rfl) ?_
    refine lv_iload hx hb dX12_reached_294 (lv_at hl 0 rfl) ?_
    refine fb_iaC (n := 1) (v := (-1 : Int32)) X I 4 0 rfl rfl (by decide) (by decide) (Nat.le_of_ble_eq_true rfl) pk_us dX12_reached_296 ?_
    refine lv_istore (lv' := [(13, .int (-1 : Int32)), (12, .int (1 : Int32)), (11, .int (2 : Int32)), (10, .ref x38), (9, .ref x38), (8, .int (0 : Int32)), (7, .int (0 : Int32)), (6, .int (0 : Int32)), (5, .int (nI 4095)), (4, .int (nI 4095)), (3, .int (nI (4095 + 1))), (2, .ref x2), (1, .ref x1), (0, .ref za)]) hx hb dX12_reached_297 hl (by decide) rfl (fun ls hl => ?_)
    refine lv_iload hx hb dX12_reached_299 (lv_at hl 0 rfl) ?_
    refine lv_if_lt (tgt := 336) hx hb dX12_reached_301 (by decide) (fun _ => ?_) (fun c48 => absurd (by decide) c48)
    refine lv_iinc (v := (2 : Int32)) (lv' := [(12, .int (2 : Int32)), (13, .int (-1 : Int32)), (11, .int (2 : Int32)), (10, .ref x38), (9, .ref x38), (8, .int (0 : Int32)), (7, .int (0 : Int32)), (6, .int (0 : Int32)), (5, .int (nI 4095)), (4, .int (nI 4095)), (3, .int (nI (4095 + 1))), (2, .ref x2), (1, .ref x1), (0, .ref za)]) hx hb dX12_reached_336 hl (k := 1) rfl (by decide) (by decide) rfl (fun ls hl => ?_)
    refine lv_goto (tgt := 285) hx hb dX12_reached_339 (by decide) ?_
    refine lv_iload hx hb dX12_reached_285 (lv_at hl 0 rfl) ?_
    refine lv_iload hx hb dX12_reached_287 (lv_at hl 2 rfl) ?_
    refine lv_icmp_ge (tgt := 342) hx hb dX12_reached_289 (by decide) (fun _ => ?_) (fun c49 => absurd (by decide) c49)
    refine lv_iinc (v := (nI (4095 + 1))) (lv' := [(4, .int (nI (4095 + 1))), (12, .int (2 : Int32)), (13, .int (-1 : Int32)), (11, .int (2 : Int32)), (10, .ref x38), (9, .ref x38), (8, .int (0 : Int32)), (7, .int (0 : Int32)), (6, .int (0 : Int32)), (5, .int (nI 4095)), (3, .int (nI (4095 + 1))), (2, .ref x2), (1, .ref x1), (0, .ref za)]) hx hb dX12_reached_342 hl (k := 9) rfl (nI_add _ 1) (by decide) rfl (fun ls hl => ?_)
    refine lv_goto (tgt := 75) hx hb dX12_reached_345 (by decide) ?_
    refine lv_iload hx hb dX12_reached_75 (lv_at hl 0 rfl) ?_
    refine lv_iload_n hx hb dX12_reached_77 rfl (lv_at hl 10 rfl) ?_
    refine lv_icmp_ge (tgt := 348) hx hb dX12_reached_78 (by decide) (fun _ => ?_) (fun c50 => absurd (nI_le (a := (4095 + 1)) (b := (4095 + 1)) (by omega) (by omega)) c50)
    refine lv_aload_n hx hb dX12_reached_348 rfl (lv_at hl 12 rfl) ?_
    have I : fb_In D A s.heap (([fb_o12 za zr fr_e0, fb_aw cI (zr 0) 16205 (fr_m (fun _ => 0) 0), fb_aw (D.1 20) x1 4096 zb] : List va_W).flatten) H _ := fb_dropB (bs := [fb_o12 za zr fr_e0, fb_aw cI (zr 0) 16205 (fr_m (fun _ => 0) 0), fb_aw (D.1 20) x1 4096 zb, fb_aw cI x2 4096 zc, fb_aw cI x38 2 (upd (upd (fun _ => 0) 0 (0 : Int32)) 1 (-1 : Int32))]) (bs' := [fb_o12 za zr fr_e0, fb_aw cI (zr 0) 16205 (fr_m (fun _ => 0) 0), fb_aw (D.1 20) x1 4096 zb]) (gs := [fb_aw cI x2 4096 zc, fb_aw cI x38 2 (upd (upd (fun _ => 0) 0 (0 : Int32)) 1 (-1 : Int32))]) I 5 rfl [0, 1, 2, 3, 4] (by decide +kernel) rfl
    refine W.widen (k := 4098) (n := 16384) (by omega) (by omega) ?_
    exact fb_retRz (K := s.heap.size + 4096) (u := (zb)) (by omega) X I (fun j hj => (ib j hj).trans (if_pos (by omega))) (by first | exact Or.inl ⟨_, rfl⟩ | exact Or.inr ⟨_, rfl⟩) dX12_reached_349
  | succ n ih =>
    intro zi hn zb zc ib ic H locs ls I hz hl
    have ziL : zi < 4095 := by omega
    refine lv_iload hx hb dX12_reached_75 (lv_at hl 0 rfl) ?_
    refine lv_iload_n hx hb dX12_reached_77 rfl (lv_at hl 1 rfl) ?_
    refine lv_icmp_ge (tgt := 348) hx hb dX12_reached_78 (by decide) (fun c51 => absurd c51 (nI_ge (a := zi) (b := (zi + 1)) (by omega) (by omega))) (fun _ => ?_)
    refine lv_aload_n hx hb dX12_reached_81 rfl (lv_at hl 2 rfl) ?_
    refine lv_iload hx hb dX12_reached_82 (lv_at hl 0 rfl) ?_
    refine fb_iaC (n := zi) (v := (nI zi)) X I 3 0 rfl rfl (nI_clamp (by omega)) (nI_pos (by omega)) (by omega) (ic zi (by omega)) dX12_reached_84 ?_
    refine lv_istore (lv' := [(5, .int (nI zi)), (4, .int (nI zi)), (3, .int (nI (zi + 1))), (2, .ref x2), (1, .ref x1), (0, .ref za)]) hx hb dX12_reached_85 hl (by decide) rfl (fun ls hl => ?_)
    refine lv_aload_n hx hb dX12_reached_87 rfl (lv_at hl 5 rfl) ?_
    refine lv_iload hx hb dX12_reached_88 (lv_at hl 0 rfl) ?_
    refine fb_gO (cs := [fb_o12 za zr fr_e0, fb_aw cI (zr 0) 16205 (fr_m (fun _ => 0) 0)]) (rs := [fb_aw (D.1 20) x1 4096 zb, fb_aw cI x2 4096 zc]) X I [0, 1, 2, 3] 4 rfl (by decide +kernel) rfl rfl (fun I => fb_rV (As := [.int (nI zi)]) (rest := []) X hl (fb_goodV fw_1949 fw_1951 fw_86 fw_204 fw_1952) (c_code l D cI cJ za zr fr_e0 (fr_m (fun _ => 0) 0) (nI zi) _ (fr_hm _ _) rfl) rfl rfl rfl (by decide +kernel : fb_hd yX12_code 1) ⟨Nat.le_of_ble_eq_true rfl, Nat.le_of_ble_eq_true rfl⟩ rfl rfl rfl rfl rfl (Nat.le_of_ble_eq_true rfl) ⟨by show (0 + 1 + 1 + 1 * zi) + 0 ≤ 4098; omega, by show (0 + 4096 + 4096 + 2 * zi) + 0 ≤ 16384; omega⟩ dX12_reached_90 I) ?_
    refine lv_istore (lv' := [(6, .int (0 : Int32)), (5, .int (nI zi)), (4, .int (nI zi)), (3, .int (nI (zi + 1))), (2, .ref x2), (1, .ref x1), (0, .ref za)]) hx hb dX12_reached_93 hl (by decide) rfl (fun ls hl => ?_)
    refine lv_iload hx hb dX12_reached_95 (lv_at hl 0 rfl) ?_
    refine fb_gO (cs := []) (rs := [fb_o12 za zr fr_e0, fb_aw cI (zr 0) 16205 (fr_m (fun _ => 0) 0), fb_aw (D.1 20) x1 4096 zb, fb_aw cI x2 4096 zc]) X I [0, 1, 2, 3] 4 rfl (by decide +kernel) rfl rfl (fun I => fb_rS (As := [.int (0 : Int32)]) (rest := []) X hl (fb_goodS fw_2492 fw_2493 fw_204 fw_2494) (c_X12_isInstruction l D cI cJ (0 : Int32) _) rfl rfl (by decide +kernel : fb_hd yX12_isInstruction 1) ⟨Nat.le_of_ble_eq_true rfl, Nat.le_of_ble_eq_true rfl⟩ rfl rfl (Nat.le_of_ble_eq_true rfl) ⟨by show (0 + 1 + 1 + 1 * zi) + 0 ≤ 4098; omega, by show (0 + 4096 + 4096 + 2 * zi) + 0 ≤ 16384; omega⟩ dX12_reached_97 I) ?_
    refine fb_tI (v := (1 : Int32)) (by decide) ?_
    refine lv_if_ne (tgt := 111) hx hb dX12_reached_100 (by decide) (fun _ => ?_) (fun c52 => absurd c52 (by decide))
    refine lv_iload hx hb dX12_reached_111 (lv_at hl 0 rfl) ?_
    refine lv_bipush (v := (8 : Int32)) hx hb dX12_reached_113 (by decide) ?_
    refine lv_idiv hx hb dX12_reached_115 (by decide) ?_
    refine fb_tI (v := (0 : Int32)) (by decide) ?_
    refine lv_istore (lv' := [(7, .int (0 : Int32)), (6, .int (0 : Int32)), (5, .int (nI zi)), (4, .int (nI zi)), (3, .int (nI (zi + 1))), (2, .ref x2), (1, .ref x1), (0, .ref za)]) hx hb dX12_reached_116 hl (by decide) rfl (fun ls hl => ?_)
    refine lv_iload hx hb dX12_reached_118 (lv_at hl 1 rfl) ?_
    refine lv_iconst (v := (1 : Int32)) hx hb dX12_reached_120 (by decide) ?_
    refine lv_icmp_eq (tgt := 151) hx hb dX12_reached_121 (by decide) (fun c53 => absurd c53 (by decide)) (fun _ => ?_)
    refine lv_iload hx hb dX12_reached_124 (lv_at hl 1 rfl) ?_
    refine lv_iconst (v := (3 : Int32)) hx hb dX12_reached_126 (by decide) ?_
    refine lv_icmp_eq (tgt := 151) hx hb dX12_reached_127 (by decide) (fun c54 => absurd c54 (by decide)) (fun _ => ?_)
    refine lv_iload hx hb dX12_reached_130 (lv_at hl 1 rfl) ?_
    refine lv_iconst (v := (4 : Int32)) hx hb dX12_reached_132 (by decide) ?_
    refine lv_icmp_eq (tgt := 151) hx hb dX12_reached_133 (by decide) (fun c55 => absurd c55 (by decide)) (fun _ => ?_)
    refine lv_iload hx hb dX12_reached_136 (lv_at hl 0 rfl) ?_
    refine lv_bipush (v := (24 : Int32)) hx hb dX12_reached_138 (by decide) ?_
    refine lv_icmp_eq (tgt := 151) hx hb dX12_reached_140 (by decide) (fun c56 => absurd c56 (by decide)) (fun _ => ?_)
    refine lv_iload hx hb dX12_reached_143 (lv_at hl 1 rfl) ?_
    refine lv_sipush (v := (216 : Int32)) hx hb dX12_reached_145 (by decide) ?_
    refine lv_icmp_ne (tgt := 155) hx hb dX12_reached_148 (by decide) (fun _ => ?_) (fun c57 => absurd c57 (by decide))
    refine lv_iconst (v := (0 : Int32)) hx hb dX12_reached_155 (by decide) ?_
    refine lv_istore (lv' := [(8, .int (0 : Int32)), (7, .int (0 : Int32)), (6, .int (0 : Int32)), (5, .int (nI zi)), (4, .int (nI zi)), (3, .int (nI (zi + 1))), (2, .ref x2), (1, .ref x1), (0, .ref za)]) hx hb dX12_reached_156 hl (by decide) rfl (fun ls hl => ?_)
    refine lv_iconst (v := (2 : Int32)) hx hb dX12_reached_158 (by decide) ?_
    refine fb_nIz hz (N := 2) X I fw_261 (by decide) (Nat.le_of_ble_eq_true rfl) (by show (0 + 1 + 1 + 1 * zi) + 1 ≤ 4098; omega) (by show (0 + 4096 + 4096 + 2 * zi) + 2 ≤ 16384; omega) dX12_reached_159 (fun x58 H I hz => ?_)
    have I : fb_In D A s.heap (([fb_o12 za zr fr_e0, fb_aw cI (zr 0) 16205 (fr_m (fun _ => 0) 0), fb_aw (D.1 20) x1 4096 zb, fb_aw cI x2 4096 zc, fb_aw cI x58 2 (fun _ => 0)] : List va_W).flatten) H _ := I
    refine lv_dup hx hb dX12_reached_161 rfl ?_
    refine lv_iconst (v := (0 : Int32)) hx hb dX12_reached_162 (by decide) ?_
    refine lv_iload hx hb dX12_reached_163 (lv_at hl 0 rfl) ?_
    refine lv_if_eq (tgt := 172) hx hb dX12_reached_165 (by decide) (fun _ => ?_) (fun c59 => absurd (by decide) c59)
    refine lv_iload hx hb dX12_reached_172 (lv_at hl 3 rfl) ?_
    refine lv_iload hx hb dX12_reached_174 (lv_at hl 2 rfl) ?_
    refine fb_gO (cs := []) (rs := [fb_o12 za zr fr_e0, fb_aw cI (zr 0) 16205 (fr_m (fun _ => 0) 0), fb_aw (D.1 20) x1 4096 zb, fb_aw cI x2 4096 zc, fb_aw cI x58 2 (fun _ => 0)]) X I [0, 1, 2, 3, 4] 5 rfl (by decide +kernel) rfl rfl (fun I => fb_rS (As := [.int (0 : Int32)]) (rest := [.int (nI zi), .int (0 : Int32), .ref x58, .ref x58]) X hl (fb_goodS fw_2499 fw_2500 fw_204 fw_2501) (c_X12_length l D cI cJ (0 : Int32) _) rfl rfl (by decide +kernel : fb_hd yX12_length 1) ⟨Nat.le_of_ble_eq_true rfl, Nat.le_of_ble_eq_true rfl⟩ rfl rfl (Nat.le_of_ble_eq_true rfl) ⟨by show (0 + 1 + 1 + 1 * zi) + 1 + 0 ≤ 4098; omega, by show (0 + 4096 + 4096 + 2 * zi) + 2 + 0 ≤ 16384; omega⟩ dX12_reached_176 I) ?_
    refine fb_tI (v := (1 : Int32)) (by decide) ?_
    refine lv_iadd hx hb dX12_reached_179 ?_
    refine fb_tI (v := (nI (zi + 1))) (nI_add zi 1) ?_
    refine lv_sipush (v := (4095 : Int32)) hx hb dX12_reached_180 (by decide) ?_
    refine lv_iand hx hb dX12_reached_183 ?_
    refine fb_tI (v := (nI (zi + 1))) (fr_and (by omega)) ?_
    refine fb_isCz hz (n := 0) (wn := ([fb_o12 za zr fr_e0, fb_aw cI (zr 0) 16205 (fr_m (fun _ => 0) 0), fb_aw (D.1 20) x1 4096 zb, fb_aw cI x2 4096 zc, fb_aw cI x58 2 (upd (fun _ => 0) 0 (nI (zi + 1)))] : List va_W).flatten) X I 4 0 rfl rfl (by decide) (by decide) (Nat.le_of_ble_eq_true rfl) rfl dX12_reached_184 (fun H locs I hz => ?_)
    refine lv_dup hx hb dX12_reached_185 rfl ?_
    refine lv_iconst (v := (1 : Int32)) hx hb dX12_reached_186 (by decide) ?_
    refine lv_iload hx hb dX12_reached_187 (lv_at hl 1 rfl) ?_
    refine lv_bipush (v := (24 : Int32)) hx hb dX12_reached_189 (by decide) ?_
    refine lv_icmp_eq (tgt := 201) hx hb dX12_reached_191 (by decide) (fun c60 => absurd c60 (by decide)) (fun _ => ?_)
    refine lv_iload hx hb dX12_reached_194 (lv_at hl 1 rfl) ?_
    refine lv_bipush (v := (25 : Int32)) hx hb dX12_reached_196 (by decide) ?_
    refine lv_icmp_ne (tgt := 238) hx hb dX12_reached_198 (by decide) (fun _ => ?_) (fun c61 => absurd c61 (by decide))
    refine lv_iload hx hb dX12_reached_238 (lv_at hl 1 rfl) ?_
    refine lv_bipush (v := (25 : Int32)) hx hb dX12_reached_240 (by decide) ?_
    refine lv_icmp_le (tgt := 254) hx hb dX12_reached_242 (by decide) (fun _ => ?_) (fun c62 => absurd (by decide) c62)
    refine lv_iload hx hb dX12_reached_254 (lv_at hl 2 rfl) ?_
    refine lv_iconst (v := (5 : Int32)) hx hb dX12_reached_256 (by decide) ?_
    refine lv_icmp_ne (tgt := 269) hx hb dX12_reached_257 (by decide) (fun _ => ?_) (fun c63 => absurd c63 (by decide))
    refine lv_iconst (v := (-1 : Int32)) hx hb dX12_reached_269 (by decide) ?_
    refine fb_isCz hz (n := 1) (wn := ([fb_o12 za zr fr_e0, fb_aw cI (zr 0) 16205 (fr_m (fun _ => 0) 0), fb_aw (D.1 20) x1 4096 zb, fb_aw cI x2 4096 zc, fb_aw cI x58 2 (upd (upd (fun _ => 0) 0 (nI (zi + 1))) 1 (-1 : Int32))] : List va_W).flatten) X I 4 0 rfl rfl (by decide) (by decide) (Nat.le_of_ble_eq_true rfl) rfl dX12_reached_270 (fun H locs I hz => ?_)
    refine lv_astore (lv' := [(9, .ref x58), (8, .int (0 : Int32)), (7, .int (0 : Int32)), (6, .int (0 : Int32)), (5, .int (nI zi)), (4, .int (nI zi)), (3, .int (nI (zi + 1))), (2, .ref x2), (1, .ref x1), (0, .ref za)]) hx hb dX12_reached_271 hl (by decide) rfl (fun ls hl => ?_)
    refine lv_aload hx hb dX12_reached_273 (lv_at hl 0 rfl) ?_
    refine lv_astore (lv' := [(10, .ref x58), (9, .ref x58), (8, .int (0 : Int32)), (7, .int (0 : Int32)), (6, .int (0 : Int32)), (5, .int (nI zi)), (4, .int (nI zi)), (3, .int (nI (zi + 1))), (2, .ref x2), (1, .ref x1), (0, .ref za)]) hx hb dX12_reached_275 hl (by decide) rfl (fun ls hl => ?_)
    refine lv_aload hx hb dX12_reached_277 (lv_at hl 0 rfl) ?_
    refine fb_alen (v := (2 : Int32)) X I 4 0 rfl rfl rfl dX12_reached_279 ?_
    refine lv_istore (lv' := [(11, .int (2 : Int32)), (10, .ref x58), (9, .ref x58), (8, .int (0 : Int32)), (7, .int (0 : Int32)), (6, .int (0 : Int32)), (5, .int (nI zi)), (4, .int (nI zi)), (3, .int (nI (zi + 1))), (2, .ref x2), (1, .ref x1), (0, .ref za)]) hx hb dX12_reached_280 hl (by decide) rfl (fun ls hl => ?_)
    refine lv_iconst (v := (0 : Int32)) hx hb dX12_reached_282 (by decide) ?_
    refine lv_istore (lv' := [(12, .int (0 : Int32)), (11, .int (2 : Int32)), (10, .ref x58), (9, .ref x58), (8, .int (0 : Int32)), (7, .int (0 : Int32)), (6, .int (0 : Int32)), (5, .int (nI zi)), (4, .int (nI zi)), (3, .int (nI (zi + 1))), (2, .ref x2), (1, .ref x1), (0, .ref za)]) hx hb dX12_reached_283 hl (by decide) rfl (fun ls hl => ?_)
    refine lv_iload hx hb dX12_reached_285 (lv_at hl 0 rfl) ?_
    refine lv_iload hx hb dX12_reached_287 (lv_at hl 1 rfl) ?_
    refine lv_icmp_ge (tgt := 342) hx hb dX12_reached_289 (by decide) (fun c64 => absurd c64 (by decide)) (fun _ => ?_)
    refine lv_aload hx hb dX12_reached_292 (lv_at hl 2 rfl) ?_
    refine lv_iload hx hb dX12_reached_294 (lv_at hl 0 rfl) ?_
    refine fb_iaC (n := 0) (v := (nI (zi + 1))) X I 4 0 rfl rfl (by decide) (by decide) (Nat.le_of_ble_eq_true rfl) ((pk_un (by decide)).trans pk_us) dX12_reached_296 ?_
    refine lv_istore (lv' := [(13, .int (nI (zi + 1))), (12, .int (0 : Int32)), (11, .int (2 : Int32)), (10, .ref x58), (9, .ref x58), (8, .int (0 : Int32)), (7, .int (0 : Int32)), (6, .int (0 : Int32)), (5, .int (nI zi)), (4, .int (nI zi)), (3, .int (nI (zi + 1))), (2, .ref x2), (1, .ref x1), (0, .ref za)]) hx hb dX12_reached_297 hl (by decide) rfl (fun ls hl => ?_)
    refine lv_iload hx hb dX12_reached_299 (lv_at hl 0 rfl) ?_
    refine lv_if_lt (tgt := 336) hx hb dX12_reached_301 (by decide) (fun c65 => absurd c65 (nI_nlt (a := (zi + 1)) (b := 0) (by omega) (by omega))) (fun _ => ?_)
    refine lv_aload_n hx hb dX12_reached_304 rfl (lv_at hl 12 rfl) ?_
    refine lv_iload hx hb dX12_reached_305 (lv_at hl 0 rfl) ?_
    refine fb_zaC (n := (zi + 1)) (v := (0 : Int32)) X I 2 2 rfl rfl (nI_clamp (by omega)) (nI_pos (by omega)) (by omega) ((ib _ (by omega)).trans (if_neg (by omega))) dX12_reached_307 ?_
    refine lv_if_ne (tgt := 336) hx hb dX12_reached_308 (by decide) (fun c66 => absurd (by decide) c66) (fun _ => ?_)
    refine lv_aload_n hx hb dX12_reached_311 rfl (lv_at hl 13 rfl) ?_
    refine lv_iload hx hb dX12_reached_312 (lv_at hl 0 rfl) ?_
    refine fb_gO (cs := [fb_o12 za zr fr_e0, fb_aw cI (zr 0) 16205 (fr_m (fun _ => 0) 0)]) (rs := [fb_aw (D.1 20) x1 4096 zb, fb_aw cI x2 4096 zc, fb_aw cI x58 2 (upd (upd (fun _ => 0) 0 (nI (zi + 1))) 1 (-1 : Int32))]) X I [0, 1, 2, 3, 4] 5 rfl (by decide +kernel) rfl rfl (fun I => fb_rV (As := [.int (nI (zi + 1))]) (rest := []) X hl (fb_goodV fw_1949 fw_1951 fw_86 fw_204 fw_1952) (c_code l D cI cJ za zr fr_e0 (fr_m (fun _ => 0) 0) (nI (zi + 1)) _ (fr_hm _ _) rfl) rfl rfl rfl (by decide +kernel : fb_hd yX12_code 1) ⟨Nat.le_of_ble_eq_true rfl, Nat.le_of_ble_eq_true rfl⟩ rfl rfl rfl rfl rfl (Nat.le_of_ble_eq_true rfl) ⟨by show (0 + 1 + 1 + 1 * zi) + 1 + 0 ≤ 4098; omega, by show (0 + 4096 + 4096 + 2 * zi) + 2 + 0 ≤ 16384; omega⟩ dX12_reached_314 I) ?_
    refine fb_gO (cs := []) (rs := [fb_o12 za zr fr_e0, fb_aw cI (zr 0) 16205 (fr_m (fun _ => 0) 0), fb_aw (D.1 20) x1 4096 zb, fb_aw cI x2 4096 zc, fb_aw cI x58 2 (upd (upd (fun _ => 0) 0 (nI (zi + 1))) 1 (-1 : Int32))]) X I [0, 1, 2, 3, 4] 5 rfl (by decide +kernel) rfl rfl (fun I => fb_rS (As := [.int (0 : Int32)]) (rest := []) X hl (fb_goodS fw_2492 fw_2493 fw_204 fw_2494) (c_X12_isInstruction l D cI cJ (0 : Int32) _) rfl rfl (by decide +kernel : fb_hd yX12_isInstruction 1) ⟨Nat.le_of_ble_eq_true rfl, Nat.le_of_ble_eq_true rfl⟩ rfl rfl (Nat.le_of_ble_eq_true rfl) ⟨by show (0 + 1 + 1 + 1 * zi) + 1 + 0 ≤ 4098; omega, by show (0 + 4096 + 4096 + 2 * zi) + 2 + 0 ≤ 16384; omega⟩ dX12_reached_317 I) ?_
    refine fb_tI (v := (1 : Int32)) (by decide) ?_
    refine lv_if_eq (tgt := 336) hx hb dX12_reached_320 (by decide) (fun c67 => absurd c67 (by decide)) (fun _ => ?_)
    refine lv_aload_n hx hb dX12_reached_323 rfl (lv_at hl 12 rfl) ?_
    refine lv_iload hx hb dX12_reached_324 (lv_at hl 0 rfl) ?_
    refine lv_iconst (v := (1 : Int32)) hx hb dX12_reached_326 (by decide) ?_
    refine fb_zsCz hz (n := (zi + 1)) (wn := ([fb_o12 za zr fr_e0, fb_aw cI (zr 0) 16205 (fr_m (fun _ => 0) 0), fb_aw (D.1 20) x1 4096 (upd zb (zi + 1) (1 : Int32)), fb_aw cI x2 4096 zc, fb_aw cI x58 2 (upd (upd (fun _ => 0) 0 (nI (zi + 1))) 1 (-1 : Int32))] : List va_W).flatten) X I 2 2 rfl rfl (nI_clamp (by omega)) (nI_pos (by omega)) (by omega) rfl rfl dX12_reached_327 (fun H locs I hz => ?_)
    refine lv_aload_n hx hb dX12_reached_328 rfl (lv_at hl 11 rfl) ?_
    refine lv_iload_n hx hb dX12_reached_329 rfl (lv_at hl 10 rfl) ?_
    refine lv_iinc (v := (nI ((zi + 1) + 1))) (lv' := [(3, .int (nI ((zi + 1) + 1))), (13, .int (nI (zi + 1))), (12, .int (0 : Int32)), (11, .int (2 : Int32)), (10, .ref x58), (9, .ref x58), (8, .int (0 : Int32)), (7, .int (0 : Int32)), (6, .int (0 : Int32)), (5, .int (nI zi)), (4, .int (nI zi)), (2, .ref x2), (1, .ref x1), (0, .ref za)]) hx hb dX12_reached_330 hl (k := 10) rfl (nI_add _ 1) (by decide) rfl (fun ls hl => ?_)
    refine lv_iload hx hb dX12_reached_333 (lv_at hl 1 rfl) ?_
    refine fb_isCz hz (n := (zi + 1)) (wn := ([fb_o12 za zr fr_e0, fb_aw cI (zr 0) 16205 (fr_m (fun _ => 0) 0), fb_aw (D.1 20) x1 4096 (upd zb (zi + 1) (1 : Int32)), fb_aw cI x2 4096 (upd zc (zi + 1) (nI (zi + 1))), fb_aw cI x58 2 (upd (upd (fun _ => 0) 0 (nI (zi + 1))) 1 (-1 : Int32))] : List va_W).flatten) X I 3 0 rfl rfl (nI_clamp (by omega)) (nI_pos (by omega)) (by omega) rfl dX12_reached_335 (fun H locs I hz => ?_)
    refine lv_iinc (v := (1 : Int32)) (lv' := [(12, .int (1 : Int32)), (3, .int (nI ((zi + 1) + 1))), (13, .int (nI (zi + 1))), (11, .int (2 : Int32)), (10, .ref x58), (9, .ref x58), (8, .int (0 : Int32)), (7, .int (0 : Int32)), (6, .int (0 : Int32)), (5, .int (nI zi)), (4, .int (nI zi)), (2, .ref x2), (1, .ref x1), (0, .ref za)]) hx hb dX12_reached_336 hl (k := 2) rfl (by decide) (by decide) rfl (fun ls hl => ?_)
    refine lv_goto (tgt := 285) hx hb dX12_reached_339 (by decide) ?_
    refine lv_iload hx hb dX12_reached_285 (lv_at hl 0 rfl) ?_
    refine lv_iload hx hb dX12_reached_287 (lv_at hl 3 rfl) ?_
    refine lv_icmp_ge (tgt := 342) hx hb dX12_reached_289 (by decide) (fun c68 => absurd c68 (by decide)) (fun _ => ?_)
    refine lv_aload hx hb dX12_reached_292 (lv_at hl 4 rfl) ?_
    refine lv_iload hx hb dX12_reached_294 (lv_at hl 0 rfl) ?_
    refine fb_iaC (n := 1) (v := (-1 : Int32)) X I 4 0 rfl rfl (by decide) (by decide) (Nat.le_of_ble_eq_true rfl) pk_us dX12_reached_296 ?_
    refine lv_istore (lv' := [(13, .int (-1 : Int32)), (12, .int (1 : Int32)), (3, .int (nI ((zi + 1) + 1))), (11, .int (2 : Int32)), (10, .ref x58), (9, .ref x58), (8, .int (0 : Int32)), (7, .int (0 : Int32)), (6, .int (0 : Int32)), (5, .int (nI zi)), (4, .int (nI zi)), (2, .ref x2), (1, .ref x1), (0, .ref za)]) hx hb dX12_reached_297 hl (by decide) rfl (fun ls hl => ?_)
    refine lv_iload hx hb dX12_reached_299 (lv_at hl 0 rfl) ?_
    refine lv_if_lt (tgt := 336) hx hb dX12_reached_301 (by decide) (fun _ => ?_) (fun c69 => absurd (by decide) c69)
    refine lv_iinc (v := (2 : Int32)) (lv' := [(12, .int (2 : Int32)), (13, .int (-1 : Int32)), (3, .int (nI ((zi + 1) + 1))), (11, .int (2 : Int32)), (10, .ref x58), (9, .ref x58), (8, .int (0 : Int32)), (7, .int (0 : Int32)), (6, .int (0 : Int32)), (5, .int (nI zi)), (4, .int (nI zi)), (2, .ref x2), (1, .ref x1), (0, .ref za)]) hx hb dX12_reached_336 hl (k := 1) rfl (by decide) (by decide) rfl (fun ls hl => ?_)
    refine lv_goto (tgt := 285) hx hb dX12_reached_339 (by decide) ?_
    refine lv_iload hx hb dX12_reached_285 (lv_at hl 0 rfl) ?_
    refine lv_iload hx hb dX12_reached_287 (lv_at hl 3 rfl) ?_
    refine lv_icmp_ge (tgt := 342) hx hb dX12_reached_289 (by decide) (fun _ => ?_) (fun c70 => absurd (by decide) c70)
    refine lv_iinc (v := (nI (zi + 1))) (lv' := [(4, .int (nI (zi + 1))), (12, .int (2 : Int32)), (13, .int (-1 : Int32)), (3, .int (nI ((zi + 1) + 1))), (11, .int (2 : Int32)), (10, .ref x58), (9, .ref x58), (8, .int (0 : Int32)), (7, .int (0 : Int32)), (6, .int (0 : Int32)), (5, .int (nI zi)), (2, .ref x2), (1, .ref x1), (0, .ref za)]) hx hb dX12_reached_342 hl (k := 10) rfl (nI_add _ 1) (by decide) rfl (fun ls hl => ?_)
    refine lv_goto (tgt := 75) hx hb dX12_reached_345 (by decide) ?_
    have I : fb_In D A s.heap (([fb_o12 za zr fr_e0, fb_aw cI (zr 0) 16205 (fr_m (fun _ => 0) 0), fb_aw (D.1 20) x1 4096 (upd zb (zi + 1) (1 : Int32)), fb_aw cI x2 4096 (upd zc (zi + 1) (nI (zi + 1)))] : List va_W).flatten) H _ := fb_dropB (bs := [fb_o12 za zr fr_e0, fb_aw cI (zr 0) 16205 (fr_m (fun _ => 0) 0), fb_aw (D.1 20) x1 4096 (upd zb (zi + 1) (1 : Int32)), fb_aw cI x2 4096 (upd zc (zi + 1) (nI (zi + 1))), fb_aw cI x58 2 (upd (upd (fun _ => 0) 0 (nI (zi + 1))) 1 (-1 : Int32))]) (bs' := [fb_o12 za zr fr_e0, fb_aw cI (zr 0) 16205 (fr_m (fun _ => 0) 0), fb_aw (D.1 20) x1 4096 (upd zb (zi + 1) (1 : Int32)), fb_aw cI x2 4096 (upd zc (zi + 1) (nI (zi + 1)))]) (gs := [fb_aw cI x58 2 (upd (upd (fun _ => 0) 0 (nI (zi + 1))) 1 (-1 : Int32))]) I 5 rfl [0, 1, 2, 3, 4] (by decide +kernel) rfl
    refine W.widen (k := (0 + 1 + 1 + 1 * (zi + 1))) (n := (0 + 4096 + 4096 + 2 * (zi + 1))) (by omega) (by omega) ?_
    exact ih (zi + 1) (by omega) (upd zb (zi + 1) (1 : Int32)) (upd zc (zi + 1) (nI (zi + 1))) (fr_rb ib) (fr_rc ic) _ _ _ I (by omega) (lv_sub hl [0, 3, 11, 12, 13] rfl)
set_option maxHeartbeats 4000000 in
set_option maxRecDepth 100000 in
theorem cz_reached (l : Launch) (D : va_G) (cI cJ : ClassId) (za : Nat) (zr : Nat → Nat) (sz : Nat)  : Met l yX12_reached (Cond.code yX12_reached cX12_reached 14 (some (.array .boolean)) :: fb_all) ({ frames := 5, cells := 4098, slots := 16384, locals := 122 } : Room) (fb_PP D (fb_ty D cI cJ) [.ref za] (([fb_o12 za zr fr_e0, fb_aw cI (zr 0) 16205 (fr_m (fun _ => 0) 0)] : List va_W).flatten) sz) (fb_QRz (sz + 4096) D (va_A (([fb_o12 za zr fr_e0, fb_aw cI (zr 0) 16205 (fr_m (fun _ => 0) 0)] : List va_W).flatten) sz) (fun (t : fb_AR) => ∀ j, j < 4096 → t j = 1) (fun (t : fb_AR) (rr : Nat) => ([fb_o12 za zr fr_e0, fb_aw cI (zr 0) 16205 (fr_m (fun _ => 0) 0), fb_aw (D.1 20) rr 4096 t] : List va_W).flatten)) 4098 16384 (va_A (([fb_o12 za zr fr_e0, fb_aw cI (zr 0) 16205 (fr_m (fun _ => 0) 0)] : List va_W).flatten) sz) := by
  refine fb_entz (Qf := fun A => (fb_QRz (sz + 4096) D A (fun (t : fb_AR) => ∀ j, j < 4096 → t j = 1) (fun (t : fb_AR) (rr : Nat) => ([fb_o12 za zr fr_e0, fb_aw cI (zr 0) 16205 (fr_m (fun _ => 0) 0), fb_aw (D.1 20) rr 4096 t] : List va_W).flatten))) (by decide +kernel) (Nat.le_of_ble_eq_true rfl) ?_
  intro p e s m args below meth c A ls hsz X I hl hin
  subst hsz
  obtain ⟨hx, hb, hr, hml, hown, hts, hlk, hA, hK, hF⟩ := id X
  have hl : lv_has ls 14 [(0, .ref za)] := hl
  refine lv_sipush (v := (4096 : Int32)) hx hb dX12_reached_0 (by decide) ?_
  refine fb_nZ (N := 4096) X I fw_2118 (by decide) (Nat.le_of_ble_eq_true rfl) (Nat.le_of_ble_eq_true rfl) (Nat.le_of_ble_eq_true rfl) dX12_reached_3 (fun x1 H I => ?_)
  have I : fb_In D A s.heap (([fb_o12 za zr fr_e0, fb_aw cI (zr 0) 16205 (fr_m (fun _ => 0) 0), fb_aw (D.1 20) x1 4096 (fun _ => 0)] : List va_W).flatten) H _ := I
  refine lv_astore_n (lv' := [(1, .ref x1), (0, .ref za)]) hx hb dX12_reached_5 rfl hl (by decide) rfl (fun ls hl => ?_)
  refine lv_sipush (v := (4096 : Int32)) hx hb dX12_reached_6 (by decide) ?_
  refine fb_nI (N := 4096) X I fw_261 (by decide) (Nat.le_of_ble_eq_true rfl) (Nat.le_of_ble_eq_true rfl) (Nat.le_of_ble_eq_true rfl) dX12_reached_9 (fun x2 H I => ?_)
  have I : fb_In D A s.heap (([fb_o12 za zr fr_e0, fb_aw cI (zr 0) 16205 (fr_m (fun _ => 0) 0), fb_aw (D.1 20) x1 4096 (fun _ => 0), fb_aw cI x2 4096 (fun _ => 0)] : List va_W).flatten) H _ := I
  refine lv_astore_n (lv' := [(2, .ref x2), (1, .ref x1), (0, .ref za)]) hx hb dX12_reached_11 rfl hl (by decide) rfl (fun ls hl => ?_)
  refine lv_iconst (v := (0 : Int32)) hx hb dX12_reached_12 (by decide) ?_
  refine lv_istore_n (lv' := [(3, .int (0 : Int32)), (2, .ref x2), (1, .ref x1), (0, .ref za)]) hx hb dX12_reached_13 rfl hl (by decide) rfl (fun ls hl => ?_)
  refine lv_iconst (v := (-1 : Int32)) hx hb dX12_reached_14 (by decide) ?_
  refine lv_istore (lv' := [(4, .int (-1 : Int32)), (3, .int (0 : Int32)), (2, .ref x2), (1, .ref x1), (0, .ref za)]) hx hb dX12_reached_15 hl (by decide) rfl (fun ls hl => ?_)
  refine lv_iload hx hb dX12_reached_17 (lv_at hl 0 rfl) ?_
  refine lv_bipush (v := (8 : Int32)) hx hb dX12_reached_19 (by decide) ?_
  refine lv_icmp_ge (tgt := 72) hx hb dX12_reached_21 (by decide) (fun c3 => absurd c3 (by decide)) (fun _ => ?_)
  refine lv_iload hx hb dX12_reached_24 (lv_at hl 0 rfl) ?_
  refine lv_if_ge (tgt := 38) hx hb dX12_reached_26 (by decide) (fun c4 => absurd c4 (by decide)) (fun _ => ?_)
  refine lv_aload_n hx hb dX12_reached_29 rfl (lv_at hl 4 rfl) ?_
  refine fb_get X I (k := 0) (v := .ref (zr 0)) fu_X12 0 fb_h12 rfl (Nat.le_of_ble_eq_true rfl) fw_1964 rfl rfl dX12_reached_30 ?_
  refine lv_iconst (v := (4 : Int32)) hx hb dX12_reached_33 (by decide) ?_
  refine fb_iaC (n := 4) (v := (0 : Int32)) X I 1 0 rfl rfl (by decide) (by decide) (Nat.le_of_ble_eq_true rfl) rfl dX12_reached_34 ?_
  refine lv_goto (tgt := 44) hx hb dX12_reached_35 (by decide) ?_
  refine lv_istore (lv' := [(5, .int (0 : Int32)), (4, .int (-1 : Int32)), (3, .int (0 : Int32)), (2, .ref x2), (1, .ref x1), (0, .ref za)]) hx hb dX12_reached_44 hl (by decide) rfl (fun ls hl => ?_)
  refine lv_aload_n hx hb dX12_reached_46 rfl (lv_at hl 4 rfl) ?_
  refine lv_iload hx hb dX12_reached_47 (lv_at hl 0 rfl) ?_
  refine fb_zaC (n := 0) (v := (0 : Int32)) X I 2 2 rfl rfl (by decide) (by decide) (Nat.le_of_ble_eq_true rfl) rfl dX12_reached_49 ?_
  refine lv_if_ne (tgt := 61) hx hb dX12_reached_50 (by decide) (fun c5 => absurd (by decide) c5) (fun _ => ?_)
  refine lv_aload_n hx hb dX12_reached_53 rfl (lv_at hl 3 rfl) ?_
  refine lv_iload_n hx hb dX12_reached_54 rfl (lv_at hl 2 rfl) ?_
  refine lv_iinc (v := (1 : Int32)) (lv' := [(3, .int (1 : Int32)), (5, .int (0 : Int32)), (4, .int (-1 : Int32)), (2, .ref x2), (1, .ref x1), (0, .ref za)]) hx hb dX12_reached_55 hl (k := 2) rfl (by decide) (by decide) rfl (fun ls hl => ?_)
  refine lv_iload hx hb dX12_reached_58 (lv_at hl 1 rfl) ?_
  refine fb_isC (n := 0) (wn := ([fb_o12 za zr fr_e0, fb_aw cI (zr 0) 16205 (fr_m (fun _ => 0) 0), fb_aw (D.1 20) x1 4096 (fun _ => 0), fb_aw cI x2 4096 (upd (fun _ => 0) 0 (0 : Int32))] : List va_W).flatten) X I 3 0 rfl rfl (by decide) (by decide) (Nat.le_of_ble_eq_true rfl) rfl dX12_reached_60 (fun H locs I => ?_)
  refine lv_aload_n hx hb dX12_reached_61 rfl (lv_at hl 4 rfl) ?_
  refine lv_iload hx hb dX12_reached_62 (lv_at hl 1 rfl) ?_
  refine lv_iconst (v := (1 : Int32)) hx hb dX12_reached_64 (by decide) ?_
  refine fb_zsC (n := 0) (wn := ([fb_o12 za zr fr_e0, fb_aw cI (zr 0) 16205 (fr_m (fun _ => 0) 0), fb_aw (D.1 20) x1 4096 (upd (fun _ => 0) 0 (1 : Int32)), fb_aw cI x2 4096 (upd (fun _ => 0) 0 (0 : Int32))] : List va_W).flatten) X I 2 2 rfl rfl (by decide) (by decide) (Nat.le_of_ble_eq_true rfl) rfl rfl dX12_reached_65 (fun H locs I => ?_)
  refine lv_iinc (v := (0 : Int32)) (lv' := [(4, .int (0 : Int32)), (3, .int (1 : Int32)), (5, .int (0 : Int32)), (2, .ref x2), (1, .ref x1), (0, .ref za)]) hx hb dX12_reached_66 hl (k := 2) rfl (by decide) (by decide) rfl (fun ls hl => ?_)
  refine lv_goto (tgt := 17) hx hb dX12_reached_69 (by decide) ?_
  refine lv_iload hx hb dX12_reached_17 (lv_at hl 0 rfl) ?_
  refine lv_bipush (v := (8 : Int32)) hx hb dX12_reached_19 (by decide) ?_
  refine lv_icmp_ge (tgt := 72) hx hb dX12_reached_21 (by decide) (fun c6 => absurd c6 (by decide)) (fun _ => ?_)
  refine lv_iload hx hb dX12_reached_24 (lv_at hl 0 rfl) ?_
  refine lv_if_ge (tgt := 38) hx hb dX12_reached_26 (by decide) (fun _ => ?_) (fun c7 => absurd (by decide) c7)
  refine lv_aload_n hx hb dX12_reached_38 rfl (lv_at hl 5 rfl) ?_
  refine lv_iload hx hb dX12_reached_39 (lv_at hl 0 rfl) ?_
  refine fb_gO (cs := [fb_o12 za zr fr_e0, fb_aw cI (zr 0) 16205 (fr_m (fun _ => 0) 0)]) (rs := [fb_aw (D.1 20) x1 4096 (upd (fun _ => 0) 0 (1 : Int32)), fb_aw cI x2 4096 (upd (fun _ => 0) 0 (0 : Int32))]) X I [0, 1, 2, 3] 4 rfl (by decide +kernel) rfl rfl (fun I => fb_rV (As := [.int (0 : Int32)]) (rest := []) X hl (fb_goodV fw_1945 fw_1947 fw_85 fw_204 fw_1948) (c_vector l D cI cJ za zr fr_e0 (fr_m (fun _ => 0) 0) (0 : Int32) _ (fr_hm _ _) rfl) rfl rfl rfl (by decide +kernel : fb_hd yX12_vector 1) ⟨Nat.le_of_ble_eq_true rfl, Nat.le_of_ble_eq_true rfl⟩ rfl rfl rfl rfl rfl (Nat.le_of_ble_eq_true rfl) ⟨Nat.le_of_ble_eq_true rfl, Nat.le_of_ble_eq_true rfl⟩ dX12_reached_41 I) ?_
  refine lv_istore (lv' := [(5, .int (0 : Int32)), (4, .int (0 : Int32)), (3, .int (1 : Int32)), (2, .ref x2), (1, .ref x1), (0, .ref za)]) hx hb dX12_reached_44 hl (by decide) rfl (fun ls hl => ?_)
  refine lv_aload_n hx hb dX12_reached_46 rfl (lv_at hl 4 rfl) ?_
  refine lv_iload hx hb dX12_reached_47 (lv_at hl 0 rfl) ?_
  refine fb_zaC (n := 0) (v := (1 : Int32)) X I 2 2 rfl rfl (by decide) (by decide) (Nat.le_of_ble_eq_true rfl) pk_us dX12_reached_49 ?_
  refine lv_if_ne (tgt := 61) hx hb dX12_reached_50 (by decide) (fun _ => ?_) (fun c8 => absurd c8 (by decide))
  refine lv_aload_n hx hb dX12_reached_61 rfl (lv_at hl 4 rfl) ?_
  refine lv_iload hx hb dX12_reached_62 (lv_at hl 0 rfl) ?_
  refine lv_iconst (v := (1 : Int32)) hx hb dX12_reached_64 (by decide) ?_
  refine fb_zsC (n := 0) (wn := ([fb_o12 za zr fr_e0, fb_aw cI (zr 0) 16205 (fr_m (fun _ => 0) 0), fb_aw (D.1 20) x1 4096 (upd (upd (fun _ => 0) 0 (1 : Int32)) 0 (1 : Int32)), fb_aw cI x2 4096 (upd (fun _ => 0) 0 (0 : Int32))] : List va_W).flatten) X I 2 2 rfl rfl (by decide) (by decide) (Nat.le_of_ble_eq_true rfl) rfl rfl dX12_reached_65 (fun H locs I => ?_)
  refine lv_iinc (v := (1 : Int32)) (lv' := [(4, .int (1 : Int32)), (5, .int (0 : Int32)), (3, .int (1 : Int32)), (2, .ref x2), (1, .ref x1), (0, .ref za)]) hx hb dX12_reached_66 hl (k := 1) rfl (by decide) (by decide) rfl (fun ls hl => ?_)
  refine lv_goto (tgt := 17) hx hb dX12_reached_69 (by decide) ?_
  refine lv_iload hx hb dX12_reached_17 (lv_at hl 0 rfl) ?_
  refine lv_bipush (v := (8 : Int32)) hx hb dX12_reached_19 (by decide) ?_
  refine lv_icmp_ge (tgt := 72) hx hb dX12_reached_21 (by decide) (fun c9 => absurd c9 (by decide)) (fun _ => ?_)
  refine lv_iload hx hb dX12_reached_24 (lv_at hl 0 rfl) ?_
  refine lv_if_ge (tgt := 38) hx hb dX12_reached_26 (by decide) (fun _ => ?_) (fun c10 => absurd (by decide) c10)
  refine lv_aload_n hx hb dX12_reached_38 rfl (lv_at hl 5 rfl) ?_
  refine lv_iload hx hb dX12_reached_39 (lv_at hl 0 rfl) ?_
  refine fb_gO (cs := [fb_o12 za zr fr_e0, fb_aw cI (zr 0) 16205 (fr_m (fun _ => 0) 0)]) (rs := [fb_aw (D.1 20) x1 4096 (upd (upd (fun _ => 0) 0 (1 : Int32)) 0 (1 : Int32)), fb_aw cI x2 4096 (upd (fun _ => 0) 0 (0 : Int32))]) X I [0, 1, 2, 3] 4 rfl (by decide +kernel) rfl rfl (fun I => fb_rV (As := [.int (1 : Int32)]) (rest := []) X hl (fb_goodV fw_1945 fw_1947 fw_85 fw_204 fw_1948) (c_vector l D cI cJ za zr fr_e0 (fr_m (fun _ => 0) 0) (1 : Int32) _ (fr_hm _ _) rfl) rfl rfl rfl (by decide +kernel : fb_hd yX12_vector 1) ⟨Nat.le_of_ble_eq_true rfl, Nat.le_of_ble_eq_true rfl⟩ rfl rfl rfl rfl rfl (Nat.le_of_ble_eq_true rfl) ⟨Nat.le_of_ble_eq_true rfl, Nat.le_of_ble_eq_true rfl⟩ dX12_reached_41 I) ?_
  refine lv_istore (lv' := [(5, .int (0 : Int32)), (4, .int (1 : Int32)), (3, .int (1 : Int32)), (2, .ref x2), (1, .ref x1), (0, .ref za)]) hx hb dX12_reached_44 hl (by decide) rfl (fun ls hl => ?_)
  refine lv_aload_n hx hb dX12_reached_46 rfl (lv_at hl 4 rfl) ?_
  refine lv_iload hx hb dX12_reached_47 (lv_at hl 0 rfl) ?_
  refine fb_zaC (n := 0) (v := (1 : Int32)) X I 2 2 rfl rfl (by decide) (by decide) (Nat.le_of_ble_eq_true rfl) pk_us dX12_reached_49 ?_
  refine lv_if_ne (tgt := 61) hx hb dX12_reached_50 (by decide) (fun _ => ?_) (fun c11 => absurd c11 (by decide))
  refine lv_aload_n hx hb dX12_reached_61 rfl (lv_at hl 4 rfl) ?_
  refine lv_iload hx hb dX12_reached_62 (lv_at hl 0 rfl) ?_
  refine lv_iconst (v := (1 : Int32)) hx hb dX12_reached_64 (by decide) ?_
  refine fb_zsC (n := 0) (wn := ([fb_o12 za zr fr_e0, fb_aw cI (zr 0) 16205 (fr_m (fun _ => 0) 0), fb_aw (D.1 20) x1 4096 (upd (upd (upd (fun _ => 0) 0 (1 : Int32)) 0 (1 : Int32)) 0 (1 : Int32)), fb_aw cI x2 4096 (upd (fun _ => 0) 0 (0 : Int32))] : List va_W).flatten) X I 2 2 rfl rfl (by decide) (by decide) (Nat.le_of_ble_eq_true rfl) rfl rfl dX12_reached_65 (fun H locs I => ?_)
  refine lv_iinc (v := (2 : Int32)) (lv' := [(4, .int (2 : Int32)), (5, .int (0 : Int32)), (3, .int (1 : Int32)), (2, .ref x2), (1, .ref x1), (0, .ref za)]) hx hb dX12_reached_66 hl (k := 1) rfl (by decide) (by decide) rfl (fun ls hl => ?_)
  refine lv_goto (tgt := 17) hx hb dX12_reached_69 (by decide) ?_
  refine lv_iload hx hb dX12_reached_17 (lv_at hl 0 rfl) ?_
  refine lv_bipush (v := (8 : Int32)) hx hb dX12_reached_19 (by decide) ?_
  refine lv_icmp_ge (tgt := 72) hx hb dX12_reached_21 (by decide) (fun c12 => absurd c12 (by decide)) (fun _ => ?_)
  refine lv_iload hx hb dX12_reached_24 (lv_at hl 0 rfl) ?_
  refine lv_if_ge (tgt := 38) hx hb dX12_reached_26 (by decide) (fun _ => ?_) (fun c13 => absurd (by decide) c13)
  refine lv_aload_n hx hb dX12_reached_38 rfl (lv_at hl 5 rfl) ?_
  refine lv_iload hx hb dX12_reached_39 (lv_at hl 0 rfl) ?_
  refine fb_gO (cs := [fb_o12 za zr fr_e0, fb_aw cI (zr 0) 16205 (fr_m (fun _ => 0) 0)]) (rs := [fb_aw (D.1 20) x1 4096 (upd (upd (upd (fun _ => 0) 0 (1 : Int32)) 0 (1 : Int32)) 0 (1 : Int32)), fb_aw cI x2 4096 (upd (fun _ => 0) 0 (0 : Int32))]) X I [0, 1, 2, 3] 4 rfl (by decide +kernel) rfl rfl (fun I => fb_rV (As := [.int (2 : Int32)]) (rest := []) X hl (fb_goodV fw_1945 fw_1947 fw_85 fw_204 fw_1948) (c_vector l D cI cJ za zr fr_e0 (fr_m (fun _ => 0) 0) (2 : Int32) _ (fr_hm _ _) rfl) rfl rfl rfl (by decide +kernel : fb_hd yX12_vector 1) ⟨Nat.le_of_ble_eq_true rfl, Nat.le_of_ble_eq_true rfl⟩ rfl rfl rfl rfl rfl (Nat.le_of_ble_eq_true rfl) ⟨Nat.le_of_ble_eq_true rfl, Nat.le_of_ble_eq_true rfl⟩ dX12_reached_41 I) ?_
  refine lv_istore (lv' := [(5, .int (0 : Int32)), (4, .int (2 : Int32)), (3, .int (1 : Int32)), (2, .ref x2), (1, .ref x1), (0, .ref za)]) hx hb dX12_reached_44 hl (by decide) rfl (fun ls hl => ?_)
  refine lv_aload_n hx hb dX12_reached_46 rfl (lv_at hl 4 rfl) ?_
  refine lv_iload hx hb dX12_reached_47 (lv_at hl 0 rfl) ?_
  refine fb_zaC (n := 0) (v := (1 : Int32)) X I 2 2 rfl rfl (by decide) (by decide) (Nat.le_of_ble_eq_true rfl) pk_us dX12_reached_49 ?_
  refine lv_if_ne (tgt := 61) hx hb dX12_reached_50 (by decide) (fun _ => ?_) (fun c14 => absurd c14 (by decide))
  refine lv_aload_n hx hb dX12_reached_61 rfl (lv_at hl 4 rfl) ?_
  refine lv_iload hx hb dX12_reached_62 (lv_at hl 0 rfl) ?_
  refine lv_iconst (v := (1 : Int32)) hx hb dX12_reached_64 (by decide) ?_
  refine fb_zsC (n := 0) (wn := ([fb_o12 za zr fr_e0, fb_aw cI (zr 0) 16205 (fr_m (fun _ => 0) 0), fb_aw (D.1 20) x1 4096 (upd (upd (upd (upd (fun _ => 0) 0 (1 : Int32)) 0 (1 : Int32)) 0 (1 : Int32)) 0 (1 : Int32)), fb_aw cI x2 4096 (upd (fun _ => 0) 0 (0 : Int32))] : List va_W).flatten) X I 2 2 rfl rfl (by decide) (by decide) (Nat.le_of_ble_eq_true rfl) rfl rfl dX12_reached_65 (fun H locs I => ?_)
  refine lv_iinc (v := (3 : Int32)) (lv' := [(4, .int (3 : Int32)), (5, .int (0 : Int32)), (3, .int (1 : Int32)), (2, .ref x2), (1, .ref x1), (0, .ref za)]) hx hb dX12_reached_66 hl (k := 1) rfl (by decide) (by decide) rfl (fun ls hl => ?_)
  refine lv_goto (tgt := 17) hx hb dX12_reached_69 (by decide) ?_
  refine lv_iload hx hb dX12_reached_17 (lv_at hl 0 rfl) ?_
  refine lv_bipush (v := (8 : Int32)) hx hb dX12_reached_19 (by decide) ?_
  refine lv_icmp_ge (tgt := 72) hx hb dX12_reached_21 (by decide) (fun c15 => absurd c15 (by decide)) (fun _ => ?_)
  refine lv_iload hx hb dX12_reached_24 (lv_at hl 0 rfl) ?_
  refine lv_if_ge (tgt := 38) hx hb dX12_reached_26 (by decide) (fun _ => ?_) (fun c16 => absurd (by decide) c16)
  refine lv_aload_n hx hb dX12_reached_38 rfl (lv_at hl 5 rfl) ?_
  refine lv_iload hx hb dX12_reached_39 (lv_at hl 0 rfl) ?_
  refine fb_gO (cs := [fb_o12 za zr fr_e0, fb_aw cI (zr 0) 16205 (fr_m (fun _ => 0) 0)]) (rs := [fb_aw (D.1 20) x1 4096 (upd (upd (upd (upd (fun _ => 0) 0 (1 : Int32)) 0 (1 : Int32)) 0 (1 : Int32)) 0 (1 : Int32)), fb_aw cI x2 4096 (upd (fun _ => 0) 0 (0 : Int32))]) X I [0, 1, 2, 3] 4 rfl (by decide +kernel) rfl rfl (fun I => fb_rV (As := [.int (3 : Int32)]) (rest := []) X hl (fb_goodV fw_1945 fw_1947 fw_85 fw_204 fw_1948) (c_vector l D cI cJ za zr fr_e0 (fr_m (fun _ => 0) 0) (3 : Int32) _ (fr_hm _ _) rfl) rfl rfl rfl (by decide +kernel : fb_hd yX12_vector 1) ⟨Nat.le_of_ble_eq_true rfl, Nat.le_of_ble_eq_true rfl⟩ rfl rfl rfl rfl rfl (Nat.le_of_ble_eq_true rfl) ⟨Nat.le_of_ble_eq_true rfl, Nat.le_of_ble_eq_true rfl⟩ dX12_reached_41 I) ?_
  refine lv_istore (lv' := [(5, .int (0 : Int32)), (4, .int (3 : Int32)), (3, .int (1 : Int32)), (2, .ref x2), (1, .ref x1), (0, .ref za)]) hx hb dX12_reached_44 hl (by decide) rfl (fun ls hl => ?_)
  refine lv_aload_n hx hb dX12_reached_46 rfl (lv_at hl 4 rfl) ?_
  refine lv_iload hx hb dX12_reached_47 (lv_at hl 0 rfl) ?_
  refine fb_zaC (n := 0) (v := (1 : Int32)) X I 2 2 rfl rfl (by decide) (by decide) (Nat.le_of_ble_eq_true rfl) pk_us dX12_reached_49 ?_
  refine lv_if_ne (tgt := 61) hx hb dX12_reached_50 (by decide) (fun _ => ?_) (fun c17 => absurd c17 (by decide))
  refine lv_aload_n hx hb dX12_reached_61 rfl (lv_at hl 4 rfl) ?_
  refine lv_iload hx hb dX12_reached_62 (lv_at hl 0 rfl) ?_
  refine lv_iconst (v := (1 : Int32)) hx hb dX12_reached_64 (by decide) ?_
  refine fb_zsC (n := 0) (wn := ([fb_o12 za zr fr_e0, fb_aw cI (zr 0) 16205 (fr_m (fun _ => 0) 0), fb_aw (D.1 20) x1 4096 (upd (upd (upd (upd (upd (fun _ => 0) 0 (1 : Int32)) 0 (1 : Int32)) 0 (1 : Int32)) 0 (1 : Int32)) 0 (1 : Int32)), fb_aw cI x2 4096 (upd (fun _ => 0) 0 (0 : Int32))] : List va_W).flatten) X I 2 2 rfl rfl (by decide) (by decide) (Nat.le_of_ble_eq_true rfl) rfl rfl dX12_reached_65 (fun H locs I => ?_)
  refine lv_iinc (v := (4 : Int32)) (lv' := [(4, .int (4 : Int32)), (5, .int (0 : Int32)), (3, .int (1 : Int32)), (2, .ref x2), (1, .ref x1), (0, .ref za)]) hx hb dX12_reached_66 hl (k := 1) rfl (by decide) (by decide) rfl (fun ls hl => ?_)
  refine lv_goto (tgt := 17) hx hb dX12_reached_69 (by decide) ?_
  refine lv_iload hx hb dX12_reached_17 (lv_at hl 0 rfl) ?_
  refine lv_bipush (v := (8 : Int32)) hx hb dX12_reached_19 (by decide) ?_
  refine lv_icmp_ge (tgt := 72) hx hb dX12_reached_21 (by decide) (fun c18 => absurd c18 (by decide)) (fun _ => ?_)
  refine lv_iload hx hb dX12_reached_24 (lv_at hl 0 rfl) ?_
  refine lv_if_ge (tgt := 38) hx hb dX12_reached_26 (by decide) (fun _ => ?_) (fun c19 => absurd (by decide) c19)
  refine lv_aload_n hx hb dX12_reached_38 rfl (lv_at hl 5 rfl) ?_
  refine lv_iload hx hb dX12_reached_39 (lv_at hl 0 rfl) ?_
  refine fb_gO (cs := [fb_o12 za zr fr_e0, fb_aw cI (zr 0) 16205 (fr_m (fun _ => 0) 0)]) (rs := [fb_aw (D.1 20) x1 4096 (upd (upd (upd (upd (upd (fun _ => 0) 0 (1 : Int32)) 0 (1 : Int32)) 0 (1 : Int32)) 0 (1 : Int32)) 0 (1 : Int32)), fb_aw cI x2 4096 (upd (fun _ => 0) 0 (0 : Int32))]) X I [0, 1, 2, 3] 4 rfl (by decide +kernel) rfl rfl (fun I => fb_rV (As := [.int (4 : Int32)]) (rest := []) X hl (fb_goodV fw_1945 fw_1947 fw_85 fw_204 fw_1948) (c_vector l D cI cJ za zr fr_e0 (fr_m (fun _ => 0) 0) (4 : Int32) _ (fr_hm _ _) rfl) rfl rfl rfl (by decide +kernel : fb_hd yX12_vector 1) ⟨Nat.le_of_ble_eq_true rfl, Nat.le_of_ble_eq_true rfl⟩ rfl rfl rfl rfl rfl (Nat.le_of_ble_eq_true rfl) ⟨Nat.le_of_ble_eq_true rfl, Nat.le_of_ble_eq_true rfl⟩ dX12_reached_41 I) ?_
  refine lv_istore (lv' := [(5, .int (0 : Int32)), (4, .int (4 : Int32)), (3, .int (1 : Int32)), (2, .ref x2), (1, .ref x1), (0, .ref za)]) hx hb dX12_reached_44 hl (by decide) rfl (fun ls hl => ?_)
  refine lv_aload_n hx hb dX12_reached_46 rfl (lv_at hl 4 rfl) ?_
  refine lv_iload hx hb dX12_reached_47 (lv_at hl 0 rfl) ?_
  refine fb_zaC (n := 0) (v := (1 : Int32)) X I 2 2 rfl rfl (by decide) (by decide) (Nat.le_of_ble_eq_true rfl) pk_us dX12_reached_49 ?_
  refine lv_if_ne (tgt := 61) hx hb dX12_reached_50 (by decide) (fun _ => ?_) (fun c20 => absurd c20 (by decide))
  refine lv_aload_n hx hb dX12_reached_61 rfl (lv_at hl 4 rfl) ?_
  refine lv_iload hx hb dX12_reached_62 (lv_at hl 0 rfl) ?_
  refine lv_iconst (v := (1 : Int32)) hx hb dX12_reached_64 (by decide) ?_
  refine fb_zsC (n := 0) (wn := ([fb_o12 za zr fr_e0, fb_aw cI (zr 0) 16205 (fr_m (fun _ => 0) 0), fb_aw (D.1 20) x1 4096 (upd (upd (upd (upd (upd (upd (fun _ => 0) 0 (1 : Int32)) 0 (1 : Int32)) 0 (1 : Int32)) 0 (1 : Int32)) 0 (1 : Int32)) 0 (1 : Int32)), fb_aw cI x2 4096 (upd (fun _ => 0) 0 (0 : Int32))] : List va_W).flatten) X I 2 2 rfl rfl (by decide) (by decide) (Nat.le_of_ble_eq_true rfl) rfl rfl dX12_reached_65 (fun H locs I => ?_)
  refine lv_iinc (v := (5 : Int32)) (lv' := [(4, .int (5 : Int32)), (5, .int (0 : Int32)), (3, .int (1 : Int32)), (2, .ref x2), (1, .ref x1), (0, .ref za)]) hx hb dX12_reached_66 hl (k := 1) rfl (by decide) (by decide) rfl (fun ls hl => ?_)
  refine lv_goto (tgt := 17) hx hb dX12_reached_69 (by decide) ?_
  refine lv_iload hx hb dX12_reached_17 (lv_at hl 0 rfl) ?_
  refine lv_bipush (v := (8 : Int32)) hx hb dX12_reached_19 (by decide) ?_
  refine lv_icmp_ge (tgt := 72) hx hb dX12_reached_21 (by decide) (fun c21 => absurd c21 (by decide)) (fun _ => ?_)
  refine lv_iload hx hb dX12_reached_24 (lv_at hl 0 rfl) ?_
  refine lv_if_ge (tgt := 38) hx hb dX12_reached_26 (by decide) (fun _ => ?_) (fun c22 => absurd (by decide) c22)
  refine lv_aload_n hx hb dX12_reached_38 rfl (lv_at hl 5 rfl) ?_
  refine lv_iload hx hb dX12_reached_39 (lv_at hl 0 rfl) ?_
  refine fb_gO (cs := [fb_o12 za zr fr_e0, fb_aw cI (zr 0) 16205 (fr_m (fun _ => 0) 0)]) (rs := [fb_aw (D.1 20) x1 4096 (upd (upd (upd (upd (upd (upd (fun _ => 0) 0 (1 : Int32)) 0 (1 : Int32)) 0 (1 : Int32)) 0 (1 : Int32)) 0 (1 : Int32)) 0 (1 : Int32)), fb_aw cI x2 4096 (upd (fun _ => 0) 0 (0 : Int32))]) X I [0, 1, 2, 3] 4 rfl (by decide +kernel) rfl rfl (fun I => fb_rV (As := [.int (5 : Int32)]) (rest := []) X hl (fb_goodV fw_1945 fw_1947 fw_85 fw_204 fw_1948) (c_vector l D cI cJ za zr fr_e0 (fr_m (fun _ => 0) 0) (5 : Int32) _ (fr_hm _ _) rfl) rfl rfl rfl (by decide +kernel : fb_hd yX12_vector 1) ⟨Nat.le_of_ble_eq_true rfl, Nat.le_of_ble_eq_true rfl⟩ rfl rfl rfl rfl rfl (Nat.le_of_ble_eq_true rfl) ⟨Nat.le_of_ble_eq_true rfl, Nat.le_of_ble_eq_true rfl⟩ dX12_reached_41 I) ?_
  refine lv_istore (lv' := [(5, .int (0 : Int32)), (4, .int (5 : Int32)), (3, .int (1 : Int32)), (2, .ref x2), (1, .ref x1), (0, .ref za)]) hx hb dX12_reached_44 hl (by decide) rfl (fun ls hl => ?_)
  refine lv_aload_n hx hb dX12_reached_46 rfl (lv_at hl 4 rfl) ?_
  refine lv_iload hx hb dX12_reached_47 (lv_at hl 0 rfl) ?_
  refine fb_zaC (n := 0) (v := (1 : Int32)) X I 2 2 rfl rfl (by decide) (by decide) (Nat.le_of_ble_eq_true rfl) pk_us dX12_reached_49 ?_
  refine lv_if_ne (tgt := 61) hx hb dX12_reached_50 (by decide) (fun _ => ?_) (fun c23 => absurd c23 (by decide))
  refine lv_aload_n hx hb dX12_reached_61 rfl (lv_at hl 4 rfl) ?_
  refine lv_iload hx hb dX12_reached_62 (lv_at hl 0 rfl) ?_
  refine lv_iconst (v := (1 : Int32)) hx hb dX12_reached_64 (by decide) ?_
  refine fb_zsC (n := 0) (wn := ([fb_o12 za zr fr_e0, fb_aw cI (zr 0) 16205 (fr_m (fun _ => 0) 0), fb_aw (D.1 20) x1 4096 (upd (upd (upd (upd (upd (upd (upd (fun _ => 0) 0 (1 : Int32)) 0 (1 : Int32)) 0 (1 : Int32)) 0 (1 : Int32)) 0 (1 : Int32)) 0 (1 : Int32)) 0 (1 : Int32)), fb_aw cI x2 4096 (upd (fun _ => 0) 0 (0 : Int32))] : List va_W).flatten) X I 2 2 rfl rfl (by decide) (by decide) (Nat.le_of_ble_eq_true rfl) rfl rfl dX12_reached_65 (fun H locs I => ?_)
  refine lv_iinc (v := (6 : Int32)) (lv' := [(4, .int (6 : Int32)), (5, .int (0 : Int32)), (3, .int (1 : Int32)), (2, .ref x2), (1, .ref x1), (0, .ref za)]) hx hb dX12_reached_66 hl (k := 1) rfl (by decide) (by decide) rfl (fun ls hl => ?_)
  refine lv_goto (tgt := 17) hx hb dX12_reached_69 (by decide) ?_
  refine lv_iload hx hb dX12_reached_17 (lv_at hl 0 rfl) ?_
  refine lv_bipush (v := (8 : Int32)) hx hb dX12_reached_19 (by decide) ?_
  refine lv_icmp_ge (tgt := 72) hx hb dX12_reached_21 (by decide) (fun c24 => absurd c24 (by decide)) (fun _ => ?_)
  refine lv_iload hx hb dX12_reached_24 (lv_at hl 0 rfl) ?_
  refine lv_if_ge (tgt := 38) hx hb dX12_reached_26 (by decide) (fun _ => ?_) (fun c25 => absurd (by decide) c25)
  refine lv_aload_n hx hb dX12_reached_38 rfl (lv_at hl 5 rfl) ?_
  refine lv_iload hx hb dX12_reached_39 (lv_at hl 0 rfl) ?_
  refine fb_gO (cs := [fb_o12 za zr fr_e0, fb_aw cI (zr 0) 16205 (fr_m (fun _ => 0) 0)]) (rs := [fb_aw (D.1 20) x1 4096 (upd (upd (upd (upd (upd (upd (upd (fun _ => 0) 0 (1 : Int32)) 0 (1 : Int32)) 0 (1 : Int32)) 0 (1 : Int32)) 0 (1 : Int32)) 0 (1 : Int32)) 0 (1 : Int32)), fb_aw cI x2 4096 (upd (fun _ => 0) 0 (0 : Int32))]) X I [0, 1, 2, 3] 4 rfl (by decide +kernel) rfl rfl (fun I => fb_rV (As := [.int (6 : Int32)]) (rest := []) X hl (fb_goodV fw_1945 fw_1947 fw_85 fw_204 fw_1948) (c_vector l D cI cJ za zr fr_e0 (fr_m (fun _ => 0) 0) (6 : Int32) _ (fr_hm _ _) rfl) rfl rfl rfl (by decide +kernel : fb_hd yX12_vector 1) ⟨Nat.le_of_ble_eq_true rfl, Nat.le_of_ble_eq_true rfl⟩ rfl rfl rfl rfl rfl (Nat.le_of_ble_eq_true rfl) ⟨Nat.le_of_ble_eq_true rfl, Nat.le_of_ble_eq_true rfl⟩ dX12_reached_41 I) ?_
  refine lv_istore (lv' := [(5, .int (0 : Int32)), (4, .int (6 : Int32)), (3, .int (1 : Int32)), (2, .ref x2), (1, .ref x1), (0, .ref za)]) hx hb dX12_reached_44 hl (by decide) rfl (fun ls hl => ?_)
  refine lv_aload_n hx hb dX12_reached_46 rfl (lv_at hl 4 rfl) ?_
  refine lv_iload hx hb dX12_reached_47 (lv_at hl 0 rfl) ?_
  refine fb_zaC (n := 0) (v := (1 : Int32)) X I 2 2 rfl rfl (by decide) (by decide) (Nat.le_of_ble_eq_true rfl) pk_us dX12_reached_49 ?_
  refine lv_if_ne (tgt := 61) hx hb dX12_reached_50 (by decide) (fun _ => ?_) (fun c26 => absurd c26 (by decide))
  refine lv_aload_n hx hb dX12_reached_61 rfl (lv_at hl 4 rfl) ?_
  refine lv_iload hx hb dX12_reached_62 (lv_at hl 0 rfl) ?_
  refine lv_iconst (v := (1 : Int32)) hx hb dX12_reached_64 (by decide) ?_
  refine fb_zsC (n := 0) (wn := ([fb_o12 za zr fr_e0, fb_aw cI (zr 0) 16205 (fr_m (fun _ => 0) 0), fb_aw (D.1 20) x1 4096 (upd (upd (upd (upd (upd (upd (upd (upd (fun _ => 0) 0 (1 : Int32)) 0 (1 : Int32)) 0 (1 : Int32)) 0 (1 : Int32)) 0 (1 : Int32)) 0 (1 : Int32)) 0 (1 : Int32)) 0 (1 : Int32)), fb_aw cI x2 4096 (upd (fun _ => 0) 0 (0 : Int32))] : List va_W).flatten) X I 2 2 rfl rfl (by decide) (by decide) (Nat.le_of_ble_eq_true rfl) rfl rfl dX12_reached_65 (fun H locs I => ?_)
  refine lv_iinc (v := (7 : Int32)) (lv' := [(4, .int (7 : Int32)), (5, .int (0 : Int32)), (3, .int (1 : Int32)), (2, .ref x2), (1, .ref x1), (0, .ref za)]) hx hb dX12_reached_66 hl (k := 1) rfl (by decide) (by decide) rfl (fun ls hl => ?_)
  refine lv_goto (tgt := 17) hx hb dX12_reached_69 (by decide) ?_
  refine lv_iload hx hb dX12_reached_17 (lv_at hl 0 rfl) ?_
  refine lv_bipush (v := (8 : Int32)) hx hb dX12_reached_19 (by decide) ?_
  refine lv_icmp_ge (tgt := 72) hx hb dX12_reached_21 (by decide) (fun c27 => absurd c27 (by decide)) (fun _ => ?_)
  refine lv_iload hx hb dX12_reached_24 (lv_at hl 0 rfl) ?_
  refine lv_if_ge (tgt := 38) hx hb dX12_reached_26 (by decide) (fun _ => ?_) (fun c28 => absurd (by decide) c28)
  refine lv_aload_n hx hb dX12_reached_38 rfl (lv_at hl 5 rfl) ?_
  refine lv_iload hx hb dX12_reached_39 (lv_at hl 0 rfl) ?_
  refine fb_gO (cs := [fb_o12 za zr fr_e0, fb_aw cI (zr 0) 16205 (fr_m (fun _ => 0) 0)]) (rs := [fb_aw (D.1 20) x1 4096 (upd (upd (upd (upd (upd (upd (upd (upd (fun _ => 0) 0 (1 : Int32)) 0 (1 : Int32)) 0 (1 : Int32)) 0 (1 : Int32)) 0 (1 : Int32)) 0 (1 : Int32)) 0 (1 : Int32)) 0 (1 : Int32)), fb_aw cI x2 4096 (upd (fun _ => 0) 0 (0 : Int32))]) X I [0, 1, 2, 3] 4 rfl (by decide +kernel) rfl rfl (fun I => fb_rV (As := [.int (7 : Int32)]) (rest := []) X hl (fb_goodV fw_1945 fw_1947 fw_85 fw_204 fw_1948) (c_vector l D cI cJ za zr fr_e0 (fr_m (fun _ => 0) 0) (7 : Int32) _ (fr_hm _ _) rfl) rfl rfl rfl (by decide +kernel : fb_hd yX12_vector 1) ⟨Nat.le_of_ble_eq_true rfl, Nat.le_of_ble_eq_true rfl⟩ rfl rfl rfl rfl rfl (Nat.le_of_ble_eq_true rfl) ⟨Nat.le_of_ble_eq_true rfl, Nat.le_of_ble_eq_true rfl⟩ dX12_reached_41 I) ?_
  refine lv_istore (lv' := [(5, .int (0 : Int32)), (4, .int (7 : Int32)), (3, .int (1 : Int32)), (2, .ref x2), (1, .ref x1), (0, .ref za)]) hx hb dX12_reached_44 hl (by decide) rfl (fun ls hl => ?_)
  refine lv_aload_n hx hb dX12_reached_46 rfl (lv_at hl 4 rfl) ?_
  refine lv_iload hx hb dX12_reached_47 (lv_at hl 0 rfl) ?_
  refine fb_zaC (n := 0) (v := (1 : Int32)) X I 2 2 rfl rfl (by decide) (by decide) (Nat.le_of_ble_eq_true rfl) pk_us dX12_reached_49 ?_
  refine lv_if_ne (tgt := 61) hx hb dX12_reached_50 (by decide) (fun _ => ?_) (fun c29 => absurd c29 (by decide))
  refine lv_aload_n hx hb dX12_reached_61 rfl (lv_at hl 4 rfl) ?_
  refine lv_iload hx hb dX12_reached_62 (lv_at hl 0 rfl) ?_
  refine lv_iconst (v := (1 : Int32)) hx hb dX12_reached_64 (by decide) ?_
  refine fb_zsC (n := 0) (wn := ([fb_o12 za zr fr_e0, fb_aw cI (zr 0) 16205 (fr_m (fun _ => 0) 0), fb_aw (D.1 20) x1 4096 (upd (upd (upd (upd (upd (upd (upd (upd (upd (fun _ => 0) 0 (1 : Int32)) 0 (1 : Int32)) 0 (1 : Int32)) 0 (1 : Int32)) 0 (1 : Int32)) 0 (1 : Int32)) 0 (1 : Int32)) 0 (1 : Int32)) 0 (1 : Int32)), fb_aw cI x2 4096 (upd (fun _ => 0) 0 (0 : Int32))] : List va_W).flatten) X I 2 2 rfl rfl (by decide) (by decide) (Nat.le_of_ble_eq_true rfl) rfl rfl dX12_reached_65 (fun H locs I => ?_)
  refine lv_iinc (v := (8 : Int32)) (lv' := [(4, .int (8 : Int32)), (5, .int (0 : Int32)), (3, .int (1 : Int32)), (2, .ref x2), (1, .ref x1), (0, .ref za)]) hx hb dX12_reached_66 hl (k := 1) rfl (by decide) (by decide) rfl (fun ls hl => ?_)
  refine lv_goto (tgt := 17) hx hb dX12_reached_69 (by decide) ?_
  refine lv_iload hx hb dX12_reached_17 (lv_at hl 0 rfl) ?_
  refine lv_bipush (v := (8 : Int32)) hx hb dX12_reached_19 (by decide) ?_
  refine lv_icmp_ge (tgt := 72) hx hb dX12_reached_21 (by decide) (fun _ => ?_) (fun c30 => absurd (by decide) c30)
  refine lv_iconst (v := (0 : Int32)) hx hb dX12_reached_72 (by decide) ?_
  refine lv_istore (lv' := [(4, .int (0 : Int32)), (5, .int (0 : Int32)), (3, .int (1 : Int32)), (2, .ref x2), (1, .ref x1), (0, .ref za)]) hx hb dX12_reached_73 hl (by decide) rfl (fun ls hl => ?_)
  exact bz_reached_75 (za := za) (zr := zr) (x1 := x1) (x2 := x2) X   (4095) 0 (by omega) (upd (upd (upd (upd (upd (upd (upd (upd (upd (fun _ => 0) 0 (1 : Int32)) 0 (1 : Int32)) 0 (1 : Int32)) 0 (1 : Int32)) 0 (1 : Int32)) 0 (1 : Int32)) 0 (1 : Int32)) 0 (1 : Int32)) 0 (1 : Int32)) (upd (fun _ => 0) 0 (0 : Int32)) (fun j _ => (fr_r0 _ j (fr_r0 _ j (fr_r0 _ j (fr_r0 _ j (fr_r0 _ j (fr_r0 _ j (fr_r0 _ j (fr_r0 _ j (fr_r00 j)))))))))) (fun j hj => by obtain rfl : j = 0 := (by omega); rfl) _ _ _ I I.2.2.1 (lv_sub hl [0, 2, 3, 4, 5] rfl)

set_option maxHeartbeats 4000000 in
set_option maxRecDepth 100000 in
theorem bz_reachable_13 {p : Program} {l : Launch} {e : Env} {s : State} {m : MethodId} {args : Array Value} {below : List Frame} {meth : Method} {c : Code} {D : va_G} {cI cJ : ClassId} {A : Nat → Prop} {za : Nat} {zr : Nat → Nat} {x2 : Nat} {w1 : fb_AR} (X : fb_Bx p s m args meth c cX12_reachable RX12 6 (some .int) D (fb_ty D cI cJ) A)  (hpr : ∀ j, j < 4096 → w1 j = 1) : ∀ (n zi : Nat) (hn : zi + n = 4096) (H : Heap) (locs : List Loc) (ls : Array Slot) (I : fb_In D A s.heap (([fb_o12 za zr fr_e0, fb_aw cI (zr 0) 16205 (fr_m (fun _ => 0) 0), fb_aw (D.1 20) x2 4096 w1] : List va_W).flatten) H locs) (hz : s.heap.size + 4096 ≤ H.size) (hl : lv_has ls 6 [(4, .int (nI zi)), (3, .int (4096 : Int32)), (2, .ref x2), (1, .int (nI zi)), (0, .ref za)]), W p l e ({ frames := 6, cells := 4098, slots := 16384, locals := 155 } : Room) s m args below meth c H locs (0 + 4098) (0 + 16384) (MQ below (fb_QIz (s.heap.size + 4096) D A (fun (r : Int32) (_ : Unit) => r = (nI 4096)) (fun (t : Unit) => ([fb_o12 za zr fr_e0, fb_aw cI (zr 0) 16205 (fr_m (fun _ => 0) 0)] : List va_W).flatten)) args s 4098 16384 A) (F0 m 13 ls []) := by
  intro n
  obtain ⟨hx, hb, hr, hml, hown, hts, hlk, hA, hK, hF⟩ := id X
  induction n with
  | zero =>
    intro zi hn H locs ls I hz hl
    have ziE : 4096 = zi := by omega
    subst ziE
    refine lv_iload hx hb dX12_reachable_13 (lv_at hl 0 rfl) ?_
    refine lv_iload_n hx hb dX12_reachable_15 rfl (lv_at hl 1 rfl) ?_
    refine lv_icmp_ge (tgt := 44) hx hb dX12_reachable_16 (by decide) (fun _ => ?_) (fun c4 => absurd (nI_le (a := 4096) (b := 4096) (by omega) (by omega)) c4)
    refine lv_iload_n hx hb dX12_reachable_44 rfl (lv_at hl 3 rfl) ?_
    have I : fb_In D A s.heap (([fb_o12 za zr fr_e0, fb_aw cI (zr 0) 16205 (fr_m (fun _ => 0) 0)] : List va_W).flatten) H _ := fb_dropB (bs := [fb_o12 za zr fr_e0, fb_aw cI (zr 0) 16205 (fr_m (fun _ => 0) 0), fb_aw (D.1 20) x2 4096 w1]) (bs' := [fb_o12 za zr fr_e0, fb_aw cI (zr 0) 16205 (fr_m (fun _ => 0) 0)]) (gs := [fb_aw (D.1 20) x2 4096 w1]) I 3 rfl [0, 1, 2] (by decide +kernel) rfl
    refine W.widen (k := 4098) (n := 16384) (by omega) (by omega) ?_
    exact fb_retIz hz (u := ()) X I rfl rfl dX12_reachable_45
  | succ n ih =>
    intro zi hn H locs ls I hz hl
    have ziL : zi < 4096 := by omega
    refine lv_iload hx hb dX12_reachable_13 (lv_at hl 0 rfl) ?_
    refine lv_iload_n hx hb dX12_reachable_15 rfl (lv_at hl 1 rfl) ?_
    refine lv_icmp_ge (tgt := 44) hx hb dX12_reachable_16 (by decide) (fun c5 => absurd c5 (nI_ge (a := zi) (b := 4096) (by omega) (by omega))) (fun _ => ?_)
    refine lv_aload_n hx hb dX12_reachable_19 rfl (lv_at hl 2 rfl) ?_
    refine lv_iload hx hb dX12_reachable_20 (lv_at hl 0 rfl) ?_
    refine fb_zaC (n := zi) (v := (1 : Int32)) X I 2 2 rfl rfl (nI_clamp (by omega)) (nI_pos (by omega)) (by omega) (hpr zi (by omega)) dX12_reachable_22 ?_
    refine lv_istore (lv' := [(5, .int (1 : Int32)), (4, .int (nI zi)), (3, .int (4096 : Int32)), (2, .ref x2), (1, .int (nI zi)), (0, .ref za)]) hx hb dX12_reachable_23 hl (by decide) rfl (fun ls hl => ?_)
    refine lv_iload_n hx hb dX12_reachable_25 rfl (lv_at hl 4 rfl) ?_
    refine lv_iload hx hb dX12_reachable_26 (lv_at hl 0 rfl) ?_
    refine lv_if_eq (tgt := 35) hx hb dX12_reachable_28 (by decide) (fun c6 => absurd c6 (by decide)) (fun _ => ?_)
    refine lv_iconst (v := (1 : Int32)) hx hb dX12_reachable_31 (by decide) ?_
    refine lv_goto (tgt := 36) hx hb dX12_reachable_32 (by decide) ?_
    refine lv_iadd hx hb dX12_reachable_36 ?_
    refine fb_tI (v := (nI (zi + 1))) (nI_add zi 1) ?_
    refine lv_istore_n (lv' := [(1, .int (nI (zi + 1))), (5, .int (1 : Int32)), (4, .int (nI zi)), (3, .int (4096 : Int32)), (2, .ref x2), (0, .ref za)]) hx hb dX12_reachable_37 rfl hl (by decide) rfl (fun ls hl => ?_)
    refine lv_iinc (v := (nI (zi + 1))) (lv' := [(4, .int (nI (zi + 1))), (1, .int (nI (zi + 1))), (5, .int (1 : Int32)), (3, .int (4096 : Int32)), (2, .ref x2), (0, .ref za)]) hx hb dX12_reachable_38 hl (k := 2) rfl (nI_add _ 1) (by decide) rfl (fun ls hl => ?_)
    refine lv_goto (tgt := 13) hx hb dX12_reachable_41 (by decide) ?_
    have I : fb_In D A s.heap (([fb_o12 za zr fr_e0, fb_aw cI (zr 0) 16205 (fr_m (fun _ => 0) 0), fb_aw (D.1 20) x2 4096 w1] : List va_W).flatten) _ _ := I
    exact ih (zi + 1) (by omega) _ _ _ I hz (lv_sub hl [0, 3, 4, 1, 5] rfl)
set_option maxHeartbeats 4000000 in
set_option maxRecDepth 100000 in
theorem cz_reachable (l : Launch) (D : va_G) (cI cJ : ClassId) (za : Nat) (zr : Nat → Nat) (sz : Nat)  : Met l yX12_reachable (Cond.code yX12_reachable cX12_reachable 6 (some .int) :: fb_all) ({ frames := 6, cells := 4098, slots := 16384, locals := 155 } : Room) (fb_PP D (fb_ty D cI cJ) [.ref za] (([fb_o12 za zr fr_e0, fb_aw cI (zr 0) 16205 (fr_m (fun _ => 0) 0)] : List va_W).flatten) sz) (fb_QIz (sz + 4096) D (va_A (([fb_o12 za zr fr_e0, fb_aw cI (zr 0) 16205 (fr_m (fun _ => 0) 0)] : List va_W).flatten) sz) (fun (r : Int32) (_ : Unit) => r = (nI 4096)) (fun (t : Unit) => ([fb_o12 za zr fr_e0, fb_aw cI (zr 0) 16205 (fr_m (fun _ => 0) 0)] : List va_W).flatten)) 4098 16384 (va_A (([fb_o12 za zr fr_e0, fb_aw cI (zr 0) 16205 (fr_m (fun _ => 0) 0)] : List va_W).flatten) sz) := by
  refine fb_entz (Qf := fun A => (fb_QIz (sz + 4096) D A (fun (r : Int32) (_ : Unit) => r = (nI 4096)) (fun (t : Unit) => ([fb_o12 za zr fr_e0, fb_aw cI (zr 0) 16205 (fr_m (fun _ => 0) 0)] : List va_W).flatten))) (by decide +kernel) (Nat.le_of_ble_eq_true rfl) ?_
  intro p e s m args below meth c A ls hsz X I hl hin
  subst hsz
  obtain ⟨hx, hb, hr, hml, hown, hts, hlk, hA, hK, hF⟩ := id X
  have hl : lv_has ls 6 [(0, .ref za)] := hl
  refine lv_iconst (v := (0 : Int32)) hx hb dX12_reachable_0 (by decide) ?_
  refine lv_istore_n (lv' := [(1, .int (0 : Int32)), (0, .ref za)]) hx hb dX12_reachable_1 rfl hl (by decide) rfl (fun ls hl => ?_)
  refine lv_aload_n hx hb dX12_reachable_2 rfl (lv_at hl 1 rfl) ?_
  refine fb_gRz (cs := [fb_o12 za zr fr_e0, fb_aw cI (zr 0) 16205 (fr_m (fun _ => 0) 0)]) (rs := []) (fun (t : fb_AR) (rr : Nat) => [fb_o12 za zr fr_e0, fb_aw cI (zr 0) 16205 (fr_m (fun _ => 0) 0), fb_aw (D.1 20) rr 4096 t]) (fun (t : fb_AR) (rr : Nat) => [fb_o12 za zr fr_e0, fb_aw cI (zr 0) 16205 (fr_m (fun _ => 0) 0), fb_aw (D.1 20) rr 4096 t]) X I [0, 1] 2 rfl (by decide +kernel) rfl rfl [0, 1, 2] 3 (fun _ _ => rfl) (by decide +kernel) (fun _ _ => rfl) (fun _ _ => rfl) (fun I => fb_rV (As := []) (rest := []) X hl (fb_goodV fw_2767 fw_2769 fw_188 fw_204 fw_2770) (cz_reached l D cI cJ za zr _ ) rfl rfl rfl (by decide +kernel : fb_hd yX12_reached 0) ⟨Nat.le_of_ble_eq_true rfl, Nat.le_of_ble_eq_true rfl⟩ rfl rfl rfl rfl rfl (Nat.le_of_ble_eq_true rfl) ⟨Nat.le_of_ble_eq_true rfl, Nat.le_of_ble_eq_true rfl⟩ dX12_reachable_3 I) ?_
  intro w1 x2 H locs e0 hz I
  have p3 : ∀ j, j < 4096 → w1 j = 1 := e0
  have I : fb_In D A s.heap (([fb_o12 za zr fr_e0, fb_aw cI (zr 0) 16205 (fr_m (fun _ => 0) 0), fb_aw (D.1 20) x2 4096 w1] : List va_W).flatten) H locs := I
  refine lv_astore_n (lv' := [(2, .ref x2), (1, .int (0 : Int32)), (0, .ref za)]) hx hb dX12_reachable_6 rfl hl (by decide) rfl (fun ls hl => ?_)
  refine lv_aload_n hx hb dX12_reachable_7 rfl (lv_at hl 0 rfl) ?_
  refine fb_alen (v := (4096 : Int32)) X I 2 2 rfl rfl rfl dX12_reachable_8 ?_
  refine lv_istore_n (lv' := [(3, .int (4096 : Int32)), (2, .ref x2), (1, .int (0 : Int32)), (0, .ref za)]) hx hb dX12_reachable_9 rfl hl (by decide) rfl (fun ls hl => ?_)
  refine lv_iconst (v := (0 : Int32)) hx hb dX12_reachable_10 (by decide) ?_
  refine lv_istore (lv' := [(4, .int (0 : Int32)), (3, .int (4096 : Int32)), (2, .ref x2), (1, .int (0 : Int32)), (0, .ref za)]) hx hb dX12_reachable_11 hl (by decide) rfl (fun ls hl => ?_)
  have I : fb_In D A s.heap (([fb_o12 za zr fr_e0, fb_aw cI (zr 0) 16205 (fr_m (fun _ => 0) 0), fb_aw (D.1 20) x2 4096 w1] : List va_W).flatten) _ _ := I
  exact bz_reachable_13 (za := za) (zr := zr) (x2 := x2) (w1 := w1) X  p3 (4096) 0 (by omega) _ _ _ I hz (lv_sub hl [0, 1, 2, 3, 4] rfl)

set_option maxHeartbeats 4000000 in
set_option maxRecDepth 100000 in
theorem cz_codes (l : Launch) (D : va_G) (cI cJ : ClassId) (za : Nat) (zr : Nat → Nat) (sz : Nat)  : Met l yX12_codes (Cond.code yX12_codes cX12_codes 1 (some .int) :: fb_all) ({ frames := 7, cells := 4098, slots := 16384, locals := 180 } : Room) (fb_PP D (fb_ty D cI cJ) [.ref za] (([fb_o12 za zr fr_e0, fb_aw cI (zr 0) 16205 (fr_m (fun _ => 0) 0)] : List va_W).flatten) sz) (fb_QIz (sz + 4096) D (va_A (([fb_o12 za zr fr_e0, fb_aw cI (zr 0) 16205 (fr_m (fun _ => 0) 0)] : List va_W).flatten) sz) (fun (r : Int32) (_ : Unit) => r = (nI 4096)) (fun (t : Unit) => ([fb_o12 za zr (upd fr_e0 19 (0 : Int32)), fb_aw cI (zr 0) 16205 (fr_m (fun _ => 0) 0)] : List va_W).flatten)) 4098 16384 (va_A (([fb_o12 za zr fr_e0, fb_aw cI (zr 0) 16205 (fr_m (fun _ => 0) 0)] : List va_W).flatten) sz) := by
  refine fb_entz (Qf := fun A => (fb_QIz (sz + 4096) D A (fun (r : Int32) (_ : Unit) => r = (nI 4096)) (fun (t : Unit) => ([fb_o12 za zr (upd fr_e0 19 (0 : Int32)), fb_aw cI (zr 0) 16205 (fr_m (fun _ => 0) 0)] : List va_W).flatten))) (by decide +kernel) (Nat.le_of_ble_eq_true rfl) ?_
  intro p e s m args below meth c A ls hsz X I hl hin
  subst hsz
  obtain ⟨hx, hb, hr, hml, hown, hts, hlk, hA, hK, hF⟩ := id X
  have hl : lv_has ls 1 [(0, .ref za)] := hl
  refine lv_aload_n hx hb dX12_codes_0 rfl (lv_at hl 0 rfl) ?_
  refine lv_iconst (v := (0 : Int32)) hx hb dX12_codes_1 (by decide) ?_
  refine fb_put X I (k := 19) (wn := ([fb_o12 za zr (upd fr_e0 19 (0 : Int32)), fb_aw cI (zr 0) 16205 (fr_m (fun _ => 0) 0)] : List va_W).flatten) fu_X12 tyX12 tyX12_ok nmX12 0 fb_h12 rfl (Nat.le_of_ble_eq_true rfl) fw_1983 rfl rfl rfl rfl rfl (Nat.le_of_ble_eq_true rfl) fb_r12_19 dX12_codes_2 (fun H locs I => ?_)
  refine lv_aload_n hx hb dX12_codes_5 rfl (lv_at hl 0 rfl) ?_
  have hz0 : s.heap.size ≤ H.size := I.2.2.1
  refine fb_gIz (cs := [fb_o12 za zr (upd fr_e0 19 (0 : Int32)), fb_aw cI (zr 0) 16205 (fr_m (fun _ => 0) 0)]) (rs := []) (fun (t : Unit) => [fb_o12 za zr (upd fr_e0 19 (0 : Int32)), fb_aw cI (zr 0) 16205 (fr_m (fun _ => 0) 0)]) (fun (t : Unit) => [fb_o12 za zr (upd fr_e0 19 (0 : Int32)), fb_aw cI (zr 0) 16205 (fr_m (fun _ => 0) 0)]) X I [0, 1] 2 rfl (by decide +kernel) rfl rfl [0, 1] 2 (fun _ => rfl) (by decide +kernel) (fun _ => rfl) (fun _ => rfl) (fun I => fb_rV (As := []) (rest := []) X hl (fb_goodV fw_2775 fw_2777 fw_189 fw_204 fw_2778) (cz_reachable l D cI cJ za zr _ ) rfl rfl rfl (by decide +kernel : fb_hd yX12_reachable 0) ⟨Nat.le_of_ble_eq_true rfl, Nat.le_of_ble_eq_true rfl⟩ rfl rfl rfl rfl rfl (Nat.le_of_ble_eq_true rfl) ⟨Nat.le_of_ble_eq_true rfl, Nat.le_of_ble_eq_true rfl⟩ dX12_codes_6 I) ?_
  intro r2 w1 H locs e0 hz I
  subst e0
  have I : fb_In D A s.heap (([fb_o12 za zr (upd fr_e0 19 (0 : Int32)), fb_aw cI (zr 0) 16205 (fr_m (fun _ => 0) 0)] : List va_W).flatten) H locs := I
  refine W.widen (k := 4098) (n := 16384) (by omega) (by omega) ?_
  exact fb_retIz (K := s.heap.size + 4096) (u := ()) (by omega) X I rfl rfl dX12_codes_9
end
section
/-! 67 calls of codes() on a fresh object make more than the claim allows -/
abbrev zz_room : Room := { frames := 2048, cells := 274775, slots := 1276969, locals := 84000 }
theorem zz_e0 : upd fr_e0 19 (0 : Int32) = fr_e0 := by
  funext j
  unfold upd
  by_cases h : j = 19
  · rw [if_pos h, h]; decide
  · rw [if_neg h]
def zz_E (below : List Frame) (s : State) : State → Prop := fun t => t.status = .running ∧ Ended t below (.returned (some (.int 1))) ∧ s.heap.size + 274432 ≤ t.heap.size
theorem zz_ret {p : Program} {l : Launch} {e : Env} {R0 : Room} {s : State} {m : MethodId} {below : List Frame} {meth : Method} {c : Code} {b : Nat} {cells slots : Nat} (hx : p.tables.exec = Jvm.exec) (hb : c.code = code) (hr : meth.sig.returnType = ret) (hlocks : meth.locks = false) {pc : Nat} {H : Heap} {ls : Array Slot} (hz : s.heap.size + 274432 ≤ H.size) (hdg : decode code pc = .ok (.ireturn, 1)) : W p l e R0 s m #[Value.ref b] below meth c H [] cells slots (zz_E below s) (F0 m pc ls [.int 1]) := by
  intro T hT X
  obtain ⟨fs, hret, hrun, hended, hW, hframe⟩ := X.leave (v := some (.int 1)) (hlocks := hlocks) (fun h => by rw [hr] at h; cases h)
  have hmeth' : T.vm.method? m = some meth := X.method'
  refine ⟨T.setFrames fs, ?_, hrun, hended, by show s.heap.size + 274432 ≤ T.heap.size; rw [hT]; exact hz⟩
  jvm_step X.here [X.here.top, hx, hb, hdg, hmeth', hr, ret, narrow_b1]
  (try refine ⟨rfl, ?_⟩); (try refine ⟨rfl, ?_⟩)
  first | (intro acts; rw [hret _ acts rfl rfl rfl]) | rw [hret _ _ rfl rfl rfl]
  exact Steps.refl _
set_option maxHeartbeats 4000000 in
set_option maxRecDepth 100000 in
theorem zz_loop {p : Program} {l : Launch} {e : Env} {s : State} {m : MethodId} {below : List Frame} {meth : Method} {c : Code} {b : Nat} {xs : Nat → Int32} {D : va_G} {cI cJ : ClassId} {A : Nat → Prop} {zb z0 z1 z2 z3 z4 z6 z7 z8 zre : Nat} {zq : Nat → Nat} {σ : fb_MS} {w : fb_AR} {zac zab zao za : Nat} {zr : Nat → Nat} (X : fb_Bx p s m #[Value.ref b] meth c cL_law RL 9 (some .boolean) D (fb_ty D cI cJ) A) (hX : va_X b 402 xs s s.heap) (hbl : b < s.heap.size) (hbA : ¬ A b) (hAs : ∀ q, A q → s.heap.size ≤ q) (hxs : ∀ j, j < 402 → xs j = 54) : ∀ (n i : Nat) (hn : i + n = 67) (ze6 zc zbg zop : fb_AR) (H : Heap) (locs : List Loc) (ls : Array Slot) (I : fb_In D A s.heap ([fb_o11 zb z0 z1 z2 z3 z4 (zq 0) z6 z7 z8 zre, fb_mw cI zq σ w, fb_o6 zre zac zab zao ze6, fb_aw cI zac 4096 zc, fb_aw cI zab 4096 zbg, fb_aw cI zao 4096 zop, fb_o12 za zr fr_e0, fb_aw cI (zr 0) 16205 (fr_m (fun _ => 0) 0)] : List va_W).flatten H locs) (hz : s.heap.size + 4096 * i ≤ H.size) (hl : lv_has ls 9 [(4, .int (nI (6 * i))), (2, .ref za), (1, .ref zb), (0, .ref b)]), W p l e zz_room s m #[Value.ref b] below meth c H locs (209 + 4098 * i) (179241 + 16384 * i) (zz_E below s) (F0 m 23 ls []) := by
  intro n
  obtain ⟨hx, hb, hr, hml, hown, hts, hlk, hA, hK, hF⟩ := id X
  induction n with
  | zero =>
    intro i hn ze6 zc zbg zop H locs ls I hz hl
    have hi : 67 = i := by omega
    subst hi
    refine lv_iload hx hb dL_law_23 (lv_at hl 0 rfl) ?_
    refine lv_aload_n hx hb dL_law_25 rfl (lv_at hl 3 rfl) ?_
    refine va_slen hx hb hX hbl hbA I.2.2 dL_law_26 ?_
    refine lv_bipush (v := (6 : Int32)) hx hb dL_law_27 (by decide) ?_
    refine lv_isub hx hb dL_law_29 ?_
    refine fb_tI (v := nI 396) (by decide +kernel) ?_
    refine lv_icmp_gt (tgt := 1636) hx hb dL_law_30 (by decide) (fun _ => ?_) (fun c1 => absurd (nI_lt (a := 396) (b := 402) (by omega) (by omega)) c1)
    refine lv_iconst (v := (1 : Int32)) hx hb dL_law_1636 (by decide) ?_
    refine va_forget (fun q hq => hAs _ (I.2.2.2.2 q hq)) ?_
    exact zz_ret hx hb hr hlk hz dL_law_1637
  | succ n ih =>
    intro i hn ze6 zc zbg zop H locs ls I hz hl
    have hi : i < 67 := by omega
    refine lv_iload hx hb dL_law_23 (lv_at hl 0 rfl) ?_
    refine lv_aload_n hx hb dL_law_25 rfl (lv_at hl 3 rfl) ?_
    refine va_slen hx hb hX hbl hbA I.2.2 dL_law_26 ?_
    refine lv_bipush (v := (6 : Int32)) hx hb dL_law_27 (by decide) ?_
    refine lv_isub hx hb dL_law_29 ?_
    refine fb_tI (v := nI 396) (by decide +kernel) ?_
    refine lv_icmp_gt (tgt := 1636) hx hb dL_law_30 (by decide) (fun c1 => absurd c1 (nI_nlt (a := 396) (b := 6 * i) (by omega) (by omega))) (fun _ => ?_)
    refine lv_aload_n hx hb dL_law_33 rfl (lv_at hl 3 rfl) ?_
    refine lv_iload hx hb dL_law_34 (lv_at hl 0 rfl) ?_
    refine va_sld (i := nI (6 * i)) hx hb hX hbl hbA I.2.2 (fb_inC (n := 6 * i) (nI_clamp (by omega)) (nI_pos (by omega)) (by omega)) dL_law_36 ?_
    refine fb_tI (v := (54 : Int32)) (by rw [nI_clamp (by omega)]; exact hxs _ (by omega)) ?_
    refine lv_bipush (v := (63 : Int32)) hx hb dL_law_37 (by decide) ?_
    refine lv_iand hx hb dL_law_39 ?_
    refine fb_tI (v := (54 : Int32)) (by decide) ?_
    refine lv_tableIn (tgt := 1589) hx hb dL_law_40 (by decide) (by decide) (by rfl) (by decide) ?_
    refine lv_aload_n hx hb dL_law_1589 rfl (lv_at hl 2 rfl) ?_
    refine fb_gIs (cs := [fb_o11 zb z0 z1 z2 z3 z4 (zq 0) z6 z7 z8 zre, fb_mw cI zq σ w, fb_o6 zre zac zab zao ze6, fb_aw cI zac 4096 zc, fb_aw cI zab 4096 zbg, fb_aw cI zao 4096 zop]) (rs := [fb_o12 za zr fr_e0, fb_aw cI (zr 0) 16205 (fr_m (fun _ => 0) 0)]) (fun (u : fb_AR × fb_AR × fb_AR × fb_AR) => [fb_o11 zb z0 z1 z2 z3 z4 (zq 0) z6 z7 z8 zre, fb_mw cI zq σ w, fb_o6 zre zac zab zao u.1, fb_aw cI zac 4096 u.2.1, fb_aw cI zab 4096 u.2.2.1, fb_aw cI zao 4096 u.2.2.2, fb_o12 za zr fr_e0, fb_aw cI (zr 0) 16205 (fr_m (fun _ => 0) 0)]) (fun (u : fb_AR × fb_AR × fb_AR × fb_AR) => [fb_o11 zb z0 z1 z2 z3 z4 (zq 0) z6 z7 z8 zre, fb_mw cI zq σ w, fb_o6 zre zac zab zao u.1, fb_aw cI zac 4096 u.2.1, fb_aw cI zab 4096 u.2.2.1, fb_aw cI zao 4096 u.2.2.2]) hz X I [0, 1, 2, 3, 4, 5, 6, 7] 8 rfl (by decide +kernel) rfl rfl [0, 1, 2, 3, 4, 5, 6, 7] 8 (fun _ => rfl) (by decide +kernel) (fun _ => rfl) (fun _ => rfl) (fun I => fb_rV (As := []) (rest := []) X hl (fb_goodV fw_1509 fw_1510 fw_1511 fw_191 fw_1512) (c_X11_codes l D cI cJ zb z0 z1 z2 z3 z4 z6 z7 z8 zre zq σ w zac zab zao ze6 zc zbg zop _) rfl rfl rfl (by decide +kernel : fb_hd yX11_codes 0) ⟨(Nat.le_of_ble_eq_true rfl), (Nat.le_of_ble_eq_true rfl)⟩ (rfl : vwCl[11]? = some _) rfl rfl rfl rfl (Nat.le_of_ble_eq_true rfl) ⟨by show 209 + 4098 * i + 0 ≤ 274775; omega, by show 179241 + 16384 * i + 0 ≤ 1276969; omega⟩ dL_law_1590 I) ?_
    intro r1 u H locs hz I
    have I : fb_In D A s.heap ([fb_o11 zb z0 z1 z2 z3 z4 (zq 0) z6 z7 z8 zre, fb_mw cI zq σ w, fb_o6 zre zac zab zao u.1, fb_aw cI zac 4096 u.2.1, fb_aw cI zab 4096 u.2.2.1, fb_aw cI zao 4096 u.2.2.2, fb_o12 za zr fr_e0, fb_aw cI (zr 0) 16205 (fr_m (fun _ => 0) 0)] : List va_W).flatten H locs := I
    refine lv_pop hx hb dL_law_1593 rfl ?_
    refine lv_aload_n hx hb dL_law_1594 rfl (lv_at hl 1 rfl) ?_
    refine fb_gIz (cs := [fb_o12 za zr fr_e0, fb_aw cI (zr 0) 16205 (fr_m (fun _ => 0) 0)]) (rs := [fb_o11 zb z0 z1 z2 z3 z4 (zq 0) z6 z7 z8 zre, fb_mw cI zq σ w, fb_o6 zre zac zab zao u.1, fb_aw cI zac 4096 u.2.1, fb_aw cI zab 4096 u.2.2.1, fb_aw cI zao 4096 u.2.2.2]) (fun (_ : Unit) => [fb_o11 zb z0 z1 z2 z3 z4 (zq 0) z6 z7 z8 zre, fb_mw cI zq σ w, fb_o6 zre zac zab zao u.1, fb_aw cI zac 4096 u.2.1, fb_aw cI zab 4096 u.2.2.1, fb_aw cI zao 4096 u.2.2.2, fb_o12 za zr (upd fr_e0 19 (0 : Int32)), fb_aw cI (zr 0) 16205 (fr_m (fun _ => 0) 0)]) (fun (_ : Unit) => [fb_o12 za zr (upd fr_e0 19 (0 : Int32)), fb_aw cI (zr 0) 16205 (fr_m (fun _ => 0) 0)]) X I [6, 7, 0, 1, 2, 3, 4, 5] 8 rfl (by decide +kernel) rfl rfl [6, 7, 0, 1, 2, 3, 4, 5] 8 (fun _ => rfl) (by decide +kernel) (fun _ => rfl) (fun _ => rfl) (fun I => fb_rV (As := []) (rest := []) X hl (fb_goodV fw_2771 fw_2772 fw_2773 fw_204 fw_2774) (cz_codes l D cI cJ za zr _) rfl rfl rfl (by decide +kernel : fb_hd yX12_codes 0) ⟨(Nat.le_of_ble_eq_true rfl), (Nat.le_of_ble_eq_true rfl)⟩ rfl rfl rfl rfl rfl (Nat.le_of_ble_eq_true rfl) ⟨by show 209 + 4098 * i + 0 + 4098 ≤ 274775; omega, by show 179241 + 16384 * i + 0 + 16384 ≤ 1276969; omega⟩ dL_law_1595 I) ?_
    intro r2 _ H locs _ hz2 I
    have hz : s.heap.size + 4096 * (i + 1) ≤ H.size := by omega
    have I : fb_In D A s.heap ([fb_o11 zb z0 z1 z2 z3 z4 (zq 0) z6 z7 z8 zre, fb_mw cI zq σ w, fb_o6 zre zac zab zao u.1, fb_aw cI zac 4096 u.2.1, fb_aw cI zab 4096 u.2.2.1, fb_aw cI zao 4096 u.2.2.2, fb_o12 za zr (upd fr_e0 19 (0 : Int32)), fb_aw cI (zr 0) 16205 (fr_m (fun _ => 0) 0)] : List va_W).flatten H locs := I
    rw [zz_e0] at I
    refine lv_pop hx hb dL_law_1598 rfl ?_
    refine lv_goto (tgt := 1630) hx hb dL_law_1599 (by decide) ?_
    refine lv_iinc (v := (nI (6 * (i + 1)))) (lv' := [(4, .int (nI (6 * (i + 1)))), (2, .ref za), (1, .ref zb), (0, .ref b)]) hx hb dL_law_1630 hl (k := 0) rfl (nI_add (6 * i) 6) (by decide) rfl (fun ls hl => ?_)
    refine lv_goto (tgt := 23) hx hb dL_law_1633 (by decide) ?_
    refine W.widen (k := 209 + 4098 * (i + 1)) (n := 179241 + 16384 * (i + 1)) (by omega) (by omega) ?_
    exact ih (i + 1) (by omega) _ _ _ _ H locs ls I hz hl
set_option maxHeartbeats 16000000 in
set_option maxRecDepth 100000 in
theorem zz_start {p : Program} {e : Env} {s : State} {m : MethodId} {below : List Frame} {meth : Method} {c : Code} (l : Launch) {b : Nat} {xs : Nat → Int32} (hxs : ∀ j, j < 402 → xs j = 54) (C0 : lw_At p s m meth c b 402 xs) : W p l e zz_room s m #[Value.ref b] below meth c s.heap [] 0 0 (zz_E below s) (entryFrame m ([Value.ref b] : List Value).toArray 9) := by
  obtain ⟨hx, hb, hr, hml, hown, htb, hX, hbl, hlocks, hgv⟩ := id C0
  have hts : ∀ w ∈ fb_all, w.before #[Value.ref b] s = true := fun w h => htb w (fb_allIn w h)
  obtain ⟨D, cI, cJ, hKc⟩ := fb_KOf htb hts
  have X : fb_Bx p s m #[Value.ref b] meth c cL_law RL 9 (some .boolean) D (fb_ty D cI cJ) (fun q : Nat => s.heap.size ≤ q) := ⟨hx, hb, hr, hml, hown, hts, hlocks, fun q h => h, ⟨hKc, fb_NstOf htb hgv⟩, fb_FzOf htb hgv⟩
  have hbA : ¬ (fun q : Nat => s.heap.size ≤ q) b := Nat.not_le.mpr hbl
  have I : fb_In D (fun q : Nat => s.heap.size ≤ q) s.heap ([] : va_W) s.heap [] := ⟨fun k q h => by simp at h, ⟨fun i j p q h => by simp at h, fun k q h => by simp at h⟩, va_S.rf⟩
  have hl := lv_entry ([.ref b]) (n := 9) (Nat.le_of_ble_eq_true rfl)
  rw [lg_entry_eq]
  generalize (lg_sl ([.ref b]) ++ List.replicate (9 - (lg_sl ([.ref b])).length) Slot.unset).toArray = ls at hl ⊢
  have hl : lv_has ls 9 [(0, .ref b)] := hl
  refine fb_newO X I (ci := 11) (fs := [.null, .null, .null, .null, .null, .null, .null, .null, .null, .null]) fu_X11 tyX11 tyX11_ok fw_218 fw_219 fw_191 rfl (by decide +kernel) (Nat.le_of_ble_eq_true rfl) (Nat.le_of_ble_eq_true rfl) dL_law_0 (fun zb H I => ?_)
  have I : fb_In D (fun q : Nat => s.heap.size ≤ q) s.heap (([(zb, .inr (11, [.null, .null, .null, .null, .null, .null, .null, .null, .null, .null]))] : va_W) ++ ([] : va_W)) H _ := I
  refine lv_dup hx hb dL_law_3 rfl ?_
  refine fb_goNF X I (fb_runIF (As := []) (rest := [.ref zb]) X I hl (c_X11_init l D cI cJ zb _) fw_222 rfl rfl fw_220 fw_191 rfl fw_221 (by decide +kernel : fb_hd yX11_init 0) ⟨(Nat.le_of_ble_eq_true rfl), (Nat.le_of_ble_eq_true rfl)⟩ rfl rfl (Nat.le_of_ble_eq_true rfl) ⟨(Nat.le_of_ble_eq_true rfl), (Nat.le_of_ble_eq_true rfl)⟩ dL_law_4) ?_
  intro u1 H locs _ I
  refine lv_astore_n (lv' := [(1, .ref zb), (0, .ref b)]) hx hb dL_law_7 rfl hl (by decide) rfl (fun ls hl => ?_)
  refine fb_newO X I (ci := 12) (fs := [.null, .null, .int 0, .null, .int 0, .int 0, .int 0, .int 0, .int 0, .int 0, .int 0, .null, .null, .int 0, .null, .null, .null, .null, .int 0, .int 0, .null, .int 0, .null, .null, .null, .null, .int 0, .int 0, .int 0, .int 0, .int 0, .int 0, .null, .null, .int 0, .int 0, .int 0, .int 0, .null, .null, .null, .int 0, .int 0, .int 0, .int 0, .null, .null, .null, .null, .int 0, .int 0]) fu_X12 tyX12 tyX12_ok fw_1933 fw_1934 fw_204 rfl (by decide +kernel) (Nat.le_of_ble_eq_true rfl) (Nat.le_of_ble_eq_true rfl) dL_law_8 (fun za H I => ?_)
  have I := fb_permW List.perm_append_comm I
  refine lv_dup hx hb dL_law_11 rfl ?_
  refine fb_goNF X I (fb_runIF (As := []) (rest := [.ref za]) X I hl (c_X12_init l D cI cJ za _) fw_1937 rfl rfl fw_1935 fw_204 rfl fw_1936 (by decide +kernel : fb_hd yX12_init 0) ⟨(Nat.le_of_ble_eq_true rfl), (Nat.le_of_ble_eq_true rfl)⟩ rfl rfl (Nat.le_of_ble_eq_true rfl) ⟨(Nat.le_of_ble_eq_true rfl), (Nat.le_of_ble_eq_true rfl)⟩ dL_law_12) ?_
  intro zr H locs _ I
  refine lv_astore_n (lv' := [(2, .ref za), (1, .ref zb), (0, .ref b)]) hx hb dL_law_15 rfl hl (by decide) rfl (fun ls hl => ?_)
  refine lv_iconst (v := (1 : Int32)) hx hb dL_law_16 (by decide) ?_
  refine fb_newJ (N := 1) X I fw_262 (by decide) (Nat.le_of_ble_eq_true rfl) (Nat.le_of_ble_eq_true rfl) (Nat.le_of_ble_eq_true rfl) dL_law_17 (fun zx H I => ?_)
  refine W.widen (k := 209) (n := 179241) (Nat.le_of_ble_eq_true rfl) (Nat.le_of_ble_eq_true rfl) ?_
  refine lv_astore_n (lv' := [(3, .ref zx), (2, .ref za), (1, .ref zb), (0, .ref b)]) hx hb dL_law_19 rfl hl (by decide) rfl (fun ls hl => ?_)
  refine lv_iconst (v := (0 : Int32)) hx hb dL_law_20 (by decide) ?_
  refine lv_istore (lv' := [(4, .int (0 : Int32)), (3, .ref zx), (2, .ref za), (1, .ref zb), (0, .ref b)]) hx hb dL_law_21 hl (by decide) rfl (fun ls hl => ?_)
  obtain ⟨t, tl, w⟩ := u1
  rw [List.append_nil, fb_bwB, ← List.flatten_append] at I
  have I : fb_In D (fun q : Nat => s.heap.size ≤ q) s.heap ([fb_o11 zb (t 0) (t 1) (t 2) (t 3) (t 4) (t 10) (t 20) (t 7) (t 8) (t 9), fb_o3 (t 1) (t 50) (t 51) (t 52) (fun _ => 0), fb_aw cI (t 52) 120 (fun _ => 0), fb_o4 (t 4) (t 0) (t 2) (t 1) (t 3) (t 64) (t 65) (t 66) (t 67) (t 69) fb_p0, fb_aw cI (t 66) 11008 (fun _ => 0), fb_mw cI (fun k => t (10 + k)) (f_X2_restart fb_m0) w, fb_mw cI (fun k => t (20 + k)) fb_m0 (fun _ => 0), fb_o0 (t 7) (t 30) (t 40) fb_h0, fb_mw cI (fun k => t (30 + k)) fb_m0 (fun _ => 0), fb_mw cI (fun k => t (40 + k)) fb_m0 (fun _ => 0), fb_o7 (t 8) (t 70) (t 71) (t 73) (t 74) (t 75) (fun _ => 0), fb_o6 (t 9) (t 80) (t 81) (t 82) (fun _ => 0), fb_aw cI (t 80) 4096 (fun _ => 0), fb_aw cI (t 81) 4096 (fun _ => 0), fb_aw cI (t 82) 4096 (fun _ => 0), fb_o9 (t 0) (t 100) (t 101) (t 102) (t 103) (fun _ => 0), fb_aw cI (t 100) 2000 (fun _ => 0), fb_aw cI (t 101) 2001 (fun _ => 0), fb_aw cI (t 102) 2001 (fun _ => 0), fb_jw cJ (t 103) 2001 (fun _ => 0), fb_jw cJ (t 50) 120 (fun _ => 0), fb_aw cI (t 51) 120 (fun _ => 0), fb_o10 (t 2) (t 0) (t 1) (fun _ => 0), fb_o8 (t 3) (t 0) (t 2) (t 90) (t 91) (fun _ => 0), fb_qw (D.1 23) (t 90) 120 tl, fb_o1 (tl 0) (fun _ => 0), fb_aw cI (t 64) 11008 (fun _ => 0), fb_aw cI (t 65) 11008 (fun _ => 0), fb_aw cI (t 67) 2048 (fun _ => 0), fb_aw cI (t 69) 4 (fun _ => 0), fb_aw cI (t 70) 6 (fun _ => 0), fb_aw cI (t 71) 6 (fun _ => 0), fb_aw cI (t 73) 4 (fun _ => 0), fb_aw cI (t 74) 4 (fun _ => 0), fb_aw cI (t 75) 4 (fun _ => 0), fb_o12 za zr fr_e0, fb_aw cI (zr 0) 16205 (fr_m (fun _ => 0) 0), fb_qh D (zr 1) 200 (fun _ => none), fb_aw cI (zr 3) 64 (fun _ => 0), fb_aw cI (zr 11) 6 (fun _ => 0), fb_aw cI (zr 12) 6 (fun _ => 0), fb_aw cI (zr 14) 4 (fun _ => 0), fb_aw cI (zr 15) 4 (fun _ => 0), fb_aw (D.1 20) (zr 16) 4 (fun _ => 0), fb_aw (D.1 20) (zr 17) 4 (fun _ => 0), fb_aw (D.1 21) (zr 20) 2000 (fun _ => 0), fb_aw cI (zr 22) 2200 (fun _ => 0), fb_aw cI (zr 23) 2200 (fun _ => 0), fb_aw cI (zr 24) 2200 (fun _ => 0), fb_aw cI (zr 25) 2200 (fun _ => 0), fb_aw cI (zr 32) 200 (fun _ => 0), fb_aw cI (zr 33) 200 (fun _ => 0), fb_aw cI (zr 38) 130 (fun _ => 0), fb_aw (D.1 20) (zr 39) 130 (fun _ => 0), fb_aw cI (zr 40) 8 (fun _ => 0), fb_aw cI (zr 45) 11008 (fun _ => 0), fb_aw cI (zr 46) 11008 (fun _ => 0), fb_aw cI (zr 47) 11008 (fun _ => 0), fb_aw cI (zr 48) 200 (fun _ => 0), fb_jw cJ zx 1 (fun _ => 0)] : List va_W).flatten H locs := by
    have e9 : ∀ (L1 : List va_W) (w1 : va_W), L1.flatten ++ w1 = (L1 ++ [w1]).flatten := fun L1 w1 => by rw [List.flatten_append]; simp
    rw [e9] at I
    exact fb_dropB (gs := []) I 60 rfl [24, 25, 26, 27, 28, 29, 30, 31, 32, 33, 34, 35, 36, 37, 38, 39, 40, 41, 42, 43, 44, 45, 46, 47, 48, 49, 50, 51, 52, 53, 54, 55, 56, 57, 58, 0, 1, 2, 3, 4, 5, 6, 7, 8, 9, 10, 11, 12, 13, 14, 15, 16, 17, 18, 19, 20, 21, 22, 23, 59] (by decide +kernel) rfl
  have I : fb_In D (fun q : Nat => s.heap.size ≤ q) s.heap ([fb_o11 zb (t 0) (t 1) (t 2) (t 3) (t 4) (t 10) (t 20) (t 7) (t 8) (t 9), fb_mw cI (fun k => t (10 + k)) (f_X2_restart fb_m0) w, fb_o6 (t 9) (t 80) (t 81) (t 82) (fun _ => 0), fb_aw cI (t 80) 4096 (fun _ => 0), fb_aw cI (t 81) 4096 (fun _ => 0), fb_aw cI (t 82) 4096 (fun _ => 0), fb_o12 za zr fr_e0, fb_aw cI (zr 0) 16205 (fr_m (fun _ => 0) 0)] : List va_W).flatten H locs := fb_dropB (gs := [fb_o3 (t 1) (t 50) (t 51) (t 52) (fun _ => 0), fb_aw cI (t 52) 120 (fun _ => 0), fb_o4 (t 4) (t 0) (t 2) (t 1) (t 3) (t 64) (t 65) (t 66) (t 67) (t 69) fb_p0, fb_aw cI (t 66) 11008 (fun _ => 0), fb_mw cI (fun k => t (20 + k)) fb_m0 (fun _ => 0), fb_o0 (t 7) (t 30) (t 40) fb_h0, fb_mw cI (fun k => t (30 + k)) fb_m0 (fun _ => 0), fb_mw cI (fun k => t (40 + k)) fb_m0 (fun _ => 0), fb_o7 (t 8) (t 70) (t 71) (t 73) (t 74) (t 75) (fun _ => 0), fb_o9 (t 0) (t 100) (t 101) (t 102) (t 103) (fun _ => 0), fb_aw cI (t 100) 2000 (fun _ => 0), fb_aw cI (t 101) 2001 (fun _ => 0), fb_aw cI (t 102) 2001 (fun _ => 0), fb_jw cJ (t 103) 2001 (fun _ => 0), fb_jw cJ (t 50) 120 (fun _ => 0), fb_aw cI (t 51) 120 (fun _ => 0), fb_o10 (t 2) (t 0) (t 1) (fun _ => 0), fb_o8 (t 3) (t 0) (t 2) (t 90) (t 91) (fun _ => 0), fb_qw (D.1 23) (t 90) 120 tl, fb_o1 (tl 0) (fun _ => 0), fb_aw cI (t 64) 11008 (fun _ => 0), fb_aw cI (t 65) 11008 (fun _ => 0), fb_aw cI (t 67) 2048 (fun _ => 0), fb_aw cI (t 69) 4 (fun _ => 0), fb_aw cI (t 70) 6 (fun _ => 0), fb_aw cI (t 71) 6 (fun _ => 0), fb_aw cI (t 73) 4 (fun _ => 0), fb_aw cI (t 74) 4 (fun _ => 0), fb_aw cI (t 75) 4 (fun _ => 0), fb_qh D (zr 1) 200 (fun _ => none), fb_aw cI (zr 3) 64 (fun _ => 0), fb_aw cI (zr 11) 6 (fun _ => 0), fb_aw cI (zr 12) 6 (fun _ => 0), fb_aw cI (zr 14) 4 (fun _ => 0), fb_aw cI (zr 15) 4 (fun _ => 0), fb_aw (D.1 20) (zr 16) 4 (fun _ => 0), fb_aw (D.1 20) (zr 17) 4 (fun _ => 0), fb_aw (D.1 21) (zr 20) 2000 (fun _ => 0), fb_aw cI (zr 22) 2200 (fun _ => 0), fb_aw cI (zr 23) 2200 (fun _ => 0), fb_aw cI (zr 24) 2200 (fun _ => 0), fb_aw cI (zr 25) 2200 (fun _ => 0), fb_aw cI (zr 32) 200 (fun _ => 0), fb_aw cI (zr 33) 200 (fun _ => 0), fb_aw cI (zr 38) 130 (fun _ => 0), fb_aw (D.1 20) (zr 39) 130 (fun _ => 0), fb_aw cI (zr 40) 8 (fun _ => 0), fb_aw cI (zr 45) 11008 (fun _ => 0), fb_aw cI (zr 46) 11008 (fun _ => 0), fb_aw cI (zr 47) 11008 (fun _ => 0), fb_aw cI (zr 48) 200 (fun _ => 0), fb_jw cJ zx 1 (fun _ => 0)]) I 60 rfl [0, 5, 11, 12, 13, 14, 35, 36, 1, 2, 3, 4, 6, 7, 8, 9, 10, 15, 16, 17, 18, 19, 20, 21, 22, 23, 24, 25, 26, 27, 28, 29, 30, 31, 32, 33, 34, 37, 38, 39, 40, 41, 42, 43, 44, 45, 46, 47, 48, 49, 50, 51, 52, 53, 54, 55, 56, 57, 58, 59] (by decide +kernel) rfl
  exact zz_loop (l := l) (z0 := t 0) (z1 := t 1) (z2 := t 2) (z3 := t 3) (z4 := t 4) (z6 := t 20) (z7 := t 7) (z8 := t 8) (zre := t 9) (zq := fun k => t (10 + k)) (σ := f_X2_restart fb_m0) (w := w) (zac := t 80) (zab := t 81) (zao := t 82) (za := za) (zr := zr) X hX hbl hbA (fun q h => h) hxs 67 0 (by omega) _ _ _ _ H locs ls I I.2.2.1 (lv_sub hl [0, 2, 3, 4] rfl)
/-- the script: 67 calls of codes() -/
def zz_P (b : Addr) (xs : List Int32) (args : Array Value) (s : State) : Prop := args = #[.ref b] ∧ s.IntsAt b xs ∧ xs = List.replicate 402 (54 : Int32) ∧ (Jvm.Cond.and given_1 narrow_1).before args s = true
set_option maxHeartbeats 4000000 in
theorem zz_walk (l : Launch) (b : Addr) (xs : List Int32) : MetFree l x (headSpec (Jvm.Cond.code x code maxLocals ret :: tables_1) zz_room) (zz_P b xs) (fun _ _ _ _ _ => True) (fun _ s o t => o = .returned (some (.int 1)) ∧ s.heap.size + 274432 ≤ t.heap.size) := by
  refine MetFree.of_bodyS (code := code) (maxLocals := maxLocals) (ret := ret) (by decide) ?_ ?_
  · intro args s m h hn
    obtain ⟨meth, c, h1, h2, h3, h4, h5, h6, -, -⟩ := Cond.code_spec hn (atoms_spec (ws := Jvm.Cond.code x code maxLocals ret :: tables_1) h _ List.mem_cons_self)
    exact ⟨meth, c, h1, h2, h3, h4, h5, h6⟩
  · intro p e s m args below meth c s₁ B hml0 hP _
    obtain ⟨rfl, hx, hbd, hgv⟩ := hP
    obtain ⟨scr, harrAt, hlist, hof, hsmall⟩ := hx
    obtain ⟨hcb, hkn, -, -⟩ := State.arrayAt?_spec harrAt
    have hown : s.vm.findClass R_law = some m.cls := findClass_of_methodNamed B.named
    have hts0 : ∀ c ∈ (Jvm.Cond.code x code maxLocals ret :: tables_1), c.before #[Value.ref b] s = true := atoms_spec (ws := Jvm.Cond.code x code maxLocals ret :: tables_1) B.pre
    have hts : ∀ w ∈ lw_tbl, w.before #[Value.ref b] s = true := k2_hts_sels lw_privs (fun w hw => hts0 w (List.mem_cons_of_mem _ hw)) lw_privs_ok
    have hml : c.maxLocals = 9 := B.maxLocals_eq (hts0 _ List.mem_cons_self)
    have X₀ : Stand p l e zz_room s m #[Value.ref b] below meth c s₁ [] 0 0 := Stand.of_body B
    have hh0 : s₁.heap = s.heap := by rw [B.state]; rfl
    have hlen : xs.length = 402 := by rw [hbd]; exact List.length_replicate
    have hsz : scr.slots.size = 402 := by rw [← Array.length_toList, hlist, List.length_map, hlen]
    have hval : ∀ j : Nat, j < 402 → scr.slots[j]? = some (.int (xs.getD j 0)) := fun j hj => by
      rw [← Array.getElem?_toList, hlist]
      have hj2 : j < xs.length := by rw [hlen]; exact hj
      simp [hj2]
    have hxs : ∀ j : Nat, j < 402 → xs.getD j 0 = 54 := fun j hj => by
      subst hbd
      rw [List.getD_eq_getElem?_getD, List.getElem?_replicate, if_pos hj]
      rfl
    have hbl : b < s.heap.size := (Array.getElem?_eq_some_iff.mp hcb).1
    have hX : va_X b 402 (fun j => xs.getD j 0) s s.heap := ⟨scr, hcb, hof, hkn, hsz, hval⟩
    have K : W p l e zz_room s m #[Value.ref b] below meth c s₁.heap [] 0 0 (zz_E below s) (entryFrame m ([Value.ref b] : List Value).toArray 9) := by
      rw [hh0]
      exact zz_start l hxs ⟨B.exec, B.bytes, B.returns, hml, hown, hts, hX, hbl, B.notSynchronized, hgv⟩
    obtain ⟨t, a1, b1, b2, b3⟩ := K s₁ rfl X₀
    exact ⟨t, .returned (some (.int 1)), a1, b1, b2, rfl, b3⟩
theorem zz_len {t : State} {below : List Frame} {v : Option Value} (he : Ended t below (.returned v)) : t.frames.length = below.length := by
  cases below with
  | nil => exact congrArg List.length (show v = none ∧ t.frames = [] from he).2
  | cons f r =>
    cases f with
    | java g =>
      obtain ⟨c, i, len, -, -, h⟩ := he
      rw [h]; rfl
    | native g => rw [he]; rfl
    | proc g => rw [he]; rfl
    | _ => exact congrArg List.length (show v = none ∧ t.frames = _ from he).2
/-- an end comes once -/
theorem zz_once {t : State} {below : List Frame} {o : Outcome} (hw : Within t below) (he : Ended t below o) : False := by
  obtain ⟨above, h1, h2, h3⟩ := hw
  cases o with
  | threw a =>
    have h4 : above ++ below = [.throwing a] ++ below := by rw [← h1]; exact he
    exact h3 a (List.append_cancel_right h4)
  | returned v =>
    have h5 : t.frames.length = below.length := zz_len he
    rw [h1, List.length_append] at h5
    exact h2 (List.length_eq_zero_iff.mp (by omega))
/-- the claim is false at each start that it allows whose script is that of 67 calls of codes(), and at which that many objects find room -/
theorem zz_refuted (l : Launch) (p : Program) (e : Env) (s : State) (m : MethodId) (args : Array Value) (below : List Frame) (hfl : l.flags = flags0) (h : AtStart classFile x code maxLocals ret World_1 tables_1 room_1 Calls_1 rest_1 Pre_1 l p e s m args below) (hroom : s.hasRoom e.platform zz_room = true) (b : Addr) (hargs : args = #[.ref b]) (hscr : s.IntsAt b (List.replicate 402 (54 : Int32))) : ¬ Claimed_1_1 := by
  intro hcl
  obtain ⟨hL, hWo, ha, hle, hc, hk, hf, hfit, hheap, happ, hca, hre, hpre⟩ := h
  obtain ⟨n1, o1, w1, r1, d1, q1⟩ := hcl l hfl hL hWo p e ha hc hk s m args below hf hfit hheap happ ⟨hca, hre, hpre⟩
  have happ2 : (headSpec (Jvm.Cond.code x code maxLocals ret :: tables_1) zz_room).applies x e.platform s = true := by
    obtain ⟨g1, g2, g3, g4, g5, g6, g7, g8⟩ := (Spec.applies_iff hf).mp happ
    exact (Spec.applies_iff hf).mpr ⟨g1, g2, g3, g4, g5, g6, hroom, g8⟩
  obtain ⟨n2, o2, w2, r2, d2, q2⟩ := zz_walk l b _ p e ha hc hk s m args below hf ((Spec.applies_iff_loose hf).mp happ2).1 ⟨hargs, hscr, rfl, hpre⟩ trivial
  have hn : n1 = n2 := by
    rcases Nat.lt_trichotomy n1 n2 with h | h | h
    · exact (zz_once (w2 n1 h) d1).elim
    · exact h
    · exact (zz_once (w1 n2 h) d2).elim
  subst hn
  obtain ⟨-, hfr, -, -⟩ := q1
  obtain ⟨-, -, h0⟩ := hfr
  obtain ⟨-, -, h9, -⟩ := h0
  have h8 : (stepsAlone p.tables e n1 s).heap.size ≤ s.heap.size + 271101 := h9
  have := q2.2
  omega
end
section
/-! the printed witness' start with that script in the stead of its own: so the claim is false -/
def zz_cells : Array Value := (List.replicate 402 (Value.int 54)).toArray
def zz_s : State := start1.aboutOf zz_cells
theorem zz_tab {c : Cond} (hc : c.onTables = true) (h : c.before start1.args0 start1.about = true) : c.before start1.args0 zz_s = true :=
  (Cond.onTables_vm (A := start1.args0) (A' := start1.args0) (U := zz_s) (U' := start1.about) start1.about.vm c hc).trans h
set_option maxRecDepth 100000 in
theorem zz_left : ((Jvm.Cond.code x code maxLocals ret :: tables_1).filter (fun c => !c.onTables)).all (fun c => c.before start1.args0 zz_s) = true := by decide +kernel
theorem zz_words : ∀ c ∈ (Jvm.Cond.code x code maxLocals ret :: tables_1), c.before start1.args0 zz_s = true := fun c hc => by
  by_cases h : c.onTables = true
  · exact zz_tab h (start1.words c hc)
  · exact List.all_eq_true.mp zz_left c (List.mem_filter.mpr ⟨hc, by simp [h]⟩)
theorem zz_ints : zz_s.IntsAt 0 (List.replicate 402 (54 : Int32)) :=
  ⟨{ cls := 35, slots := zz_cells, vm := .none }, by rfl, (by rw [List.map_replicate] <;> rfl), ⟨fun k h => (by cases h), _, by rfl, _, by rfl⟩, by decide +kernel⟩
set_option maxRecDepth 16384 in
theorem zz_at : AtStart classFile x code maxLocals ret World_1 tables_1 room_1 Calls_1 rest_1 Pre_1 launch0 start1.p0 start1.e0 zz_s ⟨0, 0⟩ start1.args0 Lib.HandBits.below0 := by
  obtain ⟨hL, hW, ha, hle, hc, hk, -⟩ := start1.atStart
  refine ⟨hL, hW, ha, hle, hc, hk, rfl, by decide +kernel, by decide +kernel, (Spec.applies_iff rfl).mpr ⟨rfl, rfl, rfl, by decide +kernel, by decide +kernel, by decide +kernel, ?_, atoms_intro zz_words⟩, trivial, ?_, ?_⟩
  · exact launch0.hasRoom_least _ room_1 (by decide +kernel) (by decide +kernel) (by decide +kernel) (by decide +kernel) (by decide +kernel) (by decide +kernel)
  · show rest_1_c.before start1.args0 zz_s = true
    decide +kernel
  · show (Cond.and given_1 narrow_1).before start1.args0 zz_s = true
    decide +kernel
set_option maxRecDepth 16384 in
/-- THE CLAIM IS FALSE -/
theorem zz_false : ¬ Claimed_1_1 :=
  zz_refuted launch0 start1.p0 start1.e0 zz_s ⟨0, 0⟩ start1.args0 Lib.HandBits.below0 (by decide +kernel) zz_at (launch0.hasRoom_least _ zz_room (by decide +kernel) (by decide +kernel) (by decide +kernel) (by decide +kernel) (by decide +kernel) (by decide +kernel)) 0 rfl zz_ints
theorem zz_no_proof : ¬ (Claimed_1_1 ∧ Claimed_1_2) := fun h => zz_false h.1
end
