-- ===== PART A: goes FIRST, ahead of the names: the tables' words, and 'selects' of the private methods out of them =====
/-- a private method of a class that the tables say can be made, by its rows of tables_1 -/
def lw_okq (q : MethodName × Nat) : Prop := (q.1.cls ≠ "java/lang/invoke/MethodHandle" ∧ q.1.cls ≠ "java/lang/invoke/VarHandle") ∧ Cond.instantiable q.1.cls q.2 ∈ tables_1 ∧ Cond.privateMethod q.1 ∈ tables_1 ∧ Cond.instanceMethod q.1 ∈ tables_1
theorem lw_tt1 {w : Cond} (h : w ∈ tables_1_1) : w ∈ tables_1 := List.mem_append_left _ h
theorem lw_tt2 {w : Cond} (h : w ∈ tables_1_2) : w ∈ tables_1 := List.mem_append_right _ (List.mem_append_left _ h)
theorem lw_tt3 {w : Cond} (h : w ∈ tables_1_3) : w ∈ tables_1 := List.mem_append_right _ (List.mem_append_right _ (List.mem_append_left _ h))
theorem lw_tt4 {w : Cond} (h : w ∈ tables_1_4) : w ∈ tables_1 := List.mem_append_right _ (List.mem_append_right _ (List.mem_append_right _ (List.mem_append_left _ h)))
theorem lw_tt5 {w : Cond} (h : w ∈ tables_1_5) : w ∈ tables_1 := List.mem_append_right _ (List.mem_append_right _ (List.mem_append_right _ (List.mem_append_right _ (List.mem_append_left _ h))))
theorem lw_tt6 {w : Cond} (h : w ∈ tables_1_6) : w ∈ tables_1 := List.mem_append_right _ (List.mem_append_right _ (List.mem_append_right _ (List.mem_append_right _ (List.mem_append_right _ (List.mem_append_left _ h)))))
theorem lw_tt7 {w : Cond} (h : w ∈ tables_1_7) : w ∈ tables_1 := List.mem_append_right _ (List.mem_append_right _ (List.mem_append_right _ (List.mem_append_right _ (List.mem_append_right _ (List.mem_append_right _ h)))))
set_option maxRecDepth 20000 in
theorem lw_p0 : lw_okq (⟨"HiddenMoves$Words", "takeNumber", "()V"⟩, 6) := ⟨⟨by decide +kernel, by decide +kernel⟩, lw_tt1 (List.mem_of_getElem? (i := 38) rfl), lw_tt2 (List.mem_of_getElem? (i := 232) rfl), lw_tt2 (List.mem_of_getElem? (i := 233) rfl)⟩
set_option maxRecDepth 20000 in
theorem lw_p1 : lw_okq (⟨"HiddenMoves$Reader", "isOne", "()Z"⟩, 13) := ⟨⟨by decide +kernel, by decide +kernel⟩, lw_tt1 (List.mem_of_getElem? (i := 32) rfl), lw_tt2 (List.mem_of_getElem? (i := 239) rfl), lw_tt3 (List.mem_of_getElem? (i := 0) rfl)⟩
set_option maxRecDepth 20000 in
theorem lw_p2 : lw_okq (⟨"HiddenMoves$Reader", "dueBehind", "(I)I"⟩, 13) := ⟨⟨by decide +kernel, by decide +kernel⟩, lw_tt1 (List.mem_of_getElem? (i := 32) rfl), lw_tt3 (List.mem_of_getElem? (i := 3) rfl), lw_tt3 (List.mem_of_getElem? (i := 4) rfl)⟩
set_option maxRecDepth 20000 in
theorem lw_p3 : lw_okq (⟨"HiddenMoves$Reader", "dueInNode", "(I)I"⟩, 13) := ⟨⟨by decide +kernel, by decide +kernel⟩, lw_tt1 (List.mem_of_getElem? (i := 32) rfl), lw_tt3 (List.mem_of_getElem? (i := 7) rfl), lw_tt3 (List.mem_of_getElem? (i := 8) rfl)⟩
set_option maxRecDepth 20000 in
theorem lw_p4 : lw_okq (⟨"HiddenMoves$Reader", "openBracket", "(Z)I"⟩, 13) := ⟨⟨by decide +kernel, by decide +kernel⟩, lw_tt1 (List.mem_of_getElem? (i := 32) rfl), lw_tt3 (List.mem_of_getElem? (i := 11) rfl), lw_tt3 (List.mem_of_getElem? (i := 12) rfl)⟩
set_option maxRecDepth 20000 in
theorem lw_p5 : lw_okq (⟨"HiddenMoves$Reader", "dueBehindFraction", "(I)I"⟩, 13) := ⟨⟨by decide +kernel, by decide +kernel⟩, lw_tt1 (List.mem_of_getElem? (i := 32) rfl), lw_tt3 (List.mem_of_getElem? (i := 15) rfl), lw_tt3 (List.mem_of_getElem? (i := 16) rfl)⟩
set_option maxRecDepth 20000 in
theorem lw_p6 : lw_okq (⟨"HiddenMoves$Reader", "dueBehindNode", "(I)I"⟩, 13) := ⟨⟨by decide +kernel, by decide +kernel⟩, lw_tt1 (List.mem_of_getElem? (i := 32) rfl), lw_tt3 (List.mem_of_getElem? (i := 19) rfl), lw_tt3 (List.mem_of_getElem? (i := 20) rfl)⟩
set_option maxRecDepth 20000 in
theorem lw_p7 : lw_okq (⟨"HiddenMoves$Reader", "refuse", "(II)Z"⟩, 13) := ⟨⟨by decide +kernel, by decide +kernel⟩, lw_tt1 (List.mem_of_getElem? (i := 32) rfl), lw_tt3 (List.mem_of_getElem? (i := 24) rfl), lw_tt3 (List.mem_of_getElem? (i := 25) rfl)⟩
set_option maxRecDepth 20000 in
theorem lw_p8 : lw_okq (⟨"HiddenMoves$Reader", "goThroughNode", "(IJJII)Z"⟩, 13) := ⟨⟨by decide +kernel, by decide +kernel⟩, lw_tt1 (List.mem_of_getElem? (i := 32) rfl), lw_tt3 (List.mem_of_getElem? (i := 28) rfl), lw_tt3 (List.mem_of_getElem? (i := 29) rfl)⟩
set_option maxRecDepth 20000 in
theorem lw_p9 : lw_okq (⟨"HiddenMoves$Reader", "goThroughEnd", "(JJII)Z"⟩, 13) := ⟨⟨by decide +kernel, by decide +kernel⟩, lw_tt1 (List.mem_of_getElem? (i := 32) rfl), lw_tt3 (List.mem_of_getElem? (i := 32) rfl), lw_tt3 (List.mem_of_getElem? (i := 33) rfl)⟩
set_option maxRecDepth 20000 in
theorem lw_p10 : lw_okq (⟨"HiddenMoves$Reader", "goThroughFraction", "(Z)Z"⟩, 13) := ⟨⟨by decide +kernel, by decide +kernel⟩, lw_tt1 (List.mem_of_getElem? (i := 32) rfl), lw_tt3 (List.mem_of_getElem? (i := 37) rfl), lw_tt3 (List.mem_of_getElem? (i := 38) rfl)⟩
set_option maxRecDepth 20000 in
theorem lw_p11 : lw_okq (⟨"HiddenMoves$Reader", "goThroughDraw", "(IJJII)Z"⟩, 13) := ⟨⟨by decide +kernel, by decide +kernel⟩, lw_tt1 (List.mem_of_getElem? (i := 32) rfl), lw_tt3 (List.mem_of_getElem? (i := 53) rfl), lw_tt3 (List.mem_of_getElem? (i := 54) rfl)⟩
set_option maxRecDepth 20000 in
theorem lw_p12 : lw_okq (⟨"HiddenMoves$Reader", "endDraw", "(IIJJ)Z"⟩, 13) := ⟨⟨by decide +kernel, by decide +kernel⟩, lw_tt1 (List.mem_of_getElem? (i := 32) rfl), lw_tt3 (List.mem_of_getElem? (i := 62) rfl), lw_tt3 (List.mem_of_getElem? (i := 63) rfl)⟩
set_option maxRecDepth 20000 in
theorem lw_p13 : lw_okq (⟨"HiddenMoves$Reader", "goThroughChoice", "(IJJII)Z"⟩, 13) := ⟨⟨by decide +kernel, by decide +kernel⟩, lw_tt1 (List.mem_of_getElem? (i := 32) rfl), lw_tt3 (List.mem_of_getElem? (i := 66) rfl), lw_tt3 (List.mem_of_getElem? (i := 67) rfl)⟩
set_option maxRecDepth 20000 in
theorem lw_p14 : lw_okq (⟨"HiddenMoves$Reader", "enterSet", "(LHiddenMoves$Side;IJI)I"⟩, 13) := ⟨⟨by decide +kernel, by decide +kernel⟩, lw_tt1 (List.mem_of_getElem? (i := 32) rfl), lw_tt3 (List.mem_of_getElem? (i := 70) rfl), lw_tt3 (List.mem_of_getElem? (i := 71) rfl)⟩
set_option maxRecDepth 20000 in
theorem lw_p15 : lw_okq (⟨"HiddenMoves$Reader", "endChoice", "(ILHiddenMoves$Side;II)Z"⟩, 13) := ⟨⟨by decide +kernel, by decide +kernel⟩, lw_tt1 (List.mem_of_getElem? (i := 32) rfl), lw_tt3 (List.mem_of_getElem? (i := 89) rfl), lw_tt3 (List.mem_of_getElem? (i := 90) rfl)⟩
def lw_privs_1 : List (MethodName × Nat) := [(⟨"HiddenMoves$Words", "takeNumber", "()V"⟩, 6), (⟨"HiddenMoves$Reader", "isOne", "()Z"⟩, 13), (⟨"HiddenMoves$Reader", "dueBehind", "(I)I"⟩, 13), (⟨"HiddenMoves$Reader", "dueInNode", "(I)I"⟩, 13), (⟨"HiddenMoves$Reader", "openBracket", "(Z)I"⟩, 13), (⟨"HiddenMoves$Reader", "dueBehindFraction", "(I)I"⟩, 13), (⟨"HiddenMoves$Reader", "dueBehindNode", "(I)I"⟩, 13), (⟨"HiddenMoves$Reader", "refuse", "(II)Z"⟩, 13), (⟨"HiddenMoves$Reader", "goThroughNode", "(IJJII)Z"⟩, 13), (⟨"HiddenMoves$Reader", "goThroughEnd", "(JJII)Z"⟩, 13), (⟨"HiddenMoves$Reader", "goThroughFraction", "(Z)Z"⟩, 13), (⟨"HiddenMoves$Reader", "goThroughDraw", "(IJJII)Z"⟩, 13), (⟨"HiddenMoves$Reader", "endDraw", "(IIJJ)Z"⟩, 13), (⟨"HiddenMoves$Reader", "goThroughChoice", "(IJJII)Z"⟩, 13), (⟨"HiddenMoves$Reader", "enterSet", "(LHiddenMoves$Side;IJI)I"⟩, 13), (⟨"HiddenMoves$Reader", "endChoice", "(ILHiddenMoves$Side;II)Z"⟩, 13)]
theorem lw_r1 : ∀ q ∈ lw_privs_1, lw_okq q := List.forall_mem_cons.mpr ⟨lw_p0, List.forall_mem_cons.mpr ⟨lw_p1, List.forall_mem_cons.mpr ⟨lw_p2, List.forall_mem_cons.mpr ⟨lw_p3, List.forall_mem_cons.mpr ⟨lw_p4, List.forall_mem_cons.mpr ⟨lw_p5, List.forall_mem_cons.mpr ⟨lw_p6, List.forall_mem_cons.mpr ⟨lw_p7, List.forall_mem_cons.mpr ⟨lw_p8, List.forall_mem_cons.mpr ⟨lw_p9, List.forall_mem_cons.mpr ⟨lw_p10, List.forall_mem_cons.mpr ⟨lw_p11, List.forall_mem_cons.mpr ⟨lw_p12, List.forall_mem_cons.mpr ⟨lw_p13, List.forall_mem_cons.mpr ⟨lw_p14, List.forall_mem_cons.mpr ⟨lw_p15, fun _ h => absurd h List.not_mem_nil⟩⟩⟩⟩⟩⟩⟩⟩⟩⟩⟩⟩⟩⟩⟩⟩
set_option maxRecDepth 20000 in
theorem lw_p16 : lw_okq (⟨"HiddenMoves$Reader", "finish", "()V"⟩, 13) := ⟨⟨by decide +kernel, by decide +kernel⟩, lw_tt1 (List.mem_of_getElem? (i := 32) rfl), lw_tt3 (List.mem_of_getElem? (i := 93) rfl), lw_tt3 (List.mem_of_getElem? (i := 94) rfl)⟩
set_option maxRecDepth 20000 in
theorem lw_p17 : lw_okq (⟨"HiddenMoves$Reader", "findCommonNumber", "()Z"⟩, 13) := ⟨⟨by decide +kernel, by decide +kernel⟩, lw_tt1 (List.mem_of_getElem? (i := 32) rfl), lw_tt3 (List.mem_of_getElem? (i := 101) rfl), lw_tt3 (List.mem_of_getElem? (i := 102) rfl)⟩
set_option maxRecDepth 20000 in
theorem lw_p18 : lw_okq (⟨"HiddenMoves$Reader", "fillWeights", "()Z"⟩, 13) := ⟨⟨by decide +kernel, by decide +kernel⟩, lw_tt1 (List.mem_of_getElem? (i := 32) rfl), lw_tt3 (List.mem_of_getElem? (i := 116) rfl), lw_tt3 (List.mem_of_getElem? (i := 117) rfl)⟩
set_option maxRecDepth 20000 in
theorem lw_p19 : lw_okq (⟨"HiddenMoves", "startAnew", "()V"⟩, 16) := ⟨⟨by decide +kernel, by decide +kernel⟩, lw_tt1 (List.mem_of_getElem? (i := 24) rfl), lw_tt3 (List.mem_of_getElem? (i := 126) rfl), lw_tt3 (List.mem_of_getElem? (i := 127) rfl)⟩
set_option maxRecDepth 20000 in
theorem lw_p20 : lw_okq (⟨"HiddenMoves", "isPlaying", "(I)Z"⟩, 16) := ⟨⟨by decide +kernel, by decide +kernel⟩, lw_tt1 (List.mem_of_getElem? (i := 24) rfl), lw_tt3 (List.mem_of_getElem? (i := 146) rfl), lw_tt3 (List.mem_of_getElem? (i := 147) rfl)⟩
set_option maxRecDepth 20000 in
theorem lw_p21 : lw_okq (⟨"HiddenMoves", "sideOf", "(I)LHiddenMoves$Side;"⟩, 16) := ⟨⟨by decide +kernel, by decide +kernel⟩, lw_tt1 (List.mem_of_getElem? (i := 24) rfl), lw_tt3 (List.mem_of_getElem? (i := 153) rfl), lw_tt3 (List.mem_of_getElem? (i := 154) rfl)⟩
set_option maxRecDepth 20000 in
theorem lw_p22 : lw_okq (⟨"HiddenMoves", "isGood", "(I)Z"⟩, 16) := ⟨⟨by decide +kernel, by decide +kernel⟩, lw_tt1 (List.mem_of_getElem? (i := 24) rfl), lw_tt3 (List.mem_of_getElem? (i := 174) rfl), lw_tt3 (List.mem_of_getElem? (i := 175) rfl)⟩
set_option maxRecDepth 20000 in
theorem lw_p23 : lw_okq (⟨"HiddenMoves$Way", "bottomOf", "(LHiddenMoves$Side;I)J"⟩, 3) := ⟨⟨by decide +kernel, by decide +kernel⟩, lw_tt2 (List.mem_of_getElem? (i := 118) rfl), lw_tt3 (List.mem_of_getElem? (i := 182) rfl), lw_tt3 (List.mem_of_getElem? (i := 183) rfl)⟩
set_option maxRecDepth 20000 in
theorem lw_p24 : lw_okq (⟨"HiddenMoves$Way", "topOf", "(IIJ)J"⟩, 3) := ⟨⟨by decide +kernel, by decide +kernel⟩, lw_tt2 (List.mem_of_getElem? (i := 118) rfl), lw_tt3 (List.mem_of_getElem? (i := 187) rfl), lw_tt3 (List.mem_of_getElem? (i := 188) rfl)⟩
set_option maxRecDepth 20000 in
theorem lw_p25 : lw_okq (⟨"HiddenMoves", "isKnown", "(I)Z"⟩, 16) := ⟨⟨by decide +kernel, by decide +kernel⟩, lw_tt1 (List.mem_of_getElem? (i := 24) rfl), lw_tt3 (List.mem_of_getElem? (i := 203) rfl), lw_tt3 (List.mem_of_getElem? (i := 204) rfl)⟩
set_option maxRecDepth 20000 in
theorem lw_p26 : lw_okq (⟨"HiddenMoves$Ratio", "writeSize", "(LHiddenMoves$Big;[CI)I"⟩, 6) := ⟨⟨by decide +kernel, by decide +kernel⟩, lw_tt2 (List.mem_of_getElem? (i := 85) rfl), lw_tt3 (List.mem_of_getElem? (i := 211) rfl), lw_tt3 (List.mem_of_getElem? (i := 212) rfl)⟩
set_option maxRecDepth 20000 in
theorem lw_p27 : lw_okq (⟨"HiddenMoves$Big", "digit", "(I)J"⟩, 3) := ⟨⟨by decide +kernel, by decide +kernel⟩, lw_tt1 (List.mem_of_getElem? (i := 214) rfl), lw_tt3 (List.mem_of_getElem? (i := 227) rfl), lw_tt3 (List.mem_of_getElem? (i := 228) rfl)⟩
set_option maxRecDepth 20000 in
theorem lw_p28 : lw_okq (⟨"HiddenMoves$Big", "addMultiple", "(LHiddenMoves$Big;JII)V"⟩, 3) := ⟨⟨by decide +kernel, by decide +kernel⟩, lw_tt1 (List.mem_of_getElem? (i := 214) rfl), lw_tt4 (List.mem_of_getElem? (i := 16) rfl), lw_tt4 (List.mem_of_getElem? (i := 17) rfl)⟩
set_option maxRecDepth 20000 in
theorem lw_p29 : lw_okq (⟨"HiddenMoves", "getsValue", "(I)Z"⟩, 16) := ⟨⟨by decide +kernel, by decide +kernel⟩, lw_tt1 (List.mem_of_getElem? (i := 24) rfl), lw_tt4 (List.mem_of_getElem? (i := 36) rfl), lw_tt4 (List.mem_of_getElem? (i := 37) rfl)⟩
set_option maxRecDepth 20000 in
theorem lw_p30 : lw_okq (⟨"HiddenMoves$Big", "putSum", "(LHiddenMoves$Big;LHiddenMoves$Big;)V"⟩, 3) := ⟨⟨by decide +kernel, by decide +kernel⟩, lw_tt1 (List.mem_of_getElem? (i := 214) rfl), lw_tt4 (List.mem_of_getElem? (i := 54) rfl), lw_tt4 (List.mem_of_getElem? (i := 55) rfl)⟩
set_option maxRecDepth 20000 in
theorem lw_p31 : lw_okq (⟨"HiddenMoves$Reply", "gather", "(LHiddenMoves$Game;ILHiddenMoves$Mix;)V"⟩, 5) := ⟨⟨by decide +kernel, by decide +kernel⟩, lw_tt2 (List.mem_of_getElem? (i := 59) rfl), lw_tt4 (List.mem_of_getElem? (i := 67) rfl), lw_tt4 (List.mem_of_getElem? (i := 68) rfl)⟩
def lw_privs_2 : List (MethodName × Nat) := [(⟨"HiddenMoves$Reader", "finish", "()V"⟩, 13), (⟨"HiddenMoves$Reader", "findCommonNumber", "()Z"⟩, 13), (⟨"HiddenMoves$Reader", "fillWeights", "()Z"⟩, 13), (⟨"HiddenMoves", "startAnew", "()V"⟩, 16), (⟨"HiddenMoves", "isPlaying", "(I)Z"⟩, 16), (⟨"HiddenMoves", "sideOf", "(I)LHiddenMoves$Side;"⟩, 16), (⟨"HiddenMoves", "isGood", "(I)Z"⟩, 16), (⟨"HiddenMoves$Way", "bottomOf", "(LHiddenMoves$Side;I)J"⟩, 3), (⟨"HiddenMoves$Way", "topOf", "(IIJ)J"⟩, 3), (⟨"HiddenMoves", "isKnown", "(I)Z"⟩, 16), (⟨"HiddenMoves$Ratio", "writeSize", "(LHiddenMoves$Big;[CI)I"⟩, 6), (⟨"HiddenMoves$Big", "digit", "(I)J"⟩, 3), (⟨"HiddenMoves$Big", "addMultiple", "(LHiddenMoves$Big;JII)V"⟩, 3), (⟨"HiddenMoves", "getsValue", "(I)Z"⟩, 16), (⟨"HiddenMoves$Big", "putSum", "(LHiddenMoves$Big;LHiddenMoves$Big;)V"⟩, 3), (⟨"HiddenMoves$Reply", "gather", "(LHiddenMoves$Game;ILHiddenMoves$Mix;)V"⟩, 5)]
theorem lw_r2 : ∀ q ∈ lw_privs_2, lw_okq q := List.forall_mem_cons.mpr ⟨lw_p16, List.forall_mem_cons.mpr ⟨lw_p17, List.forall_mem_cons.mpr ⟨lw_p18, List.forall_mem_cons.mpr ⟨lw_p19, List.forall_mem_cons.mpr ⟨lw_p20, List.forall_mem_cons.mpr ⟨lw_p21, List.forall_mem_cons.mpr ⟨lw_p22, List.forall_mem_cons.mpr ⟨lw_p23, List.forall_mem_cons.mpr ⟨lw_p24, List.forall_mem_cons.mpr ⟨lw_p25, List.forall_mem_cons.mpr ⟨lw_p26, List.forall_mem_cons.mpr ⟨lw_p27, List.forall_mem_cons.mpr ⟨lw_p28, List.forall_mem_cons.mpr ⟨lw_p29, List.forall_mem_cons.mpr ⟨lw_p30, List.forall_mem_cons.mpr ⟨lw_p31, fun _ h => absurd h List.not_mem_nil⟩⟩⟩⟩⟩⟩⟩⟩⟩⟩⟩⟩⟩⟩⟩⟩
set_option maxRecDepth 20000 in
theorem lw_p32 : lw_okq (⟨"HiddenMoves$Reply", "bestMove", "(LHiddenMoves$Side;II)I"⟩, 5) := ⟨⟨by decide +kernel, by decide +kernel⟩, lw_tt2 (List.mem_of_getElem? (i := 59) rfl), lw_tt4 (List.mem_of_getElem? (i := 79) rfl), lw_tt4 (List.mem_of_getElem? (i := 80) rfl)⟩
set_option maxRecDepth 20000 in
theorem lw_p33 : lw_okq (⟨"HiddenMoves$Reply", "dropUnreached", "(LHiddenMoves$Side;)V"⟩, 5) := ⟨⟨by decide +kernel, by decide +kernel⟩, lw_tt2 (List.mem_of_getElem? (i := 59) rfl), lw_tt4 (List.mem_of_getElem? (i := 84) rfl), lw_tt4 (List.mem_of_getElem? (i := 85) rfl)⟩
set_option maxRecDepth 20000 in
theorem lw_p34 : lw_okq (⟨"HiddenMoves$Ratio", "shareTwos", "()V"⟩, 6) := ⟨⟨by decide +kernel, by decide +kernel⟩, lw_tt2 (List.mem_of_getElem? (i := 85) rfl), lw_tt4 (List.mem_of_getElem? (i := 103) rfl), lw_tt4 (List.mem_of_getElem? (i := 104) rfl)⟩
set_option maxRecDepth 20000 in
theorem lw_p35 : lw_okq (⟨"HiddenMoves$Ratio", "findOddDivisor", "()V"⟩, 6) := ⟨⟨by decide +kernel, by decide +kernel⟩, lw_tt2 (List.mem_of_getElem? (i := 85) rfl), lw_tt4 (List.mem_of_getElem? (i := 123) rfl), lw_tt4 (List.mem_of_getElem? (i := 124) rfl)⟩
set_option maxRecDepth 20000 in
theorem lw_p36 : lw_okq (⟨"HiddenMoves$Divider", "takeMultiple", "([IJII)V"⟩, 3) := ⟨⟨by decide +kernel, by decide +kernel⟩, lw_tt1 (List.mem_of_getElem? (i := 236) rfl), lw_tt4 (List.mem_of_getElem? (i := 144) rfl), lw_tt4 (List.mem_of_getElem? (i := 145) rfl)⟩
set_option maxRecDepth 20000 in
theorem lw_p37 : lw_okq (⟨"java/lang/Throwable", "fillInStackTrace", "(I)Ljava/lang/Throwable;"⟩, 6) := ⟨⟨by decide +kernel, by decide +kernel⟩, lw_tt4 (List.mem_of_getElem? (i := 202) rfl), lw_tt4 (List.mem_of_getElem? (i := 200) rfl), lw_tt4 (List.mem_of_getElem? (i := 201) rfl)⟩
set_option maxRecDepth 20000 in
theorem lw_p38 : lw_okq (⟨"HiddenMoves$Solver", "setUp", "(LHiddenMoves$Game;)V"⟩, 13) := ⟨⟨by decide +kernel, by decide +kernel⟩, lw_tt1 (List.mem_of_getElem? (i := 207) rfl), lw_tt5 (List.mem_of_getElem? (i := 41) rfl), lw_tt5 (List.mem_of_getElem? (i := 42) rfl)⟩
set_option maxRecDepth 20000 in
theorem lw_p39 : lw_okq (⟨"HiddenMoves$Solver", "clear", "()V"⟩, 13) := ⟨⟨by decide +kernel, by decide +kernel⟩, lw_tt1 (List.mem_of_getElem? (i := 207) rfl), lw_tt5 (List.mem_of_getElem? (i := 50) rfl), lw_tt5 (List.mem_of_getElem? (i := 51) rfl)⟩
set_option maxRecDepth 20000 in
theorem lw_p40 : lw_okq (⟨"HiddenMoves$Solver", "cell", "(II)LHiddenMoves$Big;"⟩, 13) := ⟨⟨by decide +kernel, by decide +kernel⟩, lw_tt1 (List.mem_of_getElem? (i := 207) rfl), lw_tt5 (List.mem_of_getElem? (i := 54) rfl), lw_tt5 (List.mem_of_getElem? (i := 55) rfl)⟩
set_option maxRecDepth 20000 in
theorem lw_p41 : lw_okq (⟨"HiddenMoves$Solver", "setFloors", "(LHiddenMoves$Side;J)V"⟩, 13) := ⟨⟨by decide +kernel, by decide +kernel⟩, lw_tt1 (List.mem_of_getElem? (i := 207) rfl), lw_tt5 (List.mem_of_getElem? (i := 59) rfl), lw_tt5 (List.mem_of_getElem? (i := 60) rfl)⟩
set_option maxRecDepth 20000 in
theorem lw_p42 : lw_okq (⟨"HiddenMoves$Solver", "setUpLinesOfB", "(LHiddenMoves$Game;)V"⟩, 13) := ⟨⟨by decide +kernel, by decide +kernel⟩, lw_tt1 (List.mem_of_getElem? (i := 207) rfl), lw_tt5 (List.mem_of_getElem? (i := 64) rfl), lw_tt5 (List.mem_of_getElem? (i := 65) rfl)⟩
set_option maxRecDepth 20000 in
theorem lw_p43 : lw_okq (⟨"HiddenMoves$Solver", "setUpLineOfB", "(LHiddenMoves$Game;II)V"⟩, 13) := ⟨⟨by decide +kernel, by decide +kernel⟩, lw_tt1 (List.mem_of_getElem? (i := 207) rfl), lw_tt5 (List.mem_of_getElem? (i := 68) rfl), lw_tt5 (List.mem_of_getElem? (i := 69) rfl)⟩
set_option maxRecDepth 20000 in
theorem lw_p44 : lw_okq (⟨"HiddenMoves$Solver", "setUpSetsOfA", "(LHiddenMoves$Side;)V"⟩, 13) := ⟨⟨by decide +kernel, by decide +kernel⟩, lw_tt1 (List.mem_of_getElem? (i := 207) rfl), lw_tt5 (List.mem_of_getElem? (i := 73) rfl), lw_tt5 (List.mem_of_getElem? (i := 74) rfl)⟩
set_option maxRecDepth 20000 in
theorem lw_p45 : lw_okq (⟨"HiddenMoves$Solver", "setUpGoal", "(LHiddenMoves$Game;J)V"⟩, 13) := ⟨⟨by decide +kernel, by decide +kernel⟩, lw_tt1 (List.mem_of_getElem? (i := 207) rfl), lw_tt5 (List.mem_of_getElem? (i := 77) rfl), lw_tt5 (List.mem_of_getElem? (i := 78) rfl)⟩
set_option maxRecDepth 20000 in
theorem lw_p46 : lw_okq (⟨"HiddenMoves$Solver", "entering", "()I"⟩, 13) := ⟨⟨by decide +kernel, by decide +kernel⟩, lw_tt1 (List.mem_of_getElem? (i := 207) rfl), lw_tt5 (List.mem_of_getElem? (i := 86) rfl), lw_tt5 (List.mem_of_getElem? (i := 87) rfl)⟩
set_option maxRecDepth 20000 in
theorem lw_p47 : lw_okq (⟨"HiddenMoves$Solver", "leaving", "(I)I"⟩, 13) := ⟨⟨by decide +kernel, by decide +kernel⟩, lw_tt1 (List.mem_of_getElem? (i := 207) rfl), lw_tt5 (List.mem_of_getElem? (i := 90) rfl), lw_tt5 (List.mem_of_getElem? (i := 91) rfl)⟩
def lw_privs_3 : List (MethodName × Nat) := [(⟨"HiddenMoves$Reply", "bestMove", "(LHiddenMoves$Side;II)I"⟩, 5), (⟨"HiddenMoves$Reply", "dropUnreached", "(LHiddenMoves$Side;)V"⟩, 5), (⟨"HiddenMoves$Ratio", "shareTwos", "()V"⟩, 6), (⟨"HiddenMoves$Ratio", "findOddDivisor", "()V"⟩, 6), (⟨"HiddenMoves$Divider", "takeMultiple", "([IJII)V"⟩, 3), (⟨"java/lang/Throwable", "fillInStackTrace", "(I)Ljava/lang/Throwable;"⟩, 6), (⟨"HiddenMoves$Solver", "setUp", "(LHiddenMoves$Game;)V"⟩, 13), (⟨"HiddenMoves$Solver", "clear", "()V"⟩, 13), (⟨"HiddenMoves$Solver", "cell", "(II)LHiddenMoves$Big;"⟩, 13), (⟨"HiddenMoves$Solver", "setFloors", "(LHiddenMoves$Side;J)V"⟩, 13), (⟨"HiddenMoves$Solver", "setUpLinesOfB", "(LHiddenMoves$Game;)V"⟩, 13), (⟨"HiddenMoves$Solver", "setUpLineOfB", "(LHiddenMoves$Game;II)V"⟩, 13), (⟨"HiddenMoves$Solver", "setUpSetsOfA", "(LHiddenMoves$Side;)V"⟩, 13), (⟨"HiddenMoves$Solver", "setUpGoal", "(LHiddenMoves$Game;J)V"⟩, 13), (⟨"HiddenMoves$Solver", "entering", "()I"⟩, 13), (⟨"HiddenMoves$Solver", "leaving", "(I)I"⟩, 13)]
theorem lw_r3 : ∀ q ∈ lw_privs_3, lw_okq q := List.forall_mem_cons.mpr ⟨lw_p32, List.forall_mem_cons.mpr ⟨lw_p33, List.forall_mem_cons.mpr ⟨lw_p34, List.forall_mem_cons.mpr ⟨lw_p35, List.forall_mem_cons.mpr ⟨lw_p36, List.forall_mem_cons.mpr ⟨lw_p37, List.forall_mem_cons.mpr ⟨lw_p38, List.forall_mem_cons.mpr ⟨lw_p39, List.forall_mem_cons.mpr ⟨lw_p40, List.forall_mem_cons.mpr ⟨lw_p41, List.forall_mem_cons.mpr ⟨lw_p42, List.forall_mem_cons.mpr ⟨lw_p43, List.forall_mem_cons.mpr ⟨lw_p44, List.forall_mem_cons.mpr ⟨lw_p45, List.forall_mem_cons.mpr ⟨lw_p46, List.forall_mem_cons.mpr ⟨lw_p47, fun _ h => absurd h List.not_mem_nil⟩⟩⟩⟩⟩⟩⟩⟩⟩⟩⟩⟩⟩⟩⟩⟩
set_option maxRecDepth 20000 in
theorem lw_p48 : lw_okq (⟨"HiddenMoves$Solver", "leavesBefore", "(III)Z"⟩, 13) := ⟨⟨by decide +kernel, by decide +kernel⟩, lw_tt1 (List.mem_of_getElem? (i := 207) rfl), lw_tt5 (List.mem_of_getElem? (i := 95) rfl), lw_tt5 (List.mem_of_getElem? (i := 96) rfl)⟩
set_option maxRecDepth 20000 in
theorem lw_p49 : lw_okq (⟨"HiddenMoves$Solver", "exchange", "(II)V"⟩, 13) := ⟨⟨by decide +kernel, by decide +kernel⟩, lw_tt1 (List.mem_of_getElem? (i := 207) rfl), lw_tt5 (List.mem_of_getElem? (i := 101) rfl), lw_tt5 (List.mem_of_getElem? (i := 102) rfl)⟩
set_option maxRecDepth 20000 in
theorem lw_p50 : lw_okq (⟨"HiddenMoves$Solver", "renew", "(LHiddenMoves$Big;LHiddenMoves$Big;LHiddenMoves$Big;LHiddenMoves$Big;)V"⟩, 13) := ⟨⟨by decide +kernel, by decide +kernel⟩, lw_tt1 (List.mem_of_getElem? (i := 207) rfl), lw_tt5 (List.mem_of_getElem? (i := 106) rfl), lw_tt5 (List.mem_of_getElem? (i := 107) rfl)⟩
set_option maxRecDepth 20000 in
theorem lw_p51 : lw_okq (⟨"HiddenMoves", "spreadWay", "(I)V"⟩, 16) := ⟨⟨by decide +kernel, by decide +kernel⟩, lw_tt1 (List.mem_of_getElem? (i := 24) rfl), lw_tt5 (List.mem_of_getElem? (i := 133) rfl), lw_tt5 (List.mem_of_getElem? (i := 134) rfl)⟩
set_option maxRecDepth 20000 in
theorem lw_p52 : lw_okq (⟨"HiddenMoves$Way", "spreadLine", "(LHiddenMoves$Side;ILHiddenMoves$Big;)V"⟩, 3) := ⟨⟨by decide +kernel, by decide +kernel⟩, lw_tt2 (List.mem_of_getElem? (i := 118) rfl), lw_tt5 (List.mem_of_getElem? (i := 141) rfl), lw_tt5 (List.mem_of_getElem? (i := 142) rfl)⟩
set_option maxRecDepth 20000 in
theorem lw_p53 : lw_okq (⟨"HiddenMoves$Way", "markTaken", "(LHiddenMoves$Side;I)V"⟩, 3) := ⟨⟨by decide +kernel, by decide +kernel⟩, lw_tt2 (List.mem_of_getElem? (i := 118) rfl), lw_tt5 (List.mem_of_getElem? (i := 145) rfl), lw_tt5 (List.mem_of_getElem? (i := 146) rfl)⟩
set_option maxRecDepth 20000 in
theorem lw_p54 : lw_okq (⟨"HiddenMovesModel", "cut", "()V"⟩, 58) := ⟨⟨by decide +kernel, by decide +kernel⟩, lw_tt5 (List.mem_of_getElem? (i := 168) rfl), lw_tt6 (List.mem_of_getElem? (i := 121) rfl), lw_tt6 (List.mem_of_getElem? (i := 122) rfl)⟩
set_option maxRecDepth 20000 in
theorem lw_p55 : lw_okq (⟨"HiddenMovesModel", "bad", "()I"⟩, 58) := ⟨⟨by decide +kernel, by decide +kernel⟩, lw_tt5 (List.mem_of_getElem? (i := 168) rfl), lw_tt6 (List.mem_of_getElem? (i := 131) rfl), lw_tt6 (List.mem_of_getElem? (i := 132) rfl)⟩
set_option maxRecDepth 20000 in
theorem lw_p56 : lw_okq (⟨"HiddenMovesModel", "want", "(I)V"⟩, 58) := ⟨⟨by decide +kernel, by decide +kernel⟩, lw_tt5 (List.mem_of_getElem? (i := 168) rfl), lw_tt6 (List.mem_of_getElem? (i := 135) rfl), lw_tt6 (List.mem_of_getElem? (i := 136) rfl)⟩
set_option maxRecDepth 20000 in
theorem lw_p57 : lw_okq (⟨"HiddenMovesModel", "node", "(I)Z"⟩, 58) := ⟨⟨by decide +kernel, by decide +kernel⟩, lw_tt5 (List.mem_of_getElem? (i := 168) rfl), lw_tt6 (List.mem_of_getElem? (i := 139) rfl), lw_tt6 (List.mem_of_getElem? (i := 140) rfl)⟩
set_option maxRecDepth 20000 in
theorem lw_p58 : lw_okq (⟨"HiddenMovesModel", "part", "(II)I"⟩, 58) := ⟨⟨by decide +kernel, by decide +kernel⟩, lw_tt5 (List.mem_of_getElem? (i := 168) rfl), lw_tt6 (List.mem_of_getElem? (i := 143) rfl), lw_tt6 (List.mem_of_getElem? (i := 144) rfl)⟩
set_option maxRecDepth 20000 in
theorem lw_p59 : lw_okq (⟨"HiddenMovesModel", "go", "()I"⟩, 58) := ⟨⟨by decide +kernel, by decide +kernel⟩, lw_tt5 (List.mem_of_getElem? (i := 168) rfl), lw_tt6 (List.mem_of_getElem? (i := 147) rfl), lw_tt6 (List.mem_of_getElem? (i := 148) rfl)⟩
set_option maxRecDepth 20000 in
theorem lw_p60 : lw_okq (⟨"HiddenMovesModel", "beginNode", "(JJ)V"⟩, 58) := ⟨⟨by decide +kernel, by decide +kernel⟩, lw_tt5 (List.mem_of_getElem? (i := 168) rfl), lw_tt6 (List.mem_of_getElem? (i := 151) rfl), lw_tt6 (List.mem_of_getElem? (i := 152) rfl)⟩
set_option maxRecDepth 20000 in
theorem lw_p61 : lw_okq (⟨"HiddenMovesModel", "stop", "(II)V"⟩, 58) := ⟨⟨by decide +kernel, by decide +kernel⟩, lw_tt5 (List.mem_of_getElem? (i := 168) rfl), lw_tt6 (List.mem_of_getElem? (i := 155) rfl), lw_tt6 (List.mem_of_getElem? (i := 156) rfl)⟩
set_option maxRecDepth 20000 in
theorem lw_p62 : lw_okq (⟨"HiddenMovesModel", "findSet", "(II)I"⟩, 58) := ⟨⟨by decide +kernel, by decide +kernel⟩, lw_tt5 (List.mem_of_getElem? (i := 168) rfl), lw_tt6 (List.mem_of_getElem? (i := 159) rfl), lw_tt6 (List.mem_of_getElem? (i := 160) rfl)⟩
set_option maxRecDepth 20000 in
theorem lw_p63 : lw_okq (⟨"HiddenMovesModel", "fraction", "(Z)V"⟩, 58) := ⟨⟨by decide +kernel, by decide +kernel⟩, lw_tt5 (List.mem_of_getElem? (i := 168) rfl), lw_tt6 (List.mem_of_getElem? (i := 167) rfl), lw_tt6 (List.mem_of_getElem? (i := 168) rfl)⟩
def lw_privs_4 : List (MethodName × Nat) := [(⟨"HiddenMoves$Solver", "leavesBefore", "(III)Z"⟩, 13), (⟨"HiddenMoves$Solver", "exchange", "(II)V"⟩, 13), (⟨"HiddenMoves$Solver", "renew", "(LHiddenMoves$Big;LHiddenMoves$Big;LHiddenMoves$Big;LHiddenMoves$Big;)V"⟩, 13), (⟨"HiddenMoves", "spreadWay", "(I)V"⟩, 16), (⟨"HiddenMoves$Way", "spreadLine", "(LHiddenMoves$Side;ILHiddenMoves$Big;)V"⟩, 3), (⟨"HiddenMoves$Way", "markTaken", "(LHiddenMoves$Side;I)V"⟩, 3), (⟨"HiddenMovesModel", "cut", "()V"⟩, 58), (⟨"HiddenMovesModel", "bad", "()I"⟩, 58), (⟨"HiddenMovesModel", "want", "(I)V"⟩, 58), (⟨"HiddenMovesModel", "node", "(I)Z"⟩, 58), (⟨"HiddenMovesModel", "part", "(II)I"⟩, 58), (⟨"HiddenMovesModel", "go", "()I"⟩, 58), (⟨"HiddenMovesModel", "beginNode", "(JJ)V"⟩, 58), (⟨"HiddenMovesModel", "stop", "(II)V"⟩, 58), (⟨"HiddenMovesModel", "findSet", "(II)I"⟩, 58), (⟨"HiddenMovesModel", "fraction", "(Z)V"⟩, 58)]
theorem lw_r4 : ∀ q ∈ lw_privs_4, lw_okq q := List.forall_mem_cons.mpr ⟨lw_p48, List.forall_mem_cons.mpr ⟨lw_p49, List.forall_mem_cons.mpr ⟨lw_p50, List.forall_mem_cons.mpr ⟨lw_p51, List.forall_mem_cons.mpr ⟨lw_p52, List.forall_mem_cons.mpr ⟨lw_p53, List.forall_mem_cons.mpr ⟨lw_p54, List.forall_mem_cons.mpr ⟨lw_p55, List.forall_mem_cons.mpr ⟨lw_p56, List.forall_mem_cons.mpr ⟨lw_p57, List.forall_mem_cons.mpr ⟨lw_p58, List.forall_mem_cons.mpr ⟨lw_p59, List.forall_mem_cons.mpr ⟨lw_p60, List.forall_mem_cons.mpr ⟨lw_p61, List.forall_mem_cons.mpr ⟨lw_p62, List.forall_mem_cons.mpr ⟨lw_p63, fun _ h => absurd h List.not_mem_nil⟩⟩⟩⟩⟩⟩⟩⟩⟩⟩⟩⟩⟩⟩⟩⟩
set_option maxRecDepth 20000 in
theorem lw_p64 : lw_okq (⟨"HiddenMovesModel", "end", "(JJ)V"⟩, 58) := ⟨⟨by decide +kernel, by decide +kernel⟩, lw_tt5 (List.mem_of_getElem? (i := 168) rfl), lw_tt6 (List.mem_of_getElem? (i := 171) rfl), lw_tt6 (List.mem_of_getElem? (i := 172) rfl)⟩
set_option maxRecDepth 20000 in
theorem lw_p65 : lw_okq (⟨"HiddenMovesModel", "recall", "(II)V"⟩, 58) := ⟨⟨by decide +kernel, by decide +kernel⟩, lw_tt5 (List.mem_of_getElem? (i := 168) rfl), lw_tt6 (List.mem_of_getElem? (i := 175) rfl), lw_tt6 (List.mem_of_getElem? (i := 176) rfl)⟩
set_option maxRecDepth 20000 in
theorem lw_p66 : lw_okq (⟨"HiddenMovesModel", "goOn", "(I)V"⟩, 58) := ⟨⟨by decide +kernel, by decide +kernel⟩, lw_tt5 (List.mem_of_getElem? (i := 168) rfl), lw_tt6 (List.mem_of_getElem? (i := 179) rfl), lw_tt6 (List.mem_of_getElem? (i := 180) rfl)⟩
set_option maxRecDepth 20000 in
theorem lw_p67 : lw_okq (⟨"HiddenMovesModel", "finish", "(I)V"⟩, 58) := ⟨⟨by decide +kernel, by decide +kernel⟩, lw_tt5 (List.mem_of_getElem? (i := 168) rfl), lw_tt6 (List.mem_of_getElem? (i := 183) rfl), lw_tt6 (List.mem_of_getElem? (i := 184) rfl)⟩
set_option maxRecDepth 20000 in
theorem lw_p68 : lw_okq (⟨"HiddenMovesModel", "together", "(II)V"⟩, 58) := ⟨⟨by decide +kernel, by decide +kernel⟩, lw_tt5 (List.mem_of_getElem? (i := 168) rfl), lw_tt6 (List.mem_of_getElem? (i := 187) rfl), lw_tt6 (List.mem_of_getElem? (i := 188) rfl)⟩
set_option maxRecDepth 20000 in
theorem lw_p69 : lw_okq (⟨"HiddenMovesModel", "over", "()V"⟩, 58) := ⟨⟨by decide +kernel, by decide +kernel⟩, lw_tt5 (List.mem_of_getElem? (i := 168) rfl), lw_tt6 (List.mem_of_getElem? (i := 191) rfl), lw_tt6 (List.mem_of_getElem? (i := 192) rfl)⟩
set_option maxRecDepth 20000 in
theorem lw_p70 : lw_okq (⟨"HiddenMovesModel", "plansOf", "(II)I"⟩, 58) := ⟨⟨by decide +kernel, by decide +kernel⟩, lw_tt5 (List.mem_of_getElem? (i := 168) rfl), lw_tt6 (List.mem_of_getElem? (i := 195) rfl), lw_tt6 (List.mem_of_getElem? (i := 196) rfl)⟩
set_option maxRecDepth 20000 in
theorem lw_p71 : lw_okq (⟨"HiddenMovesModel", "isPlayer", "(I)Z"⟩, 58) := ⟨⟨by decide +kernel, by decide +kernel⟩, lw_tt5 (List.mem_of_getElem? (i := 168) rfl), lw_tt6 (List.mem_of_getElem? (i := 212) rfl), lw_tt6 (List.mem_of_getElem? (i := 213) rfl)⟩
set_option maxRecDepth 20000 in
theorem lw_p72 : lw_okq (⟨"HiddenMovesModel", "setsOf", "(I)I"⟩, 58) := ⟨⟨by decide +kernel, by decide +kernel⟩, lw_tt5 (List.mem_of_getElem? (i := 168) rfl), lw_tt6 (List.mem_of_getElem? (i := 216) rfl), lw_tt6 (List.mem_of_getElem? (i := 217) rfl)⟩
set_option maxRecDepth 20000 in
theorem lw_p73 : lw_okq (⟨"HiddenMovesModel", "isSet", "(II)Z"⟩, 58) := ⟨⟨by decide +kernel, by decide +kernel⟩, lw_tt5 (List.mem_of_getElem? (i := 168) rfl), lw_tt6 (List.mem_of_getElem? (i := 224) rfl), lw_tt6 (List.mem_of_getElem? (i := 225) rfl)⟩
set_option maxRecDepth 20000 in
theorem lw_p74 : lw_okq (⟨"HiddenMovesModel", "movesOf", "(I)I"⟩, 58) := ⟨⟨by decide +kernel, by decide +kernel⟩, lw_tt5 (List.mem_of_getElem? (i := 168) rfl), lw_tt6 (List.mem_of_getElem? (i := 236) rfl), lw_tt6 (List.mem_of_getElem? (i := 237) rfl)⟩
set_option maxRecDepth 20000 in
theorem lw_p75 : lw_okq (⟨"HiddenMovesModel", "isGood", "(I)Z"⟩, 58) := ⟨⟨by decide +kernel, by decide +kernel⟩, lw_tt5 (List.mem_of_getElem? (i := 168) rfl), lw_tt7 (List.mem_of_getElem? (i := 4) rfl), lw_tt7 (List.mem_of_getElem? (i := 5) rfl)⟩
set_option maxRecDepth 20000 in
theorem lw_p76 : lw_okq (⟨"HiddenMovesModel", "expectAll", "(ZZ)V"⟩, 58) := ⟨⟨by decide +kernel, by decide +kernel⟩, lw_tt5 (List.mem_of_getElem? (i := 168) rfl), lw_tt7 (List.mem_of_getElem? (i := 12) rfl), lw_tt7 (List.mem_of_getElem? (i := 13) rfl)⟩
set_option maxRecDepth 20000 in
theorem lw_p77 : lw_okq (⟨"HiddenMovesModel", "setFraction", "(IJJ)V"⟩, 58) := ⟨⟨by decide +kernel, by decide +kernel⟩, lw_tt5 (List.mem_of_getElem? (i := 168) rfl), lw_tt7 (List.mem_of_getElem? (i := 16) rfl), lw_tt7 (List.mem_of_getElem? (i := 17) rfl)⟩
set_option maxRecDepth 20000 in
theorem lw_p78 : lw_okq (⟨"HiddenMovesModel", "bigSet", "(IJ)V"⟩, 58) := ⟨⟨by decide +kernel, by decide +kernel⟩, lw_tt5 (List.mem_of_getElem? (i := 168) rfl), lw_tt7 (List.mem_of_getElem? (i := 20) rfl), lw_tt7 (List.mem_of_getElem? (i := 21) rfl)⟩
set_option maxRecDepth 20000 in
theorem lw_p79 : lw_okq (⟨"HiddenMovesModel", "settle", "(I)V"⟩, 58) := ⟨⟨by decide +kernel, by decide +kernel⟩, lw_tt5 (List.mem_of_getElem? (i := 168) rfl), lw_tt7 (List.mem_of_getElem? (i := 29) rfl), lw_tt7 (List.mem_of_getElem? (i := 30) rfl)⟩
def lw_privs_5 : List (MethodName × Nat) := [(⟨"HiddenMovesModel", "end", "(JJ)V"⟩, 58), (⟨"HiddenMovesModel", "recall", "(II)V"⟩, 58), (⟨"HiddenMovesModel", "goOn", "(I)V"⟩, 58), (⟨"HiddenMovesModel", "finish", "(I)V"⟩, 58), (⟨"HiddenMovesModel", "together", "(II)V"⟩, 58), (⟨"HiddenMovesModel", "over", "()V"⟩, 58), (⟨"HiddenMovesModel", "plansOf", "(II)I"⟩, 58), (⟨"HiddenMovesModel", "isPlayer", "(I)Z"⟩, 58), (⟨"HiddenMovesModel", "setsOf", "(I)I"⟩, 58), (⟨"HiddenMovesModel", "isSet", "(II)Z"⟩, 58), (⟨"HiddenMovesModel", "movesOf", "(I)I"⟩, 58), (⟨"HiddenMovesModel", "isGood", "(I)Z"⟩, 58), (⟨"HiddenMovesModel", "expectAll", "(ZZ)V"⟩, 58), (⟨"HiddenMovesModel", "setFraction", "(IJJ)V"⟩, 58), (⟨"HiddenMovesModel", "bigSet", "(IJ)V"⟩, 58), (⟨"HiddenMovesModel", "settle", "(I)V"⟩, 58)]
theorem lw_r5 : ∀ q ∈ lw_privs_5, lw_okq q := List.forall_mem_cons.mpr ⟨lw_p64, List.forall_mem_cons.mpr ⟨lw_p65, List.forall_mem_cons.mpr ⟨lw_p66, List.forall_mem_cons.mpr ⟨lw_p67, List.forall_mem_cons.mpr ⟨lw_p68, List.forall_mem_cons.mpr ⟨lw_p69, List.forall_mem_cons.mpr ⟨lw_p70, List.forall_mem_cons.mpr ⟨lw_p71, List.forall_mem_cons.mpr ⟨lw_p72, List.forall_mem_cons.mpr ⟨lw_p73, List.forall_mem_cons.mpr ⟨lw_p74, List.forall_mem_cons.mpr ⟨lw_p75, List.forall_mem_cons.mpr ⟨lw_p76, List.forall_mem_cons.mpr ⟨lw_p77, List.forall_mem_cons.mpr ⟨lw_p78, List.forall_mem_cons.mpr ⟨lw_p79, fun _ h => absurd h List.not_mem_nil⟩⟩⟩⟩⟩⟩⟩⟩⟩⟩⟩⟩⟩⟩⟩⟩
set_option maxRecDepth 20000 in
theorem lw_p80 : lw_okq (⟨"HiddenMovesModel", "bigIsZero", "(I)Z"⟩, 58) := ⟨⟨by decide +kernel, by decide +kernel⟩, lw_tt5 (List.mem_of_getElem? (i := 168) rfl), lw_tt7 (List.mem_of_getElem? (i := 33) rfl), lw_tt7 (List.mem_of_getElem? (i := 34) rfl)⟩
set_option maxRecDepth 20000 in
theorem lw_p81 : lw_okq (⟨"HiddenMovesModel", "bigCopy", "(II)V"⟩, 58) := ⟨⟨by decide +kernel, by decide +kernel⟩, lw_tt5 (List.mem_of_getElem? (i := 168) rfl), lw_tt7 (List.mem_of_getElem? (i := 37) rfl), lw_tt7 (List.mem_of_getElem? (i := 38) rfl)⟩
set_option maxRecDepth 20000 in
theorem lw_p82 : lw_okq (⟨"HiddenMovesModel", "bigDivide", "(III)V"⟩, 58) := ⟨⟨by decide +kernel, by decide +kernel⟩, lw_tt5 (List.mem_of_getElem? (i := 168) rfl), lw_tt7 (List.mem_of_getElem? (i := 41) rfl), lw_tt7 (List.mem_of_getElem? (i := 42) rfl)⟩
set_option maxRecDepth 20000 in
theorem lw_p83 : lw_okq (⟨"HiddenMovesModel", "bigAt", "(II)I"⟩, 58) := ⟨⟨by decide +kernel, by decide +kernel⟩, lw_tt5 (List.mem_of_getElem? (i := 168) rfl), lw_tt7 (List.mem_of_getElem? (i := 45) rfl), lw_tt7 (List.mem_of_getElem? (i := 46) rfl)⟩
set_option maxRecDepth 20000 in
theorem lw_p84 : lw_okq (⟨"HiddenMovesModel", "bigHolds", "(III)Z"⟩, 58) := ⟨⟨by decide +kernel, by decide +kernel⟩, lw_tt5 (List.mem_of_getElem? (i := 168) rfl), lw_tt7 (List.mem_of_getElem? (i := 49) rfl), lw_tt7 (List.mem_of_getElem? (i := 50) rfl)⟩
set_option maxRecDepth 20000 in
theorem lw_p85 : lw_okq (⟨"HiddenMovesModel", "bigLose", "(IIJI)V"⟩, 58) := ⟨⟨by decide +kernel, by decide +kernel⟩, lw_tt5 (List.mem_of_getElem? (i := 168) rfl), lw_tt7 (List.mem_of_getElem? (i := 54) rfl), lw_tt7 (List.mem_of_getElem? (i := 55) rfl)⟩
set_option maxRecDepth 20000 in
theorem lw_p86 : lw_okq (⟨"HiddenMovesModel", "bigTrim", "(I)V"⟩, 58) := ⟨⟨by decide +kernel, by decide +kernel⟩, lw_tt5 (List.mem_of_getElem? (i := 168) rfl), lw_tt7 (List.mem_of_getElem? (i := 58) rfl), lw_tt7 (List.mem_of_getElem? (i := 59) rfl)⟩
set_option maxRecDepth 20000 in
theorem lw_p87 : lw_okq (⟨"HiddenMovesModel", "bigIsOne", "(I)Z"⟩, 58) := ⟨⟨by decide +kernel, by decide +kernel⟩, lw_tt5 (List.mem_of_getElem? (i := 168) rfl), lw_tt7 (List.mem_of_getElem? (i := 62) rfl), lw_tt7 (List.mem_of_getElem? (i := 63) rfl)⟩
set_option maxRecDepth 20000 in
theorem lw_p88 : lw_okq (⟨"HiddenMovesModel", "divideAll", "(II)V"⟩, 58) := ⟨⟨by decide +kernel, by decide +kernel⟩, lw_tt5 (List.mem_of_getElem? (i := 168) rfl), lw_tt7 (List.mem_of_getElem? (i := 66) rfl), lw_tt7 (List.mem_of_getElem? (i := 67) rfl)⟩
set_option maxRecDepth 20000 in
theorem lw_p89 : lw_okq (⟨"HiddenMovesModel", "times", "(IJJ)V"⟩, 58) := ⟨⟨by decide +kernel, by decide +kernel⟩, lw_tt5 (List.mem_of_getElem? (i := 168) rfl), lw_tt7 (List.mem_of_getElem? (i := 70) rfl), lw_tt7 (List.mem_of_getElem? (i := 71) rfl)⟩
set_option maxRecDepth 20000 in
theorem lw_p90 : lw_okq (⟨"HiddenMovesModel", "bigProduct", "(III)V"⟩, 58) := ⟨⟨by decide +kernel, by decide +kernel⟩, lw_tt5 (List.mem_of_getElem? (i := 168) rfl), lw_tt7 (List.mem_of_getElem? (i := 74) rfl), lw_tt7 (List.mem_of_getElem? (i := 75) rfl)⟩
set_option maxRecDepth 20000 in
theorem lw_p91 : lw_okq (⟨"HiddenMovesModel", "addFraction", "(II)V"⟩, 58) := ⟨⟨by decide +kernel, by decide +kernel⟩, lw_tt5 (List.mem_of_getElem? (i := 168) rfl), lw_tt7 (List.mem_of_getElem? (i := 78) rfl), lw_tt7 (List.mem_of_getElem? (i := 79) rfl)⟩
set_option maxRecDepth 20000 in
theorem lw_p92 : lw_okq (⟨"HiddenMovesModel", "bigAdd", "(IIZ)V"⟩, 58) := ⟨⟨by decide +kernel, by decide +kernel⟩, lw_tt5 (List.mem_of_getElem? (i := 168) rfl), lw_tt7 (List.mem_of_getElem? (i := 82) rfl), lw_tt7 (List.mem_of_getElem? (i := 83) rfl)⟩
set_option maxRecDepth 20000 in
theorem lw_p93 : lw_okq (⟨"HiddenMovesModel", "bigMore", "(II)V"⟩, 58) := ⟨⟨by decide +kernel, by decide +kernel⟩, lw_tt5 (List.mem_of_getElem? (i := 168) rfl), lw_tt7 (List.mem_of_getElem? (i := 86) rfl), lw_tt7 (List.mem_of_getElem? (i := 87) rfl)⟩
set_option maxRecDepth 20000 in
theorem lw_p94 : lw_okq (⟨"HiddenMovesModel", "bigSizes", "(II)I"⟩, 58) := ⟨⟨by decide +kernel, by decide +kernel⟩, lw_tt5 (List.mem_of_getElem? (i := 168) rfl), lw_tt7 (List.mem_of_getElem? (i := 91) rfl), lw_tt7 (List.mem_of_getElem? (i := 92) rfl)⟩
set_option maxRecDepth 20000 in
theorem lw_p95 : lw_okq (⟨"HiddenMovesModel", "bigDiffer", "(IIZ)V"⟩, 58) := ⟨⟨by decide +kernel, by decide +kernel⟩, lw_tt5 (List.mem_of_getElem? (i := 168) rfl), lw_tt7 (List.mem_of_getElem? (i := 95) rfl), lw_tt7 (List.mem_of_getElem? (i := 96) rfl)⟩
def lw_privs_6 : List (MethodName × Nat) := [(⟨"HiddenMovesModel", "bigIsZero", "(I)Z"⟩, 58), (⟨"HiddenMovesModel", "bigCopy", "(II)V"⟩, 58), (⟨"HiddenMovesModel", "bigDivide", "(III)V"⟩, 58), (⟨"HiddenMovesModel", "bigAt", "(II)I"⟩, 58), (⟨"HiddenMovesModel", "bigHolds", "(III)Z"⟩, 58), (⟨"HiddenMovesModel", "bigLose", "(IIJI)V"⟩, 58), (⟨"HiddenMovesModel", "bigTrim", "(I)V"⟩, 58), (⟨"HiddenMovesModel", "bigIsOne", "(I)Z"⟩, 58), (⟨"HiddenMovesModel", "divideAll", "(II)V"⟩, 58), (⟨"HiddenMovesModel", "times", "(IJJ)V"⟩, 58), (⟨"HiddenMovesModel", "bigProduct", "(III)V"⟩, 58), (⟨"HiddenMovesModel", "addFraction", "(II)V"⟩, 58), (⟨"HiddenMovesModel", "bigAdd", "(IIZ)V"⟩, 58), (⟨"HiddenMovesModel", "bigMore", "(II)V"⟩, 58), (⟨"HiddenMovesModel", "bigSizes", "(II)I"⟩, 58), (⟨"HiddenMovesModel", "bigDiffer", "(IIZ)V"⟩, 58)]
theorem lw_r6 : ∀ q ∈ lw_privs_6, lw_okq q := List.forall_mem_cons.mpr ⟨lw_p80, List.forall_mem_cons.mpr ⟨lw_p81, List.forall_mem_cons.mpr ⟨lw_p82, List.forall_mem_cons.mpr ⟨lw_p83, List.forall_mem_cons.mpr ⟨lw_p84, List.forall_mem_cons.mpr ⟨lw_p85, List.forall_mem_cons.mpr ⟨lw_p86, List.forall_mem_cons.mpr ⟨lw_p87, List.forall_mem_cons.mpr ⟨lw_p88, List.forall_mem_cons.mpr ⟨lw_p89, List.forall_mem_cons.mpr ⟨lw_p90, List.forall_mem_cons.mpr ⟨lw_p91, List.forall_mem_cons.mpr ⟨lw_p92, List.forall_mem_cons.mpr ⟨lw_p93, List.forall_mem_cons.mpr ⟨lw_p94, List.forall_mem_cons.mpr ⟨lw_p95, fun _ h => absurd h List.not_mem_nil⟩⟩⟩⟩⟩⟩⟩⟩⟩⟩⟩⟩⟩⟩⟩⟩
set_option maxRecDepth 20000 in
theorem lw_p96 : lw_okq (⟨"HiddenMovesModel", "keep", "(I)V"⟩, 58) := ⟨⟨by decide +kernel, by decide +kernel⟩, lw_tt5 (List.mem_of_getElem? (i := 168) rfl), lw_tt7 (List.mem_of_getElem? (i := 99) rfl), lw_tt7 (List.mem_of_getElem? (i := 100) rfl)⟩
set_option maxRecDepth 20000 in
theorem lw_p97 : lw_okq (⟨"HiddenMovesModel", "firstPlan", "(I)V"⟩, 58) := ⟨⟨by decide +kernel, by decide +kernel⟩, lw_tt5 (List.mem_of_getElem? (i := 168) rfl), lw_tt7 (List.mem_of_getElem? (i := 107) rfl), lw_tt7 (List.mem_of_getElem? (i := 108) rfl)⟩
set_option maxRecDepth 20000 in
theorem lw_p98 : lw_okq (⟨"HiddenMovesModel", "compareFractions", "(II)I"⟩, 58) := ⟨⟨by decide +kernel, by decide +kernel⟩, lw_tt5 (List.mem_of_getElem? (i := 168) rfl), lw_tt7 (List.mem_of_getElem? (i := 111) rfl), lw_tt7 (List.mem_of_getElem? (i := 112) rfl)⟩
set_option maxRecDepth 20000 in
theorem lw_p99 : lw_okq (⟨"HiddenMovesModel", "bigCompare", "(II)I"⟩, 58) := ⟨⟨by decide +kernel, by decide +kernel⟩, lw_tt5 (List.mem_of_getElem? (i := 168) rfl), lw_tt7 (List.mem_of_getElem? (i := 115) rfl), lw_tt7 (List.mem_of_getElem? (i := 116) rfl)⟩
set_option maxRecDepth 20000 in
theorem lw_p100 : lw_okq (⟨"HiddenMovesModel", "bigSign", "(I)I"⟩, 58) := ⟨⟨by decide +kernel, by decide +kernel⟩, lw_tt5 (List.mem_of_getElem? (i := 168) rfl), lw_tt7 (List.mem_of_getElem? (i := 119) rfl), lw_tt7 (List.mem_of_getElem? (i := 120) rfl)⟩
set_option maxRecDepth 20000 in
theorem lw_p101 : lw_okq (⟨"HiddenMovesModel", "nextPlan", "(I)Z"⟩, 58) := ⟨⟨by decide +kernel, by decide +kernel⟩, lw_tt5 (List.mem_of_getElem? (i := 168) rfl), lw_tt7 (List.mem_of_getElem? (i := 123) rfl), lw_tt7 (List.mem_of_getElem? (i := 124) rfl)⟩
set_option maxRecDepth 20000 in
theorem lw_p102 : lw_okq (⟨"HiddenMovesModel", "fill", "(II)J"⟩, 58) := ⟨⟨by decide +kernel, by decide +kernel⟩, lw_tt5 (List.mem_of_getElem? (i := 168) rfl), lw_tt7 (List.mem_of_getElem? (i := 135) rfl), lw_tt7 (List.mem_of_getElem? (i := 136) rfl)⟩
set_option maxRecDepth 20000 in
theorem lw_p103 : lw_okq (⟨"HiddenMovesModel", "meet", "()J"⟩, 58) := ⟨⟨by decide +kernel, by decide +kernel⟩, lw_tt5 (List.mem_of_getElem? (i := 168) rfl), lw_tt7 (List.mem_of_getElem? (i := 139) rfl), lw_tt7 (List.mem_of_getElem? (i := 140) rfl)⟩
set_option maxRecDepth 20000 in
theorem lw_p104 : lw_okq (⟨"HiddenMovesModel", "cell", "(II)I"⟩, 58) := ⟨⟨by decide +kernel, by decide +kernel⟩, lw_tt5 (List.mem_of_getElem? (i := 168) rfl), lw_tt7 (List.mem_of_getElem? (i := 143) rfl), lw_tt7 (List.mem_of_getElem? (i := 144) rfl)⟩
set_option maxRecDepth 20000 in
theorem lw_p105 : lw_okq (⟨"HiddenMovesModel", "work", "(II)V"⟩, 58) := ⟨⟨by decide +kernel, by decide +kernel⟩, lw_tt5 (List.mem_of_getElem? (i := 168) rfl), lw_tt7 (List.mem_of_getElem? (i := 147) rfl), lw_tt7 (List.mem_of_getElem? (i := 148) rfl)⟩
set_option maxRecDepth 20000 in
theorem lw_p106 : lw_okq (⟨"HiddenMovesModel", "gaining", "(II)I"⟩, 58) := ⟨⟨by decide +kernel, by decide +kernel⟩, lw_tt5 (List.mem_of_getElem? (i := 168) rfl), lw_tt7 (List.mem_of_getElem? (i := 152) rfl), lw_tt7 (List.mem_of_getElem? (i := 153) rfl)⟩
set_option maxRecDepth 20000 in
theorem lw_p107 : lw_okq (⟨"HiddenMovesModel", "rowFor", "(III)I"⟩, 58) := ⟨⟨by decide +kernel, by decide +kernel⟩, lw_tt5 (List.mem_of_getElem? (i := 168) rfl), lw_tt7 (List.mem_of_getElem? (i := 156) rfl), lw_tt7 (List.mem_of_getElem? (i := 157) rfl)⟩
set_option maxRecDepth 20000 in
theorem lw_p108 : lw_okq (⟨"HiddenMovesModel", "exchange", "(IIII)V"⟩, 58) := ⟨⟨by decide +kernel, by decide +kernel⟩, lw_tt5 (List.mem_of_getElem? (i := 168) rfl), lw_tt7 (List.mem_of_getElem? (i := 160) rfl), lw_tt7 (List.mem_of_getElem? (i := 161) rfl)⟩
set_option maxRecDepth 20000 in
theorem lw_p109 : lw_okq (⟨"HiddenMovesModel", "exchangeCell", "(III)V"⟩, 58) := ⟨⟨by decide +kernel, by decide +kernel⟩, lw_tt5 (List.mem_of_getElem? (i := 168) rfl), lw_tt7 (List.mem_of_getElem? (i := 164) rfl), lw_tt7 (List.mem_of_getElem? (i := 165) rfl)⟩
set_option maxRecDepth 20000 in
theorem lw_p110 : lw_okq (⟨"HiddenMovesModel", "turnSign", "(I)V"⟩, 58) := ⟨⟨by decide +kernel, by decide +kernel⟩, lw_tt5 (List.mem_of_getElem? (i := 168) rfl), lw_tt7 (List.mem_of_getElem? (i := 168) rfl), lw_tt7 (List.mem_of_getElem? (i := 169) rfl)⟩
set_option maxRecDepth 20000 in
theorem lw_p111 : lw_okq (⟨"HiddenMovesModel", "has", "(I)Z"⟩, 58) := ⟨⟨by decide +kernel, by decide +kernel⟩, lw_tt5 (List.mem_of_getElem? (i := 168) rfl), lw_tt7 (List.mem_of_getElem? (i := 176) rfl), lw_tt7 (List.mem_of_getElem? (i := 177) rfl)⟩
def lw_privs_7 : List (MethodName × Nat) := [(⟨"HiddenMovesModel", "keep", "(I)V"⟩, 58), (⟨"HiddenMovesModel", "firstPlan", "(I)V"⟩, 58), (⟨"HiddenMovesModel", "compareFractions", "(II)I"⟩, 58), (⟨"HiddenMovesModel", "bigCompare", "(II)I"⟩, 58), (⟨"HiddenMovesModel", "bigSign", "(I)I"⟩, 58), (⟨"HiddenMovesModel", "nextPlan", "(I)Z"⟩, 58), (⟨"HiddenMovesModel", "fill", "(II)J"⟩, 58), (⟨"HiddenMovesModel", "meet", "()J"⟩, 58), (⟨"HiddenMovesModel", "cell", "(II)I"⟩, 58), (⟨"HiddenMovesModel", "work", "(II)V"⟩, 58), (⟨"HiddenMovesModel", "gaining", "(II)I"⟩, 58), (⟨"HiddenMovesModel", "rowFor", "(III)I"⟩, 58), (⟨"HiddenMovesModel", "exchange", "(IIII)V"⟩, 58), (⟨"HiddenMovesModel", "exchangeCell", "(III)V"⟩, 58), (⟨"HiddenMovesModel", "turnSign", "(I)V"⟩, 58), (⟨"HiddenMovesModel", "has", "(I)Z"⟩, 58)]
theorem lw_r7 : ∀ q ∈ lw_privs_7, lw_okq q := List.forall_mem_cons.mpr ⟨lw_p96, List.forall_mem_cons.mpr ⟨lw_p97, List.forall_mem_cons.mpr ⟨lw_p98, List.forall_mem_cons.mpr ⟨lw_p99, List.forall_mem_cons.mpr ⟨lw_p100, List.forall_mem_cons.mpr ⟨lw_p101, List.forall_mem_cons.mpr ⟨lw_p102, List.forall_mem_cons.mpr ⟨lw_p103, List.forall_mem_cons.mpr ⟨lw_p104, List.forall_mem_cons.mpr ⟨lw_p105, List.forall_mem_cons.mpr ⟨lw_p106, List.forall_mem_cons.mpr ⟨lw_p107, List.forall_mem_cons.mpr ⟨lw_p108, List.forall_mem_cons.mpr ⟨lw_p109, List.forall_mem_cons.mpr ⟨lw_p110, List.forall_mem_cons.mpr ⟨lw_p111, fun _ h => absurd h List.not_mem_nil⟩⟩⟩⟩⟩⟩⟩⟩⟩⟩⟩⟩⟩⟩⟩⟩
set_option maxRecDepth 20000 in
theorem lw_p112 : lw_okq (⟨"HiddenMovesModel", "say", "(I)V"⟩, 58) := ⟨⟨by decide +kernel, by decide +kernel⟩, lw_tt5 (List.mem_of_getElem? (i := 168) rfl), lw_tt7 (List.mem_of_getElem? (i := 180) rfl), lw_tt7 (List.mem_of_getElem? (i := 181) rfl)⟩
set_option maxRecDepth 20000 in
theorem lw_p113 : lw_okq (⟨"HiddenMovesModel", "bigTenth", "(I)I"⟩, 58) := ⟨⟨by decide +kernel, by decide +kernel⟩, lw_tt5 (List.mem_of_getElem? (i := 168) rfl), lw_tt7 (List.mem_of_getElem? (i := 184) rfl), lw_tt7 (List.mem_of_getElem? (i := 185) rfl)⟩
def lw_privs_8 : List (MethodName × Nat) := [(⟨"HiddenMovesModel", "say", "(I)V"⟩, 58), (⟨"HiddenMovesModel", "bigTenth", "(I)I"⟩, 58)]
theorem lw_r8 : ∀ q ∈ lw_privs_8, lw_okq q := List.forall_mem_cons.mpr ⟨lw_p112, List.forall_mem_cons.mpr ⟨lw_p113, fun _ h => absurd h List.not_mem_nil⟩⟩
def lw_privs : List (MethodName × Nat) := lw_privs_1 ++ (lw_privs_2 ++ (lw_privs_3 ++ (lw_privs_4 ++ (lw_privs_5 ++ (lw_privs_6 ++ (lw_privs_7 ++ (lw_privs_8)))))))
def lw_tbl : List Cond := k2_sels lw_privs ++ tables_1
set_option maxRecDepth 20000 in
theorem lw_privs_ok : ∀ q ∈ lw_privs, lw_okq q := by
  show ∀ q ∈ lw_privs_1 ++ (lw_privs_2 ++ (lw_privs_3 ++ (lw_privs_4 ++ (lw_privs_5 ++ (lw_privs_6 ++ (lw_privs_7 ++ (lw_privs_8))))))), lw_okq q
  exact List.forall_mem_append.mpr ⟨lw_r1, List.forall_mem_append.mpr ⟨lw_r2, List.forall_mem_append.mpr ⟨lw_r3, List.forall_mem_append.mpr ⟨lw_r4, List.forall_mem_append.mpr ⟨lw_r5, List.forall_mem_append.mpr ⟨lw_r6, List.forall_mem_append.mpr ⟨lw_r7, lw_r8⟩⟩⟩⟩⟩⟩⟩
