section
-- ===== PART A: goes FIRST, ahead of the names: the tables' words, and 'selects' of the private methods out of them =====
/-- a private method of a class that the tables say can be made, by its rows of tables_1 -/
def lw_okq (q : MethodName × Nat) : Prop := (q.1.cls ≠ "java/lang/invoke/MethodHandle" ∧ q.1.cls ≠ "java/lang/invoke/VarHandle") ∧ Cond.instantiable q.1.cls q.2 ∈ tables_1 ∧ Cond.privateMethod q.1 ∈ tables_1 ∧ Cond.instanceMethod q.1 ∈ tables_1
theorem lw_p0 : lw_okq (⟨"KindDesk$Kinds", "addKind", "()I"⟩, 4) := ⟨⟨by decide +kernel, by decide +kernel⟩, List.mem_of_getElem? (i := 39) (by decide +kernel), List.mem_of_getElem? (i := 194) (by decide +kernel), List.mem_of_getElem? (i := 195) (by decide +kernel)⟩
theorem lw_p1 : lw_okq (⟨"KindDesk$Row", "add", "(I)Z"⟩, 2) := ⟨⟨by decide +kernel, by decide +kernel⟩, List.mem_of_getElem? (i := 21) (by decide +kernel), List.mem_of_getElem? (i := 202) (by decide +kernel), List.mem_of_getElem? (i := 203) (by decide +kernel)⟩
theorem lw_p2 : lw_okq (⟨"KindDesk$Kinds", "takes", "(IILKindDesk$Row;)Z"⟩, 4) := ⟨⟨by decide +kernel, by decide +kernel⟩, List.mem_of_getElem? (i := 39) (by decide +kernel), List.mem_of_getElem? (i := 210) (by decide +kernel), List.mem_of_getElem? (i := 211) (by decide +kernel)⟩
theorem lw_p3 : lw_okq (⟨"KindDesk$Kinds", "has", "(I)Z"⟩, 4) := ⟨⟨by decide +kernel, by decide +kernel⟩, List.mem_of_getElem? (i := 39) (by decide +kernel), List.mem_of_getElem? (i := 214) (by decide +kernel), List.mem_of_getElem? (i := 215) (by decide +kernel)⟩
theorem lw_p4 : lw_okq (⟨"KindDesk$Row", "isBelow", "(I)Z"⟩, 2) := ⟨⟨by decide +kernel, by decide +kernel⟩, List.mem_of_getElem? (i := 21) (by decide +kernel), List.mem_of_getElem? (i := 221) (by decide +kernel), List.mem_of_getElem? (i := 222) (by decide +kernel)⟩
theorem lw_p5 : lw_okq (⟨"KindDesk$Kinds", "search", "(III)I"⟩, 4) := ⟨⟨by decide +kernel, by decide +kernel⟩, List.mem_of_getElem? (i := 39) (by decide +kernel), List.mem_of_getElem? (i := 225) (by decide +kernel), List.mem_of_getElem? (i := 226) (by decide +kernel)⟩
theorem lw_p6 : lw_okq (⟨"KindDesk$Kinds", "kindOf", "(I)I"⟩, 4) := ⟨⟨by decide +kernel, by decide +kernel⟩, List.mem_of_getElem? (i := 39) (by decide +kernel), List.mem_of_getElem? (i := 229) (by decide +kernel), List.mem_of_getElem? (i := 230) (by decide +kernel)⟩
theorem lw_p7 : lw_okq (⟨"KindDesk$Kinds", "isConstructor", "(I)Z"⟩, 4) := ⟨⟨by decide +kernel, by decide +kernel⟩, List.mem_of_getElem? (i := 39) (by decide +kernel), List.mem_of_getElem? (i := 233) (by decide +kernel), List.mem_of_getElem? (i := 234) (by decide +kernel)⟩
theorem lw_p8 : lw_okq (⟨"KindDesk$Kinds", "nameOf", "(I)I"⟩, 4) := ⟨⟨by decide +kernel, by decide +kernel⟩, List.mem_of_getElem? (i := 39) (by decide +kernel), List.mem_of_getElem? (i := 237) (by decide +kernel), List.mem_of_getElem? (i := 238) (by decide +kernel)⟩
theorem lw_p9 : lw_okq (⟨"KindDesk$Table", "length", "(I)I"⟩, 3) := ⟨⟨by decide +kernel, by decide +kernel⟩, List.mem_of_getElem? (i := 45) (by decide +kernel), List.mem_of_getElem? (i := 241) (by decide +kernel), List.mem_of_getElem? (i := 242) (by decide +kernel)⟩
theorem lw_p10 : lw_okq (⟨"KindDesk$Kinds", "addConstructor", "(IILKindDesk$Row;)I"⟩, 4) := ⟨⟨by decide +kernel, by decide +kernel⟩, List.mem_of_getElem? (i := 39) (by decide +kernel), List.mem_of_getElem? (i := 245) (by decide +kernel), List.mem_of_getElem? (i := 246) (by decide +kernel)⟩
theorem lw_p11 : lw_okq (⟨"KindDesk$Table", "open", "()I"⟩, 3) := ⟨⟨by decide +kernel, by decide +kernel⟩, List.mem_of_getElem? (i := 45) (by decide +kernel), List.mem_of_getElem? (i := 249) (by decide +kernel), List.mem_of_getElem? (i := 250) (by decide +kernel)⟩
theorem lw_p12 : lw_okq (⟨"KindDesk$Table", "appendAll", "(LKindDesk$Row;)V"⟩, 3) := ⟨⟨by decide +kernel, by decide +kernel⟩, List.mem_of_getElem? (i := 45) (by decide +kernel), List.mem_of_getElem? (i := 253) (by decide +kernel), List.mem_of_getElem? (i := 254) (by decide +kernel)⟩
theorem lw_p13 : lw_okq (⟨"KindDesk$Table", "append", "(I)V"⟩, 3) := ⟨⟨by decide +kernel, by decide +kernel⟩, List.mem_of_getElem? (i := 45) (by decide +kernel), List.mem_of_getElem? (i := 257) (by decide +kernel), List.mem_of_getElem? (i := 258) (by decide +kernel)⟩
theorem lw_p14 : lw_okq (⟨"KindDesk$Row", "clear", "()V"⟩, 2) := ⟨⟨by decide +kernel, by decide +kernel⟩, List.mem_of_getElem? (i := 21) (by decide +kernel), List.mem_of_getElem? (i := 261) (by decide +kernel), List.mem_of_getElem? (i := 262) (by decide +kernel)⟩
theorem lw_p15 : lw_okq (⟨"KindDesk$Kinds", "count", "()I"⟩, 4) := ⟨⟨by decide +kernel, by decide +kernel⟩, List.mem_of_getElem? (i := 39) (by decide +kernel), List.mem_of_getElem? (i := 269) (by decide +kernel), List.mem_of_getElem? (i := 270) (by decide +kernel)⟩
def lw_privs_1 : List (MethodName × Nat) := [(⟨"KindDesk$Kinds", "addKind", "()I"⟩, 4), (⟨"KindDesk$Row", "add", "(I)Z"⟩, 2), (⟨"KindDesk$Kinds", "takes", "(IILKindDesk$Row;)Z"⟩, 4), (⟨"KindDesk$Kinds", "has", "(I)Z"⟩, 4), (⟨"KindDesk$Row", "isBelow", "(I)Z"⟩, 2), (⟨"KindDesk$Kinds", "search", "(III)I"⟩, 4), (⟨"KindDesk$Kinds", "kindOf", "(I)I"⟩, 4), (⟨"KindDesk$Kinds", "isConstructor", "(I)Z"⟩, 4), (⟨"KindDesk$Kinds", "nameOf", "(I)I"⟩, 4), (⟨"KindDesk$Table", "length", "(I)I"⟩, 3), (⟨"KindDesk$Kinds", "addConstructor", "(IILKindDesk$Row;)I"⟩, 4), (⟨"KindDesk$Table", "open", "()I"⟩, 3), (⟨"KindDesk$Table", "appendAll", "(LKindDesk$Row;)V"⟩, 3), (⟨"KindDesk$Table", "append", "(I)V"⟩, 3), (⟨"KindDesk$Row", "clear", "()V"⟩, 2), (⟨"KindDesk$Kinds", "count", "()I"⟩, 4)]
theorem lw_r1 : ∀ q ∈ lw_privs_1, lw_okq q := List.forall_mem_cons.mpr ⟨lw_p0, List.forall_mem_cons.mpr ⟨lw_p1, List.forall_mem_cons.mpr ⟨lw_p2, List.forall_mem_cons.mpr ⟨lw_p3, List.forall_mem_cons.mpr ⟨lw_p4, List.forall_mem_cons.mpr ⟨lw_p5, List.forall_mem_cons.mpr ⟨lw_p6, List.forall_mem_cons.mpr ⟨lw_p7, List.forall_mem_cons.mpr ⟨lw_p8, List.forall_mem_cons.mpr ⟨lw_p9, List.forall_mem_cons.mpr ⟨lw_p10, List.forall_mem_cons.mpr ⟨lw_p11, List.forall_mem_cons.mpr ⟨lw_p12, List.forall_mem_cons.mpr ⟨lw_p13, List.forall_mem_cons.mpr ⟨lw_p14, List.forall_mem_cons.mpr ⟨lw_p15, fun _ h => absurd h List.not_mem_nil⟩⟩⟩⟩⟩⟩⟩⟩⟩⟩⟩⟩⟩⟩⟩⟩
theorem lw_p16 : lw_okq (⟨"KindDesk$Demands", "clear", "()V"⟩, 3) := ⟨⟨by decide +kernel, by decide +kernel⟩, List.mem_of_getElem? (i := 84) (by decide +kernel), List.mem_of_getElem? (i := 280) (by decide +kernel), List.mem_of_getElem? (i := 281) (by decide +kernel)⟩
theorem lw_p17 : lw_okq (⟨"KindDesk$Solver", "forget", "()V"⟩, 8) := ⟨⟨by decide +kernel, by decide +kernel⟩, List.mem_of_getElem? (i := 104) (by decide +kernel), List.mem_of_getElem? (i := 284) (by decide +kernel), List.mem_of_getElem? (i := 285) (by decide +kernel)⟩
theorem lw_p18 : lw_okq (⟨"KindDesk$Findings", "forget", "()V"⟩, 3) := ⟨⟨by decide +kernel, by decide +kernel⟩, List.mem_of_getElem? (i := 155) (by decide +kernel), List.mem_of_getElem? (i := 288) (by decide +kernel), List.mem_of_getElem? (i := 289) (by decide +kernel)⟩
theorem lw_p19 : lw_okq (⟨"KindDesk$Demands", "add", "(III)I"⟩, 3) := ⟨⟨by decide +kernel, by decide +kernel⟩, List.mem_of_getElem? (i := 84) (by decide +kernel), List.mem_of_getElem? (i := 299) (by decide +kernel), List.mem_of_getElem? (i := 300) (by decide +kernel)⟩
theorem lw_p20 : lw_okq (⟨"KindDesk$Solver", "run", "()I"⟩, 8) := ⟨⟨by decide +kernel, by decide +kernel⟩, List.mem_of_getElem? (i := 104) (by decide +kernel), List.mem_of_getElem? (i := 327) (by decide +kernel), List.mem_of_getElem? (i := 328) (by decide +kernel)⟩
theorem lw_p21 : lw_okq (⟨"KindDesk$Solver", "begin", "()V"⟩, 8) := ⟨⟨by decide +kernel, by decide +kernel⟩, List.mem_of_getElem? (i := 104) (by decide +kernel), List.mem_of_getElem? (i := 331) (by decide +kernel), List.mem_of_getElem? (i := 332) (by decide +kernel)⟩
theorem lw_p22 : lw_okq (⟨"KindDesk$Groups", "scatter", "()V"⟩, 3) := ⟨⟨by decide +kernel, by decide +kernel⟩, List.mem_of_getElem? (i := 110) (by decide +kernel), List.mem_of_getElem? (i := 335) (by decide +kernel), List.mem_of_getElem? (i := 336) (by decide +kernel)⟩
theorem lw_p23 : lw_okq (⟨"KindDesk$Solver", "changes", "()I"⟩, 8) := ⟨⟨by decide +kernel, by decide +kernel⟩, List.mem_of_getElem? (i := 104) (by decide +kernel), List.mem_of_getElem? (i := 343) (by decide +kernel), List.mem_of_getElem? (i := 344) (by decide +kernel)⟩
theorem lw_p24 : lw_okq (⟨"KindDesk$Solver", "goRound", "()I"⟩, 8) := ⟨⟨by decide +kernel, by decide +kernel⟩, List.mem_of_getElem? (i := 104) (by decide +kernel), List.mem_of_getElem? (i := 347) (by decide +kernel), List.mem_of_getElem? (i := 348) (by decide +kernel)⟩
theorem lw_p25 : lw_okq (⟨"KindDesk$Demands", "count", "()I"⟩, 3) := ⟨⟨by decide +kernel, by decide +kernel⟩, List.mem_of_getElem? (i := 84) (by decide +kernel), List.mem_of_getElem? (i := 351) (by decide +kernel), List.mem_of_getElem? (i := 352) (by decide +kernel)⟩
theorem lw_p26 : lw_okq (⟨"KindDesk$Solver", "meet", "(I)Z"⟩, 8) := ⟨⟨by decide +kernel, by decide +kernel⟩, List.mem_of_getElem? (i := 104) (by decide +kernel), List.mem_of_getElem? (i := 355) (by decide +kernel), List.mem_of_getElem? (i := 356) (by decide +kernel)⟩
theorem lw_p27 : lw_okq (⟨"KindDesk$Demands", "sortOf", "(I)I"⟩, 3) := ⟨⟨by decide +kernel, by decide +kernel⟩, List.mem_of_getElem? (i := 84) (by decide +kernel), List.mem_of_getElem? (i := 359) (by decide +kernel), List.mem_of_getElem? (i := 360) (by decide +kernel)⟩
theorem lw_p28 : lw_okq (⟨"KindDesk$Table", "at", "(II)I"⟩, 3) := ⟨⟨by decide +kernel, by decide +kernel⟩, List.mem_of_getElem? (i := 45) (by decide +kernel), List.mem_of_getElem? (i := 363) (by decide +kernel), List.mem_of_getElem? (i := 364) (by decide +kernel)⟩
theorem lw_p29 : lw_okq (⟨"KindDesk$Groups", "give", "(II)Z"⟩, 3) := ⟨⟨by decide +kernel, by decide +kernel⟩, List.mem_of_getElem? (i := 110) (by decide +kernel), List.mem_of_getElem? (i := 367) (by decide +kernel), List.mem_of_getElem? (i := 368) (by decide +kernel)⟩
theorem lw_p30 : lw_okq (⟨"KindDesk$Groups", "join", "(II)Z"⟩, 3) := ⟨⟨by decide +kernel, by decide +kernel⟩, List.mem_of_getElem? (i := 110) (by decide +kernel), List.mem_of_getElem? (i := 372) (by decide +kernel), List.mem_of_getElem? (i := 373) (by decide +kernel)⟩
theorem lw_p31 : lw_okq (⟨"KindDesk$Demands", "subjectOf", "(I)I"⟩, 3) := ⟨⟨by decide +kernel, by decide +kernel⟩, List.mem_of_getElem? (i := 84) (by decide +kernel), List.mem_of_getElem? (i := 376) (by decide +kernel), List.mem_of_getElem? (i := 377) (by decide +kernel)⟩
def lw_privs_2 : List (MethodName × Nat) := [(⟨"KindDesk$Demands", "clear", "()V"⟩, 3), (⟨"KindDesk$Solver", "forget", "()V"⟩, 8), (⟨"KindDesk$Findings", "forget", "()V"⟩, 3), (⟨"KindDesk$Demands", "add", "(III)I"⟩, 3), (⟨"KindDesk$Solver", "run", "()I"⟩, 8), (⟨"KindDesk$Solver", "begin", "()V"⟩, 8), (⟨"KindDesk$Groups", "scatter", "()V"⟩, 3), (⟨"KindDesk$Solver", "changes", "()I"⟩, 8), (⟨"KindDesk$Solver", "goRound", "()I"⟩, 8), (⟨"KindDesk$Demands", "count", "()I"⟩, 3), (⟨"KindDesk$Solver", "meet", "(I)Z"⟩, 8), (⟨"KindDesk$Demands", "sortOf", "(I)I"⟩, 3), (⟨"KindDesk$Table", "at", "(II)I"⟩, 3), (⟨"KindDesk$Groups", "give", "(II)Z"⟩, 3), (⟨"KindDesk$Groups", "join", "(II)Z"⟩, 3), (⟨"KindDesk$Demands", "subjectOf", "(I)I"⟩, 3)]
theorem lw_r2 : ∀ q ∈ lw_privs_2, lw_okq q := List.forall_mem_cons.mpr ⟨lw_p16, List.forall_mem_cons.mpr ⟨lw_p17, List.forall_mem_cons.mpr ⟨lw_p18, List.forall_mem_cons.mpr ⟨lw_p19, List.forall_mem_cons.mpr ⟨lw_p20, List.forall_mem_cons.mpr ⟨lw_p21, List.forall_mem_cons.mpr ⟨lw_p22, List.forall_mem_cons.mpr ⟨lw_p23, List.forall_mem_cons.mpr ⟨lw_p24, List.forall_mem_cons.mpr ⟨lw_p25, List.forall_mem_cons.mpr ⟨lw_p26, List.forall_mem_cons.mpr ⟨lw_p27, List.forall_mem_cons.mpr ⟨lw_p28, List.forall_mem_cons.mpr ⟨lw_p29, List.forall_mem_cons.mpr ⟨lw_p30, List.forall_mem_cons.mpr ⟨lw_p31, fun _ h => absurd h List.not_mem_nil⟩⟩⟩⟩⟩⟩⟩⟩⟩⟩⟩⟩⟩⟩⟩⟩
theorem lw_p32 : lw_okq (⟨"KindDesk$Solver", "giveAll", "(IILKindDesk$Table;I)Z"⟩, 8) := ⟨⟨by decide +kernel, by decide +kernel⟩, List.mem_of_getElem? (i := 104) (by decide +kernel), List.mem_of_getElem? (i := 380) (by decide +kernel), List.mem_of_getElem? (i := 381) (by decide +kernel)⟩
theorem lw_p33 : lw_okq (⟨"KindDesk$Solver", "meaningOf", "(I)I"⟩, 8) := ⟨⟨by decide +kernel, by decide +kernel⟩, List.mem_of_getElem? (i := 104) (by decide +kernel), List.mem_of_getElem? (i := 385) (by decide +kernel), List.mem_of_getElem? (i := 386) (by decide +kernel)⟩
theorem lw_p34 : lw_okq (⟨"KindDesk$Solver", "meetForm", "(I)Z"⟩, 8) := ⟨⟨by decide +kernel, by decide +kernel⟩, List.mem_of_getElem? (i := 104) (by decide +kernel), List.mem_of_getElem? (i := 390) (by decide +kernel), List.mem_of_getElem? (i := 391) (by decide +kernel)⟩
theorem lw_p35 : lw_okq (⟨"KindDesk$Solver", "fits", "(II)Z"⟩, 8) := ⟨⟨by decide +kernel, by decide +kernel⟩, List.mem_of_getElem? (i := 104) (by decide +kernel), List.mem_of_getElem? (i := 394) (by decide +kernel), List.mem_of_getElem? (i := 395) (by decide +kernel)⟩
theorem lw_p36 : lw_okq (⟨"KindDesk$Groups", "allows", "(II)Z"⟩, 3) := ⟨⟨by decide +kernel, by decide +kernel⟩, List.mem_of_getElem? (i := 110) (by decide +kernel), List.mem_of_getElem? (i := 400) (by decide +kernel), List.mem_of_getElem? (i := 401) (by decide +kernel)⟩
theorem lw_p37 : lw_okq (⟨"KindDesk$Solver", "firstWaiting", "()I"⟩, 8) := ⟨⟨by decide +kernel, by decide +kernel⟩, List.mem_of_getElem? (i := 104) (by decide +kernel), List.mem_of_getElem? (i := 404) (by decide +kernel), List.mem_of_getElem? (i := 405) (by decide +kernel)⟩
theorem lw_p38 : lw_okq (⟨"KindDesk$Solver", "leastWithoutKind", "()I"⟩, 8) := ⟨⟨by decide +kernel, by decide +kernel⟩, List.mem_of_getElem? (i := 104) (by decide +kernel), List.mem_of_getElem? (i := 408) (by decide +kernel), List.mem_of_getElem? (i := 409) (by decide +kernel)⟩
theorem lw_p39 : lw_okq (⟨"KindDesk$Groups", "kindOf", "(I)I"⟩, 3) := ⟨⟨by decide +kernel, by decide +kernel⟩, List.mem_of_getElem? (i := 110) (by decide +kernel), List.mem_of_getElem? (i := 412) (by decide +kernel), List.mem_of_getElem? (i := 413) (by decide +kernel)⟩
theorem lw_p40 : lw_okq (⟨"KindDesk$Findings", "keep", "(LKindDesk$Solver;)V"⟩, 3) := ⟨⟨by decide +kernel, by decide +kernel⟩, List.mem_of_getElem? (i := 155) (by decide +kernel), List.mem_of_getElem? (i := 419) (by decide +kernel), List.mem_of_getElem? (i := 420) (by decide +kernel)⟩
theorem lw_p41 : lw_okq (⟨"KindDesk$Findings", "kindOf", "(I)I"⟩, 3) := ⟨⟨by decide +kernel, by decide +kernel⟩, List.mem_of_getElem? (i := 155) (by decide +kernel), List.mem_of_getElem? (i := 433) (by decide +kernel), List.mem_of_getElem? (i := 434) (by decide +kernel)⟩
theorem lw_p42 : lw_okq (⟨"KindDesk$Findings", "meaningOf", "(I)I"⟩, 3) := ⟨⟨by decide +kernel, by decide +kernel⟩, List.mem_of_getElem? (i := 155) (by decide +kernel), List.mem_of_getElem? (i := 442) (by decide +kernel), List.mem_of_getElem? (i := 443) (by decide +kernel)⟩
theorem lw_p43 : lw_okq (⟨"KindDesk$Kinds", "constructorsOf", "(I)I"⟩, 4) := ⟨⟨by decide +kernel, by decide +kernel⟩, List.mem_of_getElem? (i := 39) (by decide +kernel), List.mem_of_getElem? (i := 459) (by decide +kernel), List.mem_of_getElem? (i := 460) (by decide +kernel)⟩
theorem lw_p44 : lw_okq (⟨"KindDesk$Kinds", "pick", "(II)I"⟩, 4) := ⟨⟨by decide +kernel, by decide +kernel⟩, List.mem_of_getElem? (i := 39) (by decide +kernel), List.mem_of_getElem? (i := 467) (by decide +kernel), List.mem_of_getElem? (i := 468) (by decide +kernel)⟩
theorem lw_p45 : lw_okq (⟨"KindDeskModel", "forget", "()V"⟩, 27) := ⟨⟨by decide +kernel, by decide +kernel⟩, List.mem_of_getElem? (i := 476) (by decide +kernel), List.mem_of_getElem? (i := 482) (by decide +kernel), List.mem_of_getElem? (i := 483) (by decide +kernel)⟩
theorem lw_p46 : lw_okq (⟨"KindDeskModel", "taken", "()I"⟩, 27) := ⟨⟨by decide +kernel, by decide +kernel⟩, List.mem_of_getElem? (i := 476) (by decide +kernel), List.mem_of_getElem? (i := 580) (by decide +kernel), List.mem_of_getElem? (i := 581) (by decide +kernel)⟩
theorem lw_p47 : lw_okq (⟨"KindDeskModel", "isType", "(I)Z"⟩, 27) := ⟨⟨by decide +kernel, by decide +kernel⟩, List.mem_of_getElem? (i := 476) (by decide +kernel), List.mem_of_getElem? (i := 584) (by decide +kernel), List.mem_of_getElem? (i := 585) (by decide +kernel)⟩
def lw_privs_3 : List (MethodName × Nat) := [(⟨"KindDesk$Solver", "giveAll", "(IILKindDesk$Table;I)Z"⟩, 8), (⟨"KindDesk$Solver", "meaningOf", "(I)I"⟩, 8), (⟨"KindDesk$Solver", "meetForm", "(I)Z"⟩, 8), (⟨"KindDesk$Solver", "fits", "(II)Z"⟩, 8), (⟨"KindDesk$Groups", "allows", "(II)Z"⟩, 3), (⟨"KindDesk$Solver", "firstWaiting", "()I"⟩, 8), (⟨"KindDesk$Solver", "leastWithoutKind", "()I"⟩, 8), (⟨"KindDesk$Groups", "kindOf", "(I)I"⟩, 3), (⟨"KindDesk$Findings", "keep", "(LKindDesk$Solver;)V"⟩, 3), (⟨"KindDesk$Findings", "kindOf", "(I)I"⟩, 3), (⟨"KindDesk$Findings", "meaningOf", "(I)I"⟩, 3), (⟨"KindDesk$Kinds", "constructorsOf", "(I)I"⟩, 4), (⟨"KindDesk$Kinds", "pick", "(II)I"⟩, 4), (⟨"KindDeskModel", "forget", "()V"⟩, 27), (⟨"KindDeskModel", "taken", "()I"⟩, 27), (⟨"KindDeskModel", "isType", "(I)Z"⟩, 27)]
theorem lw_r3 : ∀ q ∈ lw_privs_3, lw_okq q := List.forall_mem_cons.mpr ⟨lw_p32, List.forall_mem_cons.mpr ⟨lw_p33, List.forall_mem_cons.mpr ⟨lw_p34, List.forall_mem_cons.mpr ⟨lw_p35, List.forall_mem_cons.mpr ⟨lw_p36, List.forall_mem_cons.mpr ⟨lw_p37, List.forall_mem_cons.mpr ⟨lw_p38, List.forall_mem_cons.mpr ⟨lw_p39, List.forall_mem_cons.mpr ⟨lw_p40, List.forall_mem_cons.mpr ⟨lw_p41, List.forall_mem_cons.mpr ⟨lw_p42, List.forall_mem_cons.mpr ⟨lw_p43, List.forall_mem_cons.mpr ⟨lw_p44, List.forall_mem_cons.mpr ⟨lw_p45, List.forall_mem_cons.mpr ⟨lw_p46, List.forall_mem_cons.mpr ⟨lw_p47, fun _ h => absurd h List.not_mem_nil⟩⟩⟩⟩⟩⟩⟩⟩⟩⟩⟩⟩⟩⟩⟩⟩
theorem lw_p48 : lw_okq (⟨"KindDeskModel", "areTypes", "(I)Z"⟩, 27) := ⟨⟨by decide +kernel, by decide +kernel⟩, List.mem_of_getElem? (i := 476) (by decide +kernel), List.mem_of_getElem? (i := 588) (by decide +kernel), List.mem_of_getElem? (i := 589) (by decide +kernel)⟩
theorem lw_p49 : lw_okq (⟨"KindDeskModel", "found", "(III)I"⟩, 27) := ⟨⟨by decide +kernel, by decide +kernel⟩, List.mem_of_getElem? (i := 476) (by decide +kernel), List.mem_of_getElem? (i := 592) (by decide +kernel), List.mem_of_getElem? (i := 593) (by decide +kernel)⟩
theorem lw_p50 : lw_okq (⟨"KindDeskModel", "demand", "(IIII)I"⟩, 27) := ⟨⟨by decide +kernel, by decide +kernel⟩, List.mem_of_getElem? (i := 476) (by decide +kernel), List.mem_of_getElem? (i := 611) (by decide +kernel), List.mem_of_getElem? (i := 612) (by decide +kernel)⟩
theorem lw_p51 : lw_okq (⟨"KindDeskModel", "areVariables", "(I)Z"⟩, 27) := ⟨⟨by decide +kernel, by decide +kernel⟩, List.mem_of_getElem? (i := 476) (by decide +kernel), List.mem_of_getElem? (i := 623) (by decide +kernel), List.mem_of_getElem? (i := 624) (by decide +kernel)⟩
theorem lw_p52 : lw_okq (⟨"KindDeskModel", "round", "()I"⟩, 27) := ⟨⟨by decide +kernel, by decide +kernel⟩, List.mem_of_getElem? (i := 476) (by decide +kernel), List.mem_of_getElem? (i := 635) (by decide +kernel), List.mem_of_getElem? (i := 636) (by decide +kernel)⟩
theorem lw_p53 : lw_okq (⟨"KindDeskModel", "asked", "(I)V"⟩, 27) := ⟨⟨by decide +kernel, by decide +kernel⟩, List.mem_of_getElem? (i := 476) (by decide +kernel), List.mem_of_getElem? (i := 639) (by decide +kernel), List.mem_of_getElem? (i := 640) (by decide +kernel)⟩
theorem lw_p54 : lw_okq (⟨"KindDeskModel", "gets", "(II)V"⟩, 27) := ⟨⟨by decide +kernel, by decide +kernel⟩, List.mem_of_getElem? (i := 476) (by decide +kernel), List.mem_of_getElem? (i := 643) (by decide +kernel), List.mem_of_getElem? (i := 644) (by decide +kernel)⟩
theorem lw_p55 : lw_okq (⟨"KindDeskModel", "join", "(II)V"⟩, 27) := ⟨⟨by decide +kernel, by decide +kernel⟩, List.mem_of_getElem? (i := 476) (by decide +kernel), List.mem_of_getElem? (i := 647) (by decide +kernel), List.mem_of_getElem? (i := 648) (by decide +kernel)⟩
theorem lw_p56 : lw_okq (⟨"KindDeskModel", "formed", "(I)V"⟩, 27) := ⟨⟨by decide +kernel, by decide +kernel⟩, List.mem_of_getElem? (i := 476) (by decide +kernel), List.mem_of_getElem? (i := 651) (by decide +kernel), List.mem_of_getElem? (i := 652) (by decide +kernel)⟩
theorem lw_p57 : lw_okq (⟨"KindDeskModel", "fits", "(II)Z"⟩, 27) := ⟨⟨by decide +kernel, by decide +kernel⟩, List.mem_of_getElem? (i := 476) (by decide +kernel), List.mem_of_getElem? (i := 655) (by decide +kernel), List.mem_of_getElem? (i := 656) (by decide +kernel)⟩
theorem lw_p58 : lw_okq (⟨"KindDeskModel", "isOpen", "(II)Z"⟩, 27) := ⟨⟨by decide +kernel, by decide +kernel⟩, List.mem_of_getElem? (i := 476) (by decide +kernel), List.mem_of_getElem? (i := 659) (by decide +kernel), List.mem_of_getElem? (i := 660) (by decide +kernel)⟩
theorem lw_p59 : lw_okq (⟨"KindDeskModel", "isAsked", "(I)Z"⟩, 27) := ⟨⟨by decide +kernel, by decide +kernel⟩, List.mem_of_getElem? (i := 476) (by decide +kernel), List.mem_of_getElem? (i := 663) (by decide +kernel), List.mem_of_getElem? (i := 664) (by decide +kernel)⟩
def lw_privs_4 : List (MethodName × Nat) := [(⟨"KindDeskModel", "areTypes", "(I)Z"⟩, 27), (⟨"KindDeskModel", "found", "(III)I"⟩, 27), (⟨"KindDeskModel", "demand", "(IIII)I"⟩, 27), (⟨"KindDeskModel", "areVariables", "(I)Z"⟩, 27), (⟨"KindDeskModel", "round", "()I"⟩, 27), (⟨"KindDeskModel", "asked", "(I)V"⟩, 27), (⟨"KindDeskModel", "gets", "(II)V"⟩, 27), (⟨"KindDeskModel", "join", "(II)V"⟩, 27), (⟨"KindDeskModel", "formed", "(I)V"⟩, 27), (⟨"KindDeskModel", "fits", "(II)Z"⟩, 27), (⟨"KindDeskModel", "isOpen", "(II)Z"⟩, 27), (⟨"KindDeskModel", "isAsked", "(I)Z"⟩, 27)]
theorem lw_r4 : ∀ q ∈ lw_privs_4, lw_okq q := List.forall_mem_cons.mpr ⟨lw_p48, List.forall_mem_cons.mpr ⟨lw_p49, List.forall_mem_cons.mpr ⟨lw_p50, List.forall_mem_cons.mpr ⟨lw_p51, List.forall_mem_cons.mpr ⟨lw_p52, List.forall_mem_cons.mpr ⟨lw_p53, List.forall_mem_cons.mpr ⟨lw_p54, List.forall_mem_cons.mpr ⟨lw_p55, List.forall_mem_cons.mpr ⟨lw_p56, List.forall_mem_cons.mpr ⟨lw_p57, List.forall_mem_cons.mpr ⟨lw_p58, List.forall_mem_cons.mpr ⟨lw_p59, fun _ h => absurd h List.not_mem_nil⟩⟩⟩⟩⟩⟩⟩⟩⟩⟩⟩⟩
def lw_privs : List (MethodName × Nat) := lw_privs_1 ++ (lw_privs_2 ++ (lw_privs_3 ++ (lw_privs_4)))
def lw_tbl : List Cond := k2_sels lw_privs ++ tables_1
theorem lw_privs_ok : ∀ q ∈ lw_privs, lw_okq q := by
  show ∀ q ∈ lw_privs_1 ++ (lw_privs_2 ++ (lw_privs_3 ++ (lw_privs_4))), lw_okq q
  exact List.forall_mem_append.mpr ⟨lw_r1, List.forall_mem_append.mpr ⟨lw_r2, List.forall_mem_append.mpr ⟨lw_r3, lw_r4⟩⟩⟩
end
section
def R_Arr : String := "java/util/Arrays"
def R_Row : String := "KindDesk$Row"
def T_Row : u_T := fun k => match k with
  | 0 => ("KindDesk$Row", "numbers", "[I", true)
  | _ => ("KindDesk$Row", "size", "I", false)
def ty_Row : Nat → FieldType := fun k => match k with
  | 0 => .array .int
  | _ => .int
theorem nm_Row : ∀ a, a < 2 → ∀ b, b < 2 → a ≠ b → (T_Row a).2.1 ≠ (T_Row b).2.1 := by decide +kernel
theorem tyok_Row : ∀ k, k < 2 → parseFieldDescriptor (T_Row k).2.2.1 = some (ty_Row k) := by decide +kernel
def R_Tab : String := "KindDesk$Table"
def T_Tab : u_T := fun k => match k with
  | 0 => ("KindDesk$Table", "lengths", "[I", true)
  | 1 => ("KindDesk$Table", "cells", "[I", true)
  | _ => ("KindDesk$Table", "size", "I", false)
def ty_Tab : Nat → FieldType := fun k => match k with
  | 0 => .array .int
  | 1 => .array .int
  | _ => .int
theorem nm_Tab : ∀ a, a < 3 → ∀ b, b < 3 → a ≠ b → (T_Tab a).2.1 ≠ (T_Tab b).2.1 := by decide +kernel
theorem tyok_Tab : ∀ k, k < 3 → parseFieldDescriptor (T_Tab k).2.2.1 = some (ty_Tab k) := by decide +kernel
def R_Kin : String := "KindDesk$Kinds"
def T_Kin : u_T := fun k => match k with
  | 0 => ("KindDesk$Kinds", "owners", "[I", true)
  | 1 => ("KindDesk$Kinds", "names", "[I", true)
  | 2 => ("KindDesk$Kinds", "fields", "LKindDesk$Table;", true)
  | _ => ("KindDesk$Kinds", "size", "I", false)
def ty_Kin : Nat → FieldType := fun k => match k with
  | 0 => .array .int
  | 1 => .array .int
  | 2 => .object "KindDesk$Table"
  | _ => .int
theorem nm_Kin : ∀ a, a < 4 → ∀ b, b < 4 → a ≠ b → (T_Kin a).2.1 ≠ (T_Kin b).2.1 := by decide +kernel
theorem tyok_Kin : ∀ k, k < 4 → parseFieldDescriptor (T_Kin k).2.2.1 = some (ty_Kin k) := by decide +kernel
def R_Dem : String := "KindDesk$Demands"
def T_Dem : u_T := fun k => match k with
  | 0 => ("KindDesk$Demands", "sorts", "[I", true)
  | 1 => ("KindDesk$Demands", "subjects", "[I", true)
  | _ => ("KindDesk$Demands", "variables", "LKindDesk$Table;", true)
def ty_Dem : Nat → FieldType := fun k => match k with
  | 0 => .array .int
  | 1 => .array .int
  | _ => .object "KindDesk$Table"
theorem nm_Dem : ∀ a, a < 3 → ∀ b, b < 3 → a ≠ b → (T_Dem a).2.1 ≠ (T_Dem b).2.1 := by decide +kernel
theorem tyok_Dem : ∀ k, k < 3 → parseFieldDescriptor (T_Dem k).2.2.1 = some (ty_Dem k) := by decide +kernel
def R_Gro : String := "KindDesk$Groups"
def T_Gro : u_T := fun k => match k with
  | 0 => ("KindDesk$Groups", "groups", "[I", true)
  | 1 => ("KindDesk$Groups", "groupKinds", "[I", true)
  | _ => ("KindDesk$Groups", "changes", "I", false)
def ty_Gro : Nat → FieldType := fun k => match k with
  | 0 => .array .int
  | 1 => .array .int
  | _ => .int
theorem nm_Gro : ∀ a, a < 3 → ∀ b, b < 3 → a ≠ b → (T_Gro a).2.1 ≠ (T_Gro b).2.1 := by decide +kernel
theorem tyok_Gro : ∀ k, k < 3 → parseFieldDescriptor (T_Gro k).2.2.1 = some (ty_Gro k) := by decide +kernel
def R_Sol : String := "KindDesk$Solver"
def T_Sol : u_T := fun k => match k with
  | 0 => ("KindDesk$Solver", "kinds", "LKindDesk$Kinds;", true)
  | 1 => ("KindDesk$Solver", "predicates", "LKindDesk$Table;", true)
  | 2 => ("KindDesk$Solver", "demands", "LKindDesk$Demands;", true)
  | 3 => ("KindDesk$Solver", "groups", "LKindDesk$Groups;", true)
  | 4 => ("KindDesk$Solver", "meanings", "[I", true)
  | 5 => ("KindDesk$Solver", "settled", "I", false)
  | 6 => ("KindDesk$Solver", "rounds", "I", false)
  | _ => ("KindDesk$Solver", "culprit", "I", false)
def ty_Sol : Nat → FieldType := fun k => match k with
  | 0 => .object "KindDesk$Kinds"
  | 1 => .object "KindDesk$Table"
  | 2 => .object "KindDesk$Demands"
  | 3 => .object "KindDesk$Groups"
  | 4 => .array .int
  | 5 => .int
  | 6 => .int
  | _ => .int
theorem nm_Sol : ∀ a, a < 8 → ∀ b, b < 8 → a ≠ b → (T_Sol a).2.1 ≠ (T_Sol b).2.1 := by decide +kernel
theorem tyok_Sol : ∀ k, k < 8 → parseFieldDescriptor (T_Sol k).2.2.1 = some (ty_Sol k) := by decide +kernel
def R_Fin : String := "KindDesk$Findings"
def T_Fin : u_T := fun k => match k with
  | 0 => ("KindDesk$Findings", "variableKinds", "[I", true)
  | 1 => ("KindDesk$Findings", "meanings", "[I", true)
  | _ => ("KindDesk$Findings", "known", "Z", false)
def ty_Fin : Nat → FieldType := fun k => match k with
  | 0 => .array .int
  | 1 => .array .int
  | _ => .boolean
theorem nm_Fin : ∀ a, a < 3 → ∀ b, b < 3 → a ≠ b → (T_Fin a).2.1 ≠ (T_Fin b).2.1 := by decide +kernel
theorem tyok_Fin : ∀ k, k < 3 → parseFieldDescriptor (T_Fin k).2.2.1 = some (ty_Fin k) := by decide +kernel
def R_Desk : String := "KindDesk"
def T_Desk : u_T := fun k => match k with
  | 0 => ("KindDesk", "row", "LKindDesk$Row;", true)
  | 1 => ("KindDesk", "kinds", "LKindDesk$Kinds;", true)
  | 2 => ("KindDesk", "predicates", "LKindDesk$Table;", true)
  | 3 => ("KindDesk", "demands", "LKindDesk$Demands;", true)
  | 4 => ("KindDesk", "solver", "LKindDesk$Solver;", true)
  | _ => ("KindDesk", "findings", "LKindDesk$Findings;", true)
def ty_Desk : Nat → FieldType := fun k => match k with
  | 0 => .object "KindDesk$Row"
  | 1 => .object "KindDesk$Kinds"
  | 2 => .object "KindDesk$Table"
  | 3 => .object "KindDesk$Demands"
  | 4 => .object "KindDesk$Solver"
  | _ => .object "KindDesk$Findings"
theorem nm_Desk : ∀ a, a < 6 → ∀ b, b < 6 → a ≠ b → (T_Desk a).2.1 ≠ (T_Desk b).2.1 := by decide +kernel
theorem tyok_Desk : ∀ k, k < 6 → parseFieldDescriptor (T_Desk k).2.2.1 = some (ty_Desk k) := by decide +kernel
def R_Mod : String := "KindDeskModel"
def T_Mod : u_T := fun k => match k with
  | 0 => ("KindDeskModel", "thrown", "I", false)
  | 1 => ("KindDeskModel", "types", "I", false)
  | 2 => ("KindDeskModel", "constructors", "I", false)
  | 3 => ("KindDeskModel", "conType", "[I", true)
  | 4 => ("KindDeskModel", "conName", "[I", true)
  | 5 => ("KindDeskModel", "conMany", "[I", true)
  | 6 => ("KindDeskModel", "conField", "[I", true)
  | 7 => ("KindDeskModel", "predicates", "I", false)
  | 8 => ("KindDeskModel", "predMany", "[I", true)
  | 9 => ("KindDeskModel", "predField", "[I", true)
  | 10 => ("KindDeskModel", "row", "[I", true)
  | 11 => ("KindDeskModel", "rowMany", "I", false)
  | 12 => ("KindDeskModel", "demands", "I", false)
  | 13 => ("KindDeskModel", "sort", "[I", true)
  | 14 => ("KindDeskModel", "what", "[I", true)
  | 15 => ("KindDeskModel", "first", "[I", true)
  | 16 => ("KindDeskModel", "many", "[I", true)
  | 17 => ("KindDeskModel", "other", "[I", true)
  | 18 => ("KindDeskModel", "least", "[I", true)
  | 19 => ("KindDeskModel", "kind", "[I", true)
  | 20 => ("KindDeskModel", "means", "[I", true)
  | 21 => ("KindDeskModel", "changed", "Z", false)
  | 22 => ("KindDeskModel", "clash", "Z", false)
  | 23 => ("KindDeskModel", "told0", "I", false)
  | 24 => ("KindDeskModel", "told1", "I", false)
  | 25 => ("KindDeskModel", "solvedType", "[I", true)
  | _ => ("KindDeskModel", "solvedMeans", "[I", true)
def ty_Mod : Nat → FieldType := fun k => match k with
  | 0 => .int
  | 1 => .int
  | 2 => .int
  | 3 => .array .int
  | 4 => .array .int
  | 5 => .array .int
  | 6 => .array .int
  | 7 => .int
  | 8 => .array .int
  | 9 => .array .int
  | 10 => .array .int
  | 11 => .int
  | 12 => .int
  | 13 => .array .int
  | 14 => .array .int
  | 15 => .array .int
  | 16 => .array .int
  | 17 => .array .int
  | 18 => .array .int
  | 19 => .array .int
  | 20 => .array .int
  | 21 => .boolean
  | 22 => .boolean
  | 23 => .int
  | 24 => .int
  | 25 => .array .int
  | _ => .array .int
theorem nm_Mod : ∀ a, a < 27 → ∀ b, b < 27 → a ≠ b → (T_Mod a).2.1 ≠ (T_Mod b).2.1 := by decide +kernel
theorem tyok_Mod : ∀ k, k < 27 → parseFieldDescriptor (T_Mod k).2.2.1 = some (ty_Mod k) := by decide +kernel
def vwCl : List vw_C := [(R_Row, T_Row, 2), (R_Tab, T_Tab, 3), (R_Kin, T_Kin, 4), (R_Dem, T_Dem, 3), (R_Gro, T_Gro, 3), (R_Sol, T_Sol, 8), (R_Fin, T_Fin, 3), (R_Desk, T_Desk, 6), (R_Mod, T_Mod, 27)]
def GW : List Cond := lw_tbl.filter goodWord
theorem gw {w : Cond} (h : w ∈ tables_1) (g : goodWord w = true) : w ∈ GW := List.mem_filter.mpr ⟨List.mem_append_right _ h, g⟩
theorem gws {w : Cond} (h : w ∈ k2_sels lw_privs) (g : goodWord w = true) : w ∈ GW := List.mem_filter.mpr ⟨List.mem_append_left _ h, g⟩
theorem GWok : GoodIn GW GW := fun _ h => ⟨h, good_of_word (List.mem_filter.mp h).2⟩
theorem GWlaw : GoodIn lw_tbl GW := fun _ h => ⟨(List.mem_filter.mp h).1, good_of_word (List.mem_filter.mp h).2⟩
theorem good_c {y : MethodName} {b : ByteArray} {n : Nat} {r : Option FieldType} (h : Cond.code y b n r ∈ GW) : GoodIn GW (Cond.code y b n r :: GW) := fun w hw => (List.mem_cons.mp hw).elim (fun e => by rw [e]; exact GWok _ h) (GWok w)
theorem in_Row : ∀ w ∈ u_ws R_Row T_Row 2, w ∈ GW := by
  intro w hw
  obtain ⟨k, hk, rfl⟩ := List.mem_map.mp hw
  have hk := List.mem_range.mp hk
  match k, hk with
  | 0, _ => exact gw (List.mem_append_left _ (List.mem_of_getElem? (i := 32) rfl)) rfl
  | 1, _ => exact gw (List.mem_append_left _ (List.mem_of_getElem? (i := 34) rfl)) rfl
  | k + 2, hk => exact absurd hk (by omega)
theorem in_Tab : ∀ w ∈ u_ws R_Tab T_Tab 3, w ∈ GW := by
  intro w hw
  obtain ⟨k, hk, rfl⟩ := List.mem_map.mp hw
  have hk := List.mem_range.mp hk
  match k, hk with
  | 0, _ => exact gw (List.mem_append_left _ (List.mem_of_getElem? (i := 59) rfl)) rfl
  | 1, _ => exact gw (List.mem_append_left _ (List.mem_of_getElem? (i := 61) rfl)) rfl
  | 2, _ => exact gw (List.mem_append_left _ (List.mem_of_getElem? (i := 63) rfl)) rfl
  | k + 3, hk => exact absurd hk (by omega)
theorem in_Kin : ∀ w ∈ u_ws R_Kin T_Kin 4, w ∈ GW := by
  intro w hw
  obtain ⟨k, hk, rfl⟩ := List.mem_map.mp hw
  have hk := List.mem_range.mp hk
  match k, hk with
  | 0, _ => exact gw (List.mem_append_left _ (List.mem_of_getElem? (i := 72) rfl)) rfl
  | 1, _ => exact gw (List.mem_append_left _ (List.mem_of_getElem? (i := 74) rfl)) rfl
  | 2, _ => exact gw (List.mem_append_left _ (List.mem_of_getElem? (i := 76) rfl)) rfl
  | 3, _ => exact gw (List.mem_append_left _ (List.mem_of_getElem? (i := 78) rfl)) rfl
  | k + 4, hk => exact absurd hk (by omega)
theorem in_Dem : ∀ w ∈ u_ws R_Dem T_Dem 3, w ∈ GW := by
  intro w hw
  obtain ⟨k, hk, rfl⟩ := List.mem_map.mp hw
  have hk := List.mem_range.mp hk
  match k, hk with
  | 0, _ => exact gw (List.mem_append_left _ (List.mem_of_getElem? (i := 96) rfl)) rfl
  | 1, _ => exact gw (List.mem_append_left _ (List.mem_of_getElem? (i := 98) rfl)) rfl
  | 2, _ => exact gw (List.mem_append_left _ (List.mem_of_getElem? (i := 100) rfl)) rfl
  | k + 3, hk => exact absurd hk (by omega)
theorem in_Gro : ∀ w ∈ u_ws R_Gro T_Gro 3, w ∈ GW := by
  intro w hw
  obtain ⟨k, hk, rfl⟩ := List.mem_map.mp hw
  have hk := List.mem_range.mp hk
  match k, hk with
  | 0, _ => exact gw (List.mem_append_left _ (List.mem_of_getElem? (i := 119) rfl)) rfl
  | 1, _ => exact gw (List.mem_append_left _ (List.mem_of_getElem? (i := 121) rfl)) rfl
  | 2, _ => exact gw (List.mem_append_left _ (List.mem_of_getElem? (i := 123) rfl)) rfl
  | k + 3, hk => exact absurd hk (by omega)
theorem in_Sol : ∀ w ∈ u_ws R_Sol T_Sol 8, w ∈ GW := by
  intro w hw
  obtain ⟨k, hk, rfl⟩ := List.mem_map.mp hw
  have hk := List.mem_range.mp hk
  match k, hk with
  | 0, _ => exact gw (List.mem_append_left _ (List.mem_of_getElem? (i := 137) rfl)) rfl
  | 1, _ => exact gw (List.mem_append_left _ (List.mem_of_getElem? (i := 139) rfl)) rfl
  | 2, _ => exact gw (List.mem_append_left _ (List.mem_of_getElem? (i := 141) rfl)) rfl
  | 3, _ => exact gw (List.mem_append_left _ (List.mem_of_getElem? (i := 143) rfl)) rfl
  | 4, _ => exact gw (List.mem_append_left _ (List.mem_of_getElem? (i := 145) rfl)) rfl
  | 5, _ => exact gw (List.mem_append_left _ (List.mem_of_getElem? (i := 147) rfl)) rfl
  | 6, _ => exact gw (List.mem_append_left _ (List.mem_of_getElem? (i := 149) rfl)) rfl
  | 7, _ => exact gw (List.mem_append_left _ (List.mem_of_getElem? (i := 151) rfl)) rfl
  | k + 8, hk => exact absurd hk (by omega)
theorem in_Fin : ∀ w ∈ u_ws R_Fin T_Fin 3, w ∈ GW := by
  intro w hw
  obtain ⟨k, hk, rfl⟩ := List.mem_map.mp hw
  have hk := List.mem_range.mp hk
  match k, hk with
  | 0, _ => exact gw (List.mem_append_left _ (List.mem_of_getElem? (i := 163) rfl)) rfl
  | 1, _ => exact gw (List.mem_append_left _ (List.mem_of_getElem? (i := 165) rfl)) rfl
  | 2, _ => exact gw (List.mem_append_left _ (List.mem_of_getElem? (i := 167) rfl)) rfl
  | k + 3, hk => exact absurd hk (by omega)
theorem in_Desk : ∀ w ∈ u_ws R_Desk T_Desk 6, w ∈ GW := by
  intro w hw
  obtain ⟨k, hk, rfl⟩ := List.mem_map.mp hw
  have hk := List.mem_range.mp hk
  match k, hk with
  | 0, _ => exact gw (List.mem_append_left _ (List.mem_of_getElem? (i := 176) rfl)) rfl
  | 1, _ => exact gw (List.mem_append_left _ (List.mem_of_getElem? (i := 178) rfl)) rfl
  | 2, _ => exact gw (List.mem_append_left _ (List.mem_of_getElem? (i := 180) rfl)) rfl
  | 3, _ => exact gw (List.mem_append_left _ (List.mem_of_getElem? (i := 182) rfl)) rfl
  | 4, _ => exact gw (List.mem_append_left _ (List.mem_of_getElem? (i := 184) rfl)) rfl
  | 5, _ => exact gw (List.mem_append_left _ (List.mem_of_getElem? (i := 186) rfl)) rfl
  | k + 6, hk => exact absurd hk (by omega)
theorem in_Mod : ∀ w ∈ u_ws R_Mod T_Mod 27, w ∈ GW := by
  intro w hw
  obtain ⟨k, hk, rfl⟩ := List.mem_map.mp hw
  have hk := List.mem_range.mp hk
  match k, hk with
  | 0, _ => exact gw (List.mem_append_right _ (List.mem_append_right _ (List.mem_of_getElem? (i := 32) rfl))) rfl
  | 1, _ => exact gw (List.mem_append_right _ (List.mem_append_right _ (List.mem_of_getElem? (i := 34) rfl))) rfl
  | 2, _ => exact gw (List.mem_append_right _ (List.mem_append_right _ (List.mem_of_getElem? (i := 36) rfl))) rfl
  | 3, _ => exact gw (List.mem_append_right _ (List.mem_append_right _ (List.mem_of_getElem? (i := 38) rfl))) rfl
  | 4, _ => exact gw (List.mem_append_right _ (List.mem_append_right _ (List.mem_of_getElem? (i := 40) rfl))) rfl
  | 5, _ => exact gw (List.mem_append_right _ (List.mem_append_right _ (List.mem_of_getElem? (i := 42) rfl))) rfl
  | 6, _ => exact gw (List.mem_append_right _ (List.mem_append_right _ (List.mem_of_getElem? (i := 44) rfl))) rfl
  | 7, _ => exact gw (List.mem_append_right _ (List.mem_append_right _ (List.mem_of_getElem? (i := 46) rfl))) rfl
  | 8, _ => exact gw (List.mem_append_right _ (List.mem_append_right _ (List.mem_of_getElem? (i := 48) rfl))) rfl
  | 9, _ => exact gw (List.mem_append_right _ (List.mem_append_right _ (List.mem_of_getElem? (i := 50) rfl))) rfl
  | 10, _ => exact gw (List.mem_append_right _ (List.mem_append_right _ (List.mem_of_getElem? (i := 52) rfl))) rfl
  | 11, _ => exact gw (List.mem_append_right _ (List.mem_append_right _ (List.mem_of_getElem? (i := 54) rfl))) rfl
  | 12, _ => exact gw (List.mem_append_right _ (List.mem_append_right _ (List.mem_of_getElem? (i := 56) rfl))) rfl
  | 13, _ => exact gw (List.mem_append_right _ (List.mem_append_right _ (List.mem_of_getElem? (i := 58) rfl))) rfl
  | 14, _ => exact gw (List.mem_append_right _ (List.mem_append_right _ (List.mem_of_getElem? (i := 60) rfl))) rfl
  | 15, _ => exact gw (List.mem_append_right _ (List.mem_append_right _ (List.mem_of_getElem? (i := 62) rfl))) rfl
  | 16, _ => exact gw (List.mem_append_right _ (List.mem_append_right _ (List.mem_of_getElem? (i := 64) rfl))) rfl
  | 17, _ => exact gw (List.mem_append_right _ (List.mem_append_right _ (List.mem_of_getElem? (i := 66) rfl))) rfl
  | 18, _ => exact gw (List.mem_append_right _ (List.mem_append_right _ (List.mem_of_getElem? (i := 68) rfl))) rfl
  | 19, _ => exact gw (List.mem_append_right _ (List.mem_append_right _ (List.mem_of_getElem? (i := 70) rfl))) rfl
  | 20, _ => exact gw (List.mem_append_right _ (List.mem_append_right _ (List.mem_of_getElem? (i := 72) rfl))) rfl
  | 21, _ => exact gw (List.mem_append_right _ (List.mem_append_right _ (List.mem_of_getElem? (i := 74) rfl))) rfl
  | 22, _ => exact gw (List.mem_append_right _ (List.mem_append_right _ (List.mem_of_getElem? (i := 76) rfl))) rfl
  | 23, _ => exact gw (List.mem_append_right _ (List.mem_append_right _ (List.mem_of_getElem? (i := 78) rfl))) rfl
  | 24, _ => exact gw (List.mem_append_right _ (List.mem_append_right _ (List.mem_of_getElem? (i := 80) rfl))) rfl
  | 25, _ => exact gw (List.mem_append_right _ (List.mem_append_right _ (List.mem_of_getElem? (i := 82) rfl))) rfl
  | 26, _ => exact gw (List.mem_append_right _ (List.mem_append_right _ (List.mem_of_getElem? (i := 84) rfl))) rfl
  | k + 27, hk => exact absurd hk (by omega)
theorem q_0 : (Jvm.Cond.methodLink "KindDesk$Row" (3 : Nat) ({ cls := "java/lang/Object", name := "<init>", desc := "()V" } : Jvm.MethodName)) ∈ GW := gw (List.mem_append_left _ (List.mem_of_getElem? (i := 25) rfl)) rfl
theorem q_1 : (Jvm.Cond.instanceMethod ({ cls := "java/lang/Object", name := "<init>", desc := "()V" } : Jvm.MethodName)) ∈ GW := gw (List.mem_append_left _ (List.mem_of_getElem? (i := 18) rfl)) rfl
theorem q_2 : (Jvm.Cond.code ({ cls := "java/lang/Object", name := "<init>", desc := "()V" } : Jvm.MethodName) object_method_1_code (1 : Nat) (Option.none : Option Jvm.ClassFile.FieldType)) ∈ GW := gw (List.mem_append_left _ (List.mem_of_getElem? (i := 19) rfl)) rfl
theorem q_3 : (Jvm.Cond.arrayClass Jvm.ClassFile.FieldType.int) ∈ GW := gw (List.mem_append_left _ (List.mem_of_getElem? (i := 37) rfl)) rfl
theorem q_4 : (Jvm.Cond.fieldLink "KindDesk$Row" (9 : Nat) "KindDesk$Row" "numbers" "[I") ∈ GW := gw (List.mem_append_left _ (List.mem_of_getElem? (i := 26) rfl)) rfl
theorem q_5 : (Jvm.Cond.fieldLink "KindDesk$Row" (15 : Nat) "KindDesk$Row" "size" "I") ∈ GW := gw (List.mem_append_left _ (List.mem_of_getElem? (i := 28) rfl)) rfl
theorem q_6 : (Jvm.Cond.methodLink "KindDesk$Table" (3 : Nat) ({ cls := "java/lang/Object", name := "<init>", desc := "()V" } : Jvm.MethodName)) ∈ GW := gw (List.mem_append_left _ (List.mem_of_getElem? (i := 49) rfl)) rfl
theorem q_7 : (Jvm.Cond.fieldLink "KindDesk$Table" (9 : Nat) "KindDesk$Table" "size" "I") ∈ GW := gw (List.mem_append_left _ (List.mem_of_getElem? (i := 55) rfl)) rfl
theorem q_8 : (Jvm.Cond.methodLink "KindDesk$Table" (15 : Nat) ({ cls := "java/lang/Math", name := "max", desc := "(II)I" } : Jvm.MethodName)) ∈ GW := gw (List.mem_append_left _ (List.mem_of_getElem? (i := 50) rfl)) rfl
theorem q_9 : (Jvm.Cond.static ({ cls := "java/lang/Math", name := "max", desc := "(II)I" } : Jvm.MethodName)) ∈ GW := gw (List.mem_append_left _ (List.mem_of_getElem? (i := 51) rfl)) rfl
theorem q_10 : (Jvm.Cond.initialized "java/lang/Math") ∈ GW := gw (List.mem_append_left _ (List.mem_of_getElem? (i := 5) rfl)) rfl
theorem q_11 : (Jvm.Cond.code ({ cls := "java/lang/Math", name := "max", desc := "(II)I" } : Jvm.MethodName) prog_11_method_65_code (2 : Nat) (Option.some Jvm.ClassFile.FieldType.int)) ∈ GW := gw (List.mem_append_left _ (List.mem_of_getElem? (i := 52) rfl)) rfl
theorem q_12 : (Jvm.Cond.fieldLink "KindDesk$Table" (21 : Nat) "KindDesk$Table" "lengths" "[I") ∈ GW := gw (List.mem_append_left _ (List.mem_of_getElem? (i := 53) rfl)) rfl
theorem q_13 : (Jvm.Cond.fieldLink "KindDesk$Table" (25 : Nat) "KindDesk$Table" "cells" "[I") ∈ GW := gw (List.mem_append_left _ (List.mem_of_getElem? (i := 54) rfl)) rfl
theorem q_14 : (Jvm.Cond.code ({ cls := "KindDesk$Table", name := "append", desc := "(I)V" } : Jvm.MethodName) prog_8_method_3_code (3 : Nat) (Option.none : Option Jvm.ClassFile.FieldType)) ∈ GW := gw (List.mem_append_right _ (List.mem_append_left _ (List.mem_of_getElem? (i := 19) rfl))) rfl
theorem q_15 : (Jvm.Cond.initialized "KindDesk$Table") ∈ GW := gw (List.mem_append_left _ (List.mem_of_getElem? (i := 4) rfl)) rfl
theorem q_16 : (Jvm.Cond.methodLink "KindDesk$Table" (34 : Nat) ({ cls := "KindDesk$Table", name := "append", desc := "(I)V" } : Jvm.MethodName)) ∈ GW := gw (List.mem_append_right _ (List.mem_append_left _ (List.mem_of_getElem? (i := 16) rfl))) rfl
theorem q_17 : (Jvm.Cond.instanceMethod ({ cls := "KindDesk$Table", name := "append", desc := "(I)V" } : Jvm.MethodName)) ∈ GW := gw (List.mem_append_right _ (List.mem_append_left _ (List.mem_of_getElem? (i := 18) rfl))) rfl
theorem q_18 : Cond.selects "KindDesk$Table" ⟨"KindDesk$Table", "append", "(I)V"⟩ ⟨"KindDesk$Table", "append", "(I)V"⟩ ∈ GW := gws (List.mem_of_getElem? (i := 13) rfl) rfl
theorem q_19 : (Jvm.Cond.methodLink "KindDesk$Kinds" (3 : Nat) ({ cls := "java/lang/Object", name := "<init>", desc := "()V" } : Jvm.MethodName)) ∈ GW := gw (List.mem_append_left _ (List.mem_of_getElem? (i := 43) rfl)) rfl
theorem q_20 : (Jvm.Cond.fieldLink "KindDesk$Kinds" (9 : Nat) "KindDesk$Kinds" "owners" "[I") ∈ GW := gw (List.mem_append_left _ (List.mem_of_getElem? (i := 66) rfl)) rfl
theorem q_21 : (Jvm.Cond.fieldLink "KindDesk$Kinds" (15 : Nat) "KindDesk$Kinds" "names" "[I") ∈ GW := gw (List.mem_append_left _ (List.mem_of_getElem? (i := 67) rfl)) rfl
theorem q_22 : (Jvm.Cond.classLink "KindDesk$Kinds" (18 : Nat) "KindDesk$Table") ∈ GW := gw (List.mem_append_left _ (List.mem_of_getElem? (i := 44) rfl)) rfl
theorem q_23 : (Jvm.Cond.instantiable "KindDesk$Table" (3 : Nat)) ∈ GW := gw (List.mem_append_left _ (List.mem_of_getElem? (i := 45) rfl)) rfl
theorem q_24 : (Jvm.Cond.code ({ cls := "KindDesk$Table", name := "<init>", desc := "(I)V" } : Jvm.MethodName) prog_8_method_1_code (3 : Nat) (Option.none : Option Jvm.ClassFile.FieldType)) ∈ GW := gw (List.mem_append_left _ (List.mem_of_getElem? (i := 48) rfl)) rfl
theorem q_25 : (Jvm.Cond.instanceMethod ({ cls := "KindDesk$Table", name := "<init>", desc := "(I)V" } : Jvm.MethodName)) ∈ GW := gw (List.mem_append_left _ (List.mem_of_getElem? (i := 47) rfl)) rfl
theorem q_26 : (Jvm.Cond.fieldLink "KindDesk$Kinds" (23 : Nat) "KindDesk$Kinds" "fields" "LKindDesk$Table;") ∈ GW := gw (List.mem_append_left _ (List.mem_of_getElem? (i := 68) rfl)) rfl
theorem q_27 : (Jvm.Cond.fieldLink "KindDesk$Kinds" (27 : Nat) "KindDesk$Kinds" "size" "I") ∈ GW := gw (List.mem_append_left _ (List.mem_of_getElem? (i := 71) rfl)) rfl
theorem q_28 : (Jvm.Cond.code ({ cls := "KindDesk$Kinds", name := "isConstructor", desc := "(I)Z" } : Jvm.MethodName) prog_5_method_7_code (2 : Nat) (Option.some Jvm.ClassFile.FieldType.boolean)) ∈ GW := gw (List.mem_append_left _ (List.mem_of_getElem? (i := 235) rfl)) rfl
theorem q_29 : (Jvm.Cond.initialized "KindDesk$Kinds") ∈ GW := gw (List.mem_append_left _ (List.mem_of_getElem? (i := 3) rfl)) rfl
theorem q_30 : (Jvm.Cond.methodLink "KindDesk$Kinds" (57 : Nat) ({ cls := "KindDesk$Kinds", name := "isConstructor", desc := "(I)Z" } : Jvm.MethodName)) ∈ GW := gw (List.mem_append_left _ (List.mem_of_getElem? (i := 232) rfl)) rfl
theorem q_31 : (Jvm.Cond.instanceMethod ({ cls := "KindDesk$Kinds", name := "isConstructor", desc := "(I)Z" } : Jvm.MethodName)) ∈ GW := gw (List.mem_append_left _ (List.mem_of_getElem? (i := 234) rfl)) rfl
theorem q_32 : Cond.selects "KindDesk$Kinds" ⟨"KindDesk$Kinds", "isConstructor", "(I)Z"⟩ ⟨"KindDesk$Kinds", "isConstructor", "(I)Z"⟩ ∈ GW := gws (List.mem_of_getElem? (i := 7) rfl) rfl
theorem q_33 : (Jvm.Cond.code ({ cls := "KindDesk$Kinds", name := "kindOf", desc := "(I)I" } : Jvm.MethodName) prog_5_method_8_code (2 : Nat) (Option.some Jvm.ClassFile.FieldType.int)) ∈ GW := gw (List.mem_append_left _ (List.mem_of_getElem? (i := 231) rfl)) rfl
theorem q_34 : (Jvm.Cond.methodLink "KindDesk$Kinds" (60 : Nat) ({ cls := "KindDesk$Kinds", name := "kindOf", desc := "(I)I" } : Jvm.MethodName)) ∈ GW := gw (List.mem_append_left _ (List.mem_of_getElem? (i := 228) rfl)) rfl
theorem q_35 : (Jvm.Cond.instanceMethod ({ cls := "KindDesk$Kinds", name := "kindOf", desc := "(I)I" } : Jvm.MethodName)) ∈ GW := gw (List.mem_append_left _ (List.mem_of_getElem? (i := 230) rfl)) rfl
theorem q_36 : Cond.selects "KindDesk$Kinds" ⟨"KindDesk$Kinds", "kindOf", "(I)I"⟩ ⟨"KindDesk$Kinds", "kindOf", "(I)I"⟩ ∈ GW := gws (List.mem_of_getElem? (i := 6) rfl) rfl
theorem q_37 : (Jvm.Cond.code ({ cls := "KindDesk$Kinds", name := "nameOf", desc := "(I)I" } : Jvm.MethodName) prog_5_method_9_code (2 : Nat) (Option.some Jvm.ClassFile.FieldType.int)) ∈ GW := gw (List.mem_append_left _ (List.mem_of_getElem? (i := 239) rfl)) rfl
theorem q_38 : (Jvm.Cond.methodLink "KindDesk$Kinds" (64 : Nat) ({ cls := "KindDesk$Kinds", name := "nameOf", desc := "(I)I" } : Jvm.MethodName)) ∈ GW := gw (List.mem_append_left _ (List.mem_of_getElem? (i := 236) rfl)) rfl
theorem q_39 : (Jvm.Cond.instanceMethod ({ cls := "KindDesk$Kinds", name := "nameOf", desc := "(I)I" } : Jvm.MethodName)) ∈ GW := gw (List.mem_append_left _ (List.mem_of_getElem? (i := 238) rfl)) rfl
theorem q_40 : Cond.selects "KindDesk$Kinds" ⟨"KindDesk$Kinds", "nameOf", "(I)I"⟩ ⟨"KindDesk$Kinds", "nameOf", "(I)I"⟩ ∈ GW := gws (List.mem_of_getElem? (i := 8) rfl) rfl
theorem q_41 : (Jvm.Cond.code ({ cls := "KindDesk$Table", name := "length", desc := "(I)I" } : Jvm.MethodName) prog_8_method_5_code (2 : Nat) (Option.some Jvm.ClassFile.FieldType.int)) ∈ GW := gw (List.mem_append_right _ (List.mem_append_left _ (List.mem_of_getElem? (i := 3) rfl))) rfl
theorem q_42 : (Jvm.Cond.instanceMethod ({ cls := "KindDesk$Table", name := "length", desc := "(I)I" } : Jvm.MethodName)) ∈ GW := gw (List.mem_append_right _ (List.mem_append_left _ (List.mem_of_getElem? (i := 2) rfl))) rfl
theorem q_43 : Cond.selects "KindDesk$Table" ⟨"KindDesk$Table", "length", "(I)I"⟩ ⟨"KindDesk$Table", "length", "(I)I"⟩ ∈ GW := gws (List.mem_of_getElem? (i := 9) rfl) rfl
theorem q_44 : (Jvm.Cond.code ({ cls := "KindDesk$Kinds", name := "has", desc := "(I)Z" } : Jvm.MethodName) prog_5_method_4_code (2 : Nat) (Option.some Jvm.ClassFile.FieldType.boolean)) ∈ GW := gw (List.mem_append_left _ (List.mem_of_getElem? (i := 216) rfl)) rfl
theorem q_45 : (Jvm.Cond.methodLink "KindDesk$Kinds" (31 : Nat) ({ cls := "KindDesk$Kinds", name := "has", desc := "(I)Z" } : Jvm.MethodName)) ∈ GW := gw (List.mem_append_left _ (List.mem_of_getElem? (i := 213) rfl)) rfl
theorem q_46 : (Jvm.Cond.instanceMethod ({ cls := "KindDesk$Kinds", name := "has", desc := "(I)Z" } : Jvm.MethodName)) ∈ GW := gw (List.mem_append_left _ (List.mem_of_getElem? (i := 215) rfl)) rfl
theorem q_47 : Cond.selects "KindDesk$Kinds" ⟨"KindDesk$Kinds", "has", "(I)Z"⟩ ⟨"KindDesk$Kinds", "has", "(I)Z"⟩ ∈ GW := gws (List.mem_of_getElem? (i := 3) rfl) rfl
theorem q_48 : (Jvm.Cond.code ({ cls := "KindDesk", name := "isName", desc := "(I)Z" } : Jvm.MethodName) prog_1_method_21_code (1 : Nat) (Option.some Jvm.ClassFile.FieldType.boolean)) ∈ GW := gw (List.mem_append_left _ (List.mem_of_getElem? (i := 219) rfl)) rfl
theorem q_49 : (Jvm.Cond.initialized "KindDesk") ∈ GW := gw (List.mem_append_left _ (List.mem_of_getElem? (i := 1) rfl)) rfl
theorem q_50 : (Jvm.Cond.static ({ cls := "KindDesk", name := "isName", desc := "(I)Z" } : Jvm.MethodName)) ∈ GW := gw (List.mem_append_left _ (List.mem_of_getElem? (i := 218) rfl)) rfl
theorem q_51 : (Jvm.Cond.code ({ cls := "KindDesk$Row", name := "isBelow", desc := "(I)Z" } : Jvm.MethodName) prog_6_method_3_code (3 : Nat) (Option.some Jvm.ClassFile.FieldType.boolean)) ∈ GW := gw (List.mem_append_left _ (List.mem_of_getElem? (i := 223) rfl)) rfl
theorem q_52 : (Jvm.Cond.initialized "KindDesk$Row") ∈ GW := gw (List.mem_append_left _ (List.mem_of_getElem? (i := 2) rfl)) rfl
theorem q_53 : (Jvm.Cond.instanceMethod ({ cls := "KindDesk$Row", name := "isBelow", desc := "(I)Z" } : Jvm.MethodName)) ∈ GW := gw (List.mem_append_left _ (List.mem_of_getElem? (i := 222) rfl)) rfl
theorem q_54 : Cond.selects "KindDesk$Row" ⟨"KindDesk$Row", "isBelow", "(I)Z"⟩ ⟨"KindDesk$Row", "isBelow", "(I)Z"⟩ ∈ GW := gws (List.mem_of_getElem? (i := 4) rfl) rfl
theorem q_55 : (Jvm.Cond.code ({ cls := "KindDesk$Kinds", name := "search", desc := "(III)I" } : Jvm.MethodName) prog_5_method_12_code (5 : Nat) (Option.some Jvm.ClassFile.FieldType.int)) ∈ GW := gw (List.mem_append_left _ (List.mem_of_getElem? (i := 227) rfl)) rfl
theorem q_56 : (Jvm.Cond.methodLink "KindDesk$Kinds" (44 : Nat) ({ cls := "KindDesk$Kinds", name := "search", desc := "(III)I" } : Jvm.MethodName)) ∈ GW := gw (List.mem_append_left _ (List.mem_of_getElem? (i := 224) rfl)) rfl
theorem q_57 : (Jvm.Cond.instanceMethod ({ cls := "KindDesk$Kinds", name := "search", desc := "(III)I" } : Jvm.MethodName)) ∈ GW := gw (List.mem_append_left _ (List.mem_of_getElem? (i := 226) rfl)) rfl
theorem q_58 : Cond.selects "KindDesk$Kinds" ⟨"KindDesk$Kinds", "search", "(III)I"⟩ ⟨"KindDesk$Kinds", "search", "(III)I"⟩ ∈ GW := gws (List.mem_of_getElem? (i := 5) rfl) rfl
theorem q_59 : (Jvm.Cond.code ({ cls := "KindDesk$Table", name := "open", desc := "()I" } : Jvm.MethodName) prog_8_method_2_code (1 : Nat) (Option.some Jvm.ClassFile.FieldType.int)) ∈ GW := gw (List.mem_append_right _ (List.mem_append_left _ (List.mem_of_getElem? (i := 11) rfl))) rfl
theorem q_60 : (Jvm.Cond.instanceMethod ({ cls := "KindDesk$Table", name := "open", desc := "()I" } : Jvm.MethodName)) ∈ GW := gw (List.mem_append_right _ (List.mem_append_left _ (List.mem_of_getElem? (i := 10) rfl))) rfl
theorem q_61 : Cond.selects "KindDesk$Table" ⟨"KindDesk$Table", "open", "()I"⟩ ⟨"KindDesk$Table", "open", "()I"⟩ ∈ GW := gws (List.mem_of_getElem? (i := 11) rfl) rfl
theorem q_62 : (Jvm.Cond.code ({ cls := "KindDesk$Table", name := "appendAll", desc := "(LKindDesk$Row;)V" } : Jvm.MethodName) prog_8_method_4_code (3 : Nat) (Option.none : Option Jvm.ClassFile.FieldType)) ∈ GW := gw (List.mem_append_right _ (List.mem_append_left _ (List.mem_of_getElem? (i := 15) rfl))) rfl
theorem q_63 : (Jvm.Cond.instanceMethod ({ cls := "KindDesk$Table", name := "appendAll", desc := "(LKindDesk$Row;)V" } : Jvm.MethodName)) ∈ GW := gw (List.mem_append_right _ (List.mem_append_left _ (List.mem_of_getElem? (i := 14) rfl))) rfl
theorem q_64 : Cond.selects "KindDesk$Table" ⟨"KindDesk$Table", "appendAll", "(LKindDesk$Row;)V"⟩ ⟨"KindDesk$Table", "appendAll", "(LKindDesk$Row;)V"⟩ ∈ GW := gws (List.mem_of_getElem? (i := 12) rfl) rfl
theorem q_65 : (Jvm.Cond.methodLink "KindDesk$Demands" (3 : Nat) ({ cls := "java/lang/Object", name := "<init>", desc := "()V" } : Jvm.MethodName)) ∈ GW := gw (List.mem_append_left _ (List.mem_of_getElem? (i := 88) rfl)) rfl
theorem q_66 : (Jvm.Cond.fieldLink "KindDesk$Demands" (9 : Nat) "KindDesk$Demands" "sorts" "[I") ∈ GW := gw (List.mem_append_left _ (List.mem_of_getElem? (i := 91) rfl)) rfl
theorem q_67 : (Jvm.Cond.fieldLink "KindDesk$Demands" (15 : Nat) "KindDesk$Demands" "subjects" "[I") ∈ GW := gw (List.mem_append_left _ (List.mem_of_getElem? (i := 92) rfl)) rfl
theorem q_68 : (Jvm.Cond.classLink "KindDesk$Demands" (18 : Nat) "KindDesk$Table") ∈ GW := gw (List.mem_append_left _ (List.mem_of_getElem? (i := 89) rfl)) rfl
theorem q_69 : (Jvm.Cond.fieldLink "KindDesk$Demands" (23 : Nat) "KindDesk$Demands" "variables" "LKindDesk$Table;") ∈ GW := gw (List.mem_append_left _ (List.mem_of_getElem? (i := 93) rfl)) rfl
theorem q_70 : (Jvm.Cond.code ({ cls := "KindDesk", name := "isDemand", desc := "(I)Z" } : Jvm.MethodName) prog_1_method_20_code (1 : Nat) (Option.some Jvm.ClassFile.FieldType.boolean)) ∈ GW := gw (List.mem_append_right _ (List.mem_append_left _ (List.mem_of_getElem? (i := 65) rfl))) rfl
theorem q_71 : (Jvm.Cond.static ({ cls := "KindDesk", name := "isDemand", desc := "(I)Z" } : Jvm.MethodName)) ∈ GW := gw (List.mem_append_right _ (List.mem_append_left _ (List.mem_of_getElem? (i := 64) rfl))) rfl
theorem q_72 : (Jvm.Cond.methodLink "KindDesk$Groups" (3 : Nat) ({ cls := "java/lang/Object", name := "<init>", desc := "()V" } : Jvm.MethodName)) ∈ GW := gw (List.mem_append_left _ (List.mem_of_getElem? (i := 114) rfl)) rfl
theorem q_73 : (Jvm.Cond.fieldLink "KindDesk$Groups" (9 : Nat) "KindDesk$Groups" "groups" "[I") ∈ GW := gw (List.mem_append_left _ (List.mem_of_getElem? (i := 115) rfl)) rfl
theorem q_74 : (Jvm.Cond.fieldLink "KindDesk$Groups" (15 : Nat) "KindDesk$Groups" "groupKinds" "[I") ∈ GW := gw (List.mem_append_left _ (List.mem_of_getElem? (i := 116) rfl)) rfl
theorem q_75 : (Jvm.Cond.fieldLink "KindDesk$Groups" (18 : Nat) "KindDesk$Groups" "changes" "I") ∈ GW := gw (List.mem_append_left _ (List.mem_of_getElem? (i := 117) rfl)) rfl
theorem q_76 : (Jvm.Cond.code ({ cls := "java/util/Arrays", name := "fill", desc := "([II)V" } : Jvm.MethodName) prog_12_method_103_code (4 : Nat) (Option.none : Option Jvm.ClassFile.FieldType)) ∈ GW := gw (List.mem_append_right _ (List.mem_append_left _ (List.mem_of_getElem? (i := 100) rfl))) rfl
theorem q_77 : (Jvm.Cond.initialized "java/util/Arrays") ∈ GW := gw (List.mem_append_left _ (List.mem_of_getElem? (i := 11) rfl)) rfl
theorem q_78 : (Jvm.Cond.methodLink "KindDesk$Groups" (22 : Nat) ({ cls := "java/util/Arrays", name := "fill", desc := "([II)V" } : Jvm.MethodName)) ∈ GW := gw (List.mem_append_right _ (List.mem_append_left _ (List.mem_of_getElem? (i := 98) rfl))) rfl
theorem q_79 : (Jvm.Cond.static ({ cls := "java/util/Arrays", name := "fill", desc := "([II)V" } : Jvm.MethodName)) ∈ GW := gw (List.mem_append_right _ (List.mem_append_left _ (List.mem_of_getElem? (i := 99) rfl))) rfl
theorem q_80 : (Jvm.Cond.code ({ cls := "KindDesk", name := "isVariable", desc := "(I)Z" } : Jvm.MethodName) prog_1_method_19_code (1 : Nat) (Option.some Jvm.ClassFile.FieldType.boolean)) ∈ GW := gw (List.mem_append_right _ (List.mem_append_left _ (List.mem_of_getElem? (i := 57) rfl))) rfl
theorem q_81 : (Jvm.Cond.static ({ cls := "KindDesk", name := "isVariable", desc := "(I)Z" } : Jvm.MethodName)) ∈ GW := gw (List.mem_append_right _ (List.mem_append_left _ (List.mem_of_getElem? (i := 56) rfl))) rfl
theorem q_82 : (Jvm.Cond.methodLink "KindDesk$Solver" (3 : Nat) ({ cls := "java/lang/Object", name := "<init>", desc := "()V" } : Jvm.MethodName)) ∈ GW := gw (List.mem_append_left _ (List.mem_of_getElem? (i := 108) rfl)) rfl
theorem q_83 : (Jvm.Cond.classLink "KindDesk$Solver" (9 : Nat) "KindDesk$Groups") ∈ GW := gw (List.mem_append_left _ (List.mem_of_getElem? (i := 109) rfl)) rfl
theorem q_84 : (Jvm.Cond.instantiable "KindDesk$Groups" (3 : Nat)) ∈ GW := gw (List.mem_append_left _ (List.mem_of_getElem? (i := 110) rfl)) rfl
theorem q_85 : (Jvm.Cond.initialized "KindDesk$Groups") ∈ GW := gw (List.mem_append_left _ (List.mem_of_getElem? (i := 8) rfl)) rfl
theorem q_86 : (Jvm.Cond.code ({ cls := "KindDesk$Groups", name := "<init>", desc := "()V" } : Jvm.MethodName) prog_4_method_1_code (1 : Nat) (Option.none : Option Jvm.ClassFile.FieldType)) ∈ GW := gw (List.mem_append_left _ (List.mem_of_getElem? (i := 113) rfl)) rfl
theorem q_87 : (Jvm.Cond.instanceMethod ({ cls := "KindDesk$Groups", name := "<init>", desc := "()V" } : Jvm.MethodName)) ∈ GW := gw (List.mem_append_left _ (List.mem_of_getElem? (i := 112) rfl)) rfl
theorem q_88 : (Jvm.Cond.fieldLink "KindDesk$Solver" (12 : Nat) "KindDesk$Solver" "groups" "LKindDesk$Groups;") ∈ GW := gw (List.mem_append_left _ (List.mem_of_getElem? (i := 129) rfl)) rfl
theorem q_89 : (Jvm.Cond.fieldLink "KindDesk$Solver" (18 : Nat) "KindDesk$Solver" "meanings" "[I") ∈ GW := gw (List.mem_append_left _ (List.mem_of_getElem? (i := 131) rfl)) rfl
theorem q_90 : (Jvm.Cond.fieldLink "KindDesk$Solver" (22 : Nat) "KindDesk$Solver" "settled" "I") ∈ GW := gw (List.mem_append_left _ (List.mem_of_getElem? (i := 132) rfl)) rfl
theorem q_91 : (Jvm.Cond.fieldLink "KindDesk$Solver" (26 : Nat) "KindDesk$Solver" "rounds" "I") ∈ GW := gw (List.mem_append_left _ (List.mem_of_getElem? (i := 133) rfl)) rfl
theorem q_92 : (Jvm.Cond.fieldLink "KindDesk$Solver" (29 : Nat) "KindDesk$Solver" "culprit" "I") ∈ GW := gw (List.mem_append_left _ (List.mem_of_getElem? (i := 135) rfl)) rfl
theorem q_93 : (Jvm.Cond.fieldLink "KindDesk$Solver" (32 : Nat) "KindDesk$Solver" "kinds" "LKindDesk$Kinds;") ∈ GW := gw (List.mem_append_left _ (List.mem_of_getElem? (i := 126) rfl)) rfl
theorem q_94 : (Jvm.Cond.fieldLink "KindDesk$Solver" (36 : Nat) "KindDesk$Solver" "predicates" "LKindDesk$Table;") ∈ GW := gw (List.mem_append_left _ (List.mem_of_getElem? (i := 127) rfl)) rfl
theorem q_95 : (Jvm.Cond.fieldLink "KindDesk$Solver" (40 : Nat) "KindDesk$Solver" "demands" "LKindDesk$Demands;") ∈ GW := gw (List.mem_append_left _ (List.mem_of_getElem? (i := 128) rfl)) rfl
theorem q_96 : (Jvm.Cond.code ({ cls := "KindDesk$Groups", name := "scatter", desc := "()V" } : Jvm.MethodName) prog_4_method_2_code (2 : Nat) (Option.none : Option Jvm.ClassFile.FieldType)) ∈ GW := gw (List.mem_append_right _ (List.mem_append_left _ (List.mem_of_getElem? (i := 97) rfl))) rfl
theorem q_97 : (Jvm.Cond.instanceMethod ({ cls := "KindDesk$Groups", name := "scatter", desc := "()V" } : Jvm.MethodName)) ∈ GW := gw (List.mem_append_right _ (List.mem_append_left _ (List.mem_of_getElem? (i := 96) rfl))) rfl
theorem q_98 : Cond.selects "KindDesk$Groups" ⟨"KindDesk$Groups", "scatter", "()V"⟩ ⟨"KindDesk$Groups", "scatter", "()V"⟩ ∈ GW := gws (List.mem_of_getElem? (i := 22) rfl) rfl
theorem q_99 : (Jvm.Cond.methodLink "KindDesk$Solver" (63 : Nat) ({ cls := "java/util/Arrays", name := "fill", desc := "([II)V" } : Jvm.MethodName)) ∈ GW := gw (List.mem_append_right _ (List.mem_append_left _ (List.mem_of_getElem? (i := 101) rfl))) rfl
theorem q_100 : (Jvm.Cond.code ({ cls := "KindDesk$Table", name := "at", desc := "(II)I" } : Jvm.MethodName) prog_8_method_6_code (3 : Nat) (Option.some Jvm.ClassFile.FieldType.int)) ∈ GW := gw (List.mem_append_right _ (List.mem_append_left _ (List.mem_of_getElem? (i := 125) rfl))) rfl
theorem q_101 : (Jvm.Cond.instanceMethod ({ cls := "KindDesk$Table", name := "at", desc := "(II)I" } : Jvm.MethodName)) ∈ GW := gw (List.mem_append_right _ (List.mem_append_left _ (List.mem_of_getElem? (i := 124) rfl))) rfl
theorem q_102 : Cond.selects "KindDesk$Table" ⟨"KindDesk$Table", "at", "(II)I"⟩ ⟨"KindDesk$Table", "at", "(II)I"⟩ ∈ GW := gws (List.mem_of_getElem? (i := 28) rfl) rfl
theorem q_103 : (Jvm.Cond.code ({ cls := "KindDesk$Groups", name := "give", desc := "(II)Z" } : Jvm.MethodName) prog_4_method_5_code (4 : Nat) (Option.some Jvm.ClassFile.FieldType.boolean)) ∈ GW := gw (List.mem_append_right _ (List.mem_append_left _ (List.mem_of_getElem? (i := 129) rfl))) rfl
theorem q_104 : (Jvm.Cond.instanceMethod ({ cls := "KindDesk$Groups", name := "give", desc := "(II)Z" } : Jvm.MethodName)) ∈ GW := gw (List.mem_append_right _ (List.mem_append_left _ (List.mem_of_getElem? (i := 128) rfl))) rfl
theorem q_105 : Cond.selects "KindDesk$Groups" ⟨"KindDesk$Groups", "give", "(II)Z"⟩ ⟨"KindDesk$Groups", "give", "(II)Z"⟩ ∈ GW := gws (List.mem_of_getElem? (i := 29) rfl) rfl
theorem q_106 : (Jvm.Cond.code ({ cls := "KindDesk$Demands", name := "subjectOf", desc := "(I)I" } : Jvm.MethodName) prog_2_method_5_code (2 : Nat) (Option.some Jvm.ClassFile.FieldType.int)) ∈ GW := gw (List.mem_append_right _ (List.mem_append_left _ (List.mem_of_getElem? (i := 138) rfl))) rfl
theorem q_107 : (Jvm.Cond.initialized "KindDesk$Demands") ∈ GW := gw (List.mem_append_left _ (List.mem_of_getElem? (i := 6) rfl)) rfl
theorem q_108 : (Jvm.Cond.instanceMethod ({ cls := "KindDesk$Demands", name := "subjectOf", desc := "(I)I" } : Jvm.MethodName)) ∈ GW := gw (List.mem_append_right _ (List.mem_append_left _ (List.mem_of_getElem? (i := 137) rfl))) rfl
theorem q_109 : Cond.selects "KindDesk$Demands" ⟨"KindDesk$Demands", "subjectOf", "(I)I"⟩ ⟨"KindDesk$Demands", "subjectOf", "(I)I"⟩ ∈ GW := gws (List.mem_of_getElem? (i := 31) rfl) rfl
theorem q_110 : (Jvm.Cond.code ({ cls := "KindDesk$Groups", name := "allows", desc := "(II)Z" } : Jvm.MethodName) prog_4_method_4_code (4 : Nat) (Option.some Jvm.ClassFile.FieldType.boolean)) ∈ GW := gw (List.mem_append_right _ (List.mem_append_left _ (List.mem_of_getElem? (i := 162) rfl))) rfl
theorem q_111 : (Jvm.Cond.instanceMethod ({ cls := "KindDesk$Groups", name := "allows", desc := "(II)Z" } : Jvm.MethodName)) ∈ GW := gw (List.mem_append_right _ (List.mem_append_left _ (List.mem_of_getElem? (i := 161) rfl))) rfl
theorem q_112 : Cond.selects "KindDesk$Groups" ⟨"KindDesk$Groups", "allows", "(II)Z"⟩ ⟨"KindDesk$Groups", "allows", "(II)Z"⟩ ∈ GW := gws (List.mem_of_getElem? (i := 36) rfl) rfl
theorem q_113 : (Jvm.Cond.code ({ cls := "KindDesk$Solver", name := "fits", desc := "(II)Z" } : Jvm.MethodName) prog_7_method_10_code (6 : Nat) (Option.some Jvm.ClassFile.FieldType.boolean)) ∈ GW := gw (List.mem_append_right _ (List.mem_append_left _ (List.mem_of_getElem? (i := 156) rfl))) rfl
theorem q_114 : (Jvm.Cond.initialized "KindDesk$Solver") ∈ GW := gw (List.mem_append_left _ (List.mem_of_getElem? (i := 7) rfl)) rfl
theorem q_115 : (Jvm.Cond.methodLink "KindDesk$Solver" (124 : Nat) ({ cls := "KindDesk$Solver", name := "fits", desc := "(II)Z" } : Jvm.MethodName)) ∈ GW := gw (List.mem_append_right _ (List.mem_append_left _ (List.mem_of_getElem? (i := 153) rfl))) rfl
theorem q_116 : (Jvm.Cond.instanceMethod ({ cls := "KindDesk$Solver", name := "fits", desc := "(II)Z" } : Jvm.MethodName)) ∈ GW := gw (List.mem_append_right _ (List.mem_append_left _ (List.mem_of_getElem? (i := 155) rfl))) rfl
theorem q_117 : Cond.selects "KindDesk$Solver" ⟨"KindDesk$Solver", "fits", "(II)Z"⟩ ⟨"KindDesk$Solver", "fits", "(II)Z"⟩ ∈ GW := gws (List.mem_of_getElem? (i := 35) rfl) rfl
theorem q_118 : (Jvm.Cond.code ({ cls := "KindDesk$Solver", name := "giveAll", desc := "(IILKindDesk$Table;I)Z" } : Jvm.MethodName) prog_7_method_8_code (6 : Nat) (Option.some Jvm.ClassFile.FieldType.boolean)) ∈ GW := gw (List.mem_append_right _ (List.mem_append_left _ (List.mem_of_getElem? (i := 142) rfl))) rfl
theorem q_119 : (Jvm.Cond.methodLink "KindDesk$Solver" (103 : Nat) ({ cls := "KindDesk$Solver", name := "giveAll", desc := "(IILKindDesk$Table;I)Z" } : Jvm.MethodName)) ∈ GW := gw (List.mem_append_right _ (List.mem_append_left _ (List.mem_of_getElem? (i := 139) rfl))) rfl
theorem q_120 : (Jvm.Cond.instanceMethod ({ cls := "KindDesk$Solver", name := "giveAll", desc := "(IILKindDesk$Table;I)Z" } : Jvm.MethodName)) ∈ GW := gw (List.mem_append_right _ (List.mem_append_left _ (List.mem_of_getElem? (i := 141) rfl))) rfl
theorem q_121 : Cond.selects "KindDesk$Solver" ⟨"KindDesk$Solver", "giveAll", "(IILKindDesk$Table;I)Z"⟩ ⟨"KindDesk$Solver", "giveAll", "(IILKindDesk$Table;I)Z"⟩ ∈ GW := gws (List.mem_of_getElem? (i := 32) rfl) rfl
theorem q_122 : (Jvm.Cond.code ({ cls := "KindDesk$Demands", name := "sortOf", desc := "(I)I" } : Jvm.MethodName) prog_2_method_4_code (2 : Nat) (Option.some Jvm.ClassFile.FieldType.int)) ∈ GW := gw (List.mem_append_right _ (List.mem_append_left _ (List.mem_of_getElem? (i := 121) rfl))) rfl
theorem q_123 : (Jvm.Cond.instanceMethod ({ cls := "KindDesk$Demands", name := "sortOf", desc := "(I)I" } : Jvm.MethodName)) ∈ GW := gw (List.mem_append_right _ (List.mem_append_left _ (List.mem_of_getElem? (i := 120) rfl))) rfl
theorem q_124 : Cond.selects "KindDesk$Demands" ⟨"KindDesk$Demands", "sortOf", "(I)I"⟩ ⟨"KindDesk$Demands", "sortOf", "(I)I"⟩ ∈ GW := gws (List.mem_of_getElem? (i := 27) rfl) rfl
theorem q_125 : (Jvm.Cond.code ({ cls := "KindDesk$Groups", name := "join", desc := "(II)Z" } : Jvm.MethodName) prog_4_method_6_code (6 : Nat) (Option.some Jvm.ClassFile.FieldType.boolean)) ∈ GW := gw (List.mem_append_right _ (List.mem_append_left _ (List.mem_of_getElem? (i := 134) rfl))) rfl
theorem q_126 : (Jvm.Cond.instanceMethod ({ cls := "KindDesk$Groups", name := "join", desc := "(II)Z" } : Jvm.MethodName)) ∈ GW := gw (List.mem_append_right _ (List.mem_append_left _ (List.mem_of_getElem? (i := 133) rfl))) rfl
theorem q_127 : Cond.selects "KindDesk$Groups" ⟨"KindDesk$Groups", "join", "(II)Z"⟩ ⟨"KindDesk$Groups", "join", "(II)Z"⟩ ∈ GW := gws (List.mem_of_getElem? (i := 30) rfl) rfl
theorem q_128 : (Jvm.Cond.code ({ cls := "KindDesk$Solver", name := "meaningOf", desc := "(I)I" } : Jvm.MethodName) prog_7_method_11_code (2 : Nat) (Option.some Jvm.ClassFile.FieldType.int)) ∈ GW := gw (List.mem_append_right _ (List.mem_append_left _ (List.mem_of_getElem? (i := 147) rfl))) rfl
theorem q_129 : (Jvm.Cond.methodLink "KindDesk$Solver" (107 : Nat) ({ cls := "KindDesk$Solver", name := "meaningOf", desc := "(I)I" } : Jvm.MethodName)) ∈ GW := gw (List.mem_append_right _ (List.mem_append_left _ (List.mem_of_getElem? (i := 144) rfl))) rfl
theorem q_130 : (Jvm.Cond.instanceMethod ({ cls := "KindDesk$Solver", name := "meaningOf", desc := "(I)I" } : Jvm.MethodName)) ∈ GW := gw (List.mem_append_right _ (List.mem_append_left _ (List.mem_of_getElem? (i := 146) rfl))) rfl
theorem q_131 : Cond.selects "KindDesk$Solver" ⟨"KindDesk$Solver", "meaningOf", "(I)I"⟩ ⟨"KindDesk$Solver", "meaningOf", "(I)I"⟩ ∈ GW := gws (List.mem_of_getElem? (i := 33) rfl) rfl
theorem q_132 : (Jvm.Cond.code ({ cls := "KindDesk$Solver", name := "meetForm", desc := "(I)Z" } : Jvm.MethodName) prog_7_method_9_code (4 : Nat) (Option.some Jvm.ClassFile.FieldType.boolean)) ∈ GW := gw (List.mem_append_right _ (List.mem_append_left _ (List.mem_of_getElem? (i := 152) rfl))) rfl
theorem q_133 : (Jvm.Cond.methodLink "KindDesk$Solver" (110 : Nat) ({ cls := "KindDesk$Solver", name := "meetForm", desc := "(I)Z" } : Jvm.MethodName)) ∈ GW := gw (List.mem_append_right _ (List.mem_append_left _ (List.mem_of_getElem? (i := 149) rfl))) rfl
theorem q_134 : (Jvm.Cond.instanceMethod ({ cls := "KindDesk$Solver", name := "meetForm", desc := "(I)Z" } : Jvm.MethodName)) ∈ GW := gw (List.mem_append_right _ (List.mem_append_left _ (List.mem_of_getElem? (i := 151) rfl))) rfl
theorem q_135 : Cond.selects "KindDesk$Solver" ⟨"KindDesk$Solver", "meetForm", "(I)Z"⟩ ⟨"KindDesk$Solver", "meetForm", "(I)Z"⟩ ∈ GW := gws (List.mem_of_getElem? (i := 34) rfl) rfl
theorem q_136 : (Jvm.Cond.code ({ cls := "KindDesk$Demands", name := "count", desc := "()I" } : Jvm.MethodName) prog_2_method_3_code (1 : Nat) (Option.some Jvm.ClassFile.FieldType.int)) ∈ GW := gw (List.mem_append_right _ (List.mem_append_left _ (List.mem_of_getElem? (i := 113) rfl))) rfl
theorem q_137 : (Jvm.Cond.instanceMethod ({ cls := "KindDesk$Demands", name := "count", desc := "()I" } : Jvm.MethodName)) ∈ GW := gw (List.mem_append_right _ (List.mem_append_left _ (List.mem_of_getElem? (i := 112) rfl))) rfl
theorem q_138 : Cond.selects "KindDesk$Demands" ⟨"KindDesk$Demands", "count", "()I"⟩ ⟨"KindDesk$Demands", "count", "()I"⟩ ∈ GW := gws (List.mem_of_getElem? (i := 25) rfl) rfl
theorem q_139 : (Jvm.Cond.code ({ cls := "KindDesk$Solver", name := "meet", desc := "(I)Z" } : Jvm.MethodName) prog_7_method_7_code (3 : Nat) (Option.some Jvm.ClassFile.FieldType.boolean)) ∈ GW := gw (List.mem_append_right _ (List.mem_append_left _ (List.mem_of_getElem? (i := 117) rfl))) rfl
theorem q_140 : (Jvm.Cond.methodLink "KindDesk$Solver" (76 : Nat) ({ cls := "KindDesk$Solver", name := "meet", desc := "(I)Z" } : Jvm.MethodName)) ∈ GW := gw (List.mem_append_right _ (List.mem_append_left _ (List.mem_of_getElem? (i := 114) rfl))) rfl
theorem q_141 : (Jvm.Cond.instanceMethod ({ cls := "KindDesk$Solver", name := "meet", desc := "(I)Z" } : Jvm.MethodName)) ∈ GW := gw (List.mem_append_right _ (List.mem_append_left _ (List.mem_of_getElem? (i := 116) rfl))) rfl
theorem q_142 : Cond.selects "KindDesk$Solver" ⟨"KindDesk$Solver", "meet", "(I)Z"⟩ ⟨"KindDesk$Solver", "meet", "(I)Z"⟩ ∈ GW := gws (List.mem_of_getElem? (i := 26) rfl) rfl
theorem q_143 : (Jvm.Cond.code ({ cls := "KindDesk$Groups", name := "kindOf", desc := "(I)I" } : Jvm.MethodName) prog_4_method_3_code (2 : Nat) (Option.some Jvm.ClassFile.FieldType.int)) ∈ GW := gw (List.mem_append_right _ (List.mem_append_left _ (List.mem_of_getElem? (i := 174) rfl))) rfl
theorem q_144 : (Jvm.Cond.instanceMethod ({ cls := "KindDesk$Groups", name := "kindOf", desc := "(I)I" } : Jvm.MethodName)) ∈ GW := gw (List.mem_append_right _ (List.mem_append_left _ (List.mem_of_getElem? (i := 173) rfl))) rfl
theorem q_145 : Cond.selects "KindDesk$Groups" ⟨"KindDesk$Groups", "kindOf", "(I)I"⟩ ⟨"KindDesk$Groups", "kindOf", "(I)I"⟩ ∈ GW := gws (List.mem_of_getElem? (i := 39) rfl) rfl
theorem q_146 : (Jvm.Cond.methodLink "KindDesk$Solver" (140 : Nat) ({ cls := "java/lang/Math", name := "min", desc := "(II)I" } : Jvm.MethodName)) ∈ GW := gw (List.mem_append_right _ (List.mem_append_left _ (List.mem_of_getElem? (i := 175) rfl))) rfl
theorem q_147 : (Jvm.Cond.static ({ cls := "java/lang/Math", name := "min", desc := "(II)I" } : Jvm.MethodName)) ∈ GW := gw (List.mem_append_right _ (List.mem_append_left _ (List.mem_of_getElem? (i := 176) rfl))) rfl
theorem q_148 : (Jvm.Cond.code ({ cls := "java/lang/Math", name := "min", desc := "(II)I" } : Jvm.MethodName) prog_11_method_69_code (2 : Nat) (Option.some Jvm.ClassFile.FieldType.int)) ∈ GW := gw (List.mem_append_right _ (List.mem_append_left _ (List.mem_of_getElem? (i := 177) rfl))) rfl
theorem q_149 : (Jvm.Cond.code ({ cls := "KindDesk$Solver", name := "begin", desc := "()V" } : Jvm.MethodName) prog_7_method_4_code (1 : Nat) (Option.none : Option Jvm.ClassFile.FieldType)) ∈ GW := gw (List.mem_append_right _ (List.mem_append_left _ (List.mem_of_getElem? (i := 93) rfl))) rfl
theorem q_150 : (Jvm.Cond.methodLink "KindDesk$Solver" (44 : Nat) ({ cls := "KindDesk$Solver", name := "begin", desc := "()V" } : Jvm.MethodName)) ∈ GW := gw (List.mem_append_right _ (List.mem_append_left _ (List.mem_of_getElem? (i := 90) rfl))) rfl
theorem q_151 : (Jvm.Cond.instanceMethod ({ cls := "KindDesk$Solver", name := "begin", desc := "()V" } : Jvm.MethodName)) ∈ GW := gw (List.mem_append_right _ (List.mem_append_left _ (List.mem_of_getElem? (i := 92) rfl))) rfl
theorem q_152 : Cond.selects "KindDesk$Solver" ⟨"KindDesk$Solver", "begin", "()V"⟩ ⟨"KindDesk$Solver", "begin", "()V"⟩ ∈ GW := gws (List.mem_of_getElem? (i := 21) rfl) rfl
theorem q_153 : (Jvm.Cond.code ({ cls := "KindDesk$Solver", name := "changes", desc := "()I" } : Jvm.MethodName) prog_7_method_5_code (1 : Nat) (Option.some Jvm.ClassFile.FieldType.int)) ∈ GW := gw (List.mem_append_right _ (List.mem_append_left _ (List.mem_of_getElem? (i := 105) rfl))) rfl
theorem q_154 : (Jvm.Cond.methodLink "KindDesk$Solver" (47 : Nat) ({ cls := "KindDesk$Solver", name := "changes", desc := "()I" } : Jvm.MethodName)) ∈ GW := gw (List.mem_append_right _ (List.mem_append_left _ (List.mem_of_getElem? (i := 102) rfl))) rfl
theorem q_155 : (Jvm.Cond.instanceMethod ({ cls := "KindDesk$Solver", name := "changes", desc := "()I" } : Jvm.MethodName)) ∈ GW := gw (List.mem_append_right _ (List.mem_append_left _ (List.mem_of_getElem? (i := 104) rfl))) rfl
theorem q_156 : Cond.selects "KindDesk$Solver" ⟨"KindDesk$Solver", "changes", "()I"⟩ ⟨"KindDesk$Solver", "changes", "()I"⟩ ∈ GW := gws (List.mem_of_getElem? (i := 23) rfl) rfl
theorem q_157 : (Jvm.Cond.code ({ cls := "KindDesk$Solver", name := "goRound", desc := "()I" } : Jvm.MethodName) prog_7_method_6_code (2 : Nat) (Option.some Jvm.ClassFile.FieldType.int)) ∈ GW := gw (List.mem_append_right _ (List.mem_append_left _ (List.mem_of_getElem? (i := 109) rfl))) rfl
theorem q_158 : (Jvm.Cond.methodLink "KindDesk$Solver" (51 : Nat) ({ cls := "KindDesk$Solver", name := "goRound", desc := "()I" } : Jvm.MethodName)) ∈ GW := gw (List.mem_append_right _ (List.mem_append_left _ (List.mem_of_getElem? (i := 106) rfl))) rfl
theorem q_159 : (Jvm.Cond.instanceMethod ({ cls := "KindDesk$Solver", name := "goRound", desc := "()I" } : Jvm.MethodName)) ∈ GW := gw (List.mem_append_right _ (List.mem_append_left _ (List.mem_of_getElem? (i := 108) rfl))) rfl
theorem q_160 : Cond.selects "KindDesk$Solver" ⟨"KindDesk$Solver", "goRound", "()I"⟩ ⟨"KindDesk$Solver", "goRound", "()I"⟩ ∈ GW := gws (List.mem_of_getElem? (i := 24) rfl) rfl
theorem q_161 : (Jvm.Cond.code ({ cls := "KindDesk$Solver", name := "firstWaiting", desc := "()I" } : Jvm.MethodName) prog_7_method_12_code (2 : Nat) (Option.some Jvm.ClassFile.FieldType.int)) ∈ GW := gw (List.mem_append_right _ (List.mem_append_left _ (List.mem_of_getElem? (i := 166) rfl))) rfl
theorem q_162 : (Jvm.Cond.methodLink "KindDesk$Solver" (54 : Nat) ({ cls := "KindDesk$Solver", name := "firstWaiting", desc := "()I" } : Jvm.MethodName)) ∈ GW := gw (List.mem_append_right _ (List.mem_append_left _ (List.mem_of_getElem? (i := 163) rfl))) rfl
theorem q_163 : (Jvm.Cond.instanceMethod ({ cls := "KindDesk$Solver", name := "firstWaiting", desc := "()I" } : Jvm.MethodName)) ∈ GW := gw (List.mem_append_right _ (List.mem_append_left _ (List.mem_of_getElem? (i := 165) rfl))) rfl
theorem q_164 : Cond.selects "KindDesk$Solver" ⟨"KindDesk$Solver", "firstWaiting", "()I"⟩ ⟨"KindDesk$Solver", "firstWaiting", "()I"⟩ ∈ GW := gws (List.mem_of_getElem? (i := 37) rfl) rfl
theorem q_165 : (Jvm.Cond.code ({ cls := "KindDesk$Solver", name := "leastWithoutKind", desc := "()I" } : Jvm.MethodName) prog_7_method_13_code (5 : Nat) (Option.some Jvm.ClassFile.FieldType.int)) ∈ GW := gw (List.mem_append_right _ (List.mem_append_left _ (List.mem_of_getElem? (i := 170) rfl))) rfl
theorem q_166 : (Jvm.Cond.methodLink "KindDesk$Solver" (57 : Nat) ({ cls := "KindDesk$Solver", name := "leastWithoutKind", desc := "()I" } : Jvm.MethodName)) ∈ GW := gw (List.mem_append_right _ (List.mem_append_left _ (List.mem_of_getElem? (i := 167) rfl))) rfl
theorem q_167 : (Jvm.Cond.instanceMethod ({ cls := "KindDesk$Solver", name := "leastWithoutKind", desc := "()I" } : Jvm.MethodName)) ∈ GW := gw (List.mem_append_right _ (List.mem_append_left _ (List.mem_of_getElem? (i := 169) rfl))) rfl
theorem q_168 : Cond.selects "KindDesk$Solver" ⟨"KindDesk$Solver", "leastWithoutKind", "()I"⟩ ⟨"KindDesk$Solver", "leastWithoutKind", "()I"⟩ ∈ GW := gws (List.mem_of_getElem? (i := 38) rfl) rfl
theorem q_169 : (Jvm.Cond.methodLink "KindDesk$Findings" (3 : Nat) ({ cls := "java/lang/Object", name := "<init>", desc := "()V" } : Jvm.MethodName)) ∈ GW := gw (List.mem_append_left _ (List.mem_of_getElem? (i := 159) rfl)) rfl
theorem q_170 : (Jvm.Cond.fieldLink "KindDesk$Findings" (9 : Nat) "KindDesk$Findings" "variableKinds" "[I") ∈ GW := gw (List.mem_append_left _ (List.mem_of_getElem? (i := 160) rfl)) rfl
theorem q_171 : (Jvm.Cond.fieldLink "KindDesk$Findings" (15 : Nat) "KindDesk$Findings" "meanings" "[I") ∈ GW := gw (List.mem_append_left _ (List.mem_of_getElem? (i := 161) rfl)) rfl
theorem q_172 : (Jvm.Cond.fieldLink "KindDesk$Findings" (18 : Nat) "KindDesk$Findings" "known" "Z") ∈ GW := gw (List.mem_append_left _ (List.mem_of_getElem? (i := 162) rfl)) rfl
theorem q_173 : (Jvm.Cond.methodLink "KindDesk" (3 : Nat) ({ cls := "java/lang/Object", name := "<init>", desc := "()V" } : Jvm.MethodName)) ∈ GW := gw (List.mem_append_left _ (List.mem_of_getElem? (i := 17) rfl)) rfl
theorem q_174 : (Jvm.Cond.classLink "KindDesk" (9 : Nat) "KindDesk$Row") ∈ GW := gw (List.mem_append_left _ (List.mem_of_getElem? (i := 20) rfl)) rfl
theorem q_175 : (Jvm.Cond.instantiable "KindDesk$Row" (2 : Nat)) ∈ GW := gw (List.mem_append_left _ (List.mem_of_getElem? (i := 21) rfl)) rfl
theorem q_176 : (Jvm.Cond.code ({ cls := "KindDesk$Row", name := "<init>", desc := "()V" } : Jvm.MethodName) prog_6_method_1_code (1 : Nat) (Option.none : Option Jvm.ClassFile.FieldType)) ∈ GW := gw (List.mem_append_left _ (List.mem_of_getElem? (i := 24) rfl)) rfl
theorem q_177 : (Jvm.Cond.instanceMethod ({ cls := "KindDesk$Row", name := "<init>", desc := "()V" } : Jvm.MethodName)) ∈ GW := gw (List.mem_append_left _ (List.mem_of_getElem? (i := 23) rfl)) rfl
theorem q_178 : (Jvm.Cond.fieldLink "KindDesk" (12 : Nat) "KindDesk" "row" "LKindDesk$Row;") ∈ GW := gw (List.mem_append_left _ (List.mem_of_getElem? (i := 170) rfl)) rfl
theorem q_179 : (Jvm.Cond.classLink "KindDesk" (16 : Nat) "KindDesk$Kinds") ∈ GW := gw (List.mem_append_left _ (List.mem_of_getElem? (i := 38) rfl)) rfl
theorem q_180 : (Jvm.Cond.instantiable "KindDesk$Kinds" (4 : Nat)) ∈ GW := gw (List.mem_append_left _ (List.mem_of_getElem? (i := 39) rfl)) rfl
theorem q_181 : (Jvm.Cond.code ({ cls := "KindDesk$Kinds", name := "<init>", desc := "()V" } : Jvm.MethodName) prog_5_method_1_code (1 : Nat) (Option.none : Option Jvm.ClassFile.FieldType)) ∈ GW := gw (List.mem_append_left _ (List.mem_of_getElem? (i := 42) rfl)) rfl
theorem q_182 : (Jvm.Cond.instanceMethod ({ cls := "KindDesk$Kinds", name := "<init>", desc := "()V" } : Jvm.MethodName)) ∈ GW := gw (List.mem_append_left _ (List.mem_of_getElem? (i := 41) rfl)) rfl
theorem q_183 : (Jvm.Cond.fieldLink "KindDesk" (19 : Nat) "KindDesk" "kinds" "LKindDesk$Kinds;") ∈ GW := gw (List.mem_append_left _ (List.mem_of_getElem? (i := 171) rfl)) rfl
theorem q_184 : (Jvm.Cond.classLink "KindDesk" (23 : Nat) "KindDesk$Table") ∈ GW := gw (List.mem_append_left _ (List.mem_of_getElem? (i := 81) rfl)) rfl
theorem q_185 : (Jvm.Cond.fieldLink "KindDesk" (28 : Nat) "KindDesk" "predicates" "LKindDesk$Table;") ∈ GW := gw (List.mem_append_left _ (List.mem_of_getElem? (i := 172) rfl)) rfl
theorem q_186 : (Jvm.Cond.classLink "KindDesk" (32 : Nat) "KindDesk$Demands") ∈ GW := gw (List.mem_append_left _ (List.mem_of_getElem? (i := 83) rfl)) rfl
theorem q_187 : (Jvm.Cond.instantiable "KindDesk$Demands" (3 : Nat)) ∈ GW := gw (List.mem_append_left _ (List.mem_of_getElem? (i := 84) rfl)) rfl
theorem q_188 : (Jvm.Cond.code ({ cls := "KindDesk$Demands", name := "<init>", desc := "()V" } : Jvm.MethodName) prog_2_method_1_code (1 : Nat) (Option.none : Option Jvm.ClassFile.FieldType)) ∈ GW := gw (List.mem_append_left _ (List.mem_of_getElem? (i := 87) rfl)) rfl
theorem q_189 : (Jvm.Cond.instanceMethod ({ cls := "KindDesk$Demands", name := "<init>", desc := "()V" } : Jvm.MethodName)) ∈ GW := gw (List.mem_append_left _ (List.mem_of_getElem? (i := 86) rfl)) rfl
theorem q_190 : (Jvm.Cond.fieldLink "KindDesk" (35 : Nat) "KindDesk" "demands" "LKindDesk$Demands;") ∈ GW := gw (List.mem_append_left _ (List.mem_of_getElem? (i := 173) rfl)) rfl
theorem q_191 : (Jvm.Cond.classLink "KindDesk" (39 : Nat) "KindDesk$Solver") ∈ GW := gw (List.mem_append_left _ (List.mem_of_getElem? (i := 103) rfl)) rfl
theorem q_192 : (Jvm.Cond.instantiable "KindDesk$Solver" (8 : Nat)) ∈ GW := gw (List.mem_append_left _ (List.mem_of_getElem? (i := 104) rfl)) rfl
theorem q_193 : (Jvm.Cond.code ({ cls := "KindDesk$Solver", name := "<init>", desc := "(LKindDesk$Kinds;LKindDesk$Table;LKindDesk$Demands;)V" } : Jvm.MethodName) prog_7_method_1_code (4 : Nat) (Option.none : Option Jvm.ClassFile.FieldType)) ∈ GW := gw (List.mem_append_left _ (List.mem_of_getElem? (i := 107) rfl)) rfl
theorem q_194 : (Jvm.Cond.instanceMethod ({ cls := "KindDesk$Solver", name := "<init>", desc := "(LKindDesk$Kinds;LKindDesk$Table;LKindDesk$Demands;)V" } : Jvm.MethodName)) ∈ GW := gw (List.mem_append_left _ (List.mem_of_getElem? (i := 106) rfl)) rfl
theorem q_195 : (Jvm.Cond.fieldLink "KindDesk" (44 : Nat) "KindDesk" "solver" "LKindDesk$Solver;") ∈ GW := gw (List.mem_append_left _ (List.mem_of_getElem? (i := 174) rfl)) rfl
theorem q_196 : (Jvm.Cond.classLink "KindDesk" (48 : Nat) "KindDesk$Findings") ∈ GW := gw (List.mem_append_left _ (List.mem_of_getElem? (i := 154) rfl)) rfl
theorem q_197 : (Jvm.Cond.instantiable "KindDesk$Findings" (3 : Nat)) ∈ GW := gw (List.mem_append_left _ (List.mem_of_getElem? (i := 155) rfl)) rfl
theorem q_198 : (Jvm.Cond.initialized "KindDesk$Findings") ∈ GW := gw (List.mem_append_left _ (List.mem_of_getElem? (i := 9) rfl)) rfl
theorem q_199 : (Jvm.Cond.code ({ cls := "KindDesk$Findings", name := "<init>", desc := "()V" } : Jvm.MethodName) prog_3_method_1_code (1 : Nat) (Option.none : Option Jvm.ClassFile.FieldType)) ∈ GW := gw (List.mem_append_left _ (List.mem_of_getElem? (i := 158) rfl)) rfl
theorem q_200 : (Jvm.Cond.instanceMethod ({ cls := "KindDesk$Findings", name := "<init>", desc := "()V" } : Jvm.MethodName)) ∈ GW := gw (List.mem_append_left _ (List.mem_of_getElem? (i := 157) rfl)) rfl
theorem q_201 : (Jvm.Cond.fieldLink "KindDesk" (51 : Nat) "KindDesk" "findings" "LKindDesk$Findings;") ∈ GW := gw (List.mem_append_left _ (List.mem_of_getElem? (i := 175) rfl)) rfl
theorem q_202 : (Jvm.Cond.code ({ cls := "KindDesk$Kinds", name := "addKind", desc := "()I" } : Jvm.MethodName) prog_5_method_2_code (1 : Nat) (Option.some Jvm.ClassFile.FieldType.int)) ∈ GW := gw (List.mem_append_left _ (List.mem_of_getElem? (i := 196) rfl)) rfl
theorem q_203 : (Jvm.Cond.instanceMethod ({ cls := "KindDesk$Kinds", name := "addKind", desc := "()I" } : Jvm.MethodName)) ∈ GW := gw (List.mem_append_left _ (List.mem_of_getElem? (i := 195) rfl)) rfl
theorem q_204 : Cond.selects "KindDesk$Kinds" ⟨"KindDesk$Kinds", "addKind", "()I"⟩ ⟨"KindDesk$Kinds", "addKind", "()I"⟩ ∈ GW := gws (List.mem_of_getElem? (i := 0) rfl) rfl
theorem q_205 : (Jvm.Cond.code ({ cls := "KindDesk$Row", name := "add", desc := "(I)Z" } : Jvm.MethodName) prog_6_method_2_code (2 : Nat) (Option.some Jvm.ClassFile.FieldType.boolean)) ∈ GW := gw (List.mem_append_left _ (List.mem_of_getElem? (i := 204) rfl)) rfl
theorem q_206 : (Jvm.Cond.instanceMethod ({ cls := "KindDesk$Row", name := "add", desc := "(I)Z" } : Jvm.MethodName)) ∈ GW := gw (List.mem_append_left _ (List.mem_of_getElem? (i := 203) rfl)) rfl
theorem q_207 : Cond.selects "KindDesk$Row" ⟨"KindDesk$Row", "add", "(I)Z"⟩ ⟨"KindDesk$Row", "add", "(I)Z"⟩ ∈ GW := gws (List.mem_of_getElem? (i := 1) rfl) rfl
theorem q_208 : (Jvm.Cond.code ({ cls := "KindDesk$Kinds", name := "takes", desc := "(IILKindDesk$Row;)Z" } : Jvm.MethodName) prog_5_method_5_code (4 : Nat) (Option.some Jvm.ClassFile.FieldType.boolean)) ∈ GW := gw (List.mem_append_left _ (List.mem_of_getElem? (i := 212) rfl)) rfl
theorem q_209 : (Jvm.Cond.instanceMethod ({ cls := "KindDesk$Kinds", name := "takes", desc := "(IILKindDesk$Row;)Z" } : Jvm.MethodName)) ∈ GW := gw (List.mem_append_left _ (List.mem_of_getElem? (i := 211) rfl)) rfl
theorem q_210 : Cond.selects "KindDesk$Kinds" ⟨"KindDesk$Kinds", "takes", "(IILKindDesk$Row;)Z"⟩ ⟨"KindDesk$Kinds", "takes", "(IILKindDesk$Row;)Z"⟩ ∈ GW := gws (List.mem_of_getElem? (i := 2) rfl) rfl
theorem q_211 : (Jvm.Cond.code ({ cls := "KindDesk$Row", name := "clear", desc := "()V" } : Jvm.MethodName) prog_6_method_4_code (1 : Nat) (Option.none : Option Jvm.ClassFile.FieldType)) ∈ GW := gw (List.mem_append_right _ (List.mem_append_left _ (List.mem_of_getElem? (i := 23) rfl))) rfl
theorem q_212 : (Jvm.Cond.instanceMethod ({ cls := "KindDesk$Row", name := "clear", desc := "()V" } : Jvm.MethodName)) ∈ GW := gw (List.mem_append_right _ (List.mem_append_left _ (List.mem_of_getElem? (i := 22) rfl))) rfl
theorem q_213 : Cond.selects "KindDesk$Row" ⟨"KindDesk$Row", "clear", "()V"⟩ ⟨"KindDesk$Row", "clear", "()V"⟩ ∈ GW := gws (List.mem_of_getElem? (i := 14) rfl) rfl
theorem q_214 : (Jvm.Cond.code ({ cls := "KindDesk$Kinds", name := "addConstructor", desc := "(IILKindDesk$Row;)I" } : Jvm.MethodName) prog_5_method_6_code (5 : Nat) (Option.some Jvm.ClassFile.FieldType.int)) ∈ GW := gw (List.mem_append_right _ (List.mem_append_left _ (List.mem_of_getElem? (i := 7) rfl))) rfl
theorem q_215 : (Jvm.Cond.instanceMethod ({ cls := "KindDesk$Kinds", name := "addConstructor", desc := "(IILKindDesk$Row;)I" } : Jvm.MethodName)) ∈ GW := gw (List.mem_append_right _ (List.mem_append_left _ (List.mem_of_getElem? (i := 6) rfl))) rfl
theorem q_216 : Cond.selects "KindDesk$Kinds" ⟨"KindDesk$Kinds", "addConstructor", "(IILKindDesk$Row;)I"⟩ ⟨"KindDesk$Kinds", "addConstructor", "(IILKindDesk$Row;)I"⟩ ∈ GW := gws (List.mem_of_getElem? (i := 10) rfl) rfl
theorem q_217 : (Jvm.Cond.code ({ cls := "KindDesk$Kinds", name := "count", desc := "()I" } : Jvm.MethodName) prog_5_method_3_code (1 : Nat) (Option.some Jvm.ClassFile.FieldType.int)) ∈ GW := gw (List.mem_append_right _ (List.mem_append_left _ (List.mem_of_getElem? (i := 31) rfl))) rfl
theorem q_218 : (Jvm.Cond.instanceMethod ({ cls := "KindDesk$Kinds", name := "count", desc := "()I" } : Jvm.MethodName)) ∈ GW := gw (List.mem_append_right _ (List.mem_append_left _ (List.mem_of_getElem? (i := 30) rfl))) rfl
theorem q_219 : Cond.selects "KindDesk$Kinds" ⟨"KindDesk$Kinds", "count", "()I"⟩ ⟨"KindDesk$Kinds", "count", "()I"⟩ ∈ GW := gws (List.mem_of_getElem? (i := 15) rfl) rfl
theorem q_220 : (Jvm.Cond.code ({ cls := "KindDesk$Demands", name := "clear", desc := "()V" } : Jvm.MethodName) prog_2_method_6_code (1 : Nat) (Option.none : Option Jvm.ClassFile.FieldType)) ∈ GW := gw (List.mem_append_right _ (List.mem_append_left _ (List.mem_of_getElem? (i := 42) rfl))) rfl
theorem q_221 : (Jvm.Cond.instanceMethod ({ cls := "KindDesk$Demands", name := "clear", desc := "()V" } : Jvm.MethodName)) ∈ GW := gw (List.mem_append_right _ (List.mem_append_left _ (List.mem_of_getElem? (i := 41) rfl))) rfl
theorem q_222 : Cond.selects "KindDesk$Demands" ⟨"KindDesk$Demands", "clear", "()V"⟩ ⟨"KindDesk$Demands", "clear", "()V"⟩ ∈ GW := gws (List.mem_of_getElem? (i := 16) rfl) rfl
theorem q_223 : (Jvm.Cond.code ({ cls := "KindDesk$Solver", name := "forget", desc := "()V" } : Jvm.MethodName) prog_7_method_2_code (1 : Nat) (Option.none : Option Jvm.ClassFile.FieldType)) ∈ GW := gw (List.mem_append_right _ (List.mem_append_left _ (List.mem_of_getElem? (i := 46) rfl))) rfl
theorem q_224 : (Jvm.Cond.instanceMethod ({ cls := "KindDesk$Solver", name := "forget", desc := "()V" } : Jvm.MethodName)) ∈ GW := gw (List.mem_append_right _ (List.mem_append_left _ (List.mem_of_getElem? (i := 45) rfl))) rfl
theorem q_225 : Cond.selects "KindDesk$Solver" ⟨"KindDesk$Solver", "forget", "()V"⟩ ⟨"KindDesk$Solver", "forget", "()V"⟩ ∈ GW := gws (List.mem_of_getElem? (i := 17) rfl) rfl
theorem q_226 : (Jvm.Cond.code ({ cls := "KindDesk$Findings", name := "forget", desc := "()V" } : Jvm.MethodName) prog_3_method_2_code (1 : Nat) (Option.none : Option Jvm.ClassFile.FieldType)) ∈ GW := gw (List.mem_append_right _ (List.mem_append_left _ (List.mem_of_getElem? (i := 50) rfl))) rfl
theorem q_227 : (Jvm.Cond.instanceMethod ({ cls := "KindDesk$Findings", name := "forget", desc := "()V" } : Jvm.MethodName)) ∈ GW := gw (List.mem_append_right _ (List.mem_append_left _ (List.mem_of_getElem? (i := 49) rfl))) rfl
theorem q_228 : Cond.selects "KindDesk$Findings" ⟨"KindDesk$Findings", "forget", "()V"⟩ ⟨"KindDesk$Findings", "forget", "()V"⟩ ∈ GW := gws (List.mem_of_getElem? (i := 18) rfl) rfl
theorem q_229 : (Jvm.Cond.methodLink "KindDesk" (92 : Nat) ({ cls := "KindDesk", name := "isVariable", desc := "(I)Z" } : Jvm.MethodName)) ∈ GW := gw (List.mem_append_right _ (List.mem_append_left _ (List.mem_of_getElem? (i := 55) rfl))) rfl
theorem q_230 : (Jvm.Cond.code ({ cls := "KindDesk$Demands", name := "add", desc := "(III)I" } : Jvm.MethodName) prog_2_method_2_code (5 : Nat) (Option.some Jvm.ClassFile.FieldType.int)) ∈ GW := gw (List.mem_append_right _ (List.mem_append_left _ (List.mem_of_getElem? (i := 61) rfl))) rfl
theorem q_231 : (Jvm.Cond.instanceMethod ({ cls := "KindDesk$Demands", name := "add", desc := "(III)I" } : Jvm.MethodName)) ∈ GW := gw (List.mem_append_right _ (List.mem_append_left _ (List.mem_of_getElem? (i := 60) rfl))) rfl
theorem q_232 : Cond.selects "KindDesk$Demands" ⟨"KindDesk$Demands", "add", "(III)I"⟩ ⟨"KindDesk$Demands", "add", "(III)I"⟩ ∈ GW := gws (List.mem_of_getElem? (i := 19) rfl) rfl
theorem q_233 : (Jvm.Cond.methodLink "KindDesk" (112 : Nat) ({ cls := "KindDesk", name := "isName", desc := "(I)Z" } : Jvm.MethodName)) ∈ GW := gw (List.mem_append_right _ (List.mem_append_left _ (List.mem_of_getElem? (i := 81) rfl))) rfl
theorem q_234 : (Jvm.Cond.code ({ cls := "KindDesk$Solver", name := "run", desc := "()I" } : Jvm.MethodName) prog_7_method_3_code (2 : Nat) (Option.some Jvm.ClassFile.FieldType.int)) ∈ GW := gw (List.mem_append_right _ (List.mem_append_left _ (List.mem_of_getElem? (i := 89) rfl))) rfl
theorem q_235 : (Jvm.Cond.instanceMethod ({ cls := "KindDesk$Solver", name := "run", desc := "()I" } : Jvm.MethodName)) ∈ GW := gw (List.mem_append_right _ (List.mem_append_left _ (List.mem_of_getElem? (i := 88) rfl))) rfl
theorem q_236 : Cond.selects "KindDesk$Solver" ⟨"KindDesk$Solver", "run", "()I"⟩ ⟨"KindDesk$Solver", "run", "()I"⟩ ∈ GW := gws (List.mem_of_getElem? (i := 20) rfl) rfl
theorem q_237 : (Jvm.Cond.code ({ cls := "KindDesk$Findings", name := "keep", desc := "(LKindDesk$Solver;)V" } : Jvm.MethodName) prog_3_method_3_code (3 : Nat) (Option.none : Option Jvm.ClassFile.FieldType)) ∈ GW := gw (List.mem_append_right _ (List.mem_append_left _ (List.mem_of_getElem? (i := 181) rfl))) rfl
theorem q_238 : (Jvm.Cond.instanceMethod ({ cls := "KindDesk$Findings", name := "keep", desc := "(LKindDesk$Solver;)V" } : Jvm.MethodName)) ∈ GW := gw (List.mem_append_right _ (List.mem_append_left _ (List.mem_of_getElem? (i := 180) rfl))) rfl
theorem q_239 : Cond.selects "KindDesk$Findings" ⟨"KindDesk$Findings", "keep", "(LKindDesk$Solver;)V"⟩ ⟨"KindDesk$Findings", "keep", "(LKindDesk$Solver;)V"⟩ ∈ GW := gws (List.mem_of_getElem? (i := 40) rfl) rfl
theorem q_240 : (Jvm.Cond.code ({ cls := "KindDesk$Findings", name := "kindOf", desc := "(I)I" } : Jvm.MethodName) prog_3_method_4_code (2 : Nat) (Option.some Jvm.ClassFile.FieldType.int)) ∈ GW := gw (List.mem_append_right _ (List.mem_append_left _ (List.mem_of_getElem? (i := 195) rfl))) rfl
theorem q_241 : (Jvm.Cond.instanceMethod ({ cls := "KindDesk$Findings", name := "kindOf", desc := "(I)I" } : Jvm.MethodName)) ∈ GW := gw (List.mem_append_right _ (List.mem_append_left _ (List.mem_of_getElem? (i := 194) rfl))) rfl
theorem q_242 : Cond.selects "KindDesk$Findings" ⟨"KindDesk$Findings", "kindOf", "(I)I"⟩ ⟨"KindDesk$Findings", "kindOf", "(I)I"⟩ ∈ GW := gws (List.mem_of_getElem? (i := 41) rfl) rfl
theorem q_243 : (Jvm.Cond.code ({ cls := "KindDesk$Findings", name := "meaningOf", desc := "(I)I" } : Jvm.MethodName) prog_3_method_5_code (2 : Nat) (Option.some Jvm.ClassFile.FieldType.int)) ∈ GW := gw (List.mem_append_right _ (List.mem_append_left _ (List.mem_of_getElem? (i := 204) rfl))) rfl
theorem q_244 : (Jvm.Cond.instanceMethod ({ cls := "KindDesk$Findings", name := "meaningOf", desc := "(I)I" } : Jvm.MethodName)) ∈ GW := gw (List.mem_append_right _ (List.mem_append_left _ (List.mem_of_getElem? (i := 203) rfl))) rfl
theorem q_245 : Cond.selects "KindDesk$Findings" ⟨"KindDesk$Findings", "meaningOf", "(I)I"⟩ ⟨"KindDesk$Findings", "meaningOf", "(I)I"⟩ ∈ GW := gws (List.mem_of_getElem? (i := 42) rfl) rfl
theorem q_246 : (Jvm.Cond.code ({ cls := "KindDesk$Kinds", name := "constructorsOf", desc := "(I)I" } : Jvm.MethodName) prog_5_method_10_code (4 : Nat) (Option.some Jvm.ClassFile.FieldType.int)) ∈ GW := gw (List.mem_append_right _ (List.mem_append_left _ (List.mem_of_getElem? (i := 221) rfl))) rfl
theorem q_247 : (Jvm.Cond.instanceMethod ({ cls := "KindDesk$Kinds", name := "constructorsOf", desc := "(I)I" } : Jvm.MethodName)) ∈ GW := gw (List.mem_append_right _ (List.mem_append_left _ (List.mem_of_getElem? (i := 220) rfl))) rfl
theorem q_248 : Cond.selects "KindDesk$Kinds" ⟨"KindDesk$Kinds", "constructorsOf", "(I)I"⟩ ⟨"KindDesk$Kinds", "constructorsOf", "(I)I"⟩ ∈ GW := gws (List.mem_of_getElem? (i := 43) rfl) rfl
theorem q_249 : (Jvm.Cond.code ({ cls := "KindDesk$Kinds", name := "pick", desc := "(II)I" } : Jvm.MethodName) prog_5_method_11_code (5 : Nat) (Option.some Jvm.ClassFile.FieldType.int)) ∈ GW := gw (List.mem_append_right _ (List.mem_append_left _ (List.mem_of_getElem? (i := 229) rfl))) rfl
theorem q_250 : (Jvm.Cond.instanceMethod ({ cls := "KindDesk$Kinds", name := "pick", desc := "(II)I" } : Jvm.MethodName)) ∈ GW := gw (List.mem_append_right _ (List.mem_append_left _ (List.mem_of_getElem? (i := 228) rfl))) rfl
theorem q_251 : Cond.selects "KindDesk$Kinds" ⟨"KindDesk$Kinds", "pick", "(II)I"⟩ ⟨"KindDesk$Kinds", "pick", "(II)I"⟩ ∈ GW := gws (List.mem_of_getElem? (i := 44) rfl) rfl
theorem q_252 : (Jvm.Cond.fieldLink "KindDeskModel" (65 : Nat) "KindDeskModel" "solvedType" "[I") ∈ GW := gw (List.mem_append_right _ (List.mem_append_right _ (List.mem_of_getElem? (i := 30) rfl))) rfl
theorem q_253 : (Jvm.Cond.fieldLink "KindDeskModel" (68 : Nat) "KindDeskModel" "solvedMeans" "[I") ∈ GW := gw (List.mem_append_right _ (List.mem_append_right _ (List.mem_of_getElem? (i := 31) rfl))) rfl
theorem q_254 : (Jvm.Cond.fieldLink "KindDeskModel" (59 : Nat) "KindDeskModel" "told0" "I") ∈ GW := gw (List.mem_append_right _ (List.mem_append_right _ (List.mem_of_getElem? (i := 28) rfl))) rfl
theorem q_255 : (Jvm.Cond.fieldLink "KindDeskModel" (62 : Nat) "KindDeskModel" "told1" "I") ∈ GW := gw (List.mem_append_right _ (List.mem_append_right _ (List.mem_of_getElem? (i := 29) rfl))) rfl
theorem q_256 : (Jvm.Cond.fieldLink "KindDeskModel" (7 : Nat) "KindDeskModel" "types" "I") ∈ GW := gw (List.mem_append_right _ (List.mem_append_right _ (List.mem_of_getElem? (i := 6) rfl))) rfl
theorem q_257 : (Jvm.Cond.fieldLink "KindDeskModel" (74 : Nat) "KindDeskModel" "thrown" "I") ∈ GW := gw (List.mem_append_right _ (List.mem_append_right _ (List.mem_of_getElem? (i := 5) rfl))) rfl
theorem q_258 : (Jvm.Cond.fieldLink "KindDeskModel" (77 : Nat) "KindDeskModel" "rowMany" "I") ∈ GW := gw (List.mem_append_right _ (List.mem_append_right _ (List.mem_of_getElem? (i := 16) rfl))) rfl
theorem q_259 : (Jvm.Cond.fieldLink "KindDeskModel" (32 : Nat) "KindDeskModel" "row" "[I") ∈ GW := gw (List.mem_append_right _ (List.mem_append_right _ (List.mem_of_getElem? (i := 15) rfl))) rfl
theorem q_260 : (Jvm.Cond.code ({ cls := "KindDeskModel", name := "isType", desc := "(I)Z" } : Jvm.MethodName) prog_10_method_4_code (2 : Nat) (Option.some Jvm.ClassFile.FieldType.boolean)) ∈ GW := gw (List.mem_append_right _ (List.mem_append_right _ (List.mem_of_getElem? (i := 106) rfl))) rfl
theorem q_261 : (Jvm.Cond.initialized "KindDeskModel") ∈ GW := gw (List.mem_append_left _ (List.mem_of_getElem? (i := 10) rfl)) rfl
theorem q_262 : (Jvm.Cond.methodLink "KindDeskModel" (80 : Nat) ({ cls := "KindDeskModel", name := "isType", desc := "(I)Z" } : Jvm.MethodName)) ∈ GW := gw (List.mem_append_right _ (List.mem_append_right _ (List.mem_of_getElem? (i := 103) rfl))) rfl
theorem q_263 : (Jvm.Cond.instanceMethod ({ cls := "KindDeskModel", name := "isType", desc := "(I)Z" } : Jvm.MethodName)) ∈ GW := gw (List.mem_append_right _ (List.mem_append_right _ (List.mem_of_getElem? (i := 105) rfl))) rfl
theorem q_264 : Cond.selects "KindDeskModel" ⟨"KindDeskModel", "isType", "(I)Z"⟩ ⟨"KindDeskModel", "isType", "(I)Z"⟩ ∈ GW := gws (List.mem_of_getElem? (i := 47) rfl) rfl
theorem q_265 : (Jvm.Cond.code ({ cls := "KindDeskModel", name := "isVariable", desc := "(I)Z" } : Jvm.MethodName) prog_10_method_5_code (1 : Nat) (Option.some Jvm.ClassFile.FieldType.boolean)) ∈ GW := gw (List.mem_append_right _ (List.mem_append_right _ (List.mem_of_getElem? (i := 129) rfl))) rfl
theorem q_266 : (Jvm.Cond.methodLink "KindDeskModel" (84 : Nat) ({ cls := "KindDeskModel", name := "isVariable", desc := "(I)Z" } : Jvm.MethodName)) ∈ GW := gw (List.mem_append_right _ (List.mem_append_right _ (List.mem_of_getElem? (i := 127) rfl))) rfl
theorem q_267 : (Jvm.Cond.static ({ cls := "KindDeskModel", name := "isVariable", desc := "(I)Z" } : Jvm.MethodName)) ∈ GW := gw (List.mem_append_right _ (List.mem_append_right _ (List.mem_of_getElem? (i := 128) rfl))) rfl
theorem q_268 : (Jvm.Cond.fieldLink "KindDeskModel" (91 : Nat) "KindDeskModel" "constructors" "I") ∈ GW := gw (List.mem_append_right _ (List.mem_append_right _ (List.mem_of_getElem? (i := 7) rfl))) rfl
theorem q_269 : (Jvm.Cond.fieldLink "KindDeskModel" (13 : Nat) "KindDeskModel" "conType" "[I") ∈ GW := gw (List.mem_append_right _ (List.mem_append_right _ (List.mem_of_getElem? (i := 8) rfl))) rfl
theorem q_270 : (Jvm.Cond.fieldLink "KindDeskModel" (17 : Nat) "KindDeskModel" "conName" "[I") ∈ GW := gw (List.mem_append_right _ (List.mem_append_right _ (List.mem_of_getElem? (i := 9) rfl))) rfl
theorem q_271 : (Jvm.Cond.fieldLink "KindDeskModel" (20 : Nat) "KindDeskModel" "conMany" "[I") ∈ GW := gw (List.mem_append_right _ (List.mem_append_right _ (List.mem_of_getElem? (i := 10) rfl))) rfl
theorem q_272 : (Jvm.Cond.code ({ cls := "KindDeskModel", name := "taken", desc := "()I" } : Jvm.MethodName) prog_10_method_8_code (2 : Nat) (Option.some Jvm.ClassFile.FieldType.int)) ∈ GW := gw (List.mem_append_right _ (List.mem_append_right _ (List.mem_of_getElem? (i := 102) rfl))) rfl
theorem q_273 : (Jvm.Cond.methodLink "KindDeskModel" (87 : Nat) ({ cls := "KindDeskModel", name := "taken", desc := "()I" } : Jvm.MethodName)) ∈ GW := gw (List.mem_append_right _ (List.mem_append_right _ (List.mem_of_getElem? (i := 99) rfl))) rfl
theorem q_274 : (Jvm.Cond.instanceMethod ({ cls := "KindDeskModel", name := "taken", desc := "()I" } : Jvm.MethodName)) ∈ GW := gw (List.mem_append_right _ (List.mem_append_right _ (List.mem_of_getElem? (i := 101) rfl))) rfl
theorem q_275 : Cond.selects "KindDeskModel" ⟨"KindDeskModel", "taken", "()I"⟩ ⟨"KindDeskModel", "taken", "()I"⟩ ∈ GW := gws (List.mem_of_getElem? (i := 46) rfl) rfl
theorem q_276 : (Jvm.Cond.code ({ cls := "KindDeskModel", name := "areTypes", desc := "(I)Z" } : Jvm.MethodName) prog_10_method_9_code (3 : Nat) (Option.some Jvm.ClassFile.FieldType.boolean)) ∈ GW := gw (List.mem_append_right _ (List.mem_append_right _ (List.mem_of_getElem? (i := 110) rfl))) rfl
theorem q_277 : (Jvm.Cond.methodLink "KindDeskModel" (94 : Nat) ({ cls := "KindDeskModel", name := "areTypes", desc := "(I)Z" } : Jvm.MethodName)) ∈ GW := gw (List.mem_append_right _ (List.mem_append_right _ (List.mem_of_getElem? (i := 107) rfl))) rfl
theorem q_278 : (Jvm.Cond.instanceMethod ({ cls := "KindDeskModel", name := "areTypes", desc := "(I)Z" } : Jvm.MethodName)) ∈ GW := gw (List.mem_append_right _ (List.mem_append_right _ (List.mem_of_getElem? (i := 109) rfl))) rfl
theorem q_279 : Cond.selects "KindDeskModel" ⟨"KindDeskModel", "areTypes", "(I)Z"⟩ ⟨"KindDeskModel", "areTypes", "(I)Z"⟩ ∈ GW := gws (List.mem_of_getElem? (i := 48) rfl) rfl
theorem q_280 : (Jvm.Cond.code ({ cls := "KindDeskModel", name := "found", desc := "(III)I" } : Jvm.MethodName) prog_10_method_12_code (5 : Nat) (Option.some Jvm.ClassFile.FieldType.int)) ∈ GW := gw (List.mem_append_right _ (List.mem_append_right _ (List.mem_of_getElem? (i := 114) rfl))) rfl
theorem q_281 : (Jvm.Cond.methodLink "KindDeskModel" (97 : Nat) ({ cls := "KindDeskModel", name := "found", desc := "(III)I" } : Jvm.MethodName)) ∈ GW := gw (List.mem_append_right _ (List.mem_append_right _ (List.mem_of_getElem? (i := 111) rfl))) rfl
theorem q_282 : (Jvm.Cond.instanceMethod ({ cls := "KindDeskModel", name := "found", desc := "(III)I" } : Jvm.MethodName)) ∈ GW := gw (List.mem_append_right _ (List.mem_append_right _ (List.mem_of_getElem? (i := 113) rfl))) rfl
theorem q_283 : Cond.selects "KindDeskModel" ⟨"KindDeskModel", "found", "(III)I"⟩ ⟨"KindDeskModel", "found", "(III)I"⟩ ∈ GW := gws (List.mem_of_getElem? (i := 49) rfl) rfl
theorem q_284 : (Jvm.Cond.fieldLink "KindDeskModel" (23 : Nat) "KindDeskModel" "conField" "[I") ∈ GW := gw (List.mem_append_right _ (List.mem_append_right _ (List.mem_of_getElem? (i := 11) rfl))) rfl
theorem q_285 : (Jvm.Cond.fieldLink "KindDeskModel" (101 : Nat) "KindDeskModel" "predicates" "I") ∈ GW := gw (List.mem_append_right _ (List.mem_append_right _ (List.mem_of_getElem? (i := 12) rfl))) rfl
theorem q_286 : (Jvm.Cond.fieldLink "KindDeskModel" (26 : Nat) "KindDeskModel" "predMany" "[I") ∈ GW := gw (List.mem_append_right _ (List.mem_append_right _ (List.mem_of_getElem? (i := 13) rfl))) rfl
theorem q_287 : (Jvm.Cond.fieldLink "KindDeskModel" (29 : Nat) "KindDeskModel" "predField" "[I") ∈ GW := gw (List.mem_append_right _ (List.mem_append_right _ (List.mem_of_getElem? (i := 14) rfl))) rfl
theorem q_288 : (Jvm.Cond.fieldLink "KindDeskModel" (104 : Nat) "KindDeskModel" "demands" "I") ∈ GW := gw (List.mem_append_right _ (List.mem_append_right _ (List.mem_of_getElem? (i := 17) rfl))) rfl
theorem q_289 : (Jvm.Cond.code ({ cls := "KindDeskModel", name := "forget", desc := "()V" } : Jvm.MethodName) prog_10_method_3_code (2 : Nat) (Option.none : Option Jvm.ClassFile.FieldType)) ∈ GW := gw (List.mem_append_right _ (List.mem_append_right _ (List.mem_of_getElem? (i := 4) rfl))) rfl
theorem q_290 : (Jvm.Cond.methodLink "KindDeskModel" (71 : Nat) ({ cls := "KindDeskModel", name := "forget", desc := "()V" } : Jvm.MethodName)) ∈ GW := gw (List.mem_append_right _ (List.mem_append_right _ (List.mem_of_getElem? (i := 1) rfl))) rfl
theorem q_291 : (Jvm.Cond.instanceMethod ({ cls := "KindDeskModel", name := "forget", desc := "()V" } : Jvm.MethodName)) ∈ GW := gw (List.mem_append_right _ (List.mem_append_right _ (List.mem_of_getElem? (i := 3) rfl))) rfl
theorem q_292 : Cond.selects "KindDeskModel" ⟨"KindDeskModel", "forget", "()V"⟩ ⟨"KindDeskModel", "forget", "()V"⟩ ∈ GW := gws (List.mem_of_getElem? (i := 45) rfl) rfl
theorem q_293 : (Jvm.Cond.fieldLink "KindDeskModel" (35 : Nat) "KindDeskModel" "sort" "[I") ∈ GW := gw (List.mem_append_right _ (List.mem_append_right _ (List.mem_of_getElem? (i := 18) rfl))) rfl
theorem q_294 : (Jvm.Cond.fieldLink "KindDeskModel" (38 : Nat) "KindDeskModel" "what" "[I") ∈ GW := gw (List.mem_append_right _ (List.mem_append_right _ (List.mem_of_getElem? (i := 19) rfl))) rfl
theorem q_295 : (Jvm.Cond.fieldLink "KindDeskModel" (41 : Nat) "KindDeskModel" "first" "[I") ∈ GW := gw (List.mem_append_right _ (List.mem_append_right _ (List.mem_of_getElem? (i := 20) rfl))) rfl
theorem q_296 : (Jvm.Cond.fieldLink "KindDeskModel" (44 : Nat) "KindDeskModel" "many" "[I") ∈ GW := gw (List.mem_append_right _ (List.mem_append_right _ (List.mem_of_getElem? (i := 21) rfl))) rfl
theorem q_297 : (Jvm.Cond.fieldLink "KindDeskModel" (47 : Nat) "KindDeskModel" "other" "[I") ∈ GW := gw (List.mem_append_right _ (List.mem_append_right _ (List.mem_of_getElem? (i := 22) rfl))) rfl
theorem q_298 : (Jvm.Cond.code ({ cls := "KindDeskModel", name := "demand", desc := "(IIII)I" } : Jvm.MethodName) prog_10_method_15_code (7 : Nat) (Option.some Jvm.ClassFile.FieldType.int)) ∈ GW := gw (List.mem_append_right _ (List.mem_append_right _ (List.mem_of_getElem? (i := 133) rfl))) rfl
theorem q_299 : (Jvm.Cond.methodLink "KindDeskModel" (107 : Nat) ({ cls := "KindDeskModel", name := "demand", desc := "(IIII)I" } : Jvm.MethodName)) ∈ GW := gw (List.mem_append_right _ (List.mem_append_right _ (List.mem_of_getElem? (i := 130) rfl))) rfl
theorem q_300 : (Jvm.Cond.instanceMethod ({ cls := "KindDeskModel", name := "demand", desc := "(IIII)I" } : Jvm.MethodName)) ∈ GW := gw (List.mem_append_right _ (List.mem_append_right _ (List.mem_of_getElem? (i := 132) rfl))) rfl
theorem q_301 : Cond.selects "KindDeskModel" ⟨"KindDeskModel", "demand", "(IIII)I"⟩ ⟨"KindDeskModel", "demand", "(IIII)I"⟩ ∈ GW := gws (List.mem_of_getElem? (i := 50) rfl) rfl
theorem q_302 : (Jvm.Cond.code ({ cls := "KindDeskModel", name := "areVariables", desc := "(I)Z" } : Jvm.MethodName) prog_10_method_10_code (3 : Nat) (Option.some Jvm.ClassFile.FieldType.boolean)) ∈ GW := gw (List.mem_append_right _ (List.mem_append_right _ (List.mem_of_getElem? (i := 145) rfl))) rfl
theorem q_303 : (Jvm.Cond.methodLink "KindDeskModel" (111 : Nat) ({ cls := "KindDeskModel", name := "areVariables", desc := "(I)Z" } : Jvm.MethodName)) ∈ GW := gw (List.mem_append_right _ (List.mem_append_right _ (List.mem_of_getElem? (i := 142) rfl))) rfl
theorem q_304 : (Jvm.Cond.instanceMethod ({ cls := "KindDeskModel", name := "areVariables", desc := "(I)Z" } : Jvm.MethodName)) ∈ GW := gw (List.mem_append_right _ (List.mem_append_right _ (List.mem_of_getElem? (i := 144) rfl))) rfl
theorem q_305 : Cond.selects "KindDeskModel" ⟨"KindDeskModel", "areVariables", "(I)Z"⟩ ⟨"KindDeskModel", "areVariables", "(I)Z"⟩ ∈ GW := gws (List.mem_of_getElem? (i := 51) rfl) rfl
theorem q_306 : (Jvm.Cond.fieldLink "KindDeskModel" (50 : Nat) "KindDeskModel" "least" "[I") ∈ GW := gw (List.mem_append_right _ (List.mem_append_right _ (List.mem_of_getElem? (i := 23) rfl))) rfl
theorem q_307 : (Jvm.Cond.fieldLink "KindDeskModel" (53 : Nat) "KindDeskModel" "kind" "[I") ∈ GW := gw (List.mem_append_right _ (List.mem_append_right _ (List.mem_of_getElem? (i := 24) rfl))) rfl
theorem q_308 : (Jvm.Cond.fieldLink "KindDeskModel" (118 : Nat) "KindDeskModel" "clash" "Z") ∈ GW := gw (List.mem_append_right _ (List.mem_append_right _ (List.mem_of_getElem? (i := 27) rfl))) rfl
theorem q_309 : (Jvm.Cond.fieldLink "KindDeskModel" (114 : Nat) "KindDeskModel" "changed" "Z") ∈ GW := gw (List.mem_append_right _ (List.mem_append_right _ (List.mem_of_getElem? (i := 26) rfl))) rfl
theorem q_310 : (Jvm.Cond.code ({ cls := "KindDeskModel", name := "isOpen", desc := "(II)Z" } : Jvm.MethodName) prog_10_method_22_code (4 : Nat) (Option.some Jvm.ClassFile.FieldType.boolean)) ∈ GW := gw (List.mem_append_right _ (List.mem_append_right _ (List.mem_of_getElem? (i := 181) rfl))) rfl
theorem q_311 : (Jvm.Cond.methodLink "KindDeskModel" (121 : Nat) ({ cls := "KindDeskModel", name := "isOpen", desc := "(II)Z" } : Jvm.MethodName)) ∈ GW := gw (List.mem_append_right _ (List.mem_append_right _ (List.mem_of_getElem? (i := 178) rfl))) rfl
theorem q_312 : (Jvm.Cond.instanceMethod ({ cls := "KindDeskModel", name := "isOpen", desc := "(II)Z" } : Jvm.MethodName)) ∈ GW := gw (List.mem_append_right _ (List.mem_append_right _ (List.mem_of_getElem? (i := 180) rfl))) rfl
theorem q_313 : Cond.selects "KindDeskModel" ⟨"KindDeskModel", "isOpen", "(II)Z"⟩ ⟨"KindDeskModel", "isOpen", "(II)Z"⟩ ∈ GW := gws (List.mem_of_getElem? (i := 58) rfl) rfl
theorem q_314 : (Jvm.Cond.code ({ cls := "KindDeskModel", name := "fits", desc := "(II)Z" } : Jvm.MethodName) prog_10_method_23_code (4 : Nat) (Option.some Jvm.ClassFile.FieldType.boolean)) ∈ GW := gw (List.mem_append_right _ (List.mem_append_right _ (List.mem_of_getElem? (i := 177) rfl))) rfl
theorem q_315 : (Jvm.Cond.methodLink "KindDeskModel" (125 : Nat) ({ cls := "KindDeskModel", name := "fits", desc := "(II)Z" } : Jvm.MethodName)) ∈ GW := gw (List.mem_append_right _ (List.mem_append_right _ (List.mem_of_getElem? (i := 174) rfl))) rfl
theorem q_316 : (Jvm.Cond.instanceMethod ({ cls := "KindDeskModel", name := "fits", desc := "(II)Z" } : Jvm.MethodName)) ∈ GW := gw (List.mem_append_right _ (List.mem_append_right _ (List.mem_of_getElem? (i := 176) rfl))) rfl
theorem q_317 : Cond.selects "KindDeskModel" ⟨"KindDeskModel", "fits", "(II)Z"⟩ ⟨"KindDeskModel", "fits", "(II)Z"⟩ ∈ GW := gws (List.mem_of_getElem? (i := 57) rfl) rfl
theorem q_318 : (Jvm.Cond.fieldLink "KindDeskModel" (56 : Nat) "KindDeskModel" "means" "[I") ∈ GW := gw (List.mem_append_right _ (List.mem_append_right _ (List.mem_of_getElem? (i := 25) rfl))) rfl
theorem q_319 : (Jvm.Cond.code ({ cls := "KindDeskModel", name := "gets", desc := "(II)V" } : Jvm.MethodName) prog_10_method_20_code (4 : Nat) (Option.none : Option Jvm.ClassFile.FieldType)) ∈ GW := gw (List.mem_append_right _ (List.mem_append_right _ (List.mem_of_getElem? (i := 165) rfl))) rfl
theorem q_320 : (Jvm.Cond.methodLink "KindDeskModel" (128 : Nat) ({ cls := "KindDeskModel", name := "gets", desc := "(II)V" } : Jvm.MethodName)) ∈ GW := gw (List.mem_append_right _ (List.mem_append_right _ (List.mem_of_getElem? (i := 162) rfl))) rfl
theorem q_321 : (Jvm.Cond.instanceMethod ({ cls := "KindDeskModel", name := "gets", desc := "(II)V" } : Jvm.MethodName)) ∈ GW := gw (List.mem_append_right _ (List.mem_append_right _ (List.mem_of_getElem? (i := 164) rfl))) rfl
theorem q_322 : Cond.selects "KindDeskModel" ⟨"KindDeskModel", "gets", "(II)V"⟩ ⟨"KindDeskModel", "gets", "(II)V"⟩ ∈ GW := gws (List.mem_of_getElem? (i := 54) rfl) rfl
theorem q_323 : (Jvm.Cond.code ({ cls := "KindDeskModel", name := "join", desc := "(II)V" } : Jvm.MethodName) prog_10_method_21_code (8 : Nat) (Option.none : Option Jvm.ClassFile.FieldType)) ∈ GW := gw (List.mem_append_right _ (List.mem_append_right _ (List.mem_of_getElem? (i := 169) rfl))) rfl
theorem q_324 : (Jvm.Cond.methodLink "KindDeskModel" (132 : Nat) ({ cls := "KindDeskModel", name := "join", desc := "(II)V" } : Jvm.MethodName)) ∈ GW := gw (List.mem_append_right _ (List.mem_append_right _ (List.mem_of_getElem? (i := 166) rfl))) rfl
theorem q_325 : (Jvm.Cond.instanceMethod ({ cls := "KindDeskModel", name := "join", desc := "(II)V" } : Jvm.MethodName)) ∈ GW := gw (List.mem_append_right _ (List.mem_append_right _ (List.mem_of_getElem? (i := 168) rfl))) rfl
theorem q_326 : Cond.selects "KindDeskModel" ⟨"KindDeskModel", "join", "(II)V"⟩ ⟨"KindDeskModel", "join", "(II)V"⟩ ∈ GW := gws (List.mem_of_getElem? (i := 55) rfl) rfl
theorem q_327 : (Jvm.Cond.code ({ cls := "KindDeskModel", name := "formed", desc := "(I)V" } : Jvm.MethodName) prog_10_method_24_code (5 : Nat) (Option.none : Option Jvm.ClassFile.FieldType)) ∈ GW := gw (List.mem_append_right _ (List.mem_append_right _ (List.mem_of_getElem? (i := 173) rfl))) rfl
theorem q_328 : (Jvm.Cond.methodLink "KindDeskModel" (135 : Nat) ({ cls := "KindDeskModel", name := "formed", desc := "(I)V" } : Jvm.MethodName)) ∈ GW := gw (List.mem_append_right _ (List.mem_append_right _ (List.mem_of_getElem? (i := 170) rfl))) rfl
theorem q_329 : (Jvm.Cond.instanceMethod ({ cls := "KindDeskModel", name := "formed", desc := "(I)V" } : Jvm.MethodName)) ∈ GW := gw (List.mem_append_right _ (List.mem_append_right _ (List.mem_of_getElem? (i := 172) rfl))) rfl
theorem q_330 : Cond.selects "KindDeskModel" ⟨"KindDeskModel", "formed", "(I)V"⟩ ⟨"KindDeskModel", "formed", "(I)V"⟩ ∈ GW := gws (List.mem_of_getElem? (i := 56) rfl) rfl
theorem q_331 : (Jvm.Cond.code ({ cls := "KindDeskModel", name := "asked", desc := "(I)V" } : Jvm.MethodName) prog_10_method_25_code (3 : Nat) (Option.none : Option Jvm.ClassFile.FieldType)) ∈ GW := gw (List.mem_append_right _ (List.mem_append_right _ (List.mem_of_getElem? (i := 161) rfl))) rfl
theorem q_332 : (Jvm.Cond.methodLink "KindDeskModel" (139 : Nat) ({ cls := "KindDeskModel", name := "asked", desc := "(I)V" } : Jvm.MethodName)) ∈ GW := gw (List.mem_append_right _ (List.mem_append_right _ (List.mem_of_getElem? (i := 158) rfl))) rfl
theorem q_333 : (Jvm.Cond.instanceMethod ({ cls := "KindDeskModel", name := "asked", desc := "(I)V" } : Jvm.MethodName)) ∈ GW := gw (List.mem_append_right _ (List.mem_append_right _ (List.mem_of_getElem? (i := 160) rfl))) rfl
theorem q_334 : Cond.selects "KindDeskModel" ⟨"KindDeskModel", "asked", "(I)V"⟩ ⟨"KindDeskModel", "asked", "(I)V"⟩ ∈ GW := gws (List.mem_of_getElem? (i := 53) rfl) rfl
theorem q_335 : (Jvm.Cond.code ({ cls := "KindDeskModel", name := "isAsked", desc := "(I)Z" } : Jvm.MethodName) prog_10_method_27_code (4 : Nat) (Option.some Jvm.ClassFile.FieldType.boolean)) ∈ GW := gw (List.mem_append_right _ (List.mem_append_right _ (List.mem_of_getElem? (i := 185) rfl))) rfl
theorem q_336 : (Jvm.Cond.methodLink "KindDeskModel" (145 : Nat) ({ cls := "KindDeskModel", name := "isAsked", desc := "(I)Z" } : Jvm.MethodName)) ∈ GW := gw (List.mem_append_right _ (List.mem_append_right _ (List.mem_of_getElem? (i := 182) rfl))) rfl
theorem q_337 : (Jvm.Cond.instanceMethod ({ cls := "KindDeskModel", name := "isAsked", desc := "(I)Z" } : Jvm.MethodName)) ∈ GW := gw (List.mem_append_right _ (List.mem_append_right _ (List.mem_of_getElem? (i := 184) rfl))) rfl
theorem q_338 : Cond.selects "KindDeskModel" ⟨"KindDeskModel", "isAsked", "(I)Z"⟩ ⟨"KindDeskModel", "isAsked", "(I)Z"⟩ ∈ GW := gws (List.mem_of_getElem? (i := 59) rfl) rfl
theorem q_339 : (Jvm.Cond.code ({ cls := "KindDeskModel", name := "round", desc := "()I" } : Jvm.MethodName) prog_10_method_26_code (2 : Nat) (Option.some Jvm.ClassFile.FieldType.int)) ∈ GW := gw (List.mem_append_right _ (List.mem_append_right _ (List.mem_of_getElem? (i := 157) rfl))) rfl
theorem q_340 : (Jvm.Cond.methodLink "KindDeskModel" (142 : Nat) ({ cls := "KindDeskModel", name := "round", desc := "()I" } : Jvm.MethodName)) ∈ GW := gw (List.mem_append_right _ (List.mem_append_right _ (List.mem_of_getElem? (i := 154) rfl))) rfl
theorem q_341 : (Jvm.Cond.instanceMethod ({ cls := "KindDeskModel", name := "round", desc := "()I" } : Jvm.MethodName)) ∈ GW := gw (List.mem_append_right _ (List.mem_append_right _ (List.mem_of_getElem? (i := 156) rfl))) rfl
theorem q_342 : Cond.selects "KindDeskModel" ⟨"KindDeskModel", "round", "()I"⟩ ⟨"KindDeskModel", "round", "()I"⟩ ∈ GW := gws (List.mem_of_getElem? (i := 52) rfl) rfl
def nestL : List Cond := [(Jvm.Cond.fieldLinkNest "KindDesk$Table" (28 : Nat) "KindDesk$Row" "size" "I" "KindDesk"), (Jvm.Cond.fieldLinkNest "KindDesk$Table" (31 : Nat) "KindDesk$Row" "numbers" "[I" "KindDesk"), (Jvm.Cond.methodLinkNest "KindDesk$Kinds" (20 : Nat) ({ cls := "KindDesk$Table", name := "<init>", desc := "(I)V" } : Jvm.MethodName) "KindDesk"), (Jvm.Cond.fieldLinkNest "KindDesk$Kinds" (56 : Nat) "KindDesk$Table" "size" "I" "KindDesk"), (Jvm.Cond.methodLinkNest "KindDesk$Kinds" (67 : Nat) ({ cls := "KindDesk$Table", name := "length", desc := "(I)I" } : Jvm.MethodName) "KindDesk"), (Jvm.Cond.methodLinkNest "KindDesk$Kinds" (35 : Nat) ({ cls := "KindDesk", name := "isName", desc := "(I)Z" } : Jvm.MethodName) "KindDesk"), (Jvm.Cond.fieldLinkNest "KindDesk$Kinds" (38 : Nat) "KindDesk$Row" "size" "I" "KindDesk"), (Jvm.Cond.methodLinkNest "KindDesk$Kinds" (41 : Nat) ({ cls := "KindDesk$Row", name := "isBelow", desc := "(I)Z" } : Jvm.MethodName) "KindDesk"), (Jvm.Cond.methodLinkNest "KindDesk$Kinds" (48 : Nat) ({ cls := "KindDesk$Table", name := "open", desc := "()I" } : Jvm.MethodName) "KindDesk"), (Jvm.Cond.methodLinkNest "KindDesk$Kinds" (52 : Nat) ({ cls := "KindDesk$Table", name := "appendAll", desc := "(LKindDesk$Row;)V" } : Jvm.MethodName) "KindDesk"), (Jvm.Cond.methodLinkNest "KindDesk$Demands" (20 : Nat) ({ cls := "KindDesk$Table", name := "<init>", desc := "(I)V" } : Jvm.MethodName) "KindDesk"), (Jvm.Cond.methodLinkNest "KindDesk$Demands" (27 : Nat) ({ cls := "KindDesk$Table", name := "open", desc := "()I" } : Jvm.MethodName) "KindDesk"), (Jvm.Cond.methodLinkNest "KindDesk$Demands" (31 : Nat) ({ cls := "KindDesk", name := "isDemand", desc := "(I)Z" } : Jvm.MethodName) "KindDesk"), (Jvm.Cond.methodLinkNest "KindDesk$Demands" (35 : Nat) ({ cls := "KindDesk$Table", name := "append", desc := "(I)V" } : Jvm.MethodName) "KindDesk"), (Jvm.Cond.fieldLinkNest "KindDesk$Demands" (38 : Nat) "KindDesk$Table" "size" "I" "KindDesk"), (Jvm.Cond.methodLinkNest "KindDesk$Groups" (28 : Nat) ({ cls := "KindDesk", name := "isVariable", desc := "(I)Z" } : Jvm.MethodName) "KindDesk"), (Jvm.Cond.methodLinkNest "KindDesk$Solver" (11 : Nat) ({ cls := "KindDesk$Groups", name := "<init>", desc := "()V" } : Jvm.MethodName) "KindDesk"), (Jvm.Cond.methodLinkNest "KindDesk$Solver" (60 : Nat) ({ cls := "KindDesk$Groups", name := "scatter", desc := "()V" } : Jvm.MethodName) "KindDesk"), (Jvm.Cond.fieldLinkNest "KindDesk$Solver" (69 : Nat) "KindDesk$Groups" "changes" "I" "KindDesk"), (Jvm.Cond.methodLinkNest "KindDesk$Solver" (113 : Nat) ({ cls := "KindDesk$Table", name := "length", desc := "(I)I" } : Jvm.MethodName) "KindDesk"), (Jvm.Cond.fieldLinkNest "KindDesk$Solver" (80 : Nat) "KindDesk$Demands" "variables" "LKindDesk$Table;" "KindDesk"), (Jvm.Cond.methodLinkNest "KindDesk$Solver" (87 : Nat) ({ cls := "KindDesk$Table", name := "at", desc := "(II)I" } : Jvm.MethodName) "KindDesk"), (Jvm.Cond.methodLinkNest "KindDesk$Solver" (93 : Nat) ({ cls := "KindDesk$Groups", name := "give", desc := "(II)Z" } : Jvm.MethodName) "KindDesk"), (Jvm.Cond.methodLinkNest "KindDesk$Solver" (127 : Nat) ({ cls := "KindDesk", name := "isDemand", desc := "(I)Z" } : Jvm.MethodName) "KindDesk"), (Jvm.Cond.fieldLinkNest "KindDesk$Solver" (116 : Nat) "KindDesk$Kinds" "fields" "LKindDesk$Table;" "KindDesk"), (Jvm.Cond.methodLinkNest "KindDesk$Solver" (133 : Nat) ({ cls := "KindDesk$Kinds", name := "nameOf", desc := "(I)I" } : Jvm.MethodName) "KindDesk"), (Jvm.Cond.methodLinkNest "KindDesk$Solver" (100 : Nat) ({ cls := "KindDesk$Demands", name := "subjectOf", desc := "(I)I" } : Jvm.MethodName) "KindDesk"), (Jvm.Cond.methodLinkNest "KindDesk$Solver" (130 : Nat) ({ cls := "KindDesk$Kinds", name := "kindOf", desc := "(I)I" } : Jvm.MethodName) "KindDesk"), (Jvm.Cond.methodLinkNest "KindDesk$Solver" (136 : Nat) ({ cls := "KindDesk$Groups", name := "allows", desc := "(II)Z" } : Jvm.MethodName) "KindDesk"), (Jvm.Cond.fieldLinkNest "KindDesk$Solver" (121 : Nat) "KindDesk$Table" "size" "I" "KindDesk"), (Jvm.Cond.methodLinkNest "KindDesk$Solver" (83 : Nat) ({ cls := "KindDesk$Demands", name := "sortOf", desc := "(I)I" } : Jvm.MethodName) "KindDesk"), (Jvm.Cond.methodLinkNest "KindDesk$Solver" (97 : Nat) ({ cls := "KindDesk$Groups", name := "join", desc := "(II)Z" } : Jvm.MethodName) "KindDesk"), (Jvm.Cond.methodLinkNest "KindDesk$Solver" (71 : Nat) ({ cls := "KindDesk$Demands", name := "count", desc := "()I" } : Jvm.MethodName) "KindDesk"), (Jvm.Cond.methodLinkNest "KindDesk$Solver" (139 : Nat) ({ cls := "KindDesk$Groups", name := "kindOf", desc := "(I)I" } : Jvm.MethodName) "KindDesk"), (Jvm.Cond.fieldLinkNest "KindDesk$Findings" (22 : Nat) "KindDesk$Solver" "groups" "LKindDesk$Groups;" "KindDesk"), (Jvm.Cond.methodLinkNest "KindDesk$Findings" (28 : Nat) ({ cls := "KindDesk$Groups", name := "kindOf", desc := "(I)I" } : Jvm.MethodName) "KindDesk"), (Jvm.Cond.methodLinkNest "KindDesk$Findings" (34 : Nat) ({ cls := "KindDesk$Solver", name := "meaningOf", desc := "(I)I" } : Jvm.MethodName) "KindDesk"), (Jvm.Cond.methodLinkNest "KindDesk$Findings" (37 : Nat) ({ cls := "KindDesk", name := "isVariable", desc := "(I)Z" } : Jvm.MethodName) "KindDesk"), (Jvm.Cond.methodLinkNest "KindDesk$Findings" (41 : Nat) ({ cls := "KindDesk", name := "isDemand", desc := "(I)Z" } : Jvm.MethodName) "KindDesk"), (Jvm.Cond.methodLinkNest "KindDesk" (11 : Nat) ({ cls := "KindDesk$Row", name := "<init>", desc := "()V" } : Jvm.MethodName) "KindDesk"), (Jvm.Cond.methodLinkNest "KindDesk" (18 : Nat) ({ cls := "KindDesk$Kinds", name := "<init>", desc := "()V" } : Jvm.MethodName) "KindDesk"), (Jvm.Cond.methodLinkNest "KindDesk" (25 : Nat) ({ cls := "KindDesk$Table", name := "<init>", desc := "(I)V" } : Jvm.MethodName) "KindDesk"), (Jvm.Cond.methodLinkNest "KindDesk" (34 : Nat) ({ cls := "KindDesk$Demands", name := "<init>", desc := "()V" } : Jvm.MethodName) "KindDesk"), (Jvm.Cond.methodLinkNest "KindDesk" (41 : Nat) ({ cls := "KindDesk$Solver", name := "<init>", desc := "(LKindDesk$Kinds;LKindDesk$Table;LKindDesk$Demands;)V" } : Jvm.MethodName) "KindDesk"), (Jvm.Cond.methodLinkNest "KindDesk" (50 : Nat) ({ cls := "KindDesk$Findings", name := "<init>", desc := "()V" } : Jvm.MethodName) "KindDesk"), (Jvm.Cond.methodLinkNest "KindDesk" (55 : Nat) ({ cls := "KindDesk$Kinds", name := "addKind", desc := "()I" } : Jvm.MethodName) "KindDesk"), (Jvm.Cond.methodLinkNest "KindDesk" (59 : Nat) ({ cls := "KindDesk$Row", name := "add", desc := "(I)Z" } : Jvm.MethodName) "KindDesk"), (Jvm.Cond.methodLinkNest "KindDesk" (63 : Nat) ({ cls := "KindDesk$Kinds", name := "takes", desc := "(IILKindDesk$Row;)Z" } : Jvm.MethodName) "KindDesk"), (Jvm.Cond.methodLinkNest "KindDesk" (71 : Nat) ({ cls := "KindDesk$Row", name := "clear", desc := "()V" } : Jvm.MethodName) "KindDesk"), (Jvm.Cond.methodLinkNest "KindDesk" (67 : Nat) ({ cls := "KindDesk$Kinds", name := "addConstructor", desc := "(IILKindDesk$Row;)I" } : Jvm.MethodName) "KindDesk"), (Jvm.Cond.methodLinkNest "KindDesk" (74 : Nat) ({ cls := "KindDesk$Kinds", name := "count", desc := "()I" } : Jvm.MethodName) "KindDesk"), (Jvm.Cond.methodLinkNest "KindDesk" (77 : Nat) ({ cls := "KindDesk$Row", name := "isBelow", desc := "(I)Z" } : Jvm.MethodName) "KindDesk"), (Jvm.Cond.methodLinkNest "KindDesk" (80 : Nat) ({ cls := "KindDesk$Table", name := "open", desc := "()I" } : Jvm.MethodName) "KindDesk"), (Jvm.Cond.methodLinkNest "KindDesk" (83 : Nat) ({ cls := "KindDesk$Table", name := "appendAll", desc := "(LKindDesk$Row;)V" } : Jvm.MethodName) "KindDesk"), (Jvm.Cond.methodLinkNest "KindDesk" (87 : Nat) ({ cls := "KindDesk$Demands", name := "clear", desc := "()V" } : Jvm.MethodName) "KindDesk"), (Jvm.Cond.methodLinkNest "KindDesk" (88 : Nat) ({ cls := "KindDesk$Solver", name := "forget", desc := "()V" } : Jvm.MethodName) "KindDesk"), (Jvm.Cond.methodLinkNest "KindDesk" (91 : Nat) ({ cls := "KindDesk$Findings", name := "forget", desc := "()V" } : Jvm.MethodName) "KindDesk"), (Jvm.Cond.methodLinkNest "KindDesk" (95 : Nat) ({ cls := "KindDesk$Demands", name := "add", desc := "(III)I" } : Jvm.MethodName) "KindDesk"), (Jvm.Cond.fieldLinkNest "KindDesk" (98 : Nat) "KindDesk$Demands" "variables" "LKindDesk$Table;" "KindDesk"), (Jvm.Cond.methodLinkNest "KindDesk" (101 : Nat) ({ cls := "KindDesk$Table", name := "append", desc := "(I)V" } : Jvm.MethodName) "KindDesk"), (Jvm.Cond.methodLinkNest "KindDesk" (104 : Nat) ({ cls := "KindDesk$Table", name := "length", desc := "(I)I" } : Jvm.MethodName) "KindDesk"), (Jvm.Cond.fieldLinkNest "KindDesk" (108 : Nat) "KindDesk$Row" "size" "I" "KindDesk"), (Jvm.Cond.methodLinkNest "KindDesk" (115 : Nat) ({ cls := "KindDesk$Solver", name := "run", desc := "()I" } : Jvm.MethodName) "KindDesk"), (Jvm.Cond.methodLinkNest "KindDesk" (118 : Nat) ({ cls := "KindDesk$Findings", name := "keep", desc := "(LKindDesk$Solver;)V" } : Jvm.MethodName) "KindDesk"), (Jvm.Cond.fieldLinkNest "KindDesk" (125 : Nat) "KindDesk$Solver" "rounds" "I" "KindDesk"), (Jvm.Cond.fieldLinkNest "KindDesk" (122 : Nat) "KindDesk$Solver" "culprit" "I" "KindDesk"), (Jvm.Cond.methodLinkNest "KindDesk" (128 : Nat) ({ cls := "KindDesk$Findings", name := "kindOf", desc := "(I)I" } : Jvm.MethodName) "KindDesk"), (Jvm.Cond.methodLinkNest "KindDesk" (131 : Nat) ({ cls := "KindDesk$Findings", name := "meaningOf", desc := "(I)I" } : Jvm.MethodName) "KindDesk"), (Jvm.Cond.methodLinkNest "KindDesk" (134 : Nat) ({ cls := "KindDesk$Kinds", name := "kindOf", desc := "(I)I" } : Jvm.MethodName) "KindDesk"), (Jvm.Cond.methodLinkNest "KindDesk" (135 : Nat) ({ cls := "KindDesk$Kinds", name := "nameOf", desc := "(I)I" } : Jvm.MethodName) "KindDesk"), (Jvm.Cond.fieldLinkNest "KindDesk" (138 : Nat) "KindDesk$Kinds" "fields" "LKindDesk$Table;" "KindDesk"), (Jvm.Cond.methodLinkNest "KindDesk" (141 : Nat) ({ cls := "KindDesk$Table", name := "at", desc := "(II)I" } : Jvm.MethodName) "KindDesk"), (Jvm.Cond.methodLinkNest "KindDesk" (145 : Nat) ({ cls := "KindDesk$Kinds", name := "has", desc := "(I)Z" } : Jvm.MethodName) "KindDesk"), (Jvm.Cond.methodLinkNest "KindDesk" (148 : Nat) ({ cls := "KindDesk$Kinds", name := "constructorsOf", desc := "(I)I" } : Jvm.MethodName) "KindDesk"), (Jvm.Cond.methodLinkNest "KindDesk" (151 : Nat) ({ cls := "KindDesk$Kinds", name := "pick", desc := "(II)I" } : Jvm.MethodName) "KindDesk"), (Jvm.Cond.methodLinkNest "KindDesk" (154 : Nat) ({ cls := "KindDesk$Kinds", name := "search", desc := "(III)I" } : Jvm.MethodName) "KindDesk")]
theorem nest_in : ∀ w ∈ nestL, w ∈ lw_tbl := by
  intro w hw
  simp only [nestL, List.mem_cons, List.not_mem_nil, or_false] at hw
  rcases hw with rfl | rfl | rfl | rfl | rfl | rfl | rfl | rfl | rfl | rfl | rfl | rfl | rfl | rfl | rfl | rfl | rfl | rfl | rfl | rfl | rfl | rfl | rfl | rfl | rfl | rfl | rfl | rfl | rfl | rfl | rfl | rfl | rfl | rfl | rfl | rfl | rfl | rfl | rfl | rfl | rfl | rfl | rfl | rfl | rfl | rfl | rfl | rfl | rfl | rfl | rfl | rfl | rfl | rfl | rfl | rfl | rfl | rfl | rfl | rfl | rfl | rfl | rfl | rfl | rfl | rfl | rfl | rfl | rfl | rfl | rfl | rfl | rfl | rfl | rfl | rfl
  · exact List.mem_append_right _ (List.mem_append_left _ (List.mem_of_getElem? (i := 29) rfl))
  · exact List.mem_append_right _ (List.mem_append_left _ (List.mem_of_getElem? (i := 27) rfl))
  · exact List.mem_append_right _ (List.mem_append_left _ (List.mem_of_getElem? (i := 46) rfl))
  · exact List.mem_append_right _ (List.mem_append_left _ (List.mem_of_getElem? (i := 57) rfl))
  · exact List.mem_append_right _ (List.mem_append_right _ (List.mem_append_left _ (List.mem_of_getElem? (i := 0) rfl)))
  · exact List.mem_append_right _ (List.mem_append_left _ (List.mem_of_getElem? (i := 217) rfl))
  · exact List.mem_append_right _ (List.mem_append_left _ (List.mem_of_getElem? (i := 30) rfl))
  · exact List.mem_append_right _ (List.mem_append_left _ (List.mem_of_getElem? (i := 220) rfl))
  · exact List.mem_append_right _ (List.mem_append_right _ (List.mem_append_left _ (List.mem_of_getElem? (i := 8) rfl)))
  · exact List.mem_append_right _ (List.mem_append_right _ (List.mem_append_left _ (List.mem_of_getElem? (i := 12) rfl)))
  · exact List.mem_append_right _ (List.mem_append_left _ (List.mem_of_getElem? (i := 90) rfl))
  · exact List.mem_append_right _ (List.mem_append_right _ (List.mem_append_left _ (List.mem_of_getElem? (i := 62) rfl)))
  · exact List.mem_append_right _ (List.mem_append_right _ (List.mem_append_left _ (List.mem_of_getElem? (i := 63) rfl)))
  · exact List.mem_append_right _ (List.mem_append_right _ (List.mem_append_left _ (List.mem_of_getElem? (i := 66) rfl)))
  · exact List.mem_append_right _ (List.mem_append_left _ (List.mem_of_getElem? (i := 56) rfl))
  · exact List.mem_append_right _ (List.mem_append_right _ (List.mem_append_left _ (List.mem_of_getElem? (i := 130) rfl)))
  · exact List.mem_append_right _ (List.mem_append_left _ (List.mem_of_getElem? (i := 111) rfl))
  · exact List.mem_append_right _ (List.mem_append_right _ (List.mem_append_left _ (List.mem_of_getElem? (i := 94) rfl)))
  · exact List.mem_append_right _ (List.mem_append_left _ (List.mem_of_getElem? (i := 118) rfl))
  · exact List.mem_append_right _ (List.mem_append_right _ (List.mem_append_left _ (List.mem_of_getElem? (i := 143) rfl)))
  · exact List.mem_append_right _ (List.mem_append_left _ (List.mem_of_getElem? (i := 94) rfl))
  · exact List.mem_append_right _ (List.mem_append_right _ (List.mem_append_left _ (List.mem_of_getElem? (i := 122) rfl)))
  · exact List.mem_append_right _ (List.mem_append_right _ (List.mem_append_left _ (List.mem_of_getElem? (i := 126) rfl)))
  · exact List.mem_append_right _ (List.mem_append_right _ (List.mem_append_left _ (List.mem_of_getElem? (i := 148) rfl)))
  · exact List.mem_append_right _ (List.mem_append_left _ (List.mem_of_getElem? (i := 69) rfl))
  · exact List.mem_append_right _ (List.mem_append_right _ (List.mem_append_left _ (List.mem_of_getElem? (i := 157) rfl)))
  · exact List.mem_append_right _ (List.mem_append_right _ (List.mem_append_left _ (List.mem_of_getElem? (i := 135) rfl)))
  · exact List.mem_append_right _ (List.mem_append_right _ (List.mem_append_left _ (List.mem_of_getElem? (i := 158) rfl)))
  · exact List.mem_append_right _ (List.mem_append_right _ (List.mem_append_left _ (List.mem_of_getElem? (i := 159) rfl)))
  · exact List.mem_append_right _ (List.mem_append_left _ (List.mem_of_getElem? (i := 58) rfl))
  · exact List.mem_append_right _ (List.mem_append_right _ (List.mem_append_left _ (List.mem_of_getElem? (i := 118) rfl)))
  · exact List.mem_append_right _ (List.mem_append_right _ (List.mem_append_left _ (List.mem_of_getElem? (i := 131) rfl)))
  · exact List.mem_append_right _ (List.mem_append_right _ (List.mem_append_left _ (List.mem_of_getElem? (i := 110) rfl)))
  · exact List.mem_append_right _ (List.mem_append_right _ (List.mem_append_left _ (List.mem_of_getElem? (i := 171) rfl)))
  · exact List.mem_append_right _ (List.mem_append_left _ (List.mem_of_getElem? (i := 130) rfl))
  · exact List.mem_append_right _ (List.mem_append_right _ (List.mem_append_left _ (List.mem_of_getElem? (i := 182) rfl)))
  · exact List.mem_append_right _ (List.mem_append_right _ (List.mem_append_left _ (List.mem_of_getElem? (i := 183) rfl)))
  · exact List.mem_append_right _ (List.mem_append_right _ (List.mem_append_left _ (List.mem_of_getElem? (i := 196) rfl)))
  · exact List.mem_append_right _ (List.mem_append_right _ (List.mem_append_left _ (List.mem_of_getElem? (i := 205) rfl)))
  · exact List.mem_append_right _ (List.mem_append_left _ (List.mem_of_getElem? (i := 22) rfl))
  · exact List.mem_append_right _ (List.mem_append_left _ (List.mem_of_getElem? (i := 40) rfl))
  · exact List.mem_append_right _ (List.mem_append_left _ (List.mem_of_getElem? (i := 82) rfl))
  · exact List.mem_append_right _ (List.mem_append_left _ (List.mem_of_getElem? (i := 85) rfl))
  · exact List.mem_append_right _ (List.mem_append_left _ (List.mem_of_getElem? (i := 105) rfl))
  · exact List.mem_append_right _ (List.mem_append_left _ (List.mem_of_getElem? (i := 156) rfl))
  · exact List.mem_append_right _ (List.mem_append_left _ (List.mem_of_getElem? (i := 193) rfl))
  · exact List.mem_append_right _ (List.mem_append_left _ (List.mem_of_getElem? (i := 201) rfl))
  · exact List.mem_append_right _ (List.mem_append_left _ (List.mem_of_getElem? (i := 209) rfl))
  · exact List.mem_append_right _ (List.mem_append_right _ (List.mem_append_left _ (List.mem_of_getElem? (i := 20) rfl)))
  · exact List.mem_append_right _ (List.mem_append_right _ (List.mem_append_left _ (List.mem_of_getElem? (i := 4) rfl)))
  · exact List.mem_append_right _ (List.mem_append_right _ (List.mem_append_left _ (List.mem_of_getElem? (i := 28) rfl)))
  · exact List.mem_append_right _ (List.mem_append_right _ (List.mem_append_left _ (List.mem_of_getElem? (i := 32) rfl)))
  · exact List.mem_append_right _ (List.mem_append_right _ (List.mem_append_left _ (List.mem_of_getElem? (i := 33) rfl)))
  · exact List.mem_append_right _ (List.mem_append_right _ (List.mem_append_left _ (List.mem_of_getElem? (i := 34) rfl)))
  · exact List.mem_append_right _ (List.mem_append_right _ (List.mem_append_left _ (List.mem_of_getElem? (i := 39) rfl)))
  · exact List.mem_append_right _ (List.mem_append_right _ (List.mem_append_left _ (List.mem_of_getElem? (i := 43) rfl)))
  · exact List.mem_append_right _ (List.mem_append_right _ (List.mem_append_left _ (List.mem_of_getElem? (i := 47) rfl)))
  · exact List.mem_append_right _ (List.mem_append_right _ (List.mem_append_left _ (List.mem_of_getElem? (i := 58) rfl)))
  · exact List.mem_append_right _ (List.mem_append_left _ (List.mem_of_getElem? (i := 95) rfl))
  · exact List.mem_append_right _ (List.mem_append_right _ (List.mem_append_left _ (List.mem_of_getElem? (i := 71) rfl)))
  · exact List.mem_append_right _ (List.mem_append_right _ (List.mem_append_left _ (List.mem_of_getElem? (i := 76) rfl)))
  · exact List.mem_append_right _ (List.mem_append_left _ (List.mem_of_getElem? (i := 31) rfl))
  · exact List.mem_append_right _ (List.mem_append_right _ (List.mem_append_left _ (List.mem_of_getElem? (i := 86) rfl)))
  · exact List.mem_append_right _ (List.mem_append_right _ (List.mem_append_left _ (List.mem_of_getElem? (i := 178) rfl)))
  · exact List.mem_append_right _ (List.mem_append_left _ (List.mem_of_getElem? (i := 134) rfl))
  · exact List.mem_append_right _ (List.mem_append_left _ (List.mem_of_getElem? (i := 136) rfl))
  · exact List.mem_append_right _ (List.mem_append_right _ (List.mem_append_left _ (List.mem_of_getElem? (i := 192) rfl)))
  · exact List.mem_append_right _ (List.mem_append_right _ (List.mem_append_left _ (List.mem_of_getElem? (i := 201) rfl)))
  · exact List.mem_append_right _ (List.mem_append_right _ (List.mem_append_left _ (List.mem_of_getElem? (i := 210) rfl)))
  · exact List.mem_append_right _ (List.mem_append_right _ (List.mem_append_left _ (List.mem_of_getElem? (i := 211) rfl)))
  · exact List.mem_append_right _ (List.mem_append_left _ (List.mem_of_getElem? (i := 70) rfl))
  · exact List.mem_append_right _ (List.mem_append_right _ (List.mem_append_left _ (List.mem_of_getElem? (i := 212) rfl)))
  · exact List.mem_append_right _ (List.mem_append_right _ (List.mem_append_left _ (List.mem_of_getElem? (i := 217) rfl)))
  · exact List.mem_append_right _ (List.mem_append_right _ (List.mem_append_left _ (List.mem_of_getElem? (i := 218) rfl)))
  · exact List.mem_append_right _ (List.mem_append_right _ (List.mem_append_left _ (List.mem_of_getElem? (i := 226) rfl)))
  · exact List.mem_append_right _ (List.mem_append_right _ (List.mem_append_left _ (List.mem_of_getElem? (i := 234) rfl)))
end
section
/-! my own rows over the kit: worlds that keep their order, contracts of four forms, calls -/
abbrev inb (i : Int32) (n : Nat) : Prop := ¬ (i < 0 ∨ n ≤ i.toNatClampNeg)
theorem gd {c : Prop} [Decidable c] {α : Type} {K : Option α} {o : α} (h : (if c then K else none) = some o) : c ∧ K = some o := by
  by_cases hc : c
  · exact ⟨hc, by rw [if_pos hc] at h; exact h⟩
  · rw [if_neg hc] at h; cases h
theorem gp {c : Prop} [Decidable c] {α : Type} {K L : Option α} {o : α} (hc : c) (h : (if c then K else L) = some o) : K = some o := by rw [if_pos hc] at h; exact h
theorem gn {c : Prop} [Decidable c] {α : Type} {K L : Option α} {o : α} (hc : ¬ c) (h : (if c then K else L) = some o) : L = some o := by rw [if_neg hc] at h; exact h
theorem gb {α β : Type} {x : Option α} {f : α → Option β} {o : β} (h : x.bind f = some o) : ∃ a, x = some a ∧ f a = some o := Option.bind_eq_some_iff.mp h
theorem ne_ti {x : Int32} {k : Int32} (h : ¬ x = k) : ¬ x.toInt = k.toInt := fun e => h (Int32.toInt_inj.mp e)
theorem va_D.same {A : Nat → Prop} {ws ws' : va_W} (h : va_D A ws) (e : ws'.map (fun q => q.1) = ws.map (fun q => q.1)) : va_D A ws' := by
  have key : ∀ (k : Nat) (q : Nat × va_E), ws'[k]? = some q → ∃ q', ws[k]? = some q' ∧ q'.1 = q.1 := by
    intro k q hq
    have h1 : (ws'.map (fun q => q.1))[k]? = some q.1 := by rw [List.getElem?_map, hq]; rfl
    rw [e, List.getElem?_map] at h1
    cases hw : ws[k]? with
    | none => rw [hw] at h1; cases h1
    | some q' => rw [hw] at h1; exact ⟨q', rfl, Option.some.inj h1⟩
  refine ⟨fun i j p q hp hq hpq => ?_, fun k q hq => ?_⟩
  · obtain ⟨p', a1, a2⟩ := key i p hp
    obtain ⟨q', b1, b2⟩ := key j q hq
    exact h.1 i j p' q' a1 b1 (by rw [a2, b2, hpq])
  · obtain ⟨q', a1, a2⟩ := key k q hq
    rw [← a2]
    exact h.2 k q' a1
theorem at_map {α β : Type} {l : List α} {f : α → β} {k : Nat} {x : β} (h : (l.map f)[k]? = some x) : ∃ a, l[k]? = some a ∧ f a = x := by
  rw [List.getElem?_map] at h
  cases hl : l[k]? with
  | none => rw [hl] at h; cases h
  | some a => rw [hl] at h; exact ⟨a, rfl, Option.some.inj h⟩
/-- a callee that makes nothing gives its cells back in their places -/
theorem wj {A0 : Nat → Prop} {D : va_G} {cl : List vw_C} {ws ws' wc wc' : va_W} {H H1 : Heap} {n : Nat} (hP : va_P D cl ws H) (hD : va_D A0 ws) (isC isR : List Nat) (hC : isC.map (fun i => ws[i]?) = wc.map some) (hC' : isC.map (fun i => ws'[i]?) = wc'.map some)
    {wr : va_W} (hR' : isR.map (fun i => ws'[i]?) = wr.map some) (hR : isR.map (fun i => ws[i]?) = wr.map some) (hn : ws'.length = n) (hcov : (List.range n).all (fun k => isC.contains k || isR.contains k) = true) (hdis : isR.all (fun k => !(isC.contains k)) = true)
    (hk : ∀ q : Nat, q < H.size → ¬ va_A wc H.size q → H1[q]? = H[q]?) (hP1 : va_P D cl wc' H1) : va_P D cl ws' H1 := by
  intro k q hq
  have hkn : k < n := by rw [← hn]; exact (List.getElem?_eq_some_iff.mp hq).1
  have hc := List.all_eq_true.mp hcov k (List.mem_range.mpr hkn)
  rcases Bool.or_eq_true _ _ |>.mp hc with h | h
  · have hm : k ∈ isC := by simpa using h
    obtain ⟨j, hj⟩ := List.getElem?_of_mem hm
    have h1 : (isC.map (fun i => ws'[i]?))[j]? = some (some q) := by rw [List.getElem?_map, hj]; show some (ws'[k]?) = _; rw [hq]
    rw [hC'] at h1
    obtain ⟨a, h2, h3⟩ := at_map h1
    cases h3
    exact hP1 j q h2
  · have hm : k ∈ isR := by simpa using h
    have hnc : k ∉ isC := by
      have := List.all_eq_true.mp hdis k hm
      simpa using this
    obtain ⟨j, hj⟩ := List.getElem?_of_mem hm
    have h1 : (isR.map (fun i => ws'[i]?))[j]? = some (some q) := by rw [List.getElem?_map, hj]; show some (ws'[k]?) = _; rw [hq]
    rw [hR', ← hR] at h1
    obtain ⟨a, h2, h3⟩ := at_map h1
    have e : a = k := Option.some.inj (h2.symm.trans hj)
    subst e
    have h4 : ws[a]? = some q := h3
    have hlt := (hP a q h4).lt
    refine (hP a q h4).kept (hk q.1 hlt fun hA => ?_)
    rcases hA with ⟨j, e, hj⟩ | h
    · have h3 : (wc.map some)[j]? = some (some (q.1, e)) := by rw [List.getElem?_map, hj]; rfl
      rw [← hC] at h3
      obtain ⟨i, hi, h5⟩ := at_map h3
      have := hD.1 a i q (q.1, e) h4 h5 rfl
      subst this
      exact hnc (List.mem_of_getElem? hi)
    · omega
/-- what is known of the addresses alone -/
def DL (A : Nat → Prop) (L : List Nat) : Prop := ∀ ws : va_W, ws.map (fun q => q.1) = L → va_D A ws
theorem DL.of {A : Nat → Prop} {ws0 : va_W} {L : List Nat} (h : va_D A ws0) (e : ws0.map (fun q => q.1) = L) : DL A L := fun _ h' => h.same (h'.trans e.symm)
def FU : Nat := 4096
end
section
def nest_ok (w : Cond) : Bool := match w with
  | .fieldLinkNest .. => true
  | .methodLinkNest .. => true
  | _ => false
theorem nest_all : ∀ w ∈ nestL, nest_ok w = true := by decide +kernel
def Nst (U : State) : Prop := ∀ w ∈ nestL, va_Nw w U
theorem Nst.warm {s U : State} (hW : s.WarmedH U.vm) (h : Nst s) : Nst U := by
  intro w hw
  have hk : nest_ok w = true := nest_all w hw
  have h1 := h w hw
  cases w <;> first | (exact va_Nw.warmF hW h1) | (exact va_Nw.warmM hW h1) | (cases hk)
theorem Nst.calling {U : State} {g : JFrame} {mk : MethodId} {a : Array Value} (h : Nst U) : Nst (U.calling g mk a) := by
  intro w hw
  have hk : nest_ok w = true := nest_all w hw
  have h1 := h w hw
  cases w <;> first | (exact va_Nw.same rfl (u := U) (U := U.calling g mk a) rfl h1) | (cases hk)
def CtP (l : Launch) (y : MethodName) (ws : List Cond) (rm : Room) (D : va_G) (cI : ClassId) (wc : va_W) (av : List Value) (ty : FieldType) (r : Int32) : Prop :=
  Met l y ws rm (va_Pc av (fun U => va_P D vwCl wc U.heap ∧ va_K D vwCl [(cI, .int)] U ∧ Nst U)) (vp_Si (fun r' => r' = r ∧ narrow ty (.int r) = .int r)) 0 0 (fun _ => False)
def CtI (l : Launch) (y : MethodName) (ws : List Cond) (rm : Room) (D : va_G) (cI : ClassId) (wc wc' : va_W) (av : List Value) (ty : FieldType) (r : Int32) : Prop :=
  ∀ sz : Nat, Met l y ws rm (va_Pc av (fun U => U.heap.size = sz ∧ va_P D vwCl wc U.heap ∧ va_K D vwCl [(cI, .int)] U ∧ va_D (fun _ => True) wc ∧ Nst U)) (va_Qi (fun r' (_ : Unit) => r' = r ∧ narrow ty (.int r) = .int r) (fun _ t => va_P D vwCl wc' t.heap) (va_A wc sz)) 0 0 (va_A wc sz)
def CtV (l : Launch) (y : MethodName) (ws : List Cond) (rm : Room) (D : va_G) (cI : ClassId) (wc wc' : va_W) (av : List Value) : Prop :=
  ∀ sz : Nat, Met l y ws rm (va_Pc av (fun U => U.heap.size = sz ∧ va_P D vwCl wc U.heap ∧ va_K D vwCl [(cI, .int)] U ∧ va_D (fun _ => True) wc ∧ Nst U)) (va_Qv (fun (_ : Unit) => True) (fun _ t => va_P D vwCl wc' t.heap) (va_A wc sz)) 0 0 (va_A wc sz)
theorem CtP.ofW {l : Launch} {y : MethodName} {ws : List Cond} {rm : Room} {D : va_G} {cI : ClassId} {wc : va_W} {av : List Value} {r : Int32} {cc : ByteArray} {maxL : Nat} {ty : FieldType}
    (hy : plainName y.cls = true) (hw : ws = Cond.code y cc maxL (some ty) :: GW) (hlen : (lg_sl av).length ≤ maxL)
    (body : ∀ (p : Program) (e : Env) (s : State) (m : MethodId) (args : Array Value) (below : List Frame) (meth : Method) (c : Code) (Q : State → Prop), p.tables.exec = Jvm.exec → c.code = cc → c.maxLocals = maxL → s.vm.findClass y.cls = some m.cls → (∀ w ∈ GW, w.before args s = true) →
      va_P D vwCl wc s.heap → va_K D vwCl [(cI, .int)] s → Nst s →
      (∀ (pc : Nat) (ls : Array Slot), narrow ty (.int r) = .int r → decode cc pc = .ok (.ireturn, 1) → W p l e rm s m args below meth c s.heap [] 0 0 Q (F0 m pc ls [.int r])) →
      ∀ ls : Array Slot, lv_has ls maxL (lv_args 0 av) → W p l e rm s m args below meth c s.heap [] 0 0 Q (F0 m 0 ls [])) : CtP l y ws rm D cI wc av ty r := by
  refine Met.ofW (cc := cc) (maxL := maxL) (ret := some ty) hy hw ?_
  intro p e s m args below meth c s₁ B hml hv
  obtain ⟨rfl, hP, hK, hN⟩ := hv
  have hl := lv_entry av (n := maxL) hlen
  rw [lg_entry_eq]
  exact body p e s m _ below meth c _ B.exec B.bytes hml (findClass_of_methodNamed B.named) (fun w h => atoms_spec (ws := ws) B.pre w (by rw [hw]; exact List.mem_cons_of_mem _ h)) hP hK hN
    (fun pc ls hn hd => W.zret B.exec B.bytes B.returns hn (fun t ht hW => ⟨r, rfl, ⟨rfl, hn⟩, ht⟩) (fun _ h => by cases h) hd B.notSynchronized) _ hl
theorem CtI.ofW {l : Launch} {y : MethodName} {ws : List Cond} {rm : Room} {D : va_G} {cI : ClassId} {wc wc' : va_W} {av : List Value} {r : Int32} {cc : ByteArray} {maxL : Nat} {ty : FieldType}
    (hy : plainName y.cls = true) (hw : ws = Cond.code y cc maxL (some ty) :: GW) (hlen : (lg_sl av).length ≤ maxL)
    (body : ∀ (p : Program) (e : Env) (s : State) (m : MethodId) (args : Array Value) (below : List Frame) (meth : Method) (c : Code) (Q : State → Prop) (A : Nat → Prop), p.tables.exec = Jvm.exec → c.code = cc → c.maxLocals = maxL → s.vm.findClass y.cls = some m.cls → (∀ w ∈ GW, w.before args s = true) →
      va_P D vwCl wc s.heap → va_K D vwCl [(cI, .int)] s → Nst s → (∀ q : Nat, s.heap.size ≤ q → A q) → va_D A wc →
      (∀ (H : Heap) (locs : List Loc) (pc : Nat) (ls : Array Slot), va_S A s.heap H locs → va_P D vwCl wc' H → narrow ty (.int r) = .int r → decode cc pc = .ok (.ireturn, 1) → W p l e rm s m args below meth c H locs 0 0 Q (F0 m pc ls [.int r])) →
      ∀ ls : Array Slot, lv_has ls maxL (lv_args 0 av) → W p l e rm s m args below meth c s.heap [] 0 0 Q (F0 m 0 ls [])) : CtI l y ws rm D cI wc wc' av ty r := by
  intro sz
  refine Met.ofW (cc := cc) (maxL := maxL) (ret := some ty) hy hw ?_
  intro p e s m args below meth c s₁ B hml hv
  obtain ⟨rfl, hsz, hP, hK, hD0, hN⟩ := hv
  subst hsz
  have hl := lv_entry av (n := maxL) hlen
  rw [lg_entry_eq]
  exact body p e s m _ below meth c _ (va_A wc s.heap.size) B.exec B.bytes hml (findClass_of_methodNamed B.named) (fun w h => atoms_spec (ws := ws) B.pre w (by rw [hw]; exact List.mem_cons_of_mem _ h)) hP hK hN (fun q h => Or.inr h) hD0.self
    (fun H locs pc ls hS hP' hn hd => W.zret B.exec B.bytes B.returns hn (fun t ht hW => ⟨⟨r, (), rfl, ⟨rfl, hn⟩, by show va_P D vwCl wc' t.heap; rw [ht]; exact hP'⟩, hS.F ht⟩) hS.2.2 hd B.notSynchronized) _ hl
theorem CtV.ofW {l : Launch} {y : MethodName} {ws : List Cond} {rm : Room} {D : va_G} {cI : ClassId} {wc wc' : va_W} {av : List Value} {cc : ByteArray} {maxL : Nat}
    (hy : plainName y.cls = true) (hw : ws = Cond.code y cc maxL none :: GW) (hlen : (lg_sl av).length ≤ maxL)
    (body : ∀ (p : Program) (e : Env) (s : State) (m : MethodId) (args : Array Value) (below : List Frame) (meth : Method) (c : Code) (Q : State → Prop) (A : Nat → Prop), p.tables.exec = Jvm.exec → c.code = cc → c.maxLocals = maxL → s.vm.findClass y.cls = some m.cls → (∀ w ∈ GW, w.before args s = true) →
      va_P D vwCl wc s.heap → va_K D vwCl [(cI, .int)] s → Nst s → (∀ q : Nat, s.heap.size ≤ q → A q) → va_D A wc →
      (∀ (H : Heap) (locs : List Loc) (pc : Nat) (ls : Array Slot), va_S A s.heap H locs → va_P D vwCl wc' H → decode cc pc = .ok (.return_, 1) → W p l e rm s m args below meth c H locs 0 0 Q (F0 m pc ls [])) →
      ∀ ls : Array Slot, lv_has ls maxL (lv_args 0 av) → W p l e rm s m args below meth c s.heap [] 0 0 Q (F0 m 0 ls [])) : CtV l y ws rm D cI wc wc' av := by
  intro sz
  refine Met.ofW (cc := cc) (maxL := maxL) (ret := none) hy hw ?_
  intro p e s m args below meth c s₁ B hml hv
  obtain ⟨rfl, hsz, hP, hK, hD0, hN⟩ := hv
  subst hsz
  have hl := lv_entry av (n := maxL) hlen
  rw [lg_entry_eq]
  exact body p e s m _ below meth c _ (va_A wc s.heap.size) B.exec B.bytes hml (findClass_of_methodNamed B.named) (fun w h => atoms_spec (ws := ws) B.pre w (by rw [hw]; exact List.mem_cons_of_mem _ h)) hP hK hN (fun q h => Or.inr h) hD0.self
    (fun H locs pc ls hS hP' hd => W.vret B.exec B.bytes B.returns (fun t ht hW => ⟨⟨(), rfl, trivial, by show va_P D vwCl wc' t.heap; rw [ht]; exact hP'⟩, hS.F ht⟩) hS.2.2 hd B.notSynchronized) _ hl
section FORMS
variable {p : Program} {l : Launch} {e : Env} {R : Room} {s : State} {m : MethodId} {args : Array Value} {below : List Frame} {meth : Method} {c : Code} {H : Heap} {locs : List Loc} {cells slots : Nat} {Q : State → Prop} {pc : Nat} {ls : Array Slot} {rest st0 : List Value}
theorem preVP {D : va_G} {cI : ClassId} {ws0 wc : va_W} {b ci : Nat} {As : List Value} {C : String} {T : u_T} {N : Nat} {fs : List Value} (hP : va_P D vwCl ws0 H) (hK : va_K D vwCl [(cI, .int)] s) (hN : Nst s) (isC : List Nat) (hC : isC.filterMap (fun i => ws0[i]?) = wc) (hci : vwCl[ci]? = some (C, T, N)) (he : wc[0]? = some (b, .inr (ci, fs))) :
    PreV s H C b (va_Pc (.ref b :: As) (fun U => va_P D vwCl wc U.heap ∧ va_K D vwCl [(cI, .int)] U ∧ Nst U)) As :=
  ⟨fun a U g mk q => ⟨q.1, q.2.1, va_K.moved (u := U) (U := U.calling g mk a) (Vm.Alike.refl U.vm) q.2.2.1, q.2.2.2.calling⟩, va_recv hK (hP.sub isC hC) hci he,
   fun U hU hW => ⟨rfl, by rw [hU]; exact hP.sub isC hC, va_K.moved hW.alike hK, hN.warm hW⟩⟩
theorem preSP {D : va_G} {cI : ClassId} {ws0 wc : va_W} {As : List Value} (hP : va_P D vwCl ws0 H) (hK : va_K D vwCl [(cI, .int)] s) (hN : Nst s) (isC : List Nat) (hC : isC.filterMap (fun i => ws0[i]?) = wc) :
    PreS s H (va_Pc As (fun U => va_P D vwCl wc U.heap ∧ va_K D vwCl [(cI, .int)] U ∧ Nst U)) As :=
  ⟨fun a U g mk q => ⟨q.1, q.2.1, va_K.moved (u := U) (U := U.calling g mk a) (Vm.Alike.refl U.vm) q.2.2.1, q.2.2.2.calling⟩,
   fun U hU hW => ⟨rfl, by rw [hU]; exact hP.sub isC hC, va_K.moved hW.alike hK, hN.warm hW⟩⟩
theorem isC_of {ws0 wc : va_W} {isC : List Nat} (hC : isC.map (fun i => ws0[i]?) = wc.map some) : isC.filterMap (fun i => ws0[i]?) = wc := by
  induction isC generalizing wc with
  | nil => cases wc with
    | nil => rfl
    | cons c cs => cases hC
  | cons i is ih => cases wc with
    | nil => cases hC
    | cons c cs =>
      have h1 := List.cons.inj hC
      have h2 : ws0[i]? = some c := h1.1
      rw [List.filterMap_cons, h2]
      show c :: is.filterMap _ = c :: cs
      rw [ih h1.2]
theorem preVM {D : va_G} {cI : ClassId} {ws0 wc : va_W} {A : Nat → Prop} {b ci : Nat} {As : List Value} {C : String} {T : u_T} {N : Nat} {fs : List Value} (hP : va_P D vwCl ws0 H) (hK : va_K D vwCl [(cI, .int)] s) (hN : Nst s) (hD : va_D A ws0) (isC : List Nat) (hn : va_nd isC = true) (hC : isC.map (fun i => ws0[i]?) = wc.map some) (hci : vwCl[ci]? = some (C, T, N)) (he : wc[0]? = some (b, .inr (ci, fs))) :
    PreV s H C b (va_Pc (.ref b :: As) (fun U => U.heap.size = H.size ∧ va_P D vwCl wc U.heap ∧ va_K D vwCl [(cI, .int)] U ∧ va_D (fun _ => True) wc ∧ Nst U)) As :=
  ⟨fun a U g mk q => ⟨q.1, q.2.1, q.2.2.1, va_K.moved (u := U) (U := U.calling g mk a) (Vm.Alike.refl U.vm) q.2.2.2.1, q.2.2.2.2.1, q.2.2.2.2.2.calling⟩, va_recv hK (hP.sub isC (isC_of hC)) hci he,
   fun U hU hW => ⟨rfl, by rw [hU], by rw [hU]; exact hP.sub isC (isC_of hC), va_K.moved hW.alike hK, (hD.sub isC hn hC).weaken (fun _ _ _ _ => trivial), hN.warm hW⟩⟩
theorem preSM {D : va_G} {cI : ClassId} {ws0 wc : va_W} {A : Nat → Prop} {As : List Value} (hP : va_P D vwCl ws0 H) (hK : va_K D vwCl [(cI, .int)] s) (hN : Nst s) (hD : va_D A ws0) (isC : List Nat) (hn : va_nd isC = true) (hC : isC.map (fun i => ws0[i]?) = wc.map some) :
    PreS s H (va_Pc As (fun U => U.heap.size = H.size ∧ va_P D vwCl wc U.heap ∧ va_K D vwCl [(cI, .int)] U ∧ va_D (fun _ => True) wc ∧ Nst U)) As :=
  ⟨fun a U g mk q => ⟨q.1, q.2.1, q.2.2.1, va_K.moved (u := U) (U := U.calling g mk a) (Vm.Alike.refl U.vm) q.2.2.2.1, q.2.2.2.2.1, q.2.2.2.2.2.calling⟩,
   fun U hU hW => ⟨rfl, by rw [hU], by rw [hU]; exact hP.sub isC (isC_of hC), va_K.moved hW.alike hK, (hD.sub isC hn hC).weaken (fun _ _ _ _ => trivial), hN.warm hW⟩⟩
theorem kP {ty : FieldType} {r : Int32} {a : Array Value} (hr : va_Run p l e R s m args below meth c H locs cells slots 0 0 (F0 m pc ls st0) rest (vp_Si (fun r' => r' = r ∧ narrow ty (.int r) = .int r) a) (fun _ => False))
    (kk : narrow ty (.int r) = .int r → W p l e R s m args below meth c H locs cells slots Q (F0 m (pc + 3) ls (.int r :: rest))) : W p l e R s m args below meth c H locs cells slots Q (F0 m pc ls st0) :=
  vp_callSi hr.run (fun r' h => by obtain ⟨h1, h2⟩ := h; subst h1; exact kk h2)
theorem kI {ty : FieldType} {r : Int32} {a : Array Value} {D : va_G} {A : Nat → Prop} {H0 : Heap} {ws0 wc wc' : va_W} (ws1 : va_W) (isC isR : List Nat) (hr : va_Run p l e R s m args below meth c H locs cells slots 0 0 (F0 m pc ls st0) rest (va_Qi (fun r' (_ : Unit) => r' = r ∧ narrow ty (.int r) = .int r) (fun _ t => va_P D vwCl wc' t.heap) (va_A wc H.size) a) (va_A wc H.size))
    (hP : va_P D vwCl ws0 H) (hD : va_D A ws0) (hS : va_S A H0 H locs) (hA : ∀ q : Nat, H0.size ≤ q → A q) (hC : isC.map (fun i => ws0[i]?) = wc.map some) (hC' : isC.map (fun i => ws1[i]?) = wc'.map some) {wr : va_W} (hR1 : isR.map (fun i => ws1[i]?) = wr.map some) (hR0 : isR.map (fun i => ws0[i]?) = wr.map some) {n : Nat} (hn : ws1.length = n) (hcov : (List.range n).all (fun k => isC.contains k || isR.contains k) = true) (hdis : isR.all (fun k => !(isC.contains k)) = true)
    (kk : ∀ (H1 : Heap) (locs1 : List Loc), narrow ty (.int r) = .int r → va_P D vwCl ws1 H1 → va_S A H0 H1 locs1 → W p l e R s m args below meth c H1 locs1 cells slots Q (F0 m (pc + 3) ls (.int r :: rest))) : W p l e R s m args below meth c H locs cells slots Q (F0 m pc ls st0) := by
  have hF := va_free (wc := wc) hD hS hA isC hC
  refine va_calli hr hS (fun q _ h => hF q h) hF (fun r' u t H1 locs1 ht hvm hw hB hz1 hk1 hS1 => ?_)
  obtain ⟨hw, hnw⟩ := hw
  subst hw
  rw [ht] at hB
  exact kk H1 locs1 hnw (wj hP hD isC isR hC hC' hR1 hR0 hn hcov hdis hk1 hB) hS1
theorem kV {a : Array Value} {D : va_G} {A : Nat → Prop} {H0 : Heap} {ws0 wc wc' : va_W} (ws1 : va_W) (isC isR : List Nat) (hr : va_Run p l e R s m args below meth c H locs cells slots 0 0 (F0 m pc ls st0) rest (va_Qv (fun (_ : Unit) => True) (fun _ t => va_P D vwCl wc' t.heap) (va_A wc H.size) a) (va_A wc H.size))
    (hP : va_P D vwCl ws0 H) (hD : va_D A ws0) (hS : va_S A H0 H locs) (hA : ∀ q : Nat, H0.size ≤ q → A q) (hC : isC.map (fun i => ws0[i]?) = wc.map some) (hC' : isC.map (fun i => ws1[i]?) = wc'.map some) {wr : va_W} (hR1 : isR.map (fun i => ws1[i]?) = wr.map some) (hR0 : isR.map (fun i => ws0[i]?) = wr.map some) {n : Nat} (hn : ws1.length = n) (hcov : (List.range n).all (fun k => isC.contains k || isR.contains k) = true) (hdis : isR.all (fun k => !(isC.contains k)) = true)
    (kk : ∀ (H1 : Heap) (locs1 : List Loc), va_P D vwCl ws1 H1 → va_S A H0 H1 locs1 → W p l e R s m args below meth c H1 locs1 cells slots Q (F0 m (pc + 3) ls rest)) : W p l e R s m args below meth c H locs cells slots Q (F0 m pc ls st0) := by
  have hF := va_free (wc := wc) hD hS hA isC hC
  refine va_callv hr hS (fun q _ h => hF q h) hF (fun u t H1 locs1 ht hvm hw hB hz1 hk1 hS1 => ?_)
  rw [ht] at hB
  exact kk H1 locs1 (wj hP hD isC isR hC hC' hR1 hR0 hn hcov hdis hk1 hB) hS1
end FORMS
/-- a constructor: its own cell, then what it made; u: the new addresses -/
def CtN {S : Type} (l : Launch) (y : MethodName) (ws : List Cond) (rm : Room) (D : va_G) (cI : ClassId) (wc : va_W) (wn : S → va_W) (av : List Value) (mc ms : Nat) : Prop :=
  ∀ sz : Nat, Met l y ws rm (va_Pc av (fun U => U.heap.size = sz ∧ va_P D vwCl wc U.heap ∧ va_K D vwCl [(cI, .int)] U ∧ va_D (fun _ => True) wc ∧ Nst U)) (va_Qv (fun (_ : S) => True) (fun u t => va_P D vwCl (wn u) t.heap ∧ va_D (va_A wc sz) (wn u)) (va_A wc sz)) mc ms (va_A wc sz)
theorem CtN.ofW {S : Type} {l : Launch} {y : MethodName} {ws : List Cond} {rm : Room} {D : va_G} {cI : ClassId} {wc : va_W} {wn : S → va_W} {av : List Value} {mc ms : Nat} {cc : ByteArray} {maxL : Nat}
    (hy : plainName y.cls = true) (hw : ws = Cond.code y cc maxL none :: GW) (hlen : (lg_sl av).length ≤ maxL)
    (body : ∀ (p : Program) (e : Env) (s : State) (m : MethodId) (args : Array Value) (below : List Frame) (meth : Method) (c : Code) (Q : State → Prop) (A : Nat → Prop), p.tables.exec = Jvm.exec → c.code = cc → c.maxLocals = maxL → s.vm.findClass y.cls = some m.cls → (∀ w ∈ GW, w.before args s = true) → meth.name = y.name →
      va_P D vwCl wc s.heap → va_K D vwCl [(cI, .int)] s → Nst s → (∀ q : Nat, s.heap.size ≤ q → A q) → va_D A wc →
      (∀ (u : S) (H : Heap) (locs : List Loc) (pc : Nat) (ls : Array Slot), va_S A s.heap H locs → va_P D vwCl (wn u) H → va_D A (wn u) → decode cc pc = .ok (.return_, 1) → W p l e rm s m args below meth c H locs mc ms Q (F0 m pc ls [])) →
      ∀ ls : Array Slot, lv_has ls maxL (lv_args 0 av) → W p l e rm s m args below meth c s.heap [] 0 0 Q (F0 m 0 ls [])) : CtN l y ws rm D cI wc wn av mc ms := by
  intro sz
  refine Met.ofW (cc := cc) (maxL := maxL) (ret := none) hy hw ?_
  intro p e s m args below meth c s₁ B hml hv
  obtain ⟨rfl, hsz, hP, hK, hD0, hN⟩ := hv
  subst hsz
  have hl := lv_entry av (n := maxL) hlen
  rw [lg_entry_eq]
  exact body p e s m _ below meth c _ (va_A wc s.heap.size) B.exec B.bytes hml (findClass_of_methodNamed B.named) (fun w h => atoms_spec (ws := ws) B.pre w (by rw [hw]; exact List.mem_cons_of_mem _ h)) (name_of_methodNamed B.named B.method).1 hP hK hN (fun q h => Or.inr h) hD0.self
    (fun u H locs pc ls hS hP' hD' hd => W.vret B.exec B.bytes B.returns (fun t ht hW => ⟨⟨u, rfl, trivial, by rw [ht]; exact hP', hD'⟩, hS.F ht⟩) hS.2.2 hd B.notSynchronized) _ hl
section FORMN
variable {p : Program} {l : Launch} {e : Env} {R : Room} {s : State} {m : MethodId} {args : Array Value} {below : List Frame} {meth : Method} {c : Code} {H : Heap} {locs : List Loc} {cells slots : Nat} {Q : State → Prop} {pc : Nat} {ls : Array Slot} {rest st0 : List Value}
theorem preIM {D : va_G} {cI : ClassId} {ws0 wc : va_W} {A : Nat → Prop} {av : List Value} (hP : va_P D vwCl ws0 H) (hK : va_K D vwCl [(cI, .int)] s) (hN : Nst s) (hD : va_D A ws0) (isC : List Nat) (hn : va_nd isC = true) (hC : isC.map (fun i => ws0[i]?) = wc.map some) :
    PreS s H (va_Pc av (fun U => U.heap.size = H.size ∧ va_P D vwCl wc U.heap ∧ va_K D vwCl [(cI, .int)] U ∧ va_D (fun _ => True) wc ∧ Nst U)) av := preSM hP hK hN hD isC hn hC
/-- a constructor's call: the callee's cells go behind the rest -/
theorem kN {S : Type} {mc ms : Nat} {a : Array Value} {D : va_G} {A : Nat → Prop} {H0 : Heap} {ws0 wc wr : va_W} {wn : S → va_W} (isC isR : List Nat) (hr : va_Run p l e R s m args below meth c H locs cells slots mc ms (F0 m pc ls st0) rest (va_Qv (fun (_ : S) => True) (fun u t => va_P D vwCl (wn u) t.heap ∧ va_D (va_A wc H.size) (wn u)) (va_A wc H.size) a) (va_A wc H.size))
    (hP : va_P D vwCl ws0 H) (hD : va_D A ws0) (hS : va_S A H0 H locs) (hA : ∀ q : Nat, H0.size ≤ q → A q) (hC : isC.map (fun i => ws0[i]?) = wc.map some) (hRr : isR.map (fun i => ws0[i]?) = wr.map some) (hn : va_nd isR = true) (hdis : ∀ i ∈ isR, i ∉ isC)
    (kk : ∀ (u : S) (H1 : Heap) (locs1 : List Loc), va_P D vwCl (wr ++ wn u) H1 → va_D A (wr ++ wn u) → va_S A H0 H1 locs1 → W p l e R s m args below meth c H1 locs1 (cells + mc) (slots + ms) Q (F0 m (pc + 3) ls rest)) : W p l e R s m args below meth c H locs cells slots Q (F0 m pc ls st0) := by
  have hF := va_free (wc := wc) hD hS hA isC hC
  refine va_callv hr hS (fun q _ h => hF q h) hF (fun u t H1 locs1 ht hvm hw hB hz1 hk1 hS1 => ?_)
  obtain ⟨hB1, hB2⟩ := hB
  rw [ht] at hB1
  obtain ⟨h1, h2⟩ := va_join (wr := wr) (w1 := wn u) hP hD isC isR hC hRr hn hdis hk1 hF hB1 hB2
  exact kk u H1 locs1 h1 h2 hS1
end FORMN
theorem arr_eq {D : va_G} {cl : List vw_C} {cI cA : ClassId} {s : State} (h : va_K D cl ([(cI, .int)] ++ [(cA, .int)]) s) : cA = cI := by
  have h1 := (h.2 0 (cI, .int) rfl).2
  have h2 := (h.2 1 (cA, .int) rfl).2
  have h1' : s.vm.findClass ("[" ++ FieldType.int.toString) = some cI := h1
  have h2' : s.vm.findClass ("[" ++ FieldType.int.toString) = some cA := h2
  exact Option.some.inj (h2'.symm.trans h1')
end
section
abbrev b_Desk_isName : ByteArray := prog_1_method_21_code
def y_Desk_isName : MethodName := ⟨R_Desk, "isName", "(I)Z"⟩
def ws_Desk_isName : List Cond := Cond.code y_Desk_isName b_Desk_isName 1 (some .boolean) :: GW
theorem hd_Desk_isName : y_Desk_isName.cls ≠ "java/lang/invoke/MethodHandle" ∧ y_Desk_isName.cls ≠ "java/lang/invoke/VarHandle" ∧ (parseMethodDescriptor y_Desk_isName.desc).map (fun d => d.parameters.length) = some 1 := by decide +kernel
theorem d_Desk_isName_0 : decode b_Desk_isName 0 = .ok (.iload_n 0, 1) := by decide +kernel
theorem d_Desk_isName_1 : decode b_Desk_isName 1 = .ok (.ifCond .lt 14, 3) := by decide +kernel
theorem d_Desk_isName_4 : decode b_Desk_isName 4 = .ok (.iload_n 0, 1) := by decide +kernel
theorem d_Desk_isName_5 : decode b_Desk_isName 5 = .ok (.sipush 200, 3) := by decide +kernel
theorem d_Desk_isName_8 : decode b_Desk_isName 8 = .ok (.if_icmp .ge 7, 3) := by decide +kernel
theorem d_Desk_isName_11 : decode b_Desk_isName 11 = .ok (.iconst 1, 1) := by decide +kernel
theorem d_Desk_isName_12 : decode b_Desk_isName 12 = .ok (.goto 4, 3) := by decide +kernel
theorem d_Desk_isName_15 : decode b_Desk_isName 15 = .ok (.iconst 0, 1) := by decide +kernel
theorem d_Desk_isName_16 : decode b_Desk_isName 16 = .ok (.ireturn, 1) := by decide +kernel
abbrev b_Desk_isDemand : ByteArray := prog_1_method_20_code
def y_Desk_isDemand : MethodName := ⟨R_Desk, "isDemand", "(I)Z"⟩
def ws_Desk_isDemand : List Cond := Cond.code y_Desk_isDemand b_Desk_isDemand 1 (some .boolean) :: GW
theorem hd_Desk_isDemand : y_Desk_isDemand.cls ≠ "java/lang/invoke/MethodHandle" ∧ y_Desk_isDemand.cls ≠ "java/lang/invoke/VarHandle" ∧ (parseMethodDescriptor y_Desk_isDemand.desc).map (fun d => d.parameters.length) = some 1 := by decide +kernel
theorem d_Desk_isDemand_0 : decode b_Desk_isDemand 0 = .ok (.iload_n 0, 1) := by decide +kernel
theorem d_Desk_isDemand_1 : decode b_Desk_isDemand 1 = .ok (.ifCond .lt 14, 3) := by decide +kernel
theorem d_Desk_isDemand_4 : decode b_Desk_isDemand 4 = .ok (.iload_n 0, 1) := by decide +kernel
theorem d_Desk_isDemand_5 : decode b_Desk_isDemand 5 = .ok (.sipush 200, 3) := by decide +kernel
theorem d_Desk_isDemand_8 : decode b_Desk_isDemand 8 = .ok (.if_icmp .ge 7, 3) := by decide +kernel
theorem d_Desk_isDemand_11 : decode b_Desk_isDemand 11 = .ok (.iconst 1, 1) := by decide +kernel
theorem d_Desk_isDemand_12 : decode b_Desk_isDemand 12 = .ok (.goto 4, 3) := by decide +kernel
theorem d_Desk_isDemand_15 : decode b_Desk_isDemand 15 = .ok (.iconst 0, 1) := by decide +kernel
theorem d_Desk_isDemand_16 : decode b_Desk_isDemand 16 = .ok (.ireturn, 1) := by decide +kernel
abbrev b_Desk_isVariable : ByteArray := prog_1_method_19_code
def y_Desk_isVariable : MethodName := ⟨R_Desk, "isVariable", "(I)Z"⟩
def ws_Desk_isVariable : List Cond := Cond.code y_Desk_isVariable b_Desk_isVariable 1 (some .boolean) :: GW
theorem hd_Desk_isVariable : y_Desk_isVariable.cls ≠ "java/lang/invoke/MethodHandle" ∧ y_Desk_isVariable.cls ≠ "java/lang/invoke/VarHandle" ∧ (parseMethodDescriptor y_Desk_isVariable.desc).map (fun d => d.parameters.length) = some 1 := by decide +kernel
theorem d_Desk_isVariable_0 : decode b_Desk_isVariable 0 = .ok (.iload_n 0, 1) := by decide +kernel
theorem d_Desk_isVariable_1 : decode b_Desk_isVariable 1 = .ok (.ifCond .lt 13, 3) := by decide +kernel
theorem d_Desk_isVariable_4 : decode b_Desk_isVariable 4 = .ok (.iload_n 0, 1) := by decide +kernel
theorem d_Desk_isVariable_5 : decode b_Desk_isVariable 5 = .ok (.bipush 80, 2) := by decide +kernel
theorem d_Desk_isVariable_7 : decode b_Desk_isVariable 7 = .ok (.if_icmp .ge 7, 3) := by decide +kernel
theorem d_Desk_isVariable_10 : decode b_Desk_isVariable 10 = .ok (.iconst 1, 1) := by decide +kernel
theorem d_Desk_isVariable_11 : decode b_Desk_isVariable 11 = .ok (.goto 4, 3) := by decide +kernel
theorem d_Desk_isVariable_14 : decode b_Desk_isVariable 14 = .ok (.iconst 0, 1) := by decide +kernel
theorem d_Desk_isVariable_15 : decode b_Desk_isVariable 15 = .ok (.ireturn, 1) := by decide +kernel
end
section
def f_Desk_isName (x1 : Int32) : Option (Int32) :=
  if x1 < 0 then
    some 0
  else
    if 200 ≤ x1 then
      some 0
    else
      some 1
abbrev rm_Desk_isName : Room := { frames := 0, cells := 0, slots := 0, locals := 0 }
set_option maxHeartbeats 4000000 in
set_option maxRecDepth 100000 in
theorem c_Desk_isName (l : Launch) (D : va_G) (cI : ClassId) (x1 : Int32) {r_ : Int32} (hf : f_Desk_isName x1 = some r_) : CtP l y_Desk_isName ws_Desk_isName rm_Desk_isName D cI [] [.int x1] .boolean r_ := by
  refine CtP.ofW (cc := b_Desk_isName) (maxL := 1) (ty := .boolean) (by decide) rfl (Nat.le_of_ble_eq_true rfl) ?_
  intro p e s m args below meth c Q hx hb hml hown hts hP hK hN hret ls hl
  have hl : lv_has ls 1 [(0, .int x1)] := hl
  unfold f_Desk_isName at hf
  refine lv_iload_n hx hb d_Desk_isName_0 rfl (lv_at hl 0 rfl) ?_
  refine lv_if_lt (tgt := 15) hx hb d_Desk_isName_1 (by decide) (fun c1 => ?_) (fun c1 => ?_)
  · replace hf := gp c1 hf
    refine lv_iconst (v := 0) hx hb d_Desk_isName_15 (by decide) ?_
    cases hf
    exact hret _ _ rfl d_Desk_isName_16
  · replace hf := gn c1 hf
    refine lv_iload_n hx hb d_Desk_isName_4 rfl (lv_at hl 0 rfl) ?_
    refine lv_sipush (v := 200) hx hb d_Desk_isName_5 (by decide) ?_
    refine lv_icmp_ge (tgt := 15) hx hb d_Desk_isName_8 (by decide) (fun c2 => ?_) (fun c2 => ?_)
    · replace hf := gp c2 hf
      refine lv_iconst (v := 0) hx hb d_Desk_isName_15 (by decide) ?_
      cases hf
      exact hret _ _ rfl d_Desk_isName_16
    · replace hf := gn c2 hf
      refine lv_iconst (v := 1) hx hb d_Desk_isName_11 (by decide) ?_
      refine lv_goto (tgt := 16) hx hb d_Desk_isName_12 (by decide) ?_
      cases hf
      exact hret _ _ rfl d_Desk_isName_16
def f_Desk_isDemand (x1 : Int32) : Option (Int32) :=
  if x1 < 0 then
    some 0
  else
    if 200 ≤ x1 then
      some 0
    else
      some 1
abbrev rm_Desk_isDemand : Room := { frames := 0, cells := 0, slots := 0, locals := 0 }
set_option maxHeartbeats 4000000 in
set_option maxRecDepth 100000 in
theorem c_Desk_isDemand (l : Launch) (D : va_G) (cI : ClassId) (x1 : Int32) {r_ : Int32} (hf : f_Desk_isDemand x1 = some r_) : CtP l y_Desk_isDemand ws_Desk_isDemand rm_Desk_isDemand D cI [] [.int x1] .boolean r_ := by
  refine CtP.ofW (cc := b_Desk_isDemand) (maxL := 1) (ty := .boolean) (by decide) rfl (Nat.le_of_ble_eq_true rfl) ?_
  intro p e s m args below meth c Q hx hb hml hown hts hP hK hN hret ls hl
  have hl : lv_has ls 1 [(0, .int x1)] := hl
  unfold f_Desk_isDemand at hf
  refine lv_iload_n hx hb d_Desk_isDemand_0 rfl (lv_at hl 0 rfl) ?_
  refine lv_if_lt (tgt := 15) hx hb d_Desk_isDemand_1 (by decide) (fun c1 => ?_) (fun c1 => ?_)
  · replace hf := gp c1 hf
    refine lv_iconst (v := 0) hx hb d_Desk_isDemand_15 (by decide) ?_
    cases hf
    exact hret _ _ rfl d_Desk_isDemand_16
  · replace hf := gn c1 hf
    refine lv_iload_n hx hb d_Desk_isDemand_4 rfl (lv_at hl 0 rfl) ?_
    refine lv_sipush (v := 200) hx hb d_Desk_isDemand_5 (by decide) ?_
    refine lv_icmp_ge (tgt := 15) hx hb d_Desk_isDemand_8 (by decide) (fun c2 => ?_) (fun c2 => ?_)
    · replace hf := gp c2 hf
      refine lv_iconst (v := 0) hx hb d_Desk_isDemand_15 (by decide) ?_
      cases hf
      exact hret _ _ rfl d_Desk_isDemand_16
    · replace hf := gn c2 hf
      refine lv_iconst (v := 1) hx hb d_Desk_isDemand_11 (by decide) ?_
      refine lv_goto (tgt := 16) hx hb d_Desk_isDemand_12 (by decide) ?_
      cases hf
      exact hret _ _ rfl d_Desk_isDemand_16
def f_Desk_isVariable (x1 : Int32) : Option (Int32) :=
  if x1 < 0 then
    some 0
  else
    if 80 ≤ x1 then
      some 0
    else
      some 1
abbrev rm_Desk_isVariable : Room := { frames := 0, cells := 0, slots := 0, locals := 0 }
set_option maxHeartbeats 4000000 in
set_option maxRecDepth 100000 in
theorem c_Desk_isVariable (l : Launch) (D : va_G) (cI : ClassId) (x1 : Int32) {r_ : Int32} (hf : f_Desk_isVariable x1 = some r_) : CtP l y_Desk_isVariable ws_Desk_isVariable rm_Desk_isVariable D cI [] [.int x1] .boolean r_ := by
  refine CtP.ofW (cc := b_Desk_isVariable) (maxL := 1) (ty := .boolean) (by decide) rfl (Nat.le_of_ble_eq_true rfl) ?_
  intro p e s m args below meth c Q hx hb hml hown hts hP hK hN hret ls hl
  have hl : lv_has ls 1 [(0, .int x1)] := hl
  unfold f_Desk_isVariable at hf
  refine lv_iload_n hx hb d_Desk_isVariable_0 rfl (lv_at hl 0 rfl) ?_
  refine lv_if_lt (tgt := 14) hx hb d_Desk_isVariable_1 (by decide) (fun c1 => ?_) (fun c1 => ?_)
  · replace hf := gp c1 hf
    refine lv_iconst (v := 0) hx hb d_Desk_isVariable_14 (by decide) ?_
    cases hf
    exact hret _ _ rfl d_Desk_isVariable_15
  · replace hf := gn c1 hf
    refine lv_iload_n hx hb d_Desk_isVariable_4 rfl (lv_at hl 0 rfl) ?_
    refine lv_bipush (v := 80) hx hb d_Desk_isVariable_5 (by decide) ?_
    refine lv_icmp_ge (tgt := 14) hx hb d_Desk_isVariable_7 (by decide) (fun c2 => ?_) (fun c2 => ?_)
    · replace hf := gp c2 hf
      refine lv_iconst (v := 0) hx hb d_Desk_isVariable_14 (by decide) ?_
      cases hf
      exact hret _ _ rfl d_Desk_isVariable_15
    · replace hf := gn c2 hf
      refine lv_iconst (v := 1) hx hb d_Desk_isVariable_10 (by decide) ?_
      refine lv_goto (tgt := 15) hx hb d_Desk_isVariable_11 (by decide) ?_
      cases hf
      exact hret _ _ rfl d_Desk_isVariable_15
end
section
abbrev b_Arr_fill : ByteArray := prog_12_method_103_code
def y_Arr_fill : MethodName := ⟨R_Arr, "fill", "([II)V"⟩
def ws_Arr_fill : List Cond := Cond.code y_Arr_fill b_Arr_fill 4 none :: GW
theorem hd_Arr_fill : y_Arr_fill.cls ≠ "java/lang/invoke/MethodHandle" ∧ y_Arr_fill.cls ≠ "java/lang/invoke/VarHandle" ∧ (parseMethodDescriptor y_Arr_fill.desc).map (fun d => d.parameters.length) = some 2 := by decide +kernel
theorem d_Arr_fill_0 : decode b_Arr_fill 0 = .ok (.iconst 0, 1) := by decide +kernel
theorem d_Arr_fill_1 : decode b_Arr_fill 1 = .ok (.istore_n 2, 1) := by decide +kernel
theorem d_Arr_fill_2 : decode b_Arr_fill 2 = .ok (.aload_n 0, 1) := by decide +kernel
theorem d_Arr_fill_3 : decode b_Arr_fill 3 = .ok (.arraylength, 1) := by decide +kernel
theorem d_Arr_fill_4 : decode b_Arr_fill 4 = .ok (.istore_n 3, 1) := by decide +kernel
theorem d_Arr_fill_5 : decode b_Arr_fill 5 = .ok (.iload_n 2, 1) := by decide +kernel
theorem d_Arr_fill_6 : decode b_Arr_fill 6 = .ok (.iload_n 3, 1) := by decide +kernel
theorem d_Arr_fill_7 : decode b_Arr_fill 7 = .ok (.if_icmp .ge 13, 3) := by decide +kernel
theorem d_Arr_fill_10 : decode b_Arr_fill 10 = .ok (.aload_n 0, 1) := by decide +kernel
theorem d_Arr_fill_11 : decode b_Arr_fill 11 = .ok (.iload_n 2, 1) := by decide +kernel
theorem d_Arr_fill_12 : decode b_Arr_fill 12 = .ok (.iload_n 1, 1) := by decide +kernel
theorem d_Arr_fill_13 : decode b_Arr_fill 13 = .ok (.iastore, 1) := by decide +kernel
theorem d_Arr_fill_14 : decode b_Arr_fill 14 = .ok (.iinc 2 1, 3) := by decide +kernel
theorem d_Arr_fill_17 : decode b_Arr_fill 17 = .ok (.goto (-12), 3) := by decide +kernel
theorem d_Arr_fill_20 : decode b_Arr_fill 20 = .ok (.return_, 1) := by decide +kernel
end
section
def f_Arr_fill_L5 (n_p1 : Nat) (x2 : Int32) (k : Int32 → (Nat → Int32) → Option ((Nat → Int32))) : Nat → Int32 → (Nat → Int32) → Option ((Nat → Int32))
  | 0, _, _ => none
  | n + 1, y2_5, w_p1_5 =>
    if (nI n_p1) ≤ y2_5 then
      k y2_5 w_p1_5
    else
      if inb y2_5 n_p1 then
        f_Arr_fill_L5 n_p1 x2 k n (y2_5 + 1) (upd w_p1_5 y2_5.toNatClampNeg x2)
      else none
def f_Arr_fill (n_p1 : Nat) (v_p1 : Nat → Int32) (x2 : Int32) : Option ((Nat → Int32)) :=
  f_Arr_fill_L5 n_p1 x2 (fun y2_5 w_p1_5 =>
    some w_p1_5) FU 0 v_p1
abbrev rm_Arr_fill : Room := { frames := 0, cells := 0, slots := 0, locals := 0 }
set_option maxHeartbeats 4000000 in
set_option maxRecDepth 100000 in
theorem c_Arr_fill (l : Launch) (D : va_G) (cI : ClassId) (a_p1 n_p1 : Nat) (v_p1 : Nat → Int32) (x2 : Int32) {v_p1' : Nat → Int32} (hf : f_Arr_fill n_p1 v_p1 x2 = some v_p1') : CtV l y_Arr_fill ws_Arr_fill rm_Arr_fill D cI [(a_p1, .inl (cI, n_p1, .inl v_p1))] [(a_p1, .inl (cI, n_p1, .inl v_p1'))] [.ref a_p1, .int x2] := by
  refine CtV.ofW (cc := b_Arr_fill) (maxL := 4) (by decide) rfl (Nat.le_of_ble_eq_true rfl) ?_
  intro p e s m args below meth c Q A hx hb hml hown hts hP hK hN hA hD hret ls hl
  have hS : va_S A s.heap s.heap [] := va_S.rf
  have hDL : DL A [a_p1] := DL.of hD rfl
  have hl : lv_has ls 4 [(0, .ref a_p1), (1, .int x2)] := hl
  unfold f_Arr_fill at hf
  refine lv_iconst (v := 0) hx hb d_Arr_fill_0 (by decide) ?_
  refine lv_istore_n (lv' := [(2, .int 0), (0, .ref a_p1), (1, .int x2)]) hx hb d_Arr_fill_1 rfl hl (by decide) rfl (fun ls hl => ?_)
  refine lv_aload_n hx hb d_Arr_fill_2 rfl (lv_at hl 1 rfl) ?_
  refine va_alen hx hb hK hP 0 0 (ty := .int) rfl rfl (v := (nI n_p1)) (by rfl) d_Arr_fill_3 ?_
  refine lv_istore_n (lv' := [(3, .int (nI n_p1)), (2, .int 0), (0, .ref a_p1), (1, .int x2)]) hx hb d_Arr_fill_4 rfl hl (by decide) rfl (fun ls hl => ?_)
  have lp5 : ∀ (kk : Int32 → (Nat → Int32) → Option ((Nat → Int32))), (∀ (y2_5 : Int32) (w_p1_5 : Nat → Int32) (H : Heap) (locs : List Loc) (ls : Array Slot), va_P D vwCl [(a_p1, .inl (cI, n_p1, .inl w_p1_5))] H → va_S A s.heap H locs → lv_has ls 4 [(3, .int (nI n_p1)), (2, .int y2_5), (0, .ref a_p1), (1, .int x2)] → kk y2_5 w_p1_5 = some v_p1' → W p l e rm_Arr_fill s m args below meth c H locs 0 0 Q (F0 m 20 ls [])) → ∀ (n : Nat) (y2_5 : Int32) (w_p1_5 : Nat → Int32) (H : Heap) (locs : List Loc) (ls : Array Slot), va_P D vwCl [(a_p1, .inl (cI, n_p1, .inl w_p1_5))] H → va_S A s.heap H locs → lv_has ls 4 [(3, .int (nI n_p1)), (2, .int y2_5), (0, .ref a_p1), (1, .int x2)] → f_Arr_fill_L5 n_p1 x2 kk n y2_5 w_p1_5 = some v_p1' → W p l e rm_Arr_fill s m args below meth c H locs 0 0 Q (F0 m 5 ls []) := by
    intro kk hk5 n
    induction n with
    | zero =>
      intro y2_5 w_p1_5 H locs ls hP hS hl hf
      rw [f_Arr_fill_L5] at hf
      cases hf
    | succ n ih5 =>
      intro y2_5 w_p1_5 H locs ls hP hS hl hf
      rw [f_Arr_fill_L5] at hf
      refine lv_iload_n hx hb d_Arr_fill_5 rfl (lv_at hl 1 rfl) ?_
      refine lv_iload_n hx hb d_Arr_fill_6 rfl (lv_at hl 0 rfl) ?_
      refine lv_icmp_ge (tgt := 20) hx hb d_Arr_fill_7 (by decide) (fun c1 => ?_) (fun c1 => ?_)
      · replace hf := gp c1 hf
        exact hk5 y2_5 w_p1_5 _ _ _ hP hS (lv_sub hl [0, 1, 2, 3] rfl) hf
      · replace hf := gn c1 hf
        refine lv_aload_n hx hb d_Arr_fill_10 rfl (lv_at hl 2 rfl) ?_
        refine lv_iload_n hx hb d_Arr_fill_11 rfl (lv_at hl 1 rfl) ?_
        refine lv_iload_n hx hb d_Arr_fill_12 rfl (lv_at hl 3 rfl) ?_
        obtain ⟨hi2, hf⟩ := gd hf
        refine va_iast hx hb hK hP (hDL _ rfl) hS 0 0 rfl rfl hi2 d_Arr_fill_13 (fun H locs hP _ hS => ?_)
        have hP : va_P D vwCl [(a_p1, .inl (cI, n_p1, .inl (upd w_p1_5 y2_5.toNatClampNeg x2)))] H := hP
        refine lv_iinc (v := (y2_5 + 1)) (lv' := [(2, .int (y2_5 + 1)), (3, .int (nI n_p1)), (0, .ref a_p1), (1, .int x2)]) hx hb d_Arr_fill_14 hl (k := 1) rfl rfl (by decide) rfl (fun ls hl => ?_)
        refine lv_goto (tgt := 5) hx hb d_Arr_fill_17 (by decide) ?_
        exact ih5 (y2_5 + 1) (upd w_p1_5 y2_5.toNatClampNeg x2) _ _ _ hP hS (lv_sub hl [1, 0, 2, 3] rfl) hf
  refine lp5 _ (fun y2_5 w_p1_5 H locs ls hP hS hl hf => ?_) FU 0 v_p1 _ _ _ hP hS (lv_sub hl [0, 1, 2, 3] rfl) hf
  cases hf
  exact hret _ _ _ _ hS hP d_Arr_fill_20
end
section
abbrev b_Row_init : ByteArray := prog_6_method_1_code
def y_Row_init : MethodName := ⟨R_Row, "<init>", "()V"⟩
def ws_Row_init : List Cond := Cond.code y_Row_init b_Row_init 1 none :: GW
theorem hd_Row_init : y_Row_init.cls ≠ "java/lang/invoke/MethodHandle" ∧ y_Row_init.cls ≠ "java/lang/invoke/VarHandle" ∧ (parseMethodDescriptor y_Row_init.desc).map (fun d => d.parameters.length) = some 0 := by decide +kernel
theorem d_Row_init_0 : decode b_Row_init 0 = .ok (.aload_n 0, 1) := by decide +kernel
theorem d_Row_init_1 : decode b_Row_init 1 = .ok (.invokespecial 3, 3) := by decide +kernel
theorem d_Row_init_4 : decode b_Row_init 4 = .ok (.aload_n 0, 1) := by decide +kernel
theorem d_Row_init_5 : decode b_Row_init 5 = .ok (.bipush 6, 2) := by decide +kernel
theorem d_Row_init_7 : decode b_Row_init 7 = .ok (.newarray .int, 2) := by decide +kernel
theorem d_Row_init_9 : decode b_Row_init 9 = .ok (.putfield 9, 3) := by decide +kernel
theorem d_Row_init_12 : decode b_Row_init 12 = .ok (.aload_n 0, 1) := by decide +kernel
theorem d_Row_init_13 : decode b_Row_init 13 = .ok (.iconst 0, 1) := by decide +kernel
theorem d_Row_init_14 : decode b_Row_init 14 = .ok (.putfield 15, 3) := by decide +kernel
theorem d_Row_init_17 : decode b_Row_init 17 = .ok (.return_, 1) := by decide +kernel
abbrev b_Row_add : ByteArray := prog_6_method_2_code
def y_Row_add : MethodName := ⟨R_Row, "add", "(I)Z"⟩
def ws_Row_add : List Cond := Cond.code y_Row_add b_Row_add 2 (some .boolean) :: GW
theorem hd_Row_add : y_Row_add.cls ≠ "java/lang/invoke/MethodHandle" ∧ y_Row_add.cls ≠ "java/lang/invoke/VarHandle" ∧ (parseMethodDescriptor y_Row_add.desc).map (fun d => d.parameters.length) = some 1 := by decide +kernel
theorem d_Row_add_0 : decode b_Row_add 0 = .ok (.aload_n 0, 1) := by decide +kernel
theorem d_Row_add_1 : decode b_Row_add 1 = .ok (.getfield 15, 3) := by decide +kernel
theorem d_Row_add_4 : decode b_Row_add 4 = .ok (.bipush 6, 2) := by decide +kernel
theorem d_Row_add_6 : decode b_Row_add 6 = .ok (.if_icmp .lt 5, 3) := by decide +kernel
theorem d_Row_add_9 : decode b_Row_add 9 = .ok (.iconst 0, 1) := by decide +kernel
theorem d_Row_add_10 : decode b_Row_add 10 = .ok (.ireturn, 1) := by decide +kernel
theorem d_Row_add_11 : decode b_Row_add 11 = .ok (.aload_n 0, 1) := by decide +kernel
theorem d_Row_add_12 : decode b_Row_add 12 = .ok (.getfield 9, 3) := by decide +kernel
theorem d_Row_add_15 : decode b_Row_add 15 = .ok (.aload_n 0, 1) := by decide +kernel
theorem d_Row_add_16 : decode b_Row_add 16 = .ok (.getfield 15, 3) := by decide +kernel
theorem d_Row_add_19 : decode b_Row_add 19 = .ok (.iload_n 1, 1) := by decide +kernel
theorem d_Row_add_20 : decode b_Row_add 20 = .ok (.iastore, 1) := by decide +kernel
theorem d_Row_add_21 : decode b_Row_add 21 = .ok (.aload_n 0, 1) := by decide +kernel
theorem d_Row_add_22 : decode b_Row_add 22 = .ok (.dup, 1) := by decide +kernel
theorem d_Row_add_23 : decode b_Row_add 23 = .ok (.getfield 15, 3) := by decide +kernel
theorem d_Row_add_26 : decode b_Row_add 26 = .ok (.iconst 1, 1) := by decide +kernel
theorem d_Row_add_27 : decode b_Row_add 27 = .ok (.iadd, 1) := by decide +kernel
theorem d_Row_add_28 : decode b_Row_add 28 = .ok (.putfield 15, 3) := by decide +kernel
theorem d_Row_add_31 : decode b_Row_add 31 = .ok (.iconst 1, 1) := by decide +kernel
theorem d_Row_add_32 : decode b_Row_add 32 = .ok (.ireturn, 1) := by decide +kernel
abbrev b_Row_isBelow : ByteArray := prog_6_method_3_code
def y_Row_isBelow : MethodName := ⟨R_Row, "isBelow", "(I)Z"⟩
def ws_Row_isBelow : List Cond := Cond.code y_Row_isBelow b_Row_isBelow 3 (some .boolean) :: GW
theorem hd_Row_isBelow : y_Row_isBelow.cls ≠ "java/lang/invoke/MethodHandle" ∧ y_Row_isBelow.cls ≠ "java/lang/invoke/VarHandle" ∧ (parseMethodDescriptor y_Row_isBelow.desc).map (fun d => d.parameters.length) = some 1 := by decide +kernel
theorem d_Row_isBelow_0 : decode b_Row_isBelow 0 = .ok (.iconst 0, 1) := by decide +kernel
theorem d_Row_isBelow_1 : decode b_Row_isBelow 1 = .ok (.istore_n 2, 1) := by decide +kernel
theorem d_Row_isBelow_2 : decode b_Row_isBelow 2 = .ok (.iload_n 2, 1) := by decide +kernel
theorem d_Row_isBelow_3 : decode b_Row_isBelow 3 = .ok (.aload_n 0, 1) := by decide +kernel
theorem d_Row_isBelow_4 : decode b_Row_isBelow 4 = .ok (.getfield 15, 3) := by decide +kernel
theorem d_Row_isBelow_7 : decode b_Row_isBelow 7 = .ok (.if_icmp .ge 30, 3) := by decide +kernel
theorem d_Row_isBelow_10 : decode b_Row_isBelow 10 = .ok (.aload_n 0, 1) := by decide +kernel
theorem d_Row_isBelow_11 : decode b_Row_isBelow 11 = .ok (.getfield 9, 3) := by decide +kernel
theorem d_Row_isBelow_14 : decode b_Row_isBelow 14 = .ok (.iload_n 2, 1) := by decide +kernel
theorem d_Row_isBelow_15 : decode b_Row_isBelow 15 = .ok (.iaload, 1) := by decide +kernel
theorem d_Row_isBelow_16 : decode b_Row_isBelow 16 = .ok (.ifCond .lt 13, 3) := by decide +kernel
theorem d_Row_isBelow_19 : decode b_Row_isBelow 19 = .ok (.aload_n 0, 1) := by decide +kernel
theorem d_Row_isBelow_20 : decode b_Row_isBelow 20 = .ok (.getfield 9, 3) := by decide +kernel
theorem d_Row_isBelow_23 : decode b_Row_isBelow 23 = .ok (.iload_n 2, 1) := by decide +kernel
theorem d_Row_isBelow_24 : decode b_Row_isBelow 24 = .ok (.iaload, 1) := by decide +kernel
theorem d_Row_isBelow_25 : decode b_Row_isBelow 25 = .ok (.iload_n 1, 1) := by decide +kernel
theorem d_Row_isBelow_26 : decode b_Row_isBelow 26 = .ok (.if_icmp .lt 5, 3) := by decide +kernel
theorem d_Row_isBelow_29 : decode b_Row_isBelow 29 = .ok (.iconst 0, 1) := by decide +kernel
theorem d_Row_isBelow_30 : decode b_Row_isBelow 30 = .ok (.ireturn, 1) := by decide +kernel
theorem d_Row_isBelow_31 : decode b_Row_isBelow 31 = .ok (.iinc 2 1, 3) := by decide +kernel
theorem d_Row_isBelow_34 : decode b_Row_isBelow 34 = .ok (.goto (-32), 3) := by decide +kernel
theorem d_Row_isBelow_37 : decode b_Row_isBelow 37 = .ok (.iconst 1, 1) := by decide +kernel
theorem d_Row_isBelow_38 : decode b_Row_isBelow 38 = .ok (.ireturn, 1) := by decide +kernel
abbrev b_Row_clear : ByteArray := prog_6_method_4_code
def y_Row_clear : MethodName := ⟨R_Row, "clear", "()V"⟩
def ws_Row_clear : List Cond := Cond.code y_Row_clear b_Row_clear 1 none :: GW
theorem hd_Row_clear : y_Row_clear.cls ≠ "java/lang/invoke/MethodHandle" ∧ y_Row_clear.cls ≠ "java/lang/invoke/VarHandle" ∧ (parseMethodDescriptor y_Row_clear.desc).map (fun d => d.parameters.length) = some 0 := by decide +kernel
theorem d_Row_clear_0 : decode b_Row_clear 0 = .ok (.aload_n 0, 1) := by decide +kernel
theorem d_Row_clear_1 : decode b_Row_clear 1 = .ok (.iconst 0, 1) := by decide +kernel
theorem d_Row_clear_2 : decode b_Row_clear 2 = .ok (.putfield 15, 3) := by decide +kernel
theorem d_Row_clear_5 : decode b_Row_clear 5 = .ok (.return_, 1) := by decide +kernel
end
section
abbrev rm_Row_init : Room := { frames := 1, cells := 1, slots := 6, locals := 12 }
set_option maxHeartbeats 4000000 in
set_option maxRecDepth 100000 in
theorem n_Row_init (l : Launch) (D : va_G) (cI : ClassId) (a_this : Nat) : CtN l y_Row_init ws_Row_init rm_Row_init D cI [(a_this, .inr (0, [.null, .int 0]))] (fun (u : Nat) => [(a_this, .inr (0, [.ref u, .int 0])), (u, .inl (cI, 6, .inl (fun _ => 0)))]) [.ref a_this] 1 6 := by
  refine CtN.ofW (cc := b_Row_init) (maxL := 1) (by decide) rfl (Nat.le_of_ble_eq_true rfl) ?_
  intro p e s m args below meth c Q A hx hb hml hown hts hin hP hK hN hA hD hret ls hl
  have hS : va_S A s.heap s.heap [] := va_S.rf
  have hl : lv_has ls 1 [(0, .ref a_this)] := hl
  refine lv_aload_n hx hb d_Row_init_0 rfl (lv_at hl 0 rfl) ?_
  refine W.objInit hx hb hown (hts _ q_0) (hts _ q_1) (hts _ q_2) rfl (by rw [hml]; exact hl.1) rfl d_Row_init_1 (Nat.le_of_ble_eq_true rfl) (Nat.le_of_ble_eq_true rfl) ?_
  refine W.eq (g2 := F0 m 4 ls []) rfl ?_
  refine lv_aload_n hx hb d_Row_init_4 rfl (lv_at hl 0 rfl) ?_
  refine lv_bipush (v := 6) hx hb d_Row_init_5 (by decide) ?_
  refine va_newa (atype := .int) (ty := .int) (N' := 6) (a0 := (6, .inl (fun _ => 0))) hx hb (hts _ q_3) rfl hK hP hD hS hA (fun _ => rfl) (by decide) (by decide) (by decide) (Nat.le_of_ble_eq_true rfl) (Nat.le_of_ble_eq_true rfl) d_Row_init_7 (fun q1 cA H hK2 hP hD hS => ?_)
  obtain rfl : cI = cA := (arr_eq hK2).symm
  have hP : va_P D vwCl [(a_this, .inr (0, [.null, .int 0])), (q1, .inl (cI, 6, .inl (fun _ => 0)))] H := hP
  have hD : va_D A [(a_this, .inr (0, [.null, .int 0])), (q1, .inl (cI, 6, .inl (fun _ => 0)))] := hD
  refine va_putF (D := D) (ci := 0) (v := .ref q1) (ty := (.array .int)) (C := R_Row) (T := T_Row) (N := 2) hx hb hts in_Row ty_Row tyok_Row nm_Row hown hK hP hD hS 0 rfl rfl 0 (by decide) (hts _ q_4) (fun _ h9 => h9) rfl hin rfl (by decide +kernel) rfl rfl (Nat.le_of_ble_eq_true rfl) d_Row_init_9 (fun H locs hP hD hS => ?_)
  have hP : va_P D vwCl [(a_this, .inr (0, [.ref q1, .int 0])), (q1, .inl (cI, 6, .inl (fun _ => 0)))] H := hP
  have hD : va_D A [(a_this, .inr (0, [.ref q1, .int 0])), (q1, .inl (cI, 6, .inl (fun _ => 0)))] := hD
  refine lv_aload_n hx hb d_Row_init_12 rfl (lv_at hl 0 rfl) ?_
  refine lv_iconst (v := 0) hx hb d_Row_init_13 (by decide) ?_
  refine va_put (D := D) (ci := 0) (v := .int 0) (ty := .int) (C := R_Row) (T := T_Row) (N := 2) hx hb hts in_Row ty_Row tyok_Row nm_Row hown hK hP hD hS 0 rfl rfl 1 (by decide) (hts _ q_5) (fun _ h9 => h9) rfl (by decide +kernel) rfl rfl (Nat.le_of_ble_eq_true rfl) d_Row_init_14 (fun H locs hP hD hS => ?_)
  have hP : va_P D vwCl [(a_this, .inr (0, [.ref q1, .int 0])), (q1, .inl (cI, 6, .inl (fun _ => 0)))] H := hP
  have hD : va_D A [(a_this, .inr (0, [.ref q1, .int 0])), (q1, .inl (cI, 6, .inl (fun _ => 0)))] := hD
  refine W.widen (k := 1) (n := 6) (by decide) (by decide) ?_
  exact hret q1 _ _ _ _ hS (hP.sub [0, 1] rfl) (hD.sub [0, 1] (by decide) rfl) d_Row_init_17
def f_Row_add (v_this_size : Int32) (v_this_numbers : Nat → Int32) (x1 : Int32) : Option (Int32 × Int32 × (Nat → Int32)) :=
  if v_this_size < 6 then
    if inb v_this_size 6 then
      some (1, (v_this_size + 1), (upd v_this_numbers v_this_size.toNatClampNeg x1))
    else none
  else
    some (0, v_this_size, v_this_numbers)
abbrev rm_Row_add : Room := { frames := 0, cells := 0, slots := 0, locals := 0 }
set_option maxHeartbeats 4000000 in
set_option maxRecDepth 100000 in
theorem c_Row_add (l : Launch) (D : va_G) (cI : ClassId) (a_this a_this_numbers : Nat) (v_this_size : Int32) (v_this_numbers : Nat → Int32) (x1 : Int32) {r_ : Int32} {v_this_size' : Int32} {v_this_numbers' : Nat → Int32} (hf : f_Row_add v_this_size v_this_numbers x1 = some (r_, v_this_size', v_this_numbers')) : CtI l y_Row_add ws_Row_add rm_Row_add D cI [(a_this, .inr (0, [.ref a_this_numbers, .int v_this_size])), (a_this_numbers, .inl (cI, 6, .inl v_this_numbers))] [(a_this, .inr (0, [.ref a_this_numbers, .int v_this_size'])), (a_this_numbers, .inl (cI, 6, .inl v_this_numbers'))] [.ref a_this, .int x1] .boolean r_ := by
  refine CtI.ofW (cc := b_Row_add) (maxL := 2) (ty := .boolean) (by decide) rfl (Nat.le_of_ble_eq_true rfl) ?_
  intro p e s m args below meth c Q A hx hb hml hown hts hP hK hN hA hD hret ls hl
  have hS : va_S A s.heap s.heap [] := va_S.rf
  have hDL : DL A [a_this, a_this_numbers] := DL.of hD rfl
  have hl : lv_has ls 2 [(0, .ref a_this), (1, .int x1)] := hl
  unfold f_Row_add at hf
  refine lv_aload_n hx hb d_Row_add_0 rfl (lv_at hl 0 rfl) ?_
  refine va_get (D := D) (ci := 0) (v := .int v_this_size) (C := R_Row) (T := T_Row) (N := 2) hx hb hts in_Row hown hK hP 0 rfl rfl 1 (by decide) (hts _ q_5) (fun _ h9 => h9) rfl d_Row_add_1 ?_
  refine lv_bipush (v := 6) hx hb d_Row_add_4 (by decide) ?_
  refine lv_icmp_lt (tgt := 11) hx hb d_Row_add_6 (by decide) (fun c1 => ?_) (fun c1 => ?_)
  · replace hf := gp c1 hf
    refine lv_aload_n hx hb d_Row_add_11 rfl (lv_at hl 0 rfl) ?_
    refine va_get (D := D) (ci := 0) (v := .ref a_this_numbers) (C := R_Row) (T := T_Row) (N := 2) hx hb hts in_Row hown hK hP 0 rfl rfl 0 (by decide) (hts _ q_4) (fun _ h9 => h9) rfl d_Row_add_12 ?_
    refine lv_aload_n hx hb d_Row_add_15 rfl (lv_at hl 0 rfl) ?_
    refine va_get (D := D) (ci := 0) (v := .int v_this_size) (C := R_Row) (T := T_Row) (N := 2) hx hb hts in_Row hown hK hP 0 rfl rfl 1 (by decide) (hts _ q_5) (fun _ h9 => h9) rfl d_Row_add_16 ?_
    refine lv_iload_n hx hb d_Row_add_19 rfl (lv_at hl 1 rfl) ?_
    obtain ⟨hi2, hf⟩ := gd hf
    refine va_iast hx hb hK hP (hDL _ rfl) hS 1 0 rfl rfl hi2 d_Row_add_20 (fun H locs hP _ hS => ?_)
    have hP : va_P D vwCl [(a_this, .inr (0, [.ref a_this_numbers, .int v_this_size])), (a_this_numbers, .inl (cI, 6, .inl (upd v_this_numbers v_this_size.toNatClampNeg x1)))] H := hP
    refine lv_aload_n hx hb d_Row_add_21 rfl (lv_at hl 0 rfl) ?_
    refine lv_dup hx hb d_Row_add_22 rfl ?_
    refine va_get (D := D) (ci := 0) (v := .int v_this_size) (C := R_Row) (T := T_Row) (N := 2) hx hb hts in_Row hown hK hP 0 rfl rfl 1 (by decide) (hts _ q_5) (fun _ h9 => h9) rfl d_Row_add_23 ?_
    refine lv_iconst (v := 1) hx hb d_Row_add_26 (by decide) ?_
    refine lv_iadd hx hb d_Row_add_27 ?_
    refine va_put (D := D) (ci := 0) (v := .int (v_this_size + 1)) (ty := .int) (C := R_Row) (T := T_Row) (N := 2) hx hb hts in_Row ty_Row tyok_Row nm_Row hown hK hP (hDL _ rfl) hS 0 rfl rfl 1 (by decide) (hts _ q_5) (fun _ h9 => h9) rfl (by decide +kernel) rfl rfl (Nat.le_of_ble_eq_true rfl) d_Row_add_28 (fun H locs hP _ hS => ?_)
    have hP : va_P D vwCl [(a_this, .inr (0, [.ref a_this_numbers, .int (v_this_size + 1)])), (a_this_numbers, .inl (cI, 6, .inl (upd v_this_numbers v_this_size.toNatClampNeg x1)))] H := hP
    refine lv_iconst (v := 1) hx hb d_Row_add_31 (by decide) ?_
    cases hf
    exact hret _ _ _ _ hS hP rfl d_Row_add_32
  · replace hf := gn c1 hf
    refine lv_iconst (v := 0) hx hb d_Row_add_9 (by decide) ?_
    cases hf
    exact hret _ _ _ _ hS hP rfl d_Row_add_10
def f_Row_isBelow_L2 (v_this_size : Int32) (v_this_numbers : Nat → Int32) (x1 : Int32) (k : Int32 → Option (Int32)) : Nat → Int32 → Option (Int32)
  | 0, _ => none
  | n + 1, y2_2 =>
    if v_this_size ≤ y2_2 then
      k y2_2
    else
      if inb y2_2 6 then
        if (v_this_numbers y2_2.toNatClampNeg) < 0 then
          some 0
        else
          if inb y2_2 6 then
            if (v_this_numbers y2_2.toNatClampNeg) < x1 then
              f_Row_isBelow_L2 v_this_size v_this_numbers x1 k n (y2_2 + 1)
            else
              some 0
          else none
      else none
def f_Row_isBelow (v_this_size : Int32) (v_this_numbers : Nat → Int32) (x1 : Int32) : Option (Int32) :=
  f_Row_isBelow_L2 v_this_size v_this_numbers x1 (fun y2_2 =>
    some 1) FU 0
abbrev rm_Row_isBelow : Room := { frames := 0, cells := 0, slots := 0, locals := 0 }
set_option maxHeartbeats 4000000 in
set_option maxRecDepth 100000 in
theorem c_Row_isBelow (l : Launch) (D : va_G) (cI : ClassId) (a_this a_this_numbers : Nat) (v_this_size : Int32) (v_this_numbers : Nat → Int32) (x1 : Int32) {r_ : Int32} (hf : f_Row_isBelow v_this_size v_this_numbers x1 = some r_) : CtP l y_Row_isBelow ws_Row_isBelow rm_Row_isBelow D cI [(a_this, .inr (0, [.ref a_this_numbers, .int v_this_size])), (a_this_numbers, .inl (cI, 6, .inl v_this_numbers))] [.ref a_this, .int x1] .boolean r_ := by
  refine CtP.ofW (cc := b_Row_isBelow) (maxL := 3) (ty := .boolean) (by decide) rfl (Nat.le_of_ble_eq_true rfl) ?_
  intro p e s m args below meth c Q hx hb hml hown hts hP hK hN hret ls hl
  have hl : lv_has ls 3 [(0, .ref a_this), (1, .int x1)] := hl
  unfold f_Row_isBelow at hf
  refine lv_iconst (v := 0) hx hb d_Row_isBelow_0 (by decide) ?_
  refine lv_istore_n (lv' := [(2, .int 0), (0, .ref a_this), (1, .int x1)]) hx hb d_Row_isBelow_1 rfl hl (by decide) rfl (fun ls hl => ?_)
  have lp2 : ∀ (kk : Int32 → Option (Int32)), (∀ (y2_2 : Int32) (ls : Array Slot), lv_has ls 3 [(2, .int y2_2), (0, .ref a_this), (1, .int x1)] → kk y2_2 = some r_ → W p l e rm_Row_isBelow s m args below meth c s.heap [] 0 0 Q (F0 m 37 ls [])) → ∀ (n : Nat) (y2_2 : Int32) (ls : Array Slot), lv_has ls 3 [(2, .int y2_2), (0, .ref a_this), (1, .int x1)] → f_Row_isBelow_L2 v_this_size v_this_numbers x1 kk n y2_2 = some r_ → W p l e rm_Row_isBelow s m args below meth c s.heap [] 0 0 Q (F0 m 2 ls []) := by
    intro kk hk2 n
    induction n with
    | zero =>
      intro y2_2 ls hl hf
      rw [f_Row_isBelow_L2] at hf
      cases hf
    | succ n ih2 =>
      intro y2_2 ls hl hf
      rw [f_Row_isBelow_L2] at hf
      refine lv_iload_n hx hb d_Row_isBelow_2 rfl (lv_at hl 0 rfl) ?_
      refine lv_aload_n hx hb d_Row_isBelow_3 rfl (lv_at hl 1 rfl) ?_
      refine va_get (D := D) (ci := 0) (v := .int v_this_size) (C := R_Row) (T := T_Row) (N := 2) hx hb hts in_Row hown hK hP 0 rfl rfl 1 (by decide) (hts _ q_5) (fun _ h9 => h9) rfl d_Row_isBelow_4 ?_
      refine lv_icmp_ge (tgt := 37) hx hb d_Row_isBelow_7 (by decide) (fun c1 => ?_) (fun c1 => ?_)
      · replace hf := gp c1 hf
        exact hk2 y2_2 _ (lv_sub hl [0, 1, 2] rfl) hf
      · replace hf := gn c1 hf
        refine lv_aload_n hx hb d_Row_isBelow_10 rfl (lv_at hl 1 rfl) ?_
        refine va_get (D := D) (ci := 0) (v := .ref a_this_numbers) (C := R_Row) (T := T_Row) (N := 2) hx hb hts in_Row hown hK hP 0 rfl rfl 0 (by decide) (hts _ q_4) (fun _ h9 => h9) rfl d_Row_isBelow_11 ?_
        refine lv_iload_n hx hb d_Row_isBelow_14 rfl (lv_at hl 0 rfl) ?_
        obtain ⟨hi2, hf⟩ := gd hf
        refine va_iald hx hb hK hP 1 0 rfl rfl hi2 d_Row_isBelow_15 ?_
        refine lv_if_lt (tgt := 29) hx hb d_Row_isBelow_16 (by decide) (fun c3 => ?_) (fun c3 => ?_)
        · replace hf := gp c3 hf
          refine lv_iconst (v := 0) hx hb d_Row_isBelow_29 (by decide) ?_
          cases hf
          exact hret _ _ rfl d_Row_isBelow_30
        · replace hf := gn c3 hf
          refine lv_aload_n hx hb d_Row_isBelow_19 rfl (lv_at hl 1 rfl) ?_
          refine va_get (D := D) (ci := 0) (v := .ref a_this_numbers) (C := R_Row) (T := T_Row) (N := 2) hx hb hts in_Row hown hK hP 0 rfl rfl 0 (by decide) (hts _ q_4) (fun _ h9 => h9) rfl d_Row_isBelow_20 ?_
          refine lv_iload_n hx hb d_Row_isBelow_23 rfl (lv_at hl 0 rfl) ?_
          obtain ⟨hi4, hf⟩ := gd hf
          refine va_iald hx hb hK hP 1 0 rfl rfl hi4 d_Row_isBelow_24 ?_
          refine lv_iload_n hx hb d_Row_isBelow_25 rfl (lv_at hl 2 rfl) ?_
          refine lv_icmp_lt (tgt := 31) hx hb d_Row_isBelow_26 (by decide) (fun c5 => ?_) (fun c5 => ?_)
          · replace hf := gp c5 hf
            refine lv_iinc (v := (y2_2 + 1)) (lv' := [(2, .int (y2_2 + 1)), (0, .ref a_this), (1, .int x1)]) hx hb d_Row_isBelow_31 hl (k := 0) rfl rfl (by decide) rfl (fun ls hl => ?_)
            refine lv_goto (tgt := 2) hx hb d_Row_isBelow_34 (by decide) ?_
            exact ih2 (y2_2 + 1) _ (lv_sub hl [0, 1, 2] rfl) hf
          · replace hf := gn c5 hf
            refine lv_iconst (v := 0) hx hb d_Row_isBelow_29 (by decide) ?_
            cases hf
            exact hret _ _ rfl d_Row_isBelow_30
  refine lp2 _ (fun y2_2 ls hl hf => ?_) FU 0 _ (lv_sub hl [0, 1, 2] rfl) hf
  refine lv_iconst (v := 1) hx hb d_Row_isBelow_37 (by decide) ?_
  cases hf
  exact hret _ _ rfl d_Row_isBelow_38
def f_Row_clear : Option (Int32) :=
  some 0
abbrev rm_Row_clear : Room := { frames := 0, cells := 0, slots := 0, locals := 0 }
set_option maxHeartbeats 4000000 in
set_option maxRecDepth 100000 in
theorem c_Row_clear (l : Launch) (D : va_G) (cI : ClassId) (a_this a_this_numbers : Nat) (v_this_size : Int32) {v_this_size' : Int32} (hf : f_Row_clear = some v_this_size') : CtV l y_Row_clear ws_Row_clear rm_Row_clear D cI [(a_this, .inr (0, [.ref a_this_numbers, .int v_this_size]))] [(a_this, .inr (0, [.ref a_this_numbers, .int v_this_size']))] [.ref a_this] := by
  refine CtV.ofW (cc := b_Row_clear) (maxL := 1) (by decide) rfl (Nat.le_of_ble_eq_true rfl) ?_
  intro p e s m args below meth c Q A hx hb hml hown hts hP hK hN hA hD hret ls hl
  have hS : va_S A s.heap s.heap [] := va_S.rf
  have hDL : DL A [a_this] := DL.of hD rfl
  have hl : lv_has ls 1 [(0, .ref a_this)] := hl
  unfold f_Row_clear at hf
  refine lv_aload_n hx hb d_Row_clear_0 rfl (lv_at hl 0 rfl) ?_
  refine lv_iconst (v := 0) hx hb d_Row_clear_1 (by decide) ?_
  refine va_put (D := D) (ci := 0) (v := .int 0) (ty := .int) (C := R_Row) (T := T_Row) (N := 2) hx hb hts in_Row ty_Row tyok_Row nm_Row hown hK hP (hDL _ rfl) hS 0 rfl rfl 1 (by decide) (hts _ q_5) (fun _ h9 => h9) rfl (by decide +kernel) rfl rfl (Nat.le_of_ble_eq_true rfl) d_Row_clear_2 (fun H locs hP _ hS => ?_)
  have hP : va_P D vwCl [(a_this, .inr (0, [.ref a_this_numbers, .int 0]))] H := hP
  cases hf
  exact hret _ _ _ _ hS hP d_Row_clear_5
end
section
abbrev b_Tab_init : ByteArray := prog_8_method_1_code
def y_Tab_init : MethodName := ⟨R_Tab, "<init>", "(I)V"⟩
def ws_Tab_init : List Cond := Cond.code y_Tab_init b_Tab_init 3 none :: GW
theorem hd_Tab_init : y_Tab_init.cls ≠ "java/lang/invoke/MethodHandle" ∧ y_Tab_init.cls ≠ "java/lang/invoke/VarHandle" ∧ (parseMethodDescriptor y_Tab_init.desc).map (fun d => d.parameters.length) = some 1 := by decide +kernel
theorem d_Tab_init_0 : decode b_Tab_init 0 = .ok (.aload_n 0, 1) := by decide +kernel
theorem d_Tab_init_1 : decode b_Tab_init 1 = .ok (.invokespecial 3, 3) := by decide +kernel
theorem d_Tab_init_4 : decode b_Tab_init 4 = .ok (.aload_n 0, 1) := by decide +kernel
theorem d_Tab_init_5 : decode b_Tab_init 5 = .ok (.iconst 0, 1) := by decide +kernel
theorem d_Tab_init_6 : decode b_Tab_init 6 = .ok (.putfield 9, 3) := by decide +kernel
theorem d_Tab_init_9 : decode b_Tab_init 9 = .ok (.iconst 0, 1) := by decide +kernel
theorem d_Tab_init_10 : decode b_Tab_init 10 = .ok (.iload_n 1, 1) := by decide +kernel
theorem d_Tab_init_11 : decode b_Tab_init 11 = .ok (.invokestatic 15, 3) := by decide +kernel
theorem d_Tab_init_14 : decode b_Tab_init 14 = .ok (.istore_n 2, 1) := by decide +kernel
theorem d_Tab_init_15 : decode b_Tab_init 15 = .ok (.aload_n 0, 1) := by decide +kernel
theorem d_Tab_init_16 : decode b_Tab_init 16 = .ok (.iload_n 2, 1) := by decide +kernel
theorem d_Tab_init_17 : decode b_Tab_init 17 = .ok (.newarray .int, 2) := by decide +kernel
theorem d_Tab_init_19 : decode b_Tab_init 19 = .ok (.putfield 21, 3) := by decide +kernel
theorem d_Tab_init_22 : decode b_Tab_init 22 = .ok (.aload_n 0, 1) := by decide +kernel
theorem d_Tab_init_23 : decode b_Tab_init 23 = .ok (.iload_n 2, 1) := by decide +kernel
theorem d_Tab_init_24 : decode b_Tab_init 24 = .ok (.bipush 6, 2) := by decide +kernel
theorem d_Tab_init_26 : decode b_Tab_init 26 = .ok (.imul, 1) := by decide +kernel
theorem d_Tab_init_27 : decode b_Tab_init 27 = .ok (.newarray .int, 2) := by decide +kernel
theorem d_Tab_init_29 : decode b_Tab_init 29 = .ok (.putfield 25, 3) := by decide +kernel
theorem d_Tab_init_32 : decode b_Tab_init 32 = .ok (.return_, 1) := by decide +kernel
abbrev b_Tab_open : ByteArray := prog_8_method_2_code
def y_Tab_open : MethodName := ⟨R_Tab, "open", "()I"⟩
def ws_Tab_open : List Cond := Cond.code y_Tab_open b_Tab_open 1 (some .int) :: GW
theorem hd_Tab_open : y_Tab_open.cls ≠ "java/lang/invoke/MethodHandle" ∧ y_Tab_open.cls ≠ "java/lang/invoke/VarHandle" ∧ (parseMethodDescriptor y_Tab_open.desc).map (fun d => d.parameters.length) = some 0 := by decide +kernel
theorem d_Tab_open_0 : decode b_Tab_open 0 = .ok (.aload_n 0, 1) := by decide +kernel
theorem d_Tab_open_1 : decode b_Tab_open 1 = .ok (.getfield 9, 3) := by decide +kernel
theorem d_Tab_open_4 : decode b_Tab_open 4 = .ok (.aload_n 0, 1) := by decide +kernel
theorem d_Tab_open_5 : decode b_Tab_open 5 = .ok (.getfield 21, 3) := by decide +kernel
theorem d_Tab_open_8 : decode b_Tab_open 8 = .ok (.arraylength, 1) := by decide +kernel
theorem d_Tab_open_9 : decode b_Tab_open 9 = .ok (.if_icmp .lt 5, 3) := by decide +kernel
theorem d_Tab_open_12 : decode b_Tab_open 12 = .ok (.iconst (-1), 1) := by decide +kernel
theorem d_Tab_open_13 : decode b_Tab_open 13 = .ok (.ireturn, 1) := by decide +kernel
theorem d_Tab_open_14 : decode b_Tab_open 14 = .ok (.aload_n 0, 1) := by decide +kernel
theorem d_Tab_open_15 : decode b_Tab_open 15 = .ok (.getfield 21, 3) := by decide +kernel
theorem d_Tab_open_18 : decode b_Tab_open 18 = .ok (.aload_n 0, 1) := by decide +kernel
theorem d_Tab_open_19 : decode b_Tab_open 19 = .ok (.getfield 9, 3) := by decide +kernel
theorem d_Tab_open_22 : decode b_Tab_open 22 = .ok (.iconst 0, 1) := by decide +kernel
theorem d_Tab_open_23 : decode b_Tab_open 23 = .ok (.iastore, 1) := by decide +kernel
theorem d_Tab_open_24 : decode b_Tab_open 24 = .ok (.aload_n 0, 1) := by decide +kernel
theorem d_Tab_open_25 : decode b_Tab_open 25 = .ok (.dup, 1) := by decide +kernel
theorem d_Tab_open_26 : decode b_Tab_open 26 = .ok (.getfield 9, 3) := by decide +kernel
theorem d_Tab_open_29 : decode b_Tab_open 29 = .ok (.iconst 1, 1) := by decide +kernel
theorem d_Tab_open_30 : decode b_Tab_open 30 = .ok (.iadd, 1) := by decide +kernel
theorem d_Tab_open_31 : decode b_Tab_open 31 = .ok (.putfield 9, 3) := by decide +kernel
theorem d_Tab_open_34 : decode b_Tab_open 34 = .ok (.aload_n 0, 1) := by decide +kernel
theorem d_Tab_open_35 : decode b_Tab_open 35 = .ok (.getfield 9, 3) := by decide +kernel
theorem d_Tab_open_38 : decode b_Tab_open 38 = .ok (.iconst 1, 1) := by decide +kernel
theorem d_Tab_open_39 : decode b_Tab_open 39 = .ok (.isub, 1) := by decide +kernel
theorem d_Tab_open_40 : decode b_Tab_open 40 = .ok (.ireturn, 1) := by decide +kernel
abbrev b_Tab_append : ByteArray := prog_8_method_3_code
def y_Tab_append : MethodName := ⟨R_Tab, "append", "(I)V"⟩
def ws_Tab_append : List Cond := Cond.code y_Tab_append b_Tab_append 3 none :: GW
theorem hd_Tab_append : y_Tab_append.cls ≠ "java/lang/invoke/MethodHandle" ∧ y_Tab_append.cls ≠ "java/lang/invoke/VarHandle" ∧ (parseMethodDescriptor y_Tab_append.desc).map (fun d => d.parameters.length) = some 1 := by decide +kernel
theorem d_Tab_append_0 : decode b_Tab_append 0 = .ok (.aload_n 0, 1) := by decide +kernel
theorem d_Tab_append_1 : decode b_Tab_append 1 = .ok (.getfield 9, 3) := by decide +kernel
theorem d_Tab_append_4 : decode b_Tab_append 4 = .ok (.iconst 1, 1) := by decide +kernel
theorem d_Tab_append_5 : decode b_Tab_append 5 = .ok (.isub, 1) := by decide +kernel
theorem d_Tab_append_6 : decode b_Tab_append 6 = .ok (.istore_n 2, 1) := by decide +kernel
theorem d_Tab_append_7 : decode b_Tab_append 7 = .ok (.iload_n 2, 1) := by decide +kernel
theorem d_Tab_append_8 : decode b_Tab_append 8 = .ok (.ifCond .lt 14, 3) := by decide +kernel
theorem d_Tab_append_11 : decode b_Tab_append 11 = .ok (.aload_n 0, 1) := by decide +kernel
theorem d_Tab_append_12 : decode b_Tab_append 12 = .ok (.getfield 21, 3) := by decide +kernel
theorem d_Tab_append_15 : decode b_Tab_append 15 = .ok (.iload_n 2, 1) := by decide +kernel
theorem d_Tab_append_16 : decode b_Tab_append 16 = .ok (.iaload, 1) := by decide +kernel
theorem d_Tab_append_17 : decode b_Tab_append 17 = .ok (.bipush 6, 2) := by decide +kernel
theorem d_Tab_append_19 : decode b_Tab_append 19 = .ok (.if_icmp .lt 4, 3) := by decide +kernel
theorem d_Tab_append_22 : decode b_Tab_append 22 = .ok (.return_, 1) := by decide +kernel
theorem d_Tab_append_23 : decode b_Tab_append 23 = .ok (.aload_n 0, 1) := by decide +kernel
theorem d_Tab_append_24 : decode b_Tab_append 24 = .ok (.getfield 25, 3) := by decide +kernel
theorem d_Tab_append_27 : decode b_Tab_append 27 = .ok (.iload_n 2, 1) := by decide +kernel
theorem d_Tab_append_28 : decode b_Tab_append 28 = .ok (.bipush 6, 2) := by decide +kernel
theorem d_Tab_append_30 : decode b_Tab_append 30 = .ok (.imul, 1) := by decide +kernel
theorem d_Tab_append_31 : decode b_Tab_append 31 = .ok (.aload_n 0, 1) := by decide +kernel
theorem d_Tab_append_32 : decode b_Tab_append 32 = .ok (.getfield 21, 3) := by decide +kernel
theorem d_Tab_append_35 : decode b_Tab_append 35 = .ok (.iload_n 2, 1) := by decide +kernel
theorem d_Tab_append_36 : decode b_Tab_append 36 = .ok (.iaload, 1) := by decide +kernel
theorem d_Tab_append_37 : decode b_Tab_append 37 = .ok (.iadd, 1) := by decide +kernel
theorem d_Tab_append_38 : decode b_Tab_append 38 = .ok (.iload_n 1, 1) := by decide +kernel
theorem d_Tab_append_39 : decode b_Tab_append 39 = .ok (.iastore, 1) := by decide +kernel
theorem d_Tab_append_40 : decode b_Tab_append 40 = .ok (.aload_n 0, 1) := by decide +kernel
theorem d_Tab_append_41 : decode b_Tab_append 41 = .ok (.getfield 21, 3) := by decide +kernel
theorem d_Tab_append_44 : decode b_Tab_append 44 = .ok (.iload_n 2, 1) := by decide +kernel
theorem d_Tab_append_45 : decode b_Tab_append 45 = .ok (.dup2, 1) := by decide +kernel
theorem d_Tab_append_46 : decode b_Tab_append 46 = .ok (.iaload, 1) := by decide +kernel
theorem d_Tab_append_47 : decode b_Tab_append 47 = .ok (.iconst 1, 1) := by decide +kernel
theorem d_Tab_append_48 : decode b_Tab_append 48 = .ok (.iadd, 1) := by decide +kernel
theorem d_Tab_append_49 : decode b_Tab_append 49 = .ok (.iastore, 1) := by decide +kernel
theorem d_Tab_append_50 : decode b_Tab_append 50 = .ok (.return_, 1) := by decide +kernel
abbrev b_Tab_appendAll : ByteArray := prog_8_method_4_code
def y_Tab_appendAll : MethodName := ⟨R_Tab, "appendAll", "(LKindDesk$Row;)V"⟩
def ws_Tab_appendAll : List Cond := Cond.code y_Tab_appendAll b_Tab_appendAll 3 none :: GW
theorem hd_Tab_appendAll : y_Tab_appendAll.cls ≠ "java/lang/invoke/MethodHandle" ∧ y_Tab_appendAll.cls ≠ "java/lang/invoke/VarHandle" ∧ (parseMethodDescriptor y_Tab_appendAll.desc).map (fun d => d.parameters.length) = some 1 := by decide +kernel
theorem d_Tab_appendAll_0 : decode b_Tab_appendAll 0 = .ok (.iconst 0, 1) := by decide +kernel
theorem d_Tab_appendAll_1 : decode b_Tab_appendAll 1 = .ok (.istore_n 2, 1) := by decide +kernel
theorem d_Tab_appendAll_2 : decode b_Tab_appendAll 2 = .ok (.iload_n 2, 1) := by decide +kernel
theorem d_Tab_appendAll_3 : decode b_Tab_appendAll 3 = .ok (.aload_n 1, 1) := by decide +kernel
theorem d_Tab_appendAll_4 : decode b_Tab_appendAll 4 = .ok (.getfield 28, 3) := by decide +kernel
theorem d_Tab_appendAll_7 : decode b_Tab_appendAll 7 = .ok (.if_icmp .ge 19, 3) := by decide +kernel
theorem d_Tab_appendAll_10 : decode b_Tab_appendAll 10 = .ok (.aload_n 0, 1) := by decide +kernel
theorem d_Tab_appendAll_11 : decode b_Tab_appendAll 11 = .ok (.aload_n 1, 1) := by decide +kernel
theorem d_Tab_appendAll_12 : decode b_Tab_appendAll 12 = .ok (.getfield 31, 3) := by decide +kernel
theorem d_Tab_appendAll_15 : decode b_Tab_appendAll 15 = .ok (.iload_n 2, 1) := by decide +kernel
theorem d_Tab_appendAll_16 : decode b_Tab_appendAll 16 = .ok (.iaload, 1) := by decide +kernel
theorem d_Tab_appendAll_17 : decode b_Tab_appendAll 17 = .ok (.invokevirtual 34, 3) := by decide +kernel
theorem d_Tab_appendAll_20 : decode b_Tab_appendAll 20 = .ok (.iinc 2 1, 3) := by decide +kernel
theorem d_Tab_appendAll_23 : decode b_Tab_appendAll 23 = .ok (.goto (-21), 3) := by decide +kernel
theorem d_Tab_appendAll_26 : decode b_Tab_appendAll 26 = .ok (.return_, 1) := by decide +kernel
abbrev b_Tab_length : ByteArray := prog_8_method_5_code
def y_Tab_length : MethodName := ⟨R_Tab, "length", "(I)I"⟩
def ws_Tab_length : List Cond := Cond.code y_Tab_length b_Tab_length 2 (some .int) :: GW
theorem hd_Tab_length : y_Tab_length.cls ≠ "java/lang/invoke/MethodHandle" ∧ y_Tab_length.cls ≠ "java/lang/invoke/VarHandle" ∧ (parseMethodDescriptor y_Tab_length.desc).map (fun d => d.parameters.length) = some 1 := by decide +kernel
theorem d_Tab_length_0 : decode b_Tab_length 0 = .ok (.iload_n 1, 1) := by decide +kernel
theorem d_Tab_length_1 : decode b_Tab_length 1 = .ok (.ifCond .lt 20, 3) := by decide +kernel
theorem d_Tab_length_4 : decode b_Tab_length 4 = .ok (.iload_n 1, 1) := by decide +kernel
theorem d_Tab_length_5 : decode b_Tab_length 5 = .ok (.aload_n 0, 1) := by decide +kernel
theorem d_Tab_length_6 : decode b_Tab_length 6 = .ok (.getfield 9, 3) := by decide +kernel
theorem d_Tab_length_9 : decode b_Tab_length 9 = .ok (.if_icmp .ge 12, 3) := by decide +kernel
theorem d_Tab_length_12 : decode b_Tab_length 12 = .ok (.aload_n 0, 1) := by decide +kernel
theorem d_Tab_length_13 : decode b_Tab_length 13 = .ok (.getfield 21, 3) := by decide +kernel
theorem d_Tab_length_16 : decode b_Tab_length 16 = .ok (.iload_n 1, 1) := by decide +kernel
theorem d_Tab_length_17 : decode b_Tab_length 17 = .ok (.iaload, 1) := by decide +kernel
theorem d_Tab_length_18 : decode b_Tab_length 18 = .ok (.goto 4, 3) := by decide +kernel
theorem d_Tab_length_21 : decode b_Tab_length 21 = .ok (.iconst (-1), 1) := by decide +kernel
theorem d_Tab_length_22 : decode b_Tab_length 22 = .ok (.ireturn, 1) := by decide +kernel
abbrev b_Tab_at : ByteArray := prog_8_method_6_code
def y_Tab_at : MethodName := ⟨R_Tab, "at", "(II)I"⟩
def ws_Tab_at : List Cond := Cond.code y_Tab_at b_Tab_at 3 (some .int) :: GW
theorem hd_Tab_at : y_Tab_at.cls ≠ "java/lang/invoke/MethodHandle" ∧ y_Tab_at.cls ≠ "java/lang/invoke/VarHandle" ∧ (parseMethodDescriptor y_Tab_at.desc).map (fun d => d.parameters.length) = some 2 := by decide +kernel
theorem d_Tab_at_0 : decode b_Tab_at 0 = .ok (.iload_n 1, 1) := by decide +kernel
theorem d_Tab_at_1 : decode b_Tab_at 1 = .ok (.ifCond .lt 25, 3) := by decide +kernel
theorem d_Tab_at_4 : decode b_Tab_at 4 = .ok (.iload_n 1, 1) := by decide +kernel
theorem d_Tab_at_5 : decode b_Tab_at 5 = .ok (.aload_n 0, 1) := by decide +kernel
theorem d_Tab_at_6 : decode b_Tab_at 6 = .ok (.getfield 9, 3) := by decide +kernel
theorem d_Tab_at_9 : decode b_Tab_at 9 = .ok (.if_icmp .ge 17, 3) := by decide +kernel
theorem d_Tab_at_12 : decode b_Tab_at 12 = .ok (.iload_n 2, 1) := by decide +kernel
theorem d_Tab_at_13 : decode b_Tab_at 13 = .ok (.ifCond .lt 13, 3) := by decide +kernel
theorem d_Tab_at_16 : decode b_Tab_at 16 = .ok (.iload_n 2, 1) := by decide +kernel
theorem d_Tab_at_17 : decode b_Tab_at 17 = .ok (.aload_n 0, 1) := by decide +kernel
theorem d_Tab_at_18 : decode b_Tab_at 18 = .ok (.getfield 21, 3) := by decide +kernel
theorem d_Tab_at_21 : decode b_Tab_at 21 = .ok (.iload_n 1, 1) := by decide +kernel
theorem d_Tab_at_22 : decode b_Tab_at 22 = .ok (.iaload, 1) := by decide +kernel
theorem d_Tab_at_23 : decode b_Tab_at 23 = .ok (.if_icmp .lt 5, 3) := by decide +kernel
theorem d_Tab_at_26 : decode b_Tab_at 26 = .ok (.iconst (-1), 1) := by decide +kernel
theorem d_Tab_at_27 : decode b_Tab_at 27 = .ok (.ireturn, 1) := by decide +kernel
theorem d_Tab_at_28 : decode b_Tab_at 28 = .ok (.aload_n 0, 1) := by decide +kernel
theorem d_Tab_at_29 : decode b_Tab_at 29 = .ok (.getfield 25, 3) := by decide +kernel
theorem d_Tab_at_32 : decode b_Tab_at 32 = .ok (.iload_n 1, 1) := by decide +kernel
theorem d_Tab_at_33 : decode b_Tab_at 33 = .ok (.bipush 6, 2) := by decide +kernel
theorem d_Tab_at_35 : decode b_Tab_at 35 = .ok (.imul, 1) := by decide +kernel
theorem d_Tab_at_36 : decode b_Tab_at 36 = .ok (.iload_n 2, 1) := by decide +kernel
theorem d_Tab_at_37 : decode b_Tab_at 37 = .ok (.iadd, 1) := by decide +kernel
theorem d_Tab_at_38 : decode b_Tab_at 38 = .ok (.iaload, 1) := by decide +kernel
theorem d_Tab_at_39 : decode b_Tab_at 39 = .ok (.ireturn, 1) := by decide +kernel
end
section
abbrev rm_Tab_init_60 : Room := { frames := 1, cells := 2, slots := 420, locals := 21 }
set_option maxHeartbeats 4000000 in
set_option maxRecDepth 100000 in
theorem n_Tab_init_60 (l : Launch) (D : va_G) (cI : ClassId) (a_this : Nat) : CtN l y_Tab_init ws_Tab_init rm_Tab_init_60 D cI [(a_this, .inr (1, [.null, .null, .int 0]))] (fun (u : Nat × Nat) => [(a_this, .inr (1, [.ref u.1, .ref u.2, .int 0])), (u.1, .inl (cI, 60, .inl (fun _ => 0))), (u.2, .inl (cI, 360, .inl (fun _ => 0)))]) [.ref a_this, .int 60] 2 420 := by
  refine CtN.ofW (cc := b_Tab_init) (maxL := 3) (by decide) rfl (Nat.le_of_ble_eq_true rfl) ?_
  intro p e s m args below meth c Q A hx hb hml hown hts hin hP hK hN hA hD hret ls hl
  have hS : va_S A s.heap s.heap [] := va_S.rf
  have hl : lv_has ls 3 [(0, .ref a_this), (1, .int 60)] := hl
  refine lv_aload_n hx hb d_Tab_init_0 rfl (lv_at hl 0 rfl) ?_
  refine W.objInit hx hb hown (hts _ q_6) (hts _ q_1) (hts _ q_2) rfl (by rw [hml]; exact hl.1) rfl d_Tab_init_1 (Nat.le_of_ble_eq_true rfl) (Nat.le_of_ble_eq_true rfl) ?_
  refine W.eq (g2 := F0 m 4 ls []) rfl ?_
  refine lv_aload_n hx hb d_Tab_init_4 rfl (lv_at hl 0 rfl) ?_
  refine lv_iconst (v := 0) hx hb d_Tab_init_5 (by decide) ?_
  refine va_put (D := D) (ci := 1) (v := .int 0) (ty := .int) (C := R_Tab) (T := T_Tab) (N := 3) hx hb hts in_Tab ty_Tab tyok_Tab nm_Tab hown hK hP hD hS 0 rfl rfl 2 (by decide) (hts _ q_7) (fun _ h9 => h9) rfl (by decide +kernel) rfl rfl (Nat.le_of_ble_eq_true rfl) d_Tab_init_6 (fun H locs hP hD hS => ?_)
  have hP : va_P D vwCl [(a_this, .inr (1, [.null, .null, .int 0]))] H := hP
  have hD : va_D A [(a_this, .inr (1, [.null, .null, .int 0]))] := hD
  refine lv_iconst (v := 0) hx hb d_Tab_init_9 (by decide) ?_
  refine lv_iload_n hx hb d_Tab_init_10 rfl (lv_at hl 1 rfl) ?_
  refine va_mmax hx hb (by rw [hml]; exact hl.1.symm) hown (hts _ q_8) (hts _ q_9) (hts _ q_10) (hts _ q_11) (Nat.le_of_ble_eq_true rfl) (Nat.le_of_ble_eq_true rfl) (Nat.le_of_ble_eq_true rfl) (Nat.le_of_ble_eq_true rfl) d_Tab_init_11 ?_
  refine lv_istore_n (lv' := [(2, .int (if 0 < 60 then 60 else 0)), (0, .ref a_this), (1, .int 60)]) hx hb d_Tab_init_14 rfl hl (by decide) rfl (fun ls hl => ?_)
  refine lv_aload_n hx hb d_Tab_init_15 rfl (lv_at hl 1 rfl) ?_
  refine lv_iload_n hx hb d_Tab_init_16 rfl (lv_at hl 0 rfl) ?_
  refine va_newa (atype := .int) (ty := .int) (N' := 60) (a0 := (60, .inl (fun _ => 0))) hx hb (hts _ q_3) rfl hK hP hD hS hA (fun _ => rfl) (by decide) (by decide) (by decide) (Nat.le_of_ble_eq_true rfl) (Nat.le_of_ble_eq_true rfl) d_Tab_init_17 (fun q1 cA H hK2 hP hD hS => ?_)
  obtain rfl : cI = cA := (arr_eq hK2).symm
  have hP : va_P D vwCl [(a_this, .inr (1, [.null, .null, .int 0])), (q1, .inl (cI, 60, .inl (fun _ => 0)))] H := hP
  have hD : va_D A [(a_this, .inr (1, [.null, .null, .int 0])), (q1, .inl (cI, 60, .inl (fun _ => 0)))] := hD
  refine va_putF (D := D) (ci := 1) (v := .ref q1) (ty := (.array .int)) (C := R_Tab) (T := T_Tab) (N := 3) hx hb hts in_Tab ty_Tab tyok_Tab nm_Tab hown hK hP hD hS 0 rfl rfl 0 (by decide) (hts _ q_12) (fun _ h9 => h9) rfl hin rfl (by decide +kernel) rfl rfl (Nat.le_of_ble_eq_true rfl) d_Tab_init_19 (fun H locs hP hD hS => ?_)
  have hP : va_P D vwCl [(a_this, .inr (1, [.ref q1, .null, .int 0])), (q1, .inl (cI, 60, .inl (fun _ => 0)))] H := hP
  have hD : va_D A [(a_this, .inr (1, [.ref q1, .null, .int 0])), (q1, .inl (cI, 60, .inl (fun _ => 0)))] := hD
  refine lv_aload_n hx hb d_Tab_init_22 rfl (lv_at hl 1 rfl) ?_
  refine lv_iload_n hx hb d_Tab_init_23 rfl (lv_at hl 0 rfl) ?_
  refine lv_bipush (v := 6) hx hb d_Tab_init_24 (by decide) ?_
  refine lv_imul hx hb d_Tab_init_26 ?_
  refine va_newa (atype := .int) (ty := .int) (N' := 360) (a0 := (360, .inl (fun _ => 0))) hx hb (hts _ q_3) rfl hK hP hD hS hA (fun _ => rfl) (by decide) (by decide) (by decide) (Nat.le_of_ble_eq_true rfl) (Nat.le_of_ble_eq_true rfl) d_Tab_init_27 (fun q2 cA H hK2 hP hD hS => ?_)
  obtain rfl : cI = cA := (arr_eq hK2).symm
  have hP : va_P D vwCl [(a_this, .inr (1, [.ref q1, .null, .int 0])), (q1, .inl (cI, 60, .inl (fun _ => 0))), (q2, .inl (cI, 360, .inl (fun _ => 0)))] H := hP
  have hD : va_D A [(a_this, .inr (1, [.ref q1, .null, .int 0])), (q1, .inl (cI, 60, .inl (fun _ => 0))), (q2, .inl (cI, 360, .inl (fun _ => 0)))] := hD
  refine va_putF (D := D) (ci := 1) (v := .ref q2) (ty := (.array .int)) (C := R_Tab) (T := T_Tab) (N := 3) hx hb hts in_Tab ty_Tab tyok_Tab nm_Tab hown hK hP hD hS 0 rfl rfl 1 (by decide) (hts _ q_13) (fun _ h9 => h9) rfl hin rfl (by decide +kernel) rfl rfl (Nat.le_of_ble_eq_true rfl) d_Tab_init_29 (fun H locs hP hD hS => ?_)
  have hP : va_P D vwCl [(a_this, .inr (1, [.ref q1, .ref q2, .int 0])), (q1, .inl (cI, 60, .inl (fun _ => 0))), (q2, .inl (cI, 360, .inl (fun _ => 0)))] H := hP
  have hD : va_D A [(a_this, .inr (1, [.ref q1, .ref q2, .int 0])), (q1, .inl (cI, 60, .inl (fun _ => 0))), (q2, .inl (cI, 360, .inl (fun _ => 0)))] := hD
  refine W.widen (k := 2) (n := 420) (by decide) (by decide) ?_
  exact hret (q1, q2) _ _ _ _ hS (hP.sub [0, 1, 2] rfl) (hD.sub [0, 1, 2] (by decide) rfl) d_Tab_init_32
abbrev rm_Tab_init_100 : Room := { frames := 1, cells := 2, slots := 700, locals := 21 }
set_option maxHeartbeats 4000000 in
set_option maxRecDepth 100000 in
theorem n_Tab_init_100 (l : Launch) (D : va_G) (cI : ClassId) (a_this : Nat) : CtN l y_Tab_init ws_Tab_init rm_Tab_init_100 D cI [(a_this, .inr (1, [.null, .null, .int 0]))] (fun (u : Nat × Nat) => [(a_this, .inr (1, [.ref u.1, .ref u.2, .int 0])), (u.1, .inl (cI, 100, .inl (fun _ => 0))), (u.2, .inl (cI, 600, .inl (fun _ => 0)))]) [.ref a_this, .int 100] 2 700 := by
  refine CtN.ofW (cc := b_Tab_init) (maxL := 3) (by decide) rfl (Nat.le_of_ble_eq_true rfl) ?_
  intro p e s m args below meth c Q A hx hb hml hown hts hin hP hK hN hA hD hret ls hl
  have hS : va_S A s.heap s.heap [] := va_S.rf
  have hl : lv_has ls 3 [(0, .ref a_this), (1, .int 100)] := hl
  refine lv_aload_n hx hb d_Tab_init_0 rfl (lv_at hl 0 rfl) ?_
  refine W.objInit hx hb hown (hts _ q_6) (hts _ q_1) (hts _ q_2) rfl (by rw [hml]; exact hl.1) rfl d_Tab_init_1 (Nat.le_of_ble_eq_true rfl) (Nat.le_of_ble_eq_true rfl) ?_
  refine W.eq (g2 := F0 m 4 ls []) rfl ?_
  refine lv_aload_n hx hb d_Tab_init_4 rfl (lv_at hl 0 rfl) ?_
  refine lv_iconst (v := 0) hx hb d_Tab_init_5 (by decide) ?_
  refine va_put (D := D) (ci := 1) (v := .int 0) (ty := .int) (C := R_Tab) (T := T_Tab) (N := 3) hx hb hts in_Tab ty_Tab tyok_Tab nm_Tab hown hK hP hD hS 0 rfl rfl 2 (by decide) (hts _ q_7) (fun _ h9 => h9) rfl (by decide +kernel) rfl rfl (Nat.le_of_ble_eq_true rfl) d_Tab_init_6 (fun H locs hP hD hS => ?_)
  have hP : va_P D vwCl [(a_this, .inr (1, [.null, .null, .int 0]))] H := hP
  have hD : va_D A [(a_this, .inr (1, [.null, .null, .int 0]))] := hD
  refine lv_iconst (v := 0) hx hb d_Tab_init_9 (by decide) ?_
  refine lv_iload_n hx hb d_Tab_init_10 rfl (lv_at hl 1 rfl) ?_
  refine va_mmax hx hb (by rw [hml]; exact hl.1.symm) hown (hts _ q_8) (hts _ q_9) (hts _ q_10) (hts _ q_11) (Nat.le_of_ble_eq_true rfl) (Nat.le_of_ble_eq_true rfl) (Nat.le_of_ble_eq_true rfl) (Nat.le_of_ble_eq_true rfl) d_Tab_init_11 ?_
  refine lv_istore_n (lv' := [(2, .int (if 0 < 100 then 100 else 0)), (0, .ref a_this), (1, .int 100)]) hx hb d_Tab_init_14 rfl hl (by decide) rfl (fun ls hl => ?_)
  refine lv_aload_n hx hb d_Tab_init_15 rfl (lv_at hl 1 rfl) ?_
  refine lv_iload_n hx hb d_Tab_init_16 rfl (lv_at hl 0 rfl) ?_
  refine va_newa (atype := .int) (ty := .int) (N' := 100) (a0 := (100, .inl (fun _ => 0))) hx hb (hts _ q_3) rfl hK hP hD hS hA (fun _ => rfl) (by decide) (by decide) (by decide) (Nat.le_of_ble_eq_true rfl) (Nat.le_of_ble_eq_true rfl) d_Tab_init_17 (fun q1 cA H hK2 hP hD hS => ?_)
  obtain rfl : cI = cA := (arr_eq hK2).symm
  have hP : va_P D vwCl [(a_this, .inr (1, [.null, .null, .int 0])), (q1, .inl (cI, 100, .inl (fun _ => 0)))] H := hP
  have hD : va_D A [(a_this, .inr (1, [.null, .null, .int 0])), (q1, .inl (cI, 100, .inl (fun _ => 0)))] := hD
  refine va_putF (D := D) (ci := 1) (v := .ref q1) (ty := (.array .int)) (C := R_Tab) (T := T_Tab) (N := 3) hx hb hts in_Tab ty_Tab tyok_Tab nm_Tab hown hK hP hD hS 0 rfl rfl 0 (by decide) (hts _ q_12) (fun _ h9 => h9) rfl hin rfl (by decide +kernel) rfl rfl (Nat.le_of_ble_eq_true rfl) d_Tab_init_19 (fun H locs hP hD hS => ?_)
  have hP : va_P D vwCl [(a_this, .inr (1, [.ref q1, .null, .int 0])), (q1, .inl (cI, 100, .inl (fun _ => 0)))] H := hP
  have hD : va_D A [(a_this, .inr (1, [.ref q1, .null, .int 0])), (q1, .inl (cI, 100, .inl (fun _ => 0)))] := hD
  refine lv_aload_n hx hb d_Tab_init_22 rfl (lv_at hl 1 rfl) ?_
  refine lv_iload_n hx hb d_Tab_init_23 rfl (lv_at hl 0 rfl) ?_
  refine lv_bipush (v := 6) hx hb d_Tab_init_24 (by decide) ?_
  refine lv_imul hx hb d_Tab_init_26 ?_
  refine va_newa (atype := .int) (ty := .int) (N' := 600) (a0 := (600, .inl (fun _ => 0))) hx hb (hts _ q_3) rfl hK hP hD hS hA (fun _ => rfl) (by decide) (by decide) (by decide) (Nat.le_of_ble_eq_true rfl) (Nat.le_of_ble_eq_true rfl) d_Tab_init_27 (fun q2 cA H hK2 hP hD hS => ?_)
  obtain rfl : cI = cA := (arr_eq hK2).symm
  have hP : va_P D vwCl [(a_this, .inr (1, [.ref q1, .null, .int 0])), (q1, .inl (cI, 100, .inl (fun _ => 0))), (q2, .inl (cI, 600, .inl (fun _ => 0)))] H := hP
  have hD : va_D A [(a_this, .inr (1, [.ref q1, .null, .int 0])), (q1, .inl (cI, 100, .inl (fun _ => 0))), (q2, .inl (cI, 600, .inl (fun _ => 0)))] := hD
  refine va_putF (D := D) (ci := 1) (v := .ref q2) (ty := (.array .int)) (C := R_Tab) (T := T_Tab) (N := 3) hx hb hts in_Tab ty_Tab tyok_Tab nm_Tab hown hK hP hD hS 0 rfl rfl 1 (by decide) (hts _ q_13) (fun _ h9 => h9) rfl hin rfl (by decide +kernel) rfl rfl (Nat.le_of_ble_eq_true rfl) d_Tab_init_29 (fun H locs hP hD hS => ?_)
  have hP : va_P D vwCl [(a_this, .inr (1, [.ref q1, .ref q2, .int 0])), (q1, .inl (cI, 100, .inl (fun _ => 0))), (q2, .inl (cI, 600, .inl (fun _ => 0)))] H := hP
  have hD : va_D A [(a_this, .inr (1, [.ref q1, .ref q2, .int 0])), (q1, .inl (cI, 100, .inl (fun _ => 0))), (q2, .inl (cI, 600, .inl (fun _ => 0)))] := hD
  refine W.widen (k := 2) (n := 700) (by decide) (by decide) ?_
  exact hret (q1, q2) _ _ _ _ hS (hP.sub [0, 1, 2] rfl) (hD.sub [0, 1, 2] (by decide) rfl) d_Tab_init_32
abbrev rm_Tab_init_200 : Room := { frames := 1, cells := 2, slots := 1400, locals := 21 }
set_option maxHeartbeats 4000000 in
set_option maxRecDepth 100000 in
theorem n_Tab_init_200 (l : Launch) (D : va_G) (cI : ClassId) (a_this : Nat) : CtN l y_Tab_init ws_Tab_init rm_Tab_init_200 D cI [(a_this, .inr (1, [.null, .null, .int 0]))] (fun (u : Nat × Nat) => [(a_this, .inr (1, [.ref u.1, .ref u.2, .int 0])), (u.1, .inl (cI, 200, .inl (fun _ => 0))), (u.2, .inl (cI, 1200, .inl (fun _ => 0)))]) [.ref a_this, .int 200] 2 1400 := by
  refine CtN.ofW (cc := b_Tab_init) (maxL := 3) (by decide) rfl (Nat.le_of_ble_eq_true rfl) ?_
  intro p e s m args below meth c Q A hx hb hml hown hts hin hP hK hN hA hD hret ls hl
  have hS : va_S A s.heap s.heap [] := va_S.rf
  have hl : lv_has ls 3 [(0, .ref a_this), (1, .int 200)] := hl
  refine lv_aload_n hx hb d_Tab_init_0 rfl (lv_at hl 0 rfl) ?_
  refine W.objInit hx hb hown (hts _ q_6) (hts _ q_1) (hts _ q_2) rfl (by rw [hml]; exact hl.1) rfl d_Tab_init_1 (Nat.le_of_ble_eq_true rfl) (Nat.le_of_ble_eq_true rfl) ?_
  refine W.eq (g2 := F0 m 4 ls []) rfl ?_
  refine lv_aload_n hx hb d_Tab_init_4 rfl (lv_at hl 0 rfl) ?_
  refine lv_iconst (v := 0) hx hb d_Tab_init_5 (by decide) ?_
  refine va_put (D := D) (ci := 1) (v := .int 0) (ty := .int) (C := R_Tab) (T := T_Tab) (N := 3) hx hb hts in_Tab ty_Tab tyok_Tab nm_Tab hown hK hP hD hS 0 rfl rfl 2 (by decide) (hts _ q_7) (fun _ h9 => h9) rfl (by decide +kernel) rfl rfl (Nat.le_of_ble_eq_true rfl) d_Tab_init_6 (fun H locs hP hD hS => ?_)
  have hP : va_P D vwCl [(a_this, .inr (1, [.null, .null, .int 0]))] H := hP
  have hD : va_D A [(a_this, .inr (1, [.null, .null, .int 0]))] := hD
  refine lv_iconst (v := 0) hx hb d_Tab_init_9 (by decide) ?_
  refine lv_iload_n hx hb d_Tab_init_10 rfl (lv_at hl 1 rfl) ?_
  refine va_mmax hx hb (by rw [hml]; exact hl.1.symm) hown (hts _ q_8) (hts _ q_9) (hts _ q_10) (hts _ q_11) (Nat.le_of_ble_eq_true rfl) (Nat.le_of_ble_eq_true rfl) (Nat.le_of_ble_eq_true rfl) (Nat.le_of_ble_eq_true rfl) d_Tab_init_11 ?_
  refine lv_istore_n (lv' := [(2, .int (if 0 < 200 then 200 else 0)), (0, .ref a_this), (1, .int 200)]) hx hb d_Tab_init_14 rfl hl (by decide) rfl (fun ls hl => ?_)
  refine lv_aload_n hx hb d_Tab_init_15 rfl (lv_at hl 1 rfl) ?_
  refine lv_iload_n hx hb d_Tab_init_16 rfl (lv_at hl 0 rfl) ?_
  refine va_newa (atype := .int) (ty := .int) (N' := 200) (a0 := (200, .inl (fun _ => 0))) hx hb (hts _ q_3) rfl hK hP hD hS hA (fun _ => rfl) (by decide) (by decide) (by decide) (Nat.le_of_ble_eq_true rfl) (Nat.le_of_ble_eq_true rfl) d_Tab_init_17 (fun q1 cA H hK2 hP hD hS => ?_)
  obtain rfl : cI = cA := (arr_eq hK2).symm
  have hP : va_P D vwCl [(a_this, .inr (1, [.null, .null, .int 0])), (q1, .inl (cI, 200, .inl (fun _ => 0)))] H := hP
  have hD : va_D A [(a_this, .inr (1, [.null, .null, .int 0])), (q1, .inl (cI, 200, .inl (fun _ => 0)))] := hD
  refine va_putF (D := D) (ci := 1) (v := .ref q1) (ty := (.array .int)) (C := R_Tab) (T := T_Tab) (N := 3) hx hb hts in_Tab ty_Tab tyok_Tab nm_Tab hown hK hP hD hS 0 rfl rfl 0 (by decide) (hts _ q_12) (fun _ h9 => h9) rfl hin rfl (by decide +kernel) rfl rfl (Nat.le_of_ble_eq_true rfl) d_Tab_init_19 (fun H locs hP hD hS => ?_)
  have hP : va_P D vwCl [(a_this, .inr (1, [.ref q1, .null, .int 0])), (q1, .inl (cI, 200, .inl (fun _ => 0)))] H := hP
  have hD : va_D A [(a_this, .inr (1, [.ref q1, .null, .int 0])), (q1, .inl (cI, 200, .inl (fun _ => 0)))] := hD
  refine lv_aload_n hx hb d_Tab_init_22 rfl (lv_at hl 1 rfl) ?_
  refine lv_iload_n hx hb d_Tab_init_23 rfl (lv_at hl 0 rfl) ?_
  refine lv_bipush (v := 6) hx hb d_Tab_init_24 (by decide) ?_
  refine lv_imul hx hb d_Tab_init_26 ?_
  refine va_newa (atype := .int) (ty := .int) (N' := 1200) (a0 := (1200, .inl (fun _ => 0))) hx hb (hts _ q_3) rfl hK hP hD hS hA (fun _ => rfl) (by decide) (by decide) (by decide) (Nat.le_of_ble_eq_true rfl) (Nat.le_of_ble_eq_true rfl) d_Tab_init_27 (fun q2 cA H hK2 hP hD hS => ?_)
  obtain rfl : cI = cA := (arr_eq hK2).symm
  have hP : va_P D vwCl [(a_this, .inr (1, [.ref q1, .null, .int 0])), (q1, .inl (cI, 200, .inl (fun _ => 0))), (q2, .inl (cI, 1200, .inl (fun _ => 0)))] H := hP
  have hD : va_D A [(a_this, .inr (1, [.ref q1, .null, .int 0])), (q1, .inl (cI, 200, .inl (fun _ => 0))), (q2, .inl (cI, 1200, .inl (fun _ => 0)))] := hD
  refine va_putF (D := D) (ci := 1) (v := .ref q2) (ty := (.array .int)) (C := R_Tab) (T := T_Tab) (N := 3) hx hb hts in_Tab ty_Tab tyok_Tab nm_Tab hown hK hP hD hS 0 rfl rfl 1 (by decide) (hts _ q_13) (fun _ h9 => h9) rfl hin rfl (by decide +kernel) rfl rfl (Nat.le_of_ble_eq_true rfl) d_Tab_init_29 (fun H locs hP hD hS => ?_)
  have hP : va_P D vwCl [(a_this, .inr (1, [.ref q1, .ref q2, .int 0])), (q1, .inl (cI, 200, .inl (fun _ => 0))), (q2, .inl (cI, 1200, .inl (fun _ => 0)))] H := hP
  have hD : va_D A [(a_this, .inr (1, [.ref q1, .ref q2, .int 0])), (q1, .inl (cI, 200, .inl (fun _ => 0))), (q2, .inl (cI, 1200, .inl (fun _ => 0)))] := hD
  refine W.widen (k := 2) (n := 1400) (by decide) (by decide) ?_
  exact hret (q1, q2) _ _ _ _ hS (hP.sub [0, 1, 2] rfl) (hD.sub [0, 1, 2] (by decide) rfl) d_Tab_init_32
def f_Tab_open (n_this_lengths : Nat) (v_this_size : Int32) (v_this_lengths : Nat → Int32) : Option (Int32 × Int32 × (Nat → Int32)) :=
  if v_this_size < (nI n_this_lengths) then
    if inb v_this_size n_this_lengths then
      some (((v_this_size + 1) - 1), (v_this_size + 1), (upd v_this_lengths v_this_size.toNatClampNeg 0))
    else none
  else
    some ((-1), v_this_size, v_this_lengths)
abbrev rm_Tab_open : Room := { frames := 0, cells := 0, slots := 0, locals := 0 }
set_option maxHeartbeats 4000000 in
set_option maxRecDepth 100000 in
theorem c_Tab_open (l : Launch) (D : va_G) (cI : ClassId) (a_this a_this_lengths a_this_cells n_this_lengths : Nat) (v_this_size : Int32) (v_this_lengths : Nat → Int32) {r_ : Int32} {v_this_size' : Int32} {v_this_lengths' : Nat → Int32} (hf : f_Tab_open n_this_lengths v_this_size v_this_lengths = some (r_, v_this_size', v_this_lengths')) : CtI l y_Tab_open ws_Tab_open rm_Tab_open D cI [(a_this, .inr (1, [.ref a_this_lengths, .ref a_this_cells, .int v_this_size])), (a_this_lengths, .inl (cI, n_this_lengths, .inl v_this_lengths))] [(a_this, .inr (1, [.ref a_this_lengths, .ref a_this_cells, .int v_this_size'])), (a_this_lengths, .inl (cI, n_this_lengths, .inl v_this_lengths'))] [.ref a_this] .int r_ := by
  refine CtI.ofW (cc := b_Tab_open) (maxL := 1) (ty := .int) (by decide) rfl (Nat.le_of_ble_eq_true rfl) ?_
  intro p e s m args below meth c Q A hx hb hml hown hts hP hK hN hA hD hret ls hl
  have hS : va_S A s.heap s.heap [] := va_S.rf
  have hDL : DL A [a_this, a_this_lengths] := DL.of hD rfl
  have hl : lv_has ls 1 [(0, .ref a_this)] := hl
  unfold f_Tab_open at hf
  refine lv_aload_n hx hb d_Tab_open_0 rfl (lv_at hl 0 rfl) ?_
  refine va_get (D := D) (ci := 1) (v := .int v_this_size) (C := R_Tab) (T := T_Tab) (N := 3) hx hb hts in_Tab hown hK hP 0 rfl rfl 2 (by decide) (hts _ q_7) (fun _ h9 => h9) rfl d_Tab_open_1 ?_
  refine lv_aload_n hx hb d_Tab_open_4 rfl (lv_at hl 0 rfl) ?_
  refine va_get (D := D) (ci := 1) (v := .ref a_this_lengths) (C := R_Tab) (T := T_Tab) (N := 3) hx hb hts in_Tab hown hK hP 0 rfl rfl 0 (by decide) (hts _ q_12) (fun _ h9 => h9) rfl d_Tab_open_5 ?_
  refine va_alen hx hb hK hP 1 0 (ty := .int) rfl rfl (v := (nI n_this_lengths)) (by rfl) d_Tab_open_8 ?_
  refine lv_icmp_lt (tgt := 14) hx hb d_Tab_open_9 (by decide) (fun c1 => ?_) (fun c1 => ?_)
  · replace hf := gp c1 hf
    refine lv_aload_n hx hb d_Tab_open_14 rfl (lv_at hl 0 rfl) ?_
    refine va_get (D := D) (ci := 1) (v := .ref a_this_lengths) (C := R_Tab) (T := T_Tab) (N := 3) hx hb hts in_Tab hown hK hP 0 rfl rfl 0 (by decide) (hts _ q_12) (fun _ h9 => h9) rfl d_Tab_open_15 ?_
    refine lv_aload_n hx hb d_Tab_open_18 rfl (lv_at hl 0 rfl) ?_
    refine va_get (D := D) (ci := 1) (v := .int v_this_size) (C := R_Tab) (T := T_Tab) (N := 3) hx hb hts in_Tab hown hK hP 0 rfl rfl 2 (by decide) (hts _ q_7) (fun _ h9 => h9) rfl d_Tab_open_19 ?_
    refine lv_iconst (v := 0) hx hb d_Tab_open_22 (by decide) ?_
    obtain ⟨hi2, hf⟩ := gd hf
    refine va_iast hx hb hK hP (hDL _ rfl) hS 1 0 rfl rfl hi2 d_Tab_open_23 (fun H locs hP _ hS => ?_)
    have hP : va_P D vwCl [(a_this, .inr (1, [.ref a_this_lengths, .ref a_this_cells, .int v_this_size])), (a_this_lengths, .inl (cI, n_this_lengths, .inl (upd v_this_lengths v_this_size.toNatClampNeg 0)))] H := hP
    refine lv_aload_n hx hb d_Tab_open_24 rfl (lv_at hl 0 rfl) ?_
    refine lv_dup hx hb d_Tab_open_25 rfl ?_
    refine va_get (D := D) (ci := 1) (v := .int v_this_size) (C := R_Tab) (T := T_Tab) (N := 3) hx hb hts in_Tab hown hK hP 0 rfl rfl 2 (by decide) (hts _ q_7) (fun _ h9 => h9) rfl d_Tab_open_26 ?_
    refine lv_iconst (v := 1) hx hb d_Tab_open_29 (by decide) ?_
    refine lv_iadd hx hb d_Tab_open_30 ?_
    refine va_put (D := D) (ci := 1) (v := .int (v_this_size + 1)) (ty := .int) (C := R_Tab) (T := T_Tab) (N := 3) hx hb hts in_Tab ty_Tab tyok_Tab nm_Tab hown hK hP (hDL _ rfl) hS 0 rfl rfl 2 (by decide) (hts _ q_7) (fun _ h9 => h9) rfl (by decide +kernel) rfl rfl (Nat.le_of_ble_eq_true rfl) d_Tab_open_31 (fun H locs hP _ hS => ?_)
    have hP : va_P D vwCl [(a_this, .inr (1, [.ref a_this_lengths, .ref a_this_cells, .int (v_this_size + 1)])), (a_this_lengths, .inl (cI, n_this_lengths, .inl (upd v_this_lengths v_this_size.toNatClampNeg 0)))] H := hP
    refine lv_aload_n hx hb d_Tab_open_34 rfl (lv_at hl 0 rfl) ?_
    refine va_get (D := D) (ci := 1) (v := .int (v_this_size + 1)) (C := R_Tab) (T := T_Tab) (N := 3) hx hb hts in_Tab hown hK hP 0 rfl rfl 2 (by decide) (hts _ q_7) (fun _ h9 => h9) rfl d_Tab_open_35 ?_
    refine lv_iconst (v := 1) hx hb d_Tab_open_38 (by decide) ?_
    refine lv_isub hx hb d_Tab_open_39 ?_
    cases hf
    exact hret _ _ _ _ hS hP rfl d_Tab_open_40
  · replace hf := gn c1 hf
    refine lv_iconst (v := (-1)) hx hb d_Tab_open_12 (by decide) ?_
    cases hf
    exact hret _ _ _ _ hS hP rfl d_Tab_open_13
def f_Tab_append (n_this_lengths : Nat) (n_this_cells : Nat) (v_this_size : Int32) (v_this_lengths : Nat → Int32) (v_this_cells : Nat → Int32) (x1 : Int32) : Option ((Nat → Int32) × (Nat → Int32)) :=
  if (v_this_size - 1) < 0 then
    some (v_this_lengths, v_this_cells)
  else
    if inb (v_this_size - 1) n_this_lengths then
      if (v_this_lengths (v_this_size - 1).toNatClampNeg) < 6 then
        if inb (v_this_size - 1) n_this_lengths then
          if inb (((v_this_size - 1) * 6) + (v_this_lengths (v_this_size - 1).toNatClampNeg)) n_this_cells then
            if inb (v_this_size - 1) n_this_lengths then
              if inb (v_this_size - 1) n_this_lengths then
                some ((upd v_this_lengths (v_this_size - 1).toNatClampNeg ((v_this_lengths (v_this_size - 1).toNatClampNeg) + 1)), (upd v_this_cells (((v_this_size - 1) * 6) + (v_this_lengths (v_this_size - 1).toNatClampNeg)).toNatClampNeg x1))
              else none
            else none
          else none
        else none
      else
        some (v_this_lengths, v_this_cells)
    else none
abbrev rm_Tab_append : Room := { frames := 0, cells := 0, slots := 0, locals := 0 }
set_option maxHeartbeats 4000000 in
set_option maxRecDepth 100000 in
theorem c_Tab_append (l : Launch) (D : va_G) (cI : ClassId) (a_this a_this_lengths a_this_cells n_this_lengths n_this_cells : Nat) (v_this_size : Int32) (v_this_lengths : Nat → Int32) (v_this_cells : Nat → Int32) (x1 : Int32) {v_this_lengths' : Nat → Int32} {v_this_cells' : Nat → Int32} (hf : f_Tab_append n_this_lengths n_this_cells v_this_size v_this_lengths v_this_cells x1 = some (v_this_lengths', v_this_cells')) : CtV l y_Tab_append ws_Tab_append rm_Tab_append D cI [(a_this, .inr (1, [.ref a_this_lengths, .ref a_this_cells, .int v_this_size])), (a_this_lengths, .inl (cI, n_this_lengths, .inl v_this_lengths)), (a_this_cells, .inl (cI, n_this_cells, .inl v_this_cells))] [(a_this, .inr (1, [.ref a_this_lengths, .ref a_this_cells, .int v_this_size])), (a_this_lengths, .inl (cI, n_this_lengths, .inl v_this_lengths')), (a_this_cells, .inl (cI, n_this_cells, .inl v_this_cells'))] [.ref a_this, .int x1] := by
  refine CtV.ofW (cc := b_Tab_append) (maxL := 3) (by decide) rfl (Nat.le_of_ble_eq_true rfl) ?_
  intro p e s m args below meth c Q A hx hb hml hown hts hP hK hN hA hD hret ls hl
  have hS : va_S A s.heap s.heap [] := va_S.rf
  have hDL : DL A [a_this, a_this_lengths, a_this_cells] := DL.of hD rfl
  have hl : lv_has ls 3 [(0, .ref a_this), (1, .int x1)] := hl
  unfold f_Tab_append at hf
  refine lv_aload_n hx hb d_Tab_append_0 rfl (lv_at hl 0 rfl) ?_
  refine va_get (D := D) (ci := 1) (v := .int v_this_size) (C := R_Tab) (T := T_Tab) (N := 3) hx hb hts in_Tab hown hK hP 0 rfl rfl 2 (by decide) (hts _ q_7) (fun _ h9 => h9) rfl d_Tab_append_1 ?_
  refine lv_iconst (v := 1) hx hb d_Tab_append_4 (by decide) ?_
  refine lv_isub hx hb d_Tab_append_5 ?_
  refine lv_istore_n (lv' := [(2, .int (v_this_size - 1)), (0, .ref a_this), (1, .int x1)]) hx hb d_Tab_append_6 rfl hl (by decide) rfl (fun ls hl => ?_)
  refine lv_iload_n hx hb d_Tab_append_7 rfl (lv_at hl 0 rfl) ?_
  refine lv_if_lt (tgt := 22) hx hb d_Tab_append_8 (by decide) (fun c1 => ?_) (fun c1 => ?_)
  · replace hf := gp c1 hf
    cases hf
    exact hret _ _ _ _ hS hP d_Tab_append_22
  · replace hf := gn c1 hf
    refine lv_aload_n hx hb d_Tab_append_11 rfl (lv_at hl 1 rfl) ?_
    refine va_get (D := D) (ci := 1) (v := .ref a_this_lengths) (C := R_Tab) (T := T_Tab) (N := 3) hx hb hts in_Tab hown hK hP 0 rfl rfl 0 (by decide) (hts _ q_12) (fun _ h9 => h9) rfl d_Tab_append_12 ?_
    refine lv_iload_n hx hb d_Tab_append_15 rfl (lv_at hl 0 rfl) ?_
    obtain ⟨hi2, hf⟩ := gd hf
    refine va_iald hx hb hK hP 1 0 rfl rfl hi2 d_Tab_append_16 ?_
    refine lv_bipush (v := 6) hx hb d_Tab_append_17 (by decide) ?_
    refine lv_icmp_lt (tgt := 23) hx hb d_Tab_append_19 (by decide) (fun c3 => ?_) (fun c3 => ?_)
    · replace hf := gp c3 hf
      refine lv_aload_n hx hb d_Tab_append_23 rfl (lv_at hl 1 rfl) ?_
      refine va_get (D := D) (ci := 1) (v := .ref a_this_cells) (C := R_Tab) (T := T_Tab) (N := 3) hx hb hts in_Tab hown hK hP 0 rfl rfl 1 (by decide) (hts _ q_13) (fun _ h9 => h9) rfl d_Tab_append_24 ?_
      refine lv_iload_n hx hb d_Tab_append_27 rfl (lv_at hl 0 rfl) ?_
      refine lv_bipush (v := 6) hx hb d_Tab_append_28 (by decide) ?_
      refine lv_imul hx hb d_Tab_append_30 ?_
      refine lv_aload_n hx hb d_Tab_append_31 rfl (lv_at hl 1 rfl) ?_
      refine va_get (D := D) (ci := 1) (v := .ref a_this_lengths) (C := R_Tab) (T := T_Tab) (N := 3) hx hb hts in_Tab hown hK hP 0 rfl rfl 0 (by decide) (hts _ q_12) (fun _ h9 => h9) rfl d_Tab_append_32 ?_
      refine lv_iload_n hx hb d_Tab_append_35 rfl (lv_at hl 0 rfl) ?_
      obtain ⟨hi4, hf⟩ := gd hf
      refine va_iald hx hb hK hP 1 0 rfl rfl hi4 d_Tab_append_36 ?_
      refine lv_iadd hx hb d_Tab_append_37 ?_
      refine lv_iload_n hx hb d_Tab_append_38 rfl (lv_at hl 2 rfl) ?_
      obtain ⟨hi5, hf⟩ := gd hf
      refine va_iast hx hb hK hP (hDL _ rfl) hS 2 0 rfl rfl hi5 d_Tab_append_39 (fun H locs hP _ hS => ?_)
      have hP : va_P D vwCl [(a_this, .inr (1, [.ref a_this_lengths, .ref a_this_cells, .int v_this_size])), (a_this_lengths, .inl (cI, n_this_lengths, .inl v_this_lengths)), (a_this_cells, .inl (cI, n_this_cells, .inl (upd v_this_cells (((v_this_size - 1) * 6) + (v_this_lengths (v_this_size - 1).toNatClampNeg)).toNatClampNeg x1)))] H := hP
      refine lv_aload_n hx hb d_Tab_append_40 rfl (lv_at hl 1 rfl) ?_
      refine va_get (D := D) (ci := 1) (v := .ref a_this_lengths) (C := R_Tab) (T := T_Tab) (N := 3) hx hb hts in_Tab hown hK hP 0 rfl rfl 0 (by decide) (hts _ q_12) (fun _ h9 => h9) rfl d_Tab_append_41 ?_
      refine lv_iload_n hx hb d_Tab_append_44 rfl (lv_at hl 0 rfl) ?_
      refine lv_dup2_11 hx hb d_Tab_append_45 rfl rfl ?_
      obtain ⟨hi6, hf⟩ := gd hf
      refine va_iald hx hb hK hP 1 0 rfl rfl hi6 d_Tab_append_46 ?_
      refine lv_iconst (v := 1) hx hb d_Tab_append_47 (by decide) ?_
      refine lv_iadd hx hb d_Tab_append_48 ?_
      obtain ⟨hi7, hf⟩ := gd hf
      refine va_iast hx hb hK hP (hDL _ rfl) hS 1 0 rfl rfl hi7 d_Tab_append_49 (fun H locs hP _ hS => ?_)
      have hP : va_P D vwCl [(a_this, .inr (1, [.ref a_this_lengths, .ref a_this_cells, .int v_this_size])), (a_this_lengths, .inl (cI, n_this_lengths, .inl (upd v_this_lengths (v_this_size - 1).toNatClampNeg ((v_this_lengths (v_this_size - 1).toNatClampNeg) + 1)))), (a_this_cells, .inl (cI, n_this_cells, .inl (upd v_this_cells (((v_this_size - 1) * 6) + (v_this_lengths (v_this_size - 1).toNatClampNeg)).toNatClampNeg x1)))] H := hP
      cases hf
      exact hret _ _ _ _ hS hP d_Tab_append_50
    · replace hf := gn c3 hf
      cases hf
      exact hret _ _ _ _ hS hP d_Tab_append_22
def f_Tab_appendAll_L2 (v_this_size : Int32) (n_this_lengths : Nat) (n_this_cells : Nat) (v_p1_size : Int32) (v_p1_numbers : Nat → Int32) (k : Int32 → (Nat → Int32) → (Nat → Int32) → Option ((Nat → Int32) × (Nat → Int32))) : Nat → Int32 → (Nat → Int32) → (Nat → Int32) → Option ((Nat → Int32) × (Nat → Int32))
  | 0, _, _, _ => none
  | n + 1, y2_2, w_this_lengths_2, w_this_cells_2 =>
    if v_p1_size ≤ y2_2 then
      k y2_2 w_this_lengths_2 w_this_cells_2
    else
      if inb y2_2 6 then
        (f_Tab_append n_this_lengths n_this_cells v_this_size w_this_lengths_2 w_this_cells_2 (v_p1_numbers y2_2.toNatClampNeg)).bind fun (u_4, u_5) =>
        f_Tab_appendAll_L2 v_this_size n_this_lengths n_this_cells v_p1_size v_p1_numbers k n (y2_2 + 1) u_4 u_5
      else none
def f_Tab_appendAll (n_this_lengths : Nat) (n_this_cells : Nat) (v_this_size : Int32) (v_this_lengths : Nat → Int32) (v_this_cells : Nat → Int32) (v_p1_size : Int32) (v_p1_numbers : Nat → Int32) : Option ((Nat → Int32) × (Nat → Int32)) :=
  f_Tab_appendAll_L2 v_this_size n_this_lengths n_this_cells v_p1_size v_p1_numbers (fun y2_2 w_this_lengths_2 w_this_cells_2 =>
    some (w_this_lengths_2, w_this_cells_2)) FU 0 v_this_lengths v_this_cells
abbrev rm_Tab_appendAll : Room := { frames := 1, cells := 0, slots := 0, locals := 22 }
set_option maxHeartbeats 4000000 in
set_option maxRecDepth 100000 in
theorem c_Tab_appendAll (l : Launch) (D : va_G) (cI : ClassId) (a_this a_this_lengths a_this_cells a_p1 a_p1_numbers n_this_lengths n_this_cells : Nat) (v_this_size : Int32) (v_this_lengths : Nat → Int32) (v_this_cells : Nat → Int32) (v_p1_size : Int32) (v_p1_numbers : Nat → Int32) {v_this_lengths' : Nat → Int32} {v_this_cells' : Nat → Int32} (hf : f_Tab_appendAll n_this_lengths n_this_cells v_this_size v_this_lengths v_this_cells v_p1_size v_p1_numbers = some (v_this_lengths', v_this_cells')) : CtV l y_Tab_appendAll ws_Tab_appendAll rm_Tab_appendAll D cI [(a_this, .inr (1, [.ref a_this_lengths, .ref a_this_cells, .int v_this_size])), (a_this_lengths, .inl (cI, n_this_lengths, .inl v_this_lengths)), (a_this_cells, .inl (cI, n_this_cells, .inl v_this_cells)), (a_p1, .inr (0, [.ref a_p1_numbers, .int v_p1_size])), (a_p1_numbers, .inl (cI, 6, .inl v_p1_numbers))] [(a_this, .inr (1, [.ref a_this_lengths, .ref a_this_cells, .int v_this_size])), (a_this_lengths, .inl (cI, n_this_lengths, .inl v_this_lengths')), (a_this_cells, .inl (cI, n_this_cells, .inl v_this_cells')), (a_p1, .inr (0, [.ref a_p1_numbers, .int v_p1_size])), (a_p1_numbers, .inl (cI, 6, .inl v_p1_numbers))] [.ref a_this, .ref a_p1] := by
  refine CtV.ofW (cc := b_Tab_appendAll) (maxL := 3) (by decide) rfl (Nat.le_of_ble_eq_true rfl) ?_
  intro p e s m args below meth c Q A hx hb hml hown hts hP hK hN hA hD hret ls hl
  have hS : va_S A s.heap s.heap [] := va_S.rf
  have hDL : DL A [a_this, a_this_lengths, a_this_cells, a_p1, a_p1_numbers] := DL.of hD rfl
  have hl : lv_has ls 3 [(0, .ref a_this), (1, .ref a_p1)] := hl
  unfold f_Tab_appendAll at hf
  refine lv_iconst (v := 0) hx hb d_Tab_appendAll_0 (by decide) ?_
  refine lv_istore_n (lv' := [(2, .int 0), (0, .ref a_this), (1, .ref a_p1)]) hx hb d_Tab_appendAll_1 rfl hl (by decide) rfl (fun ls hl => ?_)
  have lp2 : ∀ (kk : Int32 → (Nat → Int32) → (Nat → Int32) → Option ((Nat → Int32) × (Nat → Int32))), (∀ (y2_2 : Int32) (w_this_lengths_2 : Nat → Int32) (w_this_cells_2 : Nat → Int32) (H : Heap) (locs : List Loc) (ls : Array Slot), va_P D vwCl [(a_this, .inr (1, [.ref a_this_lengths, .ref a_this_cells, .int v_this_size])), (a_this_lengths, .inl (cI, n_this_lengths, .inl w_this_lengths_2)), (a_this_cells, .inl (cI, n_this_cells, .inl w_this_cells_2)), (a_p1, .inr (0, [.ref a_p1_numbers, .int v_p1_size])), (a_p1_numbers, .inl (cI, 6, .inl v_p1_numbers))] H → va_S A s.heap H locs → lv_has ls 3 [(2, .int y2_2), (0, .ref a_this), (1, .ref a_p1)] → kk y2_2 w_this_lengths_2 w_this_cells_2 = some (v_this_lengths', v_this_cells') → W p l e rm_Tab_appendAll s m args below meth c H locs 0 0 Q (F0 m 26 ls [])) → ∀ (n : Nat) (y2_2 : Int32) (w_this_lengths_2 : Nat → Int32) (w_this_cells_2 : Nat → Int32) (H : Heap) (locs : List Loc) (ls : Array Slot), va_P D vwCl [(a_this, .inr (1, [.ref a_this_lengths, .ref a_this_cells, .int v_this_size])), (a_this_lengths, .inl (cI, n_this_lengths, .inl w_this_lengths_2)), (a_this_cells, .inl (cI, n_this_cells, .inl w_this_cells_2)), (a_p1, .inr (0, [.ref a_p1_numbers, .int v_p1_size])), (a_p1_numbers, .inl (cI, 6, .inl v_p1_numbers))] H → va_S A s.heap H locs → lv_has ls 3 [(2, .int y2_2), (0, .ref a_this), (1, .ref a_p1)] → f_Tab_appendAll_L2 v_this_size n_this_lengths n_this_cells v_p1_size v_p1_numbers kk n y2_2 w_this_lengths_2 w_this_cells_2 = some (v_this_lengths', v_this_cells') → W p l e rm_Tab_appendAll s m args below meth c H locs 0 0 Q (F0 m 2 ls []) := by
    intro kk hk2 n
    induction n with
    | zero =>
      intro y2_2 w_this_lengths_2 w_this_cells_2 H locs ls hP hS hl hf
      rw [f_Tab_appendAll_L2] at hf
      cases hf
    | succ n ih2 =>
      intro y2_2 w_this_lengths_2 w_this_cells_2 H locs ls hP hS hl hf
      rw [f_Tab_appendAll_L2] at hf
      refine lv_iload_n hx hb d_Tab_appendAll_2 rfl (lv_at hl 0 rfl) ?_
      refine lv_aload_n hx hb d_Tab_appendAll_3 rfl (lv_at hl 2 rfl) ?_
      refine va_getN (host := "KindDesk") (D := D) (ci := 0) (v := .int v_p1_size) (C := R_Row) (T := T_Row) (N := 2) hx hb hts in_Row hown hK hP 3 rfl rfl 1 (by decide) (va_Nw.use rfl (hN _ (List.mem_of_getElem? (i := 0) rfl))) (fun _ h9 => h9) rfl d_Tab_appendAll_4 ?_
      refine lv_icmp_ge (tgt := 26) hx hb d_Tab_appendAll_7 (by decide) (fun c1 => ?_) (fun c1 => ?_)
      · replace hf := gp c1 hf
        exact hk2 y2_2 w_this_lengths_2 w_this_cells_2 _ _ _ hP hS (lv_sub hl [0, 1, 2] rfl) hf
      · replace hf := gn c1 hf
        refine lv_aload_n hx hb d_Tab_appendAll_10 rfl (lv_at hl 1 rfl) ?_
        refine lv_aload_n hx hb d_Tab_appendAll_11 rfl (lv_at hl 2 rfl) ?_
        refine va_getN (host := "KindDesk") (D := D) (ci := 0) (v := .ref a_p1_numbers) (C := R_Row) (T := T_Row) (N := 2) hx hb hts in_Row hown hK hP 3 rfl rfl 0 (by decide) (va_Nw.use rfl (hN _ (List.mem_of_getElem? (i := 1) rfl))) (fun _ h9 => h9) rfl d_Tab_appendAll_12 ?_
        refine lv_iload_n hx hb d_Tab_appendAll_15 rfl (lv_at hl 0 rfl) ?_
        obtain ⟨hi2, hf⟩ := gd hf
        refine va_iald hx hb hK hP 4 0 rfl rfl hi2 d_Tab_appendAll_16 ?_
        obtain ⟨⟨u_4, u_5⟩, hc3, hf⟩ := gb hf
        dsimp only at hf
        refine kV [(a_this, .inr (1, [.ref a_this_lengths, .ref a_this_cells, .int v_this_size])), (a_this_lengths, .inl (cI, n_this_lengths, .inl u_4)), (a_this_cells, .inl (cI, n_this_cells, .inl u_5)), (a_p1, .inr (0, [.ref a_p1_numbers, .int v_p1_size])), (a_p1_numbers, .inl (cI, 6, .inl v_p1_numbers))] [0, 1, 2] [3, 4] (va_runV (C := R_Tab) (As := [.int (v_p1_numbers y2_2.toNatClampNeg)]) (rest := []) ⟨hx, hb, hml, hown, hts⟩ (c_Tab_append l D cI a_this a_this_lengths a_this_cells n_this_lengths n_this_cells v_this_size w_this_lengths_2 w_this_cells_2 (v_p1_numbers y2_2.toNatClampNeg) hc3 _) ⟨callB_of 1 hts (good_c q_14) rfl rfl rfl (hts _ q_15) (hts _ q_16) hd_Tab_append ⟨Nat.le_of_ble_eq_true rfl, Nat.le_of_ble_eq_true rfl⟩, (hts _ q_17), (hts _ q_18)⟩ (preVM hP hK hN (hDL _ rfl) [0, 1, 2] (by decide +kernel) rfl rfl rfl) rfl rfl hl.1 rfl (lv_room (Nat.le_of_ble_eq_true rfl)) d_Tab_appendAll_17 ⟨Nat.zero_le _, Nat.zero_le _⟩) hP (hDL _ rfl) hS hA rfl rfl (wr := [(a_p1, .inr (0, [.ref a_p1_numbers, .int v_p1_size])), (a_p1_numbers, .inl (cI, 6, .inl v_p1_numbers))]) rfl rfl (n := 5) rfl (by decide +kernel) (by decide +kernel) (fun H locs hP hS => ?_)
        refine lv_iinc (v := (y2_2 + 1)) (lv' := [(2, .int (y2_2 + 1)), (0, .ref a_this), (1, .ref a_p1)]) hx hb d_Tab_appendAll_20 hl (k := 0) rfl rfl (by decide) rfl (fun ls hl => ?_)
        refine lv_goto (tgt := 2) hx hb d_Tab_appendAll_23 (by decide) ?_
        exact ih2 (y2_2 + 1) u_4 u_5 _ _ _ hP hS (lv_sub hl [0, 1, 2] rfl) hf
  refine lp2 _ (fun y2_2 w_this_lengths_2 w_this_cells_2 H locs ls hP hS hl hf => ?_) FU 0 v_this_lengths v_this_cells _ _ _ hP hS (lv_sub hl [0, 1, 2] rfl) hf
  cases hf
  exact hret _ _ _ _ hS hP d_Tab_appendAll_26
def f_Tab_length (n_this_lengths : Nat) (v_this_size : Int32) (v_this_lengths : Nat → Int32) (x1 : Int32) : Option (Int32) :=
  if x1 < 0 then
    some (-1)
  else
    if v_this_size ≤ x1 then
      some (-1)
    else
      if inb x1 n_this_lengths then
        some (v_this_lengths x1.toNatClampNeg)
      else none
abbrev rm_Tab_length : Room := { frames := 0, cells := 0, slots := 0, locals := 0 }
set_option maxHeartbeats 4000000 in
set_option maxRecDepth 100000 in
theorem c_Tab_length (l : Launch) (D : va_G) (cI : ClassId) (a_this a_this_lengths a_this_cells n_this_lengths : Nat) (v_this_size : Int32) (v_this_lengths : Nat → Int32) (x1 : Int32) {r_ : Int32} (hf : f_Tab_length n_this_lengths v_this_size v_this_lengths x1 = some r_) : CtP l y_Tab_length ws_Tab_length rm_Tab_length D cI [(a_this, .inr (1, [.ref a_this_lengths, .ref a_this_cells, .int v_this_size])), (a_this_lengths, .inl (cI, n_this_lengths, .inl v_this_lengths))] [.ref a_this, .int x1] .int r_ := by
  refine CtP.ofW (cc := b_Tab_length) (maxL := 2) (ty := .int) (by decide) rfl (Nat.le_of_ble_eq_true rfl) ?_
  intro p e s m args below meth c Q hx hb hml hown hts hP hK hN hret ls hl
  have hl : lv_has ls 2 [(0, .ref a_this), (1, .int x1)] := hl
  unfold f_Tab_length at hf
  refine lv_iload_n hx hb d_Tab_length_0 rfl (lv_at hl 1 rfl) ?_
  refine lv_if_lt (tgt := 21) hx hb d_Tab_length_1 (by decide) (fun c1 => ?_) (fun c1 => ?_)
  · replace hf := gp c1 hf
    refine lv_iconst (v := (-1)) hx hb d_Tab_length_21 (by decide) ?_
    cases hf
    exact hret _ _ rfl d_Tab_length_22
  · replace hf := gn c1 hf
    refine lv_iload_n hx hb d_Tab_length_4 rfl (lv_at hl 1 rfl) ?_
    refine lv_aload_n hx hb d_Tab_length_5 rfl (lv_at hl 0 rfl) ?_
    refine va_get (D := D) (ci := 1) (v := .int v_this_size) (C := R_Tab) (T := T_Tab) (N := 3) hx hb hts in_Tab hown hK hP 0 rfl rfl 2 (by decide) (hts _ q_7) (fun _ h9 => h9) rfl d_Tab_length_6 ?_
    refine lv_icmp_ge (tgt := 21) hx hb d_Tab_length_9 (by decide) (fun c2 => ?_) (fun c2 => ?_)
    · replace hf := gp c2 hf
      refine lv_iconst (v := (-1)) hx hb d_Tab_length_21 (by decide) ?_
      cases hf
      exact hret _ _ rfl d_Tab_length_22
    · replace hf := gn c2 hf
      refine lv_aload_n hx hb d_Tab_length_12 rfl (lv_at hl 0 rfl) ?_
      refine va_get (D := D) (ci := 1) (v := .ref a_this_lengths) (C := R_Tab) (T := T_Tab) (N := 3) hx hb hts in_Tab hown hK hP 0 rfl rfl 0 (by decide) (hts _ q_12) (fun _ h9 => h9) rfl d_Tab_length_13 ?_
      refine lv_iload_n hx hb d_Tab_length_16 rfl (lv_at hl 1 rfl) ?_
      obtain ⟨hi3, hf⟩ := gd hf
      refine va_iald hx hb hK hP 1 0 rfl rfl hi3 d_Tab_length_17 ?_
      refine lv_goto (tgt := 22) hx hb d_Tab_length_18 (by decide) ?_
      cases hf
      exact hret _ _ rfl d_Tab_length_22
def f_Tab_at (n_this_lengths : Nat) (n_this_cells : Nat) (v_this_size : Int32) (v_this_lengths : Nat → Int32) (v_this_cells : Nat → Int32) (x1 : Int32) (x2 : Int32) : Option (Int32) :=
  if x1 < 0 then
    some (-1)
  else
    if v_this_size ≤ x1 then
      some (-1)
    else
      if x2 < 0 then
        some (-1)
      else
        if inb x1 n_this_lengths then
          if x2 < (v_this_lengths x1.toNatClampNeg) then
            if inb ((x1 * 6) + x2) n_this_cells then
              some (v_this_cells ((x1 * 6) + x2).toNatClampNeg)
            else none
          else
            some (-1)
        else none
abbrev rm_Tab_at : Room := { frames := 0, cells := 0, slots := 0, locals := 0 }
set_option maxHeartbeats 4000000 in
set_option maxRecDepth 100000 in
theorem c_Tab_at (l : Launch) (D : va_G) (cI : ClassId) (a_this a_this_lengths a_this_cells n_this_lengths n_this_cells : Nat) (v_this_size : Int32) (v_this_lengths : Nat → Int32) (v_this_cells : Nat → Int32) (x1 x2 : Int32) {r_ : Int32} (hf : f_Tab_at n_this_lengths n_this_cells v_this_size v_this_lengths v_this_cells x1 x2 = some r_) : CtP l y_Tab_at ws_Tab_at rm_Tab_at D cI [(a_this, .inr (1, [.ref a_this_lengths, .ref a_this_cells, .int v_this_size])), (a_this_lengths, .inl (cI, n_this_lengths, .inl v_this_lengths)), (a_this_cells, .inl (cI, n_this_cells, .inl v_this_cells))] [.ref a_this, .int x1, .int x2] .int r_ := by
  refine CtP.ofW (cc := b_Tab_at) (maxL := 3) (ty := .int) (by decide) rfl (Nat.le_of_ble_eq_true rfl) ?_
  intro p e s m args below meth c Q hx hb hml hown hts hP hK hN hret ls hl
  have hl : lv_has ls 3 [(0, .ref a_this), (1, .int x1), (2, .int x2)] := hl
  unfold f_Tab_at at hf
  refine lv_iload_n hx hb d_Tab_at_0 rfl (lv_at hl 1 rfl) ?_
  refine lv_if_lt (tgt := 26) hx hb d_Tab_at_1 (by decide) (fun c1 => ?_) (fun c1 => ?_)
  · replace hf := gp c1 hf
    refine lv_iconst (v := (-1)) hx hb d_Tab_at_26 (by decide) ?_
    cases hf
    exact hret _ _ rfl d_Tab_at_27
  · replace hf := gn c1 hf
    refine lv_iload_n hx hb d_Tab_at_4 rfl (lv_at hl 1 rfl) ?_
    refine lv_aload_n hx hb d_Tab_at_5 rfl (lv_at hl 0 rfl) ?_
    refine va_get (D := D) (ci := 1) (v := .int v_this_size) (C := R_Tab) (T := T_Tab) (N := 3) hx hb hts in_Tab hown hK hP 0 rfl rfl 2 (by decide) (hts _ q_7) (fun _ h9 => h9) rfl d_Tab_at_6 ?_
    refine lv_icmp_ge (tgt := 26) hx hb d_Tab_at_9 (by decide) (fun c2 => ?_) (fun c2 => ?_)
    · replace hf := gp c2 hf
      refine lv_iconst (v := (-1)) hx hb d_Tab_at_26 (by decide) ?_
      cases hf
      exact hret _ _ rfl d_Tab_at_27
    · replace hf := gn c2 hf
      refine lv_iload_n hx hb d_Tab_at_12 rfl (lv_at hl 2 rfl) ?_
      refine lv_if_lt (tgt := 26) hx hb d_Tab_at_13 (by decide) (fun c3 => ?_) (fun c3 => ?_)
      · replace hf := gp c3 hf
        refine lv_iconst (v := (-1)) hx hb d_Tab_at_26 (by decide) ?_
        cases hf
        exact hret _ _ rfl d_Tab_at_27
      · replace hf := gn c3 hf
        refine lv_iload_n hx hb d_Tab_at_16 rfl (lv_at hl 2 rfl) ?_
        refine lv_aload_n hx hb d_Tab_at_17 rfl (lv_at hl 0 rfl) ?_
        refine va_get (D := D) (ci := 1) (v := .ref a_this_lengths) (C := R_Tab) (T := T_Tab) (N := 3) hx hb hts in_Tab hown hK hP 0 rfl rfl 0 (by decide) (hts _ q_12) (fun _ h9 => h9) rfl d_Tab_at_18 ?_
        refine lv_iload_n hx hb d_Tab_at_21 rfl (lv_at hl 1 rfl) ?_
        obtain ⟨hi4, hf⟩ := gd hf
        refine va_iald hx hb hK hP 1 0 rfl rfl hi4 d_Tab_at_22 ?_
        refine lv_icmp_lt (tgt := 28) hx hb d_Tab_at_23 (by decide) (fun c5 => ?_) (fun c5 => ?_)
        · replace hf := gp c5 hf
          refine lv_aload_n hx hb d_Tab_at_28 rfl (lv_at hl 0 rfl) ?_
          refine va_get (D := D) (ci := 1) (v := .ref a_this_cells) (C := R_Tab) (T := T_Tab) (N := 3) hx hb hts in_Tab hown hK hP 0 rfl rfl 1 (by decide) (hts _ q_13) (fun _ h9 => h9) rfl d_Tab_at_29 ?_
          refine lv_iload_n hx hb d_Tab_at_32 rfl (lv_at hl 1 rfl) ?_
          refine lv_bipush (v := 6) hx hb d_Tab_at_33 (by decide) ?_
          refine lv_imul hx hb d_Tab_at_35 ?_
          refine lv_iload_n hx hb d_Tab_at_36 rfl (lv_at hl 2 rfl) ?_
          refine lv_iadd hx hb d_Tab_at_37 ?_
          obtain ⟨hi6, hf⟩ := gd hf
          refine va_iald hx hb hK hP 2 0 rfl rfl hi6 d_Tab_at_38 ?_
          cases hf
          exact hret _ _ rfl d_Tab_at_39
        · replace hf := gn c5 hf
          refine lv_iconst (v := (-1)) hx hb d_Tab_at_26 (by decide) ?_
          cases hf
          exact hret _ _ rfl d_Tab_at_27
end
section
abbrev b_Kin_init : ByteArray := prog_5_method_1_code
def y_Kin_init : MethodName := ⟨R_Kin, "<init>", "()V"⟩
def ws_Kin_init : List Cond := Cond.code y_Kin_init b_Kin_init 1 none :: GW
theorem hd_Kin_init : y_Kin_init.cls ≠ "java/lang/invoke/MethodHandle" ∧ y_Kin_init.cls ≠ "java/lang/invoke/VarHandle" ∧ (parseMethodDescriptor y_Kin_init.desc).map (fun d => d.parameters.length) = some 0 := by decide +kernel
theorem d_Kin_init_0 : decode b_Kin_init 0 = .ok (.aload_n 0, 1) := by decide +kernel
theorem d_Kin_init_1 : decode b_Kin_init 1 = .ok (.invokespecial 3, 3) := by decide +kernel
theorem d_Kin_init_4 : decode b_Kin_init 4 = .ok (.aload_n 0, 1) := by decide +kernel
theorem d_Kin_init_5 : decode b_Kin_init 5 = .ok (.bipush 100, 2) := by decide +kernel
theorem d_Kin_init_7 : decode b_Kin_init 7 = .ok (.newarray .int, 2) := by decide +kernel
theorem d_Kin_init_9 : decode b_Kin_init 9 = .ok (.putfield 9, 3) := by decide +kernel
theorem d_Kin_init_12 : decode b_Kin_init 12 = .ok (.aload_n 0, 1) := by decide +kernel
theorem d_Kin_init_13 : decode b_Kin_init 13 = .ok (.bipush 100, 2) := by decide +kernel
theorem d_Kin_init_15 : decode b_Kin_init 15 = .ok (.newarray .int, 2) := by decide +kernel
theorem d_Kin_init_17 : decode b_Kin_init 17 = .ok (.putfield 15, 3) := by decide +kernel
theorem d_Kin_init_20 : decode b_Kin_init 20 = .ok (.aload_n 0, 1) := by decide +kernel
theorem d_Kin_init_21 : decode b_Kin_init 21 = .ok (.new 18, 3) := by decide +kernel
theorem d_Kin_init_24 : decode b_Kin_init 24 = .ok (.dup, 1) := by decide +kernel
theorem d_Kin_init_25 : decode b_Kin_init 25 = .ok (.bipush 100, 2) := by decide +kernel
theorem d_Kin_init_27 : decode b_Kin_init 27 = .ok (.invokespecial 20, 3) := by decide +kernel
theorem d_Kin_init_30 : decode b_Kin_init 30 = .ok (.putfield 23, 3) := by decide +kernel
theorem d_Kin_init_33 : decode b_Kin_init 33 = .ok (.aload_n 0, 1) := by decide +kernel
theorem d_Kin_init_34 : decode b_Kin_init 34 = .ok (.iconst 1, 1) := by decide +kernel
theorem d_Kin_init_35 : decode b_Kin_init 35 = .ok (.putfield 27, 3) := by decide +kernel
theorem d_Kin_init_38 : decode b_Kin_init 38 = .ok (.return_, 1) := by decide +kernel
abbrev b_Kin_addKind : ByteArray := prog_5_method_2_code
def y_Kin_addKind : MethodName := ⟨R_Kin, "addKind", "()I"⟩
def ws_Kin_addKind : List Cond := Cond.code y_Kin_addKind b_Kin_addKind 1 (some .int) :: GW
theorem hd_Kin_addKind : y_Kin_addKind.cls ≠ "java/lang/invoke/MethodHandle" ∧ y_Kin_addKind.cls ≠ "java/lang/invoke/VarHandle" ∧ (parseMethodDescriptor y_Kin_addKind.desc).map (fun d => d.parameters.length) = some 0 := by decide +kernel
theorem d_Kin_addKind_0 : decode b_Kin_addKind 0 = .ok (.aload_n 0, 1) := by decide +kernel
theorem d_Kin_addKind_1 : decode b_Kin_addKind 1 = .ok (.getfield 27, 3) := by decide +kernel
theorem d_Kin_addKind_4 : decode b_Kin_addKind 4 = .ok (.bipush 24, 2) := by decide +kernel
theorem d_Kin_addKind_6 : decode b_Kin_addKind 6 = .ok (.if_icmp .lt 5, 3) := by decide +kernel
theorem d_Kin_addKind_9 : decode b_Kin_addKind 9 = .ok (.iconst (-1), 1) := by decide +kernel
theorem d_Kin_addKind_10 : decode b_Kin_addKind 10 = .ok (.ireturn, 1) := by decide +kernel
theorem d_Kin_addKind_11 : decode b_Kin_addKind 11 = .ok (.aload_n 0, 1) := by decide +kernel
theorem d_Kin_addKind_12 : decode b_Kin_addKind 12 = .ok (.dup, 1) := by decide +kernel
theorem d_Kin_addKind_13 : decode b_Kin_addKind 13 = .ok (.getfield 27, 3) := by decide +kernel
theorem d_Kin_addKind_16 : decode b_Kin_addKind 16 = .ok (.iconst 1, 1) := by decide +kernel
theorem d_Kin_addKind_17 : decode b_Kin_addKind 17 = .ok (.iadd, 1) := by decide +kernel
theorem d_Kin_addKind_18 : decode b_Kin_addKind 18 = .ok (.putfield 27, 3) := by decide +kernel
theorem d_Kin_addKind_21 : decode b_Kin_addKind 21 = .ok (.aload_n 0, 1) := by decide +kernel
theorem d_Kin_addKind_22 : decode b_Kin_addKind 22 = .ok (.getfield 27, 3) := by decide +kernel
theorem d_Kin_addKind_25 : decode b_Kin_addKind 25 = .ok (.iconst 1, 1) := by decide +kernel
theorem d_Kin_addKind_26 : decode b_Kin_addKind 26 = .ok (.isub, 1) := by decide +kernel
theorem d_Kin_addKind_27 : decode b_Kin_addKind 27 = .ok (.ireturn, 1) := by decide +kernel
abbrev b_Kin_count : ByteArray := prog_5_method_3_code
def y_Kin_count : MethodName := ⟨R_Kin, "count", "()I"⟩
def ws_Kin_count : List Cond := Cond.code y_Kin_count b_Kin_count 1 (some .int) :: GW
theorem hd_Kin_count : y_Kin_count.cls ≠ "java/lang/invoke/MethodHandle" ∧ y_Kin_count.cls ≠ "java/lang/invoke/VarHandle" ∧ (parseMethodDescriptor y_Kin_count.desc).map (fun d => d.parameters.length) = some 0 := by decide +kernel
theorem d_Kin_count_0 : decode b_Kin_count 0 = .ok (.aload_n 0, 1) := by decide +kernel
theorem d_Kin_count_1 : decode b_Kin_count 1 = .ok (.getfield 27, 3) := by decide +kernel
theorem d_Kin_count_4 : decode b_Kin_count 4 = .ok (.ireturn, 1) := by decide +kernel
abbrev b_Kin_has : ByteArray := prog_5_method_4_code
def y_Kin_has : MethodName := ⟨R_Kin, "has", "(I)Z"⟩
def ws_Kin_has : List Cond := Cond.code y_Kin_has b_Kin_has 2 (some .boolean) :: GW
theorem hd_Kin_has : y_Kin_has.cls ≠ "java/lang/invoke/MethodHandle" ∧ y_Kin_has.cls ≠ "java/lang/invoke/VarHandle" ∧ (parseMethodDescriptor y_Kin_has.desc).map (fun d => d.parameters.length) = some 1 := by decide +kernel
theorem d_Kin_has_0 : decode b_Kin_has 0 = .ok (.iload_n 1, 1) := by decide +kernel
theorem d_Kin_has_1 : decode b_Kin_has 1 = .ok (.ifCond .lt 15, 3) := by decide +kernel
theorem d_Kin_has_4 : decode b_Kin_has 4 = .ok (.iload_n 1, 1) := by decide +kernel
theorem d_Kin_has_5 : decode b_Kin_has 5 = .ok (.aload_n 0, 1) := by decide +kernel
theorem d_Kin_has_6 : decode b_Kin_has 6 = .ok (.getfield 27, 3) := by decide +kernel
theorem d_Kin_has_9 : decode b_Kin_has 9 = .ok (.if_icmp .ge 7, 3) := by decide +kernel
theorem d_Kin_has_12 : decode b_Kin_has 12 = .ok (.iconst 1, 1) := by decide +kernel
theorem d_Kin_has_13 : decode b_Kin_has 13 = .ok (.goto 4, 3) := by decide +kernel
theorem d_Kin_has_16 : decode b_Kin_has 16 = .ok (.iconst 0, 1) := by decide +kernel
theorem d_Kin_has_17 : decode b_Kin_has 17 = .ok (.ireturn, 1) := by decide +kernel
abbrev b_Kin_isConstructor : ByteArray := prog_5_method_7_code
def y_Kin_isConstructor : MethodName := ⟨R_Kin, "isConstructor", "(I)Z"⟩
def ws_Kin_isConstructor : List Cond := Cond.code y_Kin_isConstructor b_Kin_isConstructor 2 (some .boolean) :: GW
theorem hd_Kin_isConstructor : y_Kin_isConstructor.cls ≠ "java/lang/invoke/MethodHandle" ∧ y_Kin_isConstructor.cls ≠ "java/lang/invoke/VarHandle" ∧ (parseMethodDescriptor y_Kin_isConstructor.desc).map (fun d => d.parameters.length) = some 1 := by decide +kernel
theorem d_Kin_isConstructor_0 : decode b_Kin_isConstructor 0 = .ok (.iload_n 1, 1) := by decide +kernel
theorem d_Kin_isConstructor_1 : decode b_Kin_isConstructor 1 = .ok (.ifCond .lt 24, 3) := by decide +kernel
theorem d_Kin_isConstructor_4 : decode b_Kin_isConstructor 4 = .ok (.iload_n 1, 1) := by decide +kernel
theorem d_Kin_isConstructor_5 : decode b_Kin_isConstructor 5 = .ok (.aload_n 0, 1) := by decide +kernel
theorem d_Kin_isConstructor_6 : decode b_Kin_isConstructor 6 = .ok (.getfield 23, 3) := by decide +kernel
theorem d_Kin_isConstructor_9 : decode b_Kin_isConstructor 9 = .ok (.getfield 56, 3) := by decide +kernel
theorem d_Kin_isConstructor_12 : decode b_Kin_isConstructor 12 = .ok (.if_icmp .ge 13, 3) := by decide +kernel
theorem d_Kin_isConstructor_15 : decode b_Kin_isConstructor 15 = .ok (.iload_n 1, 1) := by decide +kernel
theorem d_Kin_isConstructor_16 : decode b_Kin_isConstructor 16 = .ok (.bipush 100, 2) := by decide +kernel
theorem d_Kin_isConstructor_18 : decode b_Kin_isConstructor 18 = .ok (.if_icmp .ge 7, 3) := by decide +kernel
theorem d_Kin_isConstructor_21 : decode b_Kin_isConstructor 21 = .ok (.iconst 1, 1) := by decide +kernel
theorem d_Kin_isConstructor_22 : decode b_Kin_isConstructor 22 = .ok (.goto 4, 3) := by decide +kernel
theorem d_Kin_isConstructor_25 : decode b_Kin_isConstructor 25 = .ok (.iconst 0, 1) := by decide +kernel
theorem d_Kin_isConstructor_26 : decode b_Kin_isConstructor 26 = .ok (.ireturn, 1) := by decide +kernel
abbrev b_Kin_kindOf : ByteArray := prog_5_method_8_code
def y_Kin_kindOf : MethodName := ⟨R_Kin, "kindOf", "(I)I"⟩
def ws_Kin_kindOf : List Cond := Cond.code y_Kin_kindOf b_Kin_kindOf 2 (some .int) :: GW
theorem hd_Kin_kindOf : y_Kin_kindOf.cls ≠ "java/lang/invoke/MethodHandle" ∧ y_Kin_kindOf.cls ≠ "java/lang/invoke/VarHandle" ∧ (parseMethodDescriptor y_Kin_kindOf.desc).map (fun d => d.parameters.length) = some 1 := by decide +kernel
theorem d_Kin_kindOf_0 : decode b_Kin_kindOf 0 = .ok (.aload_n 0, 1) := by decide +kernel
theorem d_Kin_kindOf_1 : decode b_Kin_kindOf 1 = .ok (.iload_n 1, 1) := by decide +kernel
theorem d_Kin_kindOf_2 : decode b_Kin_kindOf 2 = .ok (.invokevirtual 57, 3) := by decide +kernel
theorem d_Kin_kindOf_5 : decode b_Kin_kindOf 5 = .ok (.ifCond .eq 12, 3) := by decide +kernel
theorem d_Kin_kindOf_8 : decode b_Kin_kindOf 8 = .ok (.aload_n 0, 1) := by decide +kernel
theorem d_Kin_kindOf_9 : decode b_Kin_kindOf 9 = .ok (.getfield 9, 3) := by decide +kernel
theorem d_Kin_kindOf_12 : decode b_Kin_kindOf 12 = .ok (.iload_n 1, 1) := by decide +kernel
theorem d_Kin_kindOf_13 : decode b_Kin_kindOf 13 = .ok (.iaload, 1) := by decide +kernel
theorem d_Kin_kindOf_14 : decode b_Kin_kindOf 14 = .ok (.goto 4, 3) := by decide +kernel
theorem d_Kin_kindOf_17 : decode b_Kin_kindOf 17 = .ok (.iconst (-1), 1) := by decide +kernel
theorem d_Kin_kindOf_18 : decode b_Kin_kindOf 18 = .ok (.ireturn, 1) := by decide +kernel
abbrev b_Kin_nameOf : ByteArray := prog_5_method_9_code
def y_Kin_nameOf : MethodName := ⟨R_Kin, "nameOf", "(I)I"⟩
def ws_Kin_nameOf : List Cond := Cond.code y_Kin_nameOf b_Kin_nameOf 2 (some .int) :: GW
theorem hd_Kin_nameOf : y_Kin_nameOf.cls ≠ "java/lang/invoke/MethodHandle" ∧ y_Kin_nameOf.cls ≠ "java/lang/invoke/VarHandle" ∧ (parseMethodDescriptor y_Kin_nameOf.desc).map (fun d => d.parameters.length) = some 1 := by decide +kernel
theorem d_Kin_nameOf_0 : decode b_Kin_nameOf 0 = .ok (.aload_n 0, 1) := by decide +kernel
theorem d_Kin_nameOf_1 : decode b_Kin_nameOf 1 = .ok (.iload_n 1, 1) := by decide +kernel
theorem d_Kin_nameOf_2 : decode b_Kin_nameOf 2 = .ok (.invokevirtual 57, 3) := by decide +kernel
theorem d_Kin_nameOf_5 : decode b_Kin_nameOf 5 = .ok (.ifCond .eq 12, 3) := by decide +kernel
theorem d_Kin_nameOf_8 : decode b_Kin_nameOf 8 = .ok (.aload_n 0, 1) := by decide +kernel
theorem d_Kin_nameOf_9 : decode b_Kin_nameOf 9 = .ok (.getfield 15, 3) := by decide +kernel
theorem d_Kin_nameOf_12 : decode b_Kin_nameOf 12 = .ok (.iload_n 1, 1) := by decide +kernel
theorem d_Kin_nameOf_13 : decode b_Kin_nameOf 13 = .ok (.iaload, 1) := by decide +kernel
theorem d_Kin_nameOf_14 : decode b_Kin_nameOf 14 = .ok (.goto 4, 3) := by decide +kernel
theorem d_Kin_nameOf_17 : decode b_Kin_nameOf 17 = .ok (.iconst (-1), 1) := by decide +kernel
theorem d_Kin_nameOf_18 : decode b_Kin_nameOf 18 = .ok (.ireturn, 1) := by decide +kernel
abbrev b_Kin_search : ByteArray := prog_5_method_12_code
def y_Kin_search : MethodName := ⟨R_Kin, "search", "(III)I"⟩
def ws_Kin_search : List Cond := Cond.code y_Kin_search b_Kin_search 5 (some .int) :: GW
theorem hd_Kin_search : y_Kin_search.cls ≠ "java/lang/invoke/MethodHandle" ∧ y_Kin_search.cls ≠ "java/lang/invoke/VarHandle" ∧ (parseMethodDescriptor y_Kin_search.desc).map (fun d => d.parameters.length) = some 3 := by decide +kernel
theorem d_Kin_search_0 : decode b_Kin_search 0 = .ok (.iconst 0, 1) := by decide +kernel
theorem d_Kin_search_1 : decode b_Kin_search 1 = .ok (.istore 4, 2) := by decide +kernel
theorem d_Kin_search_3 : decode b_Kin_search 3 = .ok (.iload 4, 2) := by decide +kernel
theorem d_Kin_search_5 : decode b_Kin_search 5 = .ok (.aload_n 0, 1) := by decide +kernel
theorem d_Kin_search_6 : decode b_Kin_search 6 = .ok (.getfield 23, 3) := by decide +kernel
theorem d_Kin_search_9 : decode b_Kin_search 9 = .ok (.getfield 56, 3) := by decide +kernel
theorem d_Kin_search_12 : decode b_Kin_search 12 = .ok (.if_icmp .ge 45, 3) := by decide +kernel
theorem d_Kin_search_15 : decode b_Kin_search 15 = .ok (.aload_n 0, 1) := by decide +kernel
theorem d_Kin_search_16 : decode b_Kin_search 16 = .ok (.iload 4, 2) := by decide +kernel
theorem d_Kin_search_18 : decode b_Kin_search 18 = .ok (.invokevirtual 60, 3) := by decide +kernel
theorem d_Kin_search_21 : decode b_Kin_search 21 = .ok (.iload_n 1, 1) := by decide +kernel
theorem d_Kin_search_22 : decode b_Kin_search 22 = .ok (.if_icmp .ne 29, 3) := by decide +kernel
theorem d_Kin_search_25 : decode b_Kin_search 25 = .ok (.aload_n 0, 1) := by decide +kernel
theorem d_Kin_search_26 : decode b_Kin_search 26 = .ok (.iload 4, 2) := by decide +kernel
theorem d_Kin_search_28 : decode b_Kin_search 28 = .ok (.invokevirtual 64, 3) := by decide +kernel
theorem d_Kin_search_31 : decode b_Kin_search 31 = .ok (.iload_n 2, 1) := by decide +kernel
theorem d_Kin_search_32 : decode b_Kin_search 32 = .ok (.if_icmp .ne 19, 3) := by decide +kernel
theorem d_Kin_search_35 : decode b_Kin_search 35 = .ok (.aload_n 0, 1) := by decide +kernel
theorem d_Kin_search_36 : decode b_Kin_search 36 = .ok (.getfield 23, 3) := by decide +kernel
theorem d_Kin_search_39 : decode b_Kin_search 39 = .ok (.iload 4, 2) := by decide +kernel
theorem d_Kin_search_41 : decode b_Kin_search 41 = .ok (.invokevirtual 67, 3) := by decide +kernel
theorem d_Kin_search_44 : decode b_Kin_search 44 = .ok (.iload_n 3, 1) := by decide +kernel
theorem d_Kin_search_45 : decode b_Kin_search 45 = .ok (.if_icmp .ne 6, 3) := by decide +kernel
theorem d_Kin_search_48 : decode b_Kin_search 48 = .ok (.iload 4, 2) := by decide +kernel
theorem d_Kin_search_50 : decode b_Kin_search 50 = .ok (.ireturn, 1) := by decide +kernel
theorem d_Kin_search_51 : decode b_Kin_search 51 = .ok (.iinc 4 1, 3) := by decide +kernel
theorem d_Kin_search_54 : decode b_Kin_search 54 = .ok (.goto (-51), 3) := by decide +kernel
theorem d_Kin_search_57 : decode b_Kin_search 57 = .ok (.iconst (-1), 1) := by decide +kernel
theorem d_Kin_search_58 : decode b_Kin_search 58 = .ok (.ireturn, 1) := by decide +kernel
abbrev b_Kin_takes : ByteArray := prog_5_method_5_code
def y_Kin_takes : MethodName := ⟨R_Kin, "takes", "(IILKindDesk$Row;)Z"⟩
def ws_Kin_takes : List Cond := Cond.code y_Kin_takes b_Kin_takes 4 (some .boolean) :: GW
theorem hd_Kin_takes : y_Kin_takes.cls ≠ "java/lang/invoke/MethodHandle" ∧ y_Kin_takes.cls ≠ "java/lang/invoke/VarHandle" ∧ (parseMethodDescriptor y_Kin_takes.desc).map (fun d => d.parameters.length) = some 3 := by decide +kernel
theorem d_Kin_takes_0 : decode b_Kin_takes 0 = .ok (.iload_n 1, 1) := by decide +kernel
theorem d_Kin_takes_1 : decode b_Kin_takes 1 = .ok (.ifCond .eq 55, 3) := by decide +kernel
theorem d_Kin_takes_4 : decode b_Kin_takes 4 = .ok (.aload_n 0, 1) := by decide +kernel
theorem d_Kin_takes_5 : decode b_Kin_takes 5 = .ok (.iload_n 1, 1) := by decide +kernel
theorem d_Kin_takes_6 : decode b_Kin_takes 6 = .ok (.invokevirtual 31, 3) := by decide +kernel
theorem d_Kin_takes_9 : decode b_Kin_takes 9 = .ok (.ifCond .eq 47, 3) := by decide +kernel
theorem d_Kin_takes_12 : decode b_Kin_takes 12 = .ok (.iload_n 2, 1) := by decide +kernel
theorem d_Kin_takes_13 : decode b_Kin_takes 13 = .ok (.invokestatic 35, 3) := by decide +kernel
theorem d_Kin_takes_16 : decode b_Kin_takes 16 = .ok (.ifCond .eq 40, 3) := by decide +kernel
theorem d_Kin_takes_19 : decode b_Kin_takes 19 = .ok (.aload_n 3, 1) := by decide +kernel
theorem d_Kin_takes_20 : decode b_Kin_takes 20 = .ok (.getfield 38, 3) := by decide +kernel
theorem d_Kin_takes_23 : decode b_Kin_takes 23 = .ok (.iconst 4, 1) := by decide +kernel
theorem d_Kin_takes_24 : decode b_Kin_takes 24 = .ok (.if_icmp .gt 32, 3) := by decide +kernel
theorem d_Kin_takes_27 : decode b_Kin_takes 27 = .ok (.aload_n 3, 1) := by decide +kernel
theorem d_Kin_takes_28 : decode b_Kin_takes 28 = .ok (.aload_n 0, 1) := by decide +kernel
theorem d_Kin_takes_29 : decode b_Kin_takes 29 = .ok (.getfield 27, 3) := by decide +kernel
theorem d_Kin_takes_32 : decode b_Kin_takes 32 = .ok (.invokevirtual 41, 3) := by decide +kernel
theorem d_Kin_takes_35 : decode b_Kin_takes 35 = .ok (.ifCond .eq 21, 3) := by decide +kernel
theorem d_Kin_takes_38 : decode b_Kin_takes 38 = .ok (.aload_n 0, 1) := by decide +kernel
theorem d_Kin_takes_39 : decode b_Kin_takes 39 = .ok (.iload_n 1, 1) := by decide +kernel
theorem d_Kin_takes_40 : decode b_Kin_takes 40 = .ok (.iload_n 2, 1) := by decide +kernel
theorem d_Kin_takes_41 : decode b_Kin_takes 41 = .ok (.aload_n 3, 1) := by decide +kernel
theorem d_Kin_takes_42 : decode b_Kin_takes 42 = .ok (.getfield 38, 3) := by decide +kernel
theorem d_Kin_takes_45 : decode b_Kin_takes 45 = .ok (.invokevirtual 44, 3) := by decide +kernel
theorem d_Kin_takes_48 : decode b_Kin_takes 48 = .ok (.iconst (-1), 1) := by decide +kernel
theorem d_Kin_takes_49 : decode b_Kin_takes 49 = .ok (.if_icmp .ne 7, 3) := by decide +kernel
theorem d_Kin_takes_52 : decode b_Kin_takes 52 = .ok (.iconst 1, 1) := by decide +kernel
theorem d_Kin_takes_53 : decode b_Kin_takes 53 = .ok (.goto 4, 3) := by decide +kernel
theorem d_Kin_takes_56 : decode b_Kin_takes 56 = .ok (.iconst 0, 1) := by decide +kernel
theorem d_Kin_takes_57 : decode b_Kin_takes 57 = .ok (.ireturn, 1) := by decide +kernel
abbrev b_Kin_addConstructor : ByteArray := prog_5_method_6_code
def y_Kin_addConstructor : MethodName := ⟨R_Kin, "addConstructor", "(IILKindDesk$Row;)I"⟩
def ws_Kin_addConstructor : List Cond := Cond.code y_Kin_addConstructor b_Kin_addConstructor 5 (some .int) :: GW
theorem hd_Kin_addConstructor : y_Kin_addConstructor.cls ≠ "java/lang/invoke/MethodHandle" ∧ y_Kin_addConstructor.cls ≠ "java/lang/invoke/VarHandle" ∧ (parseMethodDescriptor y_Kin_addConstructor.desc).map (fun d => d.parameters.length) = some 3 := by decide +kernel
theorem d_Kin_addConstructor_0 : decode b_Kin_addConstructor 0 = .ok (.aload_n 0, 1) := by decide +kernel
theorem d_Kin_addConstructor_1 : decode b_Kin_addConstructor 1 = .ok (.getfield 23, 3) := by decide +kernel
theorem d_Kin_addConstructor_4 : decode b_Kin_addConstructor 4 = .ok (.invokevirtual 48, 3) := by decide +kernel
theorem d_Kin_addConstructor_7 : decode b_Kin_addConstructor 7 = .ok (.istore 4, 2) := by decide +kernel
theorem d_Kin_addConstructor_9 : decode b_Kin_addConstructor 9 = .ok (.iload 4, 2) := by decide +kernel
theorem d_Kin_addConstructor_11 : decode b_Kin_addConstructor 11 = .ok (.ifCond .lt 10, 3) := by decide +kernel
theorem d_Kin_addConstructor_14 : decode b_Kin_addConstructor 14 = .ok (.iload 4, 2) := by decide +kernel
theorem d_Kin_addConstructor_16 : decode b_Kin_addConstructor 16 = .ok (.bipush 100, 2) := by decide +kernel
theorem d_Kin_addConstructor_18 : decode b_Kin_addConstructor 18 = .ok (.if_icmp .lt 5, 3) := by decide +kernel
theorem d_Kin_addConstructor_21 : decode b_Kin_addConstructor 21 = .ok (.iconst (-1), 1) := by decide +kernel
theorem d_Kin_addConstructor_22 : decode b_Kin_addConstructor 22 = .ok (.ireturn, 1) := by decide +kernel
theorem d_Kin_addConstructor_23 : decode b_Kin_addConstructor 23 = .ok (.aload_n 0, 1) := by decide +kernel
theorem d_Kin_addConstructor_24 : decode b_Kin_addConstructor 24 = .ok (.getfield 9, 3) := by decide +kernel
theorem d_Kin_addConstructor_27 : decode b_Kin_addConstructor 27 = .ok (.iload 4, 2) := by decide +kernel
theorem d_Kin_addConstructor_29 : decode b_Kin_addConstructor 29 = .ok (.iload_n 1, 1) := by decide +kernel
theorem d_Kin_addConstructor_30 : decode b_Kin_addConstructor 30 = .ok (.iastore, 1) := by decide +kernel
theorem d_Kin_addConstructor_31 : decode b_Kin_addConstructor 31 = .ok (.aload_n 0, 1) := by decide +kernel
theorem d_Kin_addConstructor_32 : decode b_Kin_addConstructor 32 = .ok (.getfield 15, 3) := by decide +kernel
theorem d_Kin_addConstructor_35 : decode b_Kin_addConstructor 35 = .ok (.iload 4, 2) := by decide +kernel
theorem d_Kin_addConstructor_37 : decode b_Kin_addConstructor 37 = .ok (.iload_n 2, 1) := by decide +kernel
theorem d_Kin_addConstructor_38 : decode b_Kin_addConstructor 38 = .ok (.iastore, 1) := by decide +kernel
theorem d_Kin_addConstructor_39 : decode b_Kin_addConstructor 39 = .ok (.aload_n 0, 1) := by decide +kernel
theorem d_Kin_addConstructor_40 : decode b_Kin_addConstructor 40 = .ok (.getfield 23, 3) := by decide +kernel
theorem d_Kin_addConstructor_43 : decode b_Kin_addConstructor 43 = .ok (.aload_n 3, 1) := by decide +kernel
theorem d_Kin_addConstructor_44 : decode b_Kin_addConstructor 44 = .ok (.invokevirtual 52, 3) := by decide +kernel
theorem d_Kin_addConstructor_47 : decode b_Kin_addConstructor 47 = .ok (.iload 4, 2) := by decide +kernel
theorem d_Kin_addConstructor_49 : decode b_Kin_addConstructor 49 = .ok (.ireturn, 1) := by decide +kernel
abbrev b_Kin_constructorsOf : ByteArray := prog_5_method_10_code
def y_Kin_constructorsOf : MethodName := ⟨R_Kin, "constructorsOf", "(I)I"⟩
def ws_Kin_constructorsOf : List Cond := Cond.code y_Kin_constructorsOf b_Kin_constructorsOf 4 (some .int) :: GW
theorem hd_Kin_constructorsOf : y_Kin_constructorsOf.cls ≠ "java/lang/invoke/MethodHandle" ∧ y_Kin_constructorsOf.cls ≠ "java/lang/invoke/VarHandle" ∧ (parseMethodDescriptor y_Kin_constructorsOf.desc).map (fun d => d.parameters.length) = some 1 := by decide +kernel
theorem d_Kin_constructorsOf_0 : decode b_Kin_constructorsOf 0 = .ok (.iconst 0, 1) := by decide +kernel
theorem d_Kin_constructorsOf_1 : decode b_Kin_constructorsOf 1 = .ok (.istore_n 2, 1) := by decide +kernel
theorem d_Kin_constructorsOf_2 : decode b_Kin_constructorsOf 2 = .ok (.iconst 0, 1) := by decide +kernel
theorem d_Kin_constructorsOf_3 : decode b_Kin_constructorsOf 3 = .ok (.istore_n 3, 1) := by decide +kernel
theorem d_Kin_constructorsOf_4 : decode b_Kin_constructorsOf 4 = .ok (.iload_n 3, 1) := by decide +kernel
theorem d_Kin_constructorsOf_5 : decode b_Kin_constructorsOf 5 = .ok (.aload_n 0, 1) := by decide +kernel
theorem d_Kin_constructorsOf_6 : decode b_Kin_constructorsOf 6 = .ok (.getfield 23, 3) := by decide +kernel
theorem d_Kin_constructorsOf_9 : decode b_Kin_constructorsOf 9 = .ok (.getfield 56, 3) := by decide +kernel
theorem d_Kin_constructorsOf_12 : decode b_Kin_constructorsOf 12 = .ok (.if_icmp .ge 21, 3) := by decide +kernel
theorem d_Kin_constructorsOf_15 : decode b_Kin_constructorsOf 15 = .ok (.aload_n 0, 1) := by decide +kernel
theorem d_Kin_constructorsOf_16 : decode b_Kin_constructorsOf 16 = .ok (.iload_n 3, 1) := by decide +kernel
theorem d_Kin_constructorsOf_17 : decode b_Kin_constructorsOf 17 = .ok (.invokevirtual 60, 3) := by decide +kernel
theorem d_Kin_constructorsOf_20 : decode b_Kin_constructorsOf 20 = .ok (.iload_n 1, 1) := by decide +kernel
theorem d_Kin_constructorsOf_21 : decode b_Kin_constructorsOf 21 = .ok (.if_icmp .ne 6, 3) := by decide +kernel
theorem d_Kin_constructorsOf_24 : decode b_Kin_constructorsOf 24 = .ok (.iinc 2 1, 3) := by decide +kernel
theorem d_Kin_constructorsOf_27 : decode b_Kin_constructorsOf 27 = .ok (.iinc 3 1, 3) := by decide +kernel
theorem d_Kin_constructorsOf_30 : decode b_Kin_constructorsOf 30 = .ok (.goto (-26), 3) := by decide +kernel
theorem d_Kin_constructorsOf_33 : decode b_Kin_constructorsOf 33 = .ok (.iload_n 2, 1) := by decide +kernel
theorem d_Kin_constructorsOf_34 : decode b_Kin_constructorsOf 34 = .ok (.ireturn, 1) := by decide +kernel
abbrev b_Kin_pick : ByteArray := prog_5_method_11_code
def y_Kin_pick : MethodName := ⟨R_Kin, "pick", "(II)I"⟩
def ws_Kin_pick : List Cond := Cond.code y_Kin_pick b_Kin_pick 5 (some .int) :: GW
theorem hd_Kin_pick : y_Kin_pick.cls ≠ "java/lang/invoke/MethodHandle" ∧ y_Kin_pick.cls ≠ "java/lang/invoke/VarHandle" ∧ (parseMethodDescriptor y_Kin_pick.desc).map (fun d => d.parameters.length) = some 2 := by decide +kernel
theorem d_Kin_pick_0 : decode b_Kin_pick 0 = .ok (.iconst 0, 1) := by decide +kernel
theorem d_Kin_pick_1 : decode b_Kin_pick 1 = .ok (.istore_n 3, 1) := by decide +kernel
theorem d_Kin_pick_2 : decode b_Kin_pick 2 = .ok (.iconst 0, 1) := by decide +kernel
theorem d_Kin_pick_3 : decode b_Kin_pick 3 = .ok (.istore 4, 2) := by decide +kernel
theorem d_Kin_pick_5 : decode b_Kin_pick 5 = .ok (.iload 4, 2) := by decide +kernel
theorem d_Kin_pick_7 : decode b_Kin_pick 7 = .ok (.aload_n 0, 1) := by decide +kernel
theorem d_Kin_pick_8 : decode b_Kin_pick 8 = .ok (.getfield 23, 3) := by decide +kernel
theorem d_Kin_pick_11 : decode b_Kin_pick 11 = .ok (.getfield 56, 3) := by decide +kernel
theorem d_Kin_pick_14 : decode b_Kin_pick 14 = .ok (.if_icmp .ge 30, 3) := by decide +kernel
theorem d_Kin_pick_17 : decode b_Kin_pick 17 = .ok (.aload_n 0, 1) := by decide +kernel
theorem d_Kin_pick_18 : decode b_Kin_pick 18 = .ok (.iload 4, 2) := by decide +kernel
theorem d_Kin_pick_20 : decode b_Kin_pick 20 = .ok (.invokevirtual 60, 3) := by decide +kernel
theorem d_Kin_pick_23 : decode b_Kin_pick 23 = .ok (.iload_n 1, 1) := by decide +kernel
theorem d_Kin_pick_24 : decode b_Kin_pick 24 = .ok (.if_icmp .ne 14, 3) := by decide +kernel
theorem d_Kin_pick_27 : decode b_Kin_pick 27 = .ok (.iload_n 3, 1) := by decide +kernel
theorem d_Kin_pick_28 : decode b_Kin_pick 28 = .ok (.iload_n 2, 1) := by decide +kernel
theorem d_Kin_pick_29 : decode b_Kin_pick 29 = .ok (.if_icmp .ne 6, 3) := by decide +kernel
theorem d_Kin_pick_32 : decode b_Kin_pick 32 = .ok (.iload 4, 2) := by decide +kernel
theorem d_Kin_pick_34 : decode b_Kin_pick 34 = .ok (.ireturn, 1) := by decide +kernel
theorem d_Kin_pick_35 : decode b_Kin_pick 35 = .ok (.iinc 3 1, 3) := by decide +kernel
theorem d_Kin_pick_38 : decode b_Kin_pick 38 = .ok (.iinc 4 1, 3) := by decide +kernel
theorem d_Kin_pick_41 : decode b_Kin_pick 41 = .ok (.goto (-36), 3) := by decide +kernel
theorem d_Kin_pick_44 : decode b_Kin_pick 44 = .ok (.iconst (-1), 1) := by decide +kernel
theorem d_Kin_pick_45 : decode b_Kin_pick 45 = .ok (.ireturn, 1) := by decide +kernel
end
section
abbrev rm_Kin_init : Room := { frames := 2, cells := 5, slots := 903, locals := 43 }
set_option maxHeartbeats 4000000 in
set_option maxRecDepth 100000 in
theorem n_Kin_init (l : Launch) (D : va_G) (cI : ClassId) (a_this : Nat) : CtN l y_Kin_init ws_Kin_init rm_Kin_init D cI [(a_this, .inr (2, [.null, .null, .null, .int 0]))] (fun (u : Nat × Nat × Nat × Nat × Nat) => [(a_this, .inr (2, [.ref u.1, .ref u.2.1, .ref u.2.2.1, .int 1])), (u.1, .inl (cI, 100, .inl (fun _ => 0))), (u.2.1, .inl (cI, 100, .inl (fun _ => 0))), (u.2.2.1, .inr (1, [.ref u.2.2.2.1, .ref u.2.2.2.2, .int 0])), (u.2.2.2.1, .inl (cI, 100, .inl (fun _ => 0))), (u.2.2.2.2, .inl (cI, 600, .inl (fun _ => 0)))]) [.ref a_this] 5 903 := by
  refine CtN.ofW (cc := b_Kin_init) (maxL := 1) (by decide) rfl (Nat.le_of_ble_eq_true rfl) ?_
  intro p e s m args below meth c Q A hx hb hml hown hts hin hP hK hN hA hD hret ls hl
  have hS : va_S A s.heap s.heap [] := va_S.rf
  have hl : lv_has ls 1 [(0, .ref a_this)] := hl
  refine lv_aload_n hx hb d_Kin_init_0 rfl (lv_at hl 0 rfl) ?_
  refine W.objInit hx hb hown (hts _ q_19) (hts _ q_1) (hts _ q_2) rfl (by rw [hml]; exact hl.1) rfl d_Kin_init_1 (Nat.le_of_ble_eq_true rfl) (Nat.le_of_ble_eq_true rfl) ?_
  refine W.eq (g2 := F0 m 4 ls []) rfl ?_
  refine lv_aload_n hx hb d_Kin_init_4 rfl (lv_at hl 0 rfl) ?_
  refine lv_bipush (v := 100) hx hb d_Kin_init_5 (by decide) ?_
  refine va_newa (atype := .int) (ty := .int) (N' := 100) (a0 := (100, .inl (fun _ => 0))) hx hb (hts _ q_3) rfl hK hP hD hS hA (fun _ => rfl) (by decide) (by decide) (by decide) (Nat.le_of_ble_eq_true rfl) (Nat.le_of_ble_eq_true rfl) d_Kin_init_7 (fun q1 cA H hK2 hP hD hS => ?_)
  obtain rfl : cI = cA := (arr_eq hK2).symm
  have hP : va_P D vwCl [(a_this, .inr (2, [.null, .null, .null, .int 0])), (q1, .inl (cI, 100, .inl (fun _ => 0)))] H := hP
  have hD : va_D A [(a_this, .inr (2, [.null, .null, .null, .int 0])), (q1, .inl (cI, 100, .inl (fun _ => 0)))] := hD
  refine va_putF (D := D) (ci := 2) (v := .ref q1) (ty := (.array .int)) (C := R_Kin) (T := T_Kin) (N := 4) hx hb hts in_Kin ty_Kin tyok_Kin nm_Kin hown hK hP hD hS 0 rfl rfl 0 (by decide) (hts _ q_20) (fun _ h9 => h9) rfl hin rfl (by decide +kernel) rfl rfl (Nat.le_of_ble_eq_true rfl) d_Kin_init_9 (fun H locs hP hD hS => ?_)
  have hP : va_P D vwCl [(a_this, .inr (2, [.ref q1, .null, .null, .int 0])), (q1, .inl (cI, 100, .inl (fun _ => 0)))] H := hP
  have hD : va_D A [(a_this, .inr (2, [.ref q1, .null, .null, .int 0])), (q1, .inl (cI, 100, .inl (fun _ => 0)))] := hD
  refine lv_aload_n hx hb d_Kin_init_12 rfl (lv_at hl 0 rfl) ?_
  refine lv_bipush (v := 100) hx hb d_Kin_init_13 (by decide) ?_
  refine va_newa (atype := .int) (ty := .int) (N' := 100) (a0 := (100, .inl (fun _ => 0))) hx hb (hts _ q_3) rfl hK hP hD hS hA (fun _ => rfl) (by decide) (by decide) (by decide) (Nat.le_of_ble_eq_true rfl) (Nat.le_of_ble_eq_true rfl) d_Kin_init_15 (fun q2 cA H hK2 hP hD hS => ?_)
  obtain rfl : cI = cA := (arr_eq hK2).symm
  have hP : va_P D vwCl [(a_this, .inr (2, [.ref q1, .null, .null, .int 0])), (q1, .inl (cI, 100, .inl (fun _ => 0))), (q2, .inl (cI, 100, .inl (fun _ => 0)))] H := hP
  have hD : va_D A [(a_this, .inr (2, [.ref q1, .null, .null, .int 0])), (q1, .inl (cI, 100, .inl (fun _ => 0))), (q2, .inl (cI, 100, .inl (fun _ => 0)))] := hD
  refine va_putF (D := D) (ci := 2) (v := .ref q2) (ty := (.array .int)) (C := R_Kin) (T := T_Kin) (N := 4) hx hb hts in_Kin ty_Kin tyok_Kin nm_Kin hown hK hP hD hS 0 rfl rfl 1 (by decide) (hts _ q_21) (fun _ h9 => h9) rfl hin rfl (by decide +kernel) rfl rfl (Nat.le_of_ble_eq_true rfl) d_Kin_init_17 (fun H locs hP hD hS => ?_)
  have hP : va_P D vwCl [(a_this, .inr (2, [.ref q1, .ref q2, .null, .int 0])), (q1, .inl (cI, 100, .inl (fun _ => 0))), (q2, .inl (cI, 100, .inl (fun _ => 0)))] H := hP
  have hD : va_D A [(a_this, .inr (2, [.ref q1, .ref q2, .null, .int 0])), (q1, .inl (cI, 100, .inl (fun _ => 0))), (q2, .inl (cI, 100, .inl (fun _ => 0)))] := hD
  refine lv_aload_n hx hb d_Kin_init_20 rfl (lv_at hl 0 rfl) ?_
  refine va_new (ci := 1) (fs := [.null, .null, .int 0]) (C := R_Tab) (T := T_Tab) (N := 3) hx hb hts in_Tab ty_Tab tyok_Tab hown (hts _ q_22) (hts _ q_23) (hts _ q_15) hK hP hD hS hA rfl (fun j hj => by rcases (show j = 0 ∨ j = 1 ∨ j = 2 by omega) with rfl | rfl | rfl <;> rfl) (Nat.le_of_ble_eq_true rfl) (Nat.le_of_ble_eq_true rfl) d_Kin_init_21 (fun q3 H hP hD hS => ?_)
  have hP : va_P D vwCl [(a_this, .inr (2, [.ref q1, .ref q2, .null, .int 0])), (q1, .inl (cI, 100, .inl (fun _ => 0))), (q2, .inl (cI, 100, .inl (fun _ => 0))), (q3, .inr (1, [.null, .null, .int 0]))] H := hP
  have hD : va_D A [(a_this, .inr (2, [.ref q1, .ref q2, .null, .int 0])), (q1, .inl (cI, 100, .inl (fun _ => 0))), (q2, .inl (cI, 100, .inl (fun _ => 0))), (q3, .inr (1, [.null, .null, .int 0]))] := hD
  refine lv_dup hx hb d_Kin_init_24 rfl ?_
  refine lv_bipush (v := 100) hx hb d_Kin_init_25 (by decide) ?_
  refine kN (wr := [(a_this, .inr (2, [.ref q1, .ref q2, .null, .int 0])), (q1, .inl (cI, 100, .inl (fun _ => 0))), (q2, .inl (cI, 100, .inl (fun _ => 0)))]) [3] [0, 1, 2] (va_runIN (As := [.int 100]) (rest := [.ref q3, .ref a_this]) ⟨hx, hb, hml, hown, hts⟩ (n_Tab_init_100 l D cI q3 _) ⟨va_cnB (host := "KindDesk") 1 hts (good_c q_24) rfl rfl rfl (hN _ (List.mem_of_getElem? (i := 2) rfl)) (hts _ q_15) hd_Tab_init ⟨Nat.le_of_ble_eq_true rfl, Nat.le_of_ble_eq_true rfl⟩, rfl, (hts _ q_25)⟩ (preIM hP hK hN hD [3] (by decide) rfl) rfl rfl hl.1 rfl (lv_room (Nat.le_of_ble_eq_true rfl)) d_Kin_init_27 ⟨Nat.le_of_ble_eq_true rfl, Nat.le_of_ble_eq_true rfl⟩) hP hD hS hA rfl rfl (by decide) (by decide) (fun u4 H locs hP hD hS => ?_)
  obtain ⟨q5, q6⟩ := u4
  have hP : va_P D vwCl [(a_this, .inr (2, [.ref q1, .ref q2, .null, .int 0])), (q1, .inl (cI, 100, .inl (fun _ => 0))), (q2, .inl (cI, 100, .inl (fun _ => 0))), (q3, .inr (1, [.ref q5, .ref q6, .int 0])), (q5, .inl (cI, 100, .inl (fun _ => 0))), (q6, .inl (cI, 600, .inl (fun _ => 0)))] H := hP
  have hD : va_D A [(a_this, .inr (2, [.ref q1, .ref q2, .null, .int 0])), (q1, .inl (cI, 100, .inl (fun _ => 0))), (q2, .inl (cI, 100, .inl (fun _ => 0))), (q3, .inr (1, [.ref q5, .ref q6, .int 0])), (q5, .inl (cI, 100, .inl (fun _ => 0))), (q6, .inl (cI, 600, .inl (fun _ => 0)))] := hD
  refine va_putF (D := D) (ci := 2) (v := .ref q3) (ty := .object "KindDesk$Table") (C := R_Kin) (T := T_Kin) (N := 4) hx hb hts in_Kin ty_Kin tyok_Kin nm_Kin hown hK hP hD hS 0 rfl rfl 2 (by decide) (hts _ q_26) (fun _ h9 => h9) rfl hin rfl (by decide +kernel) rfl rfl (Nat.le_of_ble_eq_true rfl) d_Kin_init_30 (fun H locs hP hD hS => ?_)
  have hP : va_P D vwCl [(a_this, .inr (2, [.ref q1, .ref q2, .ref q3, .int 0])), (q1, .inl (cI, 100, .inl (fun _ => 0))), (q2, .inl (cI, 100, .inl (fun _ => 0))), (q3, .inr (1, [.ref q5, .ref q6, .int 0])), (q5, .inl (cI, 100, .inl (fun _ => 0))), (q6, .inl (cI, 600, .inl (fun _ => 0)))] H := hP
  have hD : va_D A [(a_this, .inr (2, [.ref q1, .ref q2, .ref q3, .int 0])), (q1, .inl (cI, 100, .inl (fun _ => 0))), (q2, .inl (cI, 100, .inl (fun _ => 0))), (q3, .inr (1, [.ref q5, .ref q6, .int 0])), (q5, .inl (cI, 100, .inl (fun _ => 0))), (q6, .inl (cI, 600, .inl (fun _ => 0)))] := hD
  refine lv_aload_n hx hb d_Kin_init_33 rfl (lv_at hl 0 rfl) ?_
  refine lv_iconst (v := 1) hx hb d_Kin_init_34 (by decide) ?_
  refine va_put (D := D) (ci := 2) (v := .int 1) (ty := .int) (C := R_Kin) (T := T_Kin) (N := 4) hx hb hts in_Kin ty_Kin tyok_Kin nm_Kin hown hK hP hD hS 0 rfl rfl 3 (by decide) (hts _ q_27) (fun _ h9 => h9) rfl (by decide +kernel) rfl rfl (Nat.le_of_ble_eq_true rfl) d_Kin_init_35 (fun H locs hP hD hS => ?_)
  have hP : va_P D vwCl [(a_this, .inr (2, [.ref q1, .ref q2, .ref q3, .int 1])), (q1, .inl (cI, 100, .inl (fun _ => 0))), (q2, .inl (cI, 100, .inl (fun _ => 0))), (q3, .inr (1, [.ref q5, .ref q6, .int 0])), (q5, .inl (cI, 100, .inl (fun _ => 0))), (q6, .inl (cI, 600, .inl (fun _ => 0)))] H := hP
  have hD : va_D A [(a_this, .inr (2, [.ref q1, .ref q2, .ref q3, .int 1])), (q1, .inl (cI, 100, .inl (fun _ => 0))), (q2, .inl (cI, 100, .inl (fun _ => 0))), (q3, .inr (1, [.ref q5, .ref q6, .int 0])), (q5, .inl (cI, 100, .inl (fun _ => 0))), (q6, .inl (cI, 600, .inl (fun _ => 0)))] := hD
  refine W.widen (k := 5) (n := 903) (by decide) (by decide) ?_
  exact hret (q1, q2, q3, q5, q6) _ _ _ _ hS (hP.sub [0, 1, 2, 3, 4, 5] rfl) (hD.sub [0, 1, 2, 3, 4, 5] (by decide) rfl) d_Kin_init_38
def f_Kin_addKind (v_this_size : Int32) : Option (Int32 × Int32) :=
  if v_this_size < 24 then
    some (((v_this_size + 1) - 1), (v_this_size + 1))
  else
    some ((-1), v_this_size)
abbrev rm_Kin_addKind : Room := { frames := 0, cells := 0, slots := 0, locals := 0 }
set_option maxHeartbeats 4000000 in
set_option maxRecDepth 100000 in
theorem c_Kin_addKind (l : Launch) (D : va_G) (cI : ClassId) (a_this a_this_owners a_this_names a_this_fields : Nat) (v_this_size : Int32) {r_ : Int32} {v_this_size' : Int32} (hf : f_Kin_addKind v_this_size = some (r_, v_this_size')) : CtI l y_Kin_addKind ws_Kin_addKind rm_Kin_addKind D cI [(a_this, .inr (2, [.ref a_this_owners, .ref a_this_names, .ref a_this_fields, .int v_this_size]))] [(a_this, .inr (2, [.ref a_this_owners, .ref a_this_names, .ref a_this_fields, .int v_this_size']))] [.ref a_this] .int r_ := by
  refine CtI.ofW (cc := b_Kin_addKind) (maxL := 1) (ty := .int) (by decide) rfl (Nat.le_of_ble_eq_true rfl) ?_
  intro p e s m args below meth c Q A hx hb hml hown hts hP hK hN hA hD hret ls hl
  have hS : va_S A s.heap s.heap [] := va_S.rf
  have hDL : DL A [a_this] := DL.of hD rfl
  have hl : lv_has ls 1 [(0, .ref a_this)] := hl
  unfold f_Kin_addKind at hf
  refine lv_aload_n hx hb d_Kin_addKind_0 rfl (lv_at hl 0 rfl) ?_
  refine va_get (D := D) (ci := 2) (v := .int v_this_size) (C := R_Kin) (T := T_Kin) (N := 4) hx hb hts in_Kin hown hK hP 0 rfl rfl 3 (by decide) (hts _ q_27) (fun _ h9 => h9) rfl d_Kin_addKind_1 ?_
  refine lv_bipush (v := 24) hx hb d_Kin_addKind_4 (by decide) ?_
  refine lv_icmp_lt (tgt := 11) hx hb d_Kin_addKind_6 (by decide) (fun c1 => ?_) (fun c1 => ?_)
  · replace hf := gp c1 hf
    refine lv_aload_n hx hb d_Kin_addKind_11 rfl (lv_at hl 0 rfl) ?_
    refine lv_dup hx hb d_Kin_addKind_12 rfl ?_
    refine va_get (D := D) (ci := 2) (v := .int v_this_size) (C := R_Kin) (T := T_Kin) (N := 4) hx hb hts in_Kin hown hK hP 0 rfl rfl 3 (by decide) (hts _ q_27) (fun _ h9 => h9) rfl d_Kin_addKind_13 ?_
    refine lv_iconst (v := 1) hx hb d_Kin_addKind_16 (by decide) ?_
    refine lv_iadd hx hb d_Kin_addKind_17 ?_
    refine va_put (D := D) (ci := 2) (v := .int (v_this_size + 1)) (ty := .int) (C := R_Kin) (T := T_Kin) (N := 4) hx hb hts in_Kin ty_Kin tyok_Kin nm_Kin hown hK hP (hDL _ rfl) hS 0 rfl rfl 3 (by decide) (hts _ q_27) (fun _ h9 => h9) rfl (by decide +kernel) rfl rfl (Nat.le_of_ble_eq_true rfl) d_Kin_addKind_18 (fun H locs hP _ hS => ?_)
    have hP : va_P D vwCl [(a_this, .inr (2, [.ref a_this_owners, .ref a_this_names, .ref a_this_fields, .int (v_this_size + 1)]))] H := hP
    refine lv_aload_n hx hb d_Kin_addKind_21 rfl (lv_at hl 0 rfl) ?_
    refine va_get (D := D) (ci := 2) (v := .int (v_this_size + 1)) (C := R_Kin) (T := T_Kin) (N := 4) hx hb hts in_Kin hown hK hP 0 rfl rfl 3 (by decide) (hts _ q_27) (fun _ h9 => h9) rfl d_Kin_addKind_22 ?_
    refine lv_iconst (v := 1) hx hb d_Kin_addKind_25 (by decide) ?_
    refine lv_isub hx hb d_Kin_addKind_26 ?_
    cases hf
    exact hret _ _ _ _ hS hP rfl d_Kin_addKind_27
  · replace hf := gn c1 hf
    refine lv_iconst (v := (-1)) hx hb d_Kin_addKind_9 (by decide) ?_
    cases hf
    exact hret _ _ _ _ hS hP rfl d_Kin_addKind_10
def f_Kin_count (v_this_size : Int32) : Option (Int32) :=
  some v_this_size
abbrev rm_Kin_count : Room := { frames := 0, cells := 0, slots := 0, locals := 0 }
set_option maxHeartbeats 4000000 in
set_option maxRecDepth 100000 in
theorem c_Kin_count (l : Launch) (D : va_G) (cI : ClassId) (a_this a_this_owners a_this_names a_this_fields : Nat) (v_this_size : Int32) {r_ : Int32} (hf : f_Kin_count v_this_size = some r_) : CtP l y_Kin_count ws_Kin_count rm_Kin_count D cI [(a_this, .inr (2, [.ref a_this_owners, .ref a_this_names, .ref a_this_fields, .int v_this_size]))] [.ref a_this] .int r_ := by
  refine CtP.ofW (cc := b_Kin_count) (maxL := 1) (ty := .int) (by decide) rfl (Nat.le_of_ble_eq_true rfl) ?_
  intro p e s m args below meth c Q hx hb hml hown hts hP hK hN hret ls hl
  have hl : lv_has ls 1 [(0, .ref a_this)] := hl
  unfold f_Kin_count at hf
  refine lv_aload_n hx hb d_Kin_count_0 rfl (lv_at hl 0 rfl) ?_
  refine va_get (D := D) (ci := 2) (v := .int v_this_size) (C := R_Kin) (T := T_Kin) (N := 4) hx hb hts in_Kin hown hK hP 0 rfl rfl 3 (by decide) (hts _ q_27) (fun _ h9 => h9) rfl d_Kin_count_1 ?_
  cases hf
  exact hret _ _ rfl d_Kin_count_4
def f_Kin_has (v_this_size : Int32) (x1 : Int32) : Option (Int32) :=
  if x1 < 0 then
    some 0
  else
    if v_this_size ≤ x1 then
      some 0
    else
      some 1
abbrev rm_Kin_has : Room := { frames := 0, cells := 0, slots := 0, locals := 0 }
set_option maxHeartbeats 4000000 in
set_option maxRecDepth 100000 in
theorem c_Kin_has (l : Launch) (D : va_G) (cI : ClassId) (a_this a_this_owners a_this_names a_this_fields : Nat) (v_this_size : Int32) (x1 : Int32) {r_ : Int32} (hf : f_Kin_has v_this_size x1 = some r_) : CtP l y_Kin_has ws_Kin_has rm_Kin_has D cI [(a_this, .inr (2, [.ref a_this_owners, .ref a_this_names, .ref a_this_fields, .int v_this_size]))] [.ref a_this, .int x1] .boolean r_ := by
  refine CtP.ofW (cc := b_Kin_has) (maxL := 2) (ty := .boolean) (by decide) rfl (Nat.le_of_ble_eq_true rfl) ?_
  intro p e s m args below meth c Q hx hb hml hown hts hP hK hN hret ls hl
  have hl : lv_has ls 2 [(0, .ref a_this), (1, .int x1)] := hl
  unfold f_Kin_has at hf
  refine lv_iload_n hx hb d_Kin_has_0 rfl (lv_at hl 1 rfl) ?_
  refine lv_if_lt (tgt := 16) hx hb d_Kin_has_1 (by decide) (fun c1 => ?_) (fun c1 => ?_)
  · replace hf := gp c1 hf
    refine lv_iconst (v := 0) hx hb d_Kin_has_16 (by decide) ?_
    cases hf
    exact hret _ _ rfl d_Kin_has_17
  · replace hf := gn c1 hf
    refine lv_iload_n hx hb d_Kin_has_4 rfl (lv_at hl 1 rfl) ?_
    refine lv_aload_n hx hb d_Kin_has_5 rfl (lv_at hl 0 rfl) ?_
    refine va_get (D := D) (ci := 2) (v := .int v_this_size) (C := R_Kin) (T := T_Kin) (N := 4) hx hb hts in_Kin hown hK hP 0 rfl rfl 3 (by decide) (hts _ q_27) (fun _ h9 => h9) rfl d_Kin_has_6 ?_
    refine lv_icmp_ge (tgt := 16) hx hb d_Kin_has_9 (by decide) (fun c2 => ?_) (fun c2 => ?_)
    · replace hf := gp c2 hf
      refine lv_iconst (v := 0) hx hb d_Kin_has_16 (by decide) ?_
      cases hf
      exact hret _ _ rfl d_Kin_has_17
    · replace hf := gn c2 hf
      refine lv_iconst (v := 1) hx hb d_Kin_has_12 (by decide) ?_
      refine lv_goto (tgt := 17) hx hb d_Kin_has_13 (by decide) ?_
      cases hf
      exact hret _ _ rfl d_Kin_has_17
def f_Kin_isConstructor (v_this_fields_size : Int32) (x1 : Int32) : Option (Int32) :=
  if x1 < 0 then
    some 0
  else
    if v_this_fields_size ≤ x1 then
      some 0
    else
      if 100 ≤ x1 then
        some 0
      else
        some 1
abbrev rm_Kin_isConstructor : Room := { frames := 0, cells := 0, slots := 0, locals := 0 }
set_option maxHeartbeats 4000000 in
set_option maxRecDepth 100000 in
theorem c_Kin_isConstructor (l : Launch) (D : va_G) (cI : ClassId) (a_this a_this_owners a_this_names a_this_fields a_this_fields_lengths a_this_fields_cells : Nat) (v_this_size : Int32) (v_this_fields_size : Int32) (x1 : Int32) {r_ : Int32} (hf : f_Kin_isConstructor v_this_fields_size x1 = some r_) : CtP l y_Kin_isConstructor ws_Kin_isConstructor rm_Kin_isConstructor D cI [(a_this, .inr (2, [.ref a_this_owners, .ref a_this_names, .ref a_this_fields, .int v_this_size])), (a_this_fields, .inr (1, [.ref a_this_fields_lengths, .ref a_this_fields_cells, .int v_this_fields_size]))] [.ref a_this, .int x1] .boolean r_ := by
  refine CtP.ofW (cc := b_Kin_isConstructor) (maxL := 2) (ty := .boolean) (by decide) rfl (Nat.le_of_ble_eq_true rfl) ?_
  intro p e s m args below meth c Q hx hb hml hown hts hP hK hN hret ls hl
  have hl : lv_has ls 2 [(0, .ref a_this), (1, .int x1)] := hl
  unfold f_Kin_isConstructor at hf
  refine lv_iload_n hx hb d_Kin_isConstructor_0 rfl (lv_at hl 1 rfl) ?_
  refine lv_if_lt (tgt := 25) hx hb d_Kin_isConstructor_1 (by decide) (fun c1 => ?_) (fun c1 => ?_)
  · replace hf := gp c1 hf
    refine lv_iconst (v := 0) hx hb d_Kin_isConstructor_25 (by decide) ?_
    cases hf
    exact hret _ _ rfl d_Kin_isConstructor_26
  · replace hf := gn c1 hf
    refine lv_iload_n hx hb d_Kin_isConstructor_4 rfl (lv_at hl 1 rfl) ?_
    refine lv_aload_n hx hb d_Kin_isConstructor_5 rfl (lv_at hl 0 rfl) ?_
    refine va_get (D := D) (ci := 2) (v := .ref a_this_fields) (C := R_Kin) (T := T_Kin) (N := 4) hx hb hts in_Kin hown hK hP 0 rfl rfl 2 (by decide) (hts _ q_26) (fun _ h9 => h9) rfl d_Kin_isConstructor_6 ?_
    refine va_getN (host := "KindDesk") (D := D) (ci := 1) (v := .int v_this_fields_size) (C := R_Tab) (T := T_Tab) (N := 3) hx hb hts in_Tab hown hK hP 1 rfl rfl 2 (by decide) (va_Nw.use rfl (hN _ (List.mem_of_getElem? (i := 3) rfl))) (fun _ h9 => h9) rfl d_Kin_isConstructor_9 ?_
    refine lv_icmp_ge (tgt := 25) hx hb d_Kin_isConstructor_12 (by decide) (fun c2 => ?_) (fun c2 => ?_)
    · replace hf := gp c2 hf
      refine lv_iconst (v := 0) hx hb d_Kin_isConstructor_25 (by decide) ?_
      cases hf
      exact hret _ _ rfl d_Kin_isConstructor_26
    · replace hf := gn c2 hf
      refine lv_iload_n hx hb d_Kin_isConstructor_15 rfl (lv_at hl 1 rfl) ?_
      refine lv_bipush (v := 100) hx hb d_Kin_isConstructor_16 (by decide) ?_
      refine lv_icmp_ge (tgt := 25) hx hb d_Kin_isConstructor_18 (by decide) (fun c3 => ?_) (fun c3 => ?_)
      · replace hf := gp c3 hf
        refine lv_iconst (v := 0) hx hb d_Kin_isConstructor_25 (by decide) ?_
        cases hf
        exact hret _ _ rfl d_Kin_isConstructor_26
      · replace hf := gn c3 hf
        refine lv_iconst (v := 1) hx hb d_Kin_isConstructor_21 (by decide) ?_
        refine lv_goto (tgt := 26) hx hb d_Kin_isConstructor_22 (by decide) ?_
        cases hf
        exact hret _ _ rfl d_Kin_isConstructor_26
def f_Kin_kindOf (v_this_owners : Nat → Int32) (v_this_fields_size : Int32) (x1 : Int32) : Option (Int32) :=
  (f_Kin_isConstructor v_this_fields_size x1).bind fun r2 =>
  if r2 = 0 then
    some (-1)
  else
    if inb x1 100 then
      some (v_this_owners x1.toNatClampNeg)
    else none
abbrev rm_Kin_kindOf : Room := { frames := 1, cells := 0, slots := 0, locals := 21 }
set_option maxHeartbeats 4000000 in
set_option maxRecDepth 100000 in
theorem c_Kin_kindOf (l : Launch) (D : va_G) (cI : ClassId) (a_this a_this_owners a_this_names a_this_fields a_this_fields_lengths a_this_fields_cells : Nat) (v_this_size : Int32) (v_this_owners : Nat → Int32) (v_this_fields_size : Int32) (x1 : Int32) {r_ : Int32} (hf : f_Kin_kindOf v_this_owners v_this_fields_size x1 = some r_) : CtP l y_Kin_kindOf ws_Kin_kindOf rm_Kin_kindOf D cI [(a_this, .inr (2, [.ref a_this_owners, .ref a_this_names, .ref a_this_fields, .int v_this_size])), (a_this_owners, .inl (cI, 100, .inl v_this_owners)), (a_this_fields, .inr (1, [.ref a_this_fields_lengths, .ref a_this_fields_cells, .int v_this_fields_size]))] [.ref a_this, .int x1] .int r_ := by
  refine CtP.ofW (cc := b_Kin_kindOf) (maxL := 2) (ty := .int) (by decide) rfl (Nat.le_of_ble_eq_true rfl) ?_
  intro p e s m args below meth c Q hx hb hml hown hts hP hK hN hret ls hl
  have hl : lv_has ls 2 [(0, .ref a_this), (1, .int x1)] := hl
  unfold f_Kin_kindOf at hf
  refine lv_aload_n hx hb d_Kin_kindOf_0 rfl (lv_at hl 0 rfl) ?_
  refine lv_iload_n hx hb d_Kin_kindOf_1 rfl (lv_at hl 1 rfl) ?_
  obtain ⟨r2, hc1, hf⟩ := gb hf
  refine kP (va_runV (C := R_Kin) (As := [.int x1]) (rest := []) ⟨hx, hb, hml, hown, hts⟩ (c_Kin_isConstructor l D cI a_this a_this_owners a_this_names a_this_fields a_this_fields_lengths a_this_fields_cells v_this_size v_this_fields_size x1 hc1) ⟨callB_of 1 hts (good_c q_28) rfl rfl rfl (hts _ q_29) (hts _ q_30) hd_Kin_isConstructor ⟨Nat.le_of_ble_eq_true rfl, Nat.le_of_ble_eq_true rfl⟩, (hts _ q_31), (hts _ q_32)⟩ (preVP hP hK hN [0, 2] rfl rfl rfl) rfl rfl hl.1 rfl (lv_room (Nat.le_of_ble_eq_true rfl)) d_Kin_kindOf_2 ⟨Nat.zero_le _, Nat.zero_le _⟩) (fun hz3 => ?_)
  refine lv_if_eq (tgt := 17) hx hb d_Kin_kindOf_5 (by decide) (fun c4 => ?_) (fun c4 => ?_)
  · replace hf := gp c4 hf
    refine lv_iconst (v := (-1)) hx hb d_Kin_kindOf_17 (by decide) ?_
    cases hf
    exact hret _ _ rfl d_Kin_kindOf_18
  · replace hf := gn c4 hf
    refine lv_aload_n hx hb d_Kin_kindOf_8 rfl (lv_at hl 0 rfl) ?_
    refine va_get (D := D) (ci := 2) (v := .ref a_this_owners) (C := R_Kin) (T := T_Kin) (N := 4) hx hb hts in_Kin hown hK hP 0 rfl rfl 0 (by decide) (hts _ q_20) (fun _ h9 => h9) rfl d_Kin_kindOf_9 ?_
    refine lv_iload_n hx hb d_Kin_kindOf_12 rfl (lv_at hl 1 rfl) ?_
    obtain ⟨hi5, hf⟩ := gd hf
    refine va_iald hx hb hK hP 1 0 rfl rfl hi5 d_Kin_kindOf_13 ?_
    refine lv_goto (tgt := 18) hx hb d_Kin_kindOf_14 (by decide) ?_
    cases hf
    exact hret _ _ rfl d_Kin_kindOf_18
def f_Kin_nameOf (v_this_names : Nat → Int32) (v_this_fields_size : Int32) (x1 : Int32) : Option (Int32) :=
  (f_Kin_isConstructor v_this_fields_size x1).bind fun r2 =>
  if r2 = 0 then
    some (-1)
  else
    if inb x1 100 then
      some (v_this_names x1.toNatClampNeg)
    else none
abbrev rm_Kin_nameOf : Room := { frames := 1, cells := 0, slots := 0, locals := 21 }
set_option maxHeartbeats 4000000 in
set_option maxRecDepth 100000 in
theorem c_Kin_nameOf (l : Launch) (D : va_G) (cI : ClassId) (a_this a_this_owners a_this_names a_this_fields a_this_fields_lengths a_this_fields_cells : Nat) (v_this_size : Int32) (v_this_names : Nat → Int32) (v_this_fields_size : Int32) (x1 : Int32) {r_ : Int32} (hf : f_Kin_nameOf v_this_names v_this_fields_size x1 = some r_) : CtP l y_Kin_nameOf ws_Kin_nameOf rm_Kin_nameOf D cI [(a_this, .inr (2, [.ref a_this_owners, .ref a_this_names, .ref a_this_fields, .int v_this_size])), (a_this_names, .inl (cI, 100, .inl v_this_names)), (a_this_fields, .inr (1, [.ref a_this_fields_lengths, .ref a_this_fields_cells, .int v_this_fields_size]))] [.ref a_this, .int x1] .int r_ := by
  refine CtP.ofW (cc := b_Kin_nameOf) (maxL := 2) (ty := .int) (by decide) rfl (Nat.le_of_ble_eq_true rfl) ?_
  intro p e s m args below meth c Q hx hb hml hown hts hP hK hN hret ls hl
  have hl : lv_has ls 2 [(0, .ref a_this), (1, .int x1)] := hl
  unfold f_Kin_nameOf at hf
  refine lv_aload_n hx hb d_Kin_nameOf_0 rfl (lv_at hl 0 rfl) ?_
  refine lv_iload_n hx hb d_Kin_nameOf_1 rfl (lv_at hl 1 rfl) ?_
  obtain ⟨r2, hc1, hf⟩ := gb hf
  refine kP (va_runV (C := R_Kin) (As := [.int x1]) (rest := []) ⟨hx, hb, hml, hown, hts⟩ (c_Kin_isConstructor l D cI a_this a_this_owners a_this_names a_this_fields a_this_fields_lengths a_this_fields_cells v_this_size v_this_fields_size x1 hc1) ⟨callB_of 1 hts (good_c q_28) rfl rfl rfl (hts _ q_29) (hts _ q_30) hd_Kin_isConstructor ⟨Nat.le_of_ble_eq_true rfl, Nat.le_of_ble_eq_true rfl⟩, (hts _ q_31), (hts _ q_32)⟩ (preVP hP hK hN [0, 2] rfl rfl rfl) rfl rfl hl.1 rfl (lv_room (Nat.le_of_ble_eq_true rfl)) d_Kin_nameOf_2 ⟨Nat.zero_le _, Nat.zero_le _⟩) (fun hz3 => ?_)
  refine lv_if_eq (tgt := 17) hx hb d_Kin_nameOf_5 (by decide) (fun c4 => ?_) (fun c4 => ?_)
  · replace hf := gp c4 hf
    refine lv_iconst (v := (-1)) hx hb d_Kin_nameOf_17 (by decide) ?_
    cases hf
    exact hret _ _ rfl d_Kin_nameOf_18
  · replace hf := gn c4 hf
    refine lv_aload_n hx hb d_Kin_nameOf_8 rfl (lv_at hl 0 rfl) ?_
    refine va_get (D := D) (ci := 2) (v := .ref a_this_names) (C := R_Kin) (T := T_Kin) (N := 4) hx hb hts in_Kin hown hK hP 0 rfl rfl 1 (by decide) (hts _ q_21) (fun _ h9 => h9) rfl d_Kin_nameOf_9 ?_
    refine lv_iload_n hx hb d_Kin_nameOf_12 rfl (lv_at hl 1 rfl) ?_
    obtain ⟨hi5, hf⟩ := gd hf
    refine va_iald hx hb hK hP 1 0 rfl rfl hi5 d_Kin_nameOf_13 ?_
    refine lv_goto (tgt := 18) hx hb d_Kin_nameOf_14 (by decide) ?_
    cases hf
    exact hret _ _ rfl d_Kin_nameOf_18
def f_Kin_search_L3 (v_this_owners : Nat → Int32) (v_this_names : Nat → Int32) (v_this_fields_size : Int32) (v_this_fields_lengths : Nat → Int32) (x1 : Int32) (x2 : Int32) (x3 : Int32) (k : Int32 → Option (Int32)) : Nat → Int32 → Option (Int32)
  | 0, _ => none
  | n + 1, y4_3 =>
    if v_this_fields_size ≤ y4_3 then
      k y4_3
    else
      (f_Kin_kindOf v_this_owners v_this_fields_size y4_3).bind fun r3 =>
      if r3 = x1 then
        (f_Kin_nameOf v_this_names v_this_fields_size y4_3).bind fun r7 =>
        if r7 = x2 then
          (f_Tab_length 100 v_this_fields_size v_this_fields_lengths y4_3).bind fun r11 =>
          if r11 = x3 then
            some y4_3
          else
            f_Kin_search_L3 v_this_owners v_this_names v_this_fields_size v_this_fields_lengths x1 x2 x3 k n (y4_3 + 1)
        else
          f_Kin_search_L3 v_this_owners v_this_names v_this_fields_size v_this_fields_lengths x1 x2 x3 k n (y4_3 + 1)
      else
        f_Kin_search_L3 v_this_owners v_this_names v_this_fields_size v_this_fields_lengths x1 x2 x3 k n (y4_3 + 1)
def f_Kin_search (v_this_owners : Nat → Int32) (v_this_names : Nat → Int32) (v_this_fields_size : Int32) (v_this_fields_lengths : Nat → Int32) (x1 : Int32) (x2 : Int32) (x3 : Int32) : Option (Int32) :=
  f_Kin_search_L3 v_this_owners v_this_names v_this_fields_size v_this_fields_lengths x1 x2 x3 (fun y4_3 =>
    some (-1)) FU 0
abbrev rm_Kin_search : Room := { frames := 2, cells := 0, slots := 0, locals := 42 }
set_option maxHeartbeats 4000000 in
set_option maxRecDepth 100000 in
theorem c_Kin_search (l : Launch) (D : va_G) (cI : ClassId) (a_this a_this_owners a_this_names a_this_fields a_this_fields_lengths a_this_fields_cells : Nat) (v_this_size : Int32) (v_this_owners : Nat → Int32) (v_this_names : Nat → Int32) (v_this_fields_size : Int32) (v_this_fields_lengths : Nat → Int32) (x1 x2 x3 : Int32) {r_ : Int32} (hf : f_Kin_search v_this_owners v_this_names v_this_fields_size v_this_fields_lengths x1 x2 x3 = some r_) : CtP l y_Kin_search ws_Kin_search rm_Kin_search D cI [(a_this, .inr (2, [.ref a_this_owners, .ref a_this_names, .ref a_this_fields, .int v_this_size])), (a_this_owners, .inl (cI, 100, .inl v_this_owners)), (a_this_names, .inl (cI, 100, .inl v_this_names)), (a_this_fields, .inr (1, [.ref a_this_fields_lengths, .ref a_this_fields_cells, .int v_this_fields_size])), (a_this_fields_lengths, .inl (cI, 100, .inl v_this_fields_lengths))] [.ref a_this, .int x1, .int x2, .int x3] .int r_ := by
  refine CtP.ofW (cc := b_Kin_search) (maxL := 5) (ty := .int) (by decide) rfl (Nat.le_of_ble_eq_true rfl) ?_
  intro p e s m args below meth c Q hx hb hml hown hts hP hK hN hret ls hl
  have hl : lv_has ls 5 [(0, .ref a_this), (1, .int x1), (2, .int x2), (3, .int x3)] := hl
  unfold f_Kin_search at hf
  refine lv_iconst (v := 0) hx hb d_Kin_search_0 (by decide) ?_
  refine lv_istore (lv' := [(4, .int 0), (0, .ref a_this), (1, .int x1), (2, .int x2), (3, .int x3)]) hx hb d_Kin_search_1 hl (by decide) rfl (fun ls hl => ?_)
  have lp3 : ∀ (kk : Int32 → Option (Int32)), (∀ (y4_3 : Int32) (ls : Array Slot), lv_has ls 5 [(4, .int y4_3), (0, .ref a_this), (1, .int x1), (2, .int x2), (3, .int x3)] → kk y4_3 = some r_ → W p l e rm_Kin_search s m args below meth c s.heap [] 0 0 Q (F0 m 57 ls [])) → ∀ (n : Nat) (y4_3 : Int32) (ls : Array Slot), lv_has ls 5 [(4, .int y4_3), (0, .ref a_this), (1, .int x1), (2, .int x2), (3, .int x3)] → f_Kin_search_L3 v_this_owners v_this_names v_this_fields_size v_this_fields_lengths x1 x2 x3 kk n y4_3 = some r_ → W p l e rm_Kin_search s m args below meth c s.heap [] 0 0 Q (F0 m 3 ls []) := by
    intro kk hk3 n
    induction n with
    | zero =>
      intro y4_3 ls hl hf
      rw [f_Kin_search_L3] at hf
      cases hf
    | succ n ih3 =>
      intro y4_3 ls hl hf
      rw [f_Kin_search_L3] at hf
      refine lv_iload hx hb d_Kin_search_3 (lv_at hl 0 rfl) ?_
      refine lv_aload_n hx hb d_Kin_search_5 rfl (lv_at hl 1 rfl) ?_
      refine va_get (D := D) (ci := 2) (v := .ref a_this_fields) (C := R_Kin) (T := T_Kin) (N := 4) hx hb hts in_Kin hown hK hP 0 rfl rfl 2 (by decide) (hts _ q_26) (fun _ h9 => h9) rfl d_Kin_search_6 ?_
      refine va_getN (host := "KindDesk") (D := D) (ci := 1) (v := .int v_this_fields_size) (C := R_Tab) (T := T_Tab) (N := 3) hx hb hts in_Tab hown hK hP 3 rfl rfl 2 (by decide) (va_Nw.use rfl (hN _ (List.mem_of_getElem? (i := 3) rfl))) (fun _ h9 => h9) rfl d_Kin_search_9 ?_
      refine lv_icmp_ge (tgt := 57) hx hb d_Kin_search_12 (by decide) (fun c1 => ?_) (fun c1 => ?_)
      · replace hf := gp c1 hf
        exact hk3 y4_3 _ (lv_sub hl [0, 1, 2, 3, 4] rfl) hf
      · replace hf := gn c1 hf
        refine lv_aload_n hx hb d_Kin_search_15 rfl (lv_at hl 1 rfl) ?_
        refine lv_iload hx hb d_Kin_search_16 (lv_at hl 0 rfl) ?_
        obtain ⟨r3, hc2, hf⟩ := gb hf
        refine kP (va_runV (C := R_Kin) (As := [.int y4_3]) (rest := []) ⟨hx, hb, hml, hown, hts⟩ (c_Kin_kindOf l D cI a_this a_this_owners a_this_names a_this_fields a_this_fields_lengths a_this_fields_cells v_this_size v_this_owners v_this_fields_size y4_3 hc2) ⟨callB_of 1 hts (good_c q_33) rfl rfl rfl (hts _ q_29) (hts _ q_34) hd_Kin_kindOf ⟨Nat.le_of_ble_eq_true rfl, Nat.le_of_ble_eq_true rfl⟩, (hts _ q_35), (hts _ q_36)⟩ (preVP hP hK hN [0, 1, 3] rfl rfl rfl) rfl rfl hl.1 rfl (lv_room (Nat.le_of_ble_eq_true rfl)) d_Kin_search_18 ⟨Nat.zero_le _, Nat.zero_le _⟩) (fun hz4 => ?_)
        refine lv_iload_n hx hb d_Kin_search_21 rfl (lv_at hl 2 rfl) ?_
        refine lv_icmp_ne (tgt := 51) hx hb d_Kin_search_22 (by decide) (fun c5 => ?_) (fun c5 => ?_)
        · replace hf := gn c5 hf
          refine lv_iinc (v := (y4_3 + 1)) (lv' := [(4, .int (y4_3 + 1)), (0, .ref a_this), (1, .int x1), (2, .int x2), (3, .int x3)]) hx hb d_Kin_search_51 hl (k := 0) rfl rfl (by decide) rfl (fun ls hl => ?_)
          refine lv_goto (tgt := 3) hx hb d_Kin_search_54 (by decide) ?_
          exact ih3 (y4_3 + 1) _ (lv_sub hl [0, 1, 2, 3, 4] rfl) hf
        · replace hf := gp c5 hf
          refine lv_aload_n hx hb d_Kin_search_25 rfl (lv_at hl 1 rfl) ?_
          refine lv_iload hx hb d_Kin_search_26 (lv_at hl 0 rfl) ?_
          obtain ⟨r7, hc6, hf⟩ := gb hf
          refine kP (va_runV (C := R_Kin) (As := [.int y4_3]) (rest := []) ⟨hx, hb, hml, hown, hts⟩ (c_Kin_nameOf l D cI a_this a_this_owners a_this_names a_this_fields a_this_fields_lengths a_this_fields_cells v_this_size v_this_names v_this_fields_size y4_3 hc6) ⟨callB_of 1 hts (good_c q_37) rfl rfl rfl (hts _ q_29) (hts _ q_38) hd_Kin_nameOf ⟨Nat.le_of_ble_eq_true rfl, Nat.le_of_ble_eq_true rfl⟩, (hts _ q_39), (hts _ q_40)⟩ (preVP hP hK hN [0, 2, 3] rfl rfl rfl) rfl rfl hl.1 rfl (lv_room (Nat.le_of_ble_eq_true rfl)) d_Kin_search_28 ⟨Nat.zero_le _, Nat.zero_le _⟩) (fun hz8 => ?_)
          refine lv_iload_n hx hb d_Kin_search_31 rfl (lv_at hl 3 rfl) ?_
          refine lv_icmp_ne (tgt := 51) hx hb d_Kin_search_32 (by decide) (fun c9 => ?_) (fun c9 => ?_)
          · replace hf := gn c9 hf
            refine lv_iinc (v := (y4_3 + 1)) (lv' := [(4, .int (y4_3 + 1)), (0, .ref a_this), (1, .int x1), (2, .int x2), (3, .int x3)]) hx hb d_Kin_search_51 hl (k := 0) rfl rfl (by decide) rfl (fun ls hl => ?_)
            refine lv_goto (tgt := 3) hx hb d_Kin_search_54 (by decide) ?_
            exact ih3 (y4_3 + 1) _ (lv_sub hl [0, 1, 2, 3, 4] rfl) hf
          · replace hf := gp c9 hf
            refine lv_aload_n hx hb d_Kin_search_35 rfl (lv_at hl 1 rfl) ?_
            refine va_get (D := D) (ci := 2) (v := .ref a_this_fields) (C := R_Kin) (T := T_Kin) (N := 4) hx hb hts in_Kin hown hK hP 0 rfl rfl 2 (by decide) (hts _ q_26) (fun _ h9 => h9) rfl d_Kin_search_36 ?_
            refine lv_iload hx hb d_Kin_search_39 (lv_at hl 0 rfl) ?_
            obtain ⟨r11, hc10, hf⟩ := gb hf
            refine kP (va_runVN (C := R_Tab) (As := [.int y4_3]) (rest := []) ⟨hx, hb, hml, hown, hts⟩ (c_Tab_length l D cI a_this_fields a_this_fields_lengths a_this_fields_cells 100 v_this_fields_size v_this_fields_lengths y4_3 hc10) ⟨va_cnB (host := "KindDesk") 1 hts (good_c q_41) rfl rfl rfl (hN _ (List.mem_of_getElem? (i := 4) rfl)) (hts _ q_15) hd_Tab_length ⟨Nat.le_of_ble_eq_true rfl, Nat.le_of_ble_eq_true rfl⟩, (hts _ q_42), (hts _ q_43)⟩ (preVP hP hK hN [3, 4] rfl rfl rfl) rfl rfl hl.1 rfl (lv_room (Nat.le_of_ble_eq_true rfl)) d_Kin_search_41 ⟨Nat.zero_le _, Nat.zero_le _⟩) (fun hz12 => ?_)
            refine lv_iload_n hx hb d_Kin_search_44 rfl (lv_at hl 4 rfl) ?_
            refine lv_icmp_ne (tgt := 51) hx hb d_Kin_search_45 (by decide) (fun c13 => ?_) (fun c13 => ?_)
            · replace hf := gn c13 hf
              refine lv_iinc (v := (y4_3 + 1)) (lv' := [(4, .int (y4_3 + 1)), (0, .ref a_this), (1, .int x1), (2, .int x2), (3, .int x3)]) hx hb d_Kin_search_51 hl (k := 0) rfl rfl (by decide) rfl (fun ls hl => ?_)
              refine lv_goto (tgt := 3) hx hb d_Kin_search_54 (by decide) ?_
              exact ih3 (y4_3 + 1) _ (lv_sub hl [0, 1, 2, 3, 4] rfl) hf
            · replace hf := gp c13 hf
              refine lv_iload hx hb d_Kin_search_48 (lv_at hl 0 rfl) ?_
              cases hf
              exact hret _ _ rfl d_Kin_search_50
  refine lp3 _ (fun y4_3 ls hl hf => ?_) FU 0 _ (lv_sub hl [0, 1, 2, 3, 4] rfl) hf
  refine lv_iconst (v := (-1)) hx hb d_Kin_search_57 (by decide) ?_
  cases hf
  exact hret _ _ rfl d_Kin_search_58
def f_Kin_takes (v_this_size : Int32) (v_this_owners : Nat → Int32) (v_this_names : Nat → Int32) (v_this_fields_size : Int32) (v_this_fields_lengths : Nat → Int32) (v_p3_size : Int32) (v_p3_numbers : Nat → Int32) (x1 : Int32) (x2 : Int32) : Option (Int32) :=
  if x1 = 0 then
    some 0
  else
    (f_Kin_has v_this_size x1).bind fun r3 =>
    if r3 = 0 then
      some 0
    else
      (f_Desk_isName x2).bind fun r7 =>
      if r7 = 0 then
        some 0
      else
        if 4 < v_p3_size then
          some 0
        else
          (f_Row_isBelow v_p3_size v_p3_numbers v_this_size).bind fun r12 =>
          if r12 = 0 then
            some 0
          else
            (f_Kin_search v_this_owners v_this_names v_this_fields_size v_this_fields_lengths x1 x2 v_p3_size).bind fun r16 =>
            if r16 = (-1) then
              some 1
            else
              some 0
abbrev rm_Kin_takes : Room := { frames := 3, cells := 0, slots := 0, locals := 66 }
set_option maxHeartbeats 4000000 in
set_option maxRecDepth 100000 in
theorem c_Kin_takes (l : Launch) (D : va_G) (cI : ClassId) (a_this a_this_owners a_this_names a_this_fields a_this_fields_lengths a_this_fields_cells a_p3 a_p3_numbers : Nat) (v_this_size : Int32) (v_this_owners : Nat → Int32) (v_this_names : Nat → Int32) (v_this_fields_size : Int32) (v_this_fields_lengths : Nat → Int32) (v_p3_size : Int32) (v_p3_numbers : Nat → Int32) (x1 x2 : Int32) {r_ : Int32} (hf : f_Kin_takes v_this_size v_this_owners v_this_names v_this_fields_size v_this_fields_lengths v_p3_size v_p3_numbers x1 x2 = some r_) : CtP l y_Kin_takes ws_Kin_takes rm_Kin_takes D cI [(a_this, .inr (2, [.ref a_this_owners, .ref a_this_names, .ref a_this_fields, .int v_this_size])), (a_this_owners, .inl (cI, 100, .inl v_this_owners)), (a_this_names, .inl (cI, 100, .inl v_this_names)), (a_this_fields, .inr (1, [.ref a_this_fields_lengths, .ref a_this_fields_cells, .int v_this_fields_size])), (a_this_fields_lengths, .inl (cI, 100, .inl v_this_fields_lengths)), (a_p3, .inr (0, [.ref a_p3_numbers, .int v_p3_size])), (a_p3_numbers, .inl (cI, 6, .inl v_p3_numbers))] [.ref a_this, .int x1, .int x2, .ref a_p3] .boolean r_ := by
  refine CtP.ofW (cc := b_Kin_takes) (maxL := 4) (ty := .boolean) (by decide) rfl (Nat.le_of_ble_eq_true rfl) ?_
  intro p e s m args below meth c Q hx hb hml hown hts hP hK hN hret ls hl
  have hl : lv_has ls 4 [(0, .ref a_this), (1, .int x1), (2, .int x2), (3, .ref a_p3)] := hl
  unfold f_Kin_takes at hf
  refine lv_iload_n hx hb d_Kin_takes_0 rfl (lv_at hl 1 rfl) ?_
  refine lv_if_eq (tgt := 56) hx hb d_Kin_takes_1 (by decide) (fun c1 => ?_) (fun c1 => ?_)
  · replace hf := gp c1 hf
    refine lv_iconst (v := 0) hx hb d_Kin_takes_56 (by decide) ?_
    cases hf
    exact hret _ _ rfl d_Kin_takes_57
  · replace hf := gn c1 hf
    refine lv_aload_n hx hb d_Kin_takes_4 rfl (lv_at hl 0 rfl) ?_
    refine lv_iload_n hx hb d_Kin_takes_5 rfl (lv_at hl 1 rfl) ?_
    obtain ⟨r3, hc2, hf⟩ := gb hf
    refine kP (va_runV (C := R_Kin) (As := [.int x1]) (rest := []) ⟨hx, hb, hml, hown, hts⟩ (c_Kin_has l D cI a_this a_this_owners a_this_names a_this_fields v_this_size x1 hc2) ⟨callB_of 1 hts (good_c q_44) rfl rfl rfl (hts _ q_29) (hts _ q_45) hd_Kin_has ⟨Nat.le_of_ble_eq_true rfl, Nat.le_of_ble_eq_true rfl⟩, (hts _ q_46), (hts _ q_47)⟩ (preVP hP hK hN [0] rfl rfl rfl) rfl rfl hl.1 rfl (lv_room (Nat.le_of_ble_eq_true rfl)) d_Kin_takes_6 ⟨Nat.zero_le _, Nat.zero_le _⟩) (fun hz4 => ?_)
    refine lv_if_eq (tgt := 56) hx hb d_Kin_takes_9 (by decide) (fun c5 => ?_) (fun c5 => ?_)
    · replace hf := gp c5 hf
      refine lv_iconst (v := 0) hx hb d_Kin_takes_56 (by decide) ?_
      cases hf
      exact hret _ _ rfl d_Kin_takes_57
    · replace hf := gn c5 hf
      refine lv_iload_n hx hb d_Kin_takes_12 rfl (lv_at hl 2 rfl) ?_
      obtain ⟨r7, hc6, hf⟩ := gb hf
      refine kP (va_runSN (As := [.int x2]) (rest := []) ⟨hx, hb, hml, hown, hts⟩ (c_Desk_isName l D cI x2 hc6) ⟨va_cnB (host := "KindDesk") 1 hts (good_c q_48) rfl rfl rfl (hN _ (List.mem_of_getElem? (i := 5) rfl)) (hts _ q_49) hd_Desk_isName ⟨Nat.le_of_ble_eq_true rfl, Nat.le_of_ble_eq_true rfl⟩, (hts _ q_50), trivial⟩ (preSP hP hK hN [] rfl) rfl rfl hl.1 rfl (lv_room (Nat.le_of_ble_eq_true rfl)) d_Kin_takes_13 ⟨Nat.zero_le _, Nat.zero_le _⟩) (fun hz8 => ?_)
      refine lv_if_eq (tgt := 56) hx hb d_Kin_takes_16 (by decide) (fun c9 => ?_) (fun c9 => ?_)
      · replace hf := gp c9 hf
        refine lv_iconst (v := 0) hx hb d_Kin_takes_56 (by decide) ?_
        cases hf
        exact hret _ _ rfl d_Kin_takes_57
      · replace hf := gn c9 hf
        refine lv_aload_n hx hb d_Kin_takes_19 rfl (lv_at hl 3 rfl) ?_
        refine va_getN (host := "KindDesk") (D := D) (ci := 0) (v := .int v_p3_size) (C := R_Row) (T := T_Row) (N := 2) hx hb hts in_Row hown hK hP 5 rfl rfl 1 (by decide) (va_Nw.use rfl (hN _ (List.mem_of_getElem? (i := 6) rfl))) (fun _ h9 => h9) rfl d_Kin_takes_20 ?_
        refine lv_iconst (v := 4) hx hb d_Kin_takes_23 (by decide) ?_
        refine lv_icmp_gt (tgt := 56) hx hb d_Kin_takes_24 (by decide) (fun c10 => ?_) (fun c10 => ?_)
        · replace hf := gp c10 hf
          refine lv_iconst (v := 0) hx hb d_Kin_takes_56 (by decide) ?_
          cases hf
          exact hret _ _ rfl d_Kin_takes_57
        · replace hf := gn c10 hf
          refine lv_aload_n hx hb d_Kin_takes_27 rfl (lv_at hl 3 rfl) ?_
          refine lv_aload_n hx hb d_Kin_takes_28 rfl (lv_at hl 0 rfl) ?_
          refine va_get (D := D) (ci := 2) (v := .int v_this_size) (C := R_Kin) (T := T_Kin) (N := 4) hx hb hts in_Kin hown hK hP 0 rfl rfl 3 (by decide) (hts _ q_27) (fun _ h9 => h9) rfl d_Kin_takes_29 ?_
          obtain ⟨r12, hc11, hf⟩ := gb hf
          refine kP (va_runVN (C := R_Row) (As := [.int v_this_size]) (rest := []) ⟨hx, hb, hml, hown, hts⟩ (c_Row_isBelow l D cI a_p3 a_p3_numbers v_p3_size v_p3_numbers v_this_size hc11) ⟨va_cnB (host := "KindDesk") 1 hts (good_c q_51) rfl rfl rfl (hN _ (List.mem_of_getElem? (i := 7) rfl)) (hts _ q_52) hd_Row_isBelow ⟨Nat.le_of_ble_eq_true rfl, Nat.le_of_ble_eq_true rfl⟩, (hts _ q_53), (hts _ q_54)⟩ (preVP hP hK hN [5, 6] rfl rfl rfl) rfl rfl hl.1 rfl (lv_room (Nat.le_of_ble_eq_true rfl)) d_Kin_takes_32 ⟨Nat.zero_le _, Nat.zero_le _⟩) (fun hz13 => ?_)
          refine lv_if_eq (tgt := 56) hx hb d_Kin_takes_35 (by decide) (fun c14 => ?_) (fun c14 => ?_)
          · replace hf := gp c14 hf
            refine lv_iconst (v := 0) hx hb d_Kin_takes_56 (by decide) ?_
            cases hf
            exact hret _ _ rfl d_Kin_takes_57
          · replace hf := gn c14 hf
            refine lv_aload_n hx hb d_Kin_takes_38 rfl (lv_at hl 0 rfl) ?_
            refine lv_iload_n hx hb d_Kin_takes_39 rfl (lv_at hl 1 rfl) ?_
            refine lv_iload_n hx hb d_Kin_takes_40 rfl (lv_at hl 2 rfl) ?_
            refine lv_aload_n hx hb d_Kin_takes_41 rfl (lv_at hl 3 rfl) ?_
            refine va_getN (host := "KindDesk") (D := D) (ci := 0) (v := .int v_p3_size) (C := R_Row) (T := T_Row) (N := 2) hx hb hts in_Row hown hK hP 5 rfl rfl 1 (by decide) (va_Nw.use rfl (hN _ (List.mem_of_getElem? (i := 6) rfl))) (fun _ h9 => h9) rfl d_Kin_takes_42 ?_
            obtain ⟨r16, hc15, hf⟩ := gb hf
            refine kP (va_runV (C := R_Kin) (As := [.int x1, .int x2, .int v_p3_size]) (rest := []) ⟨hx, hb, hml, hown, hts⟩ (c_Kin_search l D cI a_this a_this_owners a_this_names a_this_fields a_this_fields_lengths a_this_fields_cells v_this_size v_this_owners v_this_names v_this_fields_size v_this_fields_lengths x1 x2 v_p3_size hc15) ⟨callB_of 3 hts (good_c q_55) rfl rfl rfl (hts _ q_29) (hts _ q_56) hd_Kin_search ⟨Nat.le_of_ble_eq_true rfl, Nat.le_of_ble_eq_true rfl⟩, (hts _ q_57), (hts _ q_58)⟩ (preVP hP hK hN [0, 1, 2, 3, 4] rfl rfl rfl) rfl rfl hl.1 rfl (lv_room (Nat.le_of_ble_eq_true rfl)) d_Kin_takes_45 ⟨Nat.zero_le _, Nat.zero_le _⟩) (fun hz17 => ?_)
            refine lv_iconst (v := (-1)) hx hb d_Kin_takes_48 (by decide) ?_
            refine lv_icmp_ne (tgt := 56) hx hb d_Kin_takes_49 (by decide) (fun c18 => ?_) (fun c18 => ?_)
            · replace hf := gn c18 hf
              refine lv_iconst (v := 0) hx hb d_Kin_takes_56 (by decide) ?_
              cases hf
              exact hret _ _ rfl d_Kin_takes_57
            · replace hf := gp c18 hf
              refine lv_iconst (v := 1) hx hb d_Kin_takes_52 (by decide) ?_
              refine lv_goto (tgt := 57) hx hb d_Kin_takes_53 (by decide) ?_
              cases hf
              exact hret _ _ rfl d_Kin_takes_57
def f_Kin_addConstructor (v_this_owners : Nat → Int32) (v_this_names : Nat → Int32) (v_this_fields_size : Int32) (v_this_fields_lengths : Nat → Int32) (v_this_fields_cells : Nat → Int32) (v_p3_size : Int32) (v_p3_numbers : Nat → Int32) (x1 : Int32) (x2 : Int32) : Option (Int32 × (Nat → Int32) × (Nat → Int32) × Int32 × (Nat → Int32) × (Nat → Int32)) :=
  (f_Tab_open 100 v_this_fields_size v_this_fields_lengths).bind fun (r2, u_3, u_4) =>
  if r2 < 0 then
    some ((-1), v_this_owners, v_this_names, u_3, u_4, v_this_fields_cells)
  else
    if r2 < 100 then
      if inb r2 100 then
        if inb r2 100 then
          (f_Tab_appendAll 100 600 u_3 u_4 v_this_fields_cells v_p3_size v_p3_numbers).bind fun (u_11, u_12) =>
          some (r2, (upd v_this_owners r2.toNatClampNeg x1), (upd v_this_names r2.toNatClampNeg x2), u_3, u_11, u_12)
        else none
      else none
    else
      some ((-1), v_this_owners, v_this_names, u_3, u_4, v_this_fields_cells)
abbrev rm_Kin_addConstructor : Room := { frames := 2, cells := 0, slots := 0, locals := 44 }
set_option maxHeartbeats 4000000 in
set_option maxRecDepth 100000 in
theorem c_Kin_addConstructor (l : Launch) (D : va_G) (cI : ClassId) (a_this a_this_owners a_this_names a_this_fields a_this_fields_lengths a_this_fields_cells a_p3 a_p3_numbers : Nat) (v_this_size : Int32) (v_this_owners : Nat → Int32) (v_this_names : Nat → Int32) (v_this_fields_size : Int32) (v_this_fields_lengths : Nat → Int32) (v_this_fields_cells : Nat → Int32) (v_p3_size : Int32) (v_p3_numbers : Nat → Int32) (x1 x2 : Int32) {r_ : Int32} {v_this_owners' : Nat → Int32} {v_this_names' : Nat → Int32} {v_this_fields_size' : Int32} {v_this_fields_lengths' : Nat → Int32} {v_this_fields_cells' : Nat → Int32} (hf : f_Kin_addConstructor v_this_owners v_this_names v_this_fields_size v_this_fields_lengths v_this_fields_cells v_p3_size v_p3_numbers x1 x2 = some (r_, v_this_owners', v_this_names', v_this_fields_size', v_this_fields_lengths', v_this_fields_cells')) : CtI l y_Kin_addConstructor ws_Kin_addConstructor rm_Kin_addConstructor D cI [(a_this, .inr (2, [.ref a_this_owners, .ref a_this_names, .ref a_this_fields, .int v_this_size])), (a_this_owners, .inl (cI, 100, .inl v_this_owners)), (a_this_names, .inl (cI, 100, .inl v_this_names)), (a_this_fields, .inr (1, [.ref a_this_fields_lengths, .ref a_this_fields_cells, .int v_this_fields_size])), (a_this_fields_lengths, .inl (cI, 100, .inl v_this_fields_lengths)), (a_this_fields_cells, .inl (cI, 600, .inl v_this_fields_cells)), (a_p3, .inr (0, [.ref a_p3_numbers, .int v_p3_size])), (a_p3_numbers, .inl (cI, 6, .inl v_p3_numbers))] [(a_this, .inr (2, [.ref a_this_owners, .ref a_this_names, .ref a_this_fields, .int v_this_size])), (a_this_owners, .inl (cI, 100, .inl v_this_owners')), (a_this_names, .inl (cI, 100, .inl v_this_names')), (a_this_fields, .inr (1, [.ref a_this_fields_lengths, .ref a_this_fields_cells, .int v_this_fields_size'])), (a_this_fields_lengths, .inl (cI, 100, .inl v_this_fields_lengths')), (a_this_fields_cells, .inl (cI, 600, .inl v_this_fields_cells')), (a_p3, .inr (0, [.ref a_p3_numbers, .int v_p3_size])), (a_p3_numbers, .inl (cI, 6, .inl v_p3_numbers))] [.ref a_this, .int x1, .int x2, .ref a_p3] .int r_ := by
  refine CtI.ofW (cc := b_Kin_addConstructor) (maxL := 5) (ty := .int) (by decide) rfl (Nat.le_of_ble_eq_true rfl) ?_
  intro p e s m args below meth c Q A hx hb hml hown hts hP hK hN hA hD hret ls hl
  have hS : va_S A s.heap s.heap [] := va_S.rf
  have hDL : DL A [a_this, a_this_owners, a_this_names, a_this_fields, a_this_fields_lengths, a_this_fields_cells, a_p3, a_p3_numbers] := DL.of hD rfl
  have hl : lv_has ls 5 [(0, .ref a_this), (1, .int x1), (2, .int x2), (3, .ref a_p3)] := hl
  unfold f_Kin_addConstructor at hf
  refine lv_aload_n hx hb d_Kin_addConstructor_0 rfl (lv_at hl 0 rfl) ?_
  refine va_get (D := D) (ci := 2) (v := .ref a_this_fields) (C := R_Kin) (T := T_Kin) (N := 4) hx hb hts in_Kin hown hK hP 0 rfl rfl 2 (by decide) (hts _ q_26) (fun _ h9 => h9) rfl d_Kin_addConstructor_1 ?_
  obtain ⟨⟨r2, u_3, u_4⟩, hc1, hf⟩ := gb hf
  dsimp only at hf
  refine kI [(a_this, .inr (2, [.ref a_this_owners, .ref a_this_names, .ref a_this_fields, .int v_this_size])), (a_this_owners, .inl (cI, 100, .inl v_this_owners)), (a_this_names, .inl (cI, 100, .inl v_this_names)), (a_this_fields, .inr (1, [.ref a_this_fields_lengths, .ref a_this_fields_cells, .int u_3])), (a_this_fields_lengths, .inl (cI, 100, .inl u_4)), (a_this_fields_cells, .inl (cI, 600, .inl v_this_fields_cells)), (a_p3, .inr (0, [.ref a_p3_numbers, .int v_p3_size])), (a_p3_numbers, .inl (cI, 6, .inl v_p3_numbers))] [3, 4] [0, 1, 2, 5, 6, 7] (va_runVN (C := R_Tab) (As := []) (rest := []) ⟨hx, hb, hml, hown, hts⟩ (c_Tab_open l D cI a_this_fields a_this_fields_lengths a_this_fields_cells 100 v_this_fields_size v_this_fields_lengths hc1 _) ⟨va_cnB (host := "KindDesk") 0 hts (good_c q_59) rfl rfl rfl (hN _ (List.mem_of_getElem? (i := 8) rfl)) (hts _ q_15) hd_Tab_open ⟨Nat.le_of_ble_eq_true rfl, Nat.le_of_ble_eq_true rfl⟩, (hts _ q_60), (hts _ q_61)⟩ (preVM hP hK hN (hDL _ rfl) [3, 4] (by decide +kernel) rfl rfl rfl) rfl rfl hl.1 rfl (lv_room (Nat.le_of_ble_eq_true rfl)) d_Kin_addConstructor_4 ⟨Nat.zero_le _, Nat.zero_le _⟩) hP (hDL _ rfl) hS hA rfl rfl (wr := [(a_this, .inr (2, [.ref a_this_owners, .ref a_this_names, .ref a_this_fields, .int v_this_size])), (a_this_owners, .inl (cI, 100, .inl v_this_owners)), (a_this_names, .inl (cI, 100, .inl v_this_names)), (a_this_fields_cells, .inl (cI, 600, .inl v_this_fields_cells)), (a_p3, .inr (0, [.ref a_p3_numbers, .int v_p3_size])), (a_p3_numbers, .inl (cI, 6, .inl v_p3_numbers))]) rfl rfl (n := 8) rfl (by decide +kernel) (by decide +kernel) (fun H locs hz5 hP hS => ?_)
  refine lv_istore (lv' := [(4, .int r2), (0, .ref a_this), (1, .int x1), (2, .int x2), (3, .ref a_p3)]) hx hb d_Kin_addConstructor_7 hl (by decide) rfl (fun ls hl => ?_)
  refine lv_iload hx hb d_Kin_addConstructor_9 (lv_at hl 0 rfl) ?_
  refine lv_if_lt (tgt := 21) hx hb d_Kin_addConstructor_11 (by decide) (fun c6 => ?_) (fun c6 => ?_)
  · replace hf := gp c6 hf
    refine lv_iconst (v := (-1)) hx hb d_Kin_addConstructor_21 (by decide) ?_
    cases hf
    exact hret _ _ _ _ hS hP rfl d_Kin_addConstructor_22
  · replace hf := gn c6 hf
    refine lv_iload hx hb d_Kin_addConstructor_14 (lv_at hl 0 rfl) ?_
    refine lv_bipush (v := 100) hx hb d_Kin_addConstructor_16 (by decide) ?_
    refine lv_icmp_lt (tgt := 23) hx hb d_Kin_addConstructor_18 (by decide) (fun c7 => ?_) (fun c7 => ?_)
    · replace hf := gp c7 hf
      refine lv_aload_n hx hb d_Kin_addConstructor_23 rfl (lv_at hl 1 rfl) ?_
      refine va_get (D := D) (ci := 2) (v := .ref a_this_owners) (C := R_Kin) (T := T_Kin) (N := 4) hx hb hts in_Kin hown hK hP 0 rfl rfl 0 (by decide) (hts _ q_20) (fun _ h9 => h9) rfl d_Kin_addConstructor_24 ?_
      refine lv_iload hx hb d_Kin_addConstructor_27 (lv_at hl 0 rfl) ?_
      refine lv_iload_n hx hb d_Kin_addConstructor_29 rfl (lv_at hl 2 rfl) ?_
      obtain ⟨hi8, hf⟩ := gd hf
      refine va_iast hx hb hK hP (hDL _ rfl) hS 1 0 rfl rfl hi8 d_Kin_addConstructor_30 (fun H locs hP _ hS => ?_)
      have hP : va_P D vwCl [(a_this, .inr (2, [.ref a_this_owners, .ref a_this_names, .ref a_this_fields, .int v_this_size])), (a_this_owners, .inl (cI, 100, .inl (upd v_this_owners r2.toNatClampNeg x1))), (a_this_names, .inl (cI, 100, .inl v_this_names)), (a_this_fields, .inr (1, [.ref a_this_fields_lengths, .ref a_this_fields_cells, .int u_3])), (a_this_fields_lengths, .inl (cI, 100, .inl u_4)), (a_this_fields_cells, .inl (cI, 600, .inl v_this_fields_cells)), (a_p3, .inr (0, [.ref a_p3_numbers, .int v_p3_size])), (a_p3_numbers, .inl (cI, 6, .inl v_p3_numbers))] H := hP
      refine lv_aload_n hx hb d_Kin_addConstructor_31 rfl (lv_at hl 1 rfl) ?_
      refine va_get (D := D) (ci := 2) (v := .ref a_this_names) (C := R_Kin) (T := T_Kin) (N := 4) hx hb hts in_Kin hown hK hP 0 rfl rfl 1 (by decide) (hts _ q_21) (fun _ h9 => h9) rfl d_Kin_addConstructor_32 ?_
      refine lv_iload hx hb d_Kin_addConstructor_35 (lv_at hl 0 rfl) ?_
      refine lv_iload_n hx hb d_Kin_addConstructor_37 rfl (lv_at hl 3 rfl) ?_
      obtain ⟨hi9, hf⟩ := gd hf
      refine va_iast hx hb hK hP (hDL _ rfl) hS 2 0 rfl rfl hi9 d_Kin_addConstructor_38 (fun H locs hP _ hS => ?_)
      have hP : va_P D vwCl [(a_this, .inr (2, [.ref a_this_owners, .ref a_this_names, .ref a_this_fields, .int v_this_size])), (a_this_owners, .inl (cI, 100, .inl (upd v_this_owners r2.toNatClampNeg x1))), (a_this_names, .inl (cI, 100, .inl (upd v_this_names r2.toNatClampNeg x2))), (a_this_fields, .inr (1, [.ref a_this_fields_lengths, .ref a_this_fields_cells, .int u_3])), (a_this_fields_lengths, .inl (cI, 100, .inl u_4)), (a_this_fields_cells, .inl (cI, 600, .inl v_this_fields_cells)), (a_p3, .inr (0, [.ref a_p3_numbers, .int v_p3_size])), (a_p3_numbers, .inl (cI, 6, .inl v_p3_numbers))] H := hP
      refine lv_aload_n hx hb d_Kin_addConstructor_39 rfl (lv_at hl 1 rfl) ?_
      refine va_get (D := D) (ci := 2) (v := .ref a_this_fields) (C := R_Kin) (T := T_Kin) (N := 4) hx hb hts in_Kin hown hK hP 0 rfl rfl 2 (by decide) (hts _ q_26) (fun _ h9 => h9) rfl d_Kin_addConstructor_40 ?_
      refine lv_aload_n hx hb d_Kin_addConstructor_43 rfl (lv_at hl 4 rfl) ?_
      obtain ⟨⟨u_11, u_12⟩, hc10, hf⟩ := gb hf
      dsimp only at hf
      refine kV [(a_this, .inr (2, [.ref a_this_owners, .ref a_this_names, .ref a_this_fields, .int v_this_size])), (a_this_owners, .inl (cI, 100, .inl (upd v_this_owners r2.toNatClampNeg x1))), (a_this_names, .inl (cI, 100, .inl (upd v_this_names r2.toNatClampNeg x2))), (a_this_fields, .inr (1, [.ref a_this_fields_lengths, .ref a_this_fields_cells, .int u_3])), (a_this_fields_lengths, .inl (cI, 100, .inl u_11)), (a_this_fields_cells, .inl (cI, 600, .inl u_12)), (a_p3, .inr (0, [.ref a_p3_numbers, .int v_p3_size])), (a_p3_numbers, .inl (cI, 6, .inl v_p3_numbers))] [3, 4, 5, 6, 7] [0, 1, 2] (va_runVN (C := R_Tab) (As := [.ref a_p3]) (rest := []) ⟨hx, hb, hml, hown, hts⟩ (c_Tab_appendAll l D cI a_this_fields a_this_fields_lengths a_this_fields_cells a_p3 a_p3_numbers 100 600 u_3 u_4 v_this_fields_cells v_p3_size v_p3_numbers hc10 _) ⟨va_cnB (host := "KindDesk") 1 hts (good_c q_62) rfl rfl rfl (hN _ (List.mem_of_getElem? (i := 9) rfl)) (hts _ q_15) hd_Tab_appendAll ⟨Nat.le_of_ble_eq_true rfl, Nat.le_of_ble_eq_true rfl⟩, (hts _ q_63), (hts _ q_64)⟩ (preVM hP hK hN (hDL _ rfl) [3, 4, 5, 6, 7] (by decide +kernel) rfl rfl rfl) rfl rfl hl.1 rfl (lv_room (Nat.le_of_ble_eq_true rfl)) d_Kin_addConstructor_44 ⟨Nat.zero_le _, Nat.zero_le _⟩) hP (hDL _ rfl) hS hA rfl rfl (wr := [(a_this, .inr (2, [.ref a_this_owners, .ref a_this_names, .ref a_this_fields, .int v_this_size])), (a_this_owners, .inl (cI, 100, .inl (upd v_this_owners r2.toNatClampNeg x1))), (a_this_names, .inl (cI, 100, .inl (upd v_this_names r2.toNatClampNeg x2)))]) rfl rfl (n := 8) rfl (by decide +kernel) (by decide +kernel) (fun H locs hP hS => ?_)
      refine lv_iload hx hb d_Kin_addConstructor_47 (lv_at hl 0 rfl) ?_
      cases hf
      exact hret _ _ _ _ hS hP rfl d_Kin_addConstructor_49
    · replace hf := gn c7 hf
      refine lv_iconst (v := (-1)) hx hb d_Kin_addConstructor_21 (by decide) ?_
      cases hf
      exact hret _ _ _ _ hS hP rfl d_Kin_addConstructor_22
def f_Kin_constructorsOf_L4 (v_this_owners : Nat → Int32) (v_this_fields_size : Int32) (x1 : Int32) (k : Int32 → Int32 → Option (Int32)) : Nat → Int32 → Int32 → Option (Int32)
  | 0, _, _ => none
  | n + 1, y2_4, y3_4 =>
    if v_this_fields_size ≤ y3_4 then
      k y2_4 y3_4
    else
      (f_Kin_kindOf v_this_owners v_this_fields_size y3_4).bind fun r3 =>
      if r3 = x1 then
        f_Kin_constructorsOf_L4 v_this_owners v_this_fields_size x1 k n (y2_4 + 1) (y3_4 + 1)
      else
        f_Kin_constructorsOf_L4 v_this_owners v_this_fields_size x1 k n y2_4 (y3_4 + 1)
def f_Kin_constructorsOf (v_this_owners : Nat → Int32) (v_this_fields_size : Int32) (x1 : Int32) : Option (Int32) :=
  f_Kin_constructorsOf_L4 v_this_owners v_this_fields_size x1 (fun y2_4 y3_4 =>
    some y2_4) FU 0 0
abbrev rm_Kin_constructorsOf : Room := { frames := 2, cells := 0, slots := 0, locals := 42 }
set_option maxHeartbeats 4000000 in
set_option maxRecDepth 100000 in
theorem c_Kin_constructorsOf (l : Launch) (D : va_G) (cI : ClassId) (a_this a_this_owners a_this_names a_this_fields a_this_fields_lengths a_this_fields_cells : Nat) (v_this_size : Int32) (v_this_owners : Nat → Int32) (v_this_fields_size : Int32) (x1 : Int32) {r_ : Int32} (hf : f_Kin_constructorsOf v_this_owners v_this_fields_size x1 = some r_) : CtP l y_Kin_constructorsOf ws_Kin_constructorsOf rm_Kin_constructorsOf D cI [(a_this, .inr (2, [.ref a_this_owners, .ref a_this_names, .ref a_this_fields, .int v_this_size])), (a_this_owners, .inl (cI, 100, .inl v_this_owners)), (a_this_fields, .inr (1, [.ref a_this_fields_lengths, .ref a_this_fields_cells, .int v_this_fields_size]))] [.ref a_this, .int x1] .int r_ := by
  refine CtP.ofW (cc := b_Kin_constructorsOf) (maxL := 4) (ty := .int) (by decide) rfl (Nat.le_of_ble_eq_true rfl) ?_
  intro p e s m args below meth c Q hx hb hml hown hts hP hK hN hret ls hl
  have hl : lv_has ls 4 [(0, .ref a_this), (1, .int x1)] := hl
  unfold f_Kin_constructorsOf at hf
  refine lv_iconst (v := 0) hx hb d_Kin_constructorsOf_0 (by decide) ?_
  refine lv_istore_n (lv' := [(2, .int 0), (0, .ref a_this), (1, .int x1)]) hx hb d_Kin_constructorsOf_1 rfl hl (by decide) rfl (fun ls hl => ?_)
  refine lv_iconst (v := 0) hx hb d_Kin_constructorsOf_2 (by decide) ?_
  refine lv_istore_n (lv' := [(3, .int 0), (2, .int 0), (0, .ref a_this), (1, .int x1)]) hx hb d_Kin_constructorsOf_3 rfl hl (by decide) rfl (fun ls hl => ?_)
  have lp4 : ∀ (kk : Int32 → Int32 → Option (Int32)), (∀ (y2_4 : Int32) (y3_4 : Int32) (ls : Array Slot), lv_has ls 4 [(3, .int y3_4), (2, .int y2_4), (0, .ref a_this), (1, .int x1)] → kk y2_4 y3_4 = some r_ → W p l e rm_Kin_constructorsOf s m args below meth c s.heap [] 0 0 Q (F0 m 33 ls [])) → ∀ (n : Nat) (y2_4 : Int32) (y3_4 : Int32) (ls : Array Slot), lv_has ls 4 [(3, .int y3_4), (2, .int y2_4), (0, .ref a_this), (1, .int x1)] → f_Kin_constructorsOf_L4 v_this_owners v_this_fields_size x1 kk n y2_4 y3_4 = some r_ → W p l e rm_Kin_constructorsOf s m args below meth c s.heap [] 0 0 Q (F0 m 4 ls []) := by
    intro kk hk4 n
    induction n with
    | zero =>
      intro y2_4 y3_4 ls hl hf
      rw [f_Kin_constructorsOf_L4] at hf
      cases hf
    | succ n ih4 =>
      intro y2_4 y3_4 ls hl hf
      rw [f_Kin_constructorsOf_L4] at hf
      refine lv_iload_n hx hb d_Kin_constructorsOf_4 rfl (lv_at hl 0 rfl) ?_
      refine lv_aload_n hx hb d_Kin_constructorsOf_5 rfl (lv_at hl 2 rfl) ?_
      refine va_get (D := D) (ci := 2) (v := .ref a_this_fields) (C := R_Kin) (T := T_Kin) (N := 4) hx hb hts in_Kin hown hK hP 0 rfl rfl 2 (by decide) (hts _ q_26) (fun _ h9 => h9) rfl d_Kin_constructorsOf_6 ?_
      refine va_getN (host := "KindDesk") (D := D) (ci := 1) (v := .int v_this_fields_size) (C := R_Tab) (T := T_Tab) (N := 3) hx hb hts in_Tab hown hK hP 2 rfl rfl 2 (by decide) (va_Nw.use rfl (hN _ (List.mem_of_getElem? (i := 3) rfl))) (fun _ h9 => h9) rfl d_Kin_constructorsOf_9 ?_
      refine lv_icmp_ge (tgt := 33) hx hb d_Kin_constructorsOf_12 (by decide) (fun c1 => ?_) (fun c1 => ?_)
      · replace hf := gp c1 hf
        exact hk4 y2_4 y3_4 _ (lv_sub hl [0, 1, 2, 3] rfl) hf
      · replace hf := gn c1 hf
        refine lv_aload_n hx hb d_Kin_constructorsOf_15 rfl (lv_at hl 2 rfl) ?_
        refine lv_iload_n hx hb d_Kin_constructorsOf_16 rfl (lv_at hl 0 rfl) ?_
        obtain ⟨r3, hc2, hf⟩ := gb hf
        refine kP (va_runV (C := R_Kin) (As := [.int y3_4]) (rest := []) ⟨hx, hb, hml, hown, hts⟩ (c_Kin_kindOf l D cI a_this a_this_owners a_this_names a_this_fields a_this_fields_lengths a_this_fields_cells v_this_size v_this_owners v_this_fields_size y3_4 hc2) ⟨callB_of 1 hts (good_c q_33) rfl rfl rfl (hts _ q_29) (hts _ q_34) hd_Kin_kindOf ⟨Nat.le_of_ble_eq_true rfl, Nat.le_of_ble_eq_true rfl⟩, (hts _ q_35), (hts _ q_36)⟩ (preVP hP hK hN [0, 1, 2] rfl rfl rfl) rfl rfl hl.1 rfl (lv_room (Nat.le_of_ble_eq_true rfl)) d_Kin_constructorsOf_17 ⟨Nat.zero_le _, Nat.zero_le _⟩) (fun hz4 => ?_)
        refine lv_iload_n hx hb d_Kin_constructorsOf_20 rfl (lv_at hl 3 rfl) ?_
        refine lv_icmp_ne (tgt := 27) hx hb d_Kin_constructorsOf_21 (by decide) (fun c5 => ?_) (fun c5 => ?_)
        · replace hf := gn c5 hf
          refine lv_iinc (v := (y3_4 + 1)) (lv' := [(3, .int (y3_4 + 1)), (2, .int y2_4), (0, .ref a_this), (1, .int x1)]) hx hb d_Kin_constructorsOf_27 hl (k := 0) rfl rfl (by decide) rfl (fun ls hl => ?_)
          refine lv_goto (tgt := 4) hx hb d_Kin_constructorsOf_30 (by decide) ?_
          exact ih4 y2_4 (y3_4 + 1) _ (lv_sub hl [0, 1, 2, 3] rfl) hf
        · replace hf := gp c5 hf
          refine lv_iinc (v := (y2_4 + 1)) (lv' := [(2, .int (y2_4 + 1)), (3, .int y3_4), (0, .ref a_this), (1, .int x1)]) hx hb d_Kin_constructorsOf_24 hl (k := 1) rfl rfl (by decide) rfl (fun ls hl => ?_)
          refine lv_iinc (v := (y3_4 + 1)) (lv' := [(3, .int (y3_4 + 1)), (2, .int (y2_4 + 1)), (0, .ref a_this), (1, .int x1)]) hx hb d_Kin_constructorsOf_27 hl (k := 1) rfl rfl (by decide) rfl (fun ls hl => ?_)
          refine lv_goto (tgt := 4) hx hb d_Kin_constructorsOf_30 (by decide) ?_
          exact ih4 (y2_4 + 1) (y3_4 + 1) _ (lv_sub hl [0, 1, 2, 3] rfl) hf
  refine lp4 _ (fun y2_4 y3_4 ls hl hf => ?_) FU 0 0 _ (lv_sub hl [0, 1, 2, 3] rfl) hf
  refine lv_iload_n hx hb d_Kin_constructorsOf_33 rfl (lv_at hl 1 rfl) ?_
  cases hf
  exact hret _ _ rfl d_Kin_constructorsOf_34
def f_Kin_pick_L5 (v_this_owners : Nat → Int32) (v_this_fields_size : Int32) (x1 : Int32) (x2 : Int32) (k : Int32 → Int32 → Option (Int32)) : Nat → Int32 → Int32 → Option (Int32)
  | 0, _, _ => none
  | n + 1, y3_5, y4_5 =>
    if v_this_fields_size ≤ y4_5 then
      k y3_5 y4_5
    else
      (f_Kin_kindOf v_this_owners v_this_fields_size y4_5).bind fun r3 =>
      if r3 = x1 then
        if y3_5 = x2 then
          some y4_5
        else
          f_Kin_pick_L5 v_this_owners v_this_fields_size x1 x2 k n (y3_5 + 1) (y4_5 + 1)
      else
        f_Kin_pick_L5 v_this_owners v_this_fields_size x1 x2 k n y3_5 (y4_5 + 1)
def f_Kin_pick (v_this_owners : Nat → Int32) (v_this_fields_size : Int32) (x1 : Int32) (x2 : Int32) : Option (Int32) :=
  f_Kin_pick_L5 v_this_owners v_this_fields_size x1 x2 (fun y3_5 y4_5 =>
    some (-1)) FU 0 0
abbrev rm_Kin_pick : Room := { frames := 2, cells := 0, slots := 0, locals := 42 }
set_option maxHeartbeats 4000000 in
set_option maxRecDepth 100000 in
theorem c_Kin_pick (l : Launch) (D : va_G) (cI : ClassId) (a_this a_this_owners a_this_names a_this_fields a_this_fields_lengths a_this_fields_cells : Nat) (v_this_size : Int32) (v_this_owners : Nat → Int32) (v_this_fields_size : Int32) (x1 x2 : Int32) {r_ : Int32} (hf : f_Kin_pick v_this_owners v_this_fields_size x1 x2 = some r_) : CtP l y_Kin_pick ws_Kin_pick rm_Kin_pick D cI [(a_this, .inr (2, [.ref a_this_owners, .ref a_this_names, .ref a_this_fields, .int v_this_size])), (a_this_owners, .inl (cI, 100, .inl v_this_owners)), (a_this_fields, .inr (1, [.ref a_this_fields_lengths, .ref a_this_fields_cells, .int v_this_fields_size]))] [.ref a_this, .int x1, .int x2] .int r_ := by
  refine CtP.ofW (cc := b_Kin_pick) (maxL := 5) (ty := .int) (by decide) rfl (Nat.le_of_ble_eq_true rfl) ?_
  intro p e s m args below meth c Q hx hb hml hown hts hP hK hN hret ls hl
  have hl : lv_has ls 5 [(0, .ref a_this), (1, .int x1), (2, .int x2)] := hl
  unfold f_Kin_pick at hf
  refine lv_iconst (v := 0) hx hb d_Kin_pick_0 (by decide) ?_
  refine lv_istore_n (lv' := [(3, .int 0), (0, .ref a_this), (1, .int x1), (2, .int x2)]) hx hb d_Kin_pick_1 rfl hl (by decide) rfl (fun ls hl => ?_)
  refine lv_iconst (v := 0) hx hb d_Kin_pick_2 (by decide) ?_
  refine lv_istore (lv' := [(4, .int 0), (3, .int 0), (0, .ref a_this), (1, .int x1), (2, .int x2)]) hx hb d_Kin_pick_3 hl (by decide) rfl (fun ls hl => ?_)
  have lp5 : ∀ (kk : Int32 → Int32 → Option (Int32)), (∀ (y3_5 : Int32) (y4_5 : Int32) (ls : Array Slot), lv_has ls 5 [(4, .int y4_5), (3, .int y3_5), (0, .ref a_this), (1, .int x1), (2, .int x2)] → kk y3_5 y4_5 = some r_ → W p l e rm_Kin_pick s m args below meth c s.heap [] 0 0 Q (F0 m 44 ls [])) → ∀ (n : Nat) (y3_5 : Int32) (y4_5 : Int32) (ls : Array Slot), lv_has ls 5 [(4, .int y4_5), (3, .int y3_5), (0, .ref a_this), (1, .int x1), (2, .int x2)] → f_Kin_pick_L5 v_this_owners v_this_fields_size x1 x2 kk n y3_5 y4_5 = some r_ → W p l e rm_Kin_pick s m args below meth c s.heap [] 0 0 Q (F0 m 5 ls []) := by
    intro kk hk5 n
    induction n with
    | zero =>
      intro y3_5 y4_5 ls hl hf
      rw [f_Kin_pick_L5] at hf
      cases hf
    | succ n ih5 =>
      intro y3_5 y4_5 ls hl hf
      rw [f_Kin_pick_L5] at hf
      refine lv_iload hx hb d_Kin_pick_5 (lv_at hl 0 rfl) ?_
      refine lv_aload_n hx hb d_Kin_pick_7 rfl (lv_at hl 2 rfl) ?_
      refine va_get (D := D) (ci := 2) (v := .ref a_this_fields) (C := R_Kin) (T := T_Kin) (N := 4) hx hb hts in_Kin hown hK hP 0 rfl rfl 2 (by decide) (hts _ q_26) (fun _ h9 => h9) rfl d_Kin_pick_8 ?_
      refine va_getN (host := "KindDesk") (D := D) (ci := 1) (v := .int v_this_fields_size) (C := R_Tab) (T := T_Tab) (N := 3) hx hb hts in_Tab hown hK hP 2 rfl rfl 2 (by decide) (va_Nw.use rfl (hN _ (List.mem_of_getElem? (i := 3) rfl))) (fun _ h9 => h9) rfl d_Kin_pick_11 ?_
      refine lv_icmp_ge (tgt := 44) hx hb d_Kin_pick_14 (by decide) (fun c1 => ?_) (fun c1 => ?_)
      · replace hf := gp c1 hf
        exact hk5 y3_5 y4_5 _ (lv_sub hl [0, 1, 2, 3, 4] rfl) hf
      · replace hf := gn c1 hf
        refine lv_aload_n hx hb d_Kin_pick_17 rfl (lv_at hl 2 rfl) ?_
        refine lv_iload hx hb d_Kin_pick_18 (lv_at hl 0 rfl) ?_
        obtain ⟨r3, hc2, hf⟩ := gb hf
        refine kP (va_runV (C := R_Kin) (As := [.int y4_5]) (rest := []) ⟨hx, hb, hml, hown, hts⟩ (c_Kin_kindOf l D cI a_this a_this_owners a_this_names a_this_fields a_this_fields_lengths a_this_fields_cells v_this_size v_this_owners v_this_fields_size y4_5 hc2) ⟨callB_of 1 hts (good_c q_33) rfl rfl rfl (hts _ q_29) (hts _ q_34) hd_Kin_kindOf ⟨Nat.le_of_ble_eq_true rfl, Nat.le_of_ble_eq_true rfl⟩, (hts _ q_35), (hts _ q_36)⟩ (preVP hP hK hN [0, 1, 2] rfl rfl rfl) rfl rfl hl.1 rfl (lv_room (Nat.le_of_ble_eq_true rfl)) d_Kin_pick_20 ⟨Nat.zero_le _, Nat.zero_le _⟩) (fun hz4 => ?_)
        refine lv_iload_n hx hb d_Kin_pick_23 rfl (lv_at hl 3 rfl) ?_
        refine lv_icmp_ne (tgt := 38) hx hb d_Kin_pick_24 (by decide) (fun c5 => ?_) (fun c5 => ?_)
        · replace hf := gn c5 hf
          refine lv_iinc (v := (y4_5 + 1)) (lv' := [(4, .int (y4_5 + 1)), (3, .int y3_5), (0, .ref a_this), (1, .int x1), (2, .int x2)]) hx hb d_Kin_pick_38 hl (k := 0) rfl rfl (by decide) rfl (fun ls hl => ?_)
          refine lv_goto (tgt := 5) hx hb d_Kin_pick_41 (by decide) ?_
          exact ih5 y3_5 (y4_5 + 1) _ (lv_sub hl [0, 1, 2, 3, 4] rfl) hf
        · replace hf := gp c5 hf
          refine lv_iload_n hx hb d_Kin_pick_27 rfl (lv_at hl 1 rfl) ?_
          refine lv_iload_n hx hb d_Kin_pick_28 rfl (lv_at hl 4 rfl) ?_
          refine lv_icmp_ne (tgt := 35) hx hb d_Kin_pick_29 (by decide) (fun c6 => ?_) (fun c6 => ?_)
          · replace hf := gn c6 hf
            refine lv_iinc (v := (y3_5 + 1)) (lv' := [(3, .int (y3_5 + 1)), (4, .int y4_5), (0, .ref a_this), (1, .int x1), (2, .int x2)]) hx hb d_Kin_pick_35 hl (k := 1) rfl rfl (by decide) rfl (fun ls hl => ?_)
            refine lv_iinc (v := (y4_5 + 1)) (lv' := [(4, .int (y4_5 + 1)), (3, .int (y3_5 + 1)), (0, .ref a_this), (1, .int x1), (2, .int x2)]) hx hb d_Kin_pick_38 hl (k := 1) rfl rfl (by decide) rfl (fun ls hl => ?_)
            refine lv_goto (tgt := 5) hx hb d_Kin_pick_41 (by decide) ?_
            exact ih5 (y3_5 + 1) (y4_5 + 1) _ (lv_sub hl [0, 1, 2, 3, 4] rfl) hf
          · replace hf := gp c6 hf
            refine lv_iload hx hb d_Kin_pick_32 (lv_at hl 0 rfl) ?_
            cases hf
            exact hret _ _ rfl d_Kin_pick_34
  refine lp5 _ (fun y3_5 y4_5 ls hl hf => ?_) FU 0 0 _ (lv_sub hl [0, 1, 2, 3, 4] rfl) hf
  refine lv_iconst (v := (-1)) hx hb d_Kin_pick_44 (by decide) ?_
  cases hf
  exact hret _ _ rfl d_Kin_pick_45
end
section
abbrev b_Dem_init : ByteArray := prog_2_method_1_code
def y_Dem_init : MethodName := ⟨R_Dem, "<init>", "()V"⟩
def ws_Dem_init : List Cond := Cond.code y_Dem_init b_Dem_init 1 none :: GW
theorem hd_Dem_init : y_Dem_init.cls ≠ "java/lang/invoke/MethodHandle" ∧ y_Dem_init.cls ≠ "java/lang/invoke/VarHandle" ∧ (parseMethodDescriptor y_Dem_init.desc).map (fun d => d.parameters.length) = some 0 := by decide +kernel
theorem d_Dem_init_0 : decode b_Dem_init 0 = .ok (.aload_n 0, 1) := by decide +kernel
theorem d_Dem_init_1 : decode b_Dem_init 1 = .ok (.invokespecial 3, 3) := by decide +kernel
theorem d_Dem_init_4 : decode b_Dem_init 4 = .ok (.aload_n 0, 1) := by decide +kernel
theorem d_Dem_init_5 : decode b_Dem_init 5 = .ok (.sipush 200, 3) := by decide +kernel
theorem d_Dem_init_8 : decode b_Dem_init 8 = .ok (.newarray .int, 2) := by decide +kernel
theorem d_Dem_init_10 : decode b_Dem_init 10 = .ok (.putfield 9, 3) := by decide +kernel
theorem d_Dem_init_13 : decode b_Dem_init 13 = .ok (.aload_n 0, 1) := by decide +kernel
theorem d_Dem_init_14 : decode b_Dem_init 14 = .ok (.sipush 200, 3) := by decide +kernel
theorem d_Dem_init_17 : decode b_Dem_init 17 = .ok (.newarray .int, 2) := by decide +kernel
theorem d_Dem_init_19 : decode b_Dem_init 19 = .ok (.putfield 15, 3) := by decide +kernel
theorem d_Dem_init_22 : decode b_Dem_init 22 = .ok (.aload_n 0, 1) := by decide +kernel
theorem d_Dem_init_23 : decode b_Dem_init 23 = .ok (.new 18, 3) := by decide +kernel
theorem d_Dem_init_26 : decode b_Dem_init 26 = .ok (.dup, 1) := by decide +kernel
theorem d_Dem_init_27 : decode b_Dem_init 27 = .ok (.sipush 200, 3) := by decide +kernel
theorem d_Dem_init_30 : decode b_Dem_init 30 = .ok (.invokespecial 20, 3) := by decide +kernel
theorem d_Dem_init_33 : decode b_Dem_init 33 = .ok (.putfield 23, 3) := by decide +kernel
theorem d_Dem_init_36 : decode b_Dem_init 36 = .ok (.return_, 1) := by decide +kernel
abbrev b_Dem_add : ByteArray := prog_2_method_2_code
def y_Dem_add : MethodName := ⟨R_Dem, "add", "(III)I"⟩
def ws_Dem_add : List Cond := Cond.code y_Dem_add b_Dem_add 5 (some .int) :: GW
theorem hd_Dem_add : y_Dem_add.cls ≠ "java/lang/invoke/MethodHandle" ∧ y_Dem_add.cls ≠ "java/lang/invoke/VarHandle" ∧ (parseMethodDescriptor y_Dem_add.desc).map (fun d => d.parameters.length) = some 3 := by decide +kernel
theorem d_Dem_add_0 : decode b_Dem_add 0 = .ok (.aload_n 0, 1) := by decide +kernel
theorem d_Dem_add_1 : decode b_Dem_add 1 = .ok (.getfield 23, 3) := by decide +kernel
theorem d_Dem_add_4 : decode b_Dem_add 4 = .ok (.invokevirtual 27, 3) := by decide +kernel
theorem d_Dem_add_7 : decode b_Dem_add 7 = .ok (.istore 4, 2) := by decide +kernel
theorem d_Dem_add_9 : decode b_Dem_add 9 = .ok (.iload 4, 2) := by decide +kernel
theorem d_Dem_add_11 : decode b_Dem_add 11 = .ok (.invokestatic 31, 3) := by decide +kernel
theorem d_Dem_add_14 : decode b_Dem_add 14 = .ok (.ifCond .ne 5, 3) := by decide +kernel
theorem d_Dem_add_17 : decode b_Dem_add 17 = .ok (.iconst (-1), 1) := by decide +kernel
theorem d_Dem_add_18 : decode b_Dem_add 18 = .ok (.ireturn, 1) := by decide +kernel
theorem d_Dem_add_19 : decode b_Dem_add 19 = .ok (.aload_n 0, 1) := by decide +kernel
theorem d_Dem_add_20 : decode b_Dem_add 20 = .ok (.getfield 9, 3) := by decide +kernel
theorem d_Dem_add_23 : decode b_Dem_add 23 = .ok (.iload 4, 2) := by decide +kernel
theorem d_Dem_add_25 : decode b_Dem_add 25 = .ok (.iload_n 1, 1) := by decide +kernel
theorem d_Dem_add_26 : decode b_Dem_add 26 = .ok (.iastore, 1) := by decide +kernel
theorem d_Dem_add_27 : decode b_Dem_add 27 = .ok (.aload_n 0, 1) := by decide +kernel
theorem d_Dem_add_28 : decode b_Dem_add 28 = .ok (.getfield 15, 3) := by decide +kernel
theorem d_Dem_add_31 : decode b_Dem_add 31 = .ok (.iload 4, 2) := by decide +kernel
theorem d_Dem_add_33 : decode b_Dem_add 33 = .ok (.iload_n 2, 1) := by decide +kernel
theorem d_Dem_add_34 : decode b_Dem_add 34 = .ok (.iastore, 1) := by decide +kernel
theorem d_Dem_add_35 : decode b_Dem_add 35 = .ok (.iload_n 3, 1) := by decide +kernel
theorem d_Dem_add_36 : decode b_Dem_add 36 = .ok (.iconst (-1), 1) := by decide +kernel
theorem d_Dem_add_37 : decode b_Dem_add 37 = .ok (.if_icmp .eq 11, 3) := by decide +kernel
theorem d_Dem_add_40 : decode b_Dem_add 40 = .ok (.aload_n 0, 1) := by decide +kernel
theorem d_Dem_add_41 : decode b_Dem_add 41 = .ok (.getfield 23, 3) := by decide +kernel
theorem d_Dem_add_44 : decode b_Dem_add 44 = .ok (.iload_n 3, 1) := by decide +kernel
theorem d_Dem_add_45 : decode b_Dem_add 45 = .ok (.invokevirtual 35, 3) := by decide +kernel
theorem d_Dem_add_48 : decode b_Dem_add 48 = .ok (.iload 4, 2) := by decide +kernel
theorem d_Dem_add_50 : decode b_Dem_add 50 = .ok (.ireturn, 1) := by decide +kernel
abbrev b_Dem_count : ByteArray := prog_2_method_3_code
def y_Dem_count : MethodName := ⟨R_Dem, "count", "()I"⟩
def ws_Dem_count : List Cond := Cond.code y_Dem_count b_Dem_count 1 (some .int) :: GW
theorem hd_Dem_count : y_Dem_count.cls ≠ "java/lang/invoke/MethodHandle" ∧ y_Dem_count.cls ≠ "java/lang/invoke/VarHandle" ∧ (parseMethodDescriptor y_Dem_count.desc).map (fun d => d.parameters.length) = some 0 := by decide +kernel
theorem d_Dem_count_0 : decode b_Dem_count 0 = .ok (.aload_n 0, 1) := by decide +kernel
theorem d_Dem_count_1 : decode b_Dem_count 1 = .ok (.getfield 23, 3) := by decide +kernel
theorem d_Dem_count_4 : decode b_Dem_count 4 = .ok (.getfield 38, 3) := by decide +kernel
theorem d_Dem_count_7 : decode b_Dem_count 7 = .ok (.ireturn, 1) := by decide +kernel
abbrev b_Dem_sortOf : ByteArray := prog_2_method_4_code
def y_Dem_sortOf : MethodName := ⟨R_Dem, "sortOf", "(I)I"⟩
def ws_Dem_sortOf : List Cond := Cond.code y_Dem_sortOf b_Dem_sortOf 2 (some .int) :: GW
theorem hd_Dem_sortOf : y_Dem_sortOf.cls ≠ "java/lang/invoke/MethodHandle" ∧ y_Dem_sortOf.cls ≠ "java/lang/invoke/VarHandle" ∧ (parseMethodDescriptor y_Dem_sortOf.desc).map (fun d => d.parameters.length) = some 1 := by decide +kernel
theorem d_Dem_sortOf_0 : decode b_Dem_sortOf 0 = .ok (.iload_n 1, 1) := by decide +kernel
theorem d_Dem_sortOf_1 : decode b_Dem_sortOf 1 = .ok (.invokestatic 31, 3) := by decide +kernel
theorem d_Dem_sortOf_4 : decode b_Dem_sortOf 4 = .ok (.ifCond .eq 12, 3) := by decide +kernel
theorem d_Dem_sortOf_7 : decode b_Dem_sortOf 7 = .ok (.aload_n 0, 1) := by decide +kernel
theorem d_Dem_sortOf_8 : decode b_Dem_sortOf 8 = .ok (.getfield 9, 3) := by decide +kernel
theorem d_Dem_sortOf_11 : decode b_Dem_sortOf 11 = .ok (.iload_n 1, 1) := by decide +kernel
theorem d_Dem_sortOf_12 : decode b_Dem_sortOf 12 = .ok (.iaload, 1) := by decide +kernel
theorem d_Dem_sortOf_13 : decode b_Dem_sortOf 13 = .ok (.goto 4, 3) := by decide +kernel
theorem d_Dem_sortOf_16 : decode b_Dem_sortOf 16 = .ok (.iconst (-1), 1) := by decide +kernel
theorem d_Dem_sortOf_17 : decode b_Dem_sortOf 17 = .ok (.ireturn, 1) := by decide +kernel
abbrev b_Dem_subjectOf : ByteArray := prog_2_method_5_code
def y_Dem_subjectOf : MethodName := ⟨R_Dem, "subjectOf", "(I)I"⟩
def ws_Dem_subjectOf : List Cond := Cond.code y_Dem_subjectOf b_Dem_subjectOf 2 (some .int) :: GW
theorem hd_Dem_subjectOf : y_Dem_subjectOf.cls ≠ "java/lang/invoke/MethodHandle" ∧ y_Dem_subjectOf.cls ≠ "java/lang/invoke/VarHandle" ∧ (parseMethodDescriptor y_Dem_subjectOf.desc).map (fun d => d.parameters.length) = some 1 := by decide +kernel
theorem d_Dem_subjectOf_0 : decode b_Dem_subjectOf 0 = .ok (.iload_n 1, 1) := by decide +kernel
theorem d_Dem_subjectOf_1 : decode b_Dem_subjectOf 1 = .ok (.invokestatic 31, 3) := by decide +kernel
theorem d_Dem_subjectOf_4 : decode b_Dem_subjectOf 4 = .ok (.ifCond .eq 12, 3) := by decide +kernel
theorem d_Dem_subjectOf_7 : decode b_Dem_subjectOf 7 = .ok (.aload_n 0, 1) := by decide +kernel
theorem d_Dem_subjectOf_8 : decode b_Dem_subjectOf 8 = .ok (.getfield 15, 3) := by decide +kernel
theorem d_Dem_subjectOf_11 : decode b_Dem_subjectOf 11 = .ok (.iload_n 1, 1) := by decide +kernel
theorem d_Dem_subjectOf_12 : decode b_Dem_subjectOf 12 = .ok (.iaload, 1) := by decide +kernel
theorem d_Dem_subjectOf_13 : decode b_Dem_subjectOf 13 = .ok (.goto 4, 3) := by decide +kernel
theorem d_Dem_subjectOf_16 : decode b_Dem_subjectOf 16 = .ok (.iconst (-1), 1) := by decide +kernel
theorem d_Dem_subjectOf_17 : decode b_Dem_subjectOf 17 = .ok (.ireturn, 1) := by decide +kernel
abbrev b_Dem_clear : ByteArray := prog_2_method_6_code
def y_Dem_clear : MethodName := ⟨R_Dem, "clear", "()V"⟩
def ws_Dem_clear : List Cond := Cond.code y_Dem_clear b_Dem_clear 1 none :: GW
theorem hd_Dem_clear : y_Dem_clear.cls ≠ "java/lang/invoke/MethodHandle" ∧ y_Dem_clear.cls ≠ "java/lang/invoke/VarHandle" ∧ (parseMethodDescriptor y_Dem_clear.desc).map (fun d => d.parameters.length) = some 0 := by decide +kernel
theorem d_Dem_clear_0 : decode b_Dem_clear 0 = .ok (.aload_n 0, 1) := by decide +kernel
theorem d_Dem_clear_1 : decode b_Dem_clear 1 = .ok (.getfield 23, 3) := by decide +kernel
theorem d_Dem_clear_4 : decode b_Dem_clear 4 = .ok (.iconst 0, 1) := by decide +kernel
theorem d_Dem_clear_5 : decode b_Dem_clear 5 = .ok (.putfield 38, 3) := by decide +kernel
theorem d_Dem_clear_8 : decode b_Dem_clear 8 = .ok (.return_, 1) := by decide +kernel
end
section
abbrev rm_Dem_init : Room := { frames := 2, cells := 5, slots := 1803, locals := 43 }
set_option maxHeartbeats 4000000 in
set_option maxRecDepth 100000 in
theorem n_Dem_init (l : Launch) (D : va_G) (cI : ClassId) (a_this : Nat) : CtN l y_Dem_init ws_Dem_init rm_Dem_init D cI [(a_this, .inr (3, [.null, .null, .null]))] (fun (u : Nat × Nat × Nat × Nat × Nat) => [(a_this, .inr (3, [.ref u.1, .ref u.2.1, .ref u.2.2.1])), (u.1, .inl (cI, 200, .inl (fun _ => 0))), (u.2.1, .inl (cI, 200, .inl (fun _ => 0))), (u.2.2.1, .inr (1, [.ref u.2.2.2.1, .ref u.2.2.2.2, .int 0])), (u.2.2.2.1, .inl (cI, 200, .inl (fun _ => 0))), (u.2.2.2.2, .inl (cI, 1200, .inl (fun _ => 0)))]) [.ref a_this] 5 1803 := by
  refine CtN.ofW (cc := b_Dem_init) (maxL := 1) (by decide) rfl (Nat.le_of_ble_eq_true rfl) ?_
  intro p e s m args below meth c Q A hx hb hml hown hts hin hP hK hN hA hD hret ls hl
  have hS : va_S A s.heap s.heap [] := va_S.rf
  have hl : lv_has ls 1 [(0, .ref a_this)] := hl
  refine lv_aload_n hx hb d_Dem_init_0 rfl (lv_at hl 0 rfl) ?_
  refine W.objInit hx hb hown (hts _ q_65) (hts _ q_1) (hts _ q_2) rfl (by rw [hml]; exact hl.1) rfl d_Dem_init_1 (Nat.le_of_ble_eq_true rfl) (Nat.le_of_ble_eq_true rfl) ?_
  refine W.eq (g2 := F0 m 4 ls []) rfl ?_
  refine lv_aload_n hx hb d_Dem_init_4 rfl (lv_at hl 0 rfl) ?_
  refine lv_sipush (v := 200) hx hb d_Dem_init_5 (by decide) ?_
  refine va_newa (atype := .int) (ty := .int) (N' := 200) (a0 := (200, .inl (fun _ => 0))) hx hb (hts _ q_3) rfl hK hP hD hS hA (fun _ => rfl) (by decide) (by decide) (by decide) (Nat.le_of_ble_eq_true rfl) (Nat.le_of_ble_eq_true rfl) d_Dem_init_8 (fun q1 cA H hK2 hP hD hS => ?_)
  obtain rfl : cI = cA := (arr_eq hK2).symm
  have hP : va_P D vwCl [(a_this, .inr (3, [.null, .null, .null])), (q1, .inl (cI, 200, .inl (fun _ => 0)))] H := hP
  have hD : va_D A [(a_this, .inr (3, [.null, .null, .null])), (q1, .inl (cI, 200, .inl (fun _ => 0)))] := hD
  refine va_putF (D := D) (ci := 3) (v := .ref q1) (ty := (.array .int)) (C := R_Dem) (T := T_Dem) (N := 3) hx hb hts in_Dem ty_Dem tyok_Dem nm_Dem hown hK hP hD hS 0 rfl rfl 0 (by decide) (hts _ q_66) (fun _ h9 => h9) rfl hin rfl (by decide +kernel) rfl rfl (Nat.le_of_ble_eq_true rfl) d_Dem_init_10 (fun H locs hP hD hS => ?_)
  have hP : va_P D vwCl [(a_this, .inr (3, [.ref q1, .null, .null])), (q1, .inl (cI, 200, .inl (fun _ => 0)))] H := hP
  have hD : va_D A [(a_this, .inr (3, [.ref q1, .null, .null])), (q1, .inl (cI, 200, .inl (fun _ => 0)))] := hD
  refine lv_aload_n hx hb d_Dem_init_13 rfl (lv_at hl 0 rfl) ?_
  refine lv_sipush (v := 200) hx hb d_Dem_init_14 (by decide) ?_
  refine va_newa (atype := .int) (ty := .int) (N' := 200) (a0 := (200, .inl (fun _ => 0))) hx hb (hts _ q_3) rfl hK hP hD hS hA (fun _ => rfl) (by decide) (by decide) (by decide) (Nat.le_of_ble_eq_true rfl) (Nat.le_of_ble_eq_true rfl) d_Dem_init_17 (fun q2 cA H hK2 hP hD hS => ?_)
  obtain rfl : cI = cA := (arr_eq hK2).symm
  have hP : va_P D vwCl [(a_this, .inr (3, [.ref q1, .null, .null])), (q1, .inl (cI, 200, .inl (fun _ => 0))), (q2, .inl (cI, 200, .inl (fun _ => 0)))] H := hP
  have hD : va_D A [(a_this, .inr (3, [.ref q1, .null, .null])), (q1, .inl (cI, 200, .inl (fun _ => 0))), (q2, .inl (cI, 200, .inl (fun _ => 0)))] := hD
  refine va_putF (D := D) (ci := 3) (v := .ref q2) (ty := (.array .int)) (C := R_Dem) (T := T_Dem) (N := 3) hx hb hts in_Dem ty_Dem tyok_Dem nm_Dem hown hK hP hD hS 0 rfl rfl 1 (by decide) (hts _ q_67) (fun _ h9 => h9) rfl hin rfl (by decide +kernel) rfl rfl (Nat.le_of_ble_eq_true rfl) d_Dem_init_19 (fun H locs hP hD hS => ?_)
  have hP : va_P D vwCl [(a_this, .inr (3, [.ref q1, .ref q2, .null])), (q1, .inl (cI, 200, .inl (fun _ => 0))), (q2, .inl (cI, 200, .inl (fun _ => 0)))] H := hP
  have hD : va_D A [(a_this, .inr (3, [.ref q1, .ref q2, .null])), (q1, .inl (cI, 200, .inl (fun _ => 0))), (q2, .inl (cI, 200, .inl (fun _ => 0)))] := hD
  refine lv_aload_n hx hb d_Dem_init_22 rfl (lv_at hl 0 rfl) ?_
  refine va_new (ci := 1) (fs := [.null, .null, .int 0]) (C := R_Tab) (T := T_Tab) (N := 3) hx hb hts in_Tab ty_Tab tyok_Tab hown (hts _ q_68) (hts _ q_23) (hts _ q_15) hK hP hD hS hA rfl (fun j hj => by rcases (show j = 0 ∨ j = 1 ∨ j = 2 by omega) with rfl | rfl | rfl <;> rfl) (Nat.le_of_ble_eq_true rfl) (Nat.le_of_ble_eq_true rfl) d_Dem_init_23 (fun q3 H hP hD hS => ?_)
  have hP : va_P D vwCl [(a_this, .inr (3, [.ref q1, .ref q2, .null])), (q1, .inl (cI, 200, .inl (fun _ => 0))), (q2, .inl (cI, 200, .inl (fun _ => 0))), (q3, .inr (1, [.null, .null, .int 0]))] H := hP
  have hD : va_D A [(a_this, .inr (3, [.ref q1, .ref q2, .null])), (q1, .inl (cI, 200, .inl (fun _ => 0))), (q2, .inl (cI, 200, .inl (fun _ => 0))), (q3, .inr (1, [.null, .null, .int 0]))] := hD
  refine lv_dup hx hb d_Dem_init_26 rfl ?_
  refine lv_sipush (v := 200) hx hb d_Dem_init_27 (by decide) ?_
  refine kN (wr := [(a_this, .inr (3, [.ref q1, .ref q2, .null])), (q1, .inl (cI, 200, .inl (fun _ => 0))), (q2, .inl (cI, 200, .inl (fun _ => 0)))]) [3] [0, 1, 2] (va_runIN (As := [.int 200]) (rest := [.ref q3, .ref a_this]) ⟨hx, hb, hml, hown, hts⟩ (n_Tab_init_200 l D cI q3 _) ⟨va_cnB (host := "KindDesk") 1 hts (good_c q_24) rfl rfl rfl (hN _ (List.mem_of_getElem? (i := 10) rfl)) (hts _ q_15) hd_Tab_init ⟨Nat.le_of_ble_eq_true rfl, Nat.le_of_ble_eq_true rfl⟩, rfl, (hts _ q_25)⟩ (preIM hP hK hN hD [3] (by decide) rfl) rfl rfl hl.1 rfl (lv_room (Nat.le_of_ble_eq_true rfl)) d_Dem_init_30 ⟨Nat.le_of_ble_eq_true rfl, Nat.le_of_ble_eq_true rfl⟩) hP hD hS hA rfl rfl (by decide) (by decide) (fun u4 H locs hP hD hS => ?_)
  obtain ⟨q5, q6⟩ := u4
  have hP : va_P D vwCl [(a_this, .inr (3, [.ref q1, .ref q2, .null])), (q1, .inl (cI, 200, .inl (fun _ => 0))), (q2, .inl (cI, 200, .inl (fun _ => 0))), (q3, .inr (1, [.ref q5, .ref q6, .int 0])), (q5, .inl (cI, 200, .inl (fun _ => 0))), (q6, .inl (cI, 1200, .inl (fun _ => 0)))] H := hP
  have hD : va_D A [(a_this, .inr (3, [.ref q1, .ref q2, .null])), (q1, .inl (cI, 200, .inl (fun _ => 0))), (q2, .inl (cI, 200, .inl (fun _ => 0))), (q3, .inr (1, [.ref q5, .ref q6, .int 0])), (q5, .inl (cI, 200, .inl (fun _ => 0))), (q6, .inl (cI, 1200, .inl (fun _ => 0)))] := hD
  refine va_putF (D := D) (ci := 3) (v := .ref q3) (ty := .object "KindDesk$Table") (C := R_Dem) (T := T_Dem) (N := 3) hx hb hts in_Dem ty_Dem tyok_Dem nm_Dem hown hK hP hD hS 0 rfl rfl 2 (by decide) (hts _ q_69) (fun _ h9 => h9) rfl hin rfl (by decide +kernel) rfl rfl (Nat.le_of_ble_eq_true rfl) d_Dem_init_33 (fun H locs hP hD hS => ?_)
  have hP : va_P D vwCl [(a_this, .inr (3, [.ref q1, .ref q2, .ref q3])), (q1, .inl (cI, 200, .inl (fun _ => 0))), (q2, .inl (cI, 200, .inl (fun _ => 0))), (q3, .inr (1, [.ref q5, .ref q6, .int 0])), (q5, .inl (cI, 200, .inl (fun _ => 0))), (q6, .inl (cI, 1200, .inl (fun _ => 0)))] H := hP
  have hD : va_D A [(a_this, .inr (3, [.ref q1, .ref q2, .ref q3])), (q1, .inl (cI, 200, .inl (fun _ => 0))), (q2, .inl (cI, 200, .inl (fun _ => 0))), (q3, .inr (1, [.ref q5, .ref q6, .int 0])), (q5, .inl (cI, 200, .inl (fun _ => 0))), (q6, .inl (cI, 1200, .inl (fun _ => 0)))] := hD
  refine W.widen (k := 5) (n := 1803) (by decide) (by decide) ?_
  exact hret (q1, q2, q3, q5, q6) _ _ _ _ hS (hP.sub [0, 1, 2, 3, 4, 5] rfl) (hD.sub [0, 1, 2, 3, 4, 5] (by decide) rfl) d_Dem_init_36
def f_Dem_add (v_this_sorts : Nat → Int32) (v_this_subjects : Nat → Int32) (v_this_variables_size : Int32) (v_this_variables_lengths : Nat → Int32) (v_this_variables_cells : Nat → Int32) (x1 : Int32) (x2 : Int32) (x3 : Int32) : Option (Int32 × (Nat → Int32) × (Nat → Int32) × Int32 × (Nat → Int32) × (Nat → Int32)) :=
  (f_Tab_open 200 v_this_variables_size v_this_variables_lengths).bind fun (r2, u_3, u_4) =>
  (f_Desk_isDemand r2).bind fun r7 =>
  if r7 = 0 then
    some ((-1), v_this_sorts, v_this_subjects, u_3, u_4, v_this_variables_cells)
  else
    if inb r2 200 then
      if inb r2 200 then
        if x3 = (-1) then
          some (r2, (upd v_this_sorts r2.toNatClampNeg x1), (upd v_this_subjects r2.toNatClampNeg x2), u_3, u_4, v_this_variables_cells)
        else
          (f_Tab_append 200 1200 u_3 u_4 v_this_variables_cells x3).bind fun (u_14, u_15) =>
          some (r2, (upd v_this_sorts r2.toNatClampNeg x1), (upd v_this_subjects r2.toNatClampNeg x2), u_3, u_14, u_15)
      else none
    else none
abbrev rm_Dem_add : Room := { frames := 1, cells := 0, slots := 0, locals := 22 }
set_option maxHeartbeats 4000000 in
set_option maxRecDepth 100000 in
theorem c_Dem_add (l : Launch) (D : va_G) (cI : ClassId) (a_this a_this_sorts a_this_subjects a_this_variables a_this_variables_lengths a_this_variables_cells : Nat) (v_this_sorts : Nat → Int32) (v_this_subjects : Nat → Int32) (v_this_variables_size : Int32) (v_this_variables_lengths : Nat → Int32) (v_this_variables_cells : Nat → Int32) (x1 x2 x3 : Int32) {r_ : Int32} {v_this_sorts' : Nat → Int32} {v_this_subjects' : Nat → Int32} {v_this_variables_size' : Int32} {v_this_variables_lengths' : Nat → Int32} {v_this_variables_cells' : Nat → Int32} (hf : f_Dem_add v_this_sorts v_this_subjects v_this_variables_size v_this_variables_lengths v_this_variables_cells x1 x2 x3 = some (r_, v_this_sorts', v_this_subjects', v_this_variables_size', v_this_variables_lengths', v_this_variables_cells')) : CtI l y_Dem_add ws_Dem_add rm_Dem_add D cI [(a_this, .inr (3, [.ref a_this_sorts, .ref a_this_subjects, .ref a_this_variables])), (a_this_sorts, .inl (cI, 200, .inl v_this_sorts)), (a_this_subjects, .inl (cI, 200, .inl v_this_subjects)), (a_this_variables, .inr (1, [.ref a_this_variables_lengths, .ref a_this_variables_cells, .int v_this_variables_size])), (a_this_variables_lengths, .inl (cI, 200, .inl v_this_variables_lengths)), (a_this_variables_cells, .inl (cI, 1200, .inl v_this_variables_cells))] [(a_this, .inr (3, [.ref a_this_sorts, .ref a_this_subjects, .ref a_this_variables])), (a_this_sorts, .inl (cI, 200, .inl v_this_sorts')), (a_this_subjects, .inl (cI, 200, .inl v_this_subjects')), (a_this_variables, .inr (1, [.ref a_this_variables_lengths, .ref a_this_variables_cells, .int v_this_variables_size'])), (a_this_variables_lengths, .inl (cI, 200, .inl v_this_variables_lengths')), (a_this_variables_cells, .inl (cI, 1200, .inl v_this_variables_cells'))] [.ref a_this, .int x1, .int x2, .int x3] .int r_ := by
  refine CtI.ofW (cc := b_Dem_add) (maxL := 5) (ty := .int) (by decide) rfl (Nat.le_of_ble_eq_true rfl) ?_
  intro p e s m args below meth c Q A hx hb hml hown hts hP hK hN hA hD hret ls hl
  have hS : va_S A s.heap s.heap [] := va_S.rf
  have hDL : DL A [a_this, a_this_sorts, a_this_subjects, a_this_variables, a_this_variables_lengths, a_this_variables_cells] := DL.of hD rfl
  have hl : lv_has ls 5 [(0, .ref a_this), (1, .int x1), (2, .int x2), (3, .int x3)] := hl
  unfold f_Dem_add at hf
  refine lv_aload_n hx hb d_Dem_add_0 rfl (lv_at hl 0 rfl) ?_
  refine va_get (D := D) (ci := 3) (v := .ref a_this_variables) (C := R_Dem) (T := T_Dem) (N := 3) hx hb hts in_Dem hown hK hP 0 rfl rfl 2 (by decide) (hts _ q_69) (fun _ h9 => h9) rfl d_Dem_add_1 ?_
  obtain ⟨⟨r2, u_3, u_4⟩, hc1, hf⟩ := gb hf
  dsimp only at hf
  refine kI [(a_this, .inr (3, [.ref a_this_sorts, .ref a_this_subjects, .ref a_this_variables])), (a_this_sorts, .inl (cI, 200, .inl v_this_sorts)), (a_this_subjects, .inl (cI, 200, .inl v_this_subjects)), (a_this_variables, .inr (1, [.ref a_this_variables_lengths, .ref a_this_variables_cells, .int u_3])), (a_this_variables_lengths, .inl (cI, 200, .inl u_4)), (a_this_variables_cells, .inl (cI, 1200, .inl v_this_variables_cells))] [3, 4] [0, 1, 2, 5] (va_runVN (C := R_Tab) (As := []) (rest := []) ⟨hx, hb, hml, hown, hts⟩ (c_Tab_open l D cI a_this_variables a_this_variables_lengths a_this_variables_cells 200 v_this_variables_size v_this_variables_lengths hc1 _) ⟨va_cnB (host := "KindDesk") 0 hts (good_c q_59) rfl rfl rfl (hN _ (List.mem_of_getElem? (i := 11) rfl)) (hts _ q_15) hd_Tab_open ⟨Nat.le_of_ble_eq_true rfl, Nat.le_of_ble_eq_true rfl⟩, (hts _ q_60), (hts _ q_61)⟩ (preVM hP hK hN (hDL _ rfl) [3, 4] (by decide +kernel) rfl rfl rfl) rfl rfl hl.1 rfl (lv_room (Nat.le_of_ble_eq_true rfl)) d_Dem_add_4 ⟨Nat.zero_le _, Nat.zero_le _⟩) hP (hDL _ rfl) hS hA rfl rfl (wr := [(a_this, .inr (3, [.ref a_this_sorts, .ref a_this_subjects, .ref a_this_variables])), (a_this_sorts, .inl (cI, 200, .inl v_this_sorts)), (a_this_subjects, .inl (cI, 200, .inl v_this_subjects)), (a_this_variables_cells, .inl (cI, 1200, .inl v_this_variables_cells))]) rfl rfl (n := 6) rfl (by decide +kernel) (by decide +kernel) (fun H locs hz5 hP hS => ?_)
  refine lv_istore (lv' := [(4, .int r2), (0, .ref a_this), (1, .int x1), (2, .int x2), (3, .int x3)]) hx hb d_Dem_add_7 hl (by decide) rfl (fun ls hl => ?_)
  refine lv_iload hx hb d_Dem_add_9 (lv_at hl 0 rfl) ?_
  obtain ⟨r7, hc6, hf⟩ := gb hf
  refine kP (va_runSN (As := [.int r2]) (rest := []) ⟨hx, hb, hml, hown, hts⟩ (c_Desk_isDemand l D cI r2 hc6) ⟨va_cnB (host := "KindDesk") 1 hts (good_c q_70) rfl rfl rfl (hN _ (List.mem_of_getElem? (i := 12) rfl)) (hts _ q_49) hd_Desk_isDemand ⟨Nat.le_of_ble_eq_true rfl, Nat.le_of_ble_eq_true rfl⟩, (hts _ q_71), trivial⟩ (preSP hP hK hN [] rfl) rfl rfl hl.1 rfl (lv_room (Nat.le_of_ble_eq_true rfl)) d_Dem_add_11 ⟨Nat.zero_le _, Nat.zero_le _⟩) (fun hz8 => ?_)
  refine lv_if_ne (tgt := 19) hx hb d_Dem_add_14 (by decide) (fun c9 => ?_) (fun c9 => ?_)
  · replace hf := gn c9 hf
    refine lv_aload_n hx hb d_Dem_add_19 rfl (lv_at hl 1 rfl) ?_
    refine va_get (D := D) (ci := 3) (v := .ref a_this_sorts) (C := R_Dem) (T := T_Dem) (N := 3) hx hb hts in_Dem hown hK hP 0 rfl rfl 0 (by decide) (hts _ q_66) (fun _ h9 => h9) rfl d_Dem_add_20 ?_
    refine lv_iload hx hb d_Dem_add_23 (lv_at hl 0 rfl) ?_
    refine lv_iload_n hx hb d_Dem_add_25 rfl (lv_at hl 2 rfl) ?_
    obtain ⟨hi10, hf⟩ := gd hf
    refine va_iast hx hb hK hP (hDL _ rfl) hS 1 0 rfl rfl hi10 d_Dem_add_26 (fun H locs hP _ hS => ?_)
    have hP : va_P D vwCl [(a_this, .inr (3, [.ref a_this_sorts, .ref a_this_subjects, .ref a_this_variables])), (a_this_sorts, .inl (cI, 200, .inl (upd v_this_sorts r2.toNatClampNeg x1))), (a_this_subjects, .inl (cI, 200, .inl v_this_subjects)), (a_this_variables, .inr (1, [.ref a_this_variables_lengths, .ref a_this_variables_cells, .int u_3])), (a_this_variables_lengths, .inl (cI, 200, .inl u_4)), (a_this_variables_cells, .inl (cI, 1200, .inl v_this_variables_cells))] H := hP
    refine lv_aload_n hx hb d_Dem_add_27 rfl (lv_at hl 1 rfl) ?_
    refine va_get (D := D) (ci := 3) (v := .ref a_this_subjects) (C := R_Dem) (T := T_Dem) (N := 3) hx hb hts in_Dem hown hK hP 0 rfl rfl 1 (by decide) (hts _ q_67) (fun _ h9 => h9) rfl d_Dem_add_28 ?_
    refine lv_iload hx hb d_Dem_add_31 (lv_at hl 0 rfl) ?_
    refine lv_iload_n hx hb d_Dem_add_33 rfl (lv_at hl 3 rfl) ?_
    obtain ⟨hi11, hf⟩ := gd hf
    refine va_iast hx hb hK hP (hDL _ rfl) hS 2 0 rfl rfl hi11 d_Dem_add_34 (fun H locs hP _ hS => ?_)
    have hP : va_P D vwCl [(a_this, .inr (3, [.ref a_this_sorts, .ref a_this_subjects, .ref a_this_variables])), (a_this_sorts, .inl (cI, 200, .inl (upd v_this_sorts r2.toNatClampNeg x1))), (a_this_subjects, .inl (cI, 200, .inl (upd v_this_subjects r2.toNatClampNeg x2))), (a_this_variables, .inr (1, [.ref a_this_variables_lengths, .ref a_this_variables_cells, .int u_3])), (a_this_variables_lengths, .inl (cI, 200, .inl u_4)), (a_this_variables_cells, .inl (cI, 1200, .inl v_this_variables_cells))] H := hP
    refine lv_iload_n hx hb d_Dem_add_35 rfl (lv_at hl 4 rfl) ?_
    refine lv_iconst (v := (-1)) hx hb d_Dem_add_36 (by decide) ?_
    refine lv_icmp_eq (tgt := 48) hx hb d_Dem_add_37 (by decide) (fun c12 => ?_) (fun c12 => ?_)
    · replace hf := gp c12 hf
      refine lv_iload hx hb d_Dem_add_48 (lv_at hl 0 rfl) ?_
      cases hf
      exact hret _ _ _ _ hS hP rfl d_Dem_add_50
    · replace hf := gn c12 hf
      refine lv_aload_n hx hb d_Dem_add_40 rfl (lv_at hl 1 rfl) ?_
      refine va_get (D := D) (ci := 3) (v := .ref a_this_variables) (C := R_Dem) (T := T_Dem) (N := 3) hx hb hts in_Dem hown hK hP 0 rfl rfl 2 (by decide) (hts _ q_69) (fun _ h9 => h9) rfl d_Dem_add_41 ?_
      refine lv_iload_n hx hb d_Dem_add_44 rfl (lv_at hl 4 rfl) ?_
      obtain ⟨⟨u_14, u_15⟩, hc13, hf⟩ := gb hf
      dsimp only at hf
      refine kV [(a_this, .inr (3, [.ref a_this_sorts, .ref a_this_subjects, .ref a_this_variables])), (a_this_sorts, .inl (cI, 200, .inl (upd v_this_sorts r2.toNatClampNeg x1))), (a_this_subjects, .inl (cI, 200, .inl (upd v_this_subjects r2.toNatClampNeg x2))), (a_this_variables, .inr (1, [.ref a_this_variables_lengths, .ref a_this_variables_cells, .int u_3])), (a_this_variables_lengths, .inl (cI, 200, .inl u_14)), (a_this_variables_cells, .inl (cI, 1200, .inl u_15))] [3, 4, 5] [0, 1, 2] (va_runVN (C := R_Tab) (As := [.int x3]) (rest := []) ⟨hx, hb, hml, hown, hts⟩ (c_Tab_append l D cI a_this_variables a_this_variables_lengths a_this_variables_cells 200 1200 u_3 u_4 v_this_variables_cells x3 hc13 _) ⟨va_cnB (host := "KindDesk") 1 hts (good_c q_14) rfl rfl rfl (hN _ (List.mem_of_getElem? (i := 13) rfl)) (hts _ q_15) hd_Tab_append ⟨Nat.le_of_ble_eq_true rfl, Nat.le_of_ble_eq_true rfl⟩, (hts _ q_17), (hts _ q_18)⟩ (preVM hP hK hN (hDL _ rfl) [3, 4, 5] (by decide +kernel) rfl rfl rfl) rfl rfl hl.1 rfl (lv_room (Nat.le_of_ble_eq_true rfl)) d_Dem_add_45 ⟨Nat.zero_le _, Nat.zero_le _⟩) hP (hDL _ rfl) hS hA rfl rfl (wr := [(a_this, .inr (3, [.ref a_this_sorts, .ref a_this_subjects, .ref a_this_variables])), (a_this_sorts, .inl (cI, 200, .inl (upd v_this_sorts r2.toNatClampNeg x1))), (a_this_subjects, .inl (cI, 200, .inl (upd v_this_subjects r2.toNatClampNeg x2)))]) rfl rfl (n := 6) rfl (by decide +kernel) (by decide +kernel) (fun H locs hP hS => ?_)
      refine lv_iload hx hb d_Dem_add_48 (lv_at hl 0 rfl) ?_
      cases hf
      exact hret _ _ _ _ hS hP rfl d_Dem_add_50
  · replace hf := gp c9 hf
    refine lv_iconst (v := (-1)) hx hb d_Dem_add_17 (by decide) ?_
    cases hf
    exact hret _ _ _ _ hS hP rfl d_Dem_add_18
def f_Dem_count (v_this_variables_size : Int32) : Option (Int32) :=
  some v_this_variables_size
abbrev rm_Dem_count : Room := { frames := 0, cells := 0, slots := 0, locals := 0 }
set_option maxHeartbeats 4000000 in
set_option maxRecDepth 100000 in
theorem c_Dem_count (l : Launch) (D : va_G) (cI : ClassId) (a_this a_this_sorts a_this_subjects a_this_variables a_this_variables_lengths a_this_variables_cells : Nat) (v_this_variables_size : Int32) {r_ : Int32} (hf : f_Dem_count v_this_variables_size = some r_) : CtP l y_Dem_count ws_Dem_count rm_Dem_count D cI [(a_this, .inr (3, [.ref a_this_sorts, .ref a_this_subjects, .ref a_this_variables])), (a_this_variables, .inr (1, [.ref a_this_variables_lengths, .ref a_this_variables_cells, .int v_this_variables_size]))] [.ref a_this] .int r_ := by
  refine CtP.ofW (cc := b_Dem_count) (maxL := 1) (ty := .int) (by decide) rfl (Nat.le_of_ble_eq_true rfl) ?_
  intro p e s m args below meth c Q hx hb hml hown hts hP hK hN hret ls hl
  have hl : lv_has ls 1 [(0, .ref a_this)] := hl
  unfold f_Dem_count at hf
  refine lv_aload_n hx hb d_Dem_count_0 rfl (lv_at hl 0 rfl) ?_
  refine va_get (D := D) (ci := 3) (v := .ref a_this_variables) (C := R_Dem) (T := T_Dem) (N := 3) hx hb hts in_Dem hown hK hP 0 rfl rfl 2 (by decide) (hts _ q_69) (fun _ h9 => h9) rfl d_Dem_count_1 ?_
  refine va_getN (host := "KindDesk") (D := D) (ci := 1) (v := .int v_this_variables_size) (C := R_Tab) (T := T_Tab) (N := 3) hx hb hts in_Tab hown hK hP 1 rfl rfl 2 (by decide) (va_Nw.use rfl (hN _ (List.mem_of_getElem? (i := 14) rfl))) (fun _ h9 => h9) rfl d_Dem_count_4 ?_
  cases hf
  exact hret _ _ rfl d_Dem_count_7
def f_Dem_sortOf (v_this_sorts : Nat → Int32) (x1 : Int32) : Option (Int32) :=
  (f_Desk_isDemand x1).bind fun r2 =>
  if r2 = 0 then
    some (-1)
  else
    if inb x1 200 then
      some (v_this_sorts x1.toNatClampNeg)
    else none
abbrev rm_Dem_sortOf : Room := { frames := 1, cells := 0, slots := 0, locals := 20 }
set_option maxHeartbeats 4000000 in
set_option maxRecDepth 100000 in
theorem c_Dem_sortOf (l : Launch) (D : va_G) (cI : ClassId) (a_this a_this_sorts a_this_subjects a_this_variables : Nat) (v_this_sorts : Nat → Int32) (x1 : Int32) {r_ : Int32} (hf : f_Dem_sortOf v_this_sorts x1 = some r_) : CtP l y_Dem_sortOf ws_Dem_sortOf rm_Dem_sortOf D cI [(a_this, .inr (3, [.ref a_this_sorts, .ref a_this_subjects, .ref a_this_variables])), (a_this_sorts, .inl (cI, 200, .inl v_this_sorts))] [.ref a_this, .int x1] .int r_ := by
  refine CtP.ofW (cc := b_Dem_sortOf) (maxL := 2) (ty := .int) (by decide) rfl (Nat.le_of_ble_eq_true rfl) ?_
  intro p e s m args below meth c Q hx hb hml hown hts hP hK hN hret ls hl
  have hl : lv_has ls 2 [(0, .ref a_this), (1, .int x1)] := hl
  unfold f_Dem_sortOf at hf
  refine lv_iload_n hx hb d_Dem_sortOf_0 rfl (lv_at hl 1 rfl) ?_
  obtain ⟨r2, hc1, hf⟩ := gb hf
  refine kP (va_runSN (As := [.int x1]) (rest := []) ⟨hx, hb, hml, hown, hts⟩ (c_Desk_isDemand l D cI x1 hc1) ⟨va_cnB (host := "KindDesk") 1 hts (good_c q_70) rfl rfl rfl (hN _ (List.mem_of_getElem? (i := 12) rfl)) (hts _ q_49) hd_Desk_isDemand ⟨Nat.le_of_ble_eq_true rfl, Nat.le_of_ble_eq_true rfl⟩, (hts _ q_71), trivial⟩ (preSP hP hK hN [] rfl) rfl rfl hl.1 rfl (lv_room (Nat.le_of_ble_eq_true rfl)) d_Dem_sortOf_1 ⟨Nat.zero_le _, Nat.zero_le _⟩) (fun hz3 => ?_)
  refine lv_if_eq (tgt := 16) hx hb d_Dem_sortOf_4 (by decide) (fun c4 => ?_) (fun c4 => ?_)
  · replace hf := gp c4 hf
    refine lv_iconst (v := (-1)) hx hb d_Dem_sortOf_16 (by decide) ?_
    cases hf
    exact hret _ _ rfl d_Dem_sortOf_17
  · replace hf := gn c4 hf
    refine lv_aload_n hx hb d_Dem_sortOf_7 rfl (lv_at hl 0 rfl) ?_
    refine va_get (D := D) (ci := 3) (v := .ref a_this_sorts) (C := R_Dem) (T := T_Dem) (N := 3) hx hb hts in_Dem hown hK hP 0 rfl rfl 0 (by decide) (hts _ q_66) (fun _ h9 => h9) rfl d_Dem_sortOf_8 ?_
    refine lv_iload_n hx hb d_Dem_sortOf_11 rfl (lv_at hl 1 rfl) ?_
    obtain ⟨hi5, hf⟩ := gd hf
    refine va_iald hx hb hK hP 1 0 rfl rfl hi5 d_Dem_sortOf_12 ?_
    refine lv_goto (tgt := 17) hx hb d_Dem_sortOf_13 (by decide) ?_
    cases hf
    exact hret _ _ rfl d_Dem_sortOf_17
def f_Dem_subjectOf (v_this_subjects : Nat → Int32) (x1 : Int32) : Option (Int32) :=
  (f_Desk_isDemand x1).bind fun r2 =>
  if r2 = 0 then
    some (-1)
  else
    if inb x1 200 then
      some (v_this_subjects x1.toNatClampNeg)
    else none
abbrev rm_Dem_subjectOf : Room := { frames := 1, cells := 0, slots := 0, locals := 20 }
set_option maxHeartbeats 4000000 in
set_option maxRecDepth 100000 in
theorem c_Dem_subjectOf (l : Launch) (D : va_G) (cI : ClassId) (a_this a_this_sorts a_this_subjects a_this_variables : Nat) (v_this_subjects : Nat → Int32) (x1 : Int32) {r_ : Int32} (hf : f_Dem_subjectOf v_this_subjects x1 = some r_) : CtP l y_Dem_subjectOf ws_Dem_subjectOf rm_Dem_subjectOf D cI [(a_this, .inr (3, [.ref a_this_sorts, .ref a_this_subjects, .ref a_this_variables])), (a_this_subjects, .inl (cI, 200, .inl v_this_subjects))] [.ref a_this, .int x1] .int r_ := by
  refine CtP.ofW (cc := b_Dem_subjectOf) (maxL := 2) (ty := .int) (by decide) rfl (Nat.le_of_ble_eq_true rfl) ?_
  intro p e s m args below meth c Q hx hb hml hown hts hP hK hN hret ls hl
  have hl : lv_has ls 2 [(0, .ref a_this), (1, .int x1)] := hl
  unfold f_Dem_subjectOf at hf
  refine lv_iload_n hx hb d_Dem_subjectOf_0 rfl (lv_at hl 1 rfl) ?_
  obtain ⟨r2, hc1, hf⟩ := gb hf
  refine kP (va_runSN (As := [.int x1]) (rest := []) ⟨hx, hb, hml, hown, hts⟩ (c_Desk_isDemand l D cI x1 hc1) ⟨va_cnB (host := "KindDesk") 1 hts (good_c q_70) rfl rfl rfl (hN _ (List.mem_of_getElem? (i := 12) rfl)) (hts _ q_49) hd_Desk_isDemand ⟨Nat.le_of_ble_eq_true rfl, Nat.le_of_ble_eq_true rfl⟩, (hts _ q_71), trivial⟩ (preSP hP hK hN [] rfl) rfl rfl hl.1 rfl (lv_room (Nat.le_of_ble_eq_true rfl)) d_Dem_subjectOf_1 ⟨Nat.zero_le _, Nat.zero_le _⟩) (fun hz3 => ?_)
  refine lv_if_eq (tgt := 16) hx hb d_Dem_subjectOf_4 (by decide) (fun c4 => ?_) (fun c4 => ?_)
  · replace hf := gp c4 hf
    refine lv_iconst (v := (-1)) hx hb d_Dem_subjectOf_16 (by decide) ?_
    cases hf
    exact hret _ _ rfl d_Dem_subjectOf_17
  · replace hf := gn c4 hf
    refine lv_aload_n hx hb d_Dem_subjectOf_7 rfl (lv_at hl 0 rfl) ?_
    refine va_get (D := D) (ci := 3) (v := .ref a_this_subjects) (C := R_Dem) (T := T_Dem) (N := 3) hx hb hts in_Dem hown hK hP 0 rfl rfl 1 (by decide) (hts _ q_67) (fun _ h9 => h9) rfl d_Dem_subjectOf_8 ?_
    refine lv_iload_n hx hb d_Dem_subjectOf_11 rfl (lv_at hl 1 rfl) ?_
    obtain ⟨hi5, hf⟩ := gd hf
    refine va_iald hx hb hK hP 1 0 rfl rfl hi5 d_Dem_subjectOf_12 ?_
    refine lv_goto (tgt := 17) hx hb d_Dem_subjectOf_13 (by decide) ?_
    cases hf
    exact hret _ _ rfl d_Dem_subjectOf_17
def f_Dem_clear : Option (Int32) :=
  some 0
abbrev rm_Dem_clear : Room := { frames := 0, cells := 0, slots := 0, locals := 0 }
set_option maxHeartbeats 4000000 in
set_option maxRecDepth 100000 in
theorem c_Dem_clear (l : Launch) (D : va_G) (cI : ClassId) (a_this a_this_sorts a_this_subjects a_this_variables a_this_variables_lengths a_this_variables_cells : Nat) (v_this_variables_size : Int32) {v_this_variables_size' : Int32} (hf : f_Dem_clear = some v_this_variables_size') : CtV l y_Dem_clear ws_Dem_clear rm_Dem_clear D cI [(a_this, .inr (3, [.ref a_this_sorts, .ref a_this_subjects, .ref a_this_variables])), (a_this_variables, .inr (1, [.ref a_this_variables_lengths, .ref a_this_variables_cells, .int v_this_variables_size]))] [(a_this, .inr (3, [.ref a_this_sorts, .ref a_this_subjects, .ref a_this_variables])), (a_this_variables, .inr (1, [.ref a_this_variables_lengths, .ref a_this_variables_cells, .int v_this_variables_size']))] [.ref a_this] := by
  refine CtV.ofW (cc := b_Dem_clear) (maxL := 1) (by decide) rfl (Nat.le_of_ble_eq_true rfl) ?_
  intro p e s m args below meth c Q A hx hb hml hown hts hP hK hN hA hD hret ls hl
  have hS : va_S A s.heap s.heap [] := va_S.rf
  have hDL : DL A [a_this, a_this_variables] := DL.of hD rfl
  have hl : lv_has ls 1 [(0, .ref a_this)] := hl
  unfold f_Dem_clear at hf
  refine lv_aload_n hx hb d_Dem_clear_0 rfl (lv_at hl 0 rfl) ?_
  refine va_get (D := D) (ci := 3) (v := .ref a_this_variables) (C := R_Dem) (T := T_Dem) (N := 3) hx hb hts in_Dem hown hK hP 0 rfl rfl 2 (by decide) (hts _ q_69) (fun _ h9 => h9) rfl d_Dem_clear_1 ?_
  refine lv_iconst (v := 0) hx hb d_Dem_clear_4 (by decide) ?_
  refine va_putN (host := "KindDesk") (D := D) (ci := 1) (v := .int 0) (ty := .int) (C := R_Tab) (T := T_Tab) (N := 3) hx hb hts in_Tab ty_Tab tyok_Tab nm_Tab hown hK hP (hDL _ rfl) hS 1 rfl rfl 2 (by decide) (va_Nw.use rfl (hN _ (List.mem_of_getElem? (i := 14) rfl))) (fun _ h9 => h9) rfl (by decide +kernel) rfl rfl (Nat.le_of_ble_eq_true rfl) d_Dem_clear_5 (fun H locs hP _ hS => ?_)
  have hP : va_P D vwCl [(a_this, .inr (3, [.ref a_this_sorts, .ref a_this_subjects, .ref a_this_variables])), (a_this_variables, .inr (1, [.ref a_this_variables_lengths, .ref a_this_variables_cells, .int 0]))] H := hP
  cases hf
  exact hret _ _ _ _ hS hP d_Dem_clear_8
end
section
abbrev b_Gro_init : ByteArray := prog_4_method_1_code
def y_Gro_init : MethodName := ⟨R_Gro, "<init>", "()V"⟩
def ws_Gro_init : List Cond := Cond.code y_Gro_init b_Gro_init 1 none :: GW
theorem hd_Gro_init : y_Gro_init.cls ≠ "java/lang/invoke/MethodHandle" ∧ y_Gro_init.cls ≠ "java/lang/invoke/VarHandle" ∧ (parseMethodDescriptor y_Gro_init.desc).map (fun d => d.parameters.length) = some 0 := by decide +kernel
theorem d_Gro_init_0 : decode b_Gro_init 0 = .ok (.aload_n 0, 1) := by decide +kernel
theorem d_Gro_init_1 : decode b_Gro_init 1 = .ok (.invokespecial 3, 3) := by decide +kernel
theorem d_Gro_init_4 : decode b_Gro_init 4 = .ok (.aload_n 0, 1) := by decide +kernel
theorem d_Gro_init_5 : decode b_Gro_init 5 = .ok (.bipush 80, 2) := by decide +kernel
theorem d_Gro_init_7 : decode b_Gro_init 7 = .ok (.newarray .int, 2) := by decide +kernel
theorem d_Gro_init_9 : decode b_Gro_init 9 = .ok (.putfield 9, 3) := by decide +kernel
theorem d_Gro_init_12 : decode b_Gro_init 12 = .ok (.aload_n 0, 1) := by decide +kernel
theorem d_Gro_init_13 : decode b_Gro_init 13 = .ok (.bipush 80, 2) := by decide +kernel
theorem d_Gro_init_15 : decode b_Gro_init 15 = .ok (.newarray .int, 2) := by decide +kernel
theorem d_Gro_init_17 : decode b_Gro_init 17 = .ok (.putfield 15, 3) := by decide +kernel
theorem d_Gro_init_20 : decode b_Gro_init 20 = .ok (.aload_n 0, 1) := by decide +kernel
theorem d_Gro_init_21 : decode b_Gro_init 21 = .ok (.iconst 0, 1) := by decide +kernel
theorem d_Gro_init_22 : decode b_Gro_init 22 = .ok (.putfield 18, 3) := by decide +kernel
theorem d_Gro_init_25 : decode b_Gro_init 25 = .ok (.return_, 1) := by decide +kernel
abbrev b_Gro_scatter : ByteArray := prog_4_method_2_code
def y_Gro_scatter : MethodName := ⟨R_Gro, "scatter", "()V"⟩
def ws_Gro_scatter : List Cond := Cond.code y_Gro_scatter b_Gro_scatter 2 none :: GW
theorem hd_Gro_scatter : y_Gro_scatter.cls ≠ "java/lang/invoke/MethodHandle" ∧ y_Gro_scatter.cls ≠ "java/lang/invoke/VarHandle" ∧ (parseMethodDescriptor y_Gro_scatter.desc).map (fun d => d.parameters.length) = some 0 := by decide +kernel
theorem d_Gro_scatter_0 : decode b_Gro_scatter 0 = .ok (.iconst 0, 1) := by decide +kernel
theorem d_Gro_scatter_1 : decode b_Gro_scatter 1 = .ok (.istore_n 1, 1) := by decide +kernel
theorem d_Gro_scatter_2 : decode b_Gro_scatter 2 = .ok (.iload_n 1, 1) := by decide +kernel
theorem d_Gro_scatter_3 : decode b_Gro_scatter 3 = .ok (.bipush 80, 2) := by decide +kernel
theorem d_Gro_scatter_5 : decode b_Gro_scatter 5 = .ok (.if_icmp .ge 16, 3) := by decide +kernel
theorem d_Gro_scatter_8 : decode b_Gro_scatter 8 = .ok (.aload_n 0, 1) := by decide +kernel
theorem d_Gro_scatter_9 : decode b_Gro_scatter 9 = .ok (.getfield 9, 3) := by decide +kernel
theorem d_Gro_scatter_12 : decode b_Gro_scatter 12 = .ok (.iload_n 1, 1) := by decide +kernel
theorem d_Gro_scatter_13 : decode b_Gro_scatter 13 = .ok (.iload_n 1, 1) := by decide +kernel
theorem d_Gro_scatter_14 : decode b_Gro_scatter 14 = .ok (.iastore, 1) := by decide +kernel
theorem d_Gro_scatter_15 : decode b_Gro_scatter 15 = .ok (.iinc 1 1, 3) := by decide +kernel
theorem d_Gro_scatter_18 : decode b_Gro_scatter 18 = .ok (.goto (-16), 3) := by decide +kernel
theorem d_Gro_scatter_21 : decode b_Gro_scatter 21 = .ok (.aload_n 0, 1) := by decide +kernel
theorem d_Gro_scatter_22 : decode b_Gro_scatter 22 = .ok (.getfield 15, 3) := by decide +kernel
theorem d_Gro_scatter_25 : decode b_Gro_scatter 25 = .ok (.iconst (-1), 1) := by decide +kernel
theorem d_Gro_scatter_26 : decode b_Gro_scatter 26 = .ok (.invokestatic 22, 3) := by decide +kernel
theorem d_Gro_scatter_29 : decode b_Gro_scatter 29 = .ok (.aload_n 0, 1) := by decide +kernel
theorem d_Gro_scatter_30 : decode b_Gro_scatter 30 = .ok (.iconst 0, 1) := by decide +kernel
theorem d_Gro_scatter_31 : decode b_Gro_scatter 31 = .ok (.putfield 18, 3) := by decide +kernel
theorem d_Gro_scatter_34 : decode b_Gro_scatter 34 = .ok (.return_, 1) := by decide +kernel
abbrev b_Gro_kindOf : ByteArray := prog_4_method_3_code
def y_Gro_kindOf : MethodName := ⟨R_Gro, "kindOf", "(I)I"⟩
def ws_Gro_kindOf : List Cond := Cond.code y_Gro_kindOf b_Gro_kindOf 2 (some .int) :: GW
theorem hd_Gro_kindOf : y_Gro_kindOf.cls ≠ "java/lang/invoke/MethodHandle" ∧ y_Gro_kindOf.cls ≠ "java/lang/invoke/VarHandle" ∧ (parseMethodDescriptor y_Gro_kindOf.desc).map (fun d => d.parameters.length) = some 1 := by decide +kernel
theorem d_Gro_kindOf_0 : decode b_Gro_kindOf 0 = .ok (.iload_n 1, 1) := by decide +kernel
theorem d_Gro_kindOf_1 : decode b_Gro_kindOf 1 = .ok (.invokestatic 28, 3) := by decide +kernel
theorem d_Gro_kindOf_4 : decode b_Gro_kindOf 4 = .ok (.ifCond .eq 17, 3) := by decide +kernel
theorem d_Gro_kindOf_7 : decode b_Gro_kindOf 7 = .ok (.aload_n 0, 1) := by decide +kernel
theorem d_Gro_kindOf_8 : decode b_Gro_kindOf 8 = .ok (.getfield 15, 3) := by decide +kernel
theorem d_Gro_kindOf_11 : decode b_Gro_kindOf 11 = .ok (.aload_n 0, 1) := by decide +kernel
theorem d_Gro_kindOf_12 : decode b_Gro_kindOf 12 = .ok (.getfield 9, 3) := by decide +kernel
theorem d_Gro_kindOf_15 : decode b_Gro_kindOf 15 = .ok (.iload_n 1, 1) := by decide +kernel
theorem d_Gro_kindOf_16 : decode b_Gro_kindOf 16 = .ok (.iaload, 1) := by decide +kernel
theorem d_Gro_kindOf_17 : decode b_Gro_kindOf 17 = .ok (.iaload, 1) := by decide +kernel
theorem d_Gro_kindOf_18 : decode b_Gro_kindOf 18 = .ok (.goto 4, 3) := by decide +kernel
theorem d_Gro_kindOf_21 : decode b_Gro_kindOf 21 = .ok (.iconst (-1), 1) := by decide +kernel
theorem d_Gro_kindOf_22 : decode b_Gro_kindOf 22 = .ok (.ireturn, 1) := by decide +kernel
abbrev b_Gro_allows : ByteArray := prog_4_method_4_code
def y_Gro_allows : MethodName := ⟨R_Gro, "allows", "(II)Z"⟩
def ws_Gro_allows : List Cond := Cond.code y_Gro_allows b_Gro_allows 4 (some .boolean) :: GW
theorem hd_Gro_allows : y_Gro_allows.cls ≠ "java/lang/invoke/MethodHandle" ∧ y_Gro_allows.cls ≠ "java/lang/invoke/VarHandle" ∧ (parseMethodDescriptor y_Gro_allows.desc).map (fun d => d.parameters.length) = some 2 := by decide +kernel
theorem d_Gro_allows_0 : decode b_Gro_allows 0 = .ok (.iload_n 1, 1) := by decide +kernel
theorem d_Gro_allows_1 : decode b_Gro_allows 1 = .ok (.invokestatic 28, 3) := by decide +kernel
theorem d_Gro_allows_4 : decode b_Gro_allows 4 = .ok (.ifCond .ne 5, 3) := by decide +kernel
theorem d_Gro_allows_7 : decode b_Gro_allows 7 = .ok (.iconst 0, 1) := by decide +kernel
theorem d_Gro_allows_8 : decode b_Gro_allows 8 = .ok (.ireturn, 1) := by decide +kernel
theorem d_Gro_allows_9 : decode b_Gro_allows 9 = .ok (.aload_n 0, 1) := by decide +kernel
theorem d_Gro_allows_10 : decode b_Gro_allows 10 = .ok (.getfield 15, 3) := by decide +kernel
theorem d_Gro_allows_13 : decode b_Gro_allows 13 = .ok (.aload_n 0, 1) := by decide +kernel
theorem d_Gro_allows_14 : decode b_Gro_allows 14 = .ok (.getfield 9, 3) := by decide +kernel
theorem d_Gro_allows_17 : decode b_Gro_allows 17 = .ok (.iload_n 1, 1) := by decide +kernel
theorem d_Gro_allows_18 : decode b_Gro_allows 18 = .ok (.iaload, 1) := by decide +kernel
theorem d_Gro_allows_19 : decode b_Gro_allows 19 = .ok (.iaload, 1) := by decide +kernel
theorem d_Gro_allows_20 : decode b_Gro_allows 20 = .ok (.istore_n 3, 1) := by decide +kernel
theorem d_Gro_allows_21 : decode b_Gro_allows 21 = .ok (.iload_n 3, 1) := by decide +kernel
theorem d_Gro_allows_22 : decode b_Gro_allows 22 = .ok (.iconst (-1), 1) := by decide +kernel
theorem d_Gro_allows_23 : decode b_Gro_allows 23 = .ok (.if_icmp .eq 8, 3) := by decide +kernel
theorem d_Gro_allows_26 : decode b_Gro_allows 26 = .ok (.iload_n 3, 1) := by decide +kernel
theorem d_Gro_allows_27 : decode b_Gro_allows 27 = .ok (.iload_n 2, 1) := by decide +kernel
theorem d_Gro_allows_28 : decode b_Gro_allows 28 = .ok (.if_icmp .ne 7, 3) := by decide +kernel
theorem d_Gro_allows_31 : decode b_Gro_allows 31 = .ok (.iconst 1, 1) := by decide +kernel
theorem d_Gro_allows_32 : decode b_Gro_allows 32 = .ok (.goto 4, 3) := by decide +kernel
theorem d_Gro_allows_35 : decode b_Gro_allows 35 = .ok (.iconst 0, 1) := by decide +kernel
theorem d_Gro_allows_36 : decode b_Gro_allows 36 = .ok (.ireturn, 1) := by decide +kernel
abbrev b_Gro_give : ByteArray := prog_4_method_5_code
def y_Gro_give : MethodName := ⟨R_Gro, "give", "(II)Z"⟩
def ws_Gro_give : List Cond := Cond.code y_Gro_give b_Gro_give 4 (some .boolean) :: GW
theorem hd_Gro_give : y_Gro_give.cls ≠ "java/lang/invoke/MethodHandle" ∧ y_Gro_give.cls ≠ "java/lang/invoke/VarHandle" ∧ (parseMethodDescriptor y_Gro_give.desc).map (fun d => d.parameters.length) = some 2 := by decide +kernel
theorem d_Gro_give_0 : decode b_Gro_give 0 = .ok (.iload_n 1, 1) := by decide +kernel
theorem d_Gro_give_1 : decode b_Gro_give 1 = .ok (.invokestatic 28, 3) := by decide +kernel
theorem d_Gro_give_4 : decode b_Gro_give 4 = .ok (.ifCond .ne 5, 3) := by decide +kernel
theorem d_Gro_give_7 : decode b_Gro_give 7 = .ok (.iconst 0, 1) := by decide +kernel
theorem d_Gro_give_8 : decode b_Gro_give 8 = .ok (.ireturn, 1) := by decide +kernel
theorem d_Gro_give_9 : decode b_Gro_give 9 = .ok (.aload_n 0, 1) := by decide +kernel
theorem d_Gro_give_10 : decode b_Gro_give 10 = .ok (.getfield 9, 3) := by decide +kernel
theorem d_Gro_give_13 : decode b_Gro_give 13 = .ok (.iload_n 1, 1) := by decide +kernel
theorem d_Gro_give_14 : decode b_Gro_give 14 = .ok (.iaload, 1) := by decide +kernel
theorem d_Gro_give_15 : decode b_Gro_give 15 = .ok (.istore_n 3, 1) := by decide +kernel
theorem d_Gro_give_16 : decode b_Gro_give 16 = .ok (.aload_n 0, 1) := by decide +kernel
theorem d_Gro_give_17 : decode b_Gro_give 17 = .ok (.getfield 15, 3) := by decide +kernel
theorem d_Gro_give_20 : decode b_Gro_give 20 = .ok (.iload_n 3, 1) := by decide +kernel
theorem d_Gro_give_21 : decode b_Gro_give 21 = .ok (.iaload, 1) := by decide +kernel
theorem d_Gro_give_22 : decode b_Gro_give 22 = .ok (.iconst (-1), 1) := by decide +kernel
theorem d_Gro_give_23 : decode b_Gro_give 23 = .ok (.if_icmp .ne 20, 3) := by decide +kernel
theorem d_Gro_give_26 : decode b_Gro_give 26 = .ok (.aload_n 0, 1) := by decide +kernel
theorem d_Gro_give_27 : decode b_Gro_give 27 = .ok (.getfield 15, 3) := by decide +kernel
theorem d_Gro_give_30 : decode b_Gro_give 30 = .ok (.iload_n 3, 1) := by decide +kernel
theorem d_Gro_give_31 : decode b_Gro_give 31 = .ok (.iload_n 2, 1) := by decide +kernel
theorem d_Gro_give_32 : decode b_Gro_give 32 = .ok (.iastore, 1) := by decide +kernel
theorem d_Gro_give_33 : decode b_Gro_give 33 = .ok (.aload_n 0, 1) := by decide +kernel
theorem d_Gro_give_34 : decode b_Gro_give 34 = .ok (.dup, 1) := by decide +kernel
theorem d_Gro_give_35 : decode b_Gro_give 35 = .ok (.getfield 18, 3) := by decide +kernel
theorem d_Gro_give_38 : decode b_Gro_give 38 = .ok (.iconst 1, 1) := by decide +kernel
theorem d_Gro_give_39 : decode b_Gro_give 39 = .ok (.iadd, 1) := by decide +kernel
theorem d_Gro_give_40 : decode b_Gro_give 40 = .ok (.putfield 18, 3) := by decide +kernel
theorem d_Gro_give_43 : decode b_Gro_give 43 = .ok (.aload_n 0, 1) := by decide +kernel
theorem d_Gro_give_44 : decode b_Gro_give 44 = .ok (.getfield 15, 3) := by decide +kernel
theorem d_Gro_give_47 : decode b_Gro_give 47 = .ok (.iload_n 3, 1) := by decide +kernel
theorem d_Gro_give_48 : decode b_Gro_give 48 = .ok (.iaload, 1) := by decide +kernel
theorem d_Gro_give_49 : decode b_Gro_give 49 = .ok (.iload_n 2, 1) := by decide +kernel
theorem d_Gro_give_50 : decode b_Gro_give 50 = .ok (.if_icmp .ne 7, 3) := by decide +kernel
theorem d_Gro_give_53 : decode b_Gro_give 53 = .ok (.iconst 1, 1) := by decide +kernel
theorem d_Gro_give_54 : decode b_Gro_give 54 = .ok (.goto 4, 3) := by decide +kernel
theorem d_Gro_give_57 : decode b_Gro_give 57 = .ok (.iconst 0, 1) := by decide +kernel
theorem d_Gro_give_58 : decode b_Gro_give 58 = .ok (.ireturn, 1) := by decide +kernel
abbrev b_Gro_join : ByteArray := prog_4_method_6_code
def y_Gro_join : MethodName := ⟨R_Gro, "join", "(II)Z"⟩
def ws_Gro_join : List Cond := Cond.code y_Gro_join b_Gro_join 6 (some .boolean) :: GW
theorem hd_Gro_join : y_Gro_join.cls ≠ "java/lang/invoke/MethodHandle" ∧ y_Gro_join.cls ≠ "java/lang/invoke/VarHandle" ∧ (parseMethodDescriptor y_Gro_join.desc).map (fun d => d.parameters.length) = some 2 := by decide +kernel
theorem d_Gro_join_0 : decode b_Gro_join 0 = .ok (.iload_n 1, 1) := by decide +kernel
theorem d_Gro_join_1 : decode b_Gro_join 1 = .ok (.invokestatic 28, 3) := by decide +kernel
theorem d_Gro_join_4 : decode b_Gro_join 4 = .ok (.ifCond .eq 10, 3) := by decide +kernel
theorem d_Gro_join_7 : decode b_Gro_join 7 = .ok (.iload_n 2, 1) := by decide +kernel
theorem d_Gro_join_8 : decode b_Gro_join 8 = .ok (.invokestatic 28, 3) := by decide +kernel
theorem d_Gro_join_11 : decode b_Gro_join 11 = .ok (.ifCond .ne 5, 3) := by decide +kernel
theorem d_Gro_join_14 : decode b_Gro_join 14 = .ok (.iconst 0, 1) := by decide +kernel
theorem d_Gro_join_15 : decode b_Gro_join 15 = .ok (.ireturn, 1) := by decide +kernel
theorem d_Gro_join_16 : decode b_Gro_join 16 = .ok (.aload_n 0, 1) := by decide +kernel
theorem d_Gro_join_17 : decode b_Gro_join 17 = .ok (.getfield 9, 3) := by decide +kernel
theorem d_Gro_join_20 : decode b_Gro_join 20 = .ok (.iload_n 1, 1) := by decide +kernel
theorem d_Gro_join_21 : decode b_Gro_join 21 = .ok (.iaload, 1) := by decide +kernel
theorem d_Gro_join_22 : decode b_Gro_join 22 = .ok (.istore_n 3, 1) := by decide +kernel
theorem d_Gro_join_23 : decode b_Gro_join 23 = .ok (.aload_n 0, 1) := by decide +kernel
theorem d_Gro_join_24 : decode b_Gro_join 24 = .ok (.getfield 9, 3) := by decide +kernel
theorem d_Gro_join_27 : decode b_Gro_join 27 = .ok (.iload_n 2, 1) := by decide +kernel
theorem d_Gro_join_28 : decode b_Gro_join 28 = .ok (.iaload, 1) := by decide +kernel
theorem d_Gro_join_29 : decode b_Gro_join 29 = .ok (.istore 4, 2) := by decide +kernel
theorem d_Gro_join_31 : decode b_Gro_join 31 = .ok (.iload_n 3, 1) := by decide +kernel
theorem d_Gro_join_32 : decode b_Gro_join 32 = .ok (.iload 4, 2) := by decide +kernel
theorem d_Gro_join_34 : decode b_Gro_join 34 = .ok (.if_icmp .ne 5, 3) := by decide +kernel
theorem d_Gro_join_37 : decode b_Gro_join 37 = .ok (.iconst 1, 1) := by decide +kernel
theorem d_Gro_join_38 : decode b_Gro_join 38 = .ok (.ireturn, 1) := by decide +kernel
theorem d_Gro_join_39 : decode b_Gro_join 39 = .ok (.aload_n 0, 1) := by decide +kernel
theorem d_Gro_join_40 : decode b_Gro_join 40 = .ok (.getfield 15, 3) := by decide +kernel
theorem d_Gro_join_43 : decode b_Gro_join 43 = .ok (.iload_n 3, 1) := by decide +kernel
theorem d_Gro_join_44 : decode b_Gro_join 44 = .ok (.iaload, 1) := by decide +kernel
theorem d_Gro_join_45 : decode b_Gro_join 45 = .ok (.iconst (-1), 1) := by decide +kernel
theorem d_Gro_join_46 : decode b_Gro_join 46 = .ok (.if_icmp .ne 19, 3) := by decide +kernel
theorem d_Gro_join_49 : decode b_Gro_join 49 = .ok (.aload_n 0, 1) := by decide +kernel
theorem d_Gro_join_50 : decode b_Gro_join 50 = .ok (.getfield 15, 3) := by decide +kernel
theorem d_Gro_join_53 : decode b_Gro_join 53 = .ok (.iload_n 3, 1) := by decide +kernel
theorem d_Gro_join_54 : decode b_Gro_join 54 = .ok (.aload_n 0, 1) := by decide +kernel
theorem d_Gro_join_55 : decode b_Gro_join 55 = .ok (.getfield 15, 3) := by decide +kernel
theorem d_Gro_join_58 : decode b_Gro_join 58 = .ok (.iload 4, 2) := by decide +kernel
theorem d_Gro_join_60 : decode b_Gro_join 60 = .ok (.iaload, 1) := by decide +kernel
theorem d_Gro_join_61 : decode b_Gro_join 61 = .ok (.iastore, 1) := by decide +kernel
theorem d_Gro_join_62 : decode b_Gro_join 62 = .ok (.goto 32, 3) := by decide +kernel
theorem d_Gro_join_65 : decode b_Gro_join 65 = .ok (.aload_n 0, 1) := by decide +kernel
theorem d_Gro_join_66 : decode b_Gro_join 66 = .ok (.getfield 15, 3) := by decide +kernel
theorem d_Gro_join_69 : decode b_Gro_join 69 = .ok (.iload 4, 2) := by decide +kernel
theorem d_Gro_join_71 : decode b_Gro_join 71 = .ok (.iaload, 1) := by decide +kernel
theorem d_Gro_join_72 : decode b_Gro_join 72 = .ok (.iconst (-1), 1) := by decide +kernel
theorem d_Gro_join_73 : decode b_Gro_join 73 = .ok (.if_icmp .eq 21, 3) := by decide +kernel
theorem d_Gro_join_76 : decode b_Gro_join 76 = .ok (.aload_n 0, 1) := by decide +kernel
theorem d_Gro_join_77 : decode b_Gro_join 77 = .ok (.getfield 15, 3) := by decide +kernel
theorem d_Gro_join_80 : decode b_Gro_join 80 = .ok (.iload 4, 2) := by decide +kernel
theorem d_Gro_join_82 : decode b_Gro_join 82 = .ok (.iaload, 1) := by decide +kernel
theorem d_Gro_join_83 : decode b_Gro_join 83 = .ok (.aload_n 0, 1) := by decide +kernel
theorem d_Gro_join_84 : decode b_Gro_join 84 = .ok (.getfield 15, 3) := by decide +kernel
theorem d_Gro_join_87 : decode b_Gro_join 87 = .ok (.iload_n 3, 1) := by decide +kernel
theorem d_Gro_join_88 : decode b_Gro_join 88 = .ok (.iaload, 1) := by decide +kernel
theorem d_Gro_join_89 : decode b_Gro_join 89 = .ok (.if_icmp .eq 5, 3) := by decide +kernel
theorem d_Gro_join_92 : decode b_Gro_join 92 = .ok (.iconst 0, 1) := by decide +kernel
theorem d_Gro_join_93 : decode b_Gro_join 93 = .ok (.ireturn, 1) := by decide +kernel
theorem d_Gro_join_94 : decode b_Gro_join 94 = .ok (.iconst 0, 1) := by decide +kernel
theorem d_Gro_join_95 : decode b_Gro_join 95 = .ok (.istore 5, 2) := by decide +kernel
theorem d_Gro_join_97 : decode b_Gro_join 97 = .ok (.iload 5, 2) := by decide +kernel
theorem d_Gro_join_99 : decode b_Gro_join 99 = .ok (.bipush 80, 2) := by decide +kernel
theorem d_Gro_join_101 : decode b_Gro_join 101 = .ok (.if_icmp .ge 29, 3) := by decide +kernel
theorem d_Gro_join_104 : decode b_Gro_join 104 = .ok (.aload_n 0, 1) := by decide +kernel
theorem d_Gro_join_105 : decode b_Gro_join 105 = .ok (.getfield 9, 3) := by decide +kernel
theorem d_Gro_join_108 : decode b_Gro_join 108 = .ok (.iload 5, 2) := by decide +kernel
theorem d_Gro_join_110 : decode b_Gro_join 110 = .ok (.iaload, 1) := by decide +kernel
theorem d_Gro_join_111 : decode b_Gro_join 111 = .ok (.iload 4, 2) := by decide +kernel
theorem d_Gro_join_113 : decode b_Gro_join 113 = .ok (.if_icmp .ne 11, 3) := by decide +kernel
theorem d_Gro_join_116 : decode b_Gro_join 116 = .ok (.aload_n 0, 1) := by decide +kernel
theorem d_Gro_join_117 : decode b_Gro_join 117 = .ok (.getfield 9, 3) := by decide +kernel
theorem d_Gro_join_120 : decode b_Gro_join 120 = .ok (.iload 5, 2) := by decide +kernel
theorem d_Gro_join_122 : decode b_Gro_join 122 = .ok (.iload_n 3, 1) := by decide +kernel
theorem d_Gro_join_123 : decode b_Gro_join 123 = .ok (.iastore, 1) := by decide +kernel
theorem d_Gro_join_124 : decode b_Gro_join 124 = .ok (.iinc 5 1, 3) := by decide +kernel
theorem d_Gro_join_127 : decode b_Gro_join 127 = .ok (.goto (-30), 3) := by decide +kernel
theorem d_Gro_join_130 : decode b_Gro_join 130 = .ok (.aload_n 0, 1) := by decide +kernel
theorem d_Gro_join_131 : decode b_Gro_join 131 = .ok (.dup, 1) := by decide +kernel
theorem d_Gro_join_132 : decode b_Gro_join 132 = .ok (.getfield 18, 3) := by decide +kernel
theorem d_Gro_join_135 : decode b_Gro_join 135 = .ok (.iconst 1, 1) := by decide +kernel
theorem d_Gro_join_136 : decode b_Gro_join 136 = .ok (.iadd, 1) := by decide +kernel
theorem d_Gro_join_137 : decode b_Gro_join 137 = .ok (.putfield 18, 3) := by decide +kernel
theorem d_Gro_join_140 : decode b_Gro_join 140 = .ok (.iconst 1, 1) := by decide +kernel
theorem d_Gro_join_141 : decode b_Gro_join 141 = .ok (.ireturn, 1) := by decide +kernel
end
section
abbrev rm_Gro_init : Room := { frames := 1, cells := 2, slots := 160, locals := 12 }
set_option maxHeartbeats 4000000 in
set_option maxRecDepth 100000 in
theorem n_Gro_init (l : Launch) (D : va_G) (cI : ClassId) (a_this : Nat) : CtN l y_Gro_init ws_Gro_init rm_Gro_init D cI [(a_this, .inr (4, [.null, .null, .int 0]))] (fun (u : Nat × Nat) => [(a_this, .inr (4, [.ref u.1, .ref u.2, .int 0])), (u.1, .inl (cI, 80, .inl (fun _ => 0))), (u.2, .inl (cI, 80, .inl (fun _ => 0)))]) [.ref a_this] 2 160 := by
  refine CtN.ofW (cc := b_Gro_init) (maxL := 1) (by decide) rfl (Nat.le_of_ble_eq_true rfl) ?_
  intro p e s m args below meth c Q A hx hb hml hown hts hin hP hK hN hA hD hret ls hl
  have hS : va_S A s.heap s.heap [] := va_S.rf
  have hl : lv_has ls 1 [(0, .ref a_this)] := hl
  refine lv_aload_n hx hb d_Gro_init_0 rfl (lv_at hl 0 rfl) ?_
  refine W.objInit hx hb hown (hts _ q_72) (hts _ q_1) (hts _ q_2) rfl (by rw [hml]; exact hl.1) rfl d_Gro_init_1 (Nat.le_of_ble_eq_true rfl) (Nat.le_of_ble_eq_true rfl) ?_
  refine W.eq (g2 := F0 m 4 ls []) rfl ?_
  refine lv_aload_n hx hb d_Gro_init_4 rfl (lv_at hl 0 rfl) ?_
  refine lv_bipush (v := 80) hx hb d_Gro_init_5 (by decide) ?_
  refine va_newa (atype := .int) (ty := .int) (N' := 80) (a0 := (80, .inl (fun _ => 0))) hx hb (hts _ q_3) rfl hK hP hD hS hA (fun _ => rfl) (by decide) (by decide) (by decide) (Nat.le_of_ble_eq_true rfl) (Nat.le_of_ble_eq_true rfl) d_Gro_init_7 (fun q1 cA H hK2 hP hD hS => ?_)
  obtain rfl : cI = cA := (arr_eq hK2).symm
  have hP : va_P D vwCl [(a_this, .inr (4, [.null, .null, .int 0])), (q1, .inl (cI, 80, .inl (fun _ => 0)))] H := hP
  have hD : va_D A [(a_this, .inr (4, [.null, .null, .int 0])), (q1, .inl (cI, 80, .inl (fun _ => 0)))] := hD
  refine va_putF (D := D) (ci := 4) (v := .ref q1) (ty := (.array .int)) (C := R_Gro) (T := T_Gro) (N := 3) hx hb hts in_Gro ty_Gro tyok_Gro nm_Gro hown hK hP hD hS 0 rfl rfl 0 (by decide) (hts _ q_73) (fun _ h9 => h9) rfl hin rfl (by decide +kernel) rfl rfl (Nat.le_of_ble_eq_true rfl) d_Gro_init_9 (fun H locs hP hD hS => ?_)
  have hP : va_P D vwCl [(a_this, .inr (4, [.ref q1, .null, .int 0])), (q1, .inl (cI, 80, .inl (fun _ => 0)))] H := hP
  have hD : va_D A [(a_this, .inr (4, [.ref q1, .null, .int 0])), (q1, .inl (cI, 80, .inl (fun _ => 0)))] := hD
  refine lv_aload_n hx hb d_Gro_init_12 rfl (lv_at hl 0 rfl) ?_
  refine lv_bipush (v := 80) hx hb d_Gro_init_13 (by decide) ?_
  refine va_newa (atype := .int) (ty := .int) (N' := 80) (a0 := (80, .inl (fun _ => 0))) hx hb (hts _ q_3) rfl hK hP hD hS hA (fun _ => rfl) (by decide) (by decide) (by decide) (Nat.le_of_ble_eq_true rfl) (Nat.le_of_ble_eq_true rfl) d_Gro_init_15 (fun q2 cA H hK2 hP hD hS => ?_)
  obtain rfl : cI = cA := (arr_eq hK2).symm
  have hP : va_P D vwCl [(a_this, .inr (4, [.ref q1, .null, .int 0])), (q1, .inl (cI, 80, .inl (fun _ => 0))), (q2, .inl (cI, 80, .inl (fun _ => 0)))] H := hP
  have hD : va_D A [(a_this, .inr (4, [.ref q1, .null, .int 0])), (q1, .inl (cI, 80, .inl (fun _ => 0))), (q2, .inl (cI, 80, .inl (fun _ => 0)))] := hD
  refine va_putF (D := D) (ci := 4) (v := .ref q2) (ty := (.array .int)) (C := R_Gro) (T := T_Gro) (N := 3) hx hb hts in_Gro ty_Gro tyok_Gro nm_Gro hown hK hP hD hS 0 rfl rfl 1 (by decide) (hts _ q_74) (fun _ h9 => h9) rfl hin rfl (by decide +kernel) rfl rfl (Nat.le_of_ble_eq_true rfl) d_Gro_init_17 (fun H locs hP hD hS => ?_)
  have hP : va_P D vwCl [(a_this, .inr (4, [.ref q1, .ref q2, .int 0])), (q1, .inl (cI, 80, .inl (fun _ => 0))), (q2, .inl (cI, 80, .inl (fun _ => 0)))] H := hP
  have hD : va_D A [(a_this, .inr (4, [.ref q1, .ref q2, .int 0])), (q1, .inl (cI, 80, .inl (fun _ => 0))), (q2, .inl (cI, 80, .inl (fun _ => 0)))] := hD
  refine lv_aload_n hx hb d_Gro_init_20 rfl (lv_at hl 0 rfl) ?_
  refine lv_iconst (v := 0) hx hb d_Gro_init_21 (by decide) ?_
  refine va_put (D := D) (ci := 4) (v := .int 0) (ty := .int) (C := R_Gro) (T := T_Gro) (N := 3) hx hb hts in_Gro ty_Gro tyok_Gro nm_Gro hown hK hP hD hS 0 rfl rfl 2 (by decide) (hts _ q_75) (fun _ h9 => h9) rfl (by decide +kernel) rfl rfl (Nat.le_of_ble_eq_true rfl) d_Gro_init_22 (fun H locs hP hD hS => ?_)
  have hP : va_P D vwCl [(a_this, .inr (4, [.ref q1, .ref q2, .int 0])), (q1, .inl (cI, 80, .inl (fun _ => 0))), (q2, .inl (cI, 80, .inl (fun _ => 0)))] H := hP
  have hD : va_D A [(a_this, .inr (4, [.ref q1, .ref q2, .int 0])), (q1, .inl (cI, 80, .inl (fun _ => 0))), (q2, .inl (cI, 80, .inl (fun _ => 0)))] := hD
  refine W.widen (k := 2) (n := 160) (by decide) (by decide) ?_
  exact hret (q1, q2) _ _ _ _ hS (hP.sub [0, 1, 2] rfl) (hD.sub [0, 1, 2] (by decide) rfl) d_Gro_init_25
def f_Gro_scatter_L2 (k : Int32 → (Nat → Int32) → Option (Int32 × (Nat → Int32) × (Nat → Int32))) : Nat → Int32 → (Nat → Int32) → Option (Int32 × (Nat → Int32) × (Nat → Int32))
  | 0, _, _ => none
  | n + 1, y1_2, w_this_groups_2 =>
    if 80 ≤ y1_2 then
      k y1_2 w_this_groups_2
    else
      if inb y1_2 80 then
        f_Gro_scatter_L2 k n (y1_2 + 1) (upd w_this_groups_2 y1_2.toNatClampNeg y1_2)
      else none
def f_Gro_scatter (v_this_groups : Nat → Int32) (v_this_groupKinds : Nat → Int32) : Option (Int32 × (Nat → Int32) × (Nat → Int32)) :=
  f_Gro_scatter_L2 (fun y1_2 w_this_groups_2 =>
    (f_Arr_fill 80 v_this_groupKinds (-1)).bind fun u_4 =>
    some (0, w_this_groups_2, u_4)) FU 0 v_this_groups
abbrev rm_Gro_scatter : Room := { frames := 1, cells := 0, slots := 0, locals := 23 }
set_option maxHeartbeats 4000000 in
set_option maxRecDepth 100000 in
theorem c_Gro_scatter (l : Launch) (D : va_G) (cI : ClassId) (a_this a_this_groups a_this_groupKinds : Nat) (v_this_changes : Int32) (v_this_groups : Nat → Int32) (v_this_groupKinds : Nat → Int32) {v_this_changes' : Int32} {v_this_groups' : Nat → Int32} {v_this_groupKinds' : Nat → Int32} (hf : f_Gro_scatter v_this_groups v_this_groupKinds = some (v_this_changes', v_this_groups', v_this_groupKinds')) : CtV l y_Gro_scatter ws_Gro_scatter rm_Gro_scatter D cI [(a_this, .inr (4, [.ref a_this_groups, .ref a_this_groupKinds, .int v_this_changes])), (a_this_groups, .inl (cI, 80, .inl v_this_groups)), (a_this_groupKinds, .inl (cI, 80, .inl v_this_groupKinds))] [(a_this, .inr (4, [.ref a_this_groups, .ref a_this_groupKinds, .int v_this_changes'])), (a_this_groups, .inl (cI, 80, .inl v_this_groups')), (a_this_groupKinds, .inl (cI, 80, .inl v_this_groupKinds'))] [.ref a_this] := by
  refine CtV.ofW (cc := b_Gro_scatter) (maxL := 2) (by decide) rfl (Nat.le_of_ble_eq_true rfl) ?_
  intro p e s m args below meth c Q A hx hb hml hown hts hP hK hN hA hD hret ls hl
  have hS : va_S A s.heap s.heap [] := va_S.rf
  have hDL : DL A [a_this, a_this_groups, a_this_groupKinds] := DL.of hD rfl
  have hl : lv_has ls 2 [(0, .ref a_this)] := hl
  unfold f_Gro_scatter at hf
  refine lv_iconst (v := 0) hx hb d_Gro_scatter_0 (by decide) ?_
  refine lv_istore_n (lv' := [(1, .int 0), (0, .ref a_this)]) hx hb d_Gro_scatter_1 rfl hl (by decide) rfl (fun ls hl => ?_)
  have lp2 : ∀ (kk : Int32 → (Nat → Int32) → Option (Int32 × (Nat → Int32) × (Nat → Int32))), (∀ (y1_2 : Int32) (w_this_groups_2 : Nat → Int32) (H : Heap) (locs : List Loc) (ls : Array Slot), va_P D vwCl [(a_this, .inr (4, [.ref a_this_groups, .ref a_this_groupKinds, .int v_this_changes])), (a_this_groups, .inl (cI, 80, .inl w_this_groups_2)), (a_this_groupKinds, .inl (cI, 80, .inl v_this_groupKinds))] H → va_S A s.heap H locs → lv_has ls 2 [(1, .int y1_2), (0, .ref a_this)] → kk y1_2 w_this_groups_2 = some (v_this_changes', v_this_groups', v_this_groupKinds') → W p l e rm_Gro_scatter s m args below meth c H locs 0 0 Q (F0 m 21 ls [])) → ∀ (n : Nat) (y1_2 : Int32) (w_this_groups_2 : Nat → Int32) (H : Heap) (locs : List Loc) (ls : Array Slot), va_P D vwCl [(a_this, .inr (4, [.ref a_this_groups, .ref a_this_groupKinds, .int v_this_changes])), (a_this_groups, .inl (cI, 80, .inl w_this_groups_2)), (a_this_groupKinds, .inl (cI, 80, .inl v_this_groupKinds))] H → va_S A s.heap H locs → lv_has ls 2 [(1, .int y1_2), (0, .ref a_this)] → f_Gro_scatter_L2 kk n y1_2 w_this_groups_2 = some (v_this_changes', v_this_groups', v_this_groupKinds') → W p l e rm_Gro_scatter s m args below meth c H locs 0 0 Q (F0 m 2 ls []) := by
    intro kk hk2 n
    induction n with
    | zero =>
      intro y1_2 w_this_groups_2 H locs ls hP hS hl hf
      rw [f_Gro_scatter_L2] at hf
      cases hf
    | succ n ih2 =>
      intro y1_2 w_this_groups_2 H locs ls hP hS hl hf
      rw [f_Gro_scatter_L2] at hf
      refine lv_iload_n hx hb d_Gro_scatter_2 rfl (lv_at hl 0 rfl) ?_
      refine lv_bipush (v := 80) hx hb d_Gro_scatter_3 (by decide) ?_
      refine lv_icmp_ge (tgt := 21) hx hb d_Gro_scatter_5 (by decide) (fun c1 => ?_) (fun c1 => ?_)
      · replace hf := gp c1 hf
        exact hk2 y1_2 w_this_groups_2 _ _ _ hP hS (lv_sub hl [0, 1] rfl) hf
      · replace hf := gn c1 hf
        refine lv_aload_n hx hb d_Gro_scatter_8 rfl (lv_at hl 1 rfl) ?_
        refine va_get (D := D) (ci := 4) (v := .ref a_this_groups) (C := R_Gro) (T := T_Gro) (N := 3) hx hb hts in_Gro hown hK hP 0 rfl rfl 0 (by decide) (hts _ q_73) (fun _ h9 => h9) rfl d_Gro_scatter_9 ?_
        refine lv_iload_n hx hb d_Gro_scatter_12 rfl (lv_at hl 0 rfl) ?_
        refine lv_iload_n hx hb d_Gro_scatter_13 rfl (lv_at hl 0 rfl) ?_
        obtain ⟨hi2, hf⟩ := gd hf
        refine va_iast hx hb hK hP (hDL _ rfl) hS 1 0 rfl rfl hi2 d_Gro_scatter_14 (fun H locs hP _ hS => ?_)
        have hP : va_P D vwCl [(a_this, .inr (4, [.ref a_this_groups, .ref a_this_groupKinds, .int v_this_changes])), (a_this_groups, .inl (cI, 80, .inl (upd w_this_groups_2 y1_2.toNatClampNeg y1_2))), (a_this_groupKinds, .inl (cI, 80, .inl v_this_groupKinds))] H := hP
        refine lv_iinc (v := (y1_2 + 1)) (lv' := [(1, .int (y1_2 + 1)), (0, .ref a_this)]) hx hb d_Gro_scatter_15 hl (k := 0) rfl rfl (by decide) rfl (fun ls hl => ?_)
        refine lv_goto (tgt := 2) hx hb d_Gro_scatter_18 (by decide) ?_
        exact ih2 (y1_2 + 1) (upd w_this_groups_2 y1_2.toNatClampNeg y1_2) _ _ _ hP hS (lv_sub hl [0, 1] rfl) hf
  refine lp2 _ (fun y1_2 w_this_groups_2 H locs ls hP hS hl hf => ?_) FU 0 v_this_groups _ _ _ hP hS (lv_sub hl [0, 1] rfl) hf
  refine lv_aload_n hx hb d_Gro_scatter_21 rfl (lv_at hl 1 rfl) ?_
  refine va_get (D := D) (ci := 4) (v := .ref a_this_groupKinds) (C := R_Gro) (T := T_Gro) (N := 3) hx hb hts in_Gro hown hK hP 0 rfl rfl 1 (by decide) (hts _ q_74) (fun _ h9 => h9) rfl d_Gro_scatter_22 ?_
  refine lv_iconst (v := (-1)) hx hb d_Gro_scatter_25 (by decide) ?_
  obtain ⟨u_4, hc3, hf⟩ := gb hf
  refine kV [(a_this, .inr (4, [.ref a_this_groups, .ref a_this_groupKinds, .int v_this_changes])), (a_this_groups, .inl (cI, 80, .inl w_this_groups_2)), (a_this_groupKinds, .inl (cI, 80, .inl u_4))] [2] [0, 1] (va_runS (As := [.ref a_this_groupKinds, .int (-1)]) (rest := []) ⟨hx, hb, hml, hown, hts⟩ (c_Arr_fill l D cI a_this_groupKinds 80 v_this_groupKinds (-1) hc3 _) ⟨callB_of 2 hts (good_c q_76) rfl rfl rfl (hts _ q_77) (hts _ q_78) hd_Arr_fill ⟨Nat.le_of_ble_eq_true rfl, Nat.le_of_ble_eq_true rfl⟩, (hts _ q_79)⟩ (preSM hP hK hN (hDL _ rfl) [2] (by decide +kernel) rfl) rfl rfl hl.1 rfl (lv_room (Nat.le_of_ble_eq_true rfl)) d_Gro_scatter_26 ⟨Nat.zero_le _, Nat.zero_le _⟩) hP (hDL _ rfl) hS hA rfl rfl (wr := [(a_this, .inr (4, [.ref a_this_groups, .ref a_this_groupKinds, .int v_this_changes])), (a_this_groups, .inl (cI, 80, .inl w_this_groups_2))]) rfl rfl (n := 3) rfl (by decide +kernel) (by decide +kernel) (fun H locs hP hS => ?_)
  refine lv_aload_n hx hb d_Gro_scatter_29 rfl (lv_at hl 1 rfl) ?_
  refine lv_iconst (v := 0) hx hb d_Gro_scatter_30 (by decide) ?_
  refine va_put (D := D) (ci := 4) (v := .int 0) (ty := .int) (C := R_Gro) (T := T_Gro) (N := 3) hx hb hts in_Gro ty_Gro tyok_Gro nm_Gro hown hK hP (hDL _ rfl) hS 0 rfl rfl 2 (by decide) (hts _ q_75) (fun _ h9 => h9) rfl (by decide +kernel) rfl rfl (Nat.le_of_ble_eq_true rfl) d_Gro_scatter_31 (fun H locs hP _ hS => ?_)
  have hP : va_P D vwCl [(a_this, .inr (4, [.ref a_this_groups, .ref a_this_groupKinds, .int 0])), (a_this_groups, .inl (cI, 80, .inl w_this_groups_2)), (a_this_groupKinds, .inl (cI, 80, .inl u_4))] H := hP
  cases hf
  exact hret _ _ _ _ hS hP d_Gro_scatter_34
def f_Gro_kindOf (v_this_groups : Nat → Int32) (v_this_groupKinds : Nat → Int32) (x1 : Int32) : Option (Int32) :=
  (f_Desk_isVariable x1).bind fun r2 =>
  if r2 = 0 then
    some (-1)
  else
    if inb x1 80 then
      if inb (v_this_groups x1.toNatClampNeg) 80 then
        some (v_this_groupKinds (v_this_groups x1.toNatClampNeg).toNatClampNeg)
      else none
    else none
abbrev rm_Gro_kindOf : Room := { frames := 1, cells := 0, slots := 0, locals := 20 }
set_option maxHeartbeats 4000000 in
set_option maxRecDepth 100000 in
theorem c_Gro_kindOf (l : Launch) (D : va_G) (cI : ClassId) (a_this a_this_groups a_this_groupKinds : Nat) (v_this_changes : Int32) (v_this_groups : Nat → Int32) (v_this_groupKinds : Nat → Int32) (x1 : Int32) {r_ : Int32} (hf : f_Gro_kindOf v_this_groups v_this_groupKinds x1 = some r_) : CtP l y_Gro_kindOf ws_Gro_kindOf rm_Gro_kindOf D cI [(a_this, .inr (4, [.ref a_this_groups, .ref a_this_groupKinds, .int v_this_changes])), (a_this_groups, .inl (cI, 80, .inl v_this_groups)), (a_this_groupKinds, .inl (cI, 80, .inl v_this_groupKinds))] [.ref a_this, .int x1] .int r_ := by
  refine CtP.ofW (cc := b_Gro_kindOf) (maxL := 2) (ty := .int) (by decide) rfl (Nat.le_of_ble_eq_true rfl) ?_
  intro p e s m args below meth c Q hx hb hml hown hts hP hK hN hret ls hl
  have hl : lv_has ls 2 [(0, .ref a_this), (1, .int x1)] := hl
  unfold f_Gro_kindOf at hf
  refine lv_iload_n hx hb d_Gro_kindOf_0 rfl (lv_at hl 1 rfl) ?_
  obtain ⟨r2, hc1, hf⟩ := gb hf
  refine kP (va_runSN (As := [.int x1]) (rest := []) ⟨hx, hb, hml, hown, hts⟩ (c_Desk_isVariable l D cI x1 hc1) ⟨va_cnB (host := "KindDesk") 1 hts (good_c q_80) rfl rfl rfl (hN _ (List.mem_of_getElem? (i := 15) rfl)) (hts _ q_49) hd_Desk_isVariable ⟨Nat.le_of_ble_eq_true rfl, Nat.le_of_ble_eq_true rfl⟩, (hts _ q_81), trivial⟩ (preSP hP hK hN [] rfl) rfl rfl hl.1 rfl (lv_room (Nat.le_of_ble_eq_true rfl)) d_Gro_kindOf_1 ⟨Nat.zero_le _, Nat.zero_le _⟩) (fun hz3 => ?_)
  refine lv_if_eq (tgt := 21) hx hb d_Gro_kindOf_4 (by decide) (fun c4 => ?_) (fun c4 => ?_)
  · replace hf := gp c4 hf
    refine lv_iconst (v := (-1)) hx hb d_Gro_kindOf_21 (by decide) ?_
    cases hf
    exact hret _ _ rfl d_Gro_kindOf_22
  · replace hf := gn c4 hf
    refine lv_aload_n hx hb d_Gro_kindOf_7 rfl (lv_at hl 0 rfl) ?_
    refine va_get (D := D) (ci := 4) (v := .ref a_this_groupKinds) (C := R_Gro) (T := T_Gro) (N := 3) hx hb hts in_Gro hown hK hP 0 rfl rfl 1 (by decide) (hts _ q_74) (fun _ h9 => h9) rfl d_Gro_kindOf_8 ?_
    refine lv_aload_n hx hb d_Gro_kindOf_11 rfl (lv_at hl 0 rfl) ?_
    refine va_get (D := D) (ci := 4) (v := .ref a_this_groups) (C := R_Gro) (T := T_Gro) (N := 3) hx hb hts in_Gro hown hK hP 0 rfl rfl 0 (by decide) (hts _ q_73) (fun _ h9 => h9) rfl d_Gro_kindOf_12 ?_
    refine lv_iload_n hx hb d_Gro_kindOf_15 rfl (lv_at hl 1 rfl) ?_
    obtain ⟨hi5, hf⟩ := gd hf
    refine va_iald hx hb hK hP 1 0 rfl rfl hi5 d_Gro_kindOf_16 ?_
    obtain ⟨hi6, hf⟩ := gd hf
    refine va_iald hx hb hK hP 2 0 rfl rfl hi6 d_Gro_kindOf_17 ?_
    refine lv_goto (tgt := 22) hx hb d_Gro_kindOf_18 (by decide) ?_
    cases hf
    exact hret _ _ rfl d_Gro_kindOf_22
def f_Gro_allows (v_this_groups : Nat → Int32) (v_this_groupKinds : Nat → Int32) (x1 : Int32) (x2 : Int32) : Option (Int32) :=
  (f_Desk_isVariable x1).bind fun r2 =>
  if r2 = 0 then
    some 0
  else
    if inb x1 80 then
      if inb (v_this_groups x1.toNatClampNeg) 80 then
        if (v_this_groupKinds (v_this_groups x1.toNatClampNeg).toNatClampNeg) = (-1) then
          some 1
        else
          if (v_this_groupKinds (v_this_groups x1.toNatClampNeg).toNatClampNeg) = x2 then
            some 1
          else
            some 0
      else none
    else none
abbrev rm_Gro_allows : Room := { frames := 1, cells := 0, slots := 0, locals := 20 }
set_option maxHeartbeats 4000000 in
set_option maxRecDepth 100000 in
theorem c_Gro_allows (l : Launch) (D : va_G) (cI : ClassId) (a_this a_this_groups a_this_groupKinds : Nat) (v_this_changes : Int32) (v_this_groups : Nat → Int32) (v_this_groupKinds : Nat → Int32) (x1 x2 : Int32) {r_ : Int32} (hf : f_Gro_allows v_this_groups v_this_groupKinds x1 x2 = some r_) : CtP l y_Gro_allows ws_Gro_allows rm_Gro_allows D cI [(a_this, .inr (4, [.ref a_this_groups, .ref a_this_groupKinds, .int v_this_changes])), (a_this_groups, .inl (cI, 80, .inl v_this_groups)), (a_this_groupKinds, .inl (cI, 80, .inl v_this_groupKinds))] [.ref a_this, .int x1, .int x2] .boolean r_ := by
  refine CtP.ofW (cc := b_Gro_allows) (maxL := 4) (ty := .boolean) (by decide) rfl (Nat.le_of_ble_eq_true rfl) ?_
  intro p e s m args below meth c Q hx hb hml hown hts hP hK hN hret ls hl
  have hl : lv_has ls 4 [(0, .ref a_this), (1, .int x1), (2, .int x2)] := hl
  unfold f_Gro_allows at hf
  refine lv_iload_n hx hb d_Gro_allows_0 rfl (lv_at hl 1 rfl) ?_
  obtain ⟨r2, hc1, hf⟩ := gb hf
  refine kP (va_runSN (As := [.int x1]) (rest := []) ⟨hx, hb, hml, hown, hts⟩ (c_Desk_isVariable l D cI x1 hc1) ⟨va_cnB (host := "KindDesk") 1 hts (good_c q_80) rfl rfl rfl (hN _ (List.mem_of_getElem? (i := 15) rfl)) (hts _ q_49) hd_Desk_isVariable ⟨Nat.le_of_ble_eq_true rfl, Nat.le_of_ble_eq_true rfl⟩, (hts _ q_81), trivial⟩ (preSP hP hK hN [] rfl) rfl rfl hl.1 rfl (lv_room (Nat.le_of_ble_eq_true rfl)) d_Gro_allows_1 ⟨Nat.zero_le _, Nat.zero_le _⟩) (fun hz3 => ?_)
  refine lv_if_ne (tgt := 9) hx hb d_Gro_allows_4 (by decide) (fun c4 => ?_) (fun c4 => ?_)
  · replace hf := gn c4 hf
    refine lv_aload_n hx hb d_Gro_allows_9 rfl (lv_at hl 0 rfl) ?_
    refine va_get (D := D) (ci := 4) (v := .ref a_this_groupKinds) (C := R_Gro) (T := T_Gro) (N := 3) hx hb hts in_Gro hown hK hP 0 rfl rfl 1 (by decide) (hts _ q_74) (fun _ h9 => h9) rfl d_Gro_allows_10 ?_
    refine lv_aload_n hx hb d_Gro_allows_13 rfl (lv_at hl 0 rfl) ?_
    refine va_get (D := D) (ci := 4) (v := .ref a_this_groups) (C := R_Gro) (T := T_Gro) (N := 3) hx hb hts in_Gro hown hK hP 0 rfl rfl 0 (by decide) (hts _ q_73) (fun _ h9 => h9) rfl d_Gro_allows_14 ?_
    refine lv_iload_n hx hb d_Gro_allows_17 rfl (lv_at hl 1 rfl) ?_
    obtain ⟨hi5, hf⟩ := gd hf
    refine va_iald hx hb hK hP 1 0 rfl rfl hi5 d_Gro_allows_18 ?_
    obtain ⟨hi6, hf⟩ := gd hf
    refine va_iald hx hb hK hP 2 0 rfl rfl hi6 d_Gro_allows_19 ?_
    refine lv_istore_n (lv' := [(3, .int (v_this_groupKinds (v_this_groups x1.toNatClampNeg).toNatClampNeg)), (0, .ref a_this), (1, .int x1), (2, .int x2)]) hx hb d_Gro_allows_20 rfl hl (by decide) rfl (fun ls hl => ?_)
    refine lv_iload_n hx hb d_Gro_allows_21 rfl (lv_at hl 0 rfl) ?_
    refine lv_iconst (v := (-1)) hx hb d_Gro_allows_22 (by decide) ?_
    refine lv_icmp_eq (tgt := 31) hx hb d_Gro_allows_23 (by decide) (fun c7 => ?_) (fun c7 => ?_)
    · replace hf := gp c7 hf
      refine lv_iconst (v := 1) hx hb d_Gro_allows_31 (by decide) ?_
      refine lv_goto (tgt := 36) hx hb d_Gro_allows_32 (by decide) ?_
      cases hf
      exact hret _ _ rfl d_Gro_allows_36
    · replace hf := gn c7 hf
      refine lv_iload_n hx hb d_Gro_allows_26 rfl (lv_at hl 0 rfl) ?_
      refine lv_iload_n hx hb d_Gro_allows_27 rfl (lv_at hl 3 rfl) ?_
      refine lv_icmp_ne (tgt := 35) hx hb d_Gro_allows_28 (by decide) (fun c8 => ?_) (fun c8 => ?_)
      · replace hf := gn c8 hf
        refine lv_iconst (v := 0) hx hb d_Gro_allows_35 (by decide) ?_
        cases hf
        exact hret _ _ rfl d_Gro_allows_36
      · replace hf := gp c8 hf
        refine lv_iconst (v := 1) hx hb d_Gro_allows_31 (by decide) ?_
        refine lv_goto (tgt := 36) hx hb d_Gro_allows_32 (by decide) ?_
        cases hf
        exact hret _ _ rfl d_Gro_allows_36
  · replace hf := gp c4 hf
    refine lv_iconst (v := 0) hx hb d_Gro_allows_7 (by decide) ?_
    cases hf
    exact hret _ _ rfl d_Gro_allows_8
def f_Gro_give (v_this_changes : Int32) (v_this_groups : Nat → Int32) (v_this_groupKinds : Nat → Int32) (x1 : Int32) (x2 : Int32) : Option (Int32 × Int32 × (Nat → Int32)) :=
  (f_Desk_isVariable x1).bind fun r2 =>
  if r2 = 0 then
    some (0, v_this_changes, v_this_groupKinds)
  else
    if inb x1 80 then
      if inb (v_this_groups x1.toNatClampNeg) 80 then
        if (v_this_groupKinds (v_this_groups x1.toNatClampNeg).toNatClampNeg) = (-1) then
          if inb (v_this_groups x1.toNatClampNeg) 80 then
            if inb (v_this_groups x1.toNatClampNeg) 80 then
              if ((upd v_this_groupKinds (v_this_groups x1.toNatClampNeg).toNatClampNeg x2) (v_this_groups x1.toNatClampNeg).toNatClampNeg) = x2 then
                some (1, (v_this_changes + 1), (upd v_this_groupKinds (v_this_groups x1.toNatClampNeg).toNatClampNeg x2))
              else
                some (0, (v_this_changes + 1), (upd v_this_groupKinds (v_this_groups x1.toNatClampNeg).toNatClampNeg x2))
            else none
          else none
        else
          if inb (v_this_groups x1.toNatClampNeg) 80 then
            if (v_this_groupKinds (v_this_groups x1.toNatClampNeg).toNatClampNeg) = x2 then
              some (1, v_this_changes, v_this_groupKinds)
            else
              some (0, v_this_changes, v_this_groupKinds)
          else none
      else none
    else none
abbrev rm_Gro_give : Room := { frames := 1, cells := 0, slots := 0, locals := 20 }
set_option maxHeartbeats 4000000 in
set_option maxRecDepth 100000 in
theorem c_Gro_give (l : Launch) (D : va_G) (cI : ClassId) (a_this a_this_groups a_this_groupKinds : Nat) (v_this_changes : Int32) (v_this_groups : Nat → Int32) (v_this_groupKinds : Nat → Int32) (x1 x2 : Int32) {r_ : Int32} {v_this_changes' : Int32} {v_this_groupKinds' : Nat → Int32} (hf : f_Gro_give v_this_changes v_this_groups v_this_groupKinds x1 x2 = some (r_, v_this_changes', v_this_groupKinds')) : CtI l y_Gro_give ws_Gro_give rm_Gro_give D cI [(a_this, .inr (4, [.ref a_this_groups, .ref a_this_groupKinds, .int v_this_changes])), (a_this_groups, .inl (cI, 80, .inl v_this_groups)), (a_this_groupKinds, .inl (cI, 80, .inl v_this_groupKinds))] [(a_this, .inr (4, [.ref a_this_groups, .ref a_this_groupKinds, .int v_this_changes'])), (a_this_groups, .inl (cI, 80, .inl v_this_groups)), (a_this_groupKinds, .inl (cI, 80, .inl v_this_groupKinds'))] [.ref a_this, .int x1, .int x2] .boolean r_ := by
  refine CtI.ofW (cc := b_Gro_give) (maxL := 4) (ty := .boolean) (by decide) rfl (Nat.le_of_ble_eq_true rfl) ?_
  intro p e s m args below meth c Q A hx hb hml hown hts hP hK hN hA hD hret ls hl
  have hS : va_S A s.heap s.heap [] := va_S.rf
  have hDL : DL A [a_this, a_this_groups, a_this_groupKinds] := DL.of hD rfl
  have hl : lv_has ls 4 [(0, .ref a_this), (1, .int x1), (2, .int x2)] := hl
  unfold f_Gro_give at hf
  refine lv_iload_n hx hb d_Gro_give_0 rfl (lv_at hl 1 rfl) ?_
  obtain ⟨r2, hc1, hf⟩ := gb hf
  refine kP (va_runSN (As := [.int x1]) (rest := []) ⟨hx, hb, hml, hown, hts⟩ (c_Desk_isVariable l D cI x1 hc1) ⟨va_cnB (host := "KindDesk") 1 hts (good_c q_80) rfl rfl rfl (hN _ (List.mem_of_getElem? (i := 15) rfl)) (hts _ q_49) hd_Desk_isVariable ⟨Nat.le_of_ble_eq_true rfl, Nat.le_of_ble_eq_true rfl⟩, (hts _ q_81), trivial⟩ (preSP hP hK hN [] rfl) rfl rfl hl.1 rfl (lv_room (Nat.le_of_ble_eq_true rfl)) d_Gro_give_1 ⟨Nat.zero_le _, Nat.zero_le _⟩) (fun hz3 => ?_)
  refine lv_if_ne (tgt := 9) hx hb d_Gro_give_4 (by decide) (fun c4 => ?_) (fun c4 => ?_)
  · replace hf := gn c4 hf
    refine lv_aload_n hx hb d_Gro_give_9 rfl (lv_at hl 0 rfl) ?_
    refine va_get (D := D) (ci := 4) (v := .ref a_this_groups) (C := R_Gro) (T := T_Gro) (N := 3) hx hb hts in_Gro hown hK hP 0 rfl rfl 0 (by decide) (hts _ q_73) (fun _ h9 => h9) rfl d_Gro_give_10 ?_
    refine lv_iload_n hx hb d_Gro_give_13 rfl (lv_at hl 1 rfl) ?_
    obtain ⟨hi5, hf⟩ := gd hf
    refine va_iald hx hb hK hP 1 0 rfl rfl hi5 d_Gro_give_14 ?_
    refine lv_istore_n (lv' := [(3, .int (v_this_groups x1.toNatClampNeg)), (0, .ref a_this), (1, .int x1), (2, .int x2)]) hx hb d_Gro_give_15 rfl hl (by decide) rfl (fun ls hl => ?_)
    refine lv_aload_n hx hb d_Gro_give_16 rfl (lv_at hl 1 rfl) ?_
    refine va_get (D := D) (ci := 4) (v := .ref a_this_groupKinds) (C := R_Gro) (T := T_Gro) (N := 3) hx hb hts in_Gro hown hK hP 0 rfl rfl 1 (by decide) (hts _ q_74) (fun _ h9 => h9) rfl d_Gro_give_17 ?_
    refine lv_iload_n hx hb d_Gro_give_20 rfl (lv_at hl 0 rfl) ?_
    obtain ⟨hi6, hf⟩ := gd hf
    refine va_iald hx hb hK hP 2 0 rfl rfl hi6 d_Gro_give_21 ?_
    refine lv_iconst (v := (-1)) hx hb d_Gro_give_22 (by decide) ?_
    refine lv_icmp_ne (tgt := 43) hx hb d_Gro_give_23 (by decide) (fun c7 => ?_) (fun c7 => ?_)
    · replace hf := gn c7 hf
      refine lv_aload_n hx hb d_Gro_give_43 rfl (lv_at hl 1 rfl) ?_
      refine va_get (D := D) (ci := 4) (v := .ref a_this_groupKinds) (C := R_Gro) (T := T_Gro) (N := 3) hx hb hts in_Gro hown hK hP 0 rfl rfl 1 (by decide) (hts _ q_74) (fun _ h9 => h9) rfl d_Gro_give_44 ?_
      refine lv_iload_n hx hb d_Gro_give_47 rfl (lv_at hl 0 rfl) ?_
      obtain ⟨hi8, hf⟩ := gd hf
      refine va_iald hx hb hK hP 2 0 rfl rfl hi8 d_Gro_give_48 ?_
      refine lv_iload_n hx hb d_Gro_give_49 rfl (lv_at hl 3 rfl) ?_
      refine lv_icmp_ne (tgt := 57) hx hb d_Gro_give_50 (by decide) (fun c9 => ?_) (fun c9 => ?_)
      · replace hf := gn c9 hf
        refine lv_iconst (v := 0) hx hb d_Gro_give_57 (by decide) ?_
        cases hf
        exact hret _ _ _ _ hS hP rfl d_Gro_give_58
      · replace hf := gp c9 hf
        refine lv_iconst (v := 1) hx hb d_Gro_give_53 (by decide) ?_
        refine lv_goto (tgt := 58) hx hb d_Gro_give_54 (by decide) ?_
        cases hf
        exact hret _ _ _ _ hS hP rfl d_Gro_give_58
    · replace hf := gp c7 hf
      refine lv_aload_n hx hb d_Gro_give_26 rfl (lv_at hl 1 rfl) ?_
      refine va_get (D := D) (ci := 4) (v := .ref a_this_groupKinds) (C := R_Gro) (T := T_Gro) (N := 3) hx hb hts in_Gro hown hK hP 0 rfl rfl 1 (by decide) (hts _ q_74) (fun _ h9 => h9) rfl d_Gro_give_27 ?_
      refine lv_iload_n hx hb d_Gro_give_30 rfl (lv_at hl 0 rfl) ?_
      refine lv_iload_n hx hb d_Gro_give_31 rfl (lv_at hl 3 rfl) ?_
      obtain ⟨hi10, hf⟩ := gd hf
      refine va_iast hx hb hK hP (hDL _ rfl) hS 2 0 rfl rfl hi10 d_Gro_give_32 (fun H locs hP _ hS => ?_)
      have hP : va_P D vwCl [(a_this, .inr (4, [.ref a_this_groups, .ref a_this_groupKinds, .int v_this_changes])), (a_this_groups, .inl (cI, 80, .inl v_this_groups)), (a_this_groupKinds, .inl (cI, 80, .inl (upd v_this_groupKinds (v_this_groups x1.toNatClampNeg).toNatClampNeg x2)))] H := hP
      refine lv_aload_n hx hb d_Gro_give_33 rfl (lv_at hl 1 rfl) ?_
      refine lv_dup hx hb d_Gro_give_34 rfl ?_
      refine va_get (D := D) (ci := 4) (v := .int v_this_changes) (C := R_Gro) (T := T_Gro) (N := 3) hx hb hts in_Gro hown hK hP 0 rfl rfl 2 (by decide) (hts _ q_75) (fun _ h9 => h9) rfl d_Gro_give_35 ?_
      refine lv_iconst (v := 1) hx hb d_Gro_give_38 (by decide) ?_
      refine lv_iadd hx hb d_Gro_give_39 ?_
      refine va_put (D := D) (ci := 4) (v := .int (v_this_changes + 1)) (ty := .int) (C := R_Gro) (T := T_Gro) (N := 3) hx hb hts in_Gro ty_Gro tyok_Gro nm_Gro hown hK hP (hDL _ rfl) hS 0 rfl rfl 2 (by decide) (hts _ q_75) (fun _ h9 => h9) rfl (by decide +kernel) rfl rfl (Nat.le_of_ble_eq_true rfl) d_Gro_give_40 (fun H locs hP _ hS => ?_)
      have hP : va_P D vwCl [(a_this, .inr (4, [.ref a_this_groups, .ref a_this_groupKinds, .int (v_this_changes + 1)])), (a_this_groups, .inl (cI, 80, .inl v_this_groups)), (a_this_groupKinds, .inl (cI, 80, .inl (upd v_this_groupKinds (v_this_groups x1.toNatClampNeg).toNatClampNeg x2)))] H := hP
      refine lv_aload_n hx hb d_Gro_give_43 rfl (lv_at hl 1 rfl) ?_
      refine va_get (D := D) (ci := 4) (v := .ref a_this_groupKinds) (C := R_Gro) (T := T_Gro) (N := 3) hx hb hts in_Gro hown hK hP 0 rfl rfl 1 (by decide) (hts _ q_74) (fun _ h9 => h9) rfl d_Gro_give_44 ?_
      refine lv_iload_n hx hb d_Gro_give_47 rfl (lv_at hl 0 rfl) ?_
      obtain ⟨hi11, hf⟩ := gd hf
      refine va_iald hx hb hK hP 2 0 rfl rfl hi11 d_Gro_give_48 ?_
      refine lv_iload_n hx hb d_Gro_give_49 rfl (lv_at hl 3 rfl) ?_
      refine lv_icmp_ne (tgt := 57) hx hb d_Gro_give_50 (by decide) (fun c12 => ?_) (fun c12 => ?_)
      · replace hf := gn c12 hf
        refine lv_iconst (v := 0) hx hb d_Gro_give_57 (by decide) ?_
        cases hf
        exact hret _ _ _ _ hS hP rfl d_Gro_give_58
      · replace hf := gp c12 hf
        refine lv_iconst (v := 1) hx hb d_Gro_give_53 (by decide) ?_
        refine lv_goto (tgt := 58) hx hb d_Gro_give_54 (by decide) ?_
        cases hf
        exact hret _ _ _ _ hS hP rfl d_Gro_give_58
  · replace hf := gp c4 hf
    refine lv_iconst (v := 0) hx hb d_Gro_give_7 (by decide) ?_
    cases hf
    exact hret _ _ _ _ hS hP rfl d_Gro_give_8
def f_Gro_join_L97 (v_this_groups : Nat → Int32) (x1 : Int32) (x2 : Int32) (k : Int32 → (Nat → Int32) → Option (Int32 × Int32 × (Nat → Int32) × (Nat → Int32))) : Nat → Int32 → (Nat → Int32) → Option (Int32 × Int32 × (Nat → Int32) × (Nat → Int32))
  | 0, _, _ => none
  | n + 1, y5_97, w_this_groups_97 =>
    if 80 ≤ y5_97 then
      k y5_97 w_this_groups_97
    else
      if inb y5_97 80 then
        if (w_this_groups_97 y5_97.toNatClampNeg) = (v_this_groups x2.toNatClampNeg) then
          if inb y5_97 80 then
            f_Gro_join_L97 v_this_groups x1 x2 k n (y5_97 + 1) (upd w_this_groups_97 y5_97.toNatClampNeg (v_this_groups x1.toNatClampNeg))
          else none
        else
          f_Gro_join_L97 v_this_groups x1 x2 k n (y5_97 + 1) w_this_groups_97
      else none
def f_Gro_join (v_this_changes : Int32) (v_this_groups : Nat → Int32) (v_this_groupKinds : Nat → Int32) (x1 : Int32) (x2 : Int32) : Option (Int32 × Int32 × (Nat → Int32) × (Nat → Int32)) :=
  (f_Desk_isVariable x1).bind fun r2 =>
  if r2 = 0 then
    some (0, v_this_changes, v_this_groups, v_this_groupKinds)
  else
    (f_Desk_isVariable x2).bind fun r6 =>
    if r6 = 0 then
      some (0, v_this_changes, v_this_groups, v_this_groupKinds)
    else
      if inb x1 80 then
        if inb x2 80 then
          if (v_this_groups x1.toNatClampNeg) = (v_this_groups x2.toNatClampNeg) then
            some (1, v_this_changes, v_this_groups, v_this_groupKinds)
          else
            if inb (v_this_groups x1.toNatClampNeg) 80 then
              if (v_this_groupKinds (v_this_groups x1.toNatClampNeg).toNatClampNeg) = (-1) then
                if inb (v_this_groups x2.toNatClampNeg) 80 then
                  if inb (v_this_groups x1.toNatClampNeg) 80 then
                    f_Gro_join_L97 v_this_groups x1 x2 (fun y5_97 w_this_groups_97 =>
                      some (1, (v_this_changes + 1), w_this_groups_97, (upd v_this_groupKinds (v_this_groups x1.toNatClampNeg).toNatClampNeg (v_this_groupKinds (v_this_groups x2.toNatClampNeg).toNatClampNeg)))) FU 0 v_this_groups
                  else none
                else none
              else
                if inb (v_this_groups x2.toNatClampNeg) 80 then
                  if (v_this_groupKinds (v_this_groups x2.toNatClampNeg).toNatClampNeg) = (-1) then
                    f_Gro_join_L97 v_this_groups x1 x2 (fun y5_97 w_this_groups_97 =>
                      some (1, (v_this_changes + 1), w_this_groups_97, v_this_groupKinds)) FU 0 v_this_groups
                  else
                    if inb (v_this_groups x2.toNatClampNeg) 80 then
                      if inb (v_this_groups x1.toNatClampNeg) 80 then
                        if (v_this_groupKinds (v_this_groups x2.toNatClampNeg).toNatClampNeg) = (v_this_groupKinds (v_this_groups x1.toNatClampNeg).toNatClampNeg) then
                          f_Gro_join_L97 v_this_groups x1 x2 (fun y5_97 w_this_groups_97 =>
                            some (1, (v_this_changes + 1), w_this_groups_97, v_this_groupKinds)) FU 0 v_this_groups
                        else
                          some (0, v_this_changes, v_this_groups, v_this_groupKinds)
                      else none
                    else none
                else none
            else none
        else none
      else none
abbrev rm_Gro_join : Room := { frames := 1, cells := 0, slots := 0, locals := 20 }
set_option maxHeartbeats 4000000 in
set_option maxRecDepth 100000 in
theorem c_Gro_join (l : Launch) (D : va_G) (cI : ClassId) (a_this a_this_groups a_this_groupKinds : Nat) (v_this_changes : Int32) (v_this_groups : Nat → Int32) (v_this_groupKinds : Nat → Int32) (x1 x2 : Int32) {r_ : Int32} {v_this_changes' : Int32} {v_this_groups' : Nat → Int32} {v_this_groupKinds' : Nat → Int32} (hf : f_Gro_join v_this_changes v_this_groups v_this_groupKinds x1 x2 = some (r_, v_this_changes', v_this_groups', v_this_groupKinds')) : CtI l y_Gro_join ws_Gro_join rm_Gro_join D cI [(a_this, .inr (4, [.ref a_this_groups, .ref a_this_groupKinds, .int v_this_changes])), (a_this_groups, .inl (cI, 80, .inl v_this_groups)), (a_this_groupKinds, .inl (cI, 80, .inl v_this_groupKinds))] [(a_this, .inr (4, [.ref a_this_groups, .ref a_this_groupKinds, .int v_this_changes'])), (a_this_groups, .inl (cI, 80, .inl v_this_groups')), (a_this_groupKinds, .inl (cI, 80, .inl v_this_groupKinds'))] [.ref a_this, .int x1, .int x2] .boolean r_ := by
  refine CtI.ofW (cc := b_Gro_join) (maxL := 6) (ty := .boolean) (by decide) rfl (Nat.le_of_ble_eq_true rfl) ?_
  intro p e s m args below meth c Q A hx hb hml hown hts hP hK hN hA hD hret ls hl
  have hS : va_S A s.heap s.heap [] := va_S.rf
  have hDL : DL A [a_this, a_this_groups, a_this_groupKinds] := DL.of hD rfl
  have hl : lv_has ls 6 [(0, .ref a_this), (1, .int x1), (2, .int x2)] := hl
  unfold f_Gro_join at hf
  refine lv_iload_n hx hb d_Gro_join_0 rfl (lv_at hl 1 rfl) ?_
  obtain ⟨r2, hc1, hf⟩ := gb hf
  refine kP (va_runSN (As := [.int x1]) (rest := []) ⟨hx, hb, hml, hown, hts⟩ (c_Desk_isVariable l D cI x1 hc1) ⟨va_cnB (host := "KindDesk") 1 hts (good_c q_80) rfl rfl rfl (hN _ (List.mem_of_getElem? (i := 15) rfl)) (hts _ q_49) hd_Desk_isVariable ⟨Nat.le_of_ble_eq_true rfl, Nat.le_of_ble_eq_true rfl⟩, (hts _ q_81), trivial⟩ (preSP hP hK hN [] rfl) rfl rfl hl.1 rfl (lv_room (Nat.le_of_ble_eq_true rfl)) d_Gro_join_1 ⟨Nat.zero_le _, Nat.zero_le _⟩) (fun hz3 => ?_)
  refine lv_if_eq (tgt := 14) hx hb d_Gro_join_4 (by decide) (fun c4 => ?_) (fun c4 => ?_)
  · replace hf := gp c4 hf
    refine lv_iconst (v := 0) hx hb d_Gro_join_14 (by decide) ?_
    cases hf
    exact hret _ _ _ _ hS hP rfl d_Gro_join_15
  · replace hf := gn c4 hf
    refine lv_iload_n hx hb d_Gro_join_7 rfl (lv_at hl 2 rfl) ?_
    obtain ⟨r6, hc5, hf⟩ := gb hf
    refine kP (va_runSN (As := [.int x2]) (rest := []) ⟨hx, hb, hml, hown, hts⟩ (c_Desk_isVariable l D cI x2 hc5) ⟨va_cnB (host := "KindDesk") 1 hts (good_c q_80) rfl rfl rfl (hN _ (List.mem_of_getElem? (i := 15) rfl)) (hts _ q_49) hd_Desk_isVariable ⟨Nat.le_of_ble_eq_true rfl, Nat.le_of_ble_eq_true rfl⟩, (hts _ q_81), trivial⟩ (preSP hP hK hN [] rfl) rfl rfl hl.1 rfl (lv_room (Nat.le_of_ble_eq_true rfl)) d_Gro_join_8 ⟨Nat.zero_le _, Nat.zero_le _⟩) (fun hz7 => ?_)
    refine lv_if_ne (tgt := 16) hx hb d_Gro_join_11 (by decide) (fun c8 => ?_) (fun c8 => ?_)
    · replace hf := gn c8 hf
      refine lv_aload_n hx hb d_Gro_join_16 rfl (lv_at hl 0 rfl) ?_
      refine va_get (D := D) (ci := 4) (v := .ref a_this_groups) (C := R_Gro) (T := T_Gro) (N := 3) hx hb hts in_Gro hown hK hP 0 rfl rfl 0 (by decide) (hts _ q_73) (fun _ h9 => h9) rfl d_Gro_join_17 ?_
      refine lv_iload_n hx hb d_Gro_join_20 rfl (lv_at hl 1 rfl) ?_
      obtain ⟨hi9, hf⟩ := gd hf
      refine va_iald hx hb hK hP 1 0 rfl rfl hi9 d_Gro_join_21 ?_
      refine lv_istore_n (lv' := [(3, .int (v_this_groups x1.toNatClampNeg)), (0, .ref a_this), (1, .int x1), (2, .int x2)]) hx hb d_Gro_join_22 rfl hl (by decide) rfl (fun ls hl => ?_)
      refine lv_aload_n hx hb d_Gro_join_23 rfl (lv_at hl 1 rfl) ?_
      refine va_get (D := D) (ci := 4) (v := .ref a_this_groups) (C := R_Gro) (T := T_Gro) (N := 3) hx hb hts in_Gro hown hK hP 0 rfl rfl 0 (by decide) (hts _ q_73) (fun _ h9 => h9) rfl d_Gro_join_24 ?_
      refine lv_iload_n hx hb d_Gro_join_27 rfl (lv_at hl 3 rfl) ?_
      obtain ⟨hi10, hf⟩ := gd hf
      refine va_iald hx hb hK hP 1 0 rfl rfl hi10 d_Gro_join_28 ?_
      refine lv_istore (lv' := [(4, .int (v_this_groups x2.toNatClampNeg)), (3, .int (v_this_groups x1.toNatClampNeg)), (0, .ref a_this), (1, .int x1), (2, .int x2)]) hx hb d_Gro_join_29 hl (by decide) rfl (fun ls hl => ?_)
      refine lv_iload_n hx hb d_Gro_join_31 rfl (lv_at hl 1 rfl) ?_
      refine lv_iload hx hb d_Gro_join_32 (lv_at hl 0 rfl) ?_
      refine lv_icmp_ne (tgt := 39) hx hb d_Gro_join_34 (by decide) (fun c11 => ?_) (fun c11 => ?_)
      · replace hf := gn c11 hf
        refine lv_aload_n hx hb d_Gro_join_39 rfl (lv_at hl 2 rfl) ?_
        refine va_get (D := D) (ci := 4) (v := .ref a_this_groupKinds) (C := R_Gro) (T := T_Gro) (N := 3) hx hb hts in_Gro hown hK hP 0 rfl rfl 1 (by decide) (hts _ q_74) (fun _ h9 => h9) rfl d_Gro_join_40 ?_
        refine lv_iload_n hx hb d_Gro_join_43 rfl (lv_at hl 1 rfl) ?_
        obtain ⟨hi12, hf⟩ := gd hf
        refine va_iald hx hb hK hP 2 0 rfl rfl hi12 d_Gro_join_44 ?_
        refine lv_iconst (v := (-1)) hx hb d_Gro_join_45 (by decide) ?_
        refine lv_icmp_ne (tgt := 65) hx hb d_Gro_join_46 (by decide) (fun c13 => ?_) (fun c13 => ?_)
        · replace hf := gn c13 hf
          refine lv_aload_n hx hb d_Gro_join_65 rfl (lv_at hl 2 rfl) ?_
          refine va_get (D := D) (ci := 4) (v := .ref a_this_groupKinds) (C := R_Gro) (T := T_Gro) (N := 3) hx hb hts in_Gro hown hK hP 0 rfl rfl 1 (by decide) (hts _ q_74) (fun _ h9 => h9) rfl d_Gro_join_66 ?_
          refine lv_iload hx hb d_Gro_join_69 (lv_at hl 0 rfl) ?_
          obtain ⟨hi14, hf⟩ := gd hf
          refine va_iald hx hb hK hP 2 0 rfl rfl hi14 d_Gro_join_71 ?_
          refine lv_iconst (v := (-1)) hx hb d_Gro_join_72 (by decide) ?_
          refine lv_icmp_eq (tgt := 94) hx hb d_Gro_join_73 (by decide) (fun c15 => ?_) (fun c15 => ?_)
          · replace hf := gp c15 hf
            refine lv_iconst (v := 0) hx hb d_Gro_join_94 (by decide) ?_
            refine lv_istore (lv' := [(5, .int 0), (4, .int (v_this_groups x2.toNatClampNeg)), (3, .int (v_this_groups x1.toNatClampNeg)), (0, .ref a_this), (1, .int x1), (2, .int x2)]) hx hb d_Gro_join_95 hl (by decide) rfl (fun ls hl => ?_)
            have lp97 : ∀ (kk : Int32 → (Nat → Int32) → Option (Int32 × Int32 × (Nat → Int32) × (Nat → Int32))), (∀ (y5_97 : Int32) (w_this_groups_97 : Nat → Int32) (H : Heap) (locs : List Loc) (ls : Array Slot), va_P D vwCl [(a_this, .inr (4, [.ref a_this_groups, .ref a_this_groupKinds, .int v_this_changes])), (a_this_groups, .inl (cI, 80, .inl w_this_groups_97)), (a_this_groupKinds, .inl (cI, 80, .inl v_this_groupKinds))] H → va_S A s.heap H locs → lv_has ls 6 [(5, .int y5_97), (4, .int (v_this_groups x2.toNatClampNeg)), (3, .int (v_this_groups x1.toNatClampNeg)), (0, .ref a_this), (1, .int x1), (2, .int x2)] → kk y5_97 w_this_groups_97 = some (r_, v_this_changes', v_this_groups', v_this_groupKinds') → W p l e rm_Gro_join s m args below meth c H locs 0 0 Q (F0 m 130 ls [])) → ∀ (n : Nat) (y5_97 : Int32) (w_this_groups_97 : Nat → Int32) (H : Heap) (locs : List Loc) (ls : Array Slot), va_P D vwCl [(a_this, .inr (4, [.ref a_this_groups, .ref a_this_groupKinds, .int v_this_changes])), (a_this_groups, .inl (cI, 80, .inl w_this_groups_97)), (a_this_groupKinds, .inl (cI, 80, .inl v_this_groupKinds))] H → va_S A s.heap H locs → lv_has ls 6 [(5, .int y5_97), (4, .int (v_this_groups x2.toNatClampNeg)), (3, .int (v_this_groups x1.toNatClampNeg)), (0, .ref a_this), (1, .int x1), (2, .int x2)] → f_Gro_join_L97 v_this_groups x1 x2 kk n y5_97 w_this_groups_97 = some (r_, v_this_changes', v_this_groups', v_this_groupKinds') → W p l e rm_Gro_join s m args below meth c H locs 0 0 Q (F0 m 97 ls []) := by
              intro kk hk97 n
              induction n with
              | zero =>
                intro y5_97 w_this_groups_97 H locs ls hP hS hl hf
                rw [f_Gro_join_L97] at hf
                cases hf
              | succ n ih97 =>
                intro y5_97 w_this_groups_97 H locs ls hP hS hl hf
                rw [f_Gro_join_L97] at hf
                refine lv_iload hx hb d_Gro_join_97 (lv_at hl 0 rfl) ?_
                refine lv_bipush (v := 80) hx hb d_Gro_join_99 (by decide) ?_
                refine lv_icmp_ge (tgt := 130) hx hb d_Gro_join_101 (by decide) (fun c16 => ?_) (fun c16 => ?_)
                · replace hf := gp c16 hf
                  exact hk97 y5_97 w_this_groups_97 _ _ _ hP hS (lv_sub hl [0, 1, 2, 3, 4, 5] rfl) hf
                · replace hf := gn c16 hf
                  refine lv_aload_n hx hb d_Gro_join_104 rfl (lv_at hl 3 rfl) ?_
                  refine va_get (D := D) (ci := 4) (v := .ref a_this_groups) (C := R_Gro) (T := T_Gro) (N := 3) hx hb hts in_Gro hown hK hP 0 rfl rfl 0 (by decide) (hts _ q_73) (fun _ h9 => h9) rfl d_Gro_join_105 ?_
                  refine lv_iload hx hb d_Gro_join_108 (lv_at hl 0 rfl) ?_
                  obtain ⟨hi17, hf⟩ := gd hf
                  refine va_iald hx hb hK hP 1 0 rfl rfl hi17 d_Gro_join_110 ?_
                  refine lv_iload hx hb d_Gro_join_111 (lv_at hl 1 rfl) ?_
                  refine lv_icmp_ne (tgt := 124) hx hb d_Gro_join_113 (by decide) (fun c18 => ?_) (fun c18 => ?_)
                  · replace hf := gn c18 hf
                    refine lv_iinc (v := (y5_97 + 1)) (lv' := [(5, .int (y5_97 + 1)), (4, .int (v_this_groups x2.toNatClampNeg)), (3, .int (v_this_groups x1.toNatClampNeg)), (0, .ref a_this), (1, .int x1), (2, .int x2)]) hx hb d_Gro_join_124 hl (k := 0) rfl rfl (by decide) rfl (fun ls hl => ?_)
                    refine lv_goto (tgt := 97) hx hb d_Gro_join_127 (by decide) ?_
                    exact ih97 (y5_97 + 1) w_this_groups_97 _ _ _ hP hS (lv_sub hl [0, 1, 2, 3, 4, 5] rfl) hf
                  · replace hf := gp c18 hf
                    refine lv_aload_n hx hb d_Gro_join_116 rfl (lv_at hl 3 rfl) ?_
                    refine va_get (D := D) (ci := 4) (v := .ref a_this_groups) (C := R_Gro) (T := T_Gro) (N := 3) hx hb hts in_Gro hown hK hP 0 rfl rfl 0 (by decide) (hts _ q_73) (fun _ h9 => h9) rfl d_Gro_join_117 ?_
                    refine lv_iload hx hb d_Gro_join_120 (lv_at hl 0 rfl) ?_
                    refine lv_iload_n hx hb d_Gro_join_122 rfl (lv_at hl 2 rfl) ?_
                    obtain ⟨hi19, hf⟩ := gd hf
                    refine va_iast hx hb hK hP (hDL _ rfl) hS 1 0 rfl rfl hi19 d_Gro_join_123 (fun H locs hP _ hS => ?_)
                    have hP : va_P D vwCl [(a_this, .inr (4, [.ref a_this_groups, .ref a_this_groupKinds, .int v_this_changes])), (a_this_groups, .inl (cI, 80, .inl (upd w_this_groups_97 y5_97.toNatClampNeg (v_this_groups x1.toNatClampNeg)))), (a_this_groupKinds, .inl (cI, 80, .inl v_this_groupKinds))] H := hP
                    refine lv_iinc (v := (y5_97 + 1)) (lv' := [(5, .int (y5_97 + 1)), (4, .int (v_this_groups x2.toNatClampNeg)), (3, .int (v_this_groups x1.toNatClampNeg)), (0, .ref a_this), (1, .int x1), (2, .int x2)]) hx hb d_Gro_join_124 hl (k := 0) rfl rfl (by decide) rfl (fun ls hl => ?_)
                    refine lv_goto (tgt := 97) hx hb d_Gro_join_127 (by decide) ?_
                    exact ih97 (y5_97 + 1) (upd w_this_groups_97 y5_97.toNatClampNeg (v_this_groups x1.toNatClampNeg)) _ _ _ hP hS (lv_sub hl [0, 1, 2, 3, 4, 5] rfl) hf
            refine lp97 _ (fun y5_97 w_this_groups_97 H locs ls hP hS hl hf => ?_) FU 0 v_this_groups _ _ _ hP hS (lv_sub hl [0, 1, 2, 3, 4, 5] rfl) hf
            refine lv_aload_n hx hb d_Gro_join_130 rfl (lv_at hl 3 rfl) ?_
            refine lv_dup hx hb d_Gro_join_131 rfl ?_
            refine va_get (D := D) (ci := 4) (v := .int v_this_changes) (C := R_Gro) (T := T_Gro) (N := 3) hx hb hts in_Gro hown hK hP 0 rfl rfl 2 (by decide) (hts _ q_75) (fun _ h9 => h9) rfl d_Gro_join_132 ?_
            refine lv_iconst (v := 1) hx hb d_Gro_join_135 (by decide) ?_
            refine lv_iadd hx hb d_Gro_join_136 ?_
            refine va_put (D := D) (ci := 4) (v := .int (v_this_changes + 1)) (ty := .int) (C := R_Gro) (T := T_Gro) (N := 3) hx hb hts in_Gro ty_Gro tyok_Gro nm_Gro hown hK hP (hDL _ rfl) hS 0 rfl rfl 2 (by decide) (hts _ q_75) (fun _ h9 => h9) rfl (by decide +kernel) rfl rfl (Nat.le_of_ble_eq_true rfl) d_Gro_join_137 (fun H locs hP _ hS => ?_)
            have hP : va_P D vwCl [(a_this, .inr (4, [.ref a_this_groups, .ref a_this_groupKinds, .int (v_this_changes + 1)])), (a_this_groups, .inl (cI, 80, .inl w_this_groups_97)), (a_this_groupKinds, .inl (cI, 80, .inl v_this_groupKinds))] H := hP
            refine lv_iconst (v := 1) hx hb d_Gro_join_140 (by decide) ?_
            cases hf
            exact hret _ _ _ _ hS hP rfl d_Gro_join_141
          · replace hf := gn c15 hf
            refine lv_aload_n hx hb d_Gro_join_76 rfl (lv_at hl 2 rfl) ?_
            refine va_get (D := D) (ci := 4) (v := .ref a_this_groupKinds) (C := R_Gro) (T := T_Gro) (N := 3) hx hb hts in_Gro hown hK hP 0 rfl rfl 1 (by decide) (hts _ q_74) (fun _ h9 => h9) rfl d_Gro_join_77 ?_
            refine lv_iload hx hb d_Gro_join_80 (lv_at hl 0 rfl) ?_
            obtain ⟨hi20, hf⟩ := gd hf
            refine va_iald hx hb hK hP 2 0 rfl rfl hi20 d_Gro_join_82 ?_
            refine lv_aload_n hx hb d_Gro_join_83 rfl (lv_at hl 2 rfl) ?_
            refine va_get (D := D) (ci := 4) (v := .ref a_this_groupKinds) (C := R_Gro) (T := T_Gro) (N := 3) hx hb hts in_Gro hown hK hP 0 rfl rfl 1 (by decide) (hts _ q_74) (fun _ h9 => h9) rfl d_Gro_join_84 ?_
            refine lv_iload_n hx hb d_Gro_join_87 rfl (lv_at hl 1 rfl) ?_
            obtain ⟨hi21, hf⟩ := gd hf
            refine va_iald hx hb hK hP 2 0 rfl rfl hi21 d_Gro_join_88 ?_
            refine lv_icmp_eq (tgt := 94) hx hb d_Gro_join_89 (by decide) (fun c22 => ?_) (fun c22 => ?_)
            · replace hf := gp c22 hf
              refine lv_iconst (v := 0) hx hb d_Gro_join_94 (by decide) ?_
              refine lv_istore (lv' := [(5, .int 0), (4, .int (v_this_groups x2.toNatClampNeg)), (3, .int (v_this_groups x1.toNatClampNeg)), (0, .ref a_this), (1, .int x1), (2, .int x2)]) hx hb d_Gro_join_95 hl (by decide) rfl (fun ls hl => ?_)
              have lp97 : ∀ (kk : Int32 → (Nat → Int32) → Option (Int32 × Int32 × (Nat → Int32) × (Nat → Int32))), (∀ (y5_97 : Int32) (w_this_groups_97 : Nat → Int32) (H : Heap) (locs : List Loc) (ls : Array Slot), va_P D vwCl [(a_this, .inr (4, [.ref a_this_groups, .ref a_this_groupKinds, .int v_this_changes])), (a_this_groups, .inl (cI, 80, .inl w_this_groups_97)), (a_this_groupKinds, .inl (cI, 80, .inl v_this_groupKinds))] H → va_S A s.heap H locs → lv_has ls 6 [(5, .int y5_97), (4, .int (v_this_groups x2.toNatClampNeg)), (3, .int (v_this_groups x1.toNatClampNeg)), (0, .ref a_this), (1, .int x1), (2, .int x2)] → kk y5_97 w_this_groups_97 = some (r_, v_this_changes', v_this_groups', v_this_groupKinds') → W p l e rm_Gro_join s m args below meth c H locs 0 0 Q (F0 m 130 ls [])) → ∀ (n : Nat) (y5_97 : Int32) (w_this_groups_97 : Nat → Int32) (H : Heap) (locs : List Loc) (ls : Array Slot), va_P D vwCl [(a_this, .inr (4, [.ref a_this_groups, .ref a_this_groupKinds, .int v_this_changes])), (a_this_groups, .inl (cI, 80, .inl w_this_groups_97)), (a_this_groupKinds, .inl (cI, 80, .inl v_this_groupKinds))] H → va_S A s.heap H locs → lv_has ls 6 [(5, .int y5_97), (4, .int (v_this_groups x2.toNatClampNeg)), (3, .int (v_this_groups x1.toNatClampNeg)), (0, .ref a_this), (1, .int x1), (2, .int x2)] → f_Gro_join_L97 v_this_groups x1 x2 kk n y5_97 w_this_groups_97 = some (r_, v_this_changes', v_this_groups', v_this_groupKinds') → W p l e rm_Gro_join s m args below meth c H locs 0 0 Q (F0 m 97 ls []) := by
                intro kk hk97 n
                induction n with
                | zero =>
                  intro y5_97 w_this_groups_97 H locs ls hP hS hl hf
                  rw [f_Gro_join_L97] at hf
                  cases hf
                | succ n ih97 =>
                  intro y5_97 w_this_groups_97 H locs ls hP hS hl hf
                  rw [f_Gro_join_L97] at hf
                  refine lv_iload hx hb d_Gro_join_97 (lv_at hl 0 rfl) ?_
                  refine lv_bipush (v := 80) hx hb d_Gro_join_99 (by decide) ?_
                  refine lv_icmp_ge (tgt := 130) hx hb d_Gro_join_101 (by decide) (fun c23 => ?_) (fun c23 => ?_)
                  · replace hf := gp c23 hf
                    exact hk97 y5_97 w_this_groups_97 _ _ _ hP hS (lv_sub hl [0, 1, 2, 3, 4, 5] rfl) hf
                  · replace hf := gn c23 hf
                    refine lv_aload_n hx hb d_Gro_join_104 rfl (lv_at hl 3 rfl) ?_
                    refine va_get (D := D) (ci := 4) (v := .ref a_this_groups) (C := R_Gro) (T := T_Gro) (N := 3) hx hb hts in_Gro hown hK hP 0 rfl rfl 0 (by decide) (hts _ q_73) (fun _ h9 => h9) rfl d_Gro_join_105 ?_
                    refine lv_iload hx hb d_Gro_join_108 (lv_at hl 0 rfl) ?_
                    obtain ⟨hi24, hf⟩ := gd hf
                    refine va_iald hx hb hK hP 1 0 rfl rfl hi24 d_Gro_join_110 ?_
                    refine lv_iload hx hb d_Gro_join_111 (lv_at hl 1 rfl) ?_
                    refine lv_icmp_ne (tgt := 124) hx hb d_Gro_join_113 (by decide) (fun c25 => ?_) (fun c25 => ?_)
                    · replace hf := gn c25 hf
                      refine lv_iinc (v := (y5_97 + 1)) (lv' := [(5, .int (y5_97 + 1)), (4, .int (v_this_groups x2.toNatClampNeg)), (3, .int (v_this_groups x1.toNatClampNeg)), (0, .ref a_this), (1, .int x1), (2, .int x2)]) hx hb d_Gro_join_124 hl (k := 0) rfl rfl (by decide) rfl (fun ls hl => ?_)
                      refine lv_goto (tgt := 97) hx hb d_Gro_join_127 (by decide) ?_
                      exact ih97 (y5_97 + 1) w_this_groups_97 _ _ _ hP hS (lv_sub hl [0, 1, 2, 3, 4, 5] rfl) hf
                    · replace hf := gp c25 hf
                      refine lv_aload_n hx hb d_Gro_join_116 rfl (lv_at hl 3 rfl) ?_
                      refine va_get (D := D) (ci := 4) (v := .ref a_this_groups) (C := R_Gro) (T := T_Gro) (N := 3) hx hb hts in_Gro hown hK hP 0 rfl rfl 0 (by decide) (hts _ q_73) (fun _ h9 => h9) rfl d_Gro_join_117 ?_
                      refine lv_iload hx hb d_Gro_join_120 (lv_at hl 0 rfl) ?_
                      refine lv_iload_n hx hb d_Gro_join_122 rfl (lv_at hl 2 rfl) ?_
                      obtain ⟨hi26, hf⟩ := gd hf
                      refine va_iast hx hb hK hP (hDL _ rfl) hS 1 0 rfl rfl hi26 d_Gro_join_123 (fun H locs hP _ hS => ?_)
                      have hP : va_P D vwCl [(a_this, .inr (4, [.ref a_this_groups, .ref a_this_groupKinds, .int v_this_changes])), (a_this_groups, .inl (cI, 80, .inl (upd w_this_groups_97 y5_97.toNatClampNeg (v_this_groups x1.toNatClampNeg)))), (a_this_groupKinds, .inl (cI, 80, .inl v_this_groupKinds))] H := hP
                      refine lv_iinc (v := (y5_97 + 1)) (lv' := [(5, .int (y5_97 + 1)), (4, .int (v_this_groups x2.toNatClampNeg)), (3, .int (v_this_groups x1.toNatClampNeg)), (0, .ref a_this), (1, .int x1), (2, .int x2)]) hx hb d_Gro_join_124 hl (k := 0) rfl rfl (by decide) rfl (fun ls hl => ?_)
                      refine lv_goto (tgt := 97) hx hb d_Gro_join_127 (by decide) ?_
                      exact ih97 (y5_97 + 1) (upd w_this_groups_97 y5_97.toNatClampNeg (v_this_groups x1.toNatClampNeg)) _ _ _ hP hS (lv_sub hl [0, 1, 2, 3, 4, 5] rfl) hf
              refine lp97 _ (fun y5_97 w_this_groups_97 H locs ls hP hS hl hf => ?_) FU 0 v_this_groups _ _ _ hP hS (lv_sub hl [0, 1, 2, 3, 4, 5] rfl) hf
              refine lv_aload_n hx hb d_Gro_join_130 rfl (lv_at hl 3 rfl) ?_
              refine lv_dup hx hb d_Gro_join_131 rfl ?_
              refine va_get (D := D) (ci := 4) (v := .int v_this_changes) (C := R_Gro) (T := T_Gro) (N := 3) hx hb hts in_Gro hown hK hP 0 rfl rfl 2 (by decide) (hts _ q_75) (fun _ h9 => h9) rfl d_Gro_join_132 ?_
              refine lv_iconst (v := 1) hx hb d_Gro_join_135 (by decide) ?_
              refine lv_iadd hx hb d_Gro_join_136 ?_
              refine va_put (D := D) (ci := 4) (v := .int (v_this_changes + 1)) (ty := .int) (C := R_Gro) (T := T_Gro) (N := 3) hx hb hts in_Gro ty_Gro tyok_Gro nm_Gro hown hK hP (hDL _ rfl) hS 0 rfl rfl 2 (by decide) (hts _ q_75) (fun _ h9 => h9) rfl (by decide +kernel) rfl rfl (Nat.le_of_ble_eq_true rfl) d_Gro_join_137 (fun H locs hP _ hS => ?_)
              have hP : va_P D vwCl [(a_this, .inr (4, [.ref a_this_groups, .ref a_this_groupKinds, .int (v_this_changes + 1)])), (a_this_groups, .inl (cI, 80, .inl w_this_groups_97)), (a_this_groupKinds, .inl (cI, 80, .inl v_this_groupKinds))] H := hP
              refine lv_iconst (v := 1) hx hb d_Gro_join_140 (by decide) ?_
              cases hf
              exact hret _ _ _ _ hS hP rfl d_Gro_join_141
            · replace hf := gn c22 hf
              refine lv_iconst (v := 0) hx hb d_Gro_join_92 (by decide) ?_
              cases hf
              exact hret _ _ _ _ hS hP rfl d_Gro_join_93
        · replace hf := gp c13 hf
          refine lv_aload_n hx hb d_Gro_join_49 rfl (lv_at hl 2 rfl) ?_
          refine va_get (D := D) (ci := 4) (v := .ref a_this_groupKinds) (C := R_Gro) (T := T_Gro) (N := 3) hx hb hts in_Gro hown hK hP 0 rfl rfl 1 (by decide) (hts _ q_74) (fun _ h9 => h9) rfl d_Gro_join_50 ?_
          refine lv_iload_n hx hb d_Gro_join_53 rfl (lv_at hl 1 rfl) ?_
          refine lv_aload_n hx hb d_Gro_join_54 rfl (lv_at hl 2 rfl) ?_
          refine va_get (D := D) (ci := 4) (v := .ref a_this_groupKinds) (C := R_Gro) (T := T_Gro) (N := 3) hx hb hts in_Gro hown hK hP 0 rfl rfl 1 (by decide) (hts _ q_74) (fun _ h9 => h9) rfl d_Gro_join_55 ?_
          refine lv_iload hx hb d_Gro_join_58 (lv_at hl 0 rfl) ?_
          obtain ⟨hi27, hf⟩ := gd hf
          refine va_iald hx hb hK hP 2 0 rfl rfl hi27 d_Gro_join_60 ?_
          obtain ⟨hi28, hf⟩ := gd hf
          refine va_iast hx hb hK hP (hDL _ rfl) hS 2 0 rfl rfl hi28 d_Gro_join_61 (fun H locs hP _ hS => ?_)
          have hP : va_P D vwCl [(a_this, .inr (4, [.ref a_this_groups, .ref a_this_groupKinds, .int v_this_changes])), (a_this_groups, .inl (cI, 80, .inl v_this_groups)), (a_this_groupKinds, .inl (cI, 80, .inl (upd v_this_groupKinds (v_this_groups x1.toNatClampNeg).toNatClampNeg (v_this_groupKinds (v_this_groups x2.toNatClampNeg).toNatClampNeg))))] H := hP
          refine lv_goto (tgt := 94) hx hb d_Gro_join_62 (by decide) ?_
          refine lv_iconst (v := 0) hx hb d_Gro_join_94 (by decide) ?_
          refine lv_istore (lv' := [(5, .int 0), (4, .int (v_this_groups x2.toNatClampNeg)), (3, .int (v_this_groups x1.toNatClampNeg)), (0, .ref a_this), (1, .int x1), (2, .int x2)]) hx hb d_Gro_join_95 hl (by decide) rfl (fun ls hl => ?_)
          have lp97 : ∀ (kk : Int32 → (Nat → Int32) → Option (Int32 × Int32 × (Nat → Int32) × (Nat → Int32))), (∀ (y5_97 : Int32) (w_this_groups_97 : Nat → Int32) (H : Heap) (locs : List Loc) (ls : Array Slot), va_P D vwCl [(a_this, .inr (4, [.ref a_this_groups, .ref a_this_groupKinds, .int v_this_changes])), (a_this_groups, .inl (cI, 80, .inl w_this_groups_97)), (a_this_groupKinds, .inl (cI, 80, .inl (upd v_this_groupKinds (v_this_groups x1.toNatClampNeg).toNatClampNeg (v_this_groupKinds (v_this_groups x2.toNatClampNeg).toNatClampNeg))))] H → va_S A s.heap H locs → lv_has ls 6 [(5, .int y5_97), (4, .int (v_this_groups x2.toNatClampNeg)), (3, .int (v_this_groups x1.toNatClampNeg)), (0, .ref a_this), (1, .int x1), (2, .int x2)] → kk y5_97 w_this_groups_97 = some (r_, v_this_changes', v_this_groups', v_this_groupKinds') → W p l e rm_Gro_join s m args below meth c H locs 0 0 Q (F0 m 130 ls [])) → ∀ (n : Nat) (y5_97 : Int32) (w_this_groups_97 : Nat → Int32) (H : Heap) (locs : List Loc) (ls : Array Slot), va_P D vwCl [(a_this, .inr (4, [.ref a_this_groups, .ref a_this_groupKinds, .int v_this_changes])), (a_this_groups, .inl (cI, 80, .inl w_this_groups_97)), (a_this_groupKinds, .inl (cI, 80, .inl (upd v_this_groupKinds (v_this_groups x1.toNatClampNeg).toNatClampNeg (v_this_groupKinds (v_this_groups x2.toNatClampNeg).toNatClampNeg))))] H → va_S A s.heap H locs → lv_has ls 6 [(5, .int y5_97), (4, .int (v_this_groups x2.toNatClampNeg)), (3, .int (v_this_groups x1.toNatClampNeg)), (0, .ref a_this), (1, .int x1), (2, .int x2)] → f_Gro_join_L97 v_this_groups x1 x2 kk n y5_97 w_this_groups_97 = some (r_, v_this_changes', v_this_groups', v_this_groupKinds') → W p l e rm_Gro_join s m args below meth c H locs 0 0 Q (F0 m 97 ls []) := by
            intro kk hk97 n
            induction n with
            | zero =>
              intro y5_97 w_this_groups_97 H locs ls hP hS hl hf
              rw [f_Gro_join_L97] at hf
              cases hf
            | succ n ih97 =>
              intro y5_97 w_this_groups_97 H locs ls hP hS hl hf
              rw [f_Gro_join_L97] at hf
              refine lv_iload hx hb d_Gro_join_97 (lv_at hl 0 rfl) ?_
              refine lv_bipush (v := 80) hx hb d_Gro_join_99 (by decide) ?_
              refine lv_icmp_ge (tgt := 130) hx hb d_Gro_join_101 (by decide) (fun c29 => ?_) (fun c29 => ?_)
              · replace hf := gp c29 hf
                exact hk97 y5_97 w_this_groups_97 _ _ _ hP hS (lv_sub hl [0, 1, 2, 3, 4, 5] rfl) hf
              · replace hf := gn c29 hf
                refine lv_aload_n hx hb d_Gro_join_104 rfl (lv_at hl 3 rfl) ?_
                refine va_get (D := D) (ci := 4) (v := .ref a_this_groups) (C := R_Gro) (T := T_Gro) (N := 3) hx hb hts in_Gro hown hK hP 0 rfl rfl 0 (by decide) (hts _ q_73) (fun _ h9 => h9) rfl d_Gro_join_105 ?_
                refine lv_iload hx hb d_Gro_join_108 (lv_at hl 0 rfl) ?_
                obtain ⟨hi30, hf⟩ := gd hf
                refine va_iald hx hb hK hP 1 0 rfl rfl hi30 d_Gro_join_110 ?_
                refine lv_iload hx hb d_Gro_join_111 (lv_at hl 1 rfl) ?_
                refine lv_icmp_ne (tgt := 124) hx hb d_Gro_join_113 (by decide) (fun c31 => ?_) (fun c31 => ?_)
                · replace hf := gn c31 hf
                  refine lv_iinc (v := (y5_97 + 1)) (lv' := [(5, .int (y5_97 + 1)), (4, .int (v_this_groups x2.toNatClampNeg)), (3, .int (v_this_groups x1.toNatClampNeg)), (0, .ref a_this), (1, .int x1), (2, .int x2)]) hx hb d_Gro_join_124 hl (k := 0) rfl rfl (by decide) rfl (fun ls hl => ?_)
                  refine lv_goto (tgt := 97) hx hb d_Gro_join_127 (by decide) ?_
                  exact ih97 (y5_97 + 1) w_this_groups_97 _ _ _ hP hS (lv_sub hl [0, 1, 2, 3, 4, 5] rfl) hf
                · replace hf := gp c31 hf
                  refine lv_aload_n hx hb d_Gro_join_116 rfl (lv_at hl 3 rfl) ?_
                  refine va_get (D := D) (ci := 4) (v := .ref a_this_groups) (C := R_Gro) (T := T_Gro) (N := 3) hx hb hts in_Gro hown hK hP 0 rfl rfl 0 (by decide) (hts _ q_73) (fun _ h9 => h9) rfl d_Gro_join_117 ?_
                  refine lv_iload hx hb d_Gro_join_120 (lv_at hl 0 rfl) ?_
                  refine lv_iload_n hx hb d_Gro_join_122 rfl (lv_at hl 2 rfl) ?_
                  obtain ⟨hi32, hf⟩ := gd hf
                  refine va_iast hx hb hK hP (hDL _ rfl) hS 1 0 rfl rfl hi32 d_Gro_join_123 (fun H locs hP _ hS => ?_)
                  have hP : va_P D vwCl [(a_this, .inr (4, [.ref a_this_groups, .ref a_this_groupKinds, .int v_this_changes])), (a_this_groups, .inl (cI, 80, .inl (upd w_this_groups_97 y5_97.toNatClampNeg (v_this_groups x1.toNatClampNeg)))), (a_this_groupKinds, .inl (cI, 80, .inl (upd v_this_groupKinds (v_this_groups x1.toNatClampNeg).toNatClampNeg (v_this_groupKinds (v_this_groups x2.toNatClampNeg).toNatClampNeg))))] H := hP
                  refine lv_iinc (v := (y5_97 + 1)) (lv' := [(5, .int (y5_97 + 1)), (4, .int (v_this_groups x2.toNatClampNeg)), (3, .int (v_this_groups x1.toNatClampNeg)), (0, .ref a_this), (1, .int x1), (2, .int x2)]) hx hb d_Gro_join_124 hl (k := 0) rfl rfl (by decide) rfl (fun ls hl => ?_)
                  refine lv_goto (tgt := 97) hx hb d_Gro_join_127 (by decide) ?_
                  exact ih97 (y5_97 + 1) (upd w_this_groups_97 y5_97.toNatClampNeg (v_this_groups x1.toNatClampNeg)) _ _ _ hP hS (lv_sub hl [0, 1, 2, 3, 4, 5] rfl) hf
          refine lp97 _ (fun y5_97 w_this_groups_97 H locs ls hP hS hl hf => ?_) FU 0 v_this_groups _ _ _ hP hS (lv_sub hl [0, 1, 2, 3, 4, 5] rfl) hf
          refine lv_aload_n hx hb d_Gro_join_130 rfl (lv_at hl 3 rfl) ?_
          refine lv_dup hx hb d_Gro_join_131 rfl ?_
          refine va_get (D := D) (ci := 4) (v := .int v_this_changes) (C := R_Gro) (T := T_Gro) (N := 3) hx hb hts in_Gro hown hK hP 0 rfl rfl 2 (by decide) (hts _ q_75) (fun _ h9 => h9) rfl d_Gro_join_132 ?_
          refine lv_iconst (v := 1) hx hb d_Gro_join_135 (by decide) ?_
          refine lv_iadd hx hb d_Gro_join_136 ?_
          refine va_put (D := D) (ci := 4) (v := .int (v_this_changes + 1)) (ty := .int) (C := R_Gro) (T := T_Gro) (N := 3) hx hb hts in_Gro ty_Gro tyok_Gro nm_Gro hown hK hP (hDL _ rfl) hS 0 rfl rfl 2 (by decide) (hts _ q_75) (fun _ h9 => h9) rfl (by decide +kernel) rfl rfl (Nat.le_of_ble_eq_true rfl) d_Gro_join_137 (fun H locs hP _ hS => ?_)
          have hP : va_P D vwCl [(a_this, .inr (4, [.ref a_this_groups, .ref a_this_groupKinds, .int (v_this_changes + 1)])), (a_this_groups, .inl (cI, 80, .inl w_this_groups_97)), (a_this_groupKinds, .inl (cI, 80, .inl (upd v_this_groupKinds (v_this_groups x1.toNatClampNeg).toNatClampNeg (v_this_groupKinds (v_this_groups x2.toNatClampNeg).toNatClampNeg))))] H := hP
          refine lv_iconst (v := 1) hx hb d_Gro_join_140 (by decide) ?_
          cases hf
          exact hret _ _ _ _ hS hP rfl d_Gro_join_141
      · replace hf := gp c11 hf
        refine lv_iconst (v := 1) hx hb d_Gro_join_37 (by decide) ?_
        cases hf
        exact hret _ _ _ _ hS hP rfl d_Gro_join_38
    · replace hf := gp c8 hf
      refine lv_iconst (v := 0) hx hb d_Gro_join_14 (by decide) ?_
      cases hf
      exact hret _ _ _ _ hS hP rfl d_Gro_join_15
end
section
abbrev b_Sol_init : ByteArray := prog_7_method_1_code
def y_Sol_init : MethodName := ⟨R_Sol, "<init>", "(LKindDesk$Kinds;LKindDesk$Table;LKindDesk$Demands;)V"⟩
def ws_Sol_init : List Cond := Cond.code y_Sol_init b_Sol_init 4 none :: GW
theorem hd_Sol_init : y_Sol_init.cls ≠ "java/lang/invoke/MethodHandle" ∧ y_Sol_init.cls ≠ "java/lang/invoke/VarHandle" ∧ (parseMethodDescriptor y_Sol_init.desc).map (fun d => d.parameters.length) = some 3 := by decide +kernel
theorem d_Sol_init_0 : decode b_Sol_init 0 = .ok (.aload_n 0, 1) := by decide +kernel
theorem d_Sol_init_1 : decode b_Sol_init 1 = .ok (.invokespecial 3, 3) := by decide +kernel
theorem d_Sol_init_4 : decode b_Sol_init 4 = .ok (.aload_n 0, 1) := by decide +kernel
theorem d_Sol_init_5 : decode b_Sol_init 5 = .ok (.new 9, 3) := by decide +kernel
theorem d_Sol_init_8 : decode b_Sol_init 8 = .ok (.dup, 1) := by decide +kernel
theorem d_Sol_init_9 : decode b_Sol_init 9 = .ok (.invokespecial 11, 3) := by decide +kernel
theorem d_Sol_init_12 : decode b_Sol_init 12 = .ok (.putfield 12, 3) := by decide +kernel
theorem d_Sol_init_15 : decode b_Sol_init 15 = .ok (.aload_n 0, 1) := by decide +kernel
theorem d_Sol_init_16 : decode b_Sol_init 16 = .ok (.sipush 200, 3) := by decide +kernel
theorem d_Sol_init_19 : decode b_Sol_init 19 = .ok (.newarray .int, 2) := by decide +kernel
theorem d_Sol_init_21 : decode b_Sol_init 21 = .ok (.putfield 18, 3) := by decide +kernel
theorem d_Sol_init_24 : decode b_Sol_init 24 = .ok (.aload_n 0, 1) := by decide +kernel
theorem d_Sol_init_25 : decode b_Sol_init 25 = .ok (.iconst 0, 1) := by decide +kernel
theorem d_Sol_init_26 : decode b_Sol_init 26 = .ok (.putfield 22, 3) := by decide +kernel
theorem d_Sol_init_29 : decode b_Sol_init 29 = .ok (.aload_n 0, 1) := by decide +kernel
theorem d_Sol_init_30 : decode b_Sol_init 30 = .ok (.iconst (-1), 1) := by decide +kernel
theorem d_Sol_init_31 : decode b_Sol_init 31 = .ok (.putfield 26, 3) := by decide +kernel
theorem d_Sol_init_34 : decode b_Sol_init 34 = .ok (.aload_n 0, 1) := by decide +kernel
theorem d_Sol_init_35 : decode b_Sol_init 35 = .ok (.iconst (-1), 1) := by decide +kernel
theorem d_Sol_init_36 : decode b_Sol_init 36 = .ok (.putfield 29, 3) := by decide +kernel
theorem d_Sol_init_39 : decode b_Sol_init 39 = .ok (.aload_n 0, 1) := by decide +kernel
theorem d_Sol_init_40 : decode b_Sol_init 40 = .ok (.aload_n 1, 1) := by decide +kernel
theorem d_Sol_init_41 : decode b_Sol_init 41 = .ok (.putfield 32, 3) := by decide +kernel
theorem d_Sol_init_44 : decode b_Sol_init 44 = .ok (.aload_n 0, 1) := by decide +kernel
theorem d_Sol_init_45 : decode b_Sol_init 45 = .ok (.aload_n 2, 1) := by decide +kernel
theorem d_Sol_init_46 : decode b_Sol_init 46 = .ok (.putfield 36, 3) := by decide +kernel
theorem d_Sol_init_49 : decode b_Sol_init 49 = .ok (.aload_n 0, 1) := by decide +kernel
theorem d_Sol_init_50 : decode b_Sol_init 50 = .ok (.aload_n 3, 1) := by decide +kernel
theorem d_Sol_init_51 : decode b_Sol_init 51 = .ok (.putfield 40, 3) := by decide +kernel
theorem d_Sol_init_54 : decode b_Sol_init 54 = .ok (.return_, 1) := by decide +kernel
abbrev b_Sol_forget : ByteArray := prog_7_method_2_code
def y_Sol_forget : MethodName := ⟨R_Sol, "forget", "()V"⟩
def ws_Sol_forget : List Cond := Cond.code y_Sol_forget b_Sol_forget 1 none :: GW
theorem hd_Sol_forget : y_Sol_forget.cls ≠ "java/lang/invoke/MethodHandle" ∧ y_Sol_forget.cls ≠ "java/lang/invoke/VarHandle" ∧ (parseMethodDescriptor y_Sol_forget.desc).map (fun d => d.parameters.length) = some 0 := by decide +kernel
theorem d_Sol_forget_0 : decode b_Sol_forget 0 = .ok (.aload_n 0, 1) := by decide +kernel
theorem d_Sol_forget_1 : decode b_Sol_forget 1 = .ok (.iconst (-1), 1) := by decide +kernel
theorem d_Sol_forget_2 : decode b_Sol_forget 2 = .ok (.putfield 26, 3) := by decide +kernel
theorem d_Sol_forget_5 : decode b_Sol_forget 5 = .ok (.aload_n 0, 1) := by decide +kernel
theorem d_Sol_forget_6 : decode b_Sol_forget 6 = .ok (.iconst (-1), 1) := by decide +kernel
theorem d_Sol_forget_7 : decode b_Sol_forget 7 = .ok (.putfield 29, 3) := by decide +kernel
theorem d_Sol_forget_10 : decode b_Sol_forget 10 = .ok (.return_, 1) := by decide +kernel
abbrev b_Sol_begin : ByteArray := prog_7_method_4_code
def y_Sol_begin : MethodName := ⟨R_Sol, "begin", "()V"⟩
def ws_Sol_begin : List Cond := Cond.code y_Sol_begin b_Sol_begin 1 none :: GW
theorem hd_Sol_begin : y_Sol_begin.cls ≠ "java/lang/invoke/MethodHandle" ∧ y_Sol_begin.cls ≠ "java/lang/invoke/VarHandle" ∧ (parseMethodDescriptor y_Sol_begin.desc).map (fun d => d.parameters.length) = some 0 := by decide +kernel
theorem d_Sol_begin_0 : decode b_Sol_begin 0 = .ok (.aload_n 0, 1) := by decide +kernel
theorem d_Sol_begin_1 : decode b_Sol_begin 1 = .ok (.getfield 12, 3) := by decide +kernel
theorem d_Sol_begin_4 : decode b_Sol_begin 4 = .ok (.invokevirtual 60, 3) := by decide +kernel
theorem d_Sol_begin_7 : decode b_Sol_begin 7 = .ok (.aload_n 0, 1) := by decide +kernel
theorem d_Sol_begin_8 : decode b_Sol_begin 8 = .ok (.getfield 18, 3) := by decide +kernel
theorem d_Sol_begin_11 : decode b_Sol_begin 11 = .ok (.iconst (-1), 1) := by decide +kernel
theorem d_Sol_begin_12 : decode b_Sol_begin 12 = .ok (.invokestatic 63, 3) := by decide +kernel
theorem d_Sol_begin_15 : decode b_Sol_begin 15 = .ok (.aload_n 0, 1) := by decide +kernel
theorem d_Sol_begin_16 : decode b_Sol_begin 16 = .ok (.iconst 0, 1) := by decide +kernel
theorem d_Sol_begin_17 : decode b_Sol_begin 17 = .ok (.putfield 22, 3) := by decide +kernel
theorem d_Sol_begin_20 : decode b_Sol_begin 20 = .ok (.aload_n 0, 1) := by decide +kernel
theorem d_Sol_begin_21 : decode b_Sol_begin 21 = .ok (.iconst 0, 1) := by decide +kernel
theorem d_Sol_begin_22 : decode b_Sol_begin 22 = .ok (.putfield 26, 3) := by decide +kernel
theorem d_Sol_begin_25 : decode b_Sol_begin 25 = .ok (.aload_n 0, 1) := by decide +kernel
theorem d_Sol_begin_26 : decode b_Sol_begin 26 = .ok (.iconst (-1), 1) := by decide +kernel
theorem d_Sol_begin_27 : decode b_Sol_begin 27 = .ok (.putfield 29, 3) := by decide +kernel
theorem d_Sol_begin_30 : decode b_Sol_begin 30 = .ok (.return_, 1) := by decide +kernel
abbrev b_Sol_changes : ByteArray := prog_7_method_5_code
def y_Sol_changes : MethodName := ⟨R_Sol, "changes", "()I"⟩
def ws_Sol_changes : List Cond := Cond.code y_Sol_changes b_Sol_changes 1 (some .int) :: GW
theorem hd_Sol_changes : y_Sol_changes.cls ≠ "java/lang/invoke/MethodHandle" ∧ y_Sol_changes.cls ≠ "java/lang/invoke/VarHandle" ∧ (parseMethodDescriptor y_Sol_changes.desc).map (fun d => d.parameters.length) = some 0 := by decide +kernel
theorem d_Sol_changes_0 : decode b_Sol_changes 0 = .ok (.aload_n 0, 1) := by decide +kernel
theorem d_Sol_changes_1 : decode b_Sol_changes 1 = .ok (.getfield 12, 3) := by decide +kernel
theorem d_Sol_changes_4 : decode b_Sol_changes 4 = .ok (.getfield 69, 3) := by decide +kernel
theorem d_Sol_changes_7 : decode b_Sol_changes 7 = .ok (.aload_n 0, 1) := by decide +kernel
theorem d_Sol_changes_8 : decode b_Sol_changes 8 = .ok (.getfield 22, 3) := by decide +kernel
theorem d_Sol_changes_11 : decode b_Sol_changes 11 = .ok (.iadd, 1) := by decide +kernel
theorem d_Sol_changes_12 : decode b_Sol_changes 12 = .ok (.ireturn, 1) := by decide +kernel
abbrev b_Sol_giveAll : ByteArray := prog_7_method_8_code
def y_Sol_giveAll : MethodName := ⟨R_Sol, "giveAll", "(IILKindDesk$Table;I)Z"⟩
def ws_Sol_giveAll : List Cond := Cond.code y_Sol_giveAll b_Sol_giveAll 6 (some .boolean) :: GW
theorem hd_Sol_giveAll : y_Sol_giveAll.cls ≠ "java/lang/invoke/MethodHandle" ∧ y_Sol_giveAll.cls ≠ "java/lang/invoke/VarHandle" ∧ (parseMethodDescriptor y_Sol_giveAll.desc).map (fun d => d.parameters.length) = some 4 := by decide +kernel
theorem d_Sol_giveAll_0 : decode b_Sol_giveAll 0 = .ok (.iconst 0, 1) := by decide +kernel
theorem d_Sol_giveAll_1 : decode b_Sol_giveAll 1 = .ok (.istore 5, 2) := by decide +kernel
theorem d_Sol_giveAll_3 : decode b_Sol_giveAll 3 = .ok (.iload 5, 2) := by decide +kernel
theorem d_Sol_giveAll_5 : decode b_Sol_giveAll 5 = .ok (.aload_n 3, 1) := by decide +kernel
theorem d_Sol_giveAll_6 : decode b_Sol_giveAll 6 = .ok (.iload 4, 2) := by decide +kernel
theorem d_Sol_giveAll_8 : decode b_Sol_giveAll 8 = .ok (.invokevirtual 113, 3) := by decide +kernel
theorem d_Sol_giveAll_11 : decode b_Sol_giveAll 11 = .ok (.if_icmp .ge 44, 3) := by decide +kernel
theorem d_Sol_giveAll_14 : decode b_Sol_giveAll 14 = .ok (.aload_n 0, 1) := by decide +kernel
theorem d_Sol_giveAll_15 : decode b_Sol_giveAll 15 = .ok (.getfield 12, 3) := by decide +kernel
theorem d_Sol_giveAll_18 : decode b_Sol_giveAll 18 = .ok (.aload_n 0, 1) := by decide +kernel
theorem d_Sol_giveAll_19 : decode b_Sol_giveAll 19 = .ok (.getfield 40, 3) := by decide +kernel
theorem d_Sol_giveAll_22 : decode b_Sol_giveAll 22 = .ok (.getfield 80, 3) := by decide +kernel
theorem d_Sol_giveAll_25 : decode b_Sol_giveAll 25 = .ok (.iload_n 1, 1) := by decide +kernel
theorem d_Sol_giveAll_26 : decode b_Sol_giveAll 26 = .ok (.iload_n 2, 1) := by decide +kernel
theorem d_Sol_giveAll_27 : decode b_Sol_giveAll 27 = .ok (.iload 5, 2) := by decide +kernel
theorem d_Sol_giveAll_29 : decode b_Sol_giveAll 29 = .ok (.iadd, 1) := by decide +kernel
theorem d_Sol_giveAll_30 : decode b_Sol_giveAll 30 = .ok (.invokevirtual 87, 3) := by decide +kernel
theorem d_Sol_giveAll_33 : decode b_Sol_giveAll 33 = .ok (.aload_n 3, 1) := by decide +kernel
theorem d_Sol_giveAll_34 : decode b_Sol_giveAll 34 = .ok (.iload 4, 2) := by decide +kernel
theorem d_Sol_giveAll_36 : decode b_Sol_giveAll 36 = .ok (.iload 5, 2) := by decide +kernel
theorem d_Sol_giveAll_38 : decode b_Sol_giveAll 38 = .ok (.invokevirtual 87, 3) := by decide +kernel
theorem d_Sol_giveAll_41 : decode b_Sol_giveAll 41 = .ok (.invokevirtual 93, 3) := by decide +kernel
theorem d_Sol_giveAll_44 : decode b_Sol_giveAll 44 = .ok (.ifCond .ne 5, 3) := by decide +kernel
theorem d_Sol_giveAll_47 : decode b_Sol_giveAll 47 = .ok (.iconst 0, 1) := by decide +kernel
theorem d_Sol_giveAll_48 : decode b_Sol_giveAll 48 = .ok (.ireturn, 1) := by decide +kernel
theorem d_Sol_giveAll_49 : decode b_Sol_giveAll 49 = .ok (.iinc 5 1, 3) := by decide +kernel
theorem d_Sol_giveAll_52 : decode b_Sol_giveAll 52 = .ok (.goto (-49), 3) := by decide +kernel
theorem d_Sol_giveAll_55 : decode b_Sol_giveAll 55 = .ok (.iconst 1, 1) := by decide +kernel
theorem d_Sol_giveAll_56 : decode b_Sol_giveAll 56 = .ok (.ireturn, 1) := by decide +kernel
abbrev b_Sol_meaningOf : ByteArray := prog_7_method_11_code
def y_Sol_meaningOf : MethodName := ⟨R_Sol, "meaningOf", "(I)I"⟩
def ws_Sol_meaningOf : List Cond := Cond.code y_Sol_meaningOf b_Sol_meaningOf 2 (some .int) :: GW
theorem hd_Sol_meaningOf : y_Sol_meaningOf.cls ≠ "java/lang/invoke/MethodHandle" ∧ y_Sol_meaningOf.cls ≠ "java/lang/invoke/VarHandle" ∧ (parseMethodDescriptor y_Sol_meaningOf.desc).map (fun d => d.parameters.length) = some 1 := by decide +kernel
theorem d_Sol_meaningOf_0 : decode b_Sol_meaningOf 0 = .ok (.iload_n 1, 1) := by decide +kernel
theorem d_Sol_meaningOf_1 : decode b_Sol_meaningOf 1 = .ok (.invokestatic 127, 3) := by decide +kernel
theorem d_Sol_meaningOf_4 : decode b_Sol_meaningOf 4 = .ok (.ifCond .eq 12, 3) := by decide +kernel
theorem d_Sol_meaningOf_7 : decode b_Sol_meaningOf 7 = .ok (.aload_n 0, 1) := by decide +kernel
theorem d_Sol_meaningOf_8 : decode b_Sol_meaningOf 8 = .ok (.getfield 18, 3) := by decide +kernel
theorem d_Sol_meaningOf_11 : decode b_Sol_meaningOf 11 = .ok (.iload_n 1, 1) := by decide +kernel
theorem d_Sol_meaningOf_12 : decode b_Sol_meaningOf 12 = .ok (.iaload, 1) := by decide +kernel
theorem d_Sol_meaningOf_13 : decode b_Sol_meaningOf 13 = .ok (.goto 4, 3) := by decide +kernel
theorem d_Sol_meaningOf_16 : decode b_Sol_meaningOf 16 = .ok (.iconst (-1), 1) := by decide +kernel
theorem d_Sol_meaningOf_17 : decode b_Sol_meaningOf 17 = .ok (.ireturn, 1) := by decide +kernel
abbrev b_Sol_fits : ByteArray := prog_7_method_10_code
def y_Sol_fits : MethodName := ⟨R_Sol, "fits", "(II)Z"⟩
def ws_Sol_fits : List Cond := Cond.code y_Sol_fits b_Sol_fits 6 (some .boolean) :: GW
theorem hd_Sol_fits : y_Sol_fits.cls ≠ "java/lang/invoke/MethodHandle" ∧ y_Sol_fits.cls ≠ "java/lang/invoke/VarHandle" ∧ (parseMethodDescriptor y_Sol_fits.desc).map (fun d => d.parameters.length) = some 2 := by decide +kernel
theorem d_Sol_fits_0 : decode b_Sol_fits 0 = .ok (.aload_n 0, 1) := by decide +kernel
theorem d_Sol_fits_1 : decode b_Sol_fits 1 = .ok (.getfield 40, 3) := by decide +kernel
theorem d_Sol_fits_4 : decode b_Sol_fits 4 = .ok (.getfield 80, 3) := by decide +kernel
theorem d_Sol_fits_7 : decode b_Sol_fits 7 = .ok (.astore_n 3, 1) := by decide +kernel
theorem d_Sol_fits_8 : decode b_Sol_fits 8 = .ok (.aload_n 0, 1) := by decide +kernel
theorem d_Sol_fits_9 : decode b_Sol_fits 9 = .ok (.getfield 32, 3) := by decide +kernel
theorem d_Sol_fits_12 : decode b_Sol_fits 12 = .ok (.getfield 116, 3) := by decide +kernel
theorem d_Sol_fits_15 : decode b_Sol_fits 15 = .ok (.iload_n 1, 1) := by decide +kernel
theorem d_Sol_fits_16 : decode b_Sol_fits 16 = .ok (.invokevirtual 113, 3) := by decide +kernel
theorem d_Sol_fits_19 : decode b_Sol_fits 19 = .ok (.istore 4, 2) := by decide +kernel
theorem d_Sol_fits_21 : decode b_Sol_fits 21 = .ok (.aload_n 0, 1) := by decide +kernel
theorem d_Sol_fits_22 : decode b_Sol_fits 22 = .ok (.getfield 32, 3) := by decide +kernel
theorem d_Sol_fits_25 : decode b_Sol_fits 25 = .ok (.iload_n 1, 1) := by decide +kernel
theorem d_Sol_fits_26 : decode b_Sol_fits 26 = .ok (.invokevirtual 133, 3) := by decide +kernel
theorem d_Sol_fits_29 : decode b_Sol_fits 29 = .ok (.aload_n 0, 1) := by decide +kernel
theorem d_Sol_fits_30 : decode b_Sol_fits 30 = .ok (.getfield 40, 3) := by decide +kernel
theorem d_Sol_fits_33 : decode b_Sol_fits 33 = .ok (.iload_n 2, 1) := by decide +kernel
theorem d_Sol_fits_34 : decode b_Sol_fits 34 = .ok (.invokevirtual 100, 3) := by decide +kernel
theorem d_Sol_fits_37 : decode b_Sol_fits 37 = .ok (.if_icmp .ne 39, 3) := by decide +kernel
theorem d_Sol_fits_40 : decode b_Sol_fits 40 = .ok (.iload 4, 2) := by decide +kernel
theorem d_Sol_fits_42 : decode b_Sol_fits 42 = .ok (.iconst 1, 1) := by decide +kernel
theorem d_Sol_fits_43 : decode b_Sol_fits 43 = .ok (.iadd, 1) := by decide +kernel
theorem d_Sol_fits_44 : decode b_Sol_fits 44 = .ok (.aload_n 3, 1) := by decide +kernel
theorem d_Sol_fits_45 : decode b_Sol_fits 45 = .ok (.iload_n 2, 1) := by decide +kernel
theorem d_Sol_fits_46 : decode b_Sol_fits 46 = .ok (.invokevirtual 113, 3) := by decide +kernel
theorem d_Sol_fits_49 : decode b_Sol_fits 49 = .ok (.if_icmp .ne 27, 3) := by decide +kernel
theorem d_Sol_fits_52 : decode b_Sol_fits 52 = .ok (.aload_n 0, 1) := by decide +kernel
theorem d_Sol_fits_53 : decode b_Sol_fits 53 = .ok (.getfield 12, 3) := by decide +kernel
theorem d_Sol_fits_56 : decode b_Sol_fits 56 = .ok (.aload_n 3, 1) := by decide +kernel
theorem d_Sol_fits_57 : decode b_Sol_fits 57 = .ok (.iload_n 2, 1) := by decide +kernel
theorem d_Sol_fits_58 : decode b_Sol_fits 58 = .ok (.iconst 0, 1) := by decide +kernel
theorem d_Sol_fits_59 : decode b_Sol_fits 59 = .ok (.invokevirtual 87, 3) := by decide +kernel
theorem d_Sol_fits_62 : decode b_Sol_fits 62 = .ok (.aload_n 0, 1) := by decide +kernel
theorem d_Sol_fits_63 : decode b_Sol_fits 63 = .ok (.getfield 32, 3) := by decide +kernel
theorem d_Sol_fits_66 : decode b_Sol_fits 66 = .ok (.iload_n 1, 1) := by decide +kernel
theorem d_Sol_fits_67 : decode b_Sol_fits 67 = .ok (.invokevirtual 130, 3) := by decide +kernel
theorem d_Sol_fits_70 : decode b_Sol_fits 70 = .ok (.invokevirtual 136, 3) := by decide +kernel
theorem d_Sol_fits_73 : decode b_Sol_fits 73 = .ok (.ifCond .ne 5, 3) := by decide +kernel
theorem d_Sol_fits_76 : decode b_Sol_fits 76 = .ok (.iconst 0, 1) := by decide +kernel
theorem d_Sol_fits_77 : decode b_Sol_fits 77 = .ok (.ireturn, 1) := by decide +kernel
theorem d_Sol_fits_78 : decode b_Sol_fits 78 = .ok (.iconst 0, 1) := by decide +kernel
theorem d_Sol_fits_79 : decode b_Sol_fits 79 = .ok (.istore 5, 2) := by decide +kernel
theorem d_Sol_fits_81 : decode b_Sol_fits 81 = .ok (.iload 5, 2) := by decide +kernel
theorem d_Sol_fits_83 : decode b_Sol_fits 83 = .ok (.iload 4, 2) := by decide +kernel
theorem d_Sol_fits_85 : decode b_Sol_fits 85 = .ok (.if_icmp .ge 43, 3) := by decide +kernel
theorem d_Sol_fits_88 : decode b_Sol_fits 88 = .ok (.aload_n 0, 1) := by decide +kernel
theorem d_Sol_fits_89 : decode b_Sol_fits 89 = .ok (.getfield 12, 3) := by decide +kernel
theorem d_Sol_fits_92 : decode b_Sol_fits 92 = .ok (.aload_n 3, 1) := by decide +kernel
theorem d_Sol_fits_93 : decode b_Sol_fits 93 = .ok (.iload_n 2, 1) := by decide +kernel
theorem d_Sol_fits_94 : decode b_Sol_fits 94 = .ok (.iload 5, 2) := by decide +kernel
theorem d_Sol_fits_96 : decode b_Sol_fits 96 = .ok (.iconst 1, 1) := by decide +kernel
theorem d_Sol_fits_97 : decode b_Sol_fits 97 = .ok (.iadd, 1) := by decide +kernel
theorem d_Sol_fits_98 : decode b_Sol_fits 98 = .ok (.invokevirtual 87, 3) := by decide +kernel
theorem d_Sol_fits_101 : decode b_Sol_fits 101 = .ok (.aload_n 0, 1) := by decide +kernel
theorem d_Sol_fits_102 : decode b_Sol_fits 102 = .ok (.getfield 32, 3) := by decide +kernel
theorem d_Sol_fits_105 : decode b_Sol_fits 105 = .ok (.getfield 116, 3) := by decide +kernel
theorem d_Sol_fits_108 : decode b_Sol_fits 108 = .ok (.iload_n 1, 1) := by decide +kernel
theorem d_Sol_fits_109 : decode b_Sol_fits 109 = .ok (.iload 5, 2) := by decide +kernel
theorem d_Sol_fits_111 : decode b_Sol_fits 111 = .ok (.invokevirtual 87, 3) := by decide +kernel
theorem d_Sol_fits_114 : decode b_Sol_fits 114 = .ok (.invokevirtual 136, 3) := by decide +kernel
theorem d_Sol_fits_117 : decode b_Sol_fits 117 = .ok (.ifCond .ne 5, 3) := by decide +kernel
theorem d_Sol_fits_120 : decode b_Sol_fits 120 = .ok (.iconst 0, 1) := by decide +kernel
theorem d_Sol_fits_121 : decode b_Sol_fits 121 = .ok (.ireturn, 1) := by decide +kernel
theorem d_Sol_fits_122 : decode b_Sol_fits 122 = .ok (.iinc 5 1, 3) := by decide +kernel
theorem d_Sol_fits_125 : decode b_Sol_fits 125 = .ok (.goto (-44), 3) := by decide +kernel
theorem d_Sol_fits_128 : decode b_Sol_fits 128 = .ok (.iconst 1, 1) := by decide +kernel
theorem d_Sol_fits_129 : decode b_Sol_fits 129 = .ok (.ireturn, 1) := by decide +kernel
abbrev b_Sol_meetForm : ByteArray := prog_7_method_9_code
def y_Sol_meetForm : MethodName := ⟨R_Sol, "meetForm", "(I)Z"⟩
def ws_Sol_meetForm : List Cond := Cond.code y_Sol_meetForm b_Sol_meetForm 4 (some .boolean) :: GW
theorem hd_Sol_meetForm : y_Sol_meetForm.cls ≠ "java/lang/invoke/MethodHandle" ∧ y_Sol_meetForm.cls ≠ "java/lang/invoke/VarHandle" ∧ (parseMethodDescriptor y_Sol_meetForm.desc).map (fun d => d.parameters.length) = some 1 := by decide +kernel
theorem d_Sol_meetForm_0 : decode b_Sol_meetForm 0 = .ok (.iconst (-1), 1) := by decide +kernel
theorem d_Sol_meetForm_1 : decode b_Sol_meetForm 1 = .ok (.istore_n 2, 1) := by decide +kernel
theorem d_Sol_meetForm_2 : decode b_Sol_meetForm 2 = .ok (.iconst 0, 1) := by decide +kernel
theorem d_Sol_meetForm_3 : decode b_Sol_meetForm 3 = .ok (.istore_n 3, 1) := by decide +kernel
theorem d_Sol_meetForm_4 : decode b_Sol_meetForm 4 = .ok (.iload_n 3, 1) := by decide +kernel
theorem d_Sol_meetForm_5 : decode b_Sol_meetForm 5 = .ok (.aload_n 0, 1) := by decide +kernel
theorem d_Sol_meetForm_6 : decode b_Sol_meetForm 6 = .ok (.getfield 32, 3) := by decide +kernel
theorem d_Sol_meetForm_9 : decode b_Sol_meetForm 9 = .ok (.getfield 116, 3) := by decide +kernel
theorem d_Sol_meetForm_12 : decode b_Sol_meetForm 12 = .ok (.getfield 121, 3) := by decide +kernel
theorem d_Sol_meetForm_15 : decode b_Sol_meetForm 15 = .ok (.if_icmp .ge 27, 3) := by decide +kernel
theorem d_Sol_meetForm_18 : decode b_Sol_meetForm 18 = .ok (.aload_n 0, 1) := by decide +kernel
theorem d_Sol_meetForm_19 : decode b_Sol_meetForm 19 = .ok (.iload_n 3, 1) := by decide +kernel
theorem d_Sol_meetForm_20 : decode b_Sol_meetForm 20 = .ok (.iload_n 1, 1) := by decide +kernel
theorem d_Sol_meetForm_21 : decode b_Sol_meetForm 21 = .ok (.invokevirtual 124, 3) := by decide +kernel
theorem d_Sol_meetForm_24 : decode b_Sol_meetForm 24 = .ok (.ifCond .eq 12, 3) := by decide +kernel
theorem d_Sol_meetForm_27 : decode b_Sol_meetForm 27 = .ok (.iload_n 2, 1) := by decide +kernel
theorem d_Sol_meetForm_28 : decode b_Sol_meetForm 28 = .ok (.iconst (-1), 1) := by decide +kernel
theorem d_Sol_meetForm_29 : decode b_Sol_meetForm 29 = .ok (.if_icmp .eq 5, 3) := by decide +kernel
theorem d_Sol_meetForm_32 : decode b_Sol_meetForm 32 = .ok (.iconst 1, 1) := by decide +kernel
theorem d_Sol_meetForm_33 : decode b_Sol_meetForm 33 = .ok (.ireturn, 1) := by decide +kernel
theorem d_Sol_meetForm_34 : decode b_Sol_meetForm 34 = .ok (.iload_n 3, 1) := by decide +kernel
theorem d_Sol_meetForm_35 : decode b_Sol_meetForm 35 = .ok (.istore_n 2, 1) := by decide +kernel
theorem d_Sol_meetForm_36 : decode b_Sol_meetForm 36 = .ok (.iinc 3 1, 3) := by decide +kernel
theorem d_Sol_meetForm_39 : decode b_Sol_meetForm 39 = .ok (.goto (-35), 3) := by decide +kernel
theorem d_Sol_meetForm_42 : decode b_Sol_meetForm 42 = .ok (.iload_n 2, 1) := by decide +kernel
theorem d_Sol_meetForm_43 : decode b_Sol_meetForm 43 = .ok (.iconst (-1), 1) := by decide +kernel
theorem d_Sol_meetForm_44 : decode b_Sol_meetForm 44 = .ok (.if_icmp .eq 10, 3) := by decide +kernel
theorem d_Sol_meetForm_47 : decode b_Sol_meetForm 47 = .ok (.iload_n 1, 1) := by decide +kernel
theorem d_Sol_meetForm_48 : decode b_Sol_meetForm 48 = .ok (.invokestatic 127, 3) := by decide +kernel
theorem d_Sol_meetForm_51 : decode b_Sol_meetForm 51 = .ok (.ifCond .ne 5, 3) := by decide +kernel
theorem d_Sol_meetForm_54 : decode b_Sol_meetForm 54 = .ok (.iconst 0, 1) := by decide +kernel
theorem d_Sol_meetForm_55 : decode b_Sol_meetForm 55 = .ok (.ireturn, 1) := by decide +kernel
theorem d_Sol_meetForm_56 : decode b_Sol_meetForm 56 = .ok (.aload_n 0, 1) := by decide +kernel
theorem d_Sol_meetForm_57 : decode b_Sol_meetForm 57 = .ok (.getfield 18, 3) := by decide +kernel
theorem d_Sol_meetForm_60 : decode b_Sol_meetForm 60 = .ok (.iload_n 1, 1) := by decide +kernel
theorem d_Sol_meetForm_61 : decode b_Sol_meetForm 61 = .ok (.iload_n 2, 1) := by decide +kernel
theorem d_Sol_meetForm_62 : decode b_Sol_meetForm 62 = .ok (.iastore, 1) := by decide +kernel
theorem d_Sol_meetForm_63 : decode b_Sol_meetForm 63 = .ok (.aload_n 0, 1) := by decide +kernel
theorem d_Sol_meetForm_64 : decode b_Sol_meetForm 64 = .ok (.dup, 1) := by decide +kernel
theorem d_Sol_meetForm_65 : decode b_Sol_meetForm 65 = .ok (.getfield 22, 3) := by decide +kernel
theorem d_Sol_meetForm_68 : decode b_Sol_meetForm 68 = .ok (.iconst 1, 1) := by decide +kernel
theorem d_Sol_meetForm_69 : decode b_Sol_meetForm 69 = .ok (.iadd, 1) := by decide +kernel
theorem d_Sol_meetForm_70 : decode b_Sol_meetForm 70 = .ok (.putfield 22, 3) := by decide +kernel
theorem d_Sol_meetForm_73 : decode b_Sol_meetForm 73 = .ok (.aload_n 0, 1) := by decide +kernel
theorem d_Sol_meetForm_74 : decode b_Sol_meetForm 74 = .ok (.getfield 12, 3) := by decide +kernel
theorem d_Sol_meetForm_77 : decode b_Sol_meetForm 77 = .ok (.aload_n 0, 1) := by decide +kernel
theorem d_Sol_meetForm_78 : decode b_Sol_meetForm 78 = .ok (.getfield 40, 3) := by decide +kernel
theorem d_Sol_meetForm_81 : decode b_Sol_meetForm 81 = .ok (.getfield 80, 3) := by decide +kernel
theorem d_Sol_meetForm_84 : decode b_Sol_meetForm 84 = .ok (.iload_n 1, 1) := by decide +kernel
theorem d_Sol_meetForm_85 : decode b_Sol_meetForm 85 = .ok (.iconst 0, 1) := by decide +kernel
theorem d_Sol_meetForm_86 : decode b_Sol_meetForm 86 = .ok (.invokevirtual 87, 3) := by decide +kernel
theorem d_Sol_meetForm_89 : decode b_Sol_meetForm 89 = .ok (.aload_n 0, 1) := by decide +kernel
theorem d_Sol_meetForm_90 : decode b_Sol_meetForm 90 = .ok (.getfield 32, 3) := by decide +kernel
theorem d_Sol_meetForm_93 : decode b_Sol_meetForm 93 = .ok (.iload_n 2, 1) := by decide +kernel
theorem d_Sol_meetForm_94 : decode b_Sol_meetForm 94 = .ok (.invokevirtual 130, 3) := by decide +kernel
theorem d_Sol_meetForm_97 : decode b_Sol_meetForm 97 = .ok (.invokevirtual 93, 3) := by decide +kernel
theorem d_Sol_meetForm_100 : decode b_Sol_meetForm 100 = .ok (.ifCond .eq 24, 3) := by decide +kernel
theorem d_Sol_meetForm_103 : decode b_Sol_meetForm 103 = .ok (.aload_n 0, 1) := by decide +kernel
theorem d_Sol_meetForm_104 : decode b_Sol_meetForm 104 = .ok (.iload_n 1, 1) := by decide +kernel
theorem d_Sol_meetForm_105 : decode b_Sol_meetForm 105 = .ok (.iconst 1, 1) := by decide +kernel
theorem d_Sol_meetForm_106 : decode b_Sol_meetForm 106 = .ok (.aload_n 0, 1) := by decide +kernel
theorem d_Sol_meetForm_107 : decode b_Sol_meetForm 107 = .ok (.getfield 32, 3) := by decide +kernel
theorem d_Sol_meetForm_110 : decode b_Sol_meetForm 110 = .ok (.getfield 116, 3) := by decide +kernel
theorem d_Sol_meetForm_113 : decode b_Sol_meetForm 113 = .ok (.iload_n 2, 1) := by decide +kernel
theorem d_Sol_meetForm_114 : decode b_Sol_meetForm 114 = .ok (.invokevirtual 103, 3) := by decide +kernel
theorem d_Sol_meetForm_117 : decode b_Sol_meetForm 117 = .ok (.ifCond .eq 7, 3) := by decide +kernel
theorem d_Sol_meetForm_120 : decode b_Sol_meetForm 120 = .ok (.iconst 1, 1) := by decide +kernel
theorem d_Sol_meetForm_121 : decode b_Sol_meetForm 121 = .ok (.goto 4, 3) := by decide +kernel
theorem d_Sol_meetForm_124 : decode b_Sol_meetForm 124 = .ok (.iconst 0, 1) := by decide +kernel
theorem d_Sol_meetForm_125 : decode b_Sol_meetForm 125 = .ok (.ireturn, 1) := by decide +kernel
abbrev b_Sol_meet : ByteArray := prog_7_method_7_code
def y_Sol_meet : MethodName := ⟨R_Sol, "meet", "(I)Z"⟩
def ws_Sol_meet : List Cond := Cond.code y_Sol_meet b_Sol_meet 3 (some .boolean) :: GW
theorem hd_Sol_meet : y_Sol_meet.cls ≠ "java/lang/invoke/MethodHandle" ∧ y_Sol_meet.cls ≠ "java/lang/invoke/VarHandle" ∧ (parseMethodDescriptor y_Sol_meet.desc).map (fun d => d.parameters.length) = some 1 := by decide +kernel
theorem d_Sol_meet_0 : decode b_Sol_meet 0 = .ok (.aload_n 0, 1) := by decide +kernel
theorem d_Sol_meet_1 : decode b_Sol_meet 1 = .ok (.getfield 40, 3) := by decide +kernel
theorem d_Sol_meet_4 : decode b_Sol_meet 4 = .ok (.getfield 80, 3) := by decide +kernel
theorem d_Sol_meet_7 : decode b_Sol_meet 7 = .ok (.astore_n 2, 1) := by decide +kernel
theorem d_Sol_meet_8 : decode b_Sol_meet 8 = .ok (.aload_n 0, 1) := by decide +kernel
theorem d_Sol_meet_9 : decode b_Sol_meet 9 = .ok (.getfield 40, 3) := by decide +kernel
theorem d_Sol_meet_12 : decode b_Sol_meet 12 = .ok (.iload_n 1, 1) := by decide +kernel
theorem d_Sol_meet_13 : decode b_Sol_meet 13 = .ok (.invokevirtual 83, 3) := by decide +kernel
theorem d_Sol_meet_16 : decode b_Sol_meet 16 = .ok (.tableswitch 109 0 3 #[32, 47, 67, 86], 32) := by decide +kernel
theorem d_Sol_meet_48 : decode b_Sol_meet 48 = .ok (.aload_n 0, 1) := by decide +kernel
theorem d_Sol_meet_49 : decode b_Sol_meet 49 = .ok (.getfield 12, 3) := by decide +kernel
theorem d_Sol_meet_52 : decode b_Sol_meet 52 = .ok (.aload_n 2, 1) := by decide +kernel
theorem d_Sol_meet_53 : decode b_Sol_meet 53 = .ok (.iload_n 1, 1) := by decide +kernel
theorem d_Sol_meet_54 : decode b_Sol_meet 54 = .ok (.iconst 0, 1) := by decide +kernel
theorem d_Sol_meet_55 : decode b_Sol_meet 55 = .ok (.invokevirtual 87, 3) := by decide +kernel
theorem d_Sol_meet_58 : decode b_Sol_meet 58 = .ok (.iconst 0, 1) := by decide +kernel
theorem d_Sol_meet_59 : decode b_Sol_meet 59 = .ok (.invokevirtual 93, 3) := by decide +kernel
theorem d_Sol_meet_62 : decode b_Sol_meet 62 = .ok (.ireturn, 1) := by decide +kernel
theorem d_Sol_meet_63 : decode b_Sol_meet 63 = .ok (.aload_n 0, 1) := by decide +kernel
theorem d_Sol_meet_64 : decode b_Sol_meet 64 = .ok (.getfield 12, 3) := by decide +kernel
theorem d_Sol_meet_67 : decode b_Sol_meet 67 = .ok (.aload_n 2, 1) := by decide +kernel
theorem d_Sol_meet_68 : decode b_Sol_meet 68 = .ok (.iload_n 1, 1) := by decide +kernel
theorem d_Sol_meet_69 : decode b_Sol_meet 69 = .ok (.iconst 0, 1) := by decide +kernel
theorem d_Sol_meet_70 : decode b_Sol_meet 70 = .ok (.invokevirtual 87, 3) := by decide +kernel
theorem d_Sol_meet_73 : decode b_Sol_meet 73 = .ok (.aload_n 2, 1) := by decide +kernel
theorem d_Sol_meet_74 : decode b_Sol_meet 74 = .ok (.iload_n 1, 1) := by decide +kernel
theorem d_Sol_meet_75 : decode b_Sol_meet 75 = .ok (.iconst 1, 1) := by decide +kernel
theorem d_Sol_meet_76 : decode b_Sol_meet 76 = .ok (.invokevirtual 87, 3) := by decide +kernel
theorem d_Sol_meet_79 : decode b_Sol_meet 79 = .ok (.invokevirtual 97, 3) := by decide +kernel
theorem d_Sol_meet_82 : decode b_Sol_meet 82 = .ok (.ireturn, 1) := by decide +kernel
theorem d_Sol_meet_83 : decode b_Sol_meet 83 = .ok (.aload_n 0, 1) := by decide +kernel
theorem d_Sol_meet_84 : decode b_Sol_meet 84 = .ok (.iload_n 1, 1) := by decide +kernel
theorem d_Sol_meet_85 : decode b_Sol_meet 85 = .ok (.iconst 0, 1) := by decide +kernel
theorem d_Sol_meet_86 : decode b_Sol_meet 86 = .ok (.aload_n 0, 1) := by decide +kernel
theorem d_Sol_meet_87 : decode b_Sol_meet 87 = .ok (.getfield 36, 3) := by decide +kernel
theorem d_Sol_meet_90 : decode b_Sol_meet 90 = .ok (.aload_n 0, 1) := by decide +kernel
theorem d_Sol_meet_91 : decode b_Sol_meet 91 = .ok (.getfield 40, 3) := by decide +kernel
theorem d_Sol_meet_94 : decode b_Sol_meet 94 = .ok (.iload_n 1, 1) := by decide +kernel
theorem d_Sol_meet_95 : decode b_Sol_meet 95 = .ok (.invokevirtual 100, 3) := by decide +kernel
theorem d_Sol_meet_98 : decode b_Sol_meet 98 = .ok (.invokevirtual 103, 3) := by decide +kernel
theorem d_Sol_meet_101 : decode b_Sol_meet 101 = .ok (.ireturn, 1) := by decide +kernel
theorem d_Sol_meet_102 : decode b_Sol_meet 102 = .ok (.aload_n 0, 1) := by decide +kernel
theorem d_Sol_meet_103 : decode b_Sol_meet 103 = .ok (.iload_n 1, 1) := by decide +kernel
theorem d_Sol_meet_104 : decode b_Sol_meet 104 = .ok (.invokevirtual 107, 3) := by decide +kernel
theorem d_Sol_meet_107 : decode b_Sol_meet 107 = .ok (.iconst (-1), 1) := by decide +kernel
theorem d_Sol_meet_108 : decode b_Sol_meet 108 = .ok (.if_icmp .ne 11, 3) := by decide +kernel
theorem d_Sol_meet_111 : decode b_Sol_meet 111 = .ok (.aload_n 0, 1) := by decide +kernel
theorem d_Sol_meet_112 : decode b_Sol_meet 112 = .ok (.iload_n 1, 1) := by decide +kernel
theorem d_Sol_meet_113 : decode b_Sol_meet 113 = .ok (.invokevirtual 110, 3) := by decide +kernel
theorem d_Sol_meet_116 : decode b_Sol_meet 116 = .ok (.ifCond .eq 7, 3) := by decide +kernel
theorem d_Sol_meet_119 : decode b_Sol_meet 119 = .ok (.iconst 1, 1) := by decide +kernel
theorem d_Sol_meet_120 : decode b_Sol_meet 120 = .ok (.goto 4, 3) := by decide +kernel
theorem d_Sol_meet_123 : decode b_Sol_meet 123 = .ok (.iconst 0, 1) := by decide +kernel
theorem d_Sol_meet_124 : decode b_Sol_meet 124 = .ok (.ireturn, 1) := by decide +kernel
theorem d_Sol_meet_125 : decode b_Sol_meet 125 = .ok (.iconst 1, 1) := by decide +kernel
theorem d_Sol_meet_126 : decode b_Sol_meet 126 = .ok (.ireturn, 1) := by decide +kernel
abbrev b_Sol_goRound : ByteArray := prog_7_method_6_code
def y_Sol_goRound : MethodName := ⟨R_Sol, "goRound", "()I"⟩
def ws_Sol_goRound : List Cond := Cond.code y_Sol_goRound b_Sol_goRound 2 (some .int) :: GW
theorem hd_Sol_goRound : y_Sol_goRound.cls ≠ "java/lang/invoke/MethodHandle" ∧ y_Sol_goRound.cls ≠ "java/lang/invoke/VarHandle" ∧ (parseMethodDescriptor y_Sol_goRound.desc).map (fun d => d.parameters.length) = some 0 := by decide +kernel
theorem d_Sol_goRound_0 : decode b_Sol_goRound 0 = .ok (.iconst 0, 1) := by decide +kernel
theorem d_Sol_goRound_1 : decode b_Sol_goRound 1 = .ok (.istore_n 1, 1) := by decide +kernel
theorem d_Sol_goRound_2 : decode b_Sol_goRound 2 = .ok (.iload_n 1, 1) := by decide +kernel
theorem d_Sol_goRound_3 : decode b_Sol_goRound 3 = .ok (.aload_n 0, 1) := by decide +kernel
theorem d_Sol_goRound_4 : decode b_Sol_goRound 4 = .ok (.getfield 40, 3) := by decide +kernel
theorem d_Sol_goRound_7 : decode b_Sol_goRound 7 = .ok (.invokevirtual 71, 3) := by decide +kernel
theorem d_Sol_goRound_10 : decode b_Sol_goRound 10 = .ok (.if_icmp .ge 19, 3) := by decide +kernel
theorem d_Sol_goRound_13 : decode b_Sol_goRound 13 = .ok (.aload_n 0, 1) := by decide +kernel
theorem d_Sol_goRound_14 : decode b_Sol_goRound 14 = .ok (.iload_n 1, 1) := by decide +kernel
theorem d_Sol_goRound_15 : decode b_Sol_goRound 15 = .ok (.invokevirtual 76, 3) := by decide +kernel
theorem d_Sol_goRound_18 : decode b_Sol_goRound 18 = .ok (.ifCond .ne 5, 3) := by decide +kernel
theorem d_Sol_goRound_21 : decode b_Sol_goRound 21 = .ok (.iload_n 1, 1) := by decide +kernel
theorem d_Sol_goRound_22 : decode b_Sol_goRound 22 = .ok (.ireturn, 1) := by decide +kernel
theorem d_Sol_goRound_23 : decode b_Sol_goRound 23 = .ok (.iinc 1 1, 3) := by decide +kernel
theorem d_Sol_goRound_26 : decode b_Sol_goRound 26 = .ok (.goto (-24), 3) := by decide +kernel
theorem d_Sol_goRound_29 : decode b_Sol_goRound 29 = .ok (.iconst (-1), 1) := by decide +kernel
theorem d_Sol_goRound_30 : decode b_Sol_goRound 30 = .ok (.ireturn, 1) := by decide +kernel
abbrev b_Sol_firstWaiting : ByteArray := prog_7_method_12_code
def y_Sol_firstWaiting : MethodName := ⟨R_Sol, "firstWaiting", "()I"⟩
def ws_Sol_firstWaiting : List Cond := Cond.code y_Sol_firstWaiting b_Sol_firstWaiting 2 (some .int) :: GW
theorem hd_Sol_firstWaiting : y_Sol_firstWaiting.cls ≠ "java/lang/invoke/MethodHandle" ∧ y_Sol_firstWaiting.cls ≠ "java/lang/invoke/VarHandle" ∧ (parseMethodDescriptor y_Sol_firstWaiting.desc).map (fun d => d.parameters.length) = some 0 := by decide +kernel
theorem d_Sol_firstWaiting_0 : decode b_Sol_firstWaiting 0 = .ok (.iconst 0, 1) := by decide +kernel
theorem d_Sol_firstWaiting_1 : decode b_Sol_firstWaiting 1 = .ok (.istore_n 1, 1) := by decide +kernel
theorem d_Sol_firstWaiting_2 : decode b_Sol_firstWaiting 2 = .ok (.iload_n 1, 1) := by decide +kernel
theorem d_Sol_firstWaiting_3 : decode b_Sol_firstWaiting 3 = .ok (.aload_n 0, 1) := by decide +kernel
theorem d_Sol_firstWaiting_4 : decode b_Sol_firstWaiting 4 = .ok (.getfield 40, 3) := by decide +kernel
theorem d_Sol_firstWaiting_7 : decode b_Sol_firstWaiting 7 = .ok (.invokevirtual 71, 3) := by decide +kernel
theorem d_Sol_firstWaiting_10 : decode b_Sol_firstWaiting 10 = .ok (.if_icmp .ge 32, 3) := by decide +kernel
theorem d_Sol_firstWaiting_13 : decode b_Sol_firstWaiting 13 = .ok (.aload_n 0, 1) := by decide +kernel
theorem d_Sol_firstWaiting_14 : decode b_Sol_firstWaiting 14 = .ok (.getfield 40, 3) := by decide +kernel
theorem d_Sol_firstWaiting_17 : decode b_Sol_firstWaiting 17 = .ok (.iload_n 1, 1) := by decide +kernel
theorem d_Sol_firstWaiting_18 : decode b_Sol_firstWaiting 18 = .ok (.invokevirtual 83, 3) := by decide +kernel
theorem d_Sol_firstWaiting_21 : decode b_Sol_firstWaiting 21 = .ok (.iconst 3, 1) := by decide +kernel
theorem d_Sol_firstWaiting_22 : decode b_Sol_firstWaiting 22 = .ok (.if_icmp .ne 14, 3) := by decide +kernel
theorem d_Sol_firstWaiting_25 : decode b_Sol_firstWaiting 25 = .ok (.aload_n 0, 1) := by decide +kernel
theorem d_Sol_firstWaiting_26 : decode b_Sol_firstWaiting 26 = .ok (.iload_n 1, 1) := by decide +kernel
theorem d_Sol_firstWaiting_27 : decode b_Sol_firstWaiting 27 = .ok (.invokevirtual 107, 3) := by decide +kernel
theorem d_Sol_firstWaiting_30 : decode b_Sol_firstWaiting 30 = .ok (.iconst (-1), 1) := by decide +kernel
theorem d_Sol_firstWaiting_31 : decode b_Sol_firstWaiting 31 = .ok (.if_icmp .ne 5, 3) := by decide +kernel
theorem d_Sol_firstWaiting_34 : decode b_Sol_firstWaiting 34 = .ok (.iload_n 1, 1) := by decide +kernel
theorem d_Sol_firstWaiting_35 : decode b_Sol_firstWaiting 35 = .ok (.ireturn, 1) := by decide +kernel
theorem d_Sol_firstWaiting_36 : decode b_Sol_firstWaiting 36 = .ok (.iinc 1 1, 3) := by decide +kernel
theorem d_Sol_firstWaiting_39 : decode b_Sol_firstWaiting 39 = .ok (.goto (-37), 3) := by decide +kernel
theorem d_Sol_firstWaiting_42 : decode b_Sol_firstWaiting 42 = .ok (.iconst (-1), 1) := by decide +kernel
theorem d_Sol_firstWaiting_43 : decode b_Sol_firstWaiting 43 = .ok (.ireturn, 1) := by decide +kernel
abbrev b_Sol_leastWithoutKind : ByteArray := prog_7_method_13_code
def y_Sol_leastWithoutKind : MethodName := ⟨R_Sol, "leastWithoutKind", "()I"⟩
def ws_Sol_leastWithoutKind : List Cond := Cond.code y_Sol_leastWithoutKind b_Sol_leastWithoutKind 5 (some .int) :: GW
theorem hd_Sol_leastWithoutKind : y_Sol_leastWithoutKind.cls ≠ "java/lang/invoke/MethodHandle" ∧ y_Sol_leastWithoutKind.cls ≠ "java/lang/invoke/VarHandle" ∧ (parseMethodDescriptor y_Sol_leastWithoutKind.desc).map (fun d => d.parameters.length) = some 0 := by decide +kernel
theorem d_Sol_leastWithoutKind_0 : decode b_Sol_leastWithoutKind 0 = .ok (.bipush 80, 2) := by decide +kernel
theorem d_Sol_leastWithoutKind_2 : decode b_Sol_leastWithoutKind 2 = .ok (.istore_n 1, 1) := by decide +kernel
theorem d_Sol_leastWithoutKind_3 : decode b_Sol_leastWithoutKind 3 = .ok (.iconst 0, 1) := by decide +kernel
theorem d_Sol_leastWithoutKind_4 : decode b_Sol_leastWithoutKind 4 = .ok (.istore_n 2, 1) := by decide +kernel
theorem d_Sol_leastWithoutKind_5 : decode b_Sol_leastWithoutKind 5 = .ok (.iload_n 2, 1) := by decide +kernel
theorem d_Sol_leastWithoutKind_6 : decode b_Sol_leastWithoutKind 6 = .ok (.aload_n 0, 1) := by decide +kernel
theorem d_Sol_leastWithoutKind_7 : decode b_Sol_leastWithoutKind 7 = .ok (.getfield 40, 3) := by decide +kernel
theorem d_Sol_leastWithoutKind_10 : decode b_Sol_leastWithoutKind 10 = .ok (.invokevirtual 71, 3) := by decide +kernel
theorem d_Sol_leastWithoutKind_13 : decode b_Sol_leastWithoutKind 13 = .ok (.if_icmp .ge 66, 3) := by decide +kernel
theorem d_Sol_leastWithoutKind_16 : decode b_Sol_leastWithoutKind 16 = .ok (.iconst 0, 1) := by decide +kernel
theorem d_Sol_leastWithoutKind_17 : decode b_Sol_leastWithoutKind 17 = .ok (.istore_n 3, 1) := by decide +kernel
theorem d_Sol_leastWithoutKind_18 : decode b_Sol_leastWithoutKind 18 = .ok (.iload_n 3, 1) := by decide +kernel
theorem d_Sol_leastWithoutKind_19 : decode b_Sol_leastWithoutKind 19 = .ok (.aload_n 0, 1) := by decide +kernel
theorem d_Sol_leastWithoutKind_20 : decode b_Sol_leastWithoutKind 20 = .ok (.getfield 40, 3) := by decide +kernel
theorem d_Sol_leastWithoutKind_23 : decode b_Sol_leastWithoutKind 23 = .ok (.getfield 80, 3) := by decide +kernel
theorem d_Sol_leastWithoutKind_26 : decode b_Sol_leastWithoutKind 26 = .ok (.iload_n 2, 1) := by decide +kernel
theorem d_Sol_leastWithoutKind_27 : decode b_Sol_leastWithoutKind 27 = .ok (.invokevirtual 113, 3) := by decide +kernel
theorem d_Sol_leastWithoutKind_30 : decode b_Sol_leastWithoutKind 30 = .ok (.if_icmp .ge 43, 3) := by decide +kernel
theorem d_Sol_leastWithoutKind_33 : decode b_Sol_leastWithoutKind 33 = .ok (.aload_n 0, 1) := by decide +kernel
theorem d_Sol_leastWithoutKind_34 : decode b_Sol_leastWithoutKind 34 = .ok (.getfield 40, 3) := by decide +kernel
theorem d_Sol_leastWithoutKind_37 : decode b_Sol_leastWithoutKind 37 = .ok (.getfield 80, 3) := by decide +kernel
theorem d_Sol_leastWithoutKind_40 : decode b_Sol_leastWithoutKind 40 = .ok (.iload_n 2, 1) := by decide +kernel
theorem d_Sol_leastWithoutKind_41 : decode b_Sol_leastWithoutKind 41 = .ok (.iload_n 3, 1) := by decide +kernel
theorem d_Sol_leastWithoutKind_42 : decode b_Sol_leastWithoutKind 42 = .ok (.invokevirtual 87, 3) := by decide +kernel
theorem d_Sol_leastWithoutKind_45 : decode b_Sol_leastWithoutKind 45 = .ok (.istore 4, 2) := by decide +kernel
theorem d_Sol_leastWithoutKind_47 : decode b_Sol_leastWithoutKind 47 = .ok (.aload_n 0, 1) := by decide +kernel
theorem d_Sol_leastWithoutKind_48 : decode b_Sol_leastWithoutKind 48 = .ok (.getfield 12, 3) := by decide +kernel
theorem d_Sol_leastWithoutKind_51 : decode b_Sol_leastWithoutKind 51 = .ok (.iload 4, 2) := by decide +kernel
theorem d_Sol_leastWithoutKind_53 : decode b_Sol_leastWithoutKind 53 = .ok (.invokevirtual 139, 3) := by decide +kernel
theorem d_Sol_leastWithoutKind_56 : decode b_Sol_leastWithoutKind 56 = .ok (.iconst (-1), 1) := by decide +kernel
theorem d_Sol_leastWithoutKind_57 : decode b_Sol_leastWithoutKind 57 = .ok (.if_icmp .ne 10, 3) := by decide +kernel
theorem d_Sol_leastWithoutKind_60 : decode b_Sol_leastWithoutKind 60 = .ok (.iload_n 1, 1) := by decide +kernel
theorem d_Sol_leastWithoutKind_61 : decode b_Sol_leastWithoutKind 61 = .ok (.iload 4, 2) := by decide +kernel
theorem d_Sol_leastWithoutKind_63 : decode b_Sol_leastWithoutKind 63 = .ok (.invokestatic 140, 3) := by decide +kernel
theorem d_Sol_leastWithoutKind_66 : decode b_Sol_leastWithoutKind 66 = .ok (.istore_n 1, 1) := by decide +kernel
theorem d_Sol_leastWithoutKind_67 : decode b_Sol_leastWithoutKind 67 = .ok (.iinc 3 1, 3) := by decide +kernel
theorem d_Sol_leastWithoutKind_70 : decode b_Sol_leastWithoutKind 70 = .ok (.goto (-52), 3) := by decide +kernel
theorem d_Sol_leastWithoutKind_73 : decode b_Sol_leastWithoutKind 73 = .ok (.iinc 2 1, 3) := by decide +kernel
theorem d_Sol_leastWithoutKind_76 : decode b_Sol_leastWithoutKind 76 = .ok (.goto (-71), 3) := by decide +kernel
theorem d_Sol_leastWithoutKind_79 : decode b_Sol_leastWithoutKind 79 = .ok (.iload_n 1, 1) := by decide +kernel
theorem d_Sol_leastWithoutKind_80 : decode b_Sol_leastWithoutKind 80 = .ok (.bipush 80, 2) := by decide +kernel
theorem d_Sol_leastWithoutKind_82 : decode b_Sol_leastWithoutKind 82 = .ok (.if_icmp .ge 7, 3) := by decide +kernel
theorem d_Sol_leastWithoutKind_85 : decode b_Sol_leastWithoutKind 85 = .ok (.iload_n 1, 1) := by decide +kernel
theorem d_Sol_leastWithoutKind_86 : decode b_Sol_leastWithoutKind 86 = .ok (.goto 4, 3) := by decide +kernel
theorem d_Sol_leastWithoutKind_89 : decode b_Sol_leastWithoutKind 89 = .ok (.iconst (-1), 1) := by decide +kernel
theorem d_Sol_leastWithoutKind_90 : decode b_Sol_leastWithoutKind 90 = .ok (.ireturn, 1) := by decide +kernel
abbrev b_Sol_run : ByteArray := prog_7_method_3_code
def y_Sol_run : MethodName := ⟨R_Sol, "run", "()I"⟩
def ws_Sol_run : List Cond := Cond.code y_Sol_run b_Sol_run 2 (some .int) :: GW
theorem hd_Sol_run : y_Sol_run.cls ≠ "java/lang/invoke/MethodHandle" ∧ y_Sol_run.cls ≠ "java/lang/invoke/VarHandle" ∧ (parseMethodDescriptor y_Sol_run.desc).map (fun d => d.parameters.length) = some 0 := by decide +kernel
theorem d_Sol_run_0 : decode b_Sol_run 0 = .ok (.aload_n 0, 1) := by decide +kernel
theorem d_Sol_run_1 : decode b_Sol_run 1 = .ok (.invokevirtual 44, 3) := by decide +kernel
theorem d_Sol_run_4 : decode b_Sol_run 4 = .ok (.iconst (-1), 1) := by decide +kernel
theorem d_Sol_run_5 : decode b_Sol_run 5 = .ok (.istore_n 1, 1) := by decide +kernel
theorem d_Sol_run_6 : decode b_Sol_run 6 = .ok (.aload_n 0, 1) := by decide +kernel
theorem d_Sol_run_7 : decode b_Sol_run 7 = .ok (.getfield 26, 3) := by decide +kernel
theorem d_Sol_run_10 : decode b_Sol_run 10 = .ok (.sipush 361, 3) := by decide +kernel
theorem d_Sol_run_13 : decode b_Sol_run 13 = .ok (.if_icmp .ge 45, 3) := by decide +kernel
theorem d_Sol_run_16 : decode b_Sol_run 16 = .ok (.aload_n 0, 1) := by decide +kernel
theorem d_Sol_run_17 : decode b_Sol_run 17 = .ok (.getfield 29, 3) := by decide +kernel
theorem d_Sol_run_20 : decode b_Sol_run 20 = .ok (.iconst (-1), 1) := by decide +kernel
theorem d_Sol_run_21 : decode b_Sol_run 21 = .ok (.if_icmp .ne 37, 3) := by decide +kernel
theorem d_Sol_run_24 : decode b_Sol_run 24 = .ok (.iload_n 1, 1) := by decide +kernel
theorem d_Sol_run_25 : decode b_Sol_run 25 = .ok (.aload_n 0, 1) := by decide +kernel
theorem d_Sol_run_26 : decode b_Sol_run 26 = .ok (.invokevirtual 47, 3) := by decide +kernel
theorem d_Sol_run_29 : decode b_Sol_run 29 = .ok (.if_icmp .eq 29, 3) := by decide +kernel
theorem d_Sol_run_32 : decode b_Sol_run 32 = .ok (.aload_n 0, 1) := by decide +kernel
theorem d_Sol_run_33 : decode b_Sol_run 33 = .ok (.invokevirtual 47, 3) := by decide +kernel
theorem d_Sol_run_36 : decode b_Sol_run 36 = .ok (.istore_n 1, 1) := by decide +kernel
theorem d_Sol_run_37 : decode b_Sol_run 37 = .ok (.aload_n 0, 1) := by decide +kernel
theorem d_Sol_run_38 : decode b_Sol_run 38 = .ok (.dup, 1) := by decide +kernel
theorem d_Sol_run_39 : decode b_Sol_run 39 = .ok (.getfield 26, 3) := by decide +kernel
theorem d_Sol_run_42 : decode b_Sol_run 42 = .ok (.iconst 1, 1) := by decide +kernel
theorem d_Sol_run_43 : decode b_Sol_run 43 = .ok (.iadd, 1) := by decide +kernel
theorem d_Sol_run_44 : decode b_Sol_run 44 = .ok (.putfield 26, 3) := by decide +kernel
theorem d_Sol_run_47 : decode b_Sol_run 47 = .ok (.aload_n 0, 1) := by decide +kernel
theorem d_Sol_run_48 : decode b_Sol_run 48 = .ok (.aload_n 0, 1) := by decide +kernel
theorem d_Sol_run_49 : decode b_Sol_run 49 = .ok (.invokevirtual 51, 3) := by decide +kernel
theorem d_Sol_run_52 : decode b_Sol_run 52 = .ok (.putfield 29, 3) := by decide +kernel
theorem d_Sol_run_55 : decode b_Sol_run 55 = .ok (.goto (-49), 3) := by decide +kernel
theorem d_Sol_run_58 : decode b_Sol_run 58 = .ok (.aload_n 0, 1) := by decide +kernel
theorem d_Sol_run_59 : decode b_Sol_run 59 = .ok (.getfield 29, 3) := by decide +kernel
theorem d_Sol_run_62 : decode b_Sol_run 62 = .ok (.iconst (-1), 1) := by decide +kernel
theorem d_Sol_run_63 : decode b_Sol_run 63 = .ok (.if_icmp .eq 5, 3) := by decide +kernel
theorem d_Sol_run_66 : decode b_Sol_run 66 = .ok (.iconst 1, 1) := by decide +kernel
theorem d_Sol_run_67 : decode b_Sol_run 67 = .ok (.ireturn, 1) := by decide +kernel
theorem d_Sol_run_68 : decode b_Sol_run 68 = .ok (.aload_n 0, 1) := by decide +kernel
theorem d_Sol_run_69 : decode b_Sol_run 69 = .ok (.aload_n 0, 1) := by decide +kernel
theorem d_Sol_run_70 : decode b_Sol_run 70 = .ok (.invokevirtual 54, 3) := by decide +kernel
theorem d_Sol_run_73 : decode b_Sol_run 73 = .ok (.putfield 29, 3) := by decide +kernel
theorem d_Sol_run_76 : decode b_Sol_run 76 = .ok (.aload_n 0, 1) := by decide +kernel
theorem d_Sol_run_77 : decode b_Sol_run 77 = .ok (.getfield 29, 3) := by decide +kernel
theorem d_Sol_run_80 : decode b_Sol_run 80 = .ok (.iconst (-1), 1) := by decide +kernel
theorem d_Sol_run_81 : decode b_Sol_run 81 = .ok (.if_icmp .eq 5, 3) := by decide +kernel
theorem d_Sol_run_84 : decode b_Sol_run 84 = .ok (.iconst 2, 1) := by decide +kernel
theorem d_Sol_run_85 : decode b_Sol_run 85 = .ok (.ireturn, 1) := by decide +kernel
theorem d_Sol_run_86 : decode b_Sol_run 86 = .ok (.aload_n 0, 1) := by decide +kernel
theorem d_Sol_run_87 : decode b_Sol_run 87 = .ok (.aload_n 0, 1) := by decide +kernel
theorem d_Sol_run_88 : decode b_Sol_run 88 = .ok (.invokevirtual 57, 3) := by decide +kernel
theorem d_Sol_run_91 : decode b_Sol_run 91 = .ok (.putfield 29, 3) := by decide +kernel
theorem d_Sol_run_94 : decode b_Sol_run 94 = .ok (.aload_n 0, 1) := by decide +kernel
theorem d_Sol_run_95 : decode b_Sol_run 95 = .ok (.getfield 29, 3) := by decide +kernel
theorem d_Sol_run_98 : decode b_Sol_run 98 = .ok (.iconst (-1), 1) := by decide +kernel
theorem d_Sol_run_99 : decode b_Sol_run 99 = .ok (.if_icmp .eq 7, 3) := by decide +kernel
theorem d_Sol_run_102 : decode b_Sol_run 102 = .ok (.iconst 3, 1) := by decide +kernel
theorem d_Sol_run_103 : decode b_Sol_run 103 = .ok (.goto 4, 3) := by decide +kernel
theorem d_Sol_run_106 : decode b_Sol_run 106 = .ok (.iconst 0, 1) := by decide +kernel
theorem d_Sol_run_107 : decode b_Sol_run 107 = .ok (.ireturn, 1) := by decide +kernel
end
section
abbrev rm_Sol_init : Room := { frames := 2, cells := 4, slots := 363, locals := 32 }
set_option maxHeartbeats 4000000 in
set_option maxRecDepth 100000 in
theorem n_Sol_init (l : Launch) (D : va_G) (cI : ClassId) (a_this a_p1 a_p2 a_p3 : Nat) : CtN l y_Sol_init ws_Sol_init rm_Sol_init D cI [(a_this, .inr (5, [.null, .null, .null, .null, .null, .int 0, .int 0, .int 0]))] (fun (u : Nat × Nat × Nat × Nat) => [(a_this, .inr (5, [.ref a_p1, .ref a_p2, .ref a_p3, .ref u.1, .ref u.2.2.2, .int 0, .int (-1), .int (-1)])), (u.1, .inr (4, [.ref u.2.1, .ref u.2.2.1, .int 0])), (u.2.1, .inl (cI, 80, .inl (fun _ => 0))), (u.2.2.1, .inl (cI, 80, .inl (fun _ => 0))), (u.2.2.2, .inl (cI, 200, .inl (fun _ => 0)))]) [.ref a_this, .ref a_p1, .ref a_p2, .ref a_p3] 4 363 := by
  refine CtN.ofW (cc := b_Sol_init) (maxL := 4) (by decide) rfl (Nat.le_of_ble_eq_true rfl) ?_
  intro p e s m args below meth c Q A hx hb hml hown hts hin hP hK hN hA hD hret ls hl
  have hS : va_S A s.heap s.heap [] := va_S.rf
  have hl : lv_has ls 4 [(0, .ref a_this), (1, .ref a_p1), (2, .ref a_p2), (3, .ref a_p3)] := hl
  refine lv_aload_n hx hb d_Sol_init_0 rfl (lv_at hl 0 rfl) ?_
  refine W.objInit hx hb hown (hts _ q_82) (hts _ q_1) (hts _ q_2) rfl (by rw [hml]; exact hl.1) rfl d_Sol_init_1 (Nat.le_of_ble_eq_true rfl) (Nat.le_of_ble_eq_true rfl) ?_
  refine W.eq (g2 := F0 m 4 ls []) rfl ?_
  refine lv_aload_n hx hb d_Sol_init_4 rfl (lv_at hl 0 rfl) ?_
  refine va_new (ci := 4) (fs := [.null, .null, .int 0]) (C := R_Gro) (T := T_Gro) (N := 3) hx hb hts in_Gro ty_Gro tyok_Gro hown (hts _ q_83) (hts _ q_84) (hts _ q_85) hK hP hD hS hA rfl (fun j hj => by rcases (show j = 0 ∨ j = 1 ∨ j = 2 by omega) with rfl | rfl | rfl <;> rfl) (Nat.le_of_ble_eq_true rfl) (Nat.le_of_ble_eq_true rfl) d_Sol_init_5 (fun q1 H hP hD hS => ?_)
  have hP : va_P D vwCl [(a_this, .inr (5, [.null, .null, .null, .null, .null, .int 0, .int 0, .int 0])), (q1, .inr (4, [.null, .null, .int 0]))] H := hP
  have hD : va_D A [(a_this, .inr (5, [.null, .null, .null, .null, .null, .int 0, .int 0, .int 0])), (q1, .inr (4, [.null, .null, .int 0]))] := hD
  refine lv_dup hx hb d_Sol_init_8 rfl ?_
  refine kN (wr := [(a_this, .inr (5, [.null, .null, .null, .null, .null, .int 0, .int 0, .int 0]))]) [1] [0] (va_runIN (As := []) (rest := [.ref q1, .ref a_this]) ⟨hx, hb, hml, hown, hts⟩ (n_Gro_init l D cI q1 _) ⟨va_cnB (host := "KindDesk") 0 hts (good_c q_86) rfl rfl rfl (hN _ (List.mem_of_getElem? (i := 16) rfl)) (hts _ q_85) hd_Gro_init ⟨Nat.le_of_ble_eq_true rfl, Nat.le_of_ble_eq_true rfl⟩, rfl, (hts _ q_87)⟩ (preIM hP hK hN hD [1] (by decide) rfl) rfl rfl hl.1 rfl (lv_room (Nat.le_of_ble_eq_true rfl)) d_Sol_init_9 ⟨Nat.le_of_ble_eq_true rfl, Nat.le_of_ble_eq_true rfl⟩) hP hD hS hA rfl rfl (by decide) (by decide) (fun u2 H locs hP hD hS => ?_)
  obtain ⟨q3, q4⟩ := u2
  have hP : va_P D vwCl [(a_this, .inr (5, [.null, .null, .null, .null, .null, .int 0, .int 0, .int 0])), (q1, .inr (4, [.ref q3, .ref q4, .int 0])), (q3, .inl (cI, 80, .inl (fun _ => 0))), (q4, .inl (cI, 80, .inl (fun _ => 0)))] H := hP
  have hD : va_D A [(a_this, .inr (5, [.null, .null, .null, .null, .null, .int 0, .int 0, .int 0])), (q1, .inr (4, [.ref q3, .ref q4, .int 0])), (q3, .inl (cI, 80, .inl (fun _ => 0))), (q4, .inl (cI, 80, .inl (fun _ => 0)))] := hD
  refine va_putF (D := D) (ci := 5) (v := .ref q1) (ty := .object "KindDesk$Groups") (C := R_Sol) (T := T_Sol) (N := 8) hx hb hts in_Sol ty_Sol tyok_Sol nm_Sol hown hK hP hD hS 0 rfl rfl 3 (by decide) (hts _ q_88) (fun _ h9 => h9) rfl hin rfl (by decide +kernel) rfl rfl (Nat.le_of_ble_eq_true rfl) d_Sol_init_12 (fun H locs hP hD hS => ?_)
  have hP : va_P D vwCl [(a_this, .inr (5, [.null, .null, .null, .ref q1, .null, .int 0, .int 0, .int 0])), (q1, .inr (4, [.ref q3, .ref q4, .int 0])), (q3, .inl (cI, 80, .inl (fun _ => 0))), (q4, .inl (cI, 80, .inl (fun _ => 0)))] H := hP
  have hD : va_D A [(a_this, .inr (5, [.null, .null, .null, .ref q1, .null, .int 0, .int 0, .int 0])), (q1, .inr (4, [.ref q3, .ref q4, .int 0])), (q3, .inl (cI, 80, .inl (fun _ => 0))), (q4, .inl (cI, 80, .inl (fun _ => 0)))] := hD
  refine lv_aload_n hx hb d_Sol_init_15 rfl (lv_at hl 0 rfl) ?_
  refine lv_sipush (v := 200) hx hb d_Sol_init_16 (by decide) ?_
  refine va_newa (atype := .int) (ty := .int) (N' := 200) (a0 := (200, .inl (fun _ => 0))) hx hb (hts _ q_3) rfl hK hP hD hS hA (fun _ => rfl) (by decide) (by decide) (by decide) (Nat.le_of_ble_eq_true rfl) (Nat.le_of_ble_eq_true rfl) d_Sol_init_19 (fun q5 cA H hK2 hP hD hS => ?_)
  obtain rfl : cI = cA := (arr_eq hK2).symm
  have hP : va_P D vwCl [(a_this, .inr (5, [.null, .null, .null, .ref q1, .null, .int 0, .int 0, .int 0])), (q1, .inr (4, [.ref q3, .ref q4, .int 0])), (q3, .inl (cI, 80, .inl (fun _ => 0))), (q4, .inl (cI, 80, .inl (fun _ => 0))), (q5, .inl (cI, 200, .inl (fun _ => 0)))] H := hP
  have hD : va_D A [(a_this, .inr (5, [.null, .null, .null, .ref q1, .null, .int 0, .int 0, .int 0])), (q1, .inr (4, [.ref q3, .ref q4, .int 0])), (q3, .inl (cI, 80, .inl (fun _ => 0))), (q4, .inl (cI, 80, .inl (fun _ => 0))), (q5, .inl (cI, 200, .inl (fun _ => 0)))] := hD
  refine va_putF (D := D) (ci := 5) (v := .ref q5) (ty := (.array .int)) (C := R_Sol) (T := T_Sol) (N := 8) hx hb hts in_Sol ty_Sol tyok_Sol nm_Sol hown hK hP hD hS 0 rfl rfl 4 (by decide) (hts _ q_89) (fun _ h9 => h9) rfl hin rfl (by decide +kernel) rfl rfl (Nat.le_of_ble_eq_true rfl) d_Sol_init_21 (fun H locs hP hD hS => ?_)
  have hP : va_P D vwCl [(a_this, .inr (5, [.null, .null, .null, .ref q1, .ref q5, .int 0, .int 0, .int 0])), (q1, .inr (4, [.ref q3, .ref q4, .int 0])), (q3, .inl (cI, 80, .inl (fun _ => 0))), (q4, .inl (cI, 80, .inl (fun _ => 0))), (q5, .inl (cI, 200, .inl (fun _ => 0)))] H := hP
  have hD : va_D A [(a_this, .inr (5, [.null, .null, .null, .ref q1, .ref q5, .int 0, .int 0, .int 0])), (q1, .inr (4, [.ref q3, .ref q4, .int 0])), (q3, .inl (cI, 80, .inl (fun _ => 0))), (q4, .inl (cI, 80, .inl (fun _ => 0))), (q5, .inl (cI, 200, .inl (fun _ => 0)))] := hD
  refine lv_aload_n hx hb d_Sol_init_24 rfl (lv_at hl 0 rfl) ?_
  refine lv_iconst (v := 0) hx hb d_Sol_init_25 (by decide) ?_
  refine va_put (D := D) (ci := 5) (v := .int 0) (ty := .int) (C := R_Sol) (T := T_Sol) (N := 8) hx hb hts in_Sol ty_Sol tyok_Sol nm_Sol hown hK hP hD hS 0 rfl rfl 5 (by decide) (hts _ q_90) (fun _ h9 => h9) rfl (by decide +kernel) rfl rfl (Nat.le_of_ble_eq_true rfl) d_Sol_init_26 (fun H locs hP hD hS => ?_)
  have hP : va_P D vwCl [(a_this, .inr (5, [.null, .null, .null, .ref q1, .ref q5, .int 0, .int 0, .int 0])), (q1, .inr (4, [.ref q3, .ref q4, .int 0])), (q3, .inl (cI, 80, .inl (fun _ => 0))), (q4, .inl (cI, 80, .inl (fun _ => 0))), (q5, .inl (cI, 200, .inl (fun _ => 0)))] H := hP
  have hD : va_D A [(a_this, .inr (5, [.null, .null, .null, .ref q1, .ref q5, .int 0, .int 0, .int 0])), (q1, .inr (4, [.ref q3, .ref q4, .int 0])), (q3, .inl (cI, 80, .inl (fun _ => 0))), (q4, .inl (cI, 80, .inl (fun _ => 0))), (q5, .inl (cI, 200, .inl (fun _ => 0)))] := hD
  refine lv_aload_n hx hb d_Sol_init_29 rfl (lv_at hl 0 rfl) ?_
  refine lv_iconst (v := (-1)) hx hb d_Sol_init_30 (by decide) ?_
  refine va_put (D := D) (ci := 5) (v := .int (-1)) (ty := .int) (C := R_Sol) (T := T_Sol) (N := 8) hx hb hts in_Sol ty_Sol tyok_Sol nm_Sol hown hK hP hD hS 0 rfl rfl 6 (by decide) (hts _ q_91) (fun _ h9 => h9) rfl (by decide +kernel) rfl rfl (Nat.le_of_ble_eq_true rfl) d_Sol_init_31 (fun H locs hP hD hS => ?_)
  have hP : va_P D vwCl [(a_this, .inr (5, [.null, .null, .null, .ref q1, .ref q5, .int 0, .int (-1), .int 0])), (q1, .inr (4, [.ref q3, .ref q4, .int 0])), (q3, .inl (cI, 80, .inl (fun _ => 0))), (q4, .inl (cI, 80, .inl (fun _ => 0))), (q5, .inl (cI, 200, .inl (fun _ => 0)))] H := hP
  have hD : va_D A [(a_this, .inr (5, [.null, .null, .null, .ref q1, .ref q5, .int 0, .int (-1), .int 0])), (q1, .inr (4, [.ref q3, .ref q4, .int 0])), (q3, .inl (cI, 80, .inl (fun _ => 0))), (q4, .inl (cI, 80, .inl (fun _ => 0))), (q5, .inl (cI, 200, .inl (fun _ => 0)))] := hD
  refine lv_aload_n hx hb d_Sol_init_34 rfl (lv_at hl 0 rfl) ?_
  refine lv_iconst (v := (-1)) hx hb d_Sol_init_35 (by decide) ?_
  refine va_put (D := D) (ci := 5) (v := .int (-1)) (ty := .int) (C := R_Sol) (T := T_Sol) (N := 8) hx hb hts in_Sol ty_Sol tyok_Sol nm_Sol hown hK hP hD hS 0 rfl rfl 7 (by decide) (hts _ q_92) (fun _ h9 => h9) rfl (by decide +kernel) rfl rfl (Nat.le_of_ble_eq_true rfl) d_Sol_init_36 (fun H locs hP hD hS => ?_)
  have hP : va_P D vwCl [(a_this, .inr (5, [.null, .null, .null, .ref q1, .ref q5, .int 0, .int (-1), .int (-1)])), (q1, .inr (4, [.ref q3, .ref q4, .int 0])), (q3, .inl (cI, 80, .inl (fun _ => 0))), (q4, .inl (cI, 80, .inl (fun _ => 0))), (q5, .inl (cI, 200, .inl (fun _ => 0)))] H := hP
  have hD : va_D A [(a_this, .inr (5, [.null, .null, .null, .ref q1, .ref q5, .int 0, .int (-1), .int (-1)])), (q1, .inr (4, [.ref q3, .ref q4, .int 0])), (q3, .inl (cI, 80, .inl (fun _ => 0))), (q4, .inl (cI, 80, .inl (fun _ => 0))), (q5, .inl (cI, 200, .inl (fun _ => 0)))] := hD
  refine lv_aload_n hx hb d_Sol_init_39 rfl (lv_at hl 0 rfl) ?_
  refine lv_aload_n hx hb d_Sol_init_40 rfl (lv_at hl 1 rfl) ?_
  refine va_putF (D := D) (ci := 5) (v := .ref a_p1) (ty := .object "KindDesk$Kinds") (C := R_Sol) (T := T_Sol) (N := 8) hx hb hts in_Sol ty_Sol tyok_Sol nm_Sol hown hK hP hD hS 0 rfl rfl 0 (by decide) (hts _ q_93) (fun _ h9 => h9) rfl hin rfl (by decide +kernel) rfl rfl (Nat.le_of_ble_eq_true rfl) d_Sol_init_41 (fun H locs hP hD hS => ?_)
  have hP : va_P D vwCl [(a_this, .inr (5, [.ref a_p1, .null, .null, .ref q1, .ref q5, .int 0, .int (-1), .int (-1)])), (q1, .inr (4, [.ref q3, .ref q4, .int 0])), (q3, .inl (cI, 80, .inl (fun _ => 0))), (q4, .inl (cI, 80, .inl (fun _ => 0))), (q5, .inl (cI, 200, .inl (fun _ => 0)))] H := hP
  have hD : va_D A [(a_this, .inr (5, [.ref a_p1, .null, .null, .ref q1, .ref q5, .int 0, .int (-1), .int (-1)])), (q1, .inr (4, [.ref q3, .ref q4, .int 0])), (q3, .inl (cI, 80, .inl (fun _ => 0))), (q4, .inl (cI, 80, .inl (fun _ => 0))), (q5, .inl (cI, 200, .inl (fun _ => 0)))] := hD
  refine lv_aload_n hx hb d_Sol_init_44 rfl (lv_at hl 0 rfl) ?_
  refine lv_aload_n hx hb d_Sol_init_45 rfl (lv_at hl 2 rfl) ?_
  refine va_putF (D := D) (ci := 5) (v := .ref a_p2) (ty := .object "KindDesk$Table") (C := R_Sol) (T := T_Sol) (N := 8) hx hb hts in_Sol ty_Sol tyok_Sol nm_Sol hown hK hP hD hS 0 rfl rfl 1 (by decide) (hts _ q_94) (fun _ h9 => h9) rfl hin rfl (by decide +kernel) rfl rfl (Nat.le_of_ble_eq_true rfl) d_Sol_init_46 (fun H locs hP hD hS => ?_)
  have hP : va_P D vwCl [(a_this, .inr (5, [.ref a_p1, .ref a_p2, .null, .ref q1, .ref q5, .int 0, .int (-1), .int (-1)])), (q1, .inr (4, [.ref q3, .ref q4, .int 0])), (q3, .inl (cI, 80, .inl (fun _ => 0))), (q4, .inl (cI, 80, .inl (fun _ => 0))), (q5, .inl (cI, 200, .inl (fun _ => 0)))] H := hP
  have hD : va_D A [(a_this, .inr (5, [.ref a_p1, .ref a_p2, .null, .ref q1, .ref q5, .int 0, .int (-1), .int (-1)])), (q1, .inr (4, [.ref q3, .ref q4, .int 0])), (q3, .inl (cI, 80, .inl (fun _ => 0))), (q4, .inl (cI, 80, .inl (fun _ => 0))), (q5, .inl (cI, 200, .inl (fun _ => 0)))] := hD
  refine lv_aload_n hx hb d_Sol_init_49 rfl (lv_at hl 0 rfl) ?_
  refine lv_aload_n hx hb d_Sol_init_50 rfl (lv_at hl 3 rfl) ?_
  refine va_putF (D := D) (ci := 5) (v := .ref a_p3) (ty := .object "KindDesk$Demands") (C := R_Sol) (T := T_Sol) (N := 8) hx hb hts in_Sol ty_Sol tyok_Sol nm_Sol hown hK hP hD hS 0 rfl rfl 2 (by decide) (hts _ q_95) (fun _ h9 => h9) rfl hin rfl (by decide +kernel) rfl rfl (Nat.le_of_ble_eq_true rfl) d_Sol_init_51 (fun H locs hP hD hS => ?_)
  have hP : va_P D vwCl [(a_this, .inr (5, [.ref a_p1, .ref a_p2, .ref a_p3, .ref q1, .ref q5, .int 0, .int (-1), .int (-1)])), (q1, .inr (4, [.ref q3, .ref q4, .int 0])), (q3, .inl (cI, 80, .inl (fun _ => 0))), (q4, .inl (cI, 80, .inl (fun _ => 0))), (q5, .inl (cI, 200, .inl (fun _ => 0)))] H := hP
  have hD : va_D A [(a_this, .inr (5, [.ref a_p1, .ref a_p2, .ref a_p3, .ref q1, .ref q5, .int 0, .int (-1), .int (-1)])), (q1, .inr (4, [.ref q3, .ref q4, .int 0])), (q3, .inl (cI, 80, .inl (fun _ => 0))), (q4, .inl (cI, 80, .inl (fun _ => 0))), (q5, .inl (cI, 200, .inl (fun _ => 0)))] := hD
  refine W.widen (k := 4) (n := 363) (by decide) (by decide) ?_
  exact hret (q1, q3, q4, q5) _ _ _ _ hS (hP.sub [0, 1, 2, 3, 4] rfl) (hD.sub [0, 1, 2, 3, 4] (by decide) rfl) d_Sol_init_54
def f_Sol_forget : Option (Int32 × Int32) :=
  some ((-1), (-1))
abbrev rm_Sol_forget : Room := { frames := 0, cells := 0, slots := 0, locals := 0 }
set_option maxHeartbeats 4000000 in
set_option maxRecDepth 100000 in
theorem c_Sol_forget (l : Launch) (D : va_G) (cI : ClassId) (a_this a_this_kinds a_this_predicates a_this_demands a_this_groups a_this_meanings : Nat) (v_this_settled : Int32) (v_this_rounds : Int32) (v_this_culprit : Int32) {v_this_rounds' : Int32} {v_this_culprit' : Int32} (hf : f_Sol_forget = some (v_this_rounds', v_this_culprit')) : CtV l y_Sol_forget ws_Sol_forget rm_Sol_forget D cI [(a_this, .inr (5, [.ref a_this_kinds, .ref a_this_predicates, .ref a_this_demands, .ref a_this_groups, .ref a_this_meanings, .int v_this_settled, .int v_this_rounds, .int v_this_culprit]))] [(a_this, .inr (5, [.ref a_this_kinds, .ref a_this_predicates, .ref a_this_demands, .ref a_this_groups, .ref a_this_meanings, .int v_this_settled, .int v_this_rounds', .int v_this_culprit']))] [.ref a_this] := by
  refine CtV.ofW (cc := b_Sol_forget) (maxL := 1) (by decide) rfl (Nat.le_of_ble_eq_true rfl) ?_
  intro p e s m args below meth c Q A hx hb hml hown hts hP hK hN hA hD hret ls hl
  have hS : va_S A s.heap s.heap [] := va_S.rf
  have hDL : DL A [a_this] := DL.of hD rfl
  have hl : lv_has ls 1 [(0, .ref a_this)] := hl
  unfold f_Sol_forget at hf
  refine lv_aload_n hx hb d_Sol_forget_0 rfl (lv_at hl 0 rfl) ?_
  refine lv_iconst (v := (-1)) hx hb d_Sol_forget_1 (by decide) ?_
  refine va_put (D := D) (ci := 5) (v := .int (-1)) (ty := .int) (C := R_Sol) (T := T_Sol) (N := 8) hx hb hts in_Sol ty_Sol tyok_Sol nm_Sol hown hK hP (hDL _ rfl) hS 0 rfl rfl 6 (by decide) (hts _ q_91) (fun _ h9 => h9) rfl (by decide +kernel) rfl rfl (Nat.le_of_ble_eq_true rfl) d_Sol_forget_2 (fun H locs hP _ hS => ?_)
  have hP : va_P D vwCl [(a_this, .inr (5, [.ref a_this_kinds, .ref a_this_predicates, .ref a_this_demands, .ref a_this_groups, .ref a_this_meanings, .int v_this_settled, .int (-1), .int v_this_culprit]))] H := hP
  refine lv_aload_n hx hb d_Sol_forget_5 rfl (lv_at hl 0 rfl) ?_
  refine lv_iconst (v := (-1)) hx hb d_Sol_forget_6 (by decide) ?_
  refine va_put (D := D) (ci := 5) (v := .int (-1)) (ty := .int) (C := R_Sol) (T := T_Sol) (N := 8) hx hb hts in_Sol ty_Sol tyok_Sol nm_Sol hown hK hP (hDL _ rfl) hS 0 rfl rfl 7 (by decide) (hts _ q_92) (fun _ h9 => h9) rfl (by decide +kernel) rfl rfl (Nat.le_of_ble_eq_true rfl) d_Sol_forget_7 (fun H locs hP _ hS => ?_)
  have hP : va_P D vwCl [(a_this, .inr (5, [.ref a_this_kinds, .ref a_this_predicates, .ref a_this_demands, .ref a_this_groups, .ref a_this_meanings, .int v_this_settled, .int (-1), .int (-1)]))] H := hP
  cases hf
  exact hret _ _ _ _ hS hP d_Sol_forget_10
def f_Sol_begin (v_this_groups_groups : Nat → Int32) (v_this_groups_groupKinds : Nat → Int32) (v_this_meanings : Nat → Int32) : Option (Int32 × Int32 × Int32 × Int32 × (Nat → Int32) × (Nat → Int32) × (Nat → Int32)) :=
  (f_Gro_scatter v_this_groups_groups v_this_groups_groupKinds).bind fun (u_2, u_3, u_4) =>
  (f_Arr_fill 200 v_this_meanings (-1)).bind fun u_7 =>
  some (0, 0, (-1), u_2, u_3, u_4, u_7)
abbrev rm_Sol_begin : Room := { frames := 2, cells := 0, slots := 0, locals := 44 }
set_option maxHeartbeats 4000000 in
set_option maxRecDepth 100000 in
theorem c_Sol_begin (l : Launch) (D : va_G) (cI : ClassId) (a_this a_this_kinds a_this_predicates a_this_demands a_this_groups a_this_meanings a_this_groups_groups a_this_groups_groupKinds : Nat) (v_this_settled : Int32) (v_this_rounds : Int32) (v_this_culprit : Int32) (v_this_groups_changes : Int32) (v_this_groups_groups : Nat → Int32) (v_this_groups_groupKinds : Nat → Int32) (v_this_meanings : Nat → Int32) {v_this_settled' : Int32} {v_this_rounds' : Int32} {v_this_culprit' : Int32} {v_this_groups_changes' : Int32} {v_this_groups_groups' : Nat → Int32} {v_this_groups_groupKinds' : Nat → Int32} {v_this_meanings' : Nat → Int32} (hf : f_Sol_begin v_this_groups_groups v_this_groups_groupKinds v_this_meanings = some (v_this_settled', v_this_rounds', v_this_culprit', v_this_groups_changes', v_this_groups_groups', v_this_groups_groupKinds', v_this_meanings')) : CtV l y_Sol_begin ws_Sol_begin rm_Sol_begin D cI [(a_this, .inr (5, [.ref a_this_kinds, .ref a_this_predicates, .ref a_this_demands, .ref a_this_groups, .ref a_this_meanings, .int v_this_settled, .int v_this_rounds, .int v_this_culprit])), (a_this_groups, .inr (4, [.ref a_this_groups_groups, .ref a_this_groups_groupKinds, .int v_this_groups_changes])), (a_this_groups_groups, .inl (cI, 80, .inl v_this_groups_groups)), (a_this_groups_groupKinds, .inl (cI, 80, .inl v_this_groups_groupKinds)), (a_this_meanings, .inl (cI, 200, .inl v_this_meanings))] [(a_this, .inr (5, [.ref a_this_kinds, .ref a_this_predicates, .ref a_this_demands, .ref a_this_groups, .ref a_this_meanings, .int v_this_settled', .int v_this_rounds', .int v_this_culprit'])), (a_this_groups, .inr (4, [.ref a_this_groups_groups, .ref a_this_groups_groupKinds, .int v_this_groups_changes'])), (a_this_groups_groups, .inl (cI, 80, .inl v_this_groups_groups')), (a_this_groups_groupKinds, .inl (cI, 80, .inl v_this_groups_groupKinds')), (a_this_meanings, .inl (cI, 200, .inl v_this_meanings'))] [.ref a_this] := by
  refine CtV.ofW (cc := b_Sol_begin) (maxL := 1) (by decide) rfl (Nat.le_of_ble_eq_true rfl) ?_
  intro p e s m args below meth c Q A hx hb hml hown hts hP hK hN hA hD hret ls hl
  have hS : va_S A s.heap s.heap [] := va_S.rf
  have hDL : DL A [a_this, a_this_groups, a_this_groups_groups, a_this_groups_groupKinds, a_this_meanings] := DL.of hD rfl
  have hl : lv_has ls 1 [(0, .ref a_this)] := hl
  unfold f_Sol_begin at hf
  refine lv_aload_n hx hb d_Sol_begin_0 rfl (lv_at hl 0 rfl) ?_
  refine va_get (D := D) (ci := 5) (v := .ref a_this_groups) (C := R_Sol) (T := T_Sol) (N := 8) hx hb hts in_Sol hown hK hP 0 rfl rfl 3 (by decide) (hts _ q_88) (fun _ h9 => h9) rfl d_Sol_begin_1 ?_
  obtain ⟨⟨u_2, u_3, u_4⟩, hc1, hf⟩ := gb hf
  dsimp only at hf
  refine kV [(a_this, .inr (5, [.ref a_this_kinds, .ref a_this_predicates, .ref a_this_demands, .ref a_this_groups, .ref a_this_meanings, .int v_this_settled, .int v_this_rounds, .int v_this_culprit])), (a_this_groups, .inr (4, [.ref a_this_groups_groups, .ref a_this_groups_groupKinds, .int u_2])), (a_this_groups_groups, .inl (cI, 80, .inl u_3)), (a_this_groups_groupKinds, .inl (cI, 80, .inl u_4)), (a_this_meanings, .inl (cI, 200, .inl v_this_meanings))] [1, 2, 3] [0, 4] (va_runVN (C := R_Gro) (As := []) (rest := []) ⟨hx, hb, hml, hown, hts⟩ (c_Gro_scatter l D cI a_this_groups a_this_groups_groups a_this_groups_groupKinds v_this_groups_changes v_this_groups_groups v_this_groups_groupKinds hc1 _) ⟨va_cnB (host := "KindDesk") 0 hts (good_c q_96) rfl rfl rfl (hN _ (List.mem_of_getElem? (i := 17) rfl)) (hts _ q_85) hd_Gro_scatter ⟨Nat.le_of_ble_eq_true rfl, Nat.le_of_ble_eq_true rfl⟩, (hts _ q_97), (hts _ q_98)⟩ (preVM hP hK hN (hDL _ rfl) [1, 2, 3] (by decide +kernel) rfl rfl rfl) rfl rfl hl.1 rfl (lv_room (Nat.le_of_ble_eq_true rfl)) d_Sol_begin_4 ⟨Nat.zero_le _, Nat.zero_le _⟩) hP (hDL _ rfl) hS hA rfl rfl (wr := [(a_this, .inr (5, [.ref a_this_kinds, .ref a_this_predicates, .ref a_this_demands, .ref a_this_groups, .ref a_this_meanings, .int v_this_settled, .int v_this_rounds, .int v_this_culprit])), (a_this_meanings, .inl (cI, 200, .inl v_this_meanings))]) rfl rfl (n := 5) rfl (by decide +kernel) (by decide +kernel) (fun H locs hP hS => ?_)
  refine lv_aload_n hx hb d_Sol_begin_7 rfl (lv_at hl 0 rfl) ?_
  refine va_get (D := D) (ci := 5) (v := .ref a_this_meanings) (C := R_Sol) (T := T_Sol) (N := 8) hx hb hts in_Sol hown hK hP 0 rfl rfl 4 (by decide) (hts _ q_89) (fun _ h9 => h9) rfl d_Sol_begin_8 ?_
  refine lv_iconst (v := (-1)) hx hb d_Sol_begin_11 (by decide) ?_
  obtain ⟨u_7, hc6, hf⟩ := gb hf
  refine kV [(a_this, .inr (5, [.ref a_this_kinds, .ref a_this_predicates, .ref a_this_demands, .ref a_this_groups, .ref a_this_meanings, .int v_this_settled, .int v_this_rounds, .int v_this_culprit])), (a_this_groups, .inr (4, [.ref a_this_groups_groups, .ref a_this_groups_groupKinds, .int u_2])), (a_this_groups_groups, .inl (cI, 80, .inl u_3)), (a_this_groups_groupKinds, .inl (cI, 80, .inl u_4)), (a_this_meanings, .inl (cI, 200, .inl u_7))] [4] [0, 1, 2, 3] (va_runS (As := [.ref a_this_meanings, .int (-1)]) (rest := []) ⟨hx, hb, hml, hown, hts⟩ (c_Arr_fill l D cI a_this_meanings 200 v_this_meanings (-1) hc6 _) ⟨callB_of 2 hts (good_c q_76) rfl rfl rfl (hts _ q_77) (hts _ q_99) hd_Arr_fill ⟨Nat.le_of_ble_eq_true rfl, Nat.le_of_ble_eq_true rfl⟩, (hts _ q_79)⟩ (preSM hP hK hN (hDL _ rfl) [4] (by decide +kernel) rfl) rfl rfl hl.1 rfl (lv_room (Nat.le_of_ble_eq_true rfl)) d_Sol_begin_12 ⟨Nat.zero_le _, Nat.zero_le _⟩) hP (hDL _ rfl) hS hA rfl rfl (wr := [(a_this, .inr (5, [.ref a_this_kinds, .ref a_this_predicates, .ref a_this_demands, .ref a_this_groups, .ref a_this_meanings, .int v_this_settled, .int v_this_rounds, .int v_this_culprit])), (a_this_groups, .inr (4, [.ref a_this_groups_groups, .ref a_this_groups_groupKinds, .int u_2])), (a_this_groups_groups, .inl (cI, 80, .inl u_3)), (a_this_groups_groupKinds, .inl (cI, 80, .inl u_4))]) rfl rfl (n := 5) rfl (by decide +kernel) (by decide +kernel) (fun H locs hP hS => ?_)
  refine lv_aload_n hx hb d_Sol_begin_15 rfl (lv_at hl 0 rfl) ?_
  refine lv_iconst (v := 0) hx hb d_Sol_begin_16 (by decide) ?_
  refine va_put (D := D) (ci := 5) (v := .int 0) (ty := .int) (C := R_Sol) (T := T_Sol) (N := 8) hx hb hts in_Sol ty_Sol tyok_Sol nm_Sol hown hK hP (hDL _ rfl) hS 0 rfl rfl 5 (by decide) (hts _ q_90) (fun _ h9 => h9) rfl (by decide +kernel) rfl rfl (Nat.le_of_ble_eq_true rfl) d_Sol_begin_17 (fun H locs hP _ hS => ?_)
  have hP : va_P D vwCl [(a_this, .inr (5, [.ref a_this_kinds, .ref a_this_predicates, .ref a_this_demands, .ref a_this_groups, .ref a_this_meanings, .int 0, .int v_this_rounds, .int v_this_culprit])), (a_this_groups, .inr (4, [.ref a_this_groups_groups, .ref a_this_groups_groupKinds, .int u_2])), (a_this_groups_groups, .inl (cI, 80, .inl u_3)), (a_this_groups_groupKinds, .inl (cI, 80, .inl u_4)), (a_this_meanings, .inl (cI, 200, .inl u_7))] H := hP
  refine lv_aload_n hx hb d_Sol_begin_20 rfl (lv_at hl 0 rfl) ?_
  refine lv_iconst (v := 0) hx hb d_Sol_begin_21 (by decide) ?_
  refine va_put (D := D) (ci := 5) (v := .int 0) (ty := .int) (C := R_Sol) (T := T_Sol) (N := 8) hx hb hts in_Sol ty_Sol tyok_Sol nm_Sol hown hK hP (hDL _ rfl) hS 0 rfl rfl 6 (by decide) (hts _ q_91) (fun _ h9 => h9) rfl (by decide +kernel) rfl rfl (Nat.le_of_ble_eq_true rfl) d_Sol_begin_22 (fun H locs hP _ hS => ?_)
  have hP : va_P D vwCl [(a_this, .inr (5, [.ref a_this_kinds, .ref a_this_predicates, .ref a_this_demands, .ref a_this_groups, .ref a_this_meanings, .int 0, .int 0, .int v_this_culprit])), (a_this_groups, .inr (4, [.ref a_this_groups_groups, .ref a_this_groups_groupKinds, .int u_2])), (a_this_groups_groups, .inl (cI, 80, .inl u_3)), (a_this_groups_groupKinds, .inl (cI, 80, .inl u_4)), (a_this_meanings, .inl (cI, 200, .inl u_7))] H := hP
  refine lv_aload_n hx hb d_Sol_begin_25 rfl (lv_at hl 0 rfl) ?_
  refine lv_iconst (v := (-1)) hx hb d_Sol_begin_26 (by decide) ?_
  refine va_put (D := D) (ci := 5) (v := .int (-1)) (ty := .int) (C := R_Sol) (T := T_Sol) (N := 8) hx hb hts in_Sol ty_Sol tyok_Sol nm_Sol hown hK hP (hDL _ rfl) hS 0 rfl rfl 7 (by decide) (hts _ q_92) (fun _ h9 => h9) rfl (by decide +kernel) rfl rfl (Nat.le_of_ble_eq_true rfl) d_Sol_begin_27 (fun H locs hP _ hS => ?_)
  have hP : va_P D vwCl [(a_this, .inr (5, [.ref a_this_kinds, .ref a_this_predicates, .ref a_this_demands, .ref a_this_groups, .ref a_this_meanings, .int 0, .int 0, .int (-1)])), (a_this_groups, .inr (4, [.ref a_this_groups_groups, .ref a_this_groups_groupKinds, .int u_2])), (a_this_groups_groups, .inl (cI, 80, .inl u_3)), (a_this_groups_groupKinds, .inl (cI, 80, .inl u_4)), (a_this_meanings, .inl (cI, 200, .inl u_7))] H := hP
  cases hf
  exact hret _ _ _ _ hS hP d_Sol_begin_30
def f_Sol_changes (v_this_settled : Int32) (v_this_groups_changes : Int32) : Option (Int32) :=
  some (v_this_groups_changes + v_this_settled)
abbrev rm_Sol_changes : Room := { frames := 0, cells := 0, slots := 0, locals := 0 }
set_option maxHeartbeats 4000000 in
set_option maxRecDepth 100000 in
theorem c_Sol_changes (l : Launch) (D : va_G) (cI : ClassId) (a_this a_this_kinds a_this_predicates a_this_demands a_this_groups a_this_meanings a_this_groups_groups a_this_groups_groupKinds : Nat) (v_this_settled : Int32) (v_this_rounds : Int32) (v_this_culprit : Int32) (v_this_groups_changes : Int32) {r_ : Int32} (hf : f_Sol_changes v_this_settled v_this_groups_changes = some r_) : CtP l y_Sol_changes ws_Sol_changes rm_Sol_changes D cI [(a_this, .inr (5, [.ref a_this_kinds, .ref a_this_predicates, .ref a_this_demands, .ref a_this_groups, .ref a_this_meanings, .int v_this_settled, .int v_this_rounds, .int v_this_culprit])), (a_this_groups, .inr (4, [.ref a_this_groups_groups, .ref a_this_groups_groupKinds, .int v_this_groups_changes]))] [.ref a_this] .int r_ := by
  refine CtP.ofW (cc := b_Sol_changes) (maxL := 1) (ty := .int) (by decide) rfl (Nat.le_of_ble_eq_true rfl) ?_
  intro p e s m args below meth c Q hx hb hml hown hts hP hK hN hret ls hl
  have hl : lv_has ls 1 [(0, .ref a_this)] := hl
  unfold f_Sol_changes at hf
  refine lv_aload_n hx hb d_Sol_changes_0 rfl (lv_at hl 0 rfl) ?_
  refine va_get (D := D) (ci := 5) (v := .ref a_this_groups) (C := R_Sol) (T := T_Sol) (N := 8) hx hb hts in_Sol hown hK hP 0 rfl rfl 3 (by decide) (hts _ q_88) (fun _ h9 => h9) rfl d_Sol_changes_1 ?_
  refine va_getN (host := "KindDesk") (D := D) (ci := 4) (v := .int v_this_groups_changes) (C := R_Gro) (T := T_Gro) (N := 3) hx hb hts in_Gro hown hK hP 1 rfl rfl 2 (by decide) (va_Nw.use rfl (hN _ (List.mem_of_getElem? (i := 18) rfl))) (fun _ h9 => h9) rfl d_Sol_changes_4 ?_
  refine lv_aload_n hx hb d_Sol_changes_7 rfl (lv_at hl 0 rfl) ?_
  refine va_get (D := D) (ci := 5) (v := .int v_this_settled) (C := R_Sol) (T := T_Sol) (N := 8) hx hb hts in_Sol hown hK hP 0 rfl rfl 5 (by decide) (hts _ q_90) (fun _ h9 => h9) rfl d_Sol_changes_8 ?_
  refine lv_iadd hx hb d_Sol_changes_11 ?_
  cases hf
  exact hret _ _ rfl d_Sol_changes_12
def f_Sol_giveAll_L3 (v_this_demands_variables_size : Int32) (v_this_demands_variables_lengths : Nat → Int32) (v_this_demands_variables_cells : Nat → Int32) (v_this_groups_groups : Nat → Int32) (v_p3_size : Int32) (n_p3_lengths : Nat) (v_p3_lengths : Nat → Int32) (n_p3_cells : Nat) (v_p3_cells : Nat → Int32) (x1 : Int32) (x2 : Int32) (x4 : Int32) (k : Int32 → Int32 → (Nat → Int32) → Option (Int32 × Int32 × (Nat → Int32))) : Nat → Int32 → Int32 → (Nat → Int32) → Option (Int32 × Int32 × (Nat → Int32))
  | 0, _, _, _ => none
  | n + 1, y5_3, w_this_groups_changes_3, w_this_groups_groupKinds_3 =>
    (f_Tab_length n_p3_lengths v_p3_size v_p3_lengths x4).bind fun r2 =>
    if r2 ≤ y5_3 then
      k y5_3 w_this_groups_changes_3 w_this_groups_groupKinds_3
    else
      (f_Tab_at 200 1200 v_this_demands_variables_size v_this_demands_variables_lengths v_this_demands_variables_cells x1 (x2 + y5_3)).bind fun r6 =>
      (f_Tab_at n_p3_lengths n_p3_cells v_p3_size v_p3_lengths v_p3_cells x4 y5_3).bind fun r9 =>
      (f_Gro_give w_this_groups_changes_3 v_this_groups_groups w_this_groups_groupKinds_3 r6 r9).bind fun (r12, u_13, u_14) =>
      if r12 = 0 then
        some (0, u_13, u_14)
      else
        f_Sol_giveAll_L3 v_this_demands_variables_size v_this_demands_variables_lengths v_this_demands_variables_cells v_this_groups_groups v_p3_size n_p3_lengths v_p3_lengths n_p3_cells v_p3_cells x1 x2 x4 k n (y5_3 + 1) u_13 u_14
def f_Sol_giveAll (n_p3_lengths : Nat) (n_p3_cells : Nat) (v_this_demands_variables_size : Int32) (v_this_demands_variables_lengths : Nat → Int32) (v_this_demands_variables_cells : Nat → Int32) (v_this_groups_changes : Int32) (v_this_groups_groups : Nat → Int32) (v_this_groups_groupKinds : Nat → Int32) (v_p3_size : Int32) (v_p3_lengths : Nat → Int32) (v_p3_cells : Nat → Int32) (x1 : Int32) (x2 : Int32) (x4 : Int32) : Option (Int32 × Int32 × (Nat → Int32)) :=
  f_Sol_giveAll_L3 v_this_demands_variables_size v_this_demands_variables_lengths v_this_demands_variables_cells v_this_groups_groups v_p3_size n_p3_lengths v_p3_lengths n_p3_cells v_p3_cells x1 x2 x4 (fun y5_3 w_this_groups_changes_3 w_this_groups_groupKinds_3 =>
    some (1, w_this_groups_changes_3, w_this_groups_groupKinds_3)) FU 0 v_this_groups_changes v_this_groups_groupKinds
abbrev rm_Sol_giveAll : Room := { frames := 2, cells := 0, slots := 0, locals := 43 }
set_option maxHeartbeats 4000000 in
set_option maxRecDepth 100000 in
theorem c_Sol_giveAll (l : Launch) (D : va_G) (cI : ClassId) (a_this a_this_kinds a_this_predicates a_this_demands a_this_groups a_this_meanings a_this_demands_sorts a_this_demands_subjects a_this_demands_variables a_this_demands_variables_lengths a_this_demands_variables_cells a_this_groups_groups a_this_groups_groupKinds a_p3 a_p3_lengths a_p3_cells n_p3_lengths n_p3_cells : Nat) (v_this_settled : Int32) (v_this_rounds : Int32) (v_this_culprit : Int32) (v_this_demands_variables_size : Int32) (v_this_demands_variables_lengths : Nat → Int32) (v_this_demands_variables_cells : Nat → Int32) (v_this_groups_changes : Int32) (v_this_groups_groups : Nat → Int32) (v_this_groups_groupKinds : Nat → Int32) (v_p3_size : Int32) (v_p3_lengths : Nat → Int32) (v_p3_cells : Nat → Int32) (x1 x2 x4 : Int32) {r_ : Int32} {v_this_groups_changes' : Int32} {v_this_groups_groupKinds' : Nat → Int32} (hf : f_Sol_giveAll n_p3_lengths n_p3_cells v_this_demands_variables_size v_this_demands_variables_lengths v_this_demands_variables_cells v_this_groups_changes v_this_groups_groups v_this_groups_groupKinds v_p3_size v_p3_lengths v_p3_cells x1 x2 x4 = some (r_, v_this_groups_changes', v_this_groups_groupKinds')) : CtI l y_Sol_giveAll ws_Sol_giveAll rm_Sol_giveAll D cI [(a_this, .inr (5, [.ref a_this_kinds, .ref a_this_predicates, .ref a_this_demands, .ref a_this_groups, .ref a_this_meanings, .int v_this_settled, .int v_this_rounds, .int v_this_culprit])), (a_this_demands, .inr (3, [.ref a_this_demands_sorts, .ref a_this_demands_subjects, .ref a_this_demands_variables])), (a_this_demands_variables, .inr (1, [.ref a_this_demands_variables_lengths, .ref a_this_demands_variables_cells, .int v_this_demands_variables_size])), (a_this_demands_variables_lengths, .inl (cI, 200, .inl v_this_demands_variables_lengths)), (a_this_demands_variables_cells, .inl (cI, 1200, .inl v_this_demands_variables_cells)), (a_this_groups, .inr (4, [.ref a_this_groups_groups, .ref a_this_groups_groupKinds, .int v_this_groups_changes])), (a_this_groups_groups, .inl (cI, 80, .inl v_this_groups_groups)), (a_this_groups_groupKinds, .inl (cI, 80, .inl v_this_groups_groupKinds)), (a_p3, .inr (1, [.ref a_p3_lengths, .ref a_p3_cells, .int v_p3_size])), (a_p3_lengths, .inl (cI, n_p3_lengths, .inl v_p3_lengths)), (a_p3_cells, .inl (cI, n_p3_cells, .inl v_p3_cells))] [(a_this, .inr (5, [.ref a_this_kinds, .ref a_this_predicates, .ref a_this_demands, .ref a_this_groups, .ref a_this_meanings, .int v_this_settled, .int v_this_rounds, .int v_this_culprit])), (a_this_demands, .inr (3, [.ref a_this_demands_sorts, .ref a_this_demands_subjects, .ref a_this_demands_variables])), (a_this_demands_variables, .inr (1, [.ref a_this_demands_variables_lengths, .ref a_this_demands_variables_cells, .int v_this_demands_variables_size])), (a_this_demands_variables_lengths, .inl (cI, 200, .inl v_this_demands_variables_lengths)), (a_this_demands_variables_cells, .inl (cI, 1200, .inl v_this_demands_variables_cells)), (a_this_groups, .inr (4, [.ref a_this_groups_groups, .ref a_this_groups_groupKinds, .int v_this_groups_changes'])), (a_this_groups_groups, .inl (cI, 80, .inl v_this_groups_groups)), (a_this_groups_groupKinds, .inl (cI, 80, .inl v_this_groups_groupKinds')), (a_p3, .inr (1, [.ref a_p3_lengths, .ref a_p3_cells, .int v_p3_size])), (a_p3_lengths, .inl (cI, n_p3_lengths, .inl v_p3_lengths)), (a_p3_cells, .inl (cI, n_p3_cells, .inl v_p3_cells))] [.ref a_this, .int x1, .int x2, .ref a_p3, .int x4] .boolean r_ := by
  refine CtI.ofW (cc := b_Sol_giveAll) (maxL := 6) (ty := .boolean) (by decide) rfl (Nat.le_of_ble_eq_true rfl) ?_
  intro p e s m args below meth c Q A hx hb hml hown hts hP hK hN hA hD hret ls hl
  have hS : va_S A s.heap s.heap [] := va_S.rf
  have hDL : DL A [a_this, a_this_demands, a_this_demands_variables, a_this_demands_variables_lengths, a_this_demands_variables_cells, a_this_groups, a_this_groups_groups, a_this_groups_groupKinds, a_p3, a_p3_lengths, a_p3_cells] := DL.of hD rfl
  have hl : lv_has ls 6 [(0, .ref a_this), (1, .int x1), (2, .int x2), (3, .ref a_p3), (4, .int x4)] := hl
  unfold f_Sol_giveAll at hf
  refine lv_iconst (v := 0) hx hb d_Sol_giveAll_0 (by decide) ?_
  refine lv_istore (lv' := [(5, .int 0), (0, .ref a_this), (1, .int x1), (2, .int x2), (3, .ref a_p3), (4, .int x4)]) hx hb d_Sol_giveAll_1 hl (by decide) rfl (fun ls hl => ?_)
  have lp3 : ∀ (kk : Int32 → Int32 → (Nat → Int32) → Option (Int32 × Int32 × (Nat → Int32))), (∀ (y5_3 : Int32) (w_this_groups_changes_3 : Int32) (w_this_groups_groupKinds_3 : Nat → Int32) (H : Heap) (locs : List Loc) (ls : Array Slot), va_P D vwCl [(a_this, .inr (5, [.ref a_this_kinds, .ref a_this_predicates, .ref a_this_demands, .ref a_this_groups, .ref a_this_meanings, .int v_this_settled, .int v_this_rounds, .int v_this_culprit])), (a_this_demands, .inr (3, [.ref a_this_demands_sorts, .ref a_this_demands_subjects, .ref a_this_demands_variables])), (a_this_demands_variables, .inr (1, [.ref a_this_demands_variables_lengths, .ref a_this_demands_variables_cells, .int v_this_demands_variables_size])), (a_this_demands_variables_lengths, .inl (cI, 200, .inl v_this_demands_variables_lengths)), (a_this_demands_variables_cells, .inl (cI, 1200, .inl v_this_demands_variables_cells)), (a_this_groups, .inr (4, [.ref a_this_groups_groups, .ref a_this_groups_groupKinds, .int w_this_groups_changes_3])), (a_this_groups_groups, .inl (cI, 80, .inl v_this_groups_groups)), (a_this_groups_groupKinds, .inl (cI, 80, .inl w_this_groups_groupKinds_3)), (a_p3, .inr (1, [.ref a_p3_lengths, .ref a_p3_cells, .int v_p3_size])), (a_p3_lengths, .inl (cI, n_p3_lengths, .inl v_p3_lengths)), (a_p3_cells, .inl (cI, n_p3_cells, .inl v_p3_cells))] H → va_S A s.heap H locs → lv_has ls 6 [(5, .int y5_3), (0, .ref a_this), (1, .int x1), (2, .int x2), (3, .ref a_p3), (4, .int x4)] → kk y5_3 w_this_groups_changes_3 w_this_groups_groupKinds_3 = some (r_, v_this_groups_changes', v_this_groups_groupKinds') → W p l e rm_Sol_giveAll s m args below meth c H locs 0 0 Q (F0 m 55 ls [])) → ∀ (n : Nat) (y5_3 : Int32) (w_this_groups_changes_3 : Int32) (w_this_groups_groupKinds_3 : Nat → Int32) (H : Heap) (locs : List Loc) (ls : Array Slot), va_P D vwCl [(a_this, .inr (5, [.ref a_this_kinds, .ref a_this_predicates, .ref a_this_demands, .ref a_this_groups, .ref a_this_meanings, .int v_this_settled, .int v_this_rounds, .int v_this_culprit])), (a_this_demands, .inr (3, [.ref a_this_demands_sorts, .ref a_this_demands_subjects, .ref a_this_demands_variables])), (a_this_demands_variables, .inr (1, [.ref a_this_demands_variables_lengths, .ref a_this_demands_variables_cells, .int v_this_demands_variables_size])), (a_this_demands_variables_lengths, .inl (cI, 200, .inl v_this_demands_variables_lengths)), (a_this_demands_variables_cells, .inl (cI, 1200, .inl v_this_demands_variables_cells)), (a_this_groups, .inr (4, [.ref a_this_groups_groups, .ref a_this_groups_groupKinds, .int w_this_groups_changes_3])), (a_this_groups_groups, .inl (cI, 80, .inl v_this_groups_groups)), (a_this_groups_groupKinds, .inl (cI, 80, .inl w_this_groups_groupKinds_3)), (a_p3, .inr (1, [.ref a_p3_lengths, .ref a_p3_cells, .int v_p3_size])), (a_p3_lengths, .inl (cI, n_p3_lengths, .inl v_p3_lengths)), (a_p3_cells, .inl (cI, n_p3_cells, .inl v_p3_cells))] H → va_S A s.heap H locs → lv_has ls 6 [(5, .int y5_3), (0, .ref a_this), (1, .int x1), (2, .int x2), (3, .ref a_p3), (4, .int x4)] → f_Sol_giveAll_L3 v_this_demands_variables_size v_this_demands_variables_lengths v_this_demands_variables_cells v_this_groups_groups v_p3_size n_p3_lengths v_p3_lengths n_p3_cells v_p3_cells x1 x2 x4 kk n y5_3 w_this_groups_changes_3 w_this_groups_groupKinds_3 = some (r_, v_this_groups_changes', v_this_groups_groupKinds') → W p l e rm_Sol_giveAll s m args below meth c H locs 0 0 Q (F0 m 3 ls []) := by
    intro kk hk3 n
    induction n with
    | zero =>
      intro y5_3 w_this_groups_changes_3 w_this_groups_groupKinds_3 H locs ls hP hS hl hf
      rw [f_Sol_giveAll_L3] at hf
      cases hf
    | succ n ih3 =>
      intro y5_3 w_this_groups_changes_3 w_this_groups_groupKinds_3 H locs ls hP hS hl hf
      rw [f_Sol_giveAll_L3] at hf
      refine lv_iload hx hb d_Sol_giveAll_3 (lv_at hl 0 rfl) ?_
      refine lv_aload_n hx hb d_Sol_giveAll_5 rfl (lv_at hl 4 rfl) ?_
      refine lv_iload hx hb d_Sol_giveAll_6 (lv_at hl 5 rfl) ?_
      obtain ⟨r2, hc1, hf⟩ := gb hf
      refine kP (va_runVN (C := R_Tab) (As := [.int x4]) (rest := [.int y5_3]) ⟨hx, hb, hml, hown, hts⟩ (c_Tab_length l D cI a_p3 a_p3_lengths a_p3_cells n_p3_lengths v_p3_size v_p3_lengths x4 hc1) ⟨va_cnB (host := "KindDesk") 1 hts (good_c q_41) rfl rfl rfl (hN _ (List.mem_of_getElem? (i := 19) rfl)) (hts _ q_15) hd_Tab_length ⟨Nat.le_of_ble_eq_true rfl, Nat.le_of_ble_eq_true rfl⟩, (hts _ q_42), (hts _ q_43)⟩ (preVP hP hK hN [8, 9] rfl rfl rfl) rfl rfl hl.1 rfl (lv_room (Nat.le_of_ble_eq_true rfl)) d_Sol_giveAll_8 ⟨Nat.zero_le _, Nat.zero_le _⟩) (fun hz3 => ?_)
      refine lv_icmp_ge (tgt := 55) hx hb d_Sol_giveAll_11 (by decide) (fun c4 => ?_) (fun c4 => ?_)
      · replace hf := gp c4 hf
        exact hk3 y5_3 w_this_groups_changes_3 w_this_groups_groupKinds_3 _ _ _ hP hS (lv_sub hl [0, 1, 2, 3, 4, 5] rfl) hf
      · replace hf := gn c4 hf
        refine lv_aload_n hx hb d_Sol_giveAll_14 rfl (lv_at hl 1 rfl) ?_
        refine va_get (D := D) (ci := 5) (v := .ref a_this_groups) (C := R_Sol) (T := T_Sol) (N := 8) hx hb hts in_Sol hown hK hP 0 rfl rfl 3 (by decide) (hts _ q_88) (fun _ h9 => h9) rfl d_Sol_giveAll_15 ?_
        refine lv_aload_n hx hb d_Sol_giveAll_18 rfl (lv_at hl 1 rfl) ?_
        refine va_get (D := D) (ci := 5) (v := .ref a_this_demands) (C := R_Sol) (T := T_Sol) (N := 8) hx hb hts in_Sol hown hK hP 0 rfl rfl 2 (by decide) (hts _ q_95) (fun _ h9 => h9) rfl d_Sol_giveAll_19 ?_
        refine va_getN (host := "KindDesk") (D := D) (ci := 3) (v := .ref a_this_demands_variables) (C := R_Dem) (T := T_Dem) (N := 3) hx hb hts in_Dem hown hK hP 1 rfl rfl 2 (by decide) (va_Nw.use rfl (hN _ (List.mem_of_getElem? (i := 20) rfl))) (fun _ h9 => h9) rfl d_Sol_giveAll_22 ?_
        refine lv_iload_n hx hb d_Sol_giveAll_25 rfl (lv_at hl 2 rfl) ?_
        refine lv_iload_n hx hb d_Sol_giveAll_26 rfl (lv_at hl 3 rfl) ?_
        refine lv_iload hx hb d_Sol_giveAll_27 (lv_at hl 0 rfl) ?_
        refine lv_iadd hx hb d_Sol_giveAll_29 ?_
        obtain ⟨r6, hc5, hf⟩ := gb hf
        refine kP (va_runVN (C := R_Tab) (As := [.int x1, .int (x2 + y5_3)]) (rest := [.ref a_this_groups]) ⟨hx, hb, hml, hown, hts⟩ (c_Tab_at l D cI a_this_demands_variables a_this_demands_variables_lengths a_this_demands_variables_cells 200 1200 v_this_demands_variables_size v_this_demands_variables_lengths v_this_demands_variables_cells x1 (x2 + y5_3) hc5) ⟨va_cnB (host := "KindDesk") 2 hts (good_c q_100) rfl rfl rfl (hN _ (List.mem_of_getElem? (i := 21) rfl)) (hts _ q_15) hd_Tab_at ⟨Nat.le_of_ble_eq_true rfl, Nat.le_of_ble_eq_true rfl⟩, (hts _ q_101), (hts _ q_102)⟩ (preVP hP hK hN [2, 3, 4] rfl rfl rfl) rfl rfl hl.1 rfl (lv_room (Nat.le_of_ble_eq_true rfl)) d_Sol_giveAll_30 ⟨Nat.zero_le _, Nat.zero_le _⟩) (fun hz7 => ?_)
        refine lv_aload_n hx hb d_Sol_giveAll_33 rfl (lv_at hl 4 rfl) ?_
        refine lv_iload hx hb d_Sol_giveAll_34 (lv_at hl 5 rfl) ?_
        refine lv_iload hx hb d_Sol_giveAll_36 (lv_at hl 0 rfl) ?_
        obtain ⟨r9, hc8, hf⟩ := gb hf
        refine kP (va_runVN (C := R_Tab) (As := [.int x4, .int y5_3]) (rest := [.int r6, .ref a_this_groups]) ⟨hx, hb, hml, hown, hts⟩ (c_Tab_at l D cI a_p3 a_p3_lengths a_p3_cells n_p3_lengths n_p3_cells v_p3_size v_p3_lengths v_p3_cells x4 y5_3 hc8) ⟨va_cnB (host := "KindDesk") 2 hts (good_c q_100) rfl rfl rfl (hN _ (List.mem_of_getElem? (i := 21) rfl)) (hts _ q_15) hd_Tab_at ⟨Nat.le_of_ble_eq_true rfl, Nat.le_of_ble_eq_true rfl⟩, (hts _ q_101), (hts _ q_102)⟩ (preVP hP hK hN [8, 9, 10] rfl rfl rfl) rfl rfl hl.1 rfl (lv_room (Nat.le_of_ble_eq_true rfl)) d_Sol_giveAll_38 ⟨Nat.zero_le _, Nat.zero_le _⟩) (fun hz10 => ?_)
        obtain ⟨⟨r12, u_13, u_14⟩, hc11, hf⟩ := gb hf
        dsimp only at hf
        refine kI [(a_this, .inr (5, [.ref a_this_kinds, .ref a_this_predicates, .ref a_this_demands, .ref a_this_groups, .ref a_this_meanings, .int v_this_settled, .int v_this_rounds, .int v_this_culprit])), (a_this_demands, .inr (3, [.ref a_this_demands_sorts, .ref a_this_demands_subjects, .ref a_this_demands_variables])), (a_this_demands_variables, .inr (1, [.ref a_this_demands_variables_lengths, .ref a_this_demands_variables_cells, .int v_this_demands_variables_size])), (a_this_demands_variables_lengths, .inl (cI, 200, .inl v_this_demands_variables_lengths)), (a_this_demands_variables_cells, .inl (cI, 1200, .inl v_this_demands_variables_cells)), (a_this_groups, .inr (4, [.ref a_this_groups_groups, .ref a_this_groups_groupKinds, .int u_13])), (a_this_groups_groups, .inl (cI, 80, .inl v_this_groups_groups)), (a_this_groups_groupKinds, .inl (cI, 80, .inl u_14)), (a_p3, .inr (1, [.ref a_p3_lengths, .ref a_p3_cells, .int v_p3_size])), (a_p3_lengths, .inl (cI, n_p3_lengths, .inl v_p3_lengths)), (a_p3_cells, .inl (cI, n_p3_cells, .inl v_p3_cells))] [5, 6, 7] [0, 1, 2, 3, 4, 8, 9, 10] (va_runVN (C := R_Gro) (As := [.int r6, .int r9]) (rest := []) ⟨hx, hb, hml, hown, hts⟩ (c_Gro_give l D cI a_this_groups a_this_groups_groups a_this_groups_groupKinds w_this_groups_changes_3 v_this_groups_groups w_this_groups_groupKinds_3 r6 r9 hc11 _) ⟨va_cnB (host := "KindDesk") 2 hts (good_c q_103) rfl rfl rfl (hN _ (List.mem_of_getElem? (i := 22) rfl)) (hts _ q_85) hd_Gro_give ⟨Nat.le_of_ble_eq_true rfl, Nat.le_of_ble_eq_true rfl⟩, (hts _ q_104), (hts _ q_105)⟩ (preVM hP hK hN (hDL _ rfl) [5, 6, 7] (by decide +kernel) rfl rfl rfl) rfl rfl hl.1 rfl (lv_room (Nat.le_of_ble_eq_true rfl)) d_Sol_giveAll_41 ⟨Nat.zero_le _, Nat.zero_le _⟩) hP (hDL _ rfl) hS hA rfl rfl (wr := [(a_this, .inr (5, [.ref a_this_kinds, .ref a_this_predicates, .ref a_this_demands, .ref a_this_groups, .ref a_this_meanings, .int v_this_settled, .int v_this_rounds, .int v_this_culprit])), (a_this_demands, .inr (3, [.ref a_this_demands_sorts, .ref a_this_demands_subjects, .ref a_this_demands_variables])), (a_this_demands_variables, .inr (1, [.ref a_this_demands_variables_lengths, .ref a_this_demands_variables_cells, .int v_this_demands_variables_size])), (a_this_demands_variables_lengths, .inl (cI, 200, .inl v_this_demands_variables_lengths)), (a_this_demands_variables_cells, .inl (cI, 1200, .inl v_this_demands_variables_cells)), (a_p3, .inr (1, [.ref a_p3_lengths, .ref a_p3_cells, .int v_p3_size])), (a_p3_lengths, .inl (cI, n_p3_lengths, .inl v_p3_lengths)), (a_p3_cells, .inl (cI, n_p3_cells, .inl v_p3_cells))]) rfl rfl (n := 11) rfl (by decide +kernel) (by decide +kernel) (fun H locs hz15 hP hS => ?_)
        refine lv_if_ne (tgt := 49) hx hb d_Sol_giveAll_44 (by decide) (fun c16 => ?_) (fun c16 => ?_)
        · replace hf := gn c16 hf
          refine lv_iinc (v := (y5_3 + 1)) (lv' := [(5, .int (y5_3 + 1)), (0, .ref a_this), (1, .int x1), (2, .int x2), (3, .ref a_p3), (4, .int x4)]) hx hb d_Sol_giveAll_49 hl (k := 0) rfl rfl (by decide) rfl (fun ls hl => ?_)
          refine lv_goto (tgt := 3) hx hb d_Sol_giveAll_52 (by decide) ?_
          exact ih3 (y5_3 + 1) u_13 u_14 _ _ _ hP hS (lv_sub hl [0, 1, 2, 3, 4, 5] rfl) hf
        · replace hf := gp c16 hf
          refine lv_iconst (v := 0) hx hb d_Sol_giveAll_47 (by decide) ?_
          cases hf
          exact hret _ _ _ _ hS hP rfl d_Sol_giveAll_48
  refine lp3 _ (fun y5_3 w_this_groups_changes_3 w_this_groups_groupKinds_3 H locs ls hP hS hl hf => ?_) FU 0 v_this_groups_changes v_this_groups_groupKinds _ _ _ hP hS (lv_sub hl [0, 1, 2, 3, 4, 5] rfl) hf
  refine lv_iconst (v := 1) hx hb d_Sol_giveAll_55 (by decide) ?_
  cases hf
  exact hret _ _ _ _ hS hP rfl d_Sol_giveAll_56
def f_Sol_meaningOf (v_this_meanings : Nat → Int32) (x1 : Int32) : Option (Int32) :=
  (f_Desk_isDemand x1).bind fun r2 =>
  if r2 = 0 then
    some (-1)
  else
    if inb x1 200 then
      some (v_this_meanings x1.toNatClampNeg)
    else none
abbrev rm_Sol_meaningOf : Room := { frames := 1, cells := 0, slots := 0, locals := 20 }
set_option maxHeartbeats 4000000 in
set_option maxRecDepth 100000 in
theorem c_Sol_meaningOf (l : Launch) (D : va_G) (cI : ClassId) (a_this a_this_kinds a_this_predicates a_this_demands a_this_groups a_this_meanings : Nat) (v_this_settled : Int32) (v_this_rounds : Int32) (v_this_culprit : Int32) (v_this_meanings : Nat → Int32) (x1 : Int32) {r_ : Int32} (hf : f_Sol_meaningOf v_this_meanings x1 = some r_) : CtP l y_Sol_meaningOf ws_Sol_meaningOf rm_Sol_meaningOf D cI [(a_this, .inr (5, [.ref a_this_kinds, .ref a_this_predicates, .ref a_this_demands, .ref a_this_groups, .ref a_this_meanings, .int v_this_settled, .int v_this_rounds, .int v_this_culprit])), (a_this_meanings, .inl (cI, 200, .inl v_this_meanings))] [.ref a_this, .int x1] .int r_ := by
  refine CtP.ofW (cc := b_Sol_meaningOf) (maxL := 2) (ty := .int) (by decide) rfl (Nat.le_of_ble_eq_true rfl) ?_
  intro p e s m args below meth c Q hx hb hml hown hts hP hK hN hret ls hl
  have hl : lv_has ls 2 [(0, .ref a_this), (1, .int x1)] := hl
  unfold f_Sol_meaningOf at hf
  refine lv_iload_n hx hb d_Sol_meaningOf_0 rfl (lv_at hl 1 rfl) ?_
  obtain ⟨r2, hc1, hf⟩ := gb hf
  refine kP (va_runSN (As := [.int x1]) (rest := []) ⟨hx, hb, hml, hown, hts⟩ (c_Desk_isDemand l D cI x1 hc1) ⟨va_cnB (host := "KindDesk") 1 hts (good_c q_70) rfl rfl rfl (hN _ (List.mem_of_getElem? (i := 23) rfl)) (hts _ q_49) hd_Desk_isDemand ⟨Nat.le_of_ble_eq_true rfl, Nat.le_of_ble_eq_true rfl⟩, (hts _ q_71), trivial⟩ (preSP hP hK hN [] rfl) rfl rfl hl.1 rfl (lv_room (Nat.le_of_ble_eq_true rfl)) d_Sol_meaningOf_1 ⟨Nat.zero_le _, Nat.zero_le _⟩) (fun hz3 => ?_)
  refine lv_if_eq (tgt := 16) hx hb d_Sol_meaningOf_4 (by decide) (fun c4 => ?_) (fun c4 => ?_)
  · replace hf := gp c4 hf
    refine lv_iconst (v := (-1)) hx hb d_Sol_meaningOf_16 (by decide) ?_
    cases hf
    exact hret _ _ rfl d_Sol_meaningOf_17
  · replace hf := gn c4 hf
    refine lv_aload_n hx hb d_Sol_meaningOf_7 rfl (lv_at hl 0 rfl) ?_
    refine va_get (D := D) (ci := 5) (v := .ref a_this_meanings) (C := R_Sol) (T := T_Sol) (N := 8) hx hb hts in_Sol hown hK hP 0 rfl rfl 4 (by decide) (hts _ q_89) (fun _ h9 => h9) rfl d_Sol_meaningOf_8 ?_
    refine lv_iload_n hx hb d_Sol_meaningOf_11 rfl (lv_at hl 1 rfl) ?_
    obtain ⟨hi5, hf⟩ := gd hf
    refine va_iald hx hb hK hP 1 0 rfl rfl hi5 d_Sol_meaningOf_12 ?_
    refine lv_goto (tgt := 17) hx hb d_Sol_meaningOf_13 (by decide) ?_
    cases hf
    exact hret _ _ rfl d_Sol_meaningOf_17
def f_Sol_fits_L81 (v_this_kinds_fields_size : Int32) (v_this_kinds_fields_lengths : Nat → Int32) (v_this_kinds_fields_cells : Nat → Int32) (v_this_demands_variables_size : Int32) (v_this_demands_variables_lengths : Nat → Int32) (v_this_demands_variables_cells : Nat → Int32) (v_this_groups_groups : Nat → Int32) (v_this_groups_groupKinds : Nat → Int32) (x1 : Int32) (x2 : Int32) (r2 : Int32) (k : Int32 → Option (Int32)) : Nat → Int32 → Option (Int32)
  | 0, _ => none
  | n + 1, y5_81 =>
    if r2 ≤ y5_81 then
      k y5_81
    else
      (f_Tab_at 200 1200 v_this_demands_variables_size v_this_demands_variables_lengths v_this_demands_variables_cells x2 (y5_81 + 1)).bind fun r27 =>
      (f_Tab_at 100 600 v_this_kinds_fields_size v_this_kinds_fields_lengths v_this_kinds_fields_cells x1 y5_81).bind fun r30 =>
      (f_Gro_allows v_this_groups_groups v_this_groups_groupKinds r27 r30).bind fun r33 =>
      if r33 = 0 then
        some 0
      else
        f_Sol_fits_L81 v_this_kinds_fields_size v_this_kinds_fields_lengths v_this_kinds_fields_cells v_this_demands_variables_size v_this_demands_variables_lengths v_this_demands_variables_cells v_this_groups_groups v_this_groups_groupKinds x1 x2 r2 k n (y5_81 + 1)
def f_Sol_fits (v_this_kinds_owners : Nat → Int32) (v_this_kinds_names : Nat → Int32) (v_this_kinds_fields_size : Int32) (v_this_kinds_fields_lengths : Nat → Int32) (v_this_kinds_fields_cells : Nat → Int32) (v_this_demands_subjects : Nat → Int32) (v_this_demands_variables_size : Int32) (v_this_demands_variables_lengths : Nat → Int32) (v_this_demands_variables_cells : Nat → Int32) (v_this_groups_groups : Nat → Int32) (v_this_groups_groupKinds : Nat → Int32) (x1 : Int32) (x2 : Int32) : Option (Int32) :=
  (f_Tab_length 100 v_this_kinds_fields_size v_this_kinds_fields_lengths x1).bind fun r2 =>
  (f_Kin_nameOf v_this_kinds_names v_this_kinds_fields_size x1).bind fun r5 =>
  (f_Dem_subjectOf v_this_demands_subjects x2).bind fun r8 =>
  if r5 = r8 then
    (f_Tab_length 200 v_this_demands_variables_size v_this_demands_variables_lengths x2).bind fun r12 =>
    if (r2 + 1) = r12 then
      (f_Tab_at 200 1200 v_this_demands_variables_size v_this_demands_variables_lengths v_this_demands_variables_cells x2 0).bind fun r16 =>
      (f_Kin_kindOf v_this_kinds_owners v_this_kinds_fields_size x1).bind fun r19 =>
      (f_Gro_allows v_this_groups_groups v_this_groups_groupKinds r16 r19).bind fun r22 =>
      if r22 = 0 then
        some 0
      else
        f_Sol_fits_L81 v_this_kinds_fields_size v_this_kinds_fields_lengths v_this_kinds_fields_cells v_this_demands_variables_size v_this_demands_variables_lengths v_this_demands_variables_cells v_this_groups_groups v_this_groups_groupKinds x1 x2 r2 (fun y5_81 =>
          some 1) FU 0
    else
      some 0
  else
    some 0
abbrev rm_Sol_fits : Room := { frames := 2, cells := 0, slots := 0, locals := 43 }
set_option maxHeartbeats 4000000 in
set_option maxRecDepth 100000 in
theorem c_Sol_fits (l : Launch) (D : va_G) (cI : ClassId) (a_this a_this_kinds a_this_predicates a_this_demands a_this_groups a_this_meanings a_this_kinds_owners a_this_kinds_names a_this_kinds_fields a_this_kinds_fields_lengths a_this_kinds_fields_cells a_this_demands_sorts a_this_demands_subjects a_this_demands_variables a_this_demands_variables_lengths a_this_demands_variables_cells a_this_groups_groups a_this_groups_groupKinds : Nat) (v_this_settled : Int32) (v_this_rounds : Int32) (v_this_culprit : Int32) (v_this_kinds_size : Int32) (v_this_kinds_owners : Nat → Int32) (v_this_kinds_names : Nat → Int32) (v_this_kinds_fields_size : Int32) (v_this_kinds_fields_lengths : Nat → Int32) (v_this_kinds_fields_cells : Nat → Int32) (v_this_demands_subjects : Nat → Int32) (v_this_demands_variables_size : Int32) (v_this_demands_variables_lengths : Nat → Int32) (v_this_demands_variables_cells : Nat → Int32) (v_this_groups_changes : Int32) (v_this_groups_groups : Nat → Int32) (v_this_groups_groupKinds : Nat → Int32) (x1 x2 : Int32) {r_ : Int32} (hf : f_Sol_fits v_this_kinds_owners v_this_kinds_names v_this_kinds_fields_size v_this_kinds_fields_lengths v_this_kinds_fields_cells v_this_demands_subjects v_this_demands_variables_size v_this_demands_variables_lengths v_this_demands_variables_cells v_this_groups_groups v_this_groups_groupKinds x1 x2 = some r_) : CtP l y_Sol_fits ws_Sol_fits rm_Sol_fits D cI [(a_this, .inr (5, [.ref a_this_kinds, .ref a_this_predicates, .ref a_this_demands, .ref a_this_groups, .ref a_this_meanings, .int v_this_settled, .int v_this_rounds, .int v_this_culprit])), (a_this_kinds, .inr (2, [.ref a_this_kinds_owners, .ref a_this_kinds_names, .ref a_this_kinds_fields, .int v_this_kinds_size])), (a_this_kinds_owners, .inl (cI, 100, .inl v_this_kinds_owners)), (a_this_kinds_names, .inl (cI, 100, .inl v_this_kinds_names)), (a_this_kinds_fields, .inr (1, [.ref a_this_kinds_fields_lengths, .ref a_this_kinds_fields_cells, .int v_this_kinds_fields_size])), (a_this_kinds_fields_lengths, .inl (cI, 100, .inl v_this_kinds_fields_lengths)), (a_this_kinds_fields_cells, .inl (cI, 600, .inl v_this_kinds_fields_cells)), (a_this_demands, .inr (3, [.ref a_this_demands_sorts, .ref a_this_demands_subjects, .ref a_this_demands_variables])), (a_this_demands_subjects, .inl (cI, 200, .inl v_this_demands_subjects)), (a_this_demands_variables, .inr (1, [.ref a_this_demands_variables_lengths, .ref a_this_demands_variables_cells, .int v_this_demands_variables_size])), (a_this_demands_variables_lengths, .inl (cI, 200, .inl v_this_demands_variables_lengths)), (a_this_demands_variables_cells, .inl (cI, 1200, .inl v_this_demands_variables_cells)), (a_this_groups, .inr (4, [.ref a_this_groups_groups, .ref a_this_groups_groupKinds, .int v_this_groups_changes])), (a_this_groups_groups, .inl (cI, 80, .inl v_this_groups_groups)), (a_this_groups_groupKinds, .inl (cI, 80, .inl v_this_groups_groupKinds))] [.ref a_this, .int x1, .int x2] .boolean r_ := by
  refine CtP.ofW (cc := b_Sol_fits) (maxL := 6) (ty := .boolean) (by decide) rfl (Nat.le_of_ble_eq_true rfl) ?_
  intro p e s m args below meth c Q hx hb hml hown hts hP hK hN hret ls hl
  have hl : lv_has ls 6 [(0, .ref a_this), (1, .int x1), (2, .int x2)] := hl
  unfold f_Sol_fits at hf
  refine lv_aload_n hx hb d_Sol_fits_0 rfl (lv_at hl 0 rfl) ?_
  refine va_get (D := D) (ci := 5) (v := .ref a_this_demands) (C := R_Sol) (T := T_Sol) (N := 8) hx hb hts in_Sol hown hK hP 0 rfl rfl 2 (by decide) (hts _ q_95) (fun _ h9 => h9) rfl d_Sol_fits_1 ?_
  refine va_getN (host := "KindDesk") (D := D) (ci := 3) (v := .ref a_this_demands_variables) (C := R_Dem) (T := T_Dem) (N := 3) hx hb hts in_Dem hown hK hP 7 rfl rfl 2 (by decide) (va_Nw.use rfl (hN _ (List.mem_of_getElem? (i := 20) rfl))) (fun _ h9 => h9) rfl d_Sol_fits_4 ?_
  refine lv_astore_n (lv' := [(3, .ref a_this_demands_variables), (0, .ref a_this), (1, .int x1), (2, .int x2)]) hx hb d_Sol_fits_7 rfl hl (by decide) rfl (fun ls hl => ?_)
  refine lv_aload_n hx hb d_Sol_fits_8 rfl (lv_at hl 1 rfl) ?_
  refine va_get (D := D) (ci := 5) (v := .ref a_this_kinds) (C := R_Sol) (T := T_Sol) (N := 8) hx hb hts in_Sol hown hK hP 0 rfl rfl 0 (by decide) (hts _ q_93) (fun _ h9 => h9) rfl d_Sol_fits_9 ?_
  refine va_getN (host := "KindDesk") (D := D) (ci := 2) (v := .ref a_this_kinds_fields) (C := R_Kin) (T := T_Kin) (N := 4) hx hb hts in_Kin hown hK hP 1 rfl rfl 2 (by decide) (va_Nw.use rfl (hN _ (List.mem_of_getElem? (i := 24) rfl))) (fun _ h9 => h9) rfl d_Sol_fits_12 ?_
  refine lv_iload_n hx hb d_Sol_fits_15 rfl (lv_at hl 2 rfl) ?_
  obtain ⟨r2, hc1, hf⟩ := gb hf
  refine kP (va_runVN (C := R_Tab) (As := [.int x1]) (rest := []) ⟨hx, hb, hml, hown, hts⟩ (c_Tab_length l D cI a_this_kinds_fields a_this_kinds_fields_lengths a_this_kinds_fields_cells 100 v_this_kinds_fields_size v_this_kinds_fields_lengths x1 hc1) ⟨va_cnB (host := "KindDesk") 1 hts (good_c q_41) rfl rfl rfl (hN _ (List.mem_of_getElem? (i := 19) rfl)) (hts _ q_15) hd_Tab_length ⟨Nat.le_of_ble_eq_true rfl, Nat.le_of_ble_eq_true rfl⟩, (hts _ q_42), (hts _ q_43)⟩ (preVP hP hK hN [4, 5] rfl rfl rfl) rfl rfl hl.1 rfl (lv_room (Nat.le_of_ble_eq_true rfl)) d_Sol_fits_16 ⟨Nat.zero_le _, Nat.zero_le _⟩) (fun hz3 => ?_)
  refine lv_istore (lv' := [(4, .int r2), (3, .ref a_this_demands_variables), (0, .ref a_this), (1, .int x1), (2, .int x2)]) hx hb d_Sol_fits_19 hl (by decide) rfl (fun ls hl => ?_)
  refine lv_aload_n hx hb d_Sol_fits_21 rfl (lv_at hl 2 rfl) ?_
  refine va_get (D := D) (ci := 5) (v := .ref a_this_kinds) (C := R_Sol) (T := T_Sol) (N := 8) hx hb hts in_Sol hown hK hP 0 rfl rfl 0 (by decide) (hts _ q_93) (fun _ h9 => h9) rfl d_Sol_fits_22 ?_
  refine lv_iload_n hx hb d_Sol_fits_25 rfl (lv_at hl 3 rfl) ?_
  obtain ⟨r5, hc4, hf⟩ := gb hf
  refine kP (va_runVN (C := R_Kin) (As := [.int x1]) (rest := []) ⟨hx, hb, hml, hown, hts⟩ (c_Kin_nameOf l D cI a_this_kinds a_this_kinds_owners a_this_kinds_names a_this_kinds_fields a_this_kinds_fields_lengths a_this_kinds_fields_cells v_this_kinds_size v_this_kinds_names v_this_kinds_fields_size x1 hc4) ⟨va_cnB (host := "KindDesk") 1 hts (good_c q_37) rfl rfl rfl (hN _ (List.mem_of_getElem? (i := 25) rfl)) (hts _ q_29) hd_Kin_nameOf ⟨Nat.le_of_ble_eq_true rfl, Nat.le_of_ble_eq_true rfl⟩, (hts _ q_39), (hts _ q_40)⟩ (preVP hP hK hN [1, 3, 4] rfl rfl rfl) rfl rfl hl.1 rfl (lv_room (Nat.le_of_ble_eq_true rfl)) d_Sol_fits_26 ⟨Nat.zero_le _, Nat.zero_le _⟩) (fun hz6 => ?_)
  refine lv_aload_n hx hb d_Sol_fits_29 rfl (lv_at hl 2 rfl) ?_
  refine va_get (D := D) (ci := 5) (v := .ref a_this_demands) (C := R_Sol) (T := T_Sol) (N := 8) hx hb hts in_Sol hown hK hP 0 rfl rfl 2 (by decide) (hts _ q_95) (fun _ h9 => h9) rfl d_Sol_fits_30 ?_
  refine lv_iload_n hx hb d_Sol_fits_33 rfl (lv_at hl 4 rfl) ?_
  obtain ⟨r8, hc7, hf⟩ := gb hf
  refine kP (va_runVN (C := R_Dem) (As := [.int x2]) (rest := [.int r5]) ⟨hx, hb, hml, hown, hts⟩ (c_Dem_subjectOf l D cI a_this_demands a_this_demands_sorts a_this_demands_subjects a_this_demands_variables v_this_demands_subjects x2 hc7) ⟨va_cnB (host := "KindDesk") 1 hts (good_c q_106) rfl rfl rfl (hN _ (List.mem_of_getElem? (i := 26) rfl)) (hts _ q_107) hd_Dem_subjectOf ⟨Nat.le_of_ble_eq_true rfl, Nat.le_of_ble_eq_true rfl⟩, (hts _ q_108), (hts _ q_109)⟩ (preVP hP hK hN [7, 8] rfl rfl rfl) rfl rfl hl.1 rfl (lv_room (Nat.le_of_ble_eq_true rfl)) d_Sol_fits_34 ⟨Nat.zero_le _, Nat.zero_le _⟩) (fun hz9 => ?_)
  refine lv_icmp_ne (tgt := 76) hx hb d_Sol_fits_37 (by decide) (fun c10 => ?_) (fun c10 => ?_)
  · replace hf := gn c10 hf
    refine lv_iconst (v := 0) hx hb d_Sol_fits_76 (by decide) ?_
    cases hf
    exact hret _ _ rfl d_Sol_fits_77
  · replace hf := gp c10 hf
    refine lv_iload hx hb d_Sol_fits_40 (lv_at hl 0 rfl) ?_
    refine lv_iconst (v := 1) hx hb d_Sol_fits_42 (by decide) ?_
    refine lv_iadd hx hb d_Sol_fits_43 ?_
    refine lv_aload_n hx hb d_Sol_fits_44 rfl (lv_at hl 1 rfl) ?_
    refine lv_iload_n hx hb d_Sol_fits_45 rfl (lv_at hl 4 rfl) ?_
    obtain ⟨r12, hc11, hf⟩ := gb hf
    refine kP (va_runVN (C := R_Tab) (As := [.int x2]) (rest := [.int (r2 + 1)]) ⟨hx, hb, hml, hown, hts⟩ (c_Tab_length l D cI a_this_demands_variables a_this_demands_variables_lengths a_this_demands_variables_cells 200 v_this_demands_variables_size v_this_demands_variables_lengths x2 hc11) ⟨va_cnB (host := "KindDesk") 1 hts (good_c q_41) rfl rfl rfl (hN _ (List.mem_of_getElem? (i := 19) rfl)) (hts _ q_15) hd_Tab_length ⟨Nat.le_of_ble_eq_true rfl, Nat.le_of_ble_eq_true rfl⟩, (hts _ q_42), (hts _ q_43)⟩ (preVP hP hK hN [9, 10] rfl rfl rfl) rfl rfl hl.1 rfl (lv_room (Nat.le_of_ble_eq_true rfl)) d_Sol_fits_46 ⟨Nat.zero_le _, Nat.zero_le _⟩) (fun hz13 => ?_)
    refine lv_icmp_ne (tgt := 76) hx hb d_Sol_fits_49 (by decide) (fun c14 => ?_) (fun c14 => ?_)
    · replace hf := gn c14 hf
      refine lv_iconst (v := 0) hx hb d_Sol_fits_76 (by decide) ?_
      cases hf
      exact hret _ _ rfl d_Sol_fits_77
    · replace hf := gp c14 hf
      refine lv_aload_n hx hb d_Sol_fits_52 rfl (lv_at hl 2 rfl) ?_
      refine va_get (D := D) (ci := 5) (v := .ref a_this_groups) (C := R_Sol) (T := T_Sol) (N := 8) hx hb hts in_Sol hown hK hP 0 rfl rfl 3 (by decide) (hts _ q_88) (fun _ h9 => h9) rfl d_Sol_fits_53 ?_
      refine lv_aload_n hx hb d_Sol_fits_56 rfl (lv_at hl 1 rfl) ?_
      refine lv_iload_n hx hb d_Sol_fits_57 rfl (lv_at hl 4 rfl) ?_
      refine lv_iconst (v := 0) hx hb d_Sol_fits_58 (by decide) ?_
      obtain ⟨r16, hc15, hf⟩ := gb hf
      refine kP (va_runVN (C := R_Tab) (As := [.int x2, .int 0]) (rest := [.ref a_this_groups]) ⟨hx, hb, hml, hown, hts⟩ (c_Tab_at l D cI a_this_demands_variables a_this_demands_variables_lengths a_this_demands_variables_cells 200 1200 v_this_demands_variables_size v_this_demands_variables_lengths v_this_demands_variables_cells x2 0 hc15) ⟨va_cnB (host := "KindDesk") 2 hts (good_c q_100) rfl rfl rfl (hN _ (List.mem_of_getElem? (i := 21) rfl)) (hts _ q_15) hd_Tab_at ⟨Nat.le_of_ble_eq_true rfl, Nat.le_of_ble_eq_true rfl⟩, (hts _ q_101), (hts _ q_102)⟩ (preVP hP hK hN [9, 10, 11] rfl rfl rfl) rfl rfl hl.1 rfl (lv_room (Nat.le_of_ble_eq_true rfl)) d_Sol_fits_59 ⟨Nat.zero_le _, Nat.zero_le _⟩) (fun hz17 => ?_)
      refine lv_aload_n hx hb d_Sol_fits_62 rfl (lv_at hl 2 rfl) ?_
      refine va_get (D := D) (ci := 5) (v := .ref a_this_kinds) (C := R_Sol) (T := T_Sol) (N := 8) hx hb hts in_Sol hown hK hP 0 rfl rfl 0 (by decide) (hts _ q_93) (fun _ h9 => h9) rfl d_Sol_fits_63 ?_
      refine lv_iload_n hx hb d_Sol_fits_66 rfl (lv_at hl 3 rfl) ?_
      obtain ⟨r19, hc18, hf⟩ := gb hf
      refine kP (va_runVN (C := R_Kin) (As := [.int x1]) (rest := [.int r16, .ref a_this_groups]) ⟨hx, hb, hml, hown, hts⟩ (c_Kin_kindOf l D cI a_this_kinds a_this_kinds_owners a_this_kinds_names a_this_kinds_fields a_this_kinds_fields_lengths a_this_kinds_fields_cells v_this_kinds_size v_this_kinds_owners v_this_kinds_fields_size x1 hc18) ⟨va_cnB (host := "KindDesk") 1 hts (good_c q_33) rfl rfl rfl (hN _ (List.mem_of_getElem? (i := 27) rfl)) (hts _ q_29) hd_Kin_kindOf ⟨Nat.le_of_ble_eq_true rfl, Nat.le_of_ble_eq_true rfl⟩, (hts _ q_35), (hts _ q_36)⟩ (preVP hP hK hN [1, 2, 4] rfl rfl rfl) rfl rfl hl.1 rfl (lv_room (Nat.le_of_ble_eq_true rfl)) d_Sol_fits_67 ⟨Nat.zero_le _, Nat.zero_le _⟩) (fun hz20 => ?_)
      obtain ⟨r22, hc21, hf⟩ := gb hf
      refine kP (va_runVN (C := R_Gro) (As := [.int r16, .int r19]) (rest := []) ⟨hx, hb, hml, hown, hts⟩ (c_Gro_allows l D cI a_this_groups a_this_groups_groups a_this_groups_groupKinds v_this_groups_changes v_this_groups_groups v_this_groups_groupKinds r16 r19 hc21) ⟨va_cnB (host := "KindDesk") 2 hts (good_c q_110) rfl rfl rfl (hN _ (List.mem_of_getElem? (i := 28) rfl)) (hts _ q_85) hd_Gro_allows ⟨Nat.le_of_ble_eq_true rfl, Nat.le_of_ble_eq_true rfl⟩, (hts _ q_111), (hts _ q_112)⟩ (preVP hP hK hN [12, 13, 14] rfl rfl rfl) rfl rfl hl.1 rfl (lv_room (Nat.le_of_ble_eq_true rfl)) d_Sol_fits_70 ⟨Nat.zero_le _, Nat.zero_le _⟩) (fun hz23 => ?_)
      refine lv_if_ne (tgt := 78) hx hb d_Sol_fits_73 (by decide) (fun c24 => ?_) (fun c24 => ?_)
      · replace hf := gn c24 hf
        refine lv_iconst (v := 0) hx hb d_Sol_fits_78 (by decide) ?_
        refine lv_istore (lv' := [(5, .int 0), (4, .int r2), (3, .ref a_this_demands_variables), (0, .ref a_this), (1, .int x1), (2, .int x2)]) hx hb d_Sol_fits_79 hl (by decide) rfl (fun ls hl => ?_)
        have lp81 : ∀ (kk : Int32 → Option (Int32)), (∀ (y5_81 : Int32) (ls : Array Slot), lv_has ls 6 [(5, .int y5_81), (4, .int r2), (3, .ref a_this_demands_variables), (0, .ref a_this), (1, .int x1), (2, .int x2)] → kk y5_81 = some r_ → W p l e rm_Sol_fits s m args below meth c s.heap [] 0 0 Q (F0 m 128 ls [])) → ∀ (n : Nat) (y5_81 : Int32) (ls : Array Slot), lv_has ls 6 [(5, .int y5_81), (4, .int r2), (3, .ref a_this_demands_variables), (0, .ref a_this), (1, .int x1), (2, .int x2)] → f_Sol_fits_L81 v_this_kinds_fields_size v_this_kinds_fields_lengths v_this_kinds_fields_cells v_this_demands_variables_size v_this_demands_variables_lengths v_this_demands_variables_cells v_this_groups_groups v_this_groups_groupKinds x1 x2 r2 kk n y5_81 = some r_ → W p l e rm_Sol_fits s m args below meth c s.heap [] 0 0 Q (F0 m 81 ls []) := by
          intro kk hk81 n
          induction n with
          | zero =>
            intro y5_81 ls hl hf
            rw [f_Sol_fits_L81] at hf
            cases hf
          | succ n ih81 =>
            intro y5_81 ls hl hf
            rw [f_Sol_fits_L81] at hf
            refine lv_iload hx hb d_Sol_fits_81 (lv_at hl 0 rfl) ?_
            refine lv_iload hx hb d_Sol_fits_83 (lv_at hl 1 rfl) ?_
            refine lv_icmp_ge (tgt := 128) hx hb d_Sol_fits_85 (by decide) (fun c25 => ?_) (fun c25 => ?_)
            · replace hf := gp c25 hf
              exact hk81 y5_81 _ (lv_sub hl [0, 1, 2, 3, 4, 5] rfl) hf
            · replace hf := gn c25 hf
              refine lv_aload_n hx hb d_Sol_fits_88 rfl (lv_at hl 3 rfl) ?_
              refine va_get (D := D) (ci := 5) (v := .ref a_this_groups) (C := R_Sol) (T := T_Sol) (N := 8) hx hb hts in_Sol hown hK hP 0 rfl rfl 3 (by decide) (hts _ q_88) (fun _ h9 => h9) rfl d_Sol_fits_89 ?_
              refine lv_aload_n hx hb d_Sol_fits_92 rfl (lv_at hl 2 rfl) ?_
              refine lv_iload_n hx hb d_Sol_fits_93 rfl (lv_at hl 5 rfl) ?_
              refine lv_iload hx hb d_Sol_fits_94 (lv_at hl 0 rfl) ?_
              refine lv_iconst (v := 1) hx hb d_Sol_fits_96 (by decide) ?_
              refine lv_iadd hx hb d_Sol_fits_97 ?_
              obtain ⟨r27, hc26, hf⟩ := gb hf
              refine kP (va_runVN (C := R_Tab) (As := [.int x2, .int (y5_81 + 1)]) (rest := [.ref a_this_groups]) ⟨hx, hb, hml, hown, hts⟩ (c_Tab_at l D cI a_this_demands_variables a_this_demands_variables_lengths a_this_demands_variables_cells 200 1200 v_this_demands_variables_size v_this_demands_variables_lengths v_this_demands_variables_cells x2 (y5_81 + 1) hc26) ⟨va_cnB (host := "KindDesk") 2 hts (good_c q_100) rfl rfl rfl (hN _ (List.mem_of_getElem? (i := 21) rfl)) (hts _ q_15) hd_Tab_at ⟨Nat.le_of_ble_eq_true rfl, Nat.le_of_ble_eq_true rfl⟩, (hts _ q_101), (hts _ q_102)⟩ (preVP hP hK hN [9, 10, 11] rfl rfl rfl) rfl rfl hl.1 rfl (lv_room (Nat.le_of_ble_eq_true rfl)) d_Sol_fits_98 ⟨Nat.zero_le _, Nat.zero_le _⟩) (fun hz28 => ?_)
              refine lv_aload_n hx hb d_Sol_fits_101 rfl (lv_at hl 3 rfl) ?_
              refine va_get (D := D) (ci := 5) (v := .ref a_this_kinds) (C := R_Sol) (T := T_Sol) (N := 8) hx hb hts in_Sol hown hK hP 0 rfl rfl 0 (by decide) (hts _ q_93) (fun _ h9 => h9) rfl d_Sol_fits_102 ?_
              refine va_getN (host := "KindDesk") (D := D) (ci := 2) (v := .ref a_this_kinds_fields) (C := R_Kin) (T := T_Kin) (N := 4) hx hb hts in_Kin hown hK hP 1 rfl rfl 2 (by decide) (va_Nw.use rfl (hN _ (List.mem_of_getElem? (i := 24) rfl))) (fun _ h9 => h9) rfl d_Sol_fits_105 ?_
              refine lv_iload_n hx hb d_Sol_fits_108 rfl (lv_at hl 4 rfl) ?_
              refine lv_iload hx hb d_Sol_fits_109 (lv_at hl 0 rfl) ?_
              obtain ⟨r30, hc29, hf⟩ := gb hf
              refine kP (va_runVN (C := R_Tab) (As := [.int x1, .int y5_81]) (rest := [.int r27, .ref a_this_groups]) ⟨hx, hb, hml, hown, hts⟩ (c_Tab_at l D cI a_this_kinds_fields a_this_kinds_fields_lengths a_this_kinds_fields_cells 100 600 v_this_kinds_fields_size v_this_kinds_fields_lengths v_this_kinds_fields_cells x1 y5_81 hc29) ⟨va_cnB (host := "KindDesk") 2 hts (good_c q_100) rfl rfl rfl (hN _ (List.mem_of_getElem? (i := 21) rfl)) (hts _ q_15) hd_Tab_at ⟨Nat.le_of_ble_eq_true rfl, Nat.le_of_ble_eq_true rfl⟩, (hts _ q_101), (hts _ q_102)⟩ (preVP hP hK hN [4, 5, 6] rfl rfl rfl) rfl rfl hl.1 rfl (lv_room (Nat.le_of_ble_eq_true rfl)) d_Sol_fits_111 ⟨Nat.zero_le _, Nat.zero_le _⟩) (fun hz31 => ?_)
              obtain ⟨r33, hc32, hf⟩ := gb hf
              refine kP (va_runVN (C := R_Gro) (As := [.int r27, .int r30]) (rest := []) ⟨hx, hb, hml, hown, hts⟩ (c_Gro_allows l D cI a_this_groups a_this_groups_groups a_this_groups_groupKinds v_this_groups_changes v_this_groups_groups v_this_groups_groupKinds r27 r30 hc32) ⟨va_cnB (host := "KindDesk") 2 hts (good_c q_110) rfl rfl rfl (hN _ (List.mem_of_getElem? (i := 28) rfl)) (hts _ q_85) hd_Gro_allows ⟨Nat.le_of_ble_eq_true rfl, Nat.le_of_ble_eq_true rfl⟩, (hts _ q_111), (hts _ q_112)⟩ (preVP hP hK hN [12, 13, 14] rfl rfl rfl) rfl rfl hl.1 rfl (lv_room (Nat.le_of_ble_eq_true rfl)) d_Sol_fits_114 ⟨Nat.zero_le _, Nat.zero_le _⟩) (fun hz34 => ?_)
              refine lv_if_ne (tgt := 122) hx hb d_Sol_fits_117 (by decide) (fun c35 => ?_) (fun c35 => ?_)
              · replace hf := gn c35 hf
                refine lv_iinc (v := (y5_81 + 1)) (lv' := [(5, .int (y5_81 + 1)), (4, .int r2), (3, .ref a_this_demands_variables), (0, .ref a_this), (1, .int x1), (2, .int x2)]) hx hb d_Sol_fits_122 hl (k := 0) rfl rfl (by decide) rfl (fun ls hl => ?_)
                refine lv_goto (tgt := 81) hx hb d_Sol_fits_125 (by decide) ?_
                exact ih81 (y5_81 + 1) _ (lv_sub hl [0, 1, 2, 3, 4, 5] rfl) hf
              · replace hf := gp c35 hf
                refine lv_iconst (v := 0) hx hb d_Sol_fits_120 (by decide) ?_
                cases hf
                exact hret _ _ rfl d_Sol_fits_121
        refine lp81 _ (fun y5_81 ls hl hf => ?_) FU 0 _ (lv_sub hl [0, 1, 2, 3, 4, 5] rfl) hf
        refine lv_iconst (v := 1) hx hb d_Sol_fits_128 (by decide) ?_
        cases hf
        exact hret _ _ rfl d_Sol_fits_129
      · replace hf := gp c24 hf
        refine lv_iconst (v := 0) hx hb d_Sol_fits_76 (by decide) ?_
        cases hf
        exact hret _ _ rfl d_Sol_fits_77
end
section
def f_Sol_meetForm_L4 (v_this_settled : Int32) (v_this_kinds_owners : Nat → Int32) (v_this_kinds_names : Nat → Int32) (v_this_kinds_fields_size : Int32) (v_this_kinds_fields_lengths : Nat → Int32) (v_this_kinds_fields_cells : Nat → Int32) (v_this_demands_subjects : Nat → Int32) (v_this_demands_variables_size : Int32) (v_this_demands_variables_lengths : Nat → Int32) (v_this_demands_variables_cells : Nat → Int32) (v_this_groups_changes : Int32) (v_this_groups_groups : Nat → Int32) (v_this_groups_groupKinds : Nat → Int32) (v_this_meanings : Nat → Int32) (x1 : Int32) (k : Int32 → Int32 → Option (Int32 × Int32 × Int32 × (Nat → Int32) × (Nat → Int32))) : Nat → Int32 → Int32 → Option (Int32 × Int32 × Int32 × (Nat → Int32) × (Nat → Int32))
  | 0, _, _ => none
  | n + 1, y2_4, y3_4 =>
    if v_this_kinds_fields_size ≤ y3_4 then
      k y2_4 y3_4
    else
      (f_Sol_fits v_this_kinds_owners v_this_kinds_names v_this_kinds_fields_size v_this_kinds_fields_lengths v_this_kinds_fields_cells v_this_demands_subjects v_this_demands_variables_size v_this_demands_variables_lengths v_this_demands_variables_cells v_this_groups_groups v_this_groups_groupKinds y3_4 x1).bind fun r3 =>
      if r3 = 0 then
        f_Sol_meetForm_L4 v_this_settled v_this_kinds_owners v_this_kinds_names v_this_kinds_fields_size v_this_kinds_fields_lengths v_this_kinds_fields_cells v_this_demands_subjects v_this_demands_variables_size v_this_demands_variables_lengths v_this_demands_variables_cells v_this_groups_changes v_this_groups_groups v_this_groups_groupKinds v_this_meanings x1 k n y2_4 (y3_4 + 1)
      else
        if y2_4 = (-1) then
          f_Sol_meetForm_L4 v_this_settled v_this_kinds_owners v_this_kinds_names v_this_kinds_fields_size v_this_kinds_fields_lengths v_this_kinds_fields_cells v_this_demands_subjects v_this_demands_variables_size v_this_demands_variables_lengths v_this_demands_variables_cells v_this_groups_changes v_this_groups_groups v_this_groups_groupKinds v_this_meanings x1 k n y3_4 (y3_4 + 1)
        else
          some (1, v_this_settled, v_this_groups_changes, v_this_groups_groupKinds, v_this_meanings)
def f_Sol_meetForm (v_this_settled : Int32) (v_this_kinds_owners : Nat → Int32) (v_this_kinds_names : Nat → Int32) (v_this_kinds_fields_size : Int32) (v_this_kinds_fields_lengths : Nat → Int32) (v_this_kinds_fields_cells : Nat → Int32) (v_this_demands_subjects : Nat → Int32) (v_this_demands_variables_size : Int32) (v_this_demands_variables_lengths : Nat → Int32) (v_this_demands_variables_cells : Nat → Int32) (v_this_groups_changes : Int32) (v_this_groups_groups : Nat → Int32) (v_this_groups_groupKinds : Nat → Int32) (v_this_meanings : Nat → Int32) (x1 : Int32) : Option (Int32 × Int32 × Int32 × (Nat → Int32) × (Nat → Int32)) :=
  f_Sol_meetForm_L4 v_this_settled v_this_kinds_owners v_this_kinds_names v_this_kinds_fields_size v_this_kinds_fields_lengths v_this_kinds_fields_cells v_this_demands_subjects v_this_demands_variables_size v_this_demands_variables_lengths v_this_demands_variables_cells v_this_groups_changes v_this_groups_groups v_this_groups_groupKinds v_this_meanings x1 (fun y2_4 y3_4 =>
    if y2_4 = (-1) then
      some (0, v_this_settled, v_this_groups_changes, v_this_groups_groupKinds, v_this_meanings)
    else
      (f_Desk_isDemand x1).bind fun r9 =>
      if r9 = 0 then
        some (0, v_this_settled, v_this_groups_changes, v_this_groups_groupKinds, v_this_meanings)
      else
        if inb x1 200 then
          (f_Tab_at 200 1200 v_this_demands_variables_size v_this_demands_variables_lengths v_this_demands_variables_cells x1 0).bind fun r14 =>
          (f_Kin_kindOf v_this_kinds_owners v_this_kinds_fields_size y2_4).bind fun r17 =>
          (f_Gro_give v_this_groups_changes v_this_groups_groups v_this_groups_groupKinds r14 r17).bind fun (r20, u_21, u_22) =>
          if r20 = 0 then
            some (0, (v_this_settled + 1), u_21, u_22, (upd v_this_meanings x1.toNatClampNeg y2_4))
          else
            (f_Sol_giveAll 100 600 v_this_demands_variables_size v_this_demands_variables_lengths v_this_demands_variables_cells u_21 v_this_groups_groups u_22 v_this_kinds_fields_size v_this_kinds_fields_lengths v_this_kinds_fields_cells x1 1 y2_4).bind fun (r26, u_27, u_28) =>
            if r26 = 0 then
              some (0, (v_this_settled + 1), u_27, u_28, (upd v_this_meanings x1.toNatClampNeg y2_4))
            else
              some (1, (v_this_settled + 1), u_27, u_28, (upd v_this_meanings x1.toNatClampNeg y2_4))
        else none) FU (-1) 0
abbrev rm_Sol_meetForm : Room := { frames := 3, cells := 0, slots := 0, locals := 68 }
set_option maxHeartbeats 4000000 in
set_option maxRecDepth 100000 in
theorem c_Sol_meetForm (l : Launch) (D : va_G) (cI : ClassId) (a_this a_this_kinds a_this_predicates a_this_demands a_this_groups a_this_meanings a_this_kinds_owners a_this_kinds_names a_this_kinds_fields a_this_kinds_fields_lengths a_this_kinds_fields_cells a_this_demands_sorts a_this_demands_subjects a_this_demands_variables a_this_demands_variables_lengths a_this_demands_variables_cells a_this_groups_groups a_this_groups_groupKinds : Nat) (v_this_settled : Int32) (v_this_rounds : Int32) (v_this_culprit : Int32) (v_this_kinds_size : Int32) (v_this_kinds_owners : Nat → Int32) (v_this_kinds_names : Nat → Int32) (v_this_kinds_fields_size : Int32) (v_this_kinds_fields_lengths : Nat → Int32) (v_this_kinds_fields_cells : Nat → Int32) (v_this_demands_subjects : Nat → Int32) (v_this_demands_variables_size : Int32) (v_this_demands_variables_lengths : Nat → Int32) (v_this_demands_variables_cells : Nat → Int32) (v_this_groups_changes : Int32) (v_this_groups_groups : Nat → Int32) (v_this_groups_groupKinds : Nat → Int32) (v_this_meanings : Nat → Int32) (x1 : Int32) {r_ : Int32} {v_this_settled' : Int32} {v_this_groups_changes' : Int32} {v_this_groups_groupKinds' : Nat → Int32} {v_this_meanings' : Nat → Int32} (hf : f_Sol_meetForm v_this_settled v_this_kinds_owners v_this_kinds_names v_this_kinds_fields_size v_this_kinds_fields_lengths v_this_kinds_fields_cells v_this_demands_subjects v_this_demands_variables_size v_this_demands_variables_lengths v_this_demands_variables_cells v_this_groups_changes v_this_groups_groups v_this_groups_groupKinds v_this_meanings x1 = some (r_, v_this_settled', v_this_groups_changes', v_this_groups_groupKinds', v_this_meanings')) : CtI l y_Sol_meetForm ws_Sol_meetForm rm_Sol_meetForm D cI [(a_this, .inr (5, [.ref a_this_kinds, .ref a_this_predicates, .ref a_this_demands, .ref a_this_groups, .ref a_this_meanings, .int v_this_settled, .int v_this_rounds, .int v_this_culprit])), (a_this_kinds, .inr (2, [.ref a_this_kinds_owners, .ref a_this_kinds_names, .ref a_this_kinds_fields, .int v_this_kinds_size])), (a_this_kinds_owners, .inl (cI, 100, .inl v_this_kinds_owners)), (a_this_kinds_names, .inl (cI, 100, .inl v_this_kinds_names)), (a_this_kinds_fields, .inr (1, [.ref a_this_kinds_fields_lengths, .ref a_this_kinds_fields_cells, .int v_this_kinds_fields_size])), (a_this_kinds_fields_lengths, .inl (cI, 100, .inl v_this_kinds_fields_lengths)), (a_this_kinds_fields_cells, .inl (cI, 600, .inl v_this_kinds_fields_cells)), (a_this_demands, .inr (3, [.ref a_this_demands_sorts, .ref a_this_demands_subjects, .ref a_this_demands_variables])), (a_this_demands_subjects, .inl (cI, 200, .inl v_this_demands_subjects)), (a_this_demands_variables, .inr (1, [.ref a_this_demands_variables_lengths, .ref a_this_demands_variables_cells, .int v_this_demands_variables_size])), (a_this_demands_variables_lengths, .inl (cI, 200, .inl v_this_demands_variables_lengths)), (a_this_demands_variables_cells, .inl (cI, 1200, .inl v_this_demands_variables_cells)), (a_this_groups, .inr (4, [.ref a_this_groups_groups, .ref a_this_groups_groupKinds, .int v_this_groups_changes])), (a_this_groups_groups, .inl (cI, 80, .inl v_this_groups_groups)), (a_this_groups_groupKinds, .inl (cI, 80, .inl v_this_groups_groupKinds)), (a_this_meanings, .inl (cI, 200, .inl v_this_meanings))] [(a_this, .inr (5, [.ref a_this_kinds, .ref a_this_predicates, .ref a_this_demands, .ref a_this_groups, .ref a_this_meanings, .int v_this_settled', .int v_this_rounds, .int v_this_culprit])), (a_this_kinds, .inr (2, [.ref a_this_kinds_owners, .ref a_this_kinds_names, .ref a_this_kinds_fields, .int v_this_kinds_size])), (a_this_kinds_owners, .inl (cI, 100, .inl v_this_kinds_owners)), (a_this_kinds_names, .inl (cI, 100, .inl v_this_kinds_names)), (a_this_kinds_fields, .inr (1, [.ref a_this_kinds_fields_lengths, .ref a_this_kinds_fields_cells, .int v_this_kinds_fields_size])), (a_this_kinds_fields_lengths, .inl (cI, 100, .inl v_this_kinds_fields_lengths)), (a_this_kinds_fields_cells, .inl (cI, 600, .inl v_this_kinds_fields_cells)), (a_this_demands, .inr (3, [.ref a_this_demands_sorts, .ref a_this_demands_subjects, .ref a_this_demands_variables])), (a_this_demands_subjects, .inl (cI, 200, .inl v_this_demands_subjects)), (a_this_demands_variables, .inr (1, [.ref a_this_demands_variables_lengths, .ref a_this_demands_variables_cells, .int v_this_demands_variables_size])), (a_this_demands_variables_lengths, .inl (cI, 200, .inl v_this_demands_variables_lengths)), (a_this_demands_variables_cells, .inl (cI, 1200, .inl v_this_demands_variables_cells)), (a_this_groups, .inr (4, [.ref a_this_groups_groups, .ref a_this_groups_groupKinds, .int v_this_groups_changes'])), (a_this_groups_groups, .inl (cI, 80, .inl v_this_groups_groups)), (a_this_groups_groupKinds, .inl (cI, 80, .inl v_this_groups_groupKinds')), (a_this_meanings, .inl (cI, 200, .inl v_this_meanings'))] [.ref a_this, .int x1] .boolean r_ := by
  refine CtI.ofW (cc := b_Sol_meetForm) (maxL := 4) (ty := .boolean) (by decide) rfl (Nat.le_of_ble_eq_true rfl) ?_
  intro p e s m args below meth c Q A hx hb hml hown hts hP hK hN hA hD hret ls hl
  have hS : va_S A s.heap s.heap [] := va_S.rf
  have hDL : DL A [a_this, a_this_kinds, a_this_kinds_owners, a_this_kinds_names, a_this_kinds_fields, a_this_kinds_fields_lengths, a_this_kinds_fields_cells, a_this_demands, a_this_demands_subjects, a_this_demands_variables, a_this_demands_variables_lengths, a_this_demands_variables_cells, a_this_groups, a_this_groups_groups, a_this_groups_groupKinds, a_this_meanings] := DL.of hD rfl
  have hl : lv_has ls 4 [(0, .ref a_this), (1, .int x1)] := hl
  unfold f_Sol_meetForm at hf
  refine lv_iconst (v := (-1)) hx hb d_Sol_meetForm_0 (by decide) ?_
  refine lv_istore_n (lv' := [(2, .int (-1)), (0, .ref a_this), (1, .int x1)]) hx hb d_Sol_meetForm_1 rfl hl (by decide) rfl (fun ls hl => ?_)
  refine lv_iconst (v := 0) hx hb d_Sol_meetForm_2 (by decide) ?_
  refine lv_istore_n (lv' := [(3, .int 0), (2, .int (-1)), (0, .ref a_this), (1, .int x1)]) hx hb d_Sol_meetForm_3 rfl hl (by decide) rfl (fun ls hl => ?_)
  have lp4 : ∀ (kk : Int32 → Int32 → Option (Int32 × Int32 × Int32 × (Nat → Int32) × (Nat → Int32))), (∀ (y2_4 : Int32) (y3_4 : Int32) (H : Heap) (locs : List Loc) (ls : Array Slot), va_P D vwCl [(a_this, .inr (5, [.ref a_this_kinds, .ref a_this_predicates, .ref a_this_demands, .ref a_this_groups, .ref a_this_meanings, .int v_this_settled, .int v_this_rounds, .int v_this_culprit])), (a_this_kinds, .inr (2, [.ref a_this_kinds_owners, .ref a_this_kinds_names, .ref a_this_kinds_fields, .int v_this_kinds_size])), (a_this_kinds_owners, .inl (cI, 100, .inl v_this_kinds_owners)), (a_this_kinds_names, .inl (cI, 100, .inl v_this_kinds_names)), (a_this_kinds_fields, .inr (1, [.ref a_this_kinds_fields_lengths, .ref a_this_kinds_fields_cells, .int v_this_kinds_fields_size])), (a_this_kinds_fields_lengths, .inl (cI, 100, .inl v_this_kinds_fields_lengths)), (a_this_kinds_fields_cells, .inl (cI, 600, .inl v_this_kinds_fields_cells)), (a_this_demands, .inr (3, [.ref a_this_demands_sorts, .ref a_this_demands_subjects, .ref a_this_demands_variables])), (a_this_demands_subjects, .inl (cI, 200, .inl v_this_demands_subjects)), (a_this_demands_variables, .inr (1, [.ref a_this_demands_variables_lengths, .ref a_this_demands_variables_cells, .int v_this_demands_variables_size])), (a_this_demands_variables_lengths, .inl (cI, 200, .inl v_this_demands_variables_lengths)), (a_this_demands_variables_cells, .inl (cI, 1200, .inl v_this_demands_variables_cells)), (a_this_groups, .inr (4, [.ref a_this_groups_groups, .ref a_this_groups_groupKinds, .int v_this_groups_changes])), (a_this_groups_groups, .inl (cI, 80, .inl v_this_groups_groups)), (a_this_groups_groupKinds, .inl (cI, 80, .inl v_this_groups_groupKinds)), (a_this_meanings, .inl (cI, 200, .inl v_this_meanings))] H → va_S A s.heap H locs → lv_has ls 4 [(3, .int y3_4), (2, .int y2_4), (0, .ref a_this), (1, .int x1)] → kk y2_4 y3_4 = some (r_, v_this_settled', v_this_groups_changes', v_this_groups_groupKinds', v_this_meanings') → W p l e rm_Sol_meetForm s m args below meth c H locs 0 0 Q (F0 m 42 ls [])) → ∀ (n : Nat) (y2_4 : Int32) (y3_4 : Int32) (H : Heap) (locs : List Loc) (ls : Array Slot), va_P D vwCl [(a_this, .inr (5, [.ref a_this_kinds, .ref a_this_predicates, .ref a_this_demands, .ref a_this_groups, .ref a_this_meanings, .int v_this_settled, .int v_this_rounds, .int v_this_culprit])), (a_this_kinds, .inr (2, [.ref a_this_kinds_owners, .ref a_this_kinds_names, .ref a_this_kinds_fields, .int v_this_kinds_size])), (a_this_kinds_owners, .inl (cI, 100, .inl v_this_kinds_owners)), (a_this_kinds_names, .inl (cI, 100, .inl v_this_kinds_names)), (a_this_kinds_fields, .inr (1, [.ref a_this_kinds_fields_lengths, .ref a_this_kinds_fields_cells, .int v_this_kinds_fields_size])), (a_this_kinds_fields_lengths, .inl (cI, 100, .inl v_this_kinds_fields_lengths)), (a_this_kinds_fields_cells, .inl (cI, 600, .inl v_this_kinds_fields_cells)), (a_this_demands, .inr (3, [.ref a_this_demands_sorts, .ref a_this_demands_subjects, .ref a_this_demands_variables])), (a_this_demands_subjects, .inl (cI, 200, .inl v_this_demands_subjects)), (a_this_demands_variables, .inr (1, [.ref a_this_demands_variables_lengths, .ref a_this_demands_variables_cells, .int v_this_demands_variables_size])), (a_this_demands_variables_lengths, .inl (cI, 200, .inl v_this_demands_variables_lengths)), (a_this_demands_variables_cells, .inl (cI, 1200, .inl v_this_demands_variables_cells)), (a_this_groups, .inr (4, [.ref a_this_groups_groups, .ref a_this_groups_groupKinds, .int v_this_groups_changes])), (a_this_groups_groups, .inl (cI, 80, .inl v_this_groups_groups)), (a_this_groups_groupKinds, .inl (cI, 80, .inl v_this_groups_groupKinds)), (a_this_meanings, .inl (cI, 200, .inl v_this_meanings))] H → va_S A s.heap H locs → lv_has ls 4 [(3, .int y3_4), (2, .int y2_4), (0, .ref a_this), (1, .int x1)] → f_Sol_meetForm_L4 v_this_settled v_this_kinds_owners v_this_kinds_names v_this_kinds_fields_size v_this_kinds_fields_lengths v_this_kinds_fields_cells v_this_demands_subjects v_this_demands_variables_size v_this_demands_variables_lengths v_this_demands_variables_cells v_this_groups_changes v_this_groups_groups v_this_groups_groupKinds v_this_meanings x1 kk n y2_4 y3_4 = some (r_, v_this_settled', v_this_groups_changes', v_this_groups_groupKinds', v_this_meanings') → W p l e rm_Sol_meetForm s m args below meth c H locs 0 0 Q (F0 m 4 ls []) := by
    intro kk hk4 n
    induction n with
    | zero =>
      intro y2_4 y3_4 H locs ls hP hS hl hf
      rw [f_Sol_meetForm_L4] at hf
      cases hf
    | succ n ih4 =>
      intro y2_4 y3_4 H locs ls hP hS hl hf
      rw [f_Sol_meetForm_L4] at hf
      refine lv_iload_n hx hb d_Sol_meetForm_4 rfl (lv_at hl 0 rfl) ?_
      refine lv_aload_n hx hb d_Sol_meetForm_5 rfl (lv_at hl 2 rfl) ?_
      refine va_get (D := D) (ci := 5) (v := .ref a_this_kinds) (C := R_Sol) (T := T_Sol) (N := 8) hx hb hts in_Sol hown hK hP 0 rfl rfl 0 (by decide) (hts _ q_93) (fun _ h9 => h9) rfl d_Sol_meetForm_6 ?_
      refine va_getN (host := "KindDesk") (D := D) (ci := 2) (v := .ref a_this_kinds_fields) (C := R_Kin) (T := T_Kin) (N := 4) hx hb hts in_Kin hown hK hP 1 rfl rfl 2 (by decide) (va_Nw.use rfl (hN _ (List.mem_of_getElem? (i := 24) rfl))) (fun _ h9 => h9) rfl d_Sol_meetForm_9 ?_
      refine va_getN (host := "KindDesk") (D := D) (ci := 1) (v := .int v_this_kinds_fields_size) (C := R_Tab) (T := T_Tab) (N := 3) hx hb hts in_Tab hown hK hP 4 rfl rfl 2 (by decide) (va_Nw.use rfl (hN _ (List.mem_of_getElem? (i := 29) rfl))) (fun _ h9 => h9) rfl d_Sol_meetForm_12 ?_
      refine lv_icmp_ge (tgt := 42) hx hb d_Sol_meetForm_15 (by decide) (fun c1 => ?_) (fun c1 => ?_)
      · replace hf := gp c1 hf
        exact hk4 y2_4 y3_4 _ _ _ hP hS (lv_sub hl [0, 1, 2, 3] rfl) hf
      · replace hf := gn c1 hf
        refine lv_aload_n hx hb d_Sol_meetForm_18 rfl (lv_at hl 2 rfl) ?_
        refine lv_iload_n hx hb d_Sol_meetForm_19 rfl (lv_at hl 0 rfl) ?_
        refine lv_iload_n hx hb d_Sol_meetForm_20 rfl (lv_at hl 3 rfl) ?_
        obtain ⟨r3, hc2, hf⟩ := gb hf
        refine kP (va_runV (C := R_Sol) (As := [.int y3_4, .int x1]) (rest := []) ⟨hx, hb, hml, hown, hts⟩ (c_Sol_fits l D cI a_this a_this_kinds a_this_predicates a_this_demands a_this_groups a_this_meanings a_this_kinds_owners a_this_kinds_names a_this_kinds_fields a_this_kinds_fields_lengths a_this_kinds_fields_cells a_this_demands_sorts a_this_demands_subjects a_this_demands_variables a_this_demands_variables_lengths a_this_demands_variables_cells a_this_groups_groups a_this_groups_groupKinds v_this_settled v_this_rounds v_this_culprit v_this_kinds_size v_this_kinds_owners v_this_kinds_names v_this_kinds_fields_size v_this_kinds_fields_lengths v_this_kinds_fields_cells v_this_demands_subjects v_this_demands_variables_size v_this_demands_variables_lengths v_this_demands_variables_cells v_this_groups_changes v_this_groups_groups v_this_groups_groupKinds y3_4 x1 hc2) ⟨callB_of 2 hts (good_c q_113) rfl rfl rfl (hts _ q_114) (hts _ q_115) hd_Sol_fits ⟨Nat.le_of_ble_eq_true rfl, Nat.le_of_ble_eq_true rfl⟩, (hts _ q_116), (hts _ q_117)⟩ (preVP hP hK hN [0, 1, 2, 3, 4, 5, 6, 7, 8, 9, 10, 11, 12, 13, 14] rfl rfl rfl) rfl rfl hl.1 rfl (lv_room (Nat.le_of_ble_eq_true rfl)) d_Sol_meetForm_21 ⟨Nat.zero_le _, Nat.zero_le _⟩) (fun hz4 => ?_)
        refine lv_if_eq (tgt := 36) hx hb d_Sol_meetForm_24 (by decide) (fun c5 => ?_) (fun c5 => ?_)
        · replace hf := gp c5 hf
          refine lv_iinc (v := (y3_4 + 1)) (lv' := [(3, .int (y3_4 + 1)), (2, .int y2_4), (0, .ref a_this), (1, .int x1)]) hx hb d_Sol_meetForm_36 hl (k := 0) rfl rfl (by decide) rfl (fun ls hl => ?_)
          refine lv_goto (tgt := 4) hx hb d_Sol_meetForm_39 (by decide) ?_
          exact ih4 y2_4 (y3_4 + 1) _ _ _ hP hS (lv_sub hl [0, 1, 2, 3] rfl) hf
        · replace hf := gn c5 hf
          refine lv_iload_n hx hb d_Sol_meetForm_27 rfl (lv_at hl 1 rfl) ?_
          refine lv_iconst (v := (-1)) hx hb d_Sol_meetForm_28 (by decide) ?_
          refine lv_icmp_eq (tgt := 34) hx hb d_Sol_meetForm_29 (by decide) (fun c6 => ?_) (fun c6 => ?_)
          · replace hf := gp c6 hf
            refine lv_iload_n hx hb d_Sol_meetForm_34 rfl (lv_at hl 0 rfl) ?_
            refine lv_istore_n (lv' := [(2, .int y3_4), (3, .int y3_4), (0, .ref a_this), (1, .int x1)]) hx hb d_Sol_meetForm_35 rfl hl (by decide) rfl (fun ls hl => ?_)
            refine lv_iinc (v := (y3_4 + 1)) (lv' := [(3, .int (y3_4 + 1)), (2, .int y3_4), (0, .ref a_this), (1, .int x1)]) hx hb d_Sol_meetForm_36 hl (k := 1) rfl rfl (by decide) rfl (fun ls hl => ?_)
            refine lv_goto (tgt := 4) hx hb d_Sol_meetForm_39 (by decide) ?_
            exact ih4 y3_4 (y3_4 + 1) _ _ _ hP hS (lv_sub hl [0, 1, 2, 3] rfl) hf
          · replace hf := gn c6 hf
            refine lv_iconst (v := 1) hx hb d_Sol_meetForm_32 (by decide) ?_
            cases hf
            exact hret _ _ _ _ hS hP rfl d_Sol_meetForm_33
  refine lp4 _ (fun y2_4 y3_4 H locs ls hP hS hl hf => ?_) FU (-1) 0 _ _ _ hP hS (lv_sub hl [0, 1, 2, 3] rfl) hf
  refine lv_iload_n hx hb d_Sol_meetForm_42 rfl (lv_at hl 1 rfl) ?_
  refine lv_iconst (v := (-1)) hx hb d_Sol_meetForm_43 (by decide) ?_
  refine lv_icmp_eq (tgt := 54) hx hb d_Sol_meetForm_44 (by decide) (fun c7 => ?_) (fun c7 => ?_)
  · replace hf := gp c7 hf
    refine lv_iconst (v := 0) hx hb d_Sol_meetForm_54 (by decide) ?_
    cases hf
    exact hret _ _ _ _ hS hP rfl d_Sol_meetForm_55
  · replace hf := gn c7 hf
    refine lv_iload_n hx hb d_Sol_meetForm_47 rfl (lv_at hl 3 rfl) ?_
    obtain ⟨r9, hc8, hf⟩ := gb hf
    refine kP (va_runSN (As := [.int x1]) (rest := []) ⟨hx, hb, hml, hown, hts⟩ (c_Desk_isDemand l D cI x1 hc8) ⟨va_cnB (host := "KindDesk") 1 hts (good_c q_70) rfl rfl rfl (hN _ (List.mem_of_getElem? (i := 23) rfl)) (hts _ q_49) hd_Desk_isDemand ⟨Nat.le_of_ble_eq_true rfl, Nat.le_of_ble_eq_true rfl⟩, (hts _ q_71), trivial⟩ (preSP hP hK hN [] rfl) rfl rfl hl.1 rfl (lv_room (Nat.le_of_ble_eq_true rfl)) d_Sol_meetForm_48 ⟨Nat.zero_le _, Nat.zero_le _⟩) (fun hz10 => ?_)
    refine lv_if_ne (tgt := 56) hx hb d_Sol_meetForm_51 (by decide) (fun c11 => ?_) (fun c11 => ?_)
    · replace hf := gn c11 hf
      refine lv_aload_n hx hb d_Sol_meetForm_56 rfl (lv_at hl 2 rfl) ?_
      refine va_get (D := D) (ci := 5) (v := .ref a_this_meanings) (C := R_Sol) (T := T_Sol) (N := 8) hx hb hts in_Sol hown hK hP 0 rfl rfl 4 (by decide) (hts _ q_89) (fun _ h9 => h9) rfl d_Sol_meetForm_57 ?_
      refine lv_iload_n hx hb d_Sol_meetForm_60 rfl (lv_at hl 3 rfl) ?_
      refine lv_iload_n hx hb d_Sol_meetForm_61 rfl (lv_at hl 1 rfl) ?_
      obtain ⟨hi12, hf⟩ := gd hf
      refine va_iast hx hb hK hP (hDL _ rfl) hS 15 0 rfl rfl hi12 d_Sol_meetForm_62 (fun H locs hP _ hS => ?_)
      have hP : va_P D vwCl [(a_this, .inr (5, [.ref a_this_kinds, .ref a_this_predicates, .ref a_this_demands, .ref a_this_groups, .ref a_this_meanings, .int v_this_settled, .int v_this_rounds, .int v_this_culprit])), (a_this_kinds, .inr (2, [.ref a_this_kinds_owners, .ref a_this_kinds_names, .ref a_this_kinds_fields, .int v_this_kinds_size])), (a_this_kinds_owners, .inl (cI, 100, .inl v_this_kinds_owners)), (a_this_kinds_names, .inl (cI, 100, .inl v_this_kinds_names)), (a_this_kinds_fields, .inr (1, [.ref a_this_kinds_fields_lengths, .ref a_this_kinds_fields_cells, .int v_this_kinds_fields_size])), (a_this_kinds_fields_lengths, .inl (cI, 100, .inl v_this_kinds_fields_lengths)), (a_this_kinds_fields_cells, .inl (cI, 600, .inl v_this_kinds_fields_cells)), (a_this_demands, .inr (3, [.ref a_this_demands_sorts, .ref a_this_demands_subjects, .ref a_this_demands_variables])), (a_this_demands_subjects, .inl (cI, 200, .inl v_this_demands_subjects)), (a_this_demands_variables, .inr (1, [.ref a_this_demands_variables_lengths, .ref a_this_demands_variables_cells, .int v_this_demands_variables_size])), (a_this_demands_variables_lengths, .inl (cI, 200, .inl v_this_demands_variables_lengths)), (a_this_demands_variables_cells, .inl (cI, 1200, .inl v_this_demands_variables_cells)), (a_this_groups, .inr (4, [.ref a_this_groups_groups, .ref a_this_groups_groupKinds, .int v_this_groups_changes])), (a_this_groups_groups, .inl (cI, 80, .inl v_this_groups_groups)), (a_this_groups_groupKinds, .inl (cI, 80, .inl v_this_groups_groupKinds)), (a_this_meanings, .inl (cI, 200, .inl (upd v_this_meanings x1.toNatClampNeg y2_4)))] H := hP
      refine lv_aload_n hx hb d_Sol_meetForm_63 rfl (lv_at hl 2 rfl) ?_
      refine lv_dup hx hb d_Sol_meetForm_64 rfl ?_
      refine va_get (D := D) (ci := 5) (v := .int v_this_settled) (C := R_Sol) (T := T_Sol) (N := 8) hx hb hts in_Sol hown hK hP 0 rfl rfl 5 (by decide) (hts _ q_90) (fun _ h9 => h9) rfl d_Sol_meetForm_65 ?_
      refine lv_iconst (v := 1) hx hb d_Sol_meetForm_68 (by decide) ?_
      refine lv_iadd hx hb d_Sol_meetForm_69 ?_
      refine va_put (D := D) (ci := 5) (v := .int (v_this_settled + 1)) (ty := .int) (C := R_Sol) (T := T_Sol) (N := 8) hx hb hts in_Sol ty_Sol tyok_Sol nm_Sol hown hK hP (hDL _ rfl) hS 0 rfl rfl 5 (by decide) (hts _ q_90) (fun _ h9 => h9) rfl (by decide +kernel) rfl rfl (Nat.le_of_ble_eq_true rfl) d_Sol_meetForm_70 (fun H locs hP _ hS => ?_)
      have hP : va_P D vwCl [(a_this, .inr (5, [.ref a_this_kinds, .ref a_this_predicates, .ref a_this_demands, .ref a_this_groups, .ref a_this_meanings, .int (v_this_settled + 1), .int v_this_rounds, .int v_this_culprit])), (a_this_kinds, .inr (2, [.ref a_this_kinds_owners, .ref a_this_kinds_names, .ref a_this_kinds_fields, .int v_this_kinds_size])), (a_this_kinds_owners, .inl (cI, 100, .inl v_this_kinds_owners)), (a_this_kinds_names, .inl (cI, 100, .inl v_this_kinds_names)), (a_this_kinds_fields, .inr (1, [.ref a_this_kinds_fields_lengths, .ref a_this_kinds_fields_cells, .int v_this_kinds_fields_size])), (a_this_kinds_fields_lengths, .inl (cI, 100, .inl v_this_kinds_fields_lengths)), (a_this_kinds_fields_cells, .inl (cI, 600, .inl v_this_kinds_fields_cells)), (a_this_demands, .inr (3, [.ref a_this_demands_sorts, .ref a_this_demands_subjects, .ref a_this_demands_variables])), (a_this_demands_subjects, .inl (cI, 200, .inl v_this_demands_subjects)), (a_this_demands_variables, .inr (1, [.ref a_this_demands_variables_lengths, .ref a_this_demands_variables_cells, .int v_this_demands_variables_size])), (a_this_demands_variables_lengths, .inl (cI, 200, .inl v_this_demands_variables_lengths)), (a_this_demands_variables_cells, .inl (cI, 1200, .inl v_this_demands_variables_cells)), (a_this_groups, .inr (4, [.ref a_this_groups_groups, .ref a_this_groups_groupKinds, .int v_this_groups_changes])), (a_this_groups_groups, .inl (cI, 80, .inl v_this_groups_groups)), (a_this_groups_groupKinds, .inl (cI, 80, .inl v_this_groups_groupKinds)), (a_this_meanings, .inl (cI, 200, .inl (upd v_this_meanings x1.toNatClampNeg y2_4)))] H := hP
      refine lv_aload_n hx hb d_Sol_meetForm_73 rfl (lv_at hl 2 rfl) ?_
      refine va_get (D := D) (ci := 5) (v := .ref a_this_groups) (C := R_Sol) (T := T_Sol) (N := 8) hx hb hts in_Sol hown hK hP 0 rfl rfl 3 (by decide) (hts _ q_88) (fun _ h9 => h9) rfl d_Sol_meetForm_74 ?_
      refine lv_aload_n hx hb d_Sol_meetForm_77 rfl (lv_at hl 2 rfl) ?_
      refine va_get (D := D) (ci := 5) (v := .ref a_this_demands) (C := R_Sol) (T := T_Sol) (N := 8) hx hb hts in_Sol hown hK hP 0 rfl rfl 2 (by decide) (hts _ q_95) (fun _ h9 => h9) rfl d_Sol_meetForm_78 ?_
      refine va_getN (host := "KindDesk") (D := D) (ci := 3) (v := .ref a_this_demands_variables) (C := R_Dem) (T := T_Dem) (N := 3) hx hb hts in_Dem hown hK hP 7 rfl rfl 2 (by decide) (va_Nw.use rfl (hN _ (List.mem_of_getElem? (i := 20) rfl))) (fun _ h9 => h9) rfl d_Sol_meetForm_81 ?_
      refine lv_iload_n hx hb d_Sol_meetForm_84 rfl (lv_at hl 3 rfl) ?_
      refine lv_iconst (v := 0) hx hb d_Sol_meetForm_85 (by decide) ?_
      obtain ⟨r14, hc13, hf⟩ := gb hf
      refine kP (va_runVN (C := R_Tab) (As := [.int x1, .int 0]) (rest := [.ref a_this_groups]) ⟨hx, hb, hml, hown, hts⟩ (c_Tab_at l D cI a_this_demands_variables a_this_demands_variables_lengths a_this_demands_variables_cells 200 1200 v_this_demands_variables_size v_this_demands_variables_lengths v_this_demands_variables_cells x1 0 hc13) ⟨va_cnB (host := "KindDesk") 2 hts (good_c q_100) rfl rfl rfl (hN _ (List.mem_of_getElem? (i := 21) rfl)) (hts _ q_15) hd_Tab_at ⟨Nat.le_of_ble_eq_true rfl, Nat.le_of_ble_eq_true rfl⟩, (hts _ q_101), (hts _ q_102)⟩ (preVP hP hK hN [9, 10, 11] rfl rfl rfl) rfl rfl hl.1 rfl (lv_room (Nat.le_of_ble_eq_true rfl)) d_Sol_meetForm_86 ⟨Nat.zero_le _, Nat.zero_le _⟩) (fun hz15 => ?_)
      refine lv_aload_n hx hb d_Sol_meetForm_89 rfl (lv_at hl 2 rfl) ?_
      refine va_get (D := D) (ci := 5) (v := .ref a_this_kinds) (C := R_Sol) (T := T_Sol) (N := 8) hx hb hts in_Sol hown hK hP 0 rfl rfl 0 (by decide) (hts _ q_93) (fun _ h9 => h9) rfl d_Sol_meetForm_90 ?_
      refine lv_iload_n hx hb d_Sol_meetForm_93 rfl (lv_at hl 1 rfl) ?_
      obtain ⟨r17, hc16, hf⟩ := gb hf
      refine kP (va_runVN (C := R_Kin) (As := [.int y2_4]) (rest := [.int r14, .ref a_this_groups]) ⟨hx, hb, hml, hown, hts⟩ (c_Kin_kindOf l D cI a_this_kinds a_this_kinds_owners a_this_kinds_names a_this_kinds_fields a_this_kinds_fields_lengths a_this_kinds_fields_cells v_this_kinds_size v_this_kinds_owners v_this_kinds_fields_size y2_4 hc16) ⟨va_cnB (host := "KindDesk") 1 hts (good_c q_33) rfl rfl rfl (hN _ (List.mem_of_getElem? (i := 27) rfl)) (hts _ q_29) hd_Kin_kindOf ⟨Nat.le_of_ble_eq_true rfl, Nat.le_of_ble_eq_true rfl⟩, (hts _ q_35), (hts _ q_36)⟩ (preVP hP hK hN [1, 2, 4] rfl rfl rfl) rfl rfl hl.1 rfl (lv_room (Nat.le_of_ble_eq_true rfl)) d_Sol_meetForm_94 ⟨Nat.zero_le _, Nat.zero_le _⟩) (fun hz18 => ?_)
      obtain ⟨⟨r20, u_21, u_22⟩, hc19, hf⟩ := gb hf
      dsimp only at hf
      refine kI [(a_this, .inr (5, [.ref a_this_kinds, .ref a_this_predicates, .ref a_this_demands, .ref a_this_groups, .ref a_this_meanings, .int (v_this_settled + 1), .int v_this_rounds, .int v_this_culprit])), (a_this_kinds, .inr (2, [.ref a_this_kinds_owners, .ref a_this_kinds_names, .ref a_this_kinds_fields, .int v_this_kinds_size])), (a_this_kinds_owners, .inl (cI, 100, .inl v_this_kinds_owners)), (a_this_kinds_names, .inl (cI, 100, .inl v_this_kinds_names)), (a_this_kinds_fields, .inr (1, [.ref a_this_kinds_fields_lengths, .ref a_this_kinds_fields_cells, .int v_this_kinds_fields_size])), (a_this_kinds_fields_lengths, .inl (cI, 100, .inl v_this_kinds_fields_lengths)), (a_this_kinds_fields_cells, .inl (cI, 600, .inl v_this_kinds_fields_cells)), (a_this_demands, .inr (3, [.ref a_this_demands_sorts, .ref a_this_demands_subjects, .ref a_this_demands_variables])), (a_this_demands_subjects, .inl (cI, 200, .inl v_this_demands_subjects)), (a_this_demands_variables, .inr (1, [.ref a_this_demands_variables_lengths, .ref a_this_demands_variables_cells, .int v_this_demands_variables_size])), (a_this_demands_variables_lengths, .inl (cI, 200, .inl v_this_demands_variables_lengths)), (a_this_demands_variables_cells, .inl (cI, 1200, .inl v_this_demands_variables_cells)), (a_this_groups, .inr (4, [.ref a_this_groups_groups, .ref a_this_groups_groupKinds, .int u_21])), (a_this_groups_groups, .inl (cI, 80, .inl v_this_groups_groups)), (a_this_groups_groupKinds, .inl (cI, 80, .inl u_22)), (a_this_meanings, .inl (cI, 200, .inl (upd v_this_meanings x1.toNatClampNeg y2_4)))] [12, 13, 14] [0, 1, 2, 3, 4, 5, 6, 7, 8, 9, 10, 11, 15] (va_runVN (C := R_Gro) (As := [.int r14, .int r17]) (rest := []) ⟨hx, hb, hml, hown, hts⟩ (c_Gro_give l D cI a_this_groups a_this_groups_groups a_this_groups_groupKinds v_this_groups_changes v_this_groups_groups v_this_groups_groupKinds r14 r17 hc19 _) ⟨va_cnB (host := "KindDesk") 2 hts (good_c q_103) rfl rfl rfl (hN _ (List.mem_of_getElem? (i := 22) rfl)) (hts _ q_85) hd_Gro_give ⟨Nat.le_of_ble_eq_true rfl, Nat.le_of_ble_eq_true rfl⟩, (hts _ q_104), (hts _ q_105)⟩ (preVM hP hK hN (hDL _ rfl) [12, 13, 14] (by decide +kernel) rfl rfl rfl) rfl rfl hl.1 rfl (lv_room (Nat.le_of_ble_eq_true rfl)) d_Sol_meetForm_97 ⟨Nat.zero_le _, Nat.zero_le _⟩) hP (hDL _ rfl) hS hA rfl rfl (wr := [(a_this, .inr (5, [.ref a_this_kinds, .ref a_this_predicates, .ref a_this_demands, .ref a_this_groups, .ref a_this_meanings, .int (v_this_settled + 1), .int v_this_rounds, .int v_this_culprit])), (a_this_kinds, .inr (2, [.ref a_this_kinds_owners, .ref a_this_kinds_names, .ref a_this_kinds_fields, .int v_this_kinds_size])), (a_this_kinds_owners, .inl (cI, 100, .inl v_this_kinds_owners)), (a_this_kinds_names, .inl (cI, 100, .inl v_this_kinds_names)), (a_this_kinds_fields, .inr (1, [.ref a_this_kinds_fields_lengths, .ref a_this_kinds_fields_cells, .int v_this_kinds_fields_size])), (a_this_kinds_fields_lengths, .inl (cI, 100, .inl v_this_kinds_fields_lengths)), (a_this_kinds_fields_cells, .inl (cI, 600, .inl v_this_kinds_fields_cells)), (a_this_demands, .inr (3, [.ref a_this_demands_sorts, .ref a_this_demands_subjects, .ref a_this_demands_variables])), (a_this_demands_subjects, .inl (cI, 200, .inl v_this_demands_subjects)), (a_this_demands_variables, .inr (1, [.ref a_this_demands_variables_lengths, .ref a_this_demands_variables_cells, .int v_this_demands_variables_size])), (a_this_demands_variables_lengths, .inl (cI, 200, .inl v_this_demands_variables_lengths)), (a_this_demands_variables_cells, .inl (cI, 1200, .inl v_this_demands_variables_cells)), (a_this_meanings, .inl (cI, 200, .inl (upd v_this_meanings x1.toNatClampNeg y2_4)))]) rfl rfl (n := 16) rfl (by decide +kernel) (by decide +kernel) (fun H locs hz23 hP hS => ?_)
      refine lv_if_eq (tgt := 124) hx hb d_Sol_meetForm_100 (by decide) (fun c24 => ?_) (fun c24 => ?_)
      · replace hf := gp c24 hf
        refine lv_iconst (v := 0) hx hb d_Sol_meetForm_124 (by decide) ?_
        cases hf
        exact hret _ _ _ _ hS hP rfl d_Sol_meetForm_125
      · replace hf := gn c24 hf
        refine lv_aload_n hx hb d_Sol_meetForm_103 rfl (lv_at hl 2 rfl) ?_
        refine lv_iload_n hx hb d_Sol_meetForm_104 rfl (lv_at hl 3 rfl) ?_
        refine lv_iconst (v := 1) hx hb d_Sol_meetForm_105 (by decide) ?_
        refine lv_aload_n hx hb d_Sol_meetForm_106 rfl (lv_at hl 2 rfl) ?_
        refine va_get (D := D) (ci := 5) (v := .ref a_this_kinds) (C := R_Sol) (T := T_Sol) (N := 8) hx hb hts in_Sol hown hK hP 0 rfl rfl 0 (by decide) (hts _ q_93) (fun _ h9 => h9) rfl d_Sol_meetForm_107 ?_
        refine va_getN (host := "KindDesk") (D := D) (ci := 2) (v := .ref a_this_kinds_fields) (C := R_Kin) (T := T_Kin) (N := 4) hx hb hts in_Kin hown hK hP 1 rfl rfl 2 (by decide) (va_Nw.use rfl (hN _ (List.mem_of_getElem? (i := 24) rfl))) (fun _ h9 => h9) rfl d_Sol_meetForm_110 ?_
        refine lv_iload_n hx hb d_Sol_meetForm_113 rfl (lv_at hl 1 rfl) ?_
        obtain ⟨⟨r26, u_27, u_28⟩, hc25, hf⟩ := gb hf
        dsimp only at hf
        refine kI [(a_this, .inr (5, [.ref a_this_kinds, .ref a_this_predicates, .ref a_this_demands, .ref a_this_groups, .ref a_this_meanings, .int (v_this_settled + 1), .int v_this_rounds, .int v_this_culprit])), (a_this_kinds, .inr (2, [.ref a_this_kinds_owners, .ref a_this_kinds_names, .ref a_this_kinds_fields, .int v_this_kinds_size])), (a_this_kinds_owners, .inl (cI, 100, .inl v_this_kinds_owners)), (a_this_kinds_names, .inl (cI, 100, .inl v_this_kinds_names)), (a_this_kinds_fields, .inr (1, [.ref a_this_kinds_fields_lengths, .ref a_this_kinds_fields_cells, .int v_this_kinds_fields_size])), (a_this_kinds_fields_lengths, .inl (cI, 100, .inl v_this_kinds_fields_lengths)), (a_this_kinds_fields_cells, .inl (cI, 600, .inl v_this_kinds_fields_cells)), (a_this_demands, .inr (3, [.ref a_this_demands_sorts, .ref a_this_demands_subjects, .ref a_this_demands_variables])), (a_this_demands_subjects, .inl (cI, 200, .inl v_this_demands_subjects)), (a_this_demands_variables, .inr (1, [.ref a_this_demands_variables_lengths, .ref a_this_demands_variables_cells, .int v_this_demands_variables_size])), (a_this_demands_variables_lengths, .inl (cI, 200, .inl v_this_demands_variables_lengths)), (a_this_demands_variables_cells, .inl (cI, 1200, .inl v_this_demands_variables_cells)), (a_this_groups, .inr (4, [.ref a_this_groups_groups, .ref a_this_groups_groupKinds, .int u_27])), (a_this_groups_groups, .inl (cI, 80, .inl v_this_groups_groups)), (a_this_groups_groupKinds, .inl (cI, 80, .inl u_28)), (a_this_meanings, .inl (cI, 200, .inl (upd v_this_meanings x1.toNatClampNeg y2_4)))] [0, 7, 9, 10, 11, 12, 13, 14, 4, 5, 6] [1, 2, 3, 8, 15] (va_runV (C := R_Sol) (As := [.int x1, .int 1, .ref a_this_kinds_fields, .int y2_4]) (rest := []) ⟨hx, hb, hml, hown, hts⟩ (c_Sol_giveAll l D cI a_this a_this_kinds a_this_predicates a_this_demands a_this_groups a_this_meanings a_this_demands_sorts a_this_demands_subjects a_this_demands_variables a_this_demands_variables_lengths a_this_demands_variables_cells a_this_groups_groups a_this_groups_groupKinds a_this_kinds_fields a_this_kinds_fields_lengths a_this_kinds_fields_cells 100 600 (v_this_settled + 1) v_this_rounds v_this_culprit v_this_demands_variables_size v_this_demands_variables_lengths v_this_demands_variables_cells u_21 v_this_groups_groups u_22 v_this_kinds_fields_size v_this_kinds_fields_lengths v_this_kinds_fields_cells x1 1 y2_4 hc25 _) ⟨callB_of 4 hts (good_c q_118) rfl rfl rfl (hts _ q_114) (hts _ q_119) hd_Sol_giveAll ⟨Nat.le_of_ble_eq_true rfl, Nat.le_of_ble_eq_true rfl⟩, (hts _ q_120), (hts _ q_121)⟩ (preVM hP hK hN (hDL _ rfl) [0, 7, 9, 10, 11, 12, 13, 14, 4, 5, 6] (by decide +kernel) rfl rfl rfl) rfl rfl hl.1 rfl (lv_room (Nat.le_of_ble_eq_true rfl)) d_Sol_meetForm_114 ⟨Nat.zero_le _, Nat.zero_le _⟩) hP (hDL _ rfl) hS hA rfl rfl (wr := [(a_this_kinds, .inr (2, [.ref a_this_kinds_owners, .ref a_this_kinds_names, .ref a_this_kinds_fields, .int v_this_kinds_size])), (a_this_kinds_owners, .inl (cI, 100, .inl v_this_kinds_owners)), (a_this_kinds_names, .inl (cI, 100, .inl v_this_kinds_names)), (a_this_demands_subjects, .inl (cI, 200, .inl v_this_demands_subjects)), (a_this_meanings, .inl (cI, 200, .inl (upd v_this_meanings x1.toNatClampNeg y2_4)))]) rfl rfl (n := 16) rfl (by decide +kernel) (by decide +kernel) (fun H locs hz29 hP hS => ?_)
        refine lv_if_eq (tgt := 124) hx hb d_Sol_meetForm_117 (by decide) (fun c30 => ?_) (fun c30 => ?_)
        · replace hf := gp c30 hf
          refine lv_iconst (v := 0) hx hb d_Sol_meetForm_124 (by decide) ?_
          cases hf
          exact hret _ _ _ _ hS hP rfl d_Sol_meetForm_125
        · replace hf := gn c30 hf
          refine lv_iconst (v := 1) hx hb d_Sol_meetForm_120 (by decide) ?_
          refine lv_goto (tgt := 125) hx hb d_Sol_meetForm_121 (by decide) ?_
          cases hf
          exact hret _ _ _ _ hS hP rfl d_Sol_meetForm_125
    · replace hf := gp c11 hf
      refine lv_iconst (v := 0) hx hb d_Sol_meetForm_54 (by decide) ?_
      cases hf
      exact hret _ _ _ _ hS hP rfl d_Sol_meetForm_55
def f_Sol_meet (v_this_settled : Int32) (v_this_kinds_owners : Nat → Int32) (v_this_kinds_names : Nat → Int32) (v_this_kinds_fields_size : Int32) (v_this_kinds_fields_lengths : Nat → Int32) (v_this_kinds_fields_cells : Nat → Int32) (v_this_predicates_size : Int32) (v_this_predicates_lengths : Nat → Int32) (v_this_predicates_cells : Nat → Int32) (v_this_demands_sorts : Nat → Int32) (v_this_demands_subjects : Nat → Int32) (v_this_demands_variables_size : Int32) (v_this_demands_variables_lengths : Nat → Int32) (v_this_demands_variables_cells : Nat → Int32) (v_this_groups_changes : Int32) (v_this_groups_groups : Nat → Int32) (v_this_groups_groupKinds : Nat → Int32) (v_this_meanings : Nat → Int32) (x1 : Int32) : Option (Int32 × Int32 × Int32 × (Nat → Int32) × (Nat → Int32) × (Nat → Int32)) :=
  (f_Dem_sortOf v_this_demands_sorts x1).bind fun r2 =>
  if r2 = 0 then
    (f_Tab_at 200 1200 v_this_demands_variables_size v_this_demands_variables_lengths v_this_demands_variables_cells x1 0).bind fun r5 =>
    (f_Gro_give v_this_groups_changes v_this_groups_groups v_this_groups_groupKinds r5 0).bind fun (r8, u_9, u_10) =>
    some (r8, v_this_settled, u_9, v_this_groups_groups, u_10, v_this_meanings)
  else
    if r2 = 1 then
      (f_Tab_at 200 1200 v_this_demands_variables_size v_this_demands_variables_lengths v_this_demands_variables_cells x1 0).bind fun r14 =>
      (f_Tab_at 200 1200 v_this_demands_variables_size v_this_demands_variables_lengths v_this_demands_variables_cells x1 1).bind fun r17 =>
      (f_Gro_join v_this_groups_changes v_this_groups_groups v_this_groups_groupKinds r14 r17).bind fun (r20, u_21, u_22, u_23) =>
      some (r20, v_this_settled, u_21, u_22, u_23, v_this_meanings)
    else
      if r2 = 2 then
        (f_Dem_subjectOf v_this_demands_subjects x1).bind fun r27 =>
        (f_Sol_giveAll 60 360 v_this_demands_variables_size v_this_demands_variables_lengths v_this_demands_variables_cells v_this_groups_changes v_this_groups_groups v_this_groups_groupKinds v_this_predicates_size v_this_predicates_lengths v_this_predicates_cells x1 0 r27).bind fun (r30, u_31, u_32) =>
        some (r30, v_this_settled, u_31, v_this_groups_groups, u_32, v_this_meanings)
      else
        if r2 = 3 then
          (f_Sol_meaningOf v_this_meanings x1).bind fun r36 =>
          if r36 = (-1) then
            (f_Sol_meetForm v_this_settled v_this_kinds_owners v_this_kinds_names v_this_kinds_fields_size v_this_kinds_fields_lengths v_this_kinds_fields_cells v_this_demands_subjects v_this_demands_variables_size v_this_demands_variables_lengths v_this_demands_variables_cells v_this_groups_changes v_this_groups_groups v_this_groups_groupKinds v_this_meanings x1).bind fun (r40, u_41, u_42, u_43, u_44) =>
            if r40 = 0 then
              some (0, u_41, u_42, v_this_groups_groups, u_43, u_44)
            else
              some (1, u_41, u_42, v_this_groups_groups, u_43, u_44)
          else
            some (1, v_this_settled, v_this_groups_changes, v_this_groups_groups, v_this_groups_groupKinds, v_this_meanings)
        else
          some (1, v_this_settled, v_this_groups_changes, v_this_groups_groups, v_this_groups_groupKinds, v_this_meanings)
abbrev rm_Sol_meet : Room := { frames := 4, cells := 0, slots := 0, locals := 91 }
set_option maxHeartbeats 4000000 in
set_option maxRecDepth 100000 in
theorem c_Sol_meet (l : Launch) (D : va_G) (cI : ClassId) (a_this a_this_kinds a_this_predicates a_this_demands a_this_groups a_this_meanings a_this_kinds_owners a_this_kinds_names a_this_kinds_fields a_this_kinds_fields_lengths a_this_kinds_fields_cells a_this_predicates_lengths a_this_predicates_cells a_this_demands_sorts a_this_demands_subjects a_this_demands_variables a_this_demands_variables_lengths a_this_demands_variables_cells a_this_groups_groups a_this_groups_groupKinds : Nat) (v_this_settled : Int32) (v_this_rounds : Int32) (v_this_culprit : Int32) (v_this_kinds_size : Int32) (v_this_kinds_owners : Nat → Int32) (v_this_kinds_names : Nat → Int32) (v_this_kinds_fields_size : Int32) (v_this_kinds_fields_lengths : Nat → Int32) (v_this_kinds_fields_cells : Nat → Int32) (v_this_predicates_size : Int32) (v_this_predicates_lengths : Nat → Int32) (v_this_predicates_cells : Nat → Int32) (v_this_demands_sorts : Nat → Int32) (v_this_demands_subjects : Nat → Int32) (v_this_demands_variables_size : Int32) (v_this_demands_variables_lengths : Nat → Int32) (v_this_demands_variables_cells : Nat → Int32) (v_this_groups_changes : Int32) (v_this_groups_groups : Nat → Int32) (v_this_groups_groupKinds : Nat → Int32) (v_this_meanings : Nat → Int32) (x1 : Int32) {r_ : Int32} {v_this_settled' : Int32} {v_this_groups_changes' : Int32} {v_this_groups_groups' : Nat → Int32} {v_this_groups_groupKinds' : Nat → Int32} {v_this_meanings' : Nat → Int32} (hf : f_Sol_meet v_this_settled v_this_kinds_owners v_this_kinds_names v_this_kinds_fields_size v_this_kinds_fields_lengths v_this_kinds_fields_cells v_this_predicates_size v_this_predicates_lengths v_this_predicates_cells v_this_demands_sorts v_this_demands_subjects v_this_demands_variables_size v_this_demands_variables_lengths v_this_demands_variables_cells v_this_groups_changes v_this_groups_groups v_this_groups_groupKinds v_this_meanings x1 = some (r_, v_this_settled', v_this_groups_changes', v_this_groups_groups', v_this_groups_groupKinds', v_this_meanings')) : CtI l y_Sol_meet ws_Sol_meet rm_Sol_meet D cI [(a_this, .inr (5, [.ref a_this_kinds, .ref a_this_predicates, .ref a_this_demands, .ref a_this_groups, .ref a_this_meanings, .int v_this_settled, .int v_this_rounds, .int v_this_culprit])), (a_this_kinds, .inr (2, [.ref a_this_kinds_owners, .ref a_this_kinds_names, .ref a_this_kinds_fields, .int v_this_kinds_size])), (a_this_kinds_owners, .inl (cI, 100, .inl v_this_kinds_owners)), (a_this_kinds_names, .inl (cI, 100, .inl v_this_kinds_names)), (a_this_kinds_fields, .inr (1, [.ref a_this_kinds_fields_lengths, .ref a_this_kinds_fields_cells, .int v_this_kinds_fields_size])), (a_this_kinds_fields_lengths, .inl (cI, 100, .inl v_this_kinds_fields_lengths)), (a_this_kinds_fields_cells, .inl (cI, 600, .inl v_this_kinds_fields_cells)), (a_this_predicates, .inr (1, [.ref a_this_predicates_lengths, .ref a_this_predicates_cells, .int v_this_predicates_size])), (a_this_predicates_lengths, .inl (cI, 60, .inl v_this_predicates_lengths)), (a_this_predicates_cells, .inl (cI, 360, .inl v_this_predicates_cells)), (a_this_demands, .inr (3, [.ref a_this_demands_sorts, .ref a_this_demands_subjects, .ref a_this_demands_variables])), (a_this_demands_sorts, .inl (cI, 200, .inl v_this_demands_sorts)), (a_this_demands_subjects, .inl (cI, 200, .inl v_this_demands_subjects)), (a_this_demands_variables, .inr (1, [.ref a_this_demands_variables_lengths, .ref a_this_demands_variables_cells, .int v_this_demands_variables_size])), (a_this_demands_variables_lengths, .inl (cI, 200, .inl v_this_demands_variables_lengths)), (a_this_demands_variables_cells, .inl (cI, 1200, .inl v_this_demands_variables_cells)), (a_this_groups, .inr (4, [.ref a_this_groups_groups, .ref a_this_groups_groupKinds, .int v_this_groups_changes])), (a_this_groups_groups, .inl (cI, 80, .inl v_this_groups_groups)), (a_this_groups_groupKinds, .inl (cI, 80, .inl v_this_groups_groupKinds)), (a_this_meanings, .inl (cI, 200, .inl v_this_meanings))] [(a_this, .inr (5, [.ref a_this_kinds, .ref a_this_predicates, .ref a_this_demands, .ref a_this_groups, .ref a_this_meanings, .int v_this_settled', .int v_this_rounds, .int v_this_culprit])), (a_this_kinds, .inr (2, [.ref a_this_kinds_owners, .ref a_this_kinds_names, .ref a_this_kinds_fields, .int v_this_kinds_size])), (a_this_kinds_owners, .inl (cI, 100, .inl v_this_kinds_owners)), (a_this_kinds_names, .inl (cI, 100, .inl v_this_kinds_names)), (a_this_kinds_fields, .inr (1, [.ref a_this_kinds_fields_lengths, .ref a_this_kinds_fields_cells, .int v_this_kinds_fields_size])), (a_this_kinds_fields_lengths, .inl (cI, 100, .inl v_this_kinds_fields_lengths)), (a_this_kinds_fields_cells, .inl (cI, 600, .inl v_this_kinds_fields_cells)), (a_this_predicates, .inr (1, [.ref a_this_predicates_lengths, .ref a_this_predicates_cells, .int v_this_predicates_size])), (a_this_predicates_lengths, .inl (cI, 60, .inl v_this_predicates_lengths)), (a_this_predicates_cells, .inl (cI, 360, .inl v_this_predicates_cells)), (a_this_demands, .inr (3, [.ref a_this_demands_sorts, .ref a_this_demands_subjects, .ref a_this_demands_variables])), (a_this_demands_sorts, .inl (cI, 200, .inl v_this_demands_sorts)), (a_this_demands_subjects, .inl (cI, 200, .inl v_this_demands_subjects)), (a_this_demands_variables, .inr (1, [.ref a_this_demands_variables_lengths, .ref a_this_demands_variables_cells, .int v_this_demands_variables_size])), (a_this_demands_variables_lengths, .inl (cI, 200, .inl v_this_demands_variables_lengths)), (a_this_demands_variables_cells, .inl (cI, 1200, .inl v_this_demands_variables_cells)), (a_this_groups, .inr (4, [.ref a_this_groups_groups, .ref a_this_groups_groupKinds, .int v_this_groups_changes'])), (a_this_groups_groups, .inl (cI, 80, .inl v_this_groups_groups')), (a_this_groups_groupKinds, .inl (cI, 80, .inl v_this_groups_groupKinds')), (a_this_meanings, .inl (cI, 200, .inl v_this_meanings'))] [.ref a_this, .int x1] .boolean r_ := by
  refine CtI.ofW (cc := b_Sol_meet) (maxL := 3) (ty := .boolean) (by decide) rfl (Nat.le_of_ble_eq_true rfl) ?_
  intro p e s m args below meth c Q A hx hb hml hown hts hP hK hN hA hD hret ls hl
  have hS : va_S A s.heap s.heap [] := va_S.rf
  have hDL : DL A [a_this, a_this_kinds, a_this_kinds_owners, a_this_kinds_names, a_this_kinds_fields, a_this_kinds_fields_lengths, a_this_kinds_fields_cells, a_this_predicates, a_this_predicates_lengths, a_this_predicates_cells, a_this_demands, a_this_demands_sorts, a_this_demands_subjects, a_this_demands_variables, a_this_demands_variables_lengths, a_this_demands_variables_cells, a_this_groups, a_this_groups_groups, a_this_groups_groupKinds, a_this_meanings] := DL.of hD rfl
  have hl : lv_has ls 3 [(0, .ref a_this), (1, .int x1)] := hl
  unfold f_Sol_meet at hf
  refine lv_aload_n hx hb d_Sol_meet_0 rfl (lv_at hl 0 rfl) ?_
  refine va_get (D := D) (ci := 5) (v := .ref a_this_demands) (C := R_Sol) (T := T_Sol) (N := 8) hx hb hts in_Sol hown hK hP 0 rfl rfl 2 (by decide) (hts _ q_95) (fun _ h9 => h9) rfl d_Sol_meet_1 ?_
  refine va_getN (host := "KindDesk") (D := D) (ci := 3) (v := .ref a_this_demands_variables) (C := R_Dem) (T := T_Dem) (N := 3) hx hb hts in_Dem hown hK hP 10 rfl rfl 2 (by decide) (va_Nw.use rfl (hN _ (List.mem_of_getElem? (i := 20) rfl))) (fun _ h9 => h9) rfl d_Sol_meet_4 ?_
  refine lv_astore_n (lv' := [(2, .ref a_this_demands_variables), (0, .ref a_this), (1, .int x1)]) hx hb d_Sol_meet_7 rfl hl (by decide) rfl (fun ls hl => ?_)
  refine lv_aload_n hx hb d_Sol_meet_8 rfl (lv_at hl 1 rfl) ?_
  refine va_get (D := D) (ci := 5) (v := .ref a_this_demands) (C := R_Sol) (T := T_Sol) (N := 8) hx hb hts in_Sol hown hK hP 0 rfl rfl 2 (by decide) (hts _ q_95) (fun _ h9 => h9) rfl d_Sol_meet_9 ?_
  refine lv_iload_n hx hb d_Sol_meet_12 rfl (lv_at hl 2 rfl) ?_
  obtain ⟨r2, hc1, hf⟩ := gb hf
  refine kP (va_runVN (C := R_Dem) (As := [.int x1]) (rest := []) ⟨hx, hb, hml, hown, hts⟩ (c_Dem_sortOf l D cI a_this_demands a_this_demands_sorts a_this_demands_subjects a_this_demands_variables v_this_demands_sorts x1 hc1) ⟨va_cnB (host := "KindDesk") 1 hts (good_c q_122) rfl rfl rfl (hN _ (List.mem_of_getElem? (i := 30) rfl)) (hts _ q_107) hd_Dem_sortOf ⟨Nat.le_of_ble_eq_true rfl, Nat.le_of_ble_eq_true rfl⟩, (hts _ q_123), (hts _ q_124)⟩ (preVP hP hK hN [10, 11] rfl rfl rfl) rfl rfl hl.1 rfl (lv_room (Nat.le_of_ble_eq_true rfl)) d_Sol_meet_13 ⟨Nat.zero_le _, Nat.zero_le _⟩) (fun hz3 => ?_)
  by_cases c12 : r2 = 0
  · replace hf := gp c12 hf
    refine lv_tableIn (tgt := 48) hx hb d_Sol_meet_16 (by rw [c12]; decide) (by rw [c12]; decide) (by rw [c12]; rfl) (by decide) ?_
    refine lv_aload_n hx hb d_Sol_meet_48 rfl (lv_at hl 1 rfl) ?_
    refine va_get (D := D) (ci := 5) (v := .ref a_this_groups) (C := R_Sol) (T := T_Sol) (N := 8) hx hb hts in_Sol hown hK hP 0 rfl rfl 3 (by decide) (hts _ q_88) (fun _ h9 => h9) rfl d_Sol_meet_49 ?_
    refine lv_aload_n hx hb d_Sol_meet_52 rfl (lv_at hl 0 rfl) ?_
    refine lv_iload_n hx hb d_Sol_meet_53 rfl (lv_at hl 2 rfl) ?_
    refine lv_iconst (v := 0) hx hb d_Sol_meet_54 (by decide) ?_
    obtain ⟨r5, hc4, hf⟩ := gb hf
    refine kP (va_runVN (C := R_Tab) (As := [.int x1, .int 0]) (rest := [.ref a_this_groups]) ⟨hx, hb, hml, hown, hts⟩ (c_Tab_at l D cI a_this_demands_variables a_this_demands_variables_lengths a_this_demands_variables_cells 200 1200 v_this_demands_variables_size v_this_demands_variables_lengths v_this_demands_variables_cells x1 0 hc4) ⟨va_cnB (host := "KindDesk") 2 hts (good_c q_100) rfl rfl rfl (hN _ (List.mem_of_getElem? (i := 21) rfl)) (hts _ q_15) hd_Tab_at ⟨Nat.le_of_ble_eq_true rfl, Nat.le_of_ble_eq_true rfl⟩, (hts _ q_101), (hts _ q_102)⟩ (preVP hP hK hN [13, 14, 15] rfl rfl rfl) rfl rfl hl.1 rfl (lv_room (Nat.le_of_ble_eq_true rfl)) d_Sol_meet_55 ⟨Nat.zero_le _, Nat.zero_le _⟩) (fun hz6 => ?_)
    refine lv_iconst (v := 0) hx hb d_Sol_meet_58 (by decide) ?_
    obtain ⟨⟨r8, u_9, u_10⟩, hc7, hf⟩ := gb hf
    dsimp only at hf
    refine kI [(a_this, .inr (5, [.ref a_this_kinds, .ref a_this_predicates, .ref a_this_demands, .ref a_this_groups, .ref a_this_meanings, .int v_this_settled, .int v_this_rounds, .int v_this_culprit])), (a_this_kinds, .inr (2, [.ref a_this_kinds_owners, .ref a_this_kinds_names, .ref a_this_kinds_fields, .int v_this_kinds_size])), (a_this_kinds_owners, .inl (cI, 100, .inl v_this_kinds_owners)), (a_this_kinds_names, .inl (cI, 100, .inl v_this_kinds_names)), (a_this_kinds_fields, .inr (1, [.ref a_this_kinds_fields_lengths, .ref a_this_kinds_fields_cells, .int v_this_kinds_fields_size])), (a_this_kinds_fields_lengths, .inl (cI, 100, .inl v_this_kinds_fields_lengths)), (a_this_kinds_fields_cells, .inl (cI, 600, .inl v_this_kinds_fields_cells)), (a_this_predicates, .inr (1, [.ref a_this_predicates_lengths, .ref a_this_predicates_cells, .int v_this_predicates_size])), (a_this_predicates_lengths, .inl (cI, 60, .inl v_this_predicates_lengths)), (a_this_predicates_cells, .inl (cI, 360, .inl v_this_predicates_cells)), (a_this_demands, .inr (3, [.ref a_this_demands_sorts, .ref a_this_demands_subjects, .ref a_this_demands_variables])), (a_this_demands_sorts, .inl (cI, 200, .inl v_this_demands_sorts)), (a_this_demands_subjects, .inl (cI, 200, .inl v_this_demands_subjects)), (a_this_demands_variables, .inr (1, [.ref a_this_demands_variables_lengths, .ref a_this_demands_variables_cells, .int v_this_demands_variables_size])), (a_this_demands_variables_lengths, .inl (cI, 200, .inl v_this_demands_variables_lengths)), (a_this_demands_variables_cells, .inl (cI, 1200, .inl v_this_demands_variables_cells)), (a_this_groups, .inr (4, [.ref a_this_groups_groups, .ref a_this_groups_groupKinds, .int u_9])), (a_this_groups_groups, .inl (cI, 80, .inl v_this_groups_groups)), (a_this_groups_groupKinds, .inl (cI, 80, .inl u_10)), (a_this_meanings, .inl (cI, 200, .inl v_this_meanings))] [16, 17, 18] [0, 1, 2, 3, 4, 5, 6, 7, 8, 9, 10, 11, 12, 13, 14, 15, 19] (va_runVN (C := R_Gro) (As := [.int r5, .int 0]) (rest := []) ⟨hx, hb, hml, hown, hts⟩ (c_Gro_give l D cI a_this_groups a_this_groups_groups a_this_groups_groupKinds v_this_groups_changes v_this_groups_groups v_this_groups_groupKinds r5 0 hc7 _) ⟨va_cnB (host := "KindDesk") 2 hts (good_c q_103) rfl rfl rfl (hN _ (List.mem_of_getElem? (i := 22) rfl)) (hts _ q_85) hd_Gro_give ⟨Nat.le_of_ble_eq_true rfl, Nat.le_of_ble_eq_true rfl⟩, (hts _ q_104), (hts _ q_105)⟩ (preVM hP hK hN (hDL _ rfl) [16, 17, 18] (by decide +kernel) rfl rfl rfl) rfl rfl hl.1 rfl (lv_room (Nat.le_of_ble_eq_true rfl)) d_Sol_meet_59 ⟨Nat.zero_le _, Nat.zero_le _⟩) hP (hDL _ rfl) hS hA rfl rfl (wr := [(a_this, .inr (5, [.ref a_this_kinds, .ref a_this_predicates, .ref a_this_demands, .ref a_this_groups, .ref a_this_meanings, .int v_this_settled, .int v_this_rounds, .int v_this_culprit])), (a_this_kinds, .inr (2, [.ref a_this_kinds_owners, .ref a_this_kinds_names, .ref a_this_kinds_fields, .int v_this_kinds_size])), (a_this_kinds_owners, .inl (cI, 100, .inl v_this_kinds_owners)), (a_this_kinds_names, .inl (cI, 100, .inl v_this_kinds_names)), (a_this_kinds_fields, .inr (1, [.ref a_this_kinds_fields_lengths, .ref a_this_kinds_fields_cells, .int v_this_kinds_fields_size])), (a_this_kinds_fields_lengths, .inl (cI, 100, .inl v_this_kinds_fields_lengths)), (a_this_kinds_fields_cells, .inl (cI, 600, .inl v_this_kinds_fields_cells)), (a_this_predicates, .inr (1, [.ref a_this_predicates_lengths, .ref a_this_predicates_cells, .int v_this_predicates_size])), (a_this_predicates_lengths, .inl (cI, 60, .inl v_this_predicates_lengths)), (a_this_predicates_cells, .inl (cI, 360, .inl v_this_predicates_cells)), (a_this_demands, .inr (3, [.ref a_this_demands_sorts, .ref a_this_demands_subjects, .ref a_this_demands_variables])), (a_this_demands_sorts, .inl (cI, 200, .inl v_this_demands_sorts)), (a_this_demands_subjects, .inl (cI, 200, .inl v_this_demands_subjects)), (a_this_demands_variables, .inr (1, [.ref a_this_demands_variables_lengths, .ref a_this_demands_variables_cells, .int v_this_demands_variables_size])), (a_this_demands_variables_lengths, .inl (cI, 200, .inl v_this_demands_variables_lengths)), (a_this_demands_variables_cells, .inl (cI, 1200, .inl v_this_demands_variables_cells)), (a_this_meanings, .inl (cI, 200, .inl v_this_meanings))]) rfl rfl (n := 20) rfl (by decide +kernel) (by decide +kernel) (fun H locs hz11 hP hS => ?_)
    cases hf
    exact hret _ _ _ _ hS hP hz11 d_Sol_meet_62
  replace hf := gn c12 hf
  by_cases c25 : r2 = 1
  · replace hf := gp c25 hf
    refine lv_tableIn (tgt := 63) hx hb d_Sol_meet_16 (by rw [c25]; decide) (by rw [c25]; decide) (by rw [c25]; rfl) (by decide) ?_
    refine lv_aload_n hx hb d_Sol_meet_63 rfl (lv_at hl 1 rfl) ?_
    refine va_get (D := D) (ci := 5) (v := .ref a_this_groups) (C := R_Sol) (T := T_Sol) (N := 8) hx hb hts in_Sol hown hK hP 0 rfl rfl 3 (by decide) (hts _ q_88) (fun _ h9 => h9) rfl d_Sol_meet_64 ?_
    refine lv_aload_n hx hb d_Sol_meet_67 rfl (lv_at hl 0 rfl) ?_
    refine lv_iload_n hx hb d_Sol_meet_68 rfl (lv_at hl 2 rfl) ?_
    refine lv_iconst (v := 0) hx hb d_Sol_meet_69 (by decide) ?_
    obtain ⟨r14, hc13, hf⟩ := gb hf
    refine kP (va_runVN (C := R_Tab) (As := [.int x1, .int 0]) (rest := [.ref a_this_groups]) ⟨hx, hb, hml, hown, hts⟩ (c_Tab_at l D cI a_this_demands_variables a_this_demands_variables_lengths a_this_demands_variables_cells 200 1200 v_this_demands_variables_size v_this_demands_variables_lengths v_this_demands_variables_cells x1 0 hc13) ⟨va_cnB (host := "KindDesk") 2 hts (good_c q_100) rfl rfl rfl (hN _ (List.mem_of_getElem? (i := 21) rfl)) (hts _ q_15) hd_Tab_at ⟨Nat.le_of_ble_eq_true rfl, Nat.le_of_ble_eq_true rfl⟩, (hts _ q_101), (hts _ q_102)⟩ (preVP hP hK hN [13, 14, 15] rfl rfl rfl) rfl rfl hl.1 rfl (lv_room (Nat.le_of_ble_eq_true rfl)) d_Sol_meet_70 ⟨Nat.zero_le _, Nat.zero_le _⟩) (fun hz15 => ?_)
    refine lv_aload_n hx hb d_Sol_meet_73 rfl (lv_at hl 0 rfl) ?_
    refine lv_iload_n hx hb d_Sol_meet_74 rfl (lv_at hl 2 rfl) ?_
    refine lv_iconst (v := 1) hx hb d_Sol_meet_75 (by decide) ?_
    obtain ⟨r17, hc16, hf⟩ := gb hf
    refine kP (va_runVN (C := R_Tab) (As := [.int x1, .int 1]) (rest := [.int r14, .ref a_this_groups]) ⟨hx, hb, hml, hown, hts⟩ (c_Tab_at l D cI a_this_demands_variables a_this_demands_variables_lengths a_this_demands_variables_cells 200 1200 v_this_demands_variables_size v_this_demands_variables_lengths v_this_demands_variables_cells x1 1 hc16) ⟨va_cnB (host := "KindDesk") 2 hts (good_c q_100) rfl rfl rfl (hN _ (List.mem_of_getElem? (i := 21) rfl)) (hts _ q_15) hd_Tab_at ⟨Nat.le_of_ble_eq_true rfl, Nat.le_of_ble_eq_true rfl⟩, (hts _ q_101), (hts _ q_102)⟩ (preVP hP hK hN [13, 14, 15] rfl rfl rfl) rfl rfl hl.1 rfl (lv_room (Nat.le_of_ble_eq_true rfl)) d_Sol_meet_76 ⟨Nat.zero_le _, Nat.zero_le _⟩) (fun hz18 => ?_)
    obtain ⟨⟨r20, u_21, u_22, u_23⟩, hc19, hf⟩ := gb hf
    dsimp only at hf
    refine kI [(a_this, .inr (5, [.ref a_this_kinds, .ref a_this_predicates, .ref a_this_demands, .ref a_this_groups, .ref a_this_meanings, .int v_this_settled, .int v_this_rounds, .int v_this_culprit])), (a_this_kinds, .inr (2, [.ref a_this_kinds_owners, .ref a_this_kinds_names, .ref a_this_kinds_fields, .int v_this_kinds_size])), (a_this_kinds_owners, .inl (cI, 100, .inl v_this_kinds_owners)), (a_this_kinds_names, .inl (cI, 100, .inl v_this_kinds_names)), (a_this_kinds_fields, .inr (1, [.ref a_this_kinds_fields_lengths, .ref a_this_kinds_fields_cells, .int v_this_kinds_fields_size])), (a_this_kinds_fields_lengths, .inl (cI, 100, .inl v_this_kinds_fields_lengths)), (a_this_kinds_fields_cells, .inl (cI, 600, .inl v_this_kinds_fields_cells)), (a_this_predicates, .inr (1, [.ref a_this_predicates_lengths, .ref a_this_predicates_cells, .int v_this_predicates_size])), (a_this_predicates_lengths, .inl (cI, 60, .inl v_this_predicates_lengths)), (a_this_predicates_cells, .inl (cI, 360, .inl v_this_predicates_cells)), (a_this_demands, .inr (3, [.ref a_this_demands_sorts, .ref a_this_demands_subjects, .ref a_this_demands_variables])), (a_this_demands_sorts, .inl (cI, 200, .inl v_this_demands_sorts)), (a_this_demands_subjects, .inl (cI, 200, .inl v_this_demands_subjects)), (a_this_demands_variables, .inr (1, [.ref a_this_demands_variables_lengths, .ref a_this_demands_variables_cells, .int v_this_demands_variables_size])), (a_this_demands_variables_lengths, .inl (cI, 200, .inl v_this_demands_variables_lengths)), (a_this_demands_variables_cells, .inl (cI, 1200, .inl v_this_demands_variables_cells)), (a_this_groups, .inr (4, [.ref a_this_groups_groups, .ref a_this_groups_groupKinds, .int u_21])), (a_this_groups_groups, .inl (cI, 80, .inl u_22)), (a_this_groups_groupKinds, .inl (cI, 80, .inl u_23)), (a_this_meanings, .inl (cI, 200, .inl v_this_meanings))] [16, 17, 18] [0, 1, 2, 3, 4, 5, 6, 7, 8, 9, 10, 11, 12, 13, 14, 15, 19] (va_runVN (C := R_Gro) (As := [.int r14, .int r17]) (rest := []) ⟨hx, hb, hml, hown, hts⟩ (c_Gro_join l D cI a_this_groups a_this_groups_groups a_this_groups_groupKinds v_this_groups_changes v_this_groups_groups v_this_groups_groupKinds r14 r17 hc19 _) ⟨va_cnB (host := "KindDesk") 2 hts (good_c q_125) rfl rfl rfl (hN _ (List.mem_of_getElem? (i := 31) rfl)) (hts _ q_85) hd_Gro_join ⟨Nat.le_of_ble_eq_true rfl, Nat.le_of_ble_eq_true rfl⟩, (hts _ q_126), (hts _ q_127)⟩ (preVM hP hK hN (hDL _ rfl) [16, 17, 18] (by decide +kernel) rfl rfl rfl) rfl rfl hl.1 rfl (lv_room (Nat.le_of_ble_eq_true rfl)) d_Sol_meet_79 ⟨Nat.zero_le _, Nat.zero_le _⟩) hP (hDL _ rfl) hS hA rfl rfl (wr := [(a_this, .inr (5, [.ref a_this_kinds, .ref a_this_predicates, .ref a_this_demands, .ref a_this_groups, .ref a_this_meanings, .int v_this_settled, .int v_this_rounds, .int v_this_culprit])), (a_this_kinds, .inr (2, [.ref a_this_kinds_owners, .ref a_this_kinds_names, .ref a_this_kinds_fields, .int v_this_kinds_size])), (a_this_kinds_owners, .inl (cI, 100, .inl v_this_kinds_owners)), (a_this_kinds_names, .inl (cI, 100, .inl v_this_kinds_names)), (a_this_kinds_fields, .inr (1, [.ref a_this_kinds_fields_lengths, .ref a_this_kinds_fields_cells, .int v_this_kinds_fields_size])), (a_this_kinds_fields_lengths, .inl (cI, 100, .inl v_this_kinds_fields_lengths)), (a_this_kinds_fields_cells, .inl (cI, 600, .inl v_this_kinds_fields_cells)), (a_this_predicates, .inr (1, [.ref a_this_predicates_lengths, .ref a_this_predicates_cells, .int v_this_predicates_size])), (a_this_predicates_lengths, .inl (cI, 60, .inl v_this_predicates_lengths)), (a_this_predicates_cells, .inl (cI, 360, .inl v_this_predicates_cells)), (a_this_demands, .inr (3, [.ref a_this_demands_sorts, .ref a_this_demands_subjects, .ref a_this_demands_variables])), (a_this_demands_sorts, .inl (cI, 200, .inl v_this_demands_sorts)), (a_this_demands_subjects, .inl (cI, 200, .inl v_this_demands_subjects)), (a_this_demands_variables, .inr (1, [.ref a_this_demands_variables_lengths, .ref a_this_demands_variables_cells, .int v_this_demands_variables_size])), (a_this_demands_variables_lengths, .inl (cI, 200, .inl v_this_demands_variables_lengths)), (a_this_demands_variables_cells, .inl (cI, 1200, .inl v_this_demands_variables_cells)), (a_this_meanings, .inl (cI, 200, .inl v_this_meanings))]) rfl rfl (n := 20) rfl (by decide +kernel) (by decide +kernel) (fun H locs hz24 hP hS => ?_)
    cases hf
    exact hret _ _ _ _ hS hP hz24 d_Sol_meet_82
  replace hf := gn c25 hf
  by_cases c34 : r2 = 2
  · replace hf := gp c34 hf
    refine lv_tableIn (tgt := 83) hx hb d_Sol_meet_16 (by rw [c34]; decide) (by rw [c34]; decide) (by rw [c34]; rfl) (by decide) ?_
    refine lv_aload_n hx hb d_Sol_meet_83 rfl (lv_at hl 1 rfl) ?_
    refine lv_iload_n hx hb d_Sol_meet_84 rfl (lv_at hl 2 rfl) ?_
    refine lv_iconst (v := 0) hx hb d_Sol_meet_85 (by decide) ?_
    refine lv_aload_n hx hb d_Sol_meet_86 rfl (lv_at hl 1 rfl) ?_
    refine va_get (D := D) (ci := 5) (v := .ref a_this_predicates) (C := R_Sol) (T := T_Sol) (N := 8) hx hb hts in_Sol hown hK hP 0 rfl rfl 1 (by decide) (hts _ q_94) (fun _ h9 => h9) rfl d_Sol_meet_87 ?_
    refine lv_aload_n hx hb d_Sol_meet_90 rfl (lv_at hl 1 rfl) ?_
    refine va_get (D := D) (ci := 5) (v := .ref a_this_demands) (C := R_Sol) (T := T_Sol) (N := 8) hx hb hts in_Sol hown hK hP 0 rfl rfl 2 (by decide) (hts _ q_95) (fun _ h9 => h9) rfl d_Sol_meet_91 ?_
    refine lv_iload_n hx hb d_Sol_meet_94 rfl (lv_at hl 2 rfl) ?_
    obtain ⟨r27, hc26, hf⟩ := gb hf
    refine kP (va_runVN (C := R_Dem) (As := [.int x1]) (rest := [.ref a_this_predicates, .int 0, .int x1, .ref a_this]) ⟨hx, hb, hml, hown, hts⟩ (c_Dem_subjectOf l D cI a_this_demands a_this_demands_sorts a_this_demands_subjects a_this_demands_variables v_this_demands_subjects x1 hc26) ⟨va_cnB (host := "KindDesk") 1 hts (good_c q_106) rfl rfl rfl (hN _ (List.mem_of_getElem? (i := 26) rfl)) (hts _ q_107) hd_Dem_subjectOf ⟨Nat.le_of_ble_eq_true rfl, Nat.le_of_ble_eq_true rfl⟩, (hts _ q_108), (hts _ q_109)⟩ (preVP hP hK hN [10, 12] rfl rfl rfl) rfl rfl hl.1 rfl (lv_room (Nat.le_of_ble_eq_true rfl)) d_Sol_meet_95 ⟨Nat.zero_le _, Nat.zero_le _⟩) (fun hz28 => ?_)
    obtain ⟨⟨r30, u_31, u_32⟩, hc29, hf⟩ := gb hf
    dsimp only at hf
    refine kI [(a_this, .inr (5, [.ref a_this_kinds, .ref a_this_predicates, .ref a_this_demands, .ref a_this_groups, .ref a_this_meanings, .int v_this_settled, .int v_this_rounds, .int v_this_culprit])), (a_this_kinds, .inr (2, [.ref a_this_kinds_owners, .ref a_this_kinds_names, .ref a_this_kinds_fields, .int v_this_kinds_size])), (a_this_kinds_owners, .inl (cI, 100, .inl v_this_kinds_owners)), (a_this_kinds_names, .inl (cI, 100, .inl v_this_kinds_names)), (a_this_kinds_fields, .inr (1, [.ref a_this_kinds_fields_lengths, .ref a_this_kinds_fields_cells, .int v_this_kinds_fields_size])), (a_this_kinds_fields_lengths, .inl (cI, 100, .inl v_this_kinds_fields_lengths)), (a_this_kinds_fields_cells, .inl (cI, 600, .inl v_this_kinds_fields_cells)), (a_this_predicates, .inr (1, [.ref a_this_predicates_lengths, .ref a_this_predicates_cells, .int v_this_predicates_size])), (a_this_predicates_lengths, .inl (cI, 60, .inl v_this_predicates_lengths)), (a_this_predicates_cells, .inl (cI, 360, .inl v_this_predicates_cells)), (a_this_demands, .inr (3, [.ref a_this_demands_sorts, .ref a_this_demands_subjects, .ref a_this_demands_variables])), (a_this_demands_sorts, .inl (cI, 200, .inl v_this_demands_sorts)), (a_this_demands_subjects, .inl (cI, 200, .inl v_this_demands_subjects)), (a_this_demands_variables, .inr (1, [.ref a_this_demands_variables_lengths, .ref a_this_demands_variables_cells, .int v_this_demands_variables_size])), (a_this_demands_variables_lengths, .inl (cI, 200, .inl v_this_demands_variables_lengths)), (a_this_demands_variables_cells, .inl (cI, 1200, .inl v_this_demands_variables_cells)), (a_this_groups, .inr (4, [.ref a_this_groups_groups, .ref a_this_groups_groupKinds, .int u_31])), (a_this_groups_groups, .inl (cI, 80, .inl v_this_groups_groups)), (a_this_groups_groupKinds, .inl (cI, 80, .inl u_32)), (a_this_meanings, .inl (cI, 200, .inl v_this_meanings))] [0, 10, 13, 14, 15, 16, 17, 18, 7, 8, 9] [1, 2, 3, 4, 5, 6, 11, 12, 19] (va_runV (C := R_Sol) (As := [.int x1, .int 0, .ref a_this_predicates, .int r27]) (rest := []) ⟨hx, hb, hml, hown, hts⟩ (c_Sol_giveAll l D cI a_this a_this_kinds a_this_predicates a_this_demands a_this_groups a_this_meanings a_this_demands_sorts a_this_demands_subjects a_this_demands_variables a_this_demands_variables_lengths a_this_demands_variables_cells a_this_groups_groups a_this_groups_groupKinds a_this_predicates a_this_predicates_lengths a_this_predicates_cells 60 360 v_this_settled v_this_rounds v_this_culprit v_this_demands_variables_size v_this_demands_variables_lengths v_this_demands_variables_cells v_this_groups_changes v_this_groups_groups v_this_groups_groupKinds v_this_predicates_size v_this_predicates_lengths v_this_predicates_cells x1 0 r27 hc29 _) ⟨callB_of 4 hts (good_c q_118) rfl rfl rfl (hts _ q_114) (hts _ q_119) hd_Sol_giveAll ⟨Nat.le_of_ble_eq_true rfl, Nat.le_of_ble_eq_true rfl⟩, (hts _ q_120), (hts _ q_121)⟩ (preVM hP hK hN (hDL _ rfl) [0, 10, 13, 14, 15, 16, 17, 18, 7, 8, 9] (by decide +kernel) rfl rfl rfl) rfl rfl hl.1 rfl (lv_room (Nat.le_of_ble_eq_true rfl)) d_Sol_meet_98 ⟨Nat.zero_le _, Nat.zero_le _⟩) hP (hDL _ rfl) hS hA rfl rfl (wr := [(a_this_kinds, .inr (2, [.ref a_this_kinds_owners, .ref a_this_kinds_names, .ref a_this_kinds_fields, .int v_this_kinds_size])), (a_this_kinds_owners, .inl (cI, 100, .inl v_this_kinds_owners)), (a_this_kinds_names, .inl (cI, 100, .inl v_this_kinds_names)), (a_this_kinds_fields, .inr (1, [.ref a_this_kinds_fields_lengths, .ref a_this_kinds_fields_cells, .int v_this_kinds_fields_size])), (a_this_kinds_fields_lengths, .inl (cI, 100, .inl v_this_kinds_fields_lengths)), (a_this_kinds_fields_cells, .inl (cI, 600, .inl v_this_kinds_fields_cells)), (a_this_demands_sorts, .inl (cI, 200, .inl v_this_demands_sorts)), (a_this_demands_subjects, .inl (cI, 200, .inl v_this_demands_subjects)), (a_this_meanings, .inl (cI, 200, .inl v_this_meanings))]) rfl rfl (n := 20) rfl (by decide +kernel) (by decide +kernel) (fun H locs hz33 hP hS => ?_)
    cases hf
    exact hret _ _ _ _ hS hP hz33 d_Sol_meet_101
  replace hf := gn c34 hf
  by_cases c47 : r2 = 3
  · replace hf := gp c47 hf
    refine lv_tableIn (tgt := 102) hx hb d_Sol_meet_16 (by rw [c47]; decide) (by rw [c47]; decide) (by rw [c47]; rfl) (by decide) ?_
    refine lv_aload_n hx hb d_Sol_meet_102 rfl (lv_at hl 1 rfl) ?_
    refine lv_iload_n hx hb d_Sol_meet_103 rfl (lv_at hl 2 rfl) ?_
    obtain ⟨r36, hc35, hf⟩ := gb hf
    refine kP (va_runV (C := R_Sol) (As := [.int x1]) (rest := []) ⟨hx, hb, hml, hown, hts⟩ (c_Sol_meaningOf l D cI a_this a_this_kinds a_this_predicates a_this_demands a_this_groups a_this_meanings v_this_settled v_this_rounds v_this_culprit v_this_meanings x1 hc35) ⟨callB_of 1 hts (good_c q_128) rfl rfl rfl (hts _ q_114) (hts _ q_129) hd_Sol_meaningOf ⟨Nat.le_of_ble_eq_true rfl, Nat.le_of_ble_eq_true rfl⟩, (hts _ q_130), (hts _ q_131)⟩ (preVP hP hK hN [0, 19] rfl rfl rfl) rfl rfl hl.1 rfl (lv_room (Nat.le_of_ble_eq_true rfl)) d_Sol_meet_104 ⟨Nat.zero_le _, Nat.zero_le _⟩) (fun hz37 => ?_)
    refine lv_iconst (v := (-1)) hx hb d_Sol_meet_107 (by decide) ?_
    refine lv_icmp_ne (tgt := 119) hx hb d_Sol_meet_108 (by decide) (fun c38 => ?_) (fun c38 => ?_)
    · replace hf := gn c38 hf
      refine lv_iconst (v := 1) hx hb d_Sol_meet_119 (by decide) ?_
      refine lv_goto (tgt := 124) hx hb d_Sol_meet_120 (by decide) ?_
      cases hf
      exact hret _ _ _ _ hS hP rfl d_Sol_meet_124
    · replace hf := gp c38 hf
      refine lv_aload_n hx hb d_Sol_meet_111 rfl (lv_at hl 1 rfl) ?_
      refine lv_iload_n hx hb d_Sol_meet_112 rfl (lv_at hl 2 rfl) ?_
      obtain ⟨⟨r40, u_41, u_42, u_43, u_44⟩, hc39, hf⟩ := gb hf
      dsimp only at hf
      refine kI [(a_this, .inr (5, [.ref a_this_kinds, .ref a_this_predicates, .ref a_this_demands, .ref a_this_groups, .ref a_this_meanings, .int u_41, .int v_this_rounds, .int v_this_culprit])), (a_this_kinds, .inr (2, [.ref a_this_kinds_owners, .ref a_this_kinds_names, .ref a_this_kinds_fields, .int v_this_kinds_size])), (a_this_kinds_owners, .inl (cI, 100, .inl v_this_kinds_owners)), (a_this_kinds_names, .inl (cI, 100, .inl v_this_kinds_names)), (a_this_kinds_fields, .inr (1, [.ref a_this_kinds_fields_lengths, .ref a_this_kinds_fields_cells, .int v_this_kinds_fields_size])), (a_this_kinds_fields_lengths, .inl (cI, 100, .inl v_this_kinds_fields_lengths)), (a_this_kinds_fields_cells, .inl (cI, 600, .inl v_this_kinds_fields_cells)), (a_this_predicates, .inr (1, [.ref a_this_predicates_lengths, .ref a_this_predicates_cells, .int v_this_predicates_size])), (a_this_predicates_lengths, .inl (cI, 60, .inl v_this_predicates_lengths)), (a_this_predicates_cells, .inl (cI, 360, .inl v_this_predicates_cells)), (a_this_demands, .inr (3, [.ref a_this_demands_sorts, .ref a_this_demands_subjects, .ref a_this_demands_variables])), (a_this_demands_sorts, .inl (cI, 200, .inl v_this_demands_sorts)), (a_this_demands_subjects, .inl (cI, 200, .inl v_this_demands_subjects)), (a_this_demands_variables, .inr (1, [.ref a_this_demands_variables_lengths, .ref a_this_demands_variables_cells, .int v_this_demands_variables_size])), (a_this_demands_variables_lengths, .inl (cI, 200, .inl v_this_demands_variables_lengths)), (a_this_demands_variables_cells, .inl (cI, 1200, .inl v_this_demands_variables_cells)), (a_this_groups, .inr (4, [.ref a_this_groups_groups, .ref a_this_groups_groupKinds, .int u_42])), (a_this_groups_groups, .inl (cI, 80, .inl v_this_groups_groups)), (a_this_groups_groupKinds, .inl (cI, 80, .inl u_43)), (a_this_meanings, .inl (cI, 200, .inl u_44))] [0, 1, 2, 3, 4, 5, 6, 10, 12, 13, 14, 15, 16, 17, 18, 19] [7, 8, 9, 11] (va_runV (C := R_Sol) (As := [.int x1]) (rest := []) ⟨hx, hb, hml, hown, hts⟩ (c_Sol_meetForm l D cI a_this a_this_kinds a_this_predicates a_this_demands a_this_groups a_this_meanings a_this_kinds_owners a_this_kinds_names a_this_kinds_fields a_this_kinds_fields_lengths a_this_kinds_fields_cells a_this_demands_sorts a_this_demands_subjects a_this_demands_variables a_this_demands_variables_lengths a_this_demands_variables_cells a_this_groups_groups a_this_groups_groupKinds v_this_settled v_this_rounds v_this_culprit v_this_kinds_size v_this_kinds_owners v_this_kinds_names v_this_kinds_fields_size v_this_kinds_fields_lengths v_this_kinds_fields_cells v_this_demands_subjects v_this_demands_variables_size v_this_demands_variables_lengths v_this_demands_variables_cells v_this_groups_changes v_this_groups_groups v_this_groups_groupKinds v_this_meanings x1 hc39 _) ⟨callB_of 1 hts (good_c q_132) rfl rfl rfl (hts _ q_114) (hts _ q_133) hd_Sol_meetForm ⟨Nat.le_of_ble_eq_true rfl, Nat.le_of_ble_eq_true rfl⟩, (hts _ q_134), (hts _ q_135)⟩ (preVM hP hK hN (hDL _ rfl) [0, 1, 2, 3, 4, 5, 6, 10, 12, 13, 14, 15, 16, 17, 18, 19] (by decide +kernel) rfl rfl rfl) rfl rfl hl.1 rfl (lv_room (Nat.le_of_ble_eq_true rfl)) d_Sol_meet_113 ⟨Nat.zero_le _, Nat.zero_le _⟩) hP (hDL _ rfl) hS hA rfl rfl (wr := [(a_this_predicates, .inr (1, [.ref a_this_predicates_lengths, .ref a_this_predicates_cells, .int v_this_predicates_size])), (a_this_predicates_lengths, .inl (cI, 60, .inl v_this_predicates_lengths)), (a_this_predicates_cells, .inl (cI, 360, .inl v_this_predicates_cells)), (a_this_demands_sorts, .inl (cI, 200, .inl v_this_demands_sorts))]) rfl rfl (n := 20) rfl (by decide +kernel) (by decide +kernel) (fun H locs hz45 hP hS => ?_)
      refine lv_if_eq (tgt := 123) hx hb d_Sol_meet_116 (by decide) (fun c46 => ?_) (fun c46 => ?_)
      · replace hf := gp c46 hf
        refine lv_iconst (v := 0) hx hb d_Sol_meet_123 (by decide) ?_
        cases hf
        exact hret _ _ _ _ hS hP rfl d_Sol_meet_124
      · replace hf := gn c46 hf
        refine lv_iconst (v := 1) hx hb d_Sol_meet_119 (by decide) ?_
        refine lv_goto (tgt := 124) hx hb d_Sol_meet_120 (by decide) ?_
        cases hf
        exact hret _ _ _ _ hS hP rfl d_Sol_meet_124
  replace hf := gn c47 hf
  refine lv_tableOut (tgt := 125) hx hb d_Sol_meet_16 (by have qc12 := ne_ti c12; have qc25 := ne_ti c25; have qc34 := ne_ti c34; have qc47 := ne_ti c47; simp only [Int32.reduceToInt] at *; omega) (by decide) ?_
  refine lv_iconst (v := 1) hx hb d_Sol_meet_125 (by decide) ?_
  cases hf
  exact hret _ _ _ _ hS hP rfl d_Sol_meet_126
end
section
def f_Sol_goRound_L2 (v_this_kinds_owners : Nat → Int32) (v_this_kinds_names : Nat → Int32) (v_this_kinds_fields_size : Int32) (v_this_kinds_fields_lengths : Nat → Int32) (v_this_kinds_fields_cells : Nat → Int32) (v_this_predicates_size : Int32) (v_this_predicates_lengths : Nat → Int32) (v_this_predicates_cells : Nat → Int32) (v_this_demands_sorts : Nat → Int32) (v_this_demands_subjects : Nat → Int32) (v_this_demands_variables_size : Int32) (v_this_demands_variables_lengths : Nat → Int32) (v_this_demands_variables_cells : Nat → Int32) (k : Int32 → Int32 → Int32 → (Nat → Int32) → (Nat → Int32) → (Nat → Int32) → Option (Int32 × Int32 × Int32 × (Nat → Int32) × (Nat → Int32) × (Nat → Int32))) : Nat → Int32 → Int32 → Int32 → (Nat → Int32) → (Nat → Int32) → (Nat → Int32) → Option (Int32 × Int32 × Int32 × (Nat → Int32) × (Nat → Int32) × (Nat → Int32))
  | 0, _, _, _, _, _, _ => none
  | n + 1, y1_2, w_this_settled_2, w_this_groups_changes_2, w_this_groups_groups_2, w_this_groups_groupKinds_2, w_this_meanings_2 =>
    (f_Dem_count v_this_demands_variables_size).bind fun r2 =>
    if r2 ≤ y1_2 then
      k y1_2 w_this_settled_2 w_this_groups_changes_2 w_this_groups_groups_2 w_this_groups_groupKinds_2 w_this_meanings_2
    else
      (f_Sol_meet w_this_settled_2 v_this_kinds_owners v_this_kinds_names v_this_kinds_fields_size v_this_kinds_fields_lengths v_this_kinds_fields_cells v_this_predicates_size v_this_predicates_lengths v_this_predicates_cells v_this_demands_sorts v_this_demands_subjects v_this_demands_variables_size v_this_demands_variables_lengths v_this_demands_variables_cells w_this_groups_changes_2 w_this_groups_groups_2 w_this_groups_groupKinds_2 w_this_meanings_2 y1_2).bind fun (r6, u_7, u_8, u_9, u_10, u_11) =>
      if r6 = 0 then
        some (y1_2, u_7, u_8, u_9, u_10, u_11)
      else
        f_Sol_goRound_L2 v_this_kinds_owners v_this_kinds_names v_this_kinds_fields_size v_this_kinds_fields_lengths v_this_kinds_fields_cells v_this_predicates_size v_this_predicates_lengths v_this_predicates_cells v_this_demands_sorts v_this_demands_subjects v_this_demands_variables_size v_this_demands_variables_lengths v_this_demands_variables_cells k n (y1_2 + 1) u_7 u_8 u_9 u_10 u_11
def f_Sol_goRound (v_this_settled : Int32) (v_this_kinds_owners : Nat → Int32) (v_this_kinds_names : Nat → Int32) (v_this_kinds_fields_size : Int32) (v_this_kinds_fields_lengths : Nat → Int32) (v_this_kinds_fields_cells : Nat → Int32) (v_this_predicates_size : Int32) (v_this_predicates_lengths : Nat → Int32) (v_this_predicates_cells : Nat → Int32) (v_this_demands_sorts : Nat → Int32) (v_this_demands_subjects : Nat → Int32) (v_this_demands_variables_size : Int32) (v_this_demands_variables_lengths : Nat → Int32) (v_this_demands_variables_cells : Nat → Int32) (v_this_groups_changes : Int32) (v_this_groups_groups : Nat → Int32) (v_this_groups_groupKinds : Nat → Int32) (v_this_meanings : Nat → Int32) : Option (Int32 × Int32 × Int32 × (Nat → Int32) × (Nat → Int32) × (Nat → Int32)) :=
  f_Sol_goRound_L2 v_this_kinds_owners v_this_kinds_names v_this_kinds_fields_size v_this_kinds_fields_lengths v_this_kinds_fields_cells v_this_predicates_size v_this_predicates_lengths v_this_predicates_cells v_this_demands_sorts v_this_demands_subjects v_this_demands_variables_size v_this_demands_variables_lengths v_this_demands_variables_cells (fun y1_2 w_this_settled_2 w_this_groups_changes_2 w_this_groups_groups_2 w_this_groups_groupKinds_2 w_this_meanings_2 =>
    some ((-1), w_this_settled_2, w_this_groups_changes_2, w_this_groups_groups_2, w_this_groups_groupKinds_2, w_this_meanings_2)) FU 0 v_this_settled v_this_groups_changes v_this_groups_groups v_this_groups_groupKinds v_this_meanings
abbrev rm_Sol_goRound : Room := { frames := 5, cells := 0, slots := 0, locals := 113 }
set_option maxHeartbeats 4000000 in
set_option maxRecDepth 100000 in
theorem c_Sol_goRound (l : Launch) (D : va_G) (cI : ClassId) (a_this a_this_kinds a_this_predicates a_this_demands a_this_groups a_this_meanings a_this_kinds_owners a_this_kinds_names a_this_kinds_fields a_this_kinds_fields_lengths a_this_kinds_fields_cells a_this_predicates_lengths a_this_predicates_cells a_this_demands_sorts a_this_demands_subjects a_this_demands_variables a_this_demands_variables_lengths a_this_demands_variables_cells a_this_groups_groups a_this_groups_groupKinds : Nat) (v_this_settled : Int32) (v_this_rounds : Int32) (v_this_culprit : Int32) (v_this_kinds_size : Int32) (v_this_kinds_owners : Nat → Int32) (v_this_kinds_names : Nat → Int32) (v_this_kinds_fields_size : Int32) (v_this_kinds_fields_lengths : Nat → Int32) (v_this_kinds_fields_cells : Nat → Int32) (v_this_predicates_size : Int32) (v_this_predicates_lengths : Nat → Int32) (v_this_predicates_cells : Nat → Int32) (v_this_demands_sorts : Nat → Int32) (v_this_demands_subjects : Nat → Int32) (v_this_demands_variables_size : Int32) (v_this_demands_variables_lengths : Nat → Int32) (v_this_demands_variables_cells : Nat → Int32) (v_this_groups_changes : Int32) (v_this_groups_groups : Nat → Int32) (v_this_groups_groupKinds : Nat → Int32) (v_this_meanings : Nat → Int32) {r_ : Int32} {v_this_settled' : Int32} {v_this_groups_changes' : Int32} {v_this_groups_groups' : Nat → Int32} {v_this_groups_groupKinds' : Nat → Int32} {v_this_meanings' : Nat → Int32} (hf : f_Sol_goRound v_this_settled v_this_kinds_owners v_this_kinds_names v_this_kinds_fields_size v_this_kinds_fields_lengths v_this_kinds_fields_cells v_this_predicates_size v_this_predicates_lengths v_this_predicates_cells v_this_demands_sorts v_this_demands_subjects v_this_demands_variables_size v_this_demands_variables_lengths v_this_demands_variables_cells v_this_groups_changes v_this_groups_groups v_this_groups_groupKinds v_this_meanings = some (r_, v_this_settled', v_this_groups_changes', v_this_groups_groups', v_this_groups_groupKinds', v_this_meanings')) : CtI l y_Sol_goRound ws_Sol_goRound rm_Sol_goRound D cI [(a_this, .inr (5, [.ref a_this_kinds, .ref a_this_predicates, .ref a_this_demands, .ref a_this_groups, .ref a_this_meanings, .int v_this_settled, .int v_this_rounds, .int v_this_culprit])), (a_this_kinds, .inr (2, [.ref a_this_kinds_owners, .ref a_this_kinds_names, .ref a_this_kinds_fields, .int v_this_kinds_size])), (a_this_kinds_owners, .inl (cI, 100, .inl v_this_kinds_owners)), (a_this_kinds_names, .inl (cI, 100, .inl v_this_kinds_names)), (a_this_kinds_fields, .inr (1, [.ref a_this_kinds_fields_lengths, .ref a_this_kinds_fields_cells, .int v_this_kinds_fields_size])), (a_this_kinds_fields_lengths, .inl (cI, 100, .inl v_this_kinds_fields_lengths)), (a_this_kinds_fields_cells, .inl (cI, 600, .inl v_this_kinds_fields_cells)), (a_this_predicates, .inr (1, [.ref a_this_predicates_lengths, .ref a_this_predicates_cells, .int v_this_predicates_size])), (a_this_predicates_lengths, .inl (cI, 60, .inl v_this_predicates_lengths)), (a_this_predicates_cells, .inl (cI, 360, .inl v_this_predicates_cells)), (a_this_demands, .inr (3, [.ref a_this_demands_sorts, .ref a_this_demands_subjects, .ref a_this_demands_variables])), (a_this_demands_sorts, .inl (cI, 200, .inl v_this_demands_sorts)), (a_this_demands_subjects, .inl (cI, 200, .inl v_this_demands_subjects)), (a_this_demands_variables, .inr (1, [.ref a_this_demands_variables_lengths, .ref a_this_demands_variables_cells, .int v_this_demands_variables_size])), (a_this_demands_variables_lengths, .inl (cI, 200, .inl v_this_demands_variables_lengths)), (a_this_demands_variables_cells, .inl (cI, 1200, .inl v_this_demands_variables_cells)), (a_this_groups, .inr (4, [.ref a_this_groups_groups, .ref a_this_groups_groupKinds, .int v_this_groups_changes])), (a_this_groups_groups, .inl (cI, 80, .inl v_this_groups_groups)), (a_this_groups_groupKinds, .inl (cI, 80, .inl v_this_groups_groupKinds)), (a_this_meanings, .inl (cI, 200, .inl v_this_meanings))] [(a_this, .inr (5, [.ref a_this_kinds, .ref a_this_predicates, .ref a_this_demands, .ref a_this_groups, .ref a_this_meanings, .int v_this_settled', .int v_this_rounds, .int v_this_culprit])), (a_this_kinds, .inr (2, [.ref a_this_kinds_owners, .ref a_this_kinds_names, .ref a_this_kinds_fields, .int v_this_kinds_size])), (a_this_kinds_owners, .inl (cI, 100, .inl v_this_kinds_owners)), (a_this_kinds_names, .inl (cI, 100, .inl v_this_kinds_names)), (a_this_kinds_fields, .inr (1, [.ref a_this_kinds_fields_lengths, .ref a_this_kinds_fields_cells, .int v_this_kinds_fields_size])), (a_this_kinds_fields_lengths, .inl (cI, 100, .inl v_this_kinds_fields_lengths)), (a_this_kinds_fields_cells, .inl (cI, 600, .inl v_this_kinds_fields_cells)), (a_this_predicates, .inr (1, [.ref a_this_predicates_lengths, .ref a_this_predicates_cells, .int v_this_predicates_size])), (a_this_predicates_lengths, .inl (cI, 60, .inl v_this_predicates_lengths)), (a_this_predicates_cells, .inl (cI, 360, .inl v_this_predicates_cells)), (a_this_demands, .inr (3, [.ref a_this_demands_sorts, .ref a_this_demands_subjects, .ref a_this_demands_variables])), (a_this_demands_sorts, .inl (cI, 200, .inl v_this_demands_sorts)), (a_this_demands_subjects, .inl (cI, 200, .inl v_this_demands_subjects)), (a_this_demands_variables, .inr (1, [.ref a_this_demands_variables_lengths, .ref a_this_demands_variables_cells, .int v_this_demands_variables_size])), (a_this_demands_variables_lengths, .inl (cI, 200, .inl v_this_demands_variables_lengths)), (a_this_demands_variables_cells, .inl (cI, 1200, .inl v_this_demands_variables_cells)), (a_this_groups, .inr (4, [.ref a_this_groups_groups, .ref a_this_groups_groupKinds, .int v_this_groups_changes'])), (a_this_groups_groups, .inl (cI, 80, .inl v_this_groups_groups')), (a_this_groups_groupKinds, .inl (cI, 80, .inl v_this_groups_groupKinds')), (a_this_meanings, .inl (cI, 200, .inl v_this_meanings'))] [.ref a_this] .int r_ := by
  refine CtI.ofW (cc := b_Sol_goRound) (maxL := 2) (ty := .int) (by decide) rfl (Nat.le_of_ble_eq_true rfl) ?_
  intro p e s m args below meth c Q A hx hb hml hown hts hP hK hN hA hD hret ls hl
  have hS : va_S A s.heap s.heap [] := va_S.rf
  have hDL : DL A [a_this, a_this_kinds, a_this_kinds_owners, a_this_kinds_names, a_this_kinds_fields, a_this_kinds_fields_lengths, a_this_kinds_fields_cells, a_this_predicates, a_this_predicates_lengths, a_this_predicates_cells, a_this_demands, a_this_demands_sorts, a_this_demands_subjects, a_this_demands_variables, a_this_demands_variables_lengths, a_this_demands_variables_cells, a_this_groups, a_this_groups_groups, a_this_groups_groupKinds, a_this_meanings] := DL.of hD rfl
  have hl : lv_has ls 2 [(0, .ref a_this)] := hl
  unfold f_Sol_goRound at hf
  refine lv_iconst (v := 0) hx hb d_Sol_goRound_0 (by decide) ?_
  refine lv_istore_n (lv' := [(1, .int 0), (0, .ref a_this)]) hx hb d_Sol_goRound_1 rfl hl (by decide) rfl (fun ls hl => ?_)
  have lp2 : ∀ (kk : Int32 → Int32 → Int32 → (Nat → Int32) → (Nat → Int32) → (Nat → Int32) → Option (Int32 × Int32 × Int32 × (Nat → Int32) × (Nat → Int32) × (Nat → Int32))), (∀ (y1_2 : Int32) (w_this_settled_2 : Int32) (w_this_groups_changes_2 : Int32) (w_this_groups_groups_2 : Nat → Int32) (w_this_groups_groupKinds_2 : Nat → Int32) (w_this_meanings_2 : Nat → Int32) (H : Heap) (locs : List Loc) (ls : Array Slot), va_P D vwCl [(a_this, .inr (5, [.ref a_this_kinds, .ref a_this_predicates, .ref a_this_demands, .ref a_this_groups, .ref a_this_meanings, .int w_this_settled_2, .int v_this_rounds, .int v_this_culprit])), (a_this_kinds, .inr (2, [.ref a_this_kinds_owners, .ref a_this_kinds_names, .ref a_this_kinds_fields, .int v_this_kinds_size])), (a_this_kinds_owners, .inl (cI, 100, .inl v_this_kinds_owners)), (a_this_kinds_names, .inl (cI, 100, .inl v_this_kinds_names)), (a_this_kinds_fields, .inr (1, [.ref a_this_kinds_fields_lengths, .ref a_this_kinds_fields_cells, .int v_this_kinds_fields_size])), (a_this_kinds_fields_lengths, .inl (cI, 100, .inl v_this_kinds_fields_lengths)), (a_this_kinds_fields_cells, .inl (cI, 600, .inl v_this_kinds_fields_cells)), (a_this_predicates, .inr (1, [.ref a_this_predicates_lengths, .ref a_this_predicates_cells, .int v_this_predicates_size])), (a_this_predicates_lengths, .inl (cI, 60, .inl v_this_predicates_lengths)), (a_this_predicates_cells, .inl (cI, 360, .inl v_this_predicates_cells)), (a_this_demands, .inr (3, [.ref a_this_demands_sorts, .ref a_this_demands_subjects, .ref a_this_demands_variables])), (a_this_demands_sorts, .inl (cI, 200, .inl v_this_demands_sorts)), (a_this_demands_subjects, .inl (cI, 200, .inl v_this_demands_subjects)), (a_this_demands_variables, .inr (1, [.ref a_this_demands_variables_lengths, .ref a_this_demands_variables_cells, .int v_this_demands_variables_size])), (a_this_demands_variables_lengths, .inl (cI, 200, .inl v_this_demands_variables_lengths)), (a_this_demands_variables_cells, .inl (cI, 1200, .inl v_this_demands_variables_cells)), (a_this_groups, .inr (4, [.ref a_this_groups_groups, .ref a_this_groups_groupKinds, .int w_this_groups_changes_2])), (a_this_groups_groups, .inl (cI, 80, .inl w_this_groups_groups_2)), (a_this_groups_groupKinds, .inl (cI, 80, .inl w_this_groups_groupKinds_2)), (a_this_meanings, .inl (cI, 200, .inl w_this_meanings_2))] H → va_S A s.heap H locs → lv_has ls 2 [(1, .int y1_2), (0, .ref a_this)] → kk y1_2 w_this_settled_2 w_this_groups_changes_2 w_this_groups_groups_2 w_this_groups_groupKinds_2 w_this_meanings_2 = some (r_, v_this_settled', v_this_groups_changes', v_this_groups_groups', v_this_groups_groupKinds', v_this_meanings') → W p l e rm_Sol_goRound s m args below meth c H locs 0 0 Q (F0 m 29 ls [])) → ∀ (n : Nat) (y1_2 : Int32) (w_this_settled_2 : Int32) (w_this_groups_changes_2 : Int32) (w_this_groups_groups_2 : Nat → Int32) (w_this_groups_groupKinds_2 : Nat → Int32) (w_this_meanings_2 : Nat → Int32) (H : Heap) (locs : List Loc) (ls : Array Slot), va_P D vwCl [(a_this, .inr (5, [.ref a_this_kinds, .ref a_this_predicates, .ref a_this_demands, .ref a_this_groups, .ref a_this_meanings, .int w_this_settled_2, .int v_this_rounds, .int v_this_culprit])), (a_this_kinds, .inr (2, [.ref a_this_kinds_owners, .ref a_this_kinds_names, .ref a_this_kinds_fields, .int v_this_kinds_size])), (a_this_kinds_owners, .inl (cI, 100, .inl v_this_kinds_owners)), (a_this_kinds_names, .inl (cI, 100, .inl v_this_kinds_names)), (a_this_kinds_fields, .inr (1, [.ref a_this_kinds_fields_lengths, .ref a_this_kinds_fields_cells, .int v_this_kinds_fields_size])), (a_this_kinds_fields_lengths, .inl (cI, 100, .inl v_this_kinds_fields_lengths)), (a_this_kinds_fields_cells, .inl (cI, 600, .inl v_this_kinds_fields_cells)), (a_this_predicates, .inr (1, [.ref a_this_predicates_lengths, .ref a_this_predicates_cells, .int v_this_predicates_size])), (a_this_predicates_lengths, .inl (cI, 60, .inl v_this_predicates_lengths)), (a_this_predicates_cells, .inl (cI, 360, .inl v_this_predicates_cells)), (a_this_demands, .inr (3, [.ref a_this_demands_sorts, .ref a_this_demands_subjects, .ref a_this_demands_variables])), (a_this_demands_sorts, .inl (cI, 200, .inl v_this_demands_sorts)), (a_this_demands_subjects, .inl (cI, 200, .inl v_this_demands_subjects)), (a_this_demands_variables, .inr (1, [.ref a_this_demands_variables_lengths, .ref a_this_demands_variables_cells, .int v_this_demands_variables_size])), (a_this_demands_variables_lengths, .inl (cI, 200, .inl v_this_demands_variables_lengths)), (a_this_demands_variables_cells, .inl (cI, 1200, .inl v_this_demands_variables_cells)), (a_this_groups, .inr (4, [.ref a_this_groups_groups, .ref a_this_groups_groupKinds, .int w_this_groups_changes_2])), (a_this_groups_groups, .inl (cI, 80, .inl w_this_groups_groups_2)), (a_this_groups_groupKinds, .inl (cI, 80, .inl w_this_groups_groupKinds_2)), (a_this_meanings, .inl (cI, 200, .inl w_this_meanings_2))] H → va_S A s.heap H locs → lv_has ls 2 [(1, .int y1_2), (0, .ref a_this)] → f_Sol_goRound_L2 v_this_kinds_owners v_this_kinds_names v_this_kinds_fields_size v_this_kinds_fields_lengths v_this_kinds_fields_cells v_this_predicates_size v_this_predicates_lengths v_this_predicates_cells v_this_demands_sorts v_this_demands_subjects v_this_demands_variables_size v_this_demands_variables_lengths v_this_demands_variables_cells kk n y1_2 w_this_settled_2 w_this_groups_changes_2 w_this_groups_groups_2 w_this_groups_groupKinds_2 w_this_meanings_2 = some (r_, v_this_settled', v_this_groups_changes', v_this_groups_groups', v_this_groups_groupKinds', v_this_meanings') → W p l e rm_Sol_goRound s m args below meth c H locs 0 0 Q (F0 m 2 ls []) := by
    intro kk hk2 n
    induction n with
    | zero =>
      intro y1_2 w_this_settled_2 w_this_groups_changes_2 w_this_groups_groups_2 w_this_groups_groupKinds_2 w_this_meanings_2 H locs ls hP hS hl hf
      rw [f_Sol_goRound_L2] at hf
      cases hf
    | succ n ih2 =>
      intro y1_2 w_this_settled_2 w_this_groups_changes_2 w_this_groups_groups_2 w_this_groups_groupKinds_2 w_this_meanings_2 H locs ls hP hS hl hf
      rw [f_Sol_goRound_L2] at hf
      refine lv_iload_n hx hb d_Sol_goRound_2 rfl (lv_at hl 0 rfl) ?_
      refine lv_aload_n hx hb d_Sol_goRound_3 rfl (lv_at hl 1 rfl) ?_
      refine va_get (D := D) (ci := 5) (v := .ref a_this_demands) (C := R_Sol) (T := T_Sol) (N := 8) hx hb hts in_Sol hown hK hP 0 rfl rfl 2 (by decide) (hts _ q_95) (fun _ h9 => h9) rfl d_Sol_goRound_4 ?_
      obtain ⟨r2, hc1, hf⟩ := gb hf
      refine kP (va_runVN (C := R_Dem) (As := []) (rest := [.int y1_2]) ⟨hx, hb, hml, hown, hts⟩ (c_Dem_count l D cI a_this_demands a_this_demands_sorts a_this_demands_subjects a_this_demands_variables a_this_demands_variables_lengths a_this_demands_variables_cells v_this_demands_variables_size hc1) ⟨va_cnB (host := "KindDesk") 0 hts (good_c q_136) rfl rfl rfl (hN _ (List.mem_of_getElem? (i := 32) rfl)) (hts _ q_107) hd_Dem_count ⟨Nat.le_of_ble_eq_true rfl, Nat.le_of_ble_eq_true rfl⟩, (hts _ q_137), (hts _ q_138)⟩ (preVP hP hK hN [10, 13] rfl rfl rfl) rfl rfl hl.1 rfl (lv_room (Nat.le_of_ble_eq_true rfl)) d_Sol_goRound_7 ⟨Nat.zero_le _, Nat.zero_le _⟩) (fun hz3 => ?_)
      refine lv_icmp_ge (tgt := 29) hx hb d_Sol_goRound_10 (by decide) (fun c4 => ?_) (fun c4 => ?_)
      · replace hf := gp c4 hf
        exact hk2 y1_2 w_this_settled_2 w_this_groups_changes_2 w_this_groups_groups_2 w_this_groups_groupKinds_2 w_this_meanings_2 _ _ _ hP hS (lv_sub hl [0, 1] rfl) hf
      · replace hf := gn c4 hf
        refine lv_aload_n hx hb d_Sol_goRound_13 rfl (lv_at hl 1 rfl) ?_
        refine lv_iload_n hx hb d_Sol_goRound_14 rfl (lv_at hl 0 rfl) ?_
        obtain ⟨⟨r6, u_7, u_8, u_9, u_10, u_11⟩, hc5, hf⟩ := gb hf
        dsimp only at hf
        refine kI [(a_this, .inr (5, [.ref a_this_kinds, .ref a_this_predicates, .ref a_this_demands, .ref a_this_groups, .ref a_this_meanings, .int u_7, .int v_this_rounds, .int v_this_culprit])), (a_this_kinds, .inr (2, [.ref a_this_kinds_owners, .ref a_this_kinds_names, .ref a_this_kinds_fields, .int v_this_kinds_size])), (a_this_kinds_owners, .inl (cI, 100, .inl v_this_kinds_owners)), (a_this_kinds_names, .inl (cI, 100, .inl v_this_kinds_names)), (a_this_kinds_fields, .inr (1, [.ref a_this_kinds_fields_lengths, .ref a_this_kinds_fields_cells, .int v_this_kinds_fields_size])), (a_this_kinds_fields_lengths, .inl (cI, 100, .inl v_this_kinds_fields_lengths)), (a_this_kinds_fields_cells, .inl (cI, 600, .inl v_this_kinds_fields_cells)), (a_this_predicates, .inr (1, [.ref a_this_predicates_lengths, .ref a_this_predicates_cells, .int v_this_predicates_size])), (a_this_predicates_lengths, .inl (cI, 60, .inl v_this_predicates_lengths)), (a_this_predicates_cells, .inl (cI, 360, .inl v_this_predicates_cells)), (a_this_demands, .inr (3, [.ref a_this_demands_sorts, .ref a_this_demands_subjects, .ref a_this_demands_variables])), (a_this_demands_sorts, .inl (cI, 200, .inl v_this_demands_sorts)), (a_this_demands_subjects, .inl (cI, 200, .inl v_this_demands_subjects)), (a_this_demands_variables, .inr (1, [.ref a_this_demands_variables_lengths, .ref a_this_demands_variables_cells, .int v_this_demands_variables_size])), (a_this_demands_variables_lengths, .inl (cI, 200, .inl v_this_demands_variables_lengths)), (a_this_demands_variables_cells, .inl (cI, 1200, .inl v_this_demands_variables_cells)), (a_this_groups, .inr (4, [.ref a_this_groups_groups, .ref a_this_groups_groupKinds, .int u_8])), (a_this_groups_groups, .inl (cI, 80, .inl u_9)), (a_this_groups_groupKinds, .inl (cI, 80, .inl u_10)), (a_this_meanings, .inl (cI, 200, .inl u_11))] [0, 1, 2, 3, 4, 5, 6, 7, 8, 9, 10, 11, 12, 13, 14, 15, 16, 17, 18, 19] [] (va_runV (C := R_Sol) (As := [.int y1_2]) (rest := []) ⟨hx, hb, hml, hown, hts⟩ (c_Sol_meet l D cI a_this a_this_kinds a_this_predicates a_this_demands a_this_groups a_this_meanings a_this_kinds_owners a_this_kinds_names a_this_kinds_fields a_this_kinds_fields_lengths a_this_kinds_fields_cells a_this_predicates_lengths a_this_predicates_cells a_this_demands_sorts a_this_demands_subjects a_this_demands_variables a_this_demands_variables_lengths a_this_demands_variables_cells a_this_groups_groups a_this_groups_groupKinds w_this_settled_2 v_this_rounds v_this_culprit v_this_kinds_size v_this_kinds_owners v_this_kinds_names v_this_kinds_fields_size v_this_kinds_fields_lengths v_this_kinds_fields_cells v_this_predicates_size v_this_predicates_lengths v_this_predicates_cells v_this_demands_sorts v_this_demands_subjects v_this_demands_variables_size v_this_demands_variables_lengths v_this_demands_variables_cells w_this_groups_changes_2 w_this_groups_groups_2 w_this_groups_groupKinds_2 w_this_meanings_2 y1_2 hc5 _) ⟨callB_of 1 hts (good_c q_139) rfl rfl rfl (hts _ q_114) (hts _ q_140) hd_Sol_meet ⟨Nat.le_of_ble_eq_true rfl, Nat.le_of_ble_eq_true rfl⟩, (hts _ q_141), (hts _ q_142)⟩ (preVM hP hK hN (hDL _ rfl) [0, 1, 2, 3, 4, 5, 6, 7, 8, 9, 10, 11, 12, 13, 14, 15, 16, 17, 18, 19] (by decide +kernel) rfl rfl rfl) rfl rfl hl.1 rfl (lv_room (Nat.le_of_ble_eq_true rfl)) d_Sol_goRound_15 ⟨Nat.zero_le _, Nat.zero_le _⟩) hP (hDL _ rfl) hS hA rfl rfl (wr := []) rfl rfl (n := 20) rfl (by decide +kernel) (by decide +kernel) (fun H locs hz12 hP hS => ?_)
        refine lv_if_ne (tgt := 23) hx hb d_Sol_goRound_18 (by decide) (fun c13 => ?_) (fun c13 => ?_)
        · replace hf := gn c13 hf
          refine lv_iinc (v := (y1_2 + 1)) (lv' := [(1, .int (y1_2 + 1)), (0, .ref a_this)]) hx hb d_Sol_goRound_23 hl (k := 0) rfl rfl (by decide) rfl (fun ls hl => ?_)
          refine lv_goto (tgt := 2) hx hb d_Sol_goRound_26 (by decide) ?_
          exact ih2 (y1_2 + 1) u_7 u_8 u_9 u_10 u_11 _ _ _ hP hS (lv_sub hl [0, 1] rfl) hf
        · replace hf := gp c13 hf
          refine lv_iload_n hx hb d_Sol_goRound_21 rfl (lv_at hl 0 rfl) ?_
          cases hf
          exact hret _ _ _ _ hS hP rfl d_Sol_goRound_22
  refine lp2 _ (fun y1_2 w_this_settled_2 w_this_groups_changes_2 w_this_groups_groups_2 w_this_groups_groupKinds_2 w_this_meanings_2 H locs ls hP hS hl hf => ?_) FU 0 v_this_settled v_this_groups_changes v_this_groups_groups v_this_groups_groupKinds v_this_meanings _ _ _ hP hS (lv_sub hl [0, 1] rfl) hf
  refine lv_iconst (v := (-1)) hx hb d_Sol_goRound_29 (by decide) ?_
  cases hf
  exact hret _ _ _ _ hS hP rfl d_Sol_goRound_30
def f_Sol_firstWaiting_L2 (v_this_demands_sorts : Nat → Int32) (v_this_demands_variables_size : Int32) (v_this_meanings : Nat → Int32) (k : Int32 → Option (Int32)) : Nat → Int32 → Option (Int32)
  | 0, _ => none
  | n + 1, y1_2 =>
    (f_Dem_count v_this_demands_variables_size).bind fun r2 =>
    if r2 ≤ y1_2 then
      k y1_2
    else
      (f_Dem_sortOf v_this_demands_sorts y1_2).bind fun r6 =>
      if r6 = 3 then
        (f_Sol_meaningOf v_this_meanings y1_2).bind fun r10 =>
        if r10 = (-1) then
          some y1_2
        else
          f_Sol_firstWaiting_L2 v_this_demands_sorts v_this_demands_variables_size v_this_meanings k n (y1_2 + 1)
      else
        f_Sol_firstWaiting_L2 v_this_demands_sorts v_this_demands_variables_size v_this_meanings k n (y1_2 + 1)
def f_Sol_firstWaiting (v_this_demands_sorts : Nat → Int32) (v_this_demands_variables_size : Int32) (v_this_meanings : Nat → Int32) : Option (Int32) :=
  f_Sol_firstWaiting_L2 v_this_demands_sorts v_this_demands_variables_size v_this_meanings (fun y1_2 =>
    some (-1)) FU 0
abbrev rm_Sol_firstWaiting : Room := { frames := 2, cells := 0, slots := 0, locals := 41 }
set_option maxHeartbeats 4000000 in
set_option maxRecDepth 100000 in
theorem c_Sol_firstWaiting (l : Launch) (D : va_G) (cI : ClassId) (a_this a_this_kinds a_this_predicates a_this_demands a_this_groups a_this_meanings a_this_demands_sorts a_this_demands_subjects a_this_demands_variables a_this_demands_variables_lengths a_this_demands_variables_cells : Nat) (v_this_settled : Int32) (v_this_rounds : Int32) (v_this_culprit : Int32) (v_this_demands_sorts : Nat → Int32) (v_this_demands_variables_size : Int32) (v_this_meanings : Nat → Int32) {r_ : Int32} (hf : f_Sol_firstWaiting v_this_demands_sorts v_this_demands_variables_size v_this_meanings = some r_) : CtP l y_Sol_firstWaiting ws_Sol_firstWaiting rm_Sol_firstWaiting D cI [(a_this, .inr (5, [.ref a_this_kinds, .ref a_this_predicates, .ref a_this_demands, .ref a_this_groups, .ref a_this_meanings, .int v_this_settled, .int v_this_rounds, .int v_this_culprit])), (a_this_demands, .inr (3, [.ref a_this_demands_sorts, .ref a_this_demands_subjects, .ref a_this_demands_variables])), (a_this_demands_sorts, .inl (cI, 200, .inl v_this_demands_sorts)), (a_this_demands_variables, .inr (1, [.ref a_this_demands_variables_lengths, .ref a_this_demands_variables_cells, .int v_this_demands_variables_size])), (a_this_meanings, .inl (cI, 200, .inl v_this_meanings))] [.ref a_this] .int r_ := by
  refine CtP.ofW (cc := b_Sol_firstWaiting) (maxL := 2) (ty := .int) (by decide) rfl (Nat.le_of_ble_eq_true rfl) ?_
  intro p e s m args below meth c Q hx hb hml hown hts hP hK hN hret ls hl
  have hl : lv_has ls 2 [(0, .ref a_this)] := hl
  unfold f_Sol_firstWaiting at hf
  refine lv_iconst (v := 0) hx hb d_Sol_firstWaiting_0 (by decide) ?_
  refine lv_istore_n (lv' := [(1, .int 0), (0, .ref a_this)]) hx hb d_Sol_firstWaiting_1 rfl hl (by decide) rfl (fun ls hl => ?_)
  have lp2 : ∀ (kk : Int32 → Option (Int32)), (∀ (y1_2 : Int32) (ls : Array Slot), lv_has ls 2 [(1, .int y1_2), (0, .ref a_this)] → kk y1_2 = some r_ → W p l e rm_Sol_firstWaiting s m args below meth c s.heap [] 0 0 Q (F0 m 42 ls [])) → ∀ (n : Nat) (y1_2 : Int32) (ls : Array Slot), lv_has ls 2 [(1, .int y1_2), (0, .ref a_this)] → f_Sol_firstWaiting_L2 v_this_demands_sorts v_this_demands_variables_size v_this_meanings kk n y1_2 = some r_ → W p l e rm_Sol_firstWaiting s m args below meth c s.heap [] 0 0 Q (F0 m 2 ls []) := by
    intro kk hk2 n
    induction n with
    | zero =>
      intro y1_2 ls hl hf
      rw [f_Sol_firstWaiting_L2] at hf
      cases hf
    | succ n ih2 =>
      intro y1_2 ls hl hf
      rw [f_Sol_firstWaiting_L2] at hf
      refine lv_iload_n hx hb d_Sol_firstWaiting_2 rfl (lv_at hl 0 rfl) ?_
      refine lv_aload_n hx hb d_Sol_firstWaiting_3 rfl (lv_at hl 1 rfl) ?_
      refine va_get (D := D) (ci := 5) (v := .ref a_this_demands) (C := R_Sol) (T := T_Sol) (N := 8) hx hb hts in_Sol hown hK hP 0 rfl rfl 2 (by decide) (hts _ q_95) (fun _ h9 => h9) rfl d_Sol_firstWaiting_4 ?_
      obtain ⟨r2, hc1, hf⟩ := gb hf
      refine kP (va_runVN (C := R_Dem) (As := []) (rest := [.int y1_2]) ⟨hx, hb, hml, hown, hts⟩ (c_Dem_count l D cI a_this_demands a_this_demands_sorts a_this_demands_subjects a_this_demands_variables a_this_demands_variables_lengths a_this_demands_variables_cells v_this_demands_variables_size hc1) ⟨va_cnB (host := "KindDesk") 0 hts (good_c q_136) rfl rfl rfl (hN _ (List.mem_of_getElem? (i := 32) rfl)) (hts _ q_107) hd_Dem_count ⟨Nat.le_of_ble_eq_true rfl, Nat.le_of_ble_eq_true rfl⟩, (hts _ q_137), (hts _ q_138)⟩ (preVP hP hK hN [1, 3] rfl rfl rfl) rfl rfl hl.1 rfl (lv_room (Nat.le_of_ble_eq_true rfl)) d_Sol_firstWaiting_7 ⟨Nat.zero_le _, Nat.zero_le _⟩) (fun hz3 => ?_)
      refine lv_icmp_ge (tgt := 42) hx hb d_Sol_firstWaiting_10 (by decide) (fun c4 => ?_) (fun c4 => ?_)
      · replace hf := gp c4 hf
        exact hk2 y1_2 _ (lv_sub hl [0, 1] rfl) hf
      · replace hf := gn c4 hf
        refine lv_aload_n hx hb d_Sol_firstWaiting_13 rfl (lv_at hl 1 rfl) ?_
        refine va_get (D := D) (ci := 5) (v := .ref a_this_demands) (C := R_Sol) (T := T_Sol) (N := 8) hx hb hts in_Sol hown hK hP 0 rfl rfl 2 (by decide) (hts _ q_95) (fun _ h9 => h9) rfl d_Sol_firstWaiting_14 ?_
        refine lv_iload_n hx hb d_Sol_firstWaiting_17 rfl (lv_at hl 0 rfl) ?_
        obtain ⟨r6, hc5, hf⟩ := gb hf
        refine kP (va_runVN (C := R_Dem) (As := [.int y1_2]) (rest := []) ⟨hx, hb, hml, hown, hts⟩ (c_Dem_sortOf l D cI a_this_demands a_this_demands_sorts a_this_demands_subjects a_this_demands_variables v_this_demands_sorts y1_2 hc5) ⟨va_cnB (host := "KindDesk") 1 hts (good_c q_122) rfl rfl rfl (hN _ (List.mem_of_getElem? (i := 30) rfl)) (hts _ q_107) hd_Dem_sortOf ⟨Nat.le_of_ble_eq_true rfl, Nat.le_of_ble_eq_true rfl⟩, (hts _ q_123), (hts _ q_124)⟩ (preVP hP hK hN [1, 2] rfl rfl rfl) rfl rfl hl.1 rfl (lv_room (Nat.le_of_ble_eq_true rfl)) d_Sol_firstWaiting_18 ⟨Nat.zero_le _, Nat.zero_le _⟩) (fun hz7 => ?_)
        refine lv_iconst (v := 3) hx hb d_Sol_firstWaiting_21 (by decide) ?_
        refine lv_icmp_ne (tgt := 36) hx hb d_Sol_firstWaiting_22 (by decide) (fun c8 => ?_) (fun c8 => ?_)
        · replace hf := gn c8 hf
          refine lv_iinc (v := (y1_2 + 1)) (lv' := [(1, .int (y1_2 + 1)), (0, .ref a_this)]) hx hb d_Sol_firstWaiting_36 hl (k := 0) rfl rfl (by decide) rfl (fun ls hl => ?_)
          refine lv_goto (tgt := 2) hx hb d_Sol_firstWaiting_39 (by decide) ?_
          exact ih2 (y1_2 + 1) _ (lv_sub hl [0, 1] rfl) hf
        · replace hf := gp c8 hf
          refine lv_aload_n hx hb d_Sol_firstWaiting_25 rfl (lv_at hl 1 rfl) ?_
          refine lv_iload_n hx hb d_Sol_firstWaiting_26 rfl (lv_at hl 0 rfl) ?_
          obtain ⟨r10, hc9, hf⟩ := gb hf
          refine kP (va_runV (C := R_Sol) (As := [.int y1_2]) (rest := []) ⟨hx, hb, hml, hown, hts⟩ (c_Sol_meaningOf l D cI a_this a_this_kinds a_this_predicates a_this_demands a_this_groups a_this_meanings v_this_settled v_this_rounds v_this_culprit v_this_meanings y1_2 hc9) ⟨callB_of 1 hts (good_c q_128) rfl rfl rfl (hts _ q_114) (hts _ q_129) hd_Sol_meaningOf ⟨Nat.le_of_ble_eq_true rfl, Nat.le_of_ble_eq_true rfl⟩, (hts _ q_130), (hts _ q_131)⟩ (preVP hP hK hN [0, 4] rfl rfl rfl) rfl rfl hl.1 rfl (lv_room (Nat.le_of_ble_eq_true rfl)) d_Sol_firstWaiting_27 ⟨Nat.zero_le _, Nat.zero_le _⟩) (fun hz11 => ?_)
          refine lv_iconst (v := (-1)) hx hb d_Sol_firstWaiting_30 (by decide) ?_
          refine lv_icmp_ne (tgt := 36) hx hb d_Sol_firstWaiting_31 (by decide) (fun c12 => ?_) (fun c12 => ?_)
          · replace hf := gn c12 hf
            refine lv_iinc (v := (y1_2 + 1)) (lv' := [(1, .int (y1_2 + 1)), (0, .ref a_this)]) hx hb d_Sol_firstWaiting_36 hl (k := 0) rfl rfl (by decide) rfl (fun ls hl => ?_)
            refine lv_goto (tgt := 2) hx hb d_Sol_firstWaiting_39 (by decide) ?_
            exact ih2 (y1_2 + 1) _ (lv_sub hl [0, 1] rfl) hf
          · replace hf := gp c12 hf
            refine lv_iload_n hx hb d_Sol_firstWaiting_34 rfl (lv_at hl 0 rfl) ?_
            cases hf
            exact hret _ _ rfl d_Sol_firstWaiting_35
  refine lp2 _ (fun y1_2 ls hl hf => ?_) FU 0 _ (lv_sub hl [0, 1] rfl) hf
  refine lv_iconst (v := (-1)) hx hb d_Sol_firstWaiting_42 (by decide) ?_
  cases hf
  exact hret _ _ rfl d_Sol_firstWaiting_43
def f_Sol_leastWithoutKind_L18 (v_this_demands_variables_size : Int32) (v_this_demands_variables_lengths : Nat → Int32) (v_this_demands_variables_cells : Nat → Int32) (v_this_groups_groups : Nat → Int32) (v_this_groups_groupKinds : Nat → Int32) (y2_5 : Int32) (k : Int32 → Int32 → Option (Int32)) : Nat → Int32 → Int32 → Option (Int32)
  | 0, _, _ => none
  | n + 1, y1_18, y3_18 =>
    (f_Tab_length 200 v_this_demands_variables_size v_this_demands_variables_lengths y2_5).bind fun r6 =>
    if r6 ≤ y3_18 then
      k y1_18 y3_18
    else
      (f_Tab_at 200 1200 v_this_demands_variables_size v_this_demands_variables_lengths v_this_demands_variables_cells y2_5 y3_18).bind fun r10 =>
      (f_Gro_kindOf v_this_groups_groups v_this_groups_groupKinds r10).bind fun r13 =>
      if r13 = (-1) then
        f_Sol_leastWithoutKind_L18 v_this_demands_variables_size v_this_demands_variables_lengths v_this_demands_variables_cells v_this_groups_groups v_this_groups_groupKinds y2_5 k n (if r10 < y1_18 then r10 else y1_18) (y3_18 + 1)
      else
        f_Sol_leastWithoutKind_L18 v_this_demands_variables_size v_this_demands_variables_lengths v_this_demands_variables_cells v_this_groups_groups v_this_groups_groupKinds y2_5 k n y1_18 (y3_18 + 1)
def f_Sol_leastWithoutKind_L5 (v_this_demands_variables_size : Int32) (v_this_demands_variables_lengths : Nat → Int32) (v_this_demands_variables_cells : Nat → Int32) (v_this_groups_groups : Nat → Int32) (v_this_groups_groupKinds : Nat → Int32) (k : Int32 → Int32 → Option (Int32)) : Nat → Int32 → Int32 → Option (Int32)
  | 0, _, _ => none
  | n + 1, y1_5, y2_5 =>
    (f_Dem_count v_this_demands_variables_size).bind fun r2 =>
    if r2 ≤ y2_5 then
      k y1_5 y2_5
    else
      f_Sol_leastWithoutKind_L18 v_this_demands_variables_size v_this_demands_variables_lengths v_this_demands_variables_cells v_this_groups_groups v_this_groups_groupKinds y2_5 (fun y1_18 y3_18 =>
        f_Sol_leastWithoutKind_L5 v_this_demands_variables_size v_this_demands_variables_lengths v_this_demands_variables_cells v_this_groups_groups v_this_groups_groupKinds k n y1_18 (y2_5 + 1)) FU y1_5 0
def f_Sol_leastWithoutKind (v_this_demands_variables_size : Int32) (v_this_demands_variables_lengths : Nat → Int32) (v_this_demands_variables_cells : Nat → Int32) (v_this_groups_groups : Nat → Int32) (v_this_groups_groupKinds : Nat → Int32) : Option (Int32) :=
  f_Sol_leastWithoutKind_L5 v_this_demands_variables_size v_this_demands_variables_lengths v_this_demands_variables_cells v_this_groups_groups v_this_groups_groupKinds (fun y1_5 y2_5 =>
    if 80 ≤ y1_5 then
      some (-1)
    else
      some y1_5) FU 80 0
abbrev rm_Sol_leastWithoutKind : Room := { frames := 2, cells := 0, slots := 0, locals := 41 }
set_option maxHeartbeats 4000000 in
set_option maxRecDepth 100000 in
theorem c_Sol_leastWithoutKind (l : Launch) (D : va_G) (cI : ClassId) (a_this a_this_kinds a_this_predicates a_this_demands a_this_groups a_this_meanings a_this_demands_sorts a_this_demands_subjects a_this_demands_variables a_this_demands_variables_lengths a_this_demands_variables_cells a_this_groups_groups a_this_groups_groupKinds : Nat) (v_this_settled : Int32) (v_this_rounds : Int32) (v_this_culprit : Int32) (v_this_demands_variables_size : Int32) (v_this_demands_variables_lengths : Nat → Int32) (v_this_demands_variables_cells : Nat → Int32) (v_this_groups_changes : Int32) (v_this_groups_groups : Nat → Int32) (v_this_groups_groupKinds : Nat → Int32) {r_ : Int32} (hf : f_Sol_leastWithoutKind v_this_demands_variables_size v_this_demands_variables_lengths v_this_demands_variables_cells v_this_groups_groups v_this_groups_groupKinds = some r_) : CtP l y_Sol_leastWithoutKind ws_Sol_leastWithoutKind rm_Sol_leastWithoutKind D cI [(a_this, .inr (5, [.ref a_this_kinds, .ref a_this_predicates, .ref a_this_demands, .ref a_this_groups, .ref a_this_meanings, .int v_this_settled, .int v_this_rounds, .int v_this_culprit])), (a_this_demands, .inr (3, [.ref a_this_demands_sorts, .ref a_this_demands_subjects, .ref a_this_demands_variables])), (a_this_demands_variables, .inr (1, [.ref a_this_demands_variables_lengths, .ref a_this_demands_variables_cells, .int v_this_demands_variables_size])), (a_this_demands_variables_lengths, .inl (cI, 200, .inl v_this_demands_variables_lengths)), (a_this_demands_variables_cells, .inl (cI, 1200, .inl v_this_demands_variables_cells)), (a_this_groups, .inr (4, [.ref a_this_groups_groups, .ref a_this_groups_groupKinds, .int v_this_groups_changes])), (a_this_groups_groups, .inl (cI, 80, .inl v_this_groups_groups)), (a_this_groups_groupKinds, .inl (cI, 80, .inl v_this_groups_groupKinds))] [.ref a_this] .int r_ := by
  refine CtP.ofW (cc := b_Sol_leastWithoutKind) (maxL := 5) (ty := .int) (by decide) rfl (Nat.le_of_ble_eq_true rfl) ?_
  intro p e s m args below meth c Q hx hb hml hown hts hP hK hN hret ls hl
  have hl : lv_has ls 5 [(0, .ref a_this)] := hl
  unfold f_Sol_leastWithoutKind at hf
  refine lv_bipush (v := 80) hx hb d_Sol_leastWithoutKind_0 (by decide) ?_
  refine lv_istore_n (lv' := [(1, .int 80), (0, .ref a_this)]) hx hb d_Sol_leastWithoutKind_2 rfl hl (by decide) rfl (fun ls hl => ?_)
  refine lv_iconst (v := 0) hx hb d_Sol_leastWithoutKind_3 (by decide) ?_
  refine lv_istore_n (lv' := [(2, .int 0), (1, .int 80), (0, .ref a_this)]) hx hb d_Sol_leastWithoutKind_4 rfl hl (by decide) rfl (fun ls hl => ?_)
  have lp5 : ∀ (kk : Int32 → Int32 → Option (Int32)), (∀ (y1_5 : Int32) (y2_5 : Int32) (ls : Array Slot), lv_has ls 5 [(2, .int y2_5), (1, .int y1_5), (0, .ref a_this)] → kk y1_5 y2_5 = some r_ → W p l e rm_Sol_leastWithoutKind s m args below meth c s.heap [] 0 0 Q (F0 m 79 ls [])) → ∀ (n : Nat) (y1_5 : Int32) (y2_5 : Int32) (ls : Array Slot), lv_has ls 5 [(2, .int y2_5), (1, .int y1_5), (0, .ref a_this)] → f_Sol_leastWithoutKind_L5 v_this_demands_variables_size v_this_demands_variables_lengths v_this_demands_variables_cells v_this_groups_groups v_this_groups_groupKinds kk n y1_5 y2_5 = some r_ → W p l e rm_Sol_leastWithoutKind s m args below meth c s.heap [] 0 0 Q (F0 m 5 ls []) := by
    intro kk hk5 n
    induction n with
    | zero =>
      intro y1_5 y2_5 ls hl hf
      rw [f_Sol_leastWithoutKind_L5] at hf
      cases hf
    | succ n ih5 =>
      intro y1_5 y2_5 ls hl hf
      rw [f_Sol_leastWithoutKind_L5] at hf
      refine lv_iload_n hx hb d_Sol_leastWithoutKind_5 rfl (lv_at hl 0 rfl) ?_
      refine lv_aload_n hx hb d_Sol_leastWithoutKind_6 rfl (lv_at hl 2 rfl) ?_
      refine va_get (D := D) (ci := 5) (v := .ref a_this_demands) (C := R_Sol) (T := T_Sol) (N := 8) hx hb hts in_Sol hown hK hP 0 rfl rfl 2 (by decide) (hts _ q_95) (fun _ h9 => h9) rfl d_Sol_leastWithoutKind_7 ?_
      obtain ⟨r2, hc1, hf⟩ := gb hf
      refine kP (va_runVN (C := R_Dem) (As := []) (rest := [.int y2_5]) ⟨hx, hb, hml, hown, hts⟩ (c_Dem_count l D cI a_this_demands a_this_demands_sorts a_this_demands_subjects a_this_demands_variables a_this_demands_variables_lengths a_this_demands_variables_cells v_this_demands_variables_size hc1) ⟨va_cnB (host := "KindDesk") 0 hts (good_c q_136) rfl rfl rfl (hN _ (List.mem_of_getElem? (i := 32) rfl)) (hts _ q_107) hd_Dem_count ⟨Nat.le_of_ble_eq_true rfl, Nat.le_of_ble_eq_true rfl⟩, (hts _ q_137), (hts _ q_138)⟩ (preVP hP hK hN [1, 2] rfl rfl rfl) rfl rfl hl.1 rfl (lv_room (Nat.le_of_ble_eq_true rfl)) d_Sol_leastWithoutKind_10 ⟨Nat.zero_le _, Nat.zero_le _⟩) (fun hz3 => ?_)
      refine lv_icmp_ge (tgt := 79) hx hb d_Sol_leastWithoutKind_13 (by decide) (fun c4 => ?_) (fun c4 => ?_)
      · replace hf := gp c4 hf
        exact hk5 y1_5 y2_5 _ (lv_sub hl [0, 1, 2] rfl) hf
      · replace hf := gn c4 hf
        refine lv_iconst (v := 0) hx hb d_Sol_leastWithoutKind_16 (by decide) ?_
        refine lv_istore_n (lv' := [(3, .int 0), (2, .int y2_5), (1, .int y1_5), (0, .ref a_this)]) hx hb d_Sol_leastWithoutKind_17 rfl hl (by decide) rfl (fun ls hl => ?_)
        have lp18 : ∀ (kk : Int32 → Int32 → Option (Int32)), (∀ (y1_18 : Int32) (y3_18 : Int32) (ls : Array Slot), lv_has ls 5 [(3, .int y3_18), (2, .int y2_5), (1, .int y1_18), (0, .ref a_this)] → kk y1_18 y3_18 = some r_ → W p l e rm_Sol_leastWithoutKind s m args below meth c s.heap [] 0 0 Q (F0 m 73 ls [])) → ∀ (n : Nat) (y1_18 : Int32) (y3_18 : Int32) (ls : Array Slot), lv_has ls 5 [(3, .int y3_18), (2, .int y2_5), (1, .int y1_18), (0, .ref a_this)] → f_Sol_leastWithoutKind_L18 v_this_demands_variables_size v_this_demands_variables_lengths v_this_demands_variables_cells v_this_groups_groups v_this_groups_groupKinds y2_5 kk n y1_18 y3_18 = some r_ → W p l e rm_Sol_leastWithoutKind s m args below meth c s.heap [] 0 0 Q (F0 m 18 ls []) := by
          intro kk hk18 n
          induction n with
          | zero =>
            intro y1_18 y3_18 ls hl hf
            rw [f_Sol_leastWithoutKind_L18] at hf
            cases hf
          | succ n ih18 =>
            intro y1_18 y3_18 ls hl hf
            rw [f_Sol_leastWithoutKind_L18] at hf
            refine lv_iload_n hx hb d_Sol_leastWithoutKind_18 rfl (lv_at hl 0 rfl) ?_
            refine lv_aload_n hx hb d_Sol_leastWithoutKind_19 rfl (lv_at hl 3 rfl) ?_
            refine va_get (D := D) (ci := 5) (v := .ref a_this_demands) (C := R_Sol) (T := T_Sol) (N := 8) hx hb hts in_Sol hown hK hP 0 rfl rfl 2 (by decide) (hts _ q_95) (fun _ h9 => h9) rfl d_Sol_leastWithoutKind_20 ?_
            refine va_getN (host := "KindDesk") (D := D) (ci := 3) (v := .ref a_this_demands_variables) (C := R_Dem) (T := T_Dem) (N := 3) hx hb hts in_Dem hown hK hP 1 rfl rfl 2 (by decide) (va_Nw.use rfl (hN _ (List.mem_of_getElem? (i := 20) rfl))) (fun _ h9 => h9) rfl d_Sol_leastWithoutKind_23 ?_
            refine lv_iload_n hx hb d_Sol_leastWithoutKind_26 rfl (lv_at hl 1 rfl) ?_
            obtain ⟨r6, hc5, hf⟩ := gb hf
            refine kP (va_runVN (C := R_Tab) (As := [.int y2_5]) (rest := [.int y3_18]) ⟨hx, hb, hml, hown, hts⟩ (c_Tab_length l D cI a_this_demands_variables a_this_demands_variables_lengths a_this_demands_variables_cells 200 v_this_demands_variables_size v_this_demands_variables_lengths y2_5 hc5) ⟨va_cnB (host := "KindDesk") 1 hts (good_c q_41) rfl rfl rfl (hN _ (List.mem_of_getElem? (i := 19) rfl)) (hts _ q_15) hd_Tab_length ⟨Nat.le_of_ble_eq_true rfl, Nat.le_of_ble_eq_true rfl⟩, (hts _ q_42), (hts _ q_43)⟩ (preVP hP hK hN [2, 3] rfl rfl rfl) rfl rfl hl.1 rfl (lv_room (Nat.le_of_ble_eq_true rfl)) d_Sol_leastWithoutKind_27 ⟨Nat.zero_le _, Nat.zero_le _⟩) (fun hz7 => ?_)
            refine lv_icmp_ge (tgt := 73) hx hb d_Sol_leastWithoutKind_30 (by decide) (fun c8 => ?_) (fun c8 => ?_)
            · replace hf := gp c8 hf
              exact hk18 y1_18 y3_18 _ (lv_sub hl [0, 1, 2, 3] rfl) hf
            · replace hf := gn c8 hf
              refine lv_aload_n hx hb d_Sol_leastWithoutKind_33 rfl (lv_at hl 3 rfl) ?_
              refine va_get (D := D) (ci := 5) (v := .ref a_this_demands) (C := R_Sol) (T := T_Sol) (N := 8) hx hb hts in_Sol hown hK hP 0 rfl rfl 2 (by decide) (hts _ q_95) (fun _ h9 => h9) rfl d_Sol_leastWithoutKind_34 ?_
              refine va_getN (host := "KindDesk") (D := D) (ci := 3) (v := .ref a_this_demands_variables) (C := R_Dem) (T := T_Dem) (N := 3) hx hb hts in_Dem hown hK hP 1 rfl rfl 2 (by decide) (va_Nw.use rfl (hN _ (List.mem_of_getElem? (i := 20) rfl))) (fun _ h9 => h9) rfl d_Sol_leastWithoutKind_37 ?_
              refine lv_iload_n hx hb d_Sol_leastWithoutKind_40 rfl (lv_at hl 1 rfl) ?_
              refine lv_iload_n hx hb d_Sol_leastWithoutKind_41 rfl (lv_at hl 0 rfl) ?_
              obtain ⟨r10, hc9, hf⟩ := gb hf
              refine kP (va_runVN (C := R_Tab) (As := [.int y2_5, .int y3_18]) (rest := []) ⟨hx, hb, hml, hown, hts⟩ (c_Tab_at l D cI a_this_demands_variables a_this_demands_variables_lengths a_this_demands_variables_cells 200 1200 v_this_demands_variables_size v_this_demands_variables_lengths v_this_demands_variables_cells y2_5 y3_18 hc9) ⟨va_cnB (host := "KindDesk") 2 hts (good_c q_100) rfl rfl rfl (hN _ (List.mem_of_getElem? (i := 21) rfl)) (hts _ q_15) hd_Tab_at ⟨Nat.le_of_ble_eq_true rfl, Nat.le_of_ble_eq_true rfl⟩, (hts _ q_101), (hts _ q_102)⟩ (preVP hP hK hN [2, 3, 4] rfl rfl rfl) rfl rfl hl.1 rfl (lv_room (Nat.le_of_ble_eq_true rfl)) d_Sol_leastWithoutKind_42 ⟨Nat.zero_le _, Nat.zero_le _⟩) (fun hz11 => ?_)
              refine lv_istore (lv' := [(4, .int r10), (3, .int y3_18), (2, .int y2_5), (1, .int y1_18), (0, .ref a_this)]) hx hb d_Sol_leastWithoutKind_45 hl (by decide) rfl (fun ls hl => ?_)
              refine lv_aload_n hx hb d_Sol_leastWithoutKind_47 rfl (lv_at hl 4 rfl) ?_
              refine va_get (D := D) (ci := 5) (v := .ref a_this_groups) (C := R_Sol) (T := T_Sol) (N := 8) hx hb hts in_Sol hown hK hP 0 rfl rfl 3 (by decide) (hts _ q_88) (fun _ h9 => h9) rfl d_Sol_leastWithoutKind_48 ?_
              refine lv_iload hx hb d_Sol_leastWithoutKind_51 (lv_at hl 0 rfl) ?_
              obtain ⟨r13, hc12, hf⟩ := gb hf
              refine kP (va_runVN (C := R_Gro) (As := [.int r10]) (rest := []) ⟨hx, hb, hml, hown, hts⟩ (c_Gro_kindOf l D cI a_this_groups a_this_groups_groups a_this_groups_groupKinds v_this_groups_changes v_this_groups_groups v_this_groups_groupKinds r10 hc12) ⟨va_cnB (host := "KindDesk") 1 hts (good_c q_143) rfl rfl rfl (hN _ (List.mem_of_getElem? (i := 33) rfl)) (hts _ q_85) hd_Gro_kindOf ⟨Nat.le_of_ble_eq_true rfl, Nat.le_of_ble_eq_true rfl⟩, (hts _ q_144), (hts _ q_145)⟩ (preVP hP hK hN [5, 6, 7] rfl rfl rfl) rfl rfl hl.1 rfl (lv_room (Nat.le_of_ble_eq_true rfl)) d_Sol_leastWithoutKind_53 ⟨Nat.zero_le _, Nat.zero_le _⟩) (fun hz14 => ?_)
              refine lv_iconst (v := (-1)) hx hb d_Sol_leastWithoutKind_56 (by decide) ?_
              refine lv_icmp_ne (tgt := 67) hx hb d_Sol_leastWithoutKind_57 (by decide) (fun c15 => ?_) (fun c15 => ?_)
              · replace hf := gn c15 hf
                refine lv_iinc (v := (y3_18 + 1)) (lv' := [(3, .int (y3_18 + 1)), (4, .int r10), (2, .int y2_5), (1, .int y1_18), (0, .ref a_this)]) hx hb d_Sol_leastWithoutKind_67 hl (k := 1) rfl rfl (by decide) rfl (fun ls hl => ?_)
                refine lv_goto (tgt := 18) hx hb d_Sol_leastWithoutKind_70 (by decide) ?_
                exact ih18 y1_18 (y3_18 + 1) _ (lv_sub hl [0, 2, 3, 4] rfl) hf
              · replace hf := gp c15 hf
                refine lv_iload_n hx hb d_Sol_leastWithoutKind_60 rfl (lv_at hl 3 rfl) ?_
                refine lv_iload hx hb d_Sol_leastWithoutKind_61 (lv_at hl 0 rfl) ?_
                refine va_mmin hx hb (by rw [hml]; exact hl.1.symm) hown (hts _ q_146) (hts _ q_147) (hts _ q_10) (hts _ q_148) (Nat.le_of_ble_eq_true rfl) (Nat.le_of_ble_eq_true rfl) (Nat.le_of_ble_eq_true rfl) (Nat.le_of_ble_eq_true rfl) d_Sol_leastWithoutKind_63 ?_
                refine lv_istore_n (lv' := [(1, .int (if r10 < y1_18 then r10 else y1_18)), (4, .int r10), (3, .int y3_18), (2, .int y2_5), (0, .ref a_this)]) hx hb d_Sol_leastWithoutKind_66 rfl hl (by decide) rfl (fun ls hl => ?_)
                refine lv_iinc (v := (y3_18 + 1)) (lv' := [(3, .int (y3_18 + 1)), (1, .int (if r10 < y1_18 then r10 else y1_18)), (4, .int r10), (2, .int y2_5), (0, .ref a_this)]) hx hb d_Sol_leastWithoutKind_67 hl (k := 2) rfl rfl (by decide) rfl (fun ls hl => ?_)
                refine lv_goto (tgt := 18) hx hb d_Sol_leastWithoutKind_70 (by decide) ?_
                exact ih18 (if r10 < y1_18 then r10 else y1_18) (y3_18 + 1) _ (lv_sub hl [0, 3, 1, 4] rfl) hf
        refine lp18 _ (fun y1_18 y3_18 ls hl hf => ?_) FU y1_5 0 _ (lv_sub hl [0, 1, 2, 3] rfl) hf
        refine lv_iinc (v := (y2_5 + 1)) (lv' := [(2, .int (y2_5 + 1)), (3, .int y3_18), (1, .int y1_18), (0, .ref a_this)]) hx hb d_Sol_leastWithoutKind_73 hl (k := 1) rfl rfl (by decide) rfl (fun ls hl => ?_)
        refine lv_goto (tgt := 5) hx hb d_Sol_leastWithoutKind_76 (by decide) ?_
        exact ih5 y1_18 (y2_5 + 1) _ (lv_sub hl [0, 2, 3] rfl) hf
  refine lp5 _ (fun y1_5 y2_5 ls hl hf => ?_) FU 80 0 _ (lv_sub hl [0, 1, 2] rfl) hf
  refine lv_iload_n hx hb d_Sol_leastWithoutKind_79 rfl (lv_at hl 1 rfl) ?_
  refine lv_bipush (v := 80) hx hb d_Sol_leastWithoutKind_80 (by decide) ?_
  refine lv_icmp_ge (tgt := 89) hx hb d_Sol_leastWithoutKind_82 (by decide) (fun c16 => ?_) (fun c16 => ?_)
  · replace hf := gp c16 hf
    refine lv_iconst (v := (-1)) hx hb d_Sol_leastWithoutKind_89 (by decide) ?_
    cases hf
    exact hret _ _ rfl d_Sol_leastWithoutKind_90
  · replace hf := gn c16 hf
    refine lv_iload_n hx hb d_Sol_leastWithoutKind_85 rfl (lv_at hl 1 rfl) ?_
    refine lv_goto (tgt := 90) hx hb d_Sol_leastWithoutKind_86 (by decide) ?_
    cases hf
    exact hret _ _ rfl d_Sol_leastWithoutKind_90
def f_Sol_run_L6 (v_this_kinds_owners : Nat → Int32) (v_this_kinds_names : Nat → Int32) (v_this_kinds_fields_size : Int32) (v_this_kinds_fields_lengths : Nat → Int32) (v_this_kinds_fields_cells : Nat → Int32) (v_this_predicates_size : Int32) (v_this_predicates_lengths : Nat → Int32) (v_this_predicates_cells : Nat → Int32) (v_this_demands_sorts : Nat → Int32) (v_this_demands_subjects : Nat → Int32) (v_this_demands_variables_size : Int32) (v_this_demands_variables_lengths : Nat → Int32) (v_this_demands_variables_cells : Nat → Int32) (k : Int32 → Int32 → Int32 → Int32 → Int32 → (Nat → Int32) → (Nat → Int32) → (Nat → Int32) → Option (Int32 × Int32 × Int32 × Int32 × Int32 × (Nat → Int32) × (Nat → Int32) × (Nat → Int32))) : Nat → Int32 → Int32 → Int32 → Int32 → Int32 → (Nat → Int32) → (Nat → Int32) → (Nat → Int32) → Option (Int32 × Int32 × Int32 × Int32 × Int32 × (Nat → Int32) × (Nat → Int32) × (Nat → Int32))
  | 0, _, _, _, _, _, _, _, _ => none
  | n + 1, y1_6, w_this_settled_6, w_this_rounds_6, w_this_culprit_6, w_this_groups_changes_6, w_this_groups_groups_6, w_this_groups_groupKinds_6, w_this_meanings_6 =>
    if 361 ≤ w_this_rounds_6 then
      k y1_6 w_this_settled_6 w_this_rounds_6 w_this_culprit_6 w_this_groups_changes_6 w_this_groups_groups_6 w_this_groups_groupKinds_6 w_this_meanings_6
    else
      if w_this_culprit_6 = (-1) then
        (f_Sol_changes w_this_settled_6 w_this_groups_changes_6).bind fun r13 =>
        if y1_6 = r13 then
          k y1_6 w_this_settled_6 w_this_rounds_6 w_this_culprit_6 w_this_groups_changes_6 w_this_groups_groups_6 w_this_groups_groupKinds_6 w_this_meanings_6
        else
          (f_Sol_changes w_this_settled_6 w_this_groups_changes_6).bind fun r17 =>
          (f_Sol_goRound w_this_settled_6 v_this_kinds_owners v_this_kinds_names v_this_kinds_fields_size v_this_kinds_fields_lengths v_this_kinds_fields_cells v_this_predicates_size v_this_predicates_lengths v_this_predicates_cells v_this_demands_sorts v_this_demands_subjects v_this_demands_variables_size v_this_demands_variables_lengths v_this_demands_variables_cells w_this_groups_changes_6 w_this_groups_groups_6 w_this_groups_groupKinds_6 w_this_meanings_6).bind fun (r20, u_21, u_22, u_23, u_24, u_25) =>
          f_Sol_run_L6 v_this_kinds_owners v_this_kinds_names v_this_kinds_fields_size v_this_kinds_fields_lengths v_this_kinds_fields_cells v_this_predicates_size v_this_predicates_lengths v_this_predicates_cells v_this_demands_sorts v_this_demands_subjects v_this_demands_variables_size v_this_demands_variables_lengths v_this_demands_variables_cells k n r17 u_21 (w_this_rounds_6 + 1) r20 u_22 u_23 u_24 u_25
      else
        k y1_6 w_this_settled_6 w_this_rounds_6 w_this_culprit_6 w_this_groups_changes_6 w_this_groups_groups_6 w_this_groups_groupKinds_6 w_this_meanings_6
def f_Sol_run (v_this_kinds_owners : Nat → Int32) (v_this_kinds_names : Nat → Int32) (v_this_kinds_fields_size : Int32) (v_this_kinds_fields_lengths : Nat → Int32) (v_this_kinds_fields_cells : Nat → Int32) (v_this_predicates_size : Int32) (v_this_predicates_lengths : Nat → Int32) (v_this_predicates_cells : Nat → Int32) (v_this_demands_sorts : Nat → Int32) (v_this_demands_subjects : Nat → Int32) (v_this_demands_variables_size : Int32) (v_this_demands_variables_lengths : Nat → Int32) (v_this_demands_variables_cells : Nat → Int32) (v_this_groups_groups : Nat → Int32) (v_this_groups_groupKinds : Nat → Int32) (v_this_meanings : Nat → Int32) : Option (Int32 × Int32 × Int32 × Int32 × Int32 × (Nat → Int32) × (Nat → Int32) × (Nat → Int32)) :=
  (f_Sol_begin v_this_groups_groups v_this_groups_groupKinds v_this_meanings).bind fun (u_2, u_3, u_4, u_5, u_6, u_7, u_8) =>
  f_Sol_run_L6 v_this_kinds_owners v_this_kinds_names v_this_kinds_fields_size v_this_kinds_fields_lengths v_this_kinds_fields_cells v_this_predicates_size v_this_predicates_lengths v_this_predicates_cells v_this_demands_sorts v_this_demands_subjects v_this_demands_variables_size v_this_demands_variables_lengths v_this_demands_variables_cells (fun y1_6 w_this_settled_6 w_this_rounds_6 w_this_culprit_6 w_this_groups_changes_6 w_this_groups_groups_6 w_this_groups_groupKinds_6 w_this_meanings_6 =>
    if w_this_culprit_6 = (-1) then
      (f_Sol_firstWaiting v_this_demands_sorts v_this_demands_variables_size w_this_meanings_6).bind fun r29 =>
      if r29 = (-1) then
        (f_Sol_leastWithoutKind v_this_demands_variables_size v_this_demands_variables_lengths v_this_demands_variables_cells w_this_groups_groups_6 w_this_groups_groupKinds_6).bind fun r33 =>
        if r33 = (-1) then
          some (0, w_this_settled_6, w_this_rounds_6, r33, w_this_groups_changes_6, w_this_groups_groups_6, w_this_groups_groupKinds_6, w_this_meanings_6)
        else
          some (3, w_this_settled_6, w_this_rounds_6, r33, w_this_groups_changes_6, w_this_groups_groups_6, w_this_groups_groupKinds_6, w_this_meanings_6)
      else
        some (2, w_this_settled_6, w_this_rounds_6, r29, w_this_groups_changes_6, w_this_groups_groups_6, w_this_groups_groupKinds_6, w_this_meanings_6)
    else
      some (1, w_this_settled_6, w_this_rounds_6, w_this_culprit_6, w_this_groups_changes_6, w_this_groups_groups_6, w_this_groups_groupKinds_6, w_this_meanings_6)) FU (-1) u_2 u_3 u_4 u_5 u_6 u_7 u_8
abbrev rm_Sol_run : Room := { frames := 6, cells := 0, slots := 0, locals := 134 }
set_option maxHeartbeats 4000000 in
set_option maxRecDepth 100000 in
theorem c_Sol_run (l : Launch) (D : va_G) (cI : ClassId) (a_this a_this_kinds a_this_predicates a_this_demands a_this_groups a_this_meanings a_this_kinds_owners a_this_kinds_names a_this_kinds_fields a_this_kinds_fields_lengths a_this_kinds_fields_cells a_this_predicates_lengths a_this_predicates_cells a_this_demands_sorts a_this_demands_subjects a_this_demands_variables a_this_demands_variables_lengths a_this_demands_variables_cells a_this_groups_groups a_this_groups_groupKinds : Nat) (v_this_settled : Int32) (v_this_rounds : Int32) (v_this_culprit : Int32) (v_this_kinds_size : Int32) (v_this_kinds_owners : Nat → Int32) (v_this_kinds_names : Nat → Int32) (v_this_kinds_fields_size : Int32) (v_this_kinds_fields_lengths : Nat → Int32) (v_this_kinds_fields_cells : Nat → Int32) (v_this_predicates_size : Int32) (v_this_predicates_lengths : Nat → Int32) (v_this_predicates_cells : Nat → Int32) (v_this_demands_sorts : Nat → Int32) (v_this_demands_subjects : Nat → Int32) (v_this_demands_variables_size : Int32) (v_this_demands_variables_lengths : Nat → Int32) (v_this_demands_variables_cells : Nat → Int32) (v_this_groups_changes : Int32) (v_this_groups_groups : Nat → Int32) (v_this_groups_groupKinds : Nat → Int32) (v_this_meanings : Nat → Int32) {r_ : Int32} {v_this_settled' : Int32} {v_this_rounds' : Int32} {v_this_culprit' : Int32} {v_this_groups_changes' : Int32} {v_this_groups_groups' : Nat → Int32} {v_this_groups_groupKinds' : Nat → Int32} {v_this_meanings' : Nat → Int32} (hf : f_Sol_run v_this_kinds_owners v_this_kinds_names v_this_kinds_fields_size v_this_kinds_fields_lengths v_this_kinds_fields_cells v_this_predicates_size v_this_predicates_lengths v_this_predicates_cells v_this_demands_sorts v_this_demands_subjects v_this_demands_variables_size v_this_demands_variables_lengths v_this_demands_variables_cells v_this_groups_groups v_this_groups_groupKinds v_this_meanings = some (r_, v_this_settled', v_this_rounds', v_this_culprit', v_this_groups_changes', v_this_groups_groups', v_this_groups_groupKinds', v_this_meanings')) : CtI l y_Sol_run ws_Sol_run rm_Sol_run D cI [(a_this, .inr (5, [.ref a_this_kinds, .ref a_this_predicates, .ref a_this_demands, .ref a_this_groups, .ref a_this_meanings, .int v_this_settled, .int v_this_rounds, .int v_this_culprit])), (a_this_kinds, .inr (2, [.ref a_this_kinds_owners, .ref a_this_kinds_names, .ref a_this_kinds_fields, .int v_this_kinds_size])), (a_this_kinds_owners, .inl (cI, 100, .inl v_this_kinds_owners)), (a_this_kinds_names, .inl (cI, 100, .inl v_this_kinds_names)), (a_this_kinds_fields, .inr (1, [.ref a_this_kinds_fields_lengths, .ref a_this_kinds_fields_cells, .int v_this_kinds_fields_size])), (a_this_kinds_fields_lengths, .inl (cI, 100, .inl v_this_kinds_fields_lengths)), (a_this_kinds_fields_cells, .inl (cI, 600, .inl v_this_kinds_fields_cells)), (a_this_predicates, .inr (1, [.ref a_this_predicates_lengths, .ref a_this_predicates_cells, .int v_this_predicates_size])), (a_this_predicates_lengths, .inl (cI, 60, .inl v_this_predicates_lengths)), (a_this_predicates_cells, .inl (cI, 360, .inl v_this_predicates_cells)), (a_this_demands, .inr (3, [.ref a_this_demands_sorts, .ref a_this_demands_subjects, .ref a_this_demands_variables])), (a_this_demands_sorts, .inl (cI, 200, .inl v_this_demands_sorts)), (a_this_demands_subjects, .inl (cI, 200, .inl v_this_demands_subjects)), (a_this_demands_variables, .inr (1, [.ref a_this_demands_variables_lengths, .ref a_this_demands_variables_cells, .int v_this_demands_variables_size])), (a_this_demands_variables_lengths, .inl (cI, 200, .inl v_this_demands_variables_lengths)), (a_this_demands_variables_cells, .inl (cI, 1200, .inl v_this_demands_variables_cells)), (a_this_groups, .inr (4, [.ref a_this_groups_groups, .ref a_this_groups_groupKinds, .int v_this_groups_changes])), (a_this_groups_groups, .inl (cI, 80, .inl v_this_groups_groups)), (a_this_groups_groupKinds, .inl (cI, 80, .inl v_this_groups_groupKinds)), (a_this_meanings, .inl (cI, 200, .inl v_this_meanings))] [(a_this, .inr (5, [.ref a_this_kinds, .ref a_this_predicates, .ref a_this_demands, .ref a_this_groups, .ref a_this_meanings, .int v_this_settled', .int v_this_rounds', .int v_this_culprit'])), (a_this_kinds, .inr (2, [.ref a_this_kinds_owners, .ref a_this_kinds_names, .ref a_this_kinds_fields, .int v_this_kinds_size])), (a_this_kinds_owners, .inl (cI, 100, .inl v_this_kinds_owners)), (a_this_kinds_names, .inl (cI, 100, .inl v_this_kinds_names)), (a_this_kinds_fields, .inr (1, [.ref a_this_kinds_fields_lengths, .ref a_this_kinds_fields_cells, .int v_this_kinds_fields_size])), (a_this_kinds_fields_lengths, .inl (cI, 100, .inl v_this_kinds_fields_lengths)), (a_this_kinds_fields_cells, .inl (cI, 600, .inl v_this_kinds_fields_cells)), (a_this_predicates, .inr (1, [.ref a_this_predicates_lengths, .ref a_this_predicates_cells, .int v_this_predicates_size])), (a_this_predicates_lengths, .inl (cI, 60, .inl v_this_predicates_lengths)), (a_this_predicates_cells, .inl (cI, 360, .inl v_this_predicates_cells)), (a_this_demands, .inr (3, [.ref a_this_demands_sorts, .ref a_this_demands_subjects, .ref a_this_demands_variables])), (a_this_demands_sorts, .inl (cI, 200, .inl v_this_demands_sorts)), (a_this_demands_subjects, .inl (cI, 200, .inl v_this_demands_subjects)), (a_this_demands_variables, .inr (1, [.ref a_this_demands_variables_lengths, .ref a_this_demands_variables_cells, .int v_this_demands_variables_size])), (a_this_demands_variables_lengths, .inl (cI, 200, .inl v_this_demands_variables_lengths)), (a_this_demands_variables_cells, .inl (cI, 1200, .inl v_this_demands_variables_cells)), (a_this_groups, .inr (4, [.ref a_this_groups_groups, .ref a_this_groups_groupKinds, .int v_this_groups_changes'])), (a_this_groups_groups, .inl (cI, 80, .inl v_this_groups_groups')), (a_this_groups_groupKinds, .inl (cI, 80, .inl v_this_groups_groupKinds')), (a_this_meanings, .inl (cI, 200, .inl v_this_meanings'))] [.ref a_this] .int r_ := by
  refine CtI.ofW (cc := b_Sol_run) (maxL := 2) (ty := .int) (by decide) rfl (Nat.le_of_ble_eq_true rfl) ?_
  intro p e s m args below meth c Q A hx hb hml hown hts hP hK hN hA hD hret ls hl
  have hS : va_S A s.heap s.heap [] := va_S.rf
  have hDL : DL A [a_this, a_this_kinds, a_this_kinds_owners, a_this_kinds_names, a_this_kinds_fields, a_this_kinds_fields_lengths, a_this_kinds_fields_cells, a_this_predicates, a_this_predicates_lengths, a_this_predicates_cells, a_this_demands, a_this_demands_sorts, a_this_demands_subjects, a_this_demands_variables, a_this_demands_variables_lengths, a_this_demands_variables_cells, a_this_groups, a_this_groups_groups, a_this_groups_groupKinds, a_this_meanings] := DL.of hD rfl
  have hl : lv_has ls 2 [(0, .ref a_this)] := hl
  unfold f_Sol_run at hf
  refine lv_aload_n hx hb d_Sol_run_0 rfl (lv_at hl 0 rfl) ?_
  obtain ⟨⟨u_2, u_3, u_4, u_5, u_6, u_7, u_8⟩, hc1, hf⟩ := gb hf
  dsimp only at hf
  refine kV [(a_this, .inr (5, [.ref a_this_kinds, .ref a_this_predicates, .ref a_this_demands, .ref a_this_groups, .ref a_this_meanings, .int u_2, .int u_3, .int u_4])), (a_this_kinds, .inr (2, [.ref a_this_kinds_owners, .ref a_this_kinds_names, .ref a_this_kinds_fields, .int v_this_kinds_size])), (a_this_kinds_owners, .inl (cI, 100, .inl v_this_kinds_owners)), (a_this_kinds_names, .inl (cI, 100, .inl v_this_kinds_names)), (a_this_kinds_fields, .inr (1, [.ref a_this_kinds_fields_lengths, .ref a_this_kinds_fields_cells, .int v_this_kinds_fields_size])), (a_this_kinds_fields_lengths, .inl (cI, 100, .inl v_this_kinds_fields_lengths)), (a_this_kinds_fields_cells, .inl (cI, 600, .inl v_this_kinds_fields_cells)), (a_this_predicates, .inr (1, [.ref a_this_predicates_lengths, .ref a_this_predicates_cells, .int v_this_predicates_size])), (a_this_predicates_lengths, .inl (cI, 60, .inl v_this_predicates_lengths)), (a_this_predicates_cells, .inl (cI, 360, .inl v_this_predicates_cells)), (a_this_demands, .inr (3, [.ref a_this_demands_sorts, .ref a_this_demands_subjects, .ref a_this_demands_variables])), (a_this_demands_sorts, .inl (cI, 200, .inl v_this_demands_sorts)), (a_this_demands_subjects, .inl (cI, 200, .inl v_this_demands_subjects)), (a_this_demands_variables, .inr (1, [.ref a_this_demands_variables_lengths, .ref a_this_demands_variables_cells, .int v_this_demands_variables_size])), (a_this_demands_variables_lengths, .inl (cI, 200, .inl v_this_demands_variables_lengths)), (a_this_demands_variables_cells, .inl (cI, 1200, .inl v_this_demands_variables_cells)), (a_this_groups, .inr (4, [.ref a_this_groups_groups, .ref a_this_groups_groupKinds, .int u_5])), (a_this_groups_groups, .inl (cI, 80, .inl u_6)), (a_this_groups_groupKinds, .inl (cI, 80, .inl u_7)), (a_this_meanings, .inl (cI, 200, .inl u_8))] [0, 16, 17, 18, 19] [1, 2, 3, 4, 5, 6, 7, 8, 9, 10, 11, 12, 13, 14, 15] (va_runV (C := R_Sol) (As := []) (rest := []) ⟨hx, hb, hml, hown, hts⟩ (c_Sol_begin l D cI a_this a_this_kinds a_this_predicates a_this_demands a_this_groups a_this_meanings a_this_groups_groups a_this_groups_groupKinds v_this_settled v_this_rounds v_this_culprit v_this_groups_changes v_this_groups_groups v_this_groups_groupKinds v_this_meanings hc1 _) ⟨callB_of 0 hts (good_c q_149) rfl rfl rfl (hts _ q_114) (hts _ q_150) hd_Sol_begin ⟨Nat.le_of_ble_eq_true rfl, Nat.le_of_ble_eq_true rfl⟩, (hts _ q_151), (hts _ q_152)⟩ (preVM hP hK hN (hDL _ rfl) [0, 16, 17, 18, 19] (by decide +kernel) rfl rfl rfl) rfl rfl hl.1 rfl (lv_room (Nat.le_of_ble_eq_true rfl)) d_Sol_run_1 ⟨Nat.zero_le _, Nat.zero_le _⟩) hP (hDL _ rfl) hS hA rfl rfl (wr := [(a_this_kinds, .inr (2, [.ref a_this_kinds_owners, .ref a_this_kinds_names, .ref a_this_kinds_fields, .int v_this_kinds_size])), (a_this_kinds_owners, .inl (cI, 100, .inl v_this_kinds_owners)), (a_this_kinds_names, .inl (cI, 100, .inl v_this_kinds_names)), (a_this_kinds_fields, .inr (1, [.ref a_this_kinds_fields_lengths, .ref a_this_kinds_fields_cells, .int v_this_kinds_fields_size])), (a_this_kinds_fields_lengths, .inl (cI, 100, .inl v_this_kinds_fields_lengths)), (a_this_kinds_fields_cells, .inl (cI, 600, .inl v_this_kinds_fields_cells)), (a_this_predicates, .inr (1, [.ref a_this_predicates_lengths, .ref a_this_predicates_cells, .int v_this_predicates_size])), (a_this_predicates_lengths, .inl (cI, 60, .inl v_this_predicates_lengths)), (a_this_predicates_cells, .inl (cI, 360, .inl v_this_predicates_cells)), (a_this_demands, .inr (3, [.ref a_this_demands_sorts, .ref a_this_demands_subjects, .ref a_this_demands_variables])), (a_this_demands_sorts, .inl (cI, 200, .inl v_this_demands_sorts)), (a_this_demands_subjects, .inl (cI, 200, .inl v_this_demands_subjects)), (a_this_demands_variables, .inr (1, [.ref a_this_demands_variables_lengths, .ref a_this_demands_variables_cells, .int v_this_demands_variables_size])), (a_this_demands_variables_lengths, .inl (cI, 200, .inl v_this_demands_variables_lengths)), (a_this_demands_variables_cells, .inl (cI, 1200, .inl v_this_demands_variables_cells))]) rfl rfl (n := 20) rfl (by decide +kernel) (by decide +kernel) (fun H locs hP hS => ?_)
  refine lv_iconst (v := (-1)) hx hb d_Sol_run_4 (by decide) ?_
  refine lv_istore_n (lv' := [(1, .int (-1)), (0, .ref a_this)]) hx hb d_Sol_run_5 rfl hl (by decide) rfl (fun ls hl => ?_)
  have lp6 : ∀ (kk : Int32 → Int32 → Int32 → Int32 → Int32 → (Nat → Int32) → (Nat → Int32) → (Nat → Int32) → Option (Int32 × Int32 × Int32 × Int32 × Int32 × (Nat → Int32) × (Nat → Int32) × (Nat → Int32))), (∀ (y1_6 : Int32) (w_this_settled_6 : Int32) (w_this_rounds_6 : Int32) (w_this_culprit_6 : Int32) (w_this_groups_changes_6 : Int32) (w_this_groups_groups_6 : Nat → Int32) (w_this_groups_groupKinds_6 : Nat → Int32) (w_this_meanings_6 : Nat → Int32) (H : Heap) (locs : List Loc) (ls : Array Slot), va_P D vwCl [(a_this, .inr (5, [.ref a_this_kinds, .ref a_this_predicates, .ref a_this_demands, .ref a_this_groups, .ref a_this_meanings, .int w_this_settled_6, .int w_this_rounds_6, .int w_this_culprit_6])), (a_this_kinds, .inr (2, [.ref a_this_kinds_owners, .ref a_this_kinds_names, .ref a_this_kinds_fields, .int v_this_kinds_size])), (a_this_kinds_owners, .inl (cI, 100, .inl v_this_kinds_owners)), (a_this_kinds_names, .inl (cI, 100, .inl v_this_kinds_names)), (a_this_kinds_fields, .inr (1, [.ref a_this_kinds_fields_lengths, .ref a_this_kinds_fields_cells, .int v_this_kinds_fields_size])), (a_this_kinds_fields_lengths, .inl (cI, 100, .inl v_this_kinds_fields_lengths)), (a_this_kinds_fields_cells, .inl (cI, 600, .inl v_this_kinds_fields_cells)), (a_this_predicates, .inr (1, [.ref a_this_predicates_lengths, .ref a_this_predicates_cells, .int v_this_predicates_size])), (a_this_predicates_lengths, .inl (cI, 60, .inl v_this_predicates_lengths)), (a_this_predicates_cells, .inl (cI, 360, .inl v_this_predicates_cells)), (a_this_demands, .inr (3, [.ref a_this_demands_sorts, .ref a_this_demands_subjects, .ref a_this_demands_variables])), (a_this_demands_sorts, .inl (cI, 200, .inl v_this_demands_sorts)), (a_this_demands_subjects, .inl (cI, 200, .inl v_this_demands_subjects)), (a_this_demands_variables, .inr (1, [.ref a_this_demands_variables_lengths, .ref a_this_demands_variables_cells, .int v_this_demands_variables_size])), (a_this_demands_variables_lengths, .inl (cI, 200, .inl v_this_demands_variables_lengths)), (a_this_demands_variables_cells, .inl (cI, 1200, .inl v_this_demands_variables_cells)), (a_this_groups, .inr (4, [.ref a_this_groups_groups, .ref a_this_groups_groupKinds, .int w_this_groups_changes_6])), (a_this_groups_groups, .inl (cI, 80, .inl w_this_groups_groups_6)), (a_this_groups_groupKinds, .inl (cI, 80, .inl w_this_groups_groupKinds_6)), (a_this_meanings, .inl (cI, 200, .inl w_this_meanings_6))] H → va_S A s.heap H locs → lv_has ls 2 [(1, .int y1_6), (0, .ref a_this)] → kk y1_6 w_this_settled_6 w_this_rounds_6 w_this_culprit_6 w_this_groups_changes_6 w_this_groups_groups_6 w_this_groups_groupKinds_6 w_this_meanings_6 = some (r_, v_this_settled', v_this_rounds', v_this_culprit', v_this_groups_changes', v_this_groups_groups', v_this_groups_groupKinds', v_this_meanings') → W p l e rm_Sol_run s m args below meth c H locs 0 0 Q (F0 m 58 ls [])) → ∀ (n : Nat) (y1_6 : Int32) (w_this_settled_6 : Int32) (w_this_rounds_6 : Int32) (w_this_culprit_6 : Int32) (w_this_groups_changes_6 : Int32) (w_this_groups_groups_6 : Nat → Int32) (w_this_groups_groupKinds_6 : Nat → Int32) (w_this_meanings_6 : Nat → Int32) (H : Heap) (locs : List Loc) (ls : Array Slot), va_P D vwCl [(a_this, .inr (5, [.ref a_this_kinds, .ref a_this_predicates, .ref a_this_demands, .ref a_this_groups, .ref a_this_meanings, .int w_this_settled_6, .int w_this_rounds_6, .int w_this_culprit_6])), (a_this_kinds, .inr (2, [.ref a_this_kinds_owners, .ref a_this_kinds_names, .ref a_this_kinds_fields, .int v_this_kinds_size])), (a_this_kinds_owners, .inl (cI, 100, .inl v_this_kinds_owners)), (a_this_kinds_names, .inl (cI, 100, .inl v_this_kinds_names)), (a_this_kinds_fields, .inr (1, [.ref a_this_kinds_fields_lengths, .ref a_this_kinds_fields_cells, .int v_this_kinds_fields_size])), (a_this_kinds_fields_lengths, .inl (cI, 100, .inl v_this_kinds_fields_lengths)), (a_this_kinds_fields_cells, .inl (cI, 600, .inl v_this_kinds_fields_cells)), (a_this_predicates, .inr (1, [.ref a_this_predicates_lengths, .ref a_this_predicates_cells, .int v_this_predicates_size])), (a_this_predicates_lengths, .inl (cI, 60, .inl v_this_predicates_lengths)), (a_this_predicates_cells, .inl (cI, 360, .inl v_this_predicates_cells)), (a_this_demands, .inr (3, [.ref a_this_demands_sorts, .ref a_this_demands_subjects, .ref a_this_demands_variables])), (a_this_demands_sorts, .inl (cI, 200, .inl v_this_demands_sorts)), (a_this_demands_subjects, .inl (cI, 200, .inl v_this_demands_subjects)), (a_this_demands_variables, .inr (1, [.ref a_this_demands_variables_lengths, .ref a_this_demands_variables_cells, .int v_this_demands_variables_size])), (a_this_demands_variables_lengths, .inl (cI, 200, .inl v_this_demands_variables_lengths)), (a_this_demands_variables_cells, .inl (cI, 1200, .inl v_this_demands_variables_cells)), (a_this_groups, .inr (4, [.ref a_this_groups_groups, .ref a_this_groups_groupKinds, .int w_this_groups_changes_6])), (a_this_groups_groups, .inl (cI, 80, .inl w_this_groups_groups_6)), (a_this_groups_groupKinds, .inl (cI, 80, .inl w_this_groups_groupKinds_6)), (a_this_meanings, .inl (cI, 200, .inl w_this_meanings_6))] H → va_S A s.heap H locs → lv_has ls 2 [(1, .int y1_6), (0, .ref a_this)] → f_Sol_run_L6 v_this_kinds_owners v_this_kinds_names v_this_kinds_fields_size v_this_kinds_fields_lengths v_this_kinds_fields_cells v_this_predicates_size v_this_predicates_lengths v_this_predicates_cells v_this_demands_sorts v_this_demands_subjects v_this_demands_variables_size v_this_demands_variables_lengths v_this_demands_variables_cells kk n y1_6 w_this_settled_6 w_this_rounds_6 w_this_culprit_6 w_this_groups_changes_6 w_this_groups_groups_6 w_this_groups_groupKinds_6 w_this_meanings_6 = some (r_, v_this_settled', v_this_rounds', v_this_culprit', v_this_groups_changes', v_this_groups_groups', v_this_groups_groupKinds', v_this_meanings') → W p l e rm_Sol_run s m args below meth c H locs 0 0 Q (F0 m 6 ls []) := by
    intro kk hk6 n
    induction n with
    | zero =>
      intro y1_6 w_this_settled_6 w_this_rounds_6 w_this_culprit_6 w_this_groups_changes_6 w_this_groups_groups_6 w_this_groups_groupKinds_6 w_this_meanings_6 H locs ls hP hS hl hf
      rw [f_Sol_run_L6] at hf
      cases hf
    | succ n ih6 =>
      intro y1_6 w_this_settled_6 w_this_rounds_6 w_this_culprit_6 w_this_groups_changes_6 w_this_groups_groups_6 w_this_groups_groupKinds_6 w_this_meanings_6 H locs ls hP hS hl hf
      rw [f_Sol_run_L6] at hf
      refine lv_aload_n hx hb d_Sol_run_6 rfl (lv_at hl 1 rfl) ?_
      refine va_get (D := D) (ci := 5) (v := .int w_this_rounds_6) (C := R_Sol) (T := T_Sol) (N := 8) hx hb hts in_Sol hown hK hP 0 rfl rfl 6 (by decide) (hts _ q_91) (fun _ h9 => h9) rfl d_Sol_run_7 ?_
      refine lv_sipush (v := 361) hx hb d_Sol_run_10 (by decide) ?_
      refine lv_icmp_ge (tgt := 58) hx hb d_Sol_run_13 (by decide) (fun c10 => ?_) (fun c10 => ?_)
      · replace hf := gp c10 hf
        exact hk6 y1_6 w_this_settled_6 w_this_rounds_6 w_this_culprit_6 w_this_groups_changes_6 w_this_groups_groups_6 w_this_groups_groupKinds_6 w_this_meanings_6 _ _ _ hP hS (lv_sub hl [0, 1] rfl) hf
      · replace hf := gn c10 hf
        refine lv_aload_n hx hb d_Sol_run_16 rfl (lv_at hl 1 rfl) ?_
        refine va_get (D := D) (ci := 5) (v := .int w_this_culprit_6) (C := R_Sol) (T := T_Sol) (N := 8) hx hb hts in_Sol hown hK hP 0 rfl rfl 7 (by decide) (hts _ q_92) (fun _ h9 => h9) rfl d_Sol_run_17 ?_
        refine lv_iconst (v := (-1)) hx hb d_Sol_run_20 (by decide) ?_
        refine lv_icmp_ne (tgt := 58) hx hb d_Sol_run_21 (by decide) (fun c11 => ?_) (fun c11 => ?_)
        · replace hf := gn c11 hf
          exact hk6 y1_6 w_this_settled_6 w_this_rounds_6 w_this_culprit_6 w_this_groups_changes_6 w_this_groups_groups_6 w_this_groups_groupKinds_6 w_this_meanings_6 _ _ _ hP hS (lv_sub hl [0, 1] rfl) hf
        · replace hf := gp c11 hf
          refine lv_iload_n hx hb d_Sol_run_24 rfl (lv_at hl 0 rfl) ?_
          refine lv_aload_n hx hb d_Sol_run_25 rfl (lv_at hl 1 rfl) ?_
          obtain ⟨r13, hc12, hf⟩ := gb hf
          refine kP (va_runV (C := R_Sol) (As := []) (rest := [.int y1_6]) ⟨hx, hb, hml, hown, hts⟩ (c_Sol_changes l D cI a_this a_this_kinds a_this_predicates a_this_demands a_this_groups a_this_meanings a_this_groups_groups a_this_groups_groupKinds w_this_settled_6 w_this_rounds_6 w_this_culprit_6 w_this_groups_changes_6 hc12) ⟨callB_of 0 hts (good_c q_153) rfl rfl rfl (hts _ q_114) (hts _ q_154) hd_Sol_changes ⟨Nat.le_of_ble_eq_true rfl, Nat.le_of_ble_eq_true rfl⟩, (hts _ q_155), (hts _ q_156)⟩ (preVP hP hK hN [0, 16] rfl rfl rfl) rfl rfl hl.1 rfl (lv_room (Nat.le_of_ble_eq_true rfl)) d_Sol_run_26 ⟨Nat.zero_le _, Nat.zero_le _⟩) (fun hz14 => ?_)
          refine lv_icmp_eq (tgt := 58) hx hb d_Sol_run_29 (by decide) (fun c15 => ?_) (fun c15 => ?_)
          · replace hf := gp c15 hf
            exact hk6 y1_6 w_this_settled_6 w_this_rounds_6 w_this_culprit_6 w_this_groups_changes_6 w_this_groups_groups_6 w_this_groups_groupKinds_6 w_this_meanings_6 _ _ _ hP hS (lv_sub hl [0, 1] rfl) hf
          · replace hf := gn c15 hf
            refine lv_aload_n hx hb d_Sol_run_32 rfl (lv_at hl 1 rfl) ?_
            obtain ⟨r17, hc16, hf⟩ := gb hf
            refine kP (va_runV (C := R_Sol) (As := []) (rest := []) ⟨hx, hb, hml, hown, hts⟩ (c_Sol_changes l D cI a_this a_this_kinds a_this_predicates a_this_demands a_this_groups a_this_meanings a_this_groups_groups a_this_groups_groupKinds w_this_settled_6 w_this_rounds_6 w_this_culprit_6 w_this_groups_changes_6 hc16) ⟨callB_of 0 hts (good_c q_153) rfl rfl rfl (hts _ q_114) (hts _ q_154) hd_Sol_changes ⟨Nat.le_of_ble_eq_true rfl, Nat.le_of_ble_eq_true rfl⟩, (hts _ q_155), (hts _ q_156)⟩ (preVP hP hK hN [0, 16] rfl rfl rfl) rfl rfl hl.1 rfl (lv_room (Nat.le_of_ble_eq_true rfl)) d_Sol_run_33 ⟨Nat.zero_le _, Nat.zero_le _⟩) (fun hz18 => ?_)
            refine lv_istore_n (lv' := [(1, .int r17), (0, .ref a_this)]) hx hb d_Sol_run_36 rfl hl (by decide) rfl (fun ls hl => ?_)
            refine lv_aload_n hx hb d_Sol_run_37 rfl (lv_at hl 1 rfl) ?_
            refine lv_dup hx hb d_Sol_run_38 rfl ?_
            refine va_get (D := D) (ci := 5) (v := .int w_this_rounds_6) (C := R_Sol) (T := T_Sol) (N := 8) hx hb hts in_Sol hown hK hP 0 rfl rfl 6 (by decide) (hts _ q_91) (fun _ h9 => h9) rfl d_Sol_run_39 ?_
            refine lv_iconst (v := 1) hx hb d_Sol_run_42 (by decide) ?_
            refine lv_iadd hx hb d_Sol_run_43 ?_
            refine va_put (D := D) (ci := 5) (v := .int (w_this_rounds_6 + 1)) (ty := .int) (C := R_Sol) (T := T_Sol) (N := 8) hx hb hts in_Sol ty_Sol tyok_Sol nm_Sol hown hK hP (hDL _ rfl) hS 0 rfl rfl 6 (by decide) (hts _ q_91) (fun _ h9 => h9) rfl (by decide +kernel) rfl rfl (Nat.le_of_ble_eq_true rfl) d_Sol_run_44 (fun H locs hP _ hS => ?_)
            have hP : va_P D vwCl [(a_this, .inr (5, [.ref a_this_kinds, .ref a_this_predicates, .ref a_this_demands, .ref a_this_groups, .ref a_this_meanings, .int w_this_settled_6, .int (w_this_rounds_6 + 1), .int w_this_culprit_6])), (a_this_kinds, .inr (2, [.ref a_this_kinds_owners, .ref a_this_kinds_names, .ref a_this_kinds_fields, .int v_this_kinds_size])), (a_this_kinds_owners, .inl (cI, 100, .inl v_this_kinds_owners)), (a_this_kinds_names, .inl (cI, 100, .inl v_this_kinds_names)), (a_this_kinds_fields, .inr (1, [.ref a_this_kinds_fields_lengths, .ref a_this_kinds_fields_cells, .int v_this_kinds_fields_size])), (a_this_kinds_fields_lengths, .inl (cI, 100, .inl v_this_kinds_fields_lengths)), (a_this_kinds_fields_cells, .inl (cI, 600, .inl v_this_kinds_fields_cells)), (a_this_predicates, .inr (1, [.ref a_this_predicates_lengths, .ref a_this_predicates_cells, .int v_this_predicates_size])), (a_this_predicates_lengths, .inl (cI, 60, .inl v_this_predicates_lengths)), (a_this_predicates_cells, .inl (cI, 360, .inl v_this_predicates_cells)), (a_this_demands, .inr (3, [.ref a_this_demands_sorts, .ref a_this_demands_subjects, .ref a_this_demands_variables])), (a_this_demands_sorts, .inl (cI, 200, .inl v_this_demands_sorts)), (a_this_demands_subjects, .inl (cI, 200, .inl v_this_demands_subjects)), (a_this_demands_variables, .inr (1, [.ref a_this_demands_variables_lengths, .ref a_this_demands_variables_cells, .int v_this_demands_variables_size])), (a_this_demands_variables_lengths, .inl (cI, 200, .inl v_this_demands_variables_lengths)), (a_this_demands_variables_cells, .inl (cI, 1200, .inl v_this_demands_variables_cells)), (a_this_groups, .inr (4, [.ref a_this_groups_groups, .ref a_this_groups_groupKinds, .int w_this_groups_changes_6])), (a_this_groups_groups, .inl (cI, 80, .inl w_this_groups_groups_6)), (a_this_groups_groupKinds, .inl (cI, 80, .inl w_this_groups_groupKinds_6)), (a_this_meanings, .inl (cI, 200, .inl w_this_meanings_6))] H := hP
            refine lv_aload_n hx hb d_Sol_run_47 rfl (lv_at hl 1 rfl) ?_
            refine lv_aload_n hx hb d_Sol_run_48 rfl (lv_at hl 1 rfl) ?_
            obtain ⟨⟨r20, u_21, u_22, u_23, u_24, u_25⟩, hc19, hf⟩ := gb hf
            dsimp only at hf
            refine kI [(a_this, .inr (5, [.ref a_this_kinds, .ref a_this_predicates, .ref a_this_demands, .ref a_this_groups, .ref a_this_meanings, .int u_21, .int (w_this_rounds_6 + 1), .int w_this_culprit_6])), (a_this_kinds, .inr (2, [.ref a_this_kinds_owners, .ref a_this_kinds_names, .ref a_this_kinds_fields, .int v_this_kinds_size])), (a_this_kinds_owners, .inl (cI, 100, .inl v_this_kinds_owners)), (a_this_kinds_names, .inl (cI, 100, .inl v_this_kinds_names)), (a_this_kinds_fields, .inr (1, [.ref a_this_kinds_fields_lengths, .ref a_this_kinds_fields_cells, .int v_this_kinds_fields_size])), (a_this_kinds_fields_lengths, .inl (cI, 100, .inl v_this_kinds_fields_lengths)), (a_this_kinds_fields_cells, .inl (cI, 600, .inl v_this_kinds_fields_cells)), (a_this_predicates, .inr (1, [.ref a_this_predicates_lengths, .ref a_this_predicates_cells, .int v_this_predicates_size])), (a_this_predicates_lengths, .inl (cI, 60, .inl v_this_predicates_lengths)), (a_this_predicates_cells, .inl (cI, 360, .inl v_this_predicates_cells)), (a_this_demands, .inr (3, [.ref a_this_demands_sorts, .ref a_this_demands_subjects, .ref a_this_demands_variables])), (a_this_demands_sorts, .inl (cI, 200, .inl v_this_demands_sorts)), (a_this_demands_subjects, .inl (cI, 200, .inl v_this_demands_subjects)), (a_this_demands_variables, .inr (1, [.ref a_this_demands_variables_lengths, .ref a_this_demands_variables_cells, .int v_this_demands_variables_size])), (a_this_demands_variables_lengths, .inl (cI, 200, .inl v_this_demands_variables_lengths)), (a_this_demands_variables_cells, .inl (cI, 1200, .inl v_this_demands_variables_cells)), (a_this_groups, .inr (4, [.ref a_this_groups_groups, .ref a_this_groups_groupKinds, .int u_22])), (a_this_groups_groups, .inl (cI, 80, .inl u_23)), (a_this_groups_groupKinds, .inl (cI, 80, .inl u_24)), (a_this_meanings, .inl (cI, 200, .inl u_25))] [0, 1, 2, 3, 4, 5, 6, 7, 8, 9, 10, 11, 12, 13, 14, 15, 16, 17, 18, 19] [] (va_runV (C := R_Sol) (As := []) (rest := [.ref a_this]) ⟨hx, hb, hml, hown, hts⟩ (c_Sol_goRound l D cI a_this a_this_kinds a_this_predicates a_this_demands a_this_groups a_this_meanings a_this_kinds_owners a_this_kinds_names a_this_kinds_fields a_this_kinds_fields_lengths a_this_kinds_fields_cells a_this_predicates_lengths a_this_predicates_cells a_this_demands_sorts a_this_demands_subjects a_this_demands_variables a_this_demands_variables_lengths a_this_demands_variables_cells a_this_groups_groups a_this_groups_groupKinds w_this_settled_6 (w_this_rounds_6 + 1) w_this_culprit_6 v_this_kinds_size v_this_kinds_owners v_this_kinds_names v_this_kinds_fields_size v_this_kinds_fields_lengths v_this_kinds_fields_cells v_this_predicates_size v_this_predicates_lengths v_this_predicates_cells v_this_demands_sorts v_this_demands_subjects v_this_demands_variables_size v_this_demands_variables_lengths v_this_demands_variables_cells w_this_groups_changes_6 w_this_groups_groups_6 w_this_groups_groupKinds_6 w_this_meanings_6 hc19 _) ⟨callB_of 0 hts (good_c q_157) rfl rfl rfl (hts _ q_114) (hts _ q_158) hd_Sol_goRound ⟨Nat.le_of_ble_eq_true rfl, Nat.le_of_ble_eq_true rfl⟩, (hts _ q_159), (hts _ q_160)⟩ (preVM hP hK hN (hDL _ rfl) [0, 1, 2, 3, 4, 5, 6, 7, 8, 9, 10, 11, 12, 13, 14, 15, 16, 17, 18, 19] (by decide +kernel) rfl rfl rfl) rfl rfl hl.1 rfl (lv_room (Nat.le_of_ble_eq_true rfl)) d_Sol_run_49 ⟨Nat.zero_le _, Nat.zero_le _⟩) hP (hDL _ rfl) hS hA rfl rfl (wr := []) rfl rfl (n := 20) rfl (by decide +kernel) (by decide +kernel) (fun H locs hz26 hP hS => ?_)
            refine va_put (D := D) (ci := 5) (v := .int r20) (ty := .int) (C := R_Sol) (T := T_Sol) (N := 8) hx hb hts in_Sol ty_Sol tyok_Sol nm_Sol hown hK hP (hDL _ rfl) hS 0 rfl rfl 7 (by decide) (hts _ q_92) (fun _ h9 => h9) rfl (by decide +kernel) rfl rfl (Nat.le_of_ble_eq_true rfl) d_Sol_run_52 (fun H locs hP _ hS => ?_)
            have hP : va_P D vwCl [(a_this, .inr (5, [.ref a_this_kinds, .ref a_this_predicates, .ref a_this_demands, .ref a_this_groups, .ref a_this_meanings, .int u_21, .int (w_this_rounds_6 + 1), .int r20])), (a_this_kinds, .inr (2, [.ref a_this_kinds_owners, .ref a_this_kinds_names, .ref a_this_kinds_fields, .int v_this_kinds_size])), (a_this_kinds_owners, .inl (cI, 100, .inl v_this_kinds_owners)), (a_this_kinds_names, .inl (cI, 100, .inl v_this_kinds_names)), (a_this_kinds_fields, .inr (1, [.ref a_this_kinds_fields_lengths, .ref a_this_kinds_fields_cells, .int v_this_kinds_fields_size])), (a_this_kinds_fields_lengths, .inl (cI, 100, .inl v_this_kinds_fields_lengths)), (a_this_kinds_fields_cells, .inl (cI, 600, .inl v_this_kinds_fields_cells)), (a_this_predicates, .inr (1, [.ref a_this_predicates_lengths, .ref a_this_predicates_cells, .int v_this_predicates_size])), (a_this_predicates_lengths, .inl (cI, 60, .inl v_this_predicates_lengths)), (a_this_predicates_cells, .inl (cI, 360, .inl v_this_predicates_cells)), (a_this_demands, .inr (3, [.ref a_this_demands_sorts, .ref a_this_demands_subjects, .ref a_this_demands_variables])), (a_this_demands_sorts, .inl (cI, 200, .inl v_this_demands_sorts)), (a_this_demands_subjects, .inl (cI, 200, .inl v_this_demands_subjects)), (a_this_demands_variables, .inr (1, [.ref a_this_demands_variables_lengths, .ref a_this_demands_variables_cells, .int v_this_demands_variables_size])), (a_this_demands_variables_lengths, .inl (cI, 200, .inl v_this_demands_variables_lengths)), (a_this_demands_variables_cells, .inl (cI, 1200, .inl v_this_demands_variables_cells)), (a_this_groups, .inr (4, [.ref a_this_groups_groups, .ref a_this_groups_groupKinds, .int u_22])), (a_this_groups_groups, .inl (cI, 80, .inl u_23)), (a_this_groups_groupKinds, .inl (cI, 80, .inl u_24)), (a_this_meanings, .inl (cI, 200, .inl u_25))] H := hP
            refine lv_goto (tgt := 6) hx hb d_Sol_run_55 (by decide) ?_
            exact ih6 r17 u_21 (w_this_rounds_6 + 1) r20 u_22 u_23 u_24 u_25 _ _ _ hP hS (lv_sub hl [0, 1] rfl) hf
  refine lp6 _ (fun y1_6 w_this_settled_6 w_this_rounds_6 w_this_culprit_6 w_this_groups_changes_6 w_this_groups_groups_6 w_this_groups_groupKinds_6 w_this_meanings_6 H locs ls hP hS hl hf => ?_) FU (-1) u_2 u_3 u_4 u_5 u_6 u_7 u_8 _ _ _ hP hS (lv_sub hl [0, 1] rfl) hf
  refine lv_aload_n hx hb d_Sol_run_58 rfl (lv_at hl 1 rfl) ?_
  refine va_get (D := D) (ci := 5) (v := .int w_this_culprit_6) (C := R_Sol) (T := T_Sol) (N := 8) hx hb hts in_Sol hown hK hP 0 rfl rfl 7 (by decide) (hts _ q_92) (fun _ h9 => h9) rfl d_Sol_run_59 ?_
  refine lv_iconst (v := (-1)) hx hb d_Sol_run_62 (by decide) ?_
  refine lv_icmp_eq (tgt := 68) hx hb d_Sol_run_63 (by decide) (fun c27 => ?_) (fun c27 => ?_)
  · replace hf := gp c27 hf
    refine lv_aload_n hx hb d_Sol_run_68 rfl (lv_at hl 1 rfl) ?_
    refine lv_aload_n hx hb d_Sol_run_69 rfl (lv_at hl 1 rfl) ?_
    obtain ⟨r29, hc28, hf⟩ := gb hf
    refine kP (va_runV (C := R_Sol) (As := []) (rest := [.ref a_this]) ⟨hx, hb, hml, hown, hts⟩ (c_Sol_firstWaiting l D cI a_this a_this_kinds a_this_predicates a_this_demands a_this_groups a_this_meanings a_this_demands_sorts a_this_demands_subjects a_this_demands_variables a_this_demands_variables_lengths a_this_demands_variables_cells w_this_settled_6 w_this_rounds_6 w_this_culprit_6 v_this_demands_sorts v_this_demands_variables_size w_this_meanings_6 hc28) ⟨callB_of 0 hts (good_c q_161) rfl rfl rfl (hts _ q_114) (hts _ q_162) hd_Sol_firstWaiting ⟨Nat.le_of_ble_eq_true rfl, Nat.le_of_ble_eq_true rfl⟩, (hts _ q_163), (hts _ q_164)⟩ (preVP hP hK hN [0, 10, 11, 13, 19] rfl rfl rfl) rfl rfl hl.1 rfl (lv_room (Nat.le_of_ble_eq_true rfl)) d_Sol_run_70 ⟨Nat.zero_le _, Nat.zero_le _⟩) (fun hz30 => ?_)
    refine va_put (D := D) (ci := 5) (v := .int r29) (ty := .int) (C := R_Sol) (T := T_Sol) (N := 8) hx hb hts in_Sol ty_Sol tyok_Sol nm_Sol hown hK hP (hDL _ rfl) hS 0 rfl rfl 7 (by decide) (hts _ q_92) (fun _ h9 => h9) rfl (by decide +kernel) rfl rfl (Nat.le_of_ble_eq_true rfl) d_Sol_run_73 (fun H locs hP _ hS => ?_)
    have hP : va_P D vwCl [(a_this, .inr (5, [.ref a_this_kinds, .ref a_this_predicates, .ref a_this_demands, .ref a_this_groups, .ref a_this_meanings, .int w_this_settled_6, .int w_this_rounds_6, .int r29])), (a_this_kinds, .inr (2, [.ref a_this_kinds_owners, .ref a_this_kinds_names, .ref a_this_kinds_fields, .int v_this_kinds_size])), (a_this_kinds_owners, .inl (cI, 100, .inl v_this_kinds_owners)), (a_this_kinds_names, .inl (cI, 100, .inl v_this_kinds_names)), (a_this_kinds_fields, .inr (1, [.ref a_this_kinds_fields_lengths, .ref a_this_kinds_fields_cells, .int v_this_kinds_fields_size])), (a_this_kinds_fields_lengths, .inl (cI, 100, .inl v_this_kinds_fields_lengths)), (a_this_kinds_fields_cells, .inl (cI, 600, .inl v_this_kinds_fields_cells)), (a_this_predicates, .inr (1, [.ref a_this_predicates_lengths, .ref a_this_predicates_cells, .int v_this_predicates_size])), (a_this_predicates_lengths, .inl (cI, 60, .inl v_this_predicates_lengths)), (a_this_predicates_cells, .inl (cI, 360, .inl v_this_predicates_cells)), (a_this_demands, .inr (3, [.ref a_this_demands_sorts, .ref a_this_demands_subjects, .ref a_this_demands_variables])), (a_this_demands_sorts, .inl (cI, 200, .inl v_this_demands_sorts)), (a_this_demands_subjects, .inl (cI, 200, .inl v_this_demands_subjects)), (a_this_demands_variables, .inr (1, [.ref a_this_demands_variables_lengths, .ref a_this_demands_variables_cells, .int v_this_demands_variables_size])), (a_this_demands_variables_lengths, .inl (cI, 200, .inl v_this_demands_variables_lengths)), (a_this_demands_variables_cells, .inl (cI, 1200, .inl v_this_demands_variables_cells)), (a_this_groups, .inr (4, [.ref a_this_groups_groups, .ref a_this_groups_groupKinds, .int w_this_groups_changes_6])), (a_this_groups_groups, .inl (cI, 80, .inl w_this_groups_groups_6)), (a_this_groups_groupKinds, .inl (cI, 80, .inl w_this_groups_groupKinds_6)), (a_this_meanings, .inl (cI, 200, .inl w_this_meanings_6))] H := hP
    refine lv_aload_n hx hb d_Sol_run_76 rfl (lv_at hl 1 rfl) ?_
    refine va_get (D := D) (ci := 5) (v := .int r29) (C := R_Sol) (T := T_Sol) (N := 8) hx hb hts in_Sol hown hK hP 0 rfl rfl 7 (by decide) (hts _ q_92) (fun _ h9 => h9) rfl d_Sol_run_77 ?_
    refine lv_iconst (v := (-1)) hx hb d_Sol_run_80 (by decide) ?_
    refine lv_icmp_eq (tgt := 86) hx hb d_Sol_run_81 (by decide) (fun c31 => ?_) (fun c31 => ?_)
    · replace hf := gp c31 hf
      refine lv_aload_n hx hb d_Sol_run_86 rfl (lv_at hl 1 rfl) ?_
      refine lv_aload_n hx hb d_Sol_run_87 rfl (lv_at hl 1 rfl) ?_
      obtain ⟨r33, hc32, hf⟩ := gb hf
      refine kP (va_runV (C := R_Sol) (As := []) (rest := [.ref a_this]) ⟨hx, hb, hml, hown, hts⟩ (c_Sol_leastWithoutKind l D cI a_this a_this_kinds a_this_predicates a_this_demands a_this_groups a_this_meanings a_this_demands_sorts a_this_demands_subjects a_this_demands_variables a_this_demands_variables_lengths a_this_demands_variables_cells a_this_groups_groups a_this_groups_groupKinds w_this_settled_6 w_this_rounds_6 r29 v_this_demands_variables_size v_this_demands_variables_lengths v_this_demands_variables_cells w_this_groups_changes_6 w_this_groups_groups_6 w_this_groups_groupKinds_6 hc32) ⟨callB_of 0 hts (good_c q_165) rfl rfl rfl (hts _ q_114) (hts _ q_166) hd_Sol_leastWithoutKind ⟨Nat.le_of_ble_eq_true rfl, Nat.le_of_ble_eq_true rfl⟩, (hts _ q_167), (hts _ q_168)⟩ (preVP hP hK hN [0, 10, 13, 14, 15, 16, 17, 18] rfl rfl rfl) rfl rfl hl.1 rfl (lv_room (Nat.le_of_ble_eq_true rfl)) d_Sol_run_88 ⟨Nat.zero_le _, Nat.zero_le _⟩) (fun hz34 => ?_)
      refine va_put (D := D) (ci := 5) (v := .int r33) (ty := .int) (C := R_Sol) (T := T_Sol) (N := 8) hx hb hts in_Sol ty_Sol tyok_Sol nm_Sol hown hK hP (hDL _ rfl) hS 0 rfl rfl 7 (by decide) (hts _ q_92) (fun _ h9 => h9) rfl (by decide +kernel) rfl rfl (Nat.le_of_ble_eq_true rfl) d_Sol_run_91 (fun H locs hP _ hS => ?_)
      have hP : va_P D vwCl [(a_this, .inr (5, [.ref a_this_kinds, .ref a_this_predicates, .ref a_this_demands, .ref a_this_groups, .ref a_this_meanings, .int w_this_settled_6, .int w_this_rounds_6, .int r33])), (a_this_kinds, .inr (2, [.ref a_this_kinds_owners, .ref a_this_kinds_names, .ref a_this_kinds_fields, .int v_this_kinds_size])), (a_this_kinds_owners, .inl (cI, 100, .inl v_this_kinds_owners)), (a_this_kinds_names, .inl (cI, 100, .inl v_this_kinds_names)), (a_this_kinds_fields, .inr (1, [.ref a_this_kinds_fields_lengths, .ref a_this_kinds_fields_cells, .int v_this_kinds_fields_size])), (a_this_kinds_fields_lengths, .inl (cI, 100, .inl v_this_kinds_fields_lengths)), (a_this_kinds_fields_cells, .inl (cI, 600, .inl v_this_kinds_fields_cells)), (a_this_predicates, .inr (1, [.ref a_this_predicates_lengths, .ref a_this_predicates_cells, .int v_this_predicates_size])), (a_this_predicates_lengths, .inl (cI, 60, .inl v_this_predicates_lengths)), (a_this_predicates_cells, .inl (cI, 360, .inl v_this_predicates_cells)), (a_this_demands, .inr (3, [.ref a_this_demands_sorts, .ref a_this_demands_subjects, .ref a_this_demands_variables])), (a_this_demands_sorts, .inl (cI, 200, .inl v_this_demands_sorts)), (a_this_demands_subjects, .inl (cI, 200, .inl v_this_demands_subjects)), (a_this_demands_variables, .inr (1, [.ref a_this_demands_variables_lengths, .ref a_this_demands_variables_cells, .int v_this_demands_variables_size])), (a_this_demands_variables_lengths, .inl (cI, 200, .inl v_this_demands_variables_lengths)), (a_this_demands_variables_cells, .inl (cI, 1200, .inl v_this_demands_variables_cells)), (a_this_groups, .inr (4, [.ref a_this_groups_groups, .ref a_this_groups_groupKinds, .int w_this_groups_changes_6])), (a_this_groups_groups, .inl (cI, 80, .inl w_this_groups_groups_6)), (a_this_groups_groupKinds, .inl (cI, 80, .inl w_this_groups_groupKinds_6)), (a_this_meanings, .inl (cI, 200, .inl w_this_meanings_6))] H := hP
      refine lv_aload_n hx hb d_Sol_run_94 rfl (lv_at hl 1 rfl) ?_
      refine va_get (D := D) (ci := 5) (v := .int r33) (C := R_Sol) (T := T_Sol) (N := 8) hx hb hts in_Sol hown hK hP 0 rfl rfl 7 (by decide) (hts _ q_92) (fun _ h9 => h9) rfl d_Sol_run_95 ?_
      refine lv_iconst (v := (-1)) hx hb d_Sol_run_98 (by decide) ?_
      refine lv_icmp_eq (tgt := 106) hx hb d_Sol_run_99 (by decide) (fun c35 => ?_) (fun c35 => ?_)
      · replace hf := gp c35 hf
        refine lv_iconst (v := 0) hx hb d_Sol_run_106 (by decide) ?_
        cases hf
        exact hret _ _ _ _ hS hP rfl d_Sol_run_107
      · replace hf := gn c35 hf
        refine lv_iconst (v := 3) hx hb d_Sol_run_102 (by decide) ?_
        refine lv_goto (tgt := 107) hx hb d_Sol_run_103 (by decide) ?_
        cases hf
        exact hret _ _ _ _ hS hP rfl d_Sol_run_107
    · replace hf := gn c31 hf
      refine lv_iconst (v := 2) hx hb d_Sol_run_84 (by decide) ?_
      cases hf
      exact hret _ _ _ _ hS hP rfl d_Sol_run_85
  · replace hf := gn c27 hf
    refine lv_iconst (v := 1) hx hb d_Sol_run_66 (by decide) ?_
    cases hf
    exact hret _ _ _ _ hS hP rfl d_Sol_run_67
end
