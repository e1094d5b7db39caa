section
-- ===== PART A: goes FIRST, ahead of the names: the tables' words, and 'selects' of the private methods out of them =====
/-- a private method of a class that the tables say can be made, by its rows of tables_1 -/
def lw_okq (q : MethodName × Nat) : Prop := (q.1.cls ≠ "java/lang/invoke/MethodHandle" ∧ q.1.cls ≠ "java/lang/invoke/VarHandle") ∧ Cond.instantiable q.1.cls q.2 ∈ tables_1 ∧ Cond.privateMethod q.1 ∈ tables_1 ∧ Cond.instanceMethod q.1 ∈ tables_1
theorem lw_p0 : lw_okq (⟨"TrussSolver", "isBarThere", "(I)Z"⟩, 5) := ⟨⟨by decide +kernel, by decide +kernel⟩, List.mem_of_getElem? (i := 12) (by decide +kernel), List.mem_of_getElem? (i := 225) (by decide +kernel), List.mem_of_getElem? (i := 226) (by decide +kernel)⟩
theorem lw_p1 : lw_okq (⟨"TrussSolver$Truss", "isGood", "(I)Z"⟩, 10) := ⟨⟨by decide +kernel, by decide +kernel⟩, List.mem_of_getElem? (i := 20) (by decide +kernel), List.mem_of_getElem? (i := 270) (by decide +kernel), List.mem_of_getElem? (i := 271) (by decide +kernel)⟩
theorem lw_p2 : lw_okq (⟨"TrussSolver$Truss", "reach", "(II)I"⟩, 10) := ⟨⟨by decide +kernel, by decide +kernel⟩, List.mem_of_getElem? (i := 20) (by decide +kernel), List.mem_of_getElem? (i := 274) (by decide +kernel), List.mem_of_getElem? (i := 275) (by decide +kernel)⟩
theorem lw_p3 : lw_okq (⟨"TrussSolver$Numbering", "findNeighbours", "(LTrussSolver$Truss;)V"⟩, 7) := ⟨⟨by decide +kernel, by decide +kernel⟩, List.mem_of_getElem? (i := 78) (by decide +kernel), List.mem_of_getElem? (i := 285) (by decide +kernel), List.mem_of_getElem? (i := 286) (by decide +kernel)⟩
theorem lw_p4 : lw_okq (⟨"TrussSolver$Numbering", "placeNodes", "(LTrussSolver$Truss;)V"⟩, 7) := ⟨⟨by decide +kernel, by decide +kernel⟩, List.mem_of_getElem? (i := 78) (by decide +kernel), List.mem_of_getElem? (i := 292) (by decide +kernel), List.mem_of_getElem? (i := 293) (by decide +kernel)⟩
theorem lw_p5 : lw_okq (⟨"TrussSolver$Numbering", "leastJoined", "(I)I"⟩, 7) := ⟨⟨by decide +kernel, by decide +kernel⟩, List.mem_of_getElem? (i := 78) (by decide +kernel), List.mem_of_getElem? (i := 297) (by decide +kernel), List.mem_of_getElem? (i := 298) (by decide +kernel)⟩
theorem lw_p6 : lw_okq (⟨"TrussSolver$Numbering", "append", "(I)V"⟩, 7) := ⟨⟨by decide +kernel, by decide +kernel⟩, List.mem_of_getElem? (i := 78) (by decide +kernel), List.mem_of_getElem? (i := 302) (by decide +kernel), List.mem_of_getElem? (i := 303) (by decide +kernel)⟩
theorem lw_p7 : lw_okq (⟨"TrussSolver$Numbering", "appendNeighboursOf", "(I)V"⟩, 7) := ⟨⟨by decide +kernel, by decide +kernel⟩, List.mem_of_getElem? (i := 78) (by decide +kernel), List.mem_of_getElem? (i := 306) (by decide +kernel), List.mem_of_getElem? (i := 307) (by decide +kernel)⟩
theorem lw_p8 : lw_okq (⟨"TrussSolver$Numbering", "turnRound", "()V"⟩, 7) := ⟨⟨by decide +kernel, by decide +kernel⟩, List.mem_of_getElem? (i := 78) (by decide +kernel), List.mem_of_getElem? (i := 310) (by decide +kernel), List.mem_of_getElem? (i := 311) (by decide +kernel)⟩
theorem lw_p9 : lw_okq (⟨"TrussSolver$Numbering", "numberSlots", "(LTrussSolver$Truss;)V"⟩, 7) := ⟨⟨by decide +kernel, by decide +kernel⟩, List.mem_of_getElem? (i := 78) (by decide +kernel), List.mem_of_getElem? (i := 314) (by decide +kernel), List.mem_of_getElem? (i := 315) (by decide +kernel)⟩
theorem lw_p10 : lw_okq (⟨"TrussSolver$Numbering", "numberSlot", "(ILTrussSolver$Truss;)V"⟩, 7) := ⟨⟨by decide +kernel, by decide +kernel⟩, List.mem_of_getElem? (i := 78) (by decide +kernel), List.mem_of_getElem? (i := 319) (by decide +kernel), List.mem_of_getElem? (i := 320) (by decide +kernel)⟩
theorem lw_p11 : lw_okq (⟨"TrussSolver$Equations", "sumUpStiffness", "(LTrussSolver$Truss;)V"⟩, 7) := ⟨⟨by decide +kernel, by decide +kernel⟩, List.mem_of_getElem? (i := 114) (by decide +kernel), List.mem_of_getElem? (i := 327) (by decide +kernel), List.mem_of_getElem? (i := 328) (by decide +kernel)⟩
theorem lw_p12 : lw_okq (⟨"TrussSolver$Equations", "addStiffnessOfBar", "(LTrussSolver$Truss;I)V"⟩, 7) := ⟨⟨by decide +kernel, by decide +kernel⟩, List.mem_of_getElem? (i := 114) (by decide +kernel), List.mem_of_getElem? (i := 334) (by decide +kernel), List.mem_of_getElem? (i := 335) (by decide +kernel)⟩
theorem lw_p13 : lw_okq (⟨"TrussSolver$Equations", "growPolynomial", "(I)V"⟩, 7) := ⟨⟨by decide +kernel, by decide +kernel⟩, List.mem_of_getElem? (i := 114) (by decide +kernel), List.mem_of_getElem? (i := 349) (by decide +kernel), List.mem_of_getElem? (i := 350) (by decide +kernel)⟩
theorem lw_p14 : lw_okq (⟨"TrussSolver$Equations", "findGrowth", "(I)V"⟩, 7) := ⟨⟨by decide +kernel, by decide +kernel⟩, List.mem_of_getElem? (i := 114) (by decide +kernel), List.mem_of_getElem? (i := 353) (by decide +kernel), List.mem_of_getElem? (i := 354) (by decide +kernel)⟩
theorem lw_p15 : lw_okq (⟨"TrussSolver$Equations", "rowTimes", "(I[JI)J"⟩, 7) := ⟨⟨by decide +kernel, by decide +kernel⟩, List.mem_of_getElem? (i := 114) (by decide +kernel), List.mem_of_getElem? (i := 357) (by decide +kernel), List.mem_of_getElem? (i := 358) (by decide +kernel)⟩
def lw_privs_1 : List (MethodName × Nat) := [(⟨"TrussSolver", "isBarThere", "(I)Z"⟩, 5), (⟨"TrussSolver$Truss", "isGood", "(I)Z"⟩, 10), (⟨"TrussSolver$Truss", "reach", "(II)I"⟩, 10), (⟨"TrussSolver$Numbering", "findNeighbours", "(LTrussSolver$Truss;)V"⟩, 7), (⟨"TrussSolver$Numbering", "placeNodes", "(LTrussSolver$Truss;)V"⟩, 7), (⟨"TrussSolver$Numbering", "leastJoined", "(I)I"⟩, 7), (⟨"TrussSolver$Numbering", "append", "(I)V"⟩, 7), (⟨"TrussSolver$Numbering", "appendNeighboursOf", "(I)V"⟩, 7), (⟨"TrussSolver$Numbering", "turnRound", "()V"⟩, 7), (⟨"TrussSolver$Numbering", "numberSlots", "(LTrussSolver$Truss;)V"⟩, 7), (⟨"TrussSolver$Numbering", "numberSlot", "(ILTrussSolver$Truss;)V"⟩, 7), (⟨"TrussSolver$Equations", "sumUpStiffness", "(LTrussSolver$Truss;)V"⟩, 7), (⟨"TrussSolver$Equations", "addStiffnessOfBar", "(LTrussSolver$Truss;I)V"⟩, 7), (⟨"TrussSolver$Equations", "growPolynomial", "(I)V"⟩, 7), (⟨"TrussSolver$Equations", "findGrowth", "(I)V"⟩, 7), (⟨"TrussSolver$Equations", "rowTimes", "(I[JI)J"⟩, 7)]
theorem lw_r1 : ∀ q ∈ lw_privs_1, lw_okq q := List.forall_mem_cons.mpr ⟨lw_p0, List.forall_mem_cons.mpr ⟨lw_p1, List.forall_mem_cons.mpr ⟨lw_p2, List.forall_mem_cons.mpr ⟨lw_p3, List.forall_mem_cons.mpr ⟨lw_p4, List.forall_mem_cons.mpr ⟨lw_p5, List.forall_mem_cons.mpr ⟨lw_p6, List.forall_mem_cons.mpr ⟨lw_p7, List.forall_mem_cons.mpr ⟨lw_p8, List.forall_mem_cons.mpr ⟨lw_p9, List.forall_mem_cons.mpr ⟨lw_p10, List.forall_mem_cons.mpr ⟨lw_p11, List.forall_mem_cons.mpr ⟨lw_p12, List.forall_mem_cons.mpr ⟨lw_p13, List.forall_mem_cons.mpr ⟨lw_p14, List.forall_mem_cons.mpr ⟨lw_p15, fun _ h => absurd h List.not_mem_nil⟩⟩⟩⟩⟩⟩⟩⟩⟩⟩⟩⟩⟩⟩⟩⟩
theorem lw_p16 : lw_okq (⟨"TrussSolver$Equations", "multiply", "([JI)V"⟩, 7) := ⟨⟨by decide +kernel, by decide +kernel⟩, List.mem_of_getElem? (i := 114) (by decide +kernel), List.mem_of_getElem? (i := 361) (by decide +kernel), List.mem_of_getElem? (i := 362) (by decide +kernel)⟩
theorem lw_p17 : lw_okq (⟨"TrussSolver", "isAnswerable", "(III)Z"⟩, 5) := ⟨⟨by decide +kernel, by decide +kernel⟩, List.mem_of_getElem? (i := 12) (by decide +kernel), List.mem_of_getElem? (i := 376) (by decide +kernel), List.mem_of_getElem? (i := 377) (by decide +kernel)⟩
theorem lw_p18 : lw_okq (⟨"TrussSolver", "isNodeThere", "(I)Z"⟩, 5) := ⟨⟨by decide +kernel, by decide +kernel⟩, List.mem_of_getElem? (i := 12) (by decide +kernel), List.mem_of_getElem? (i := 380) (by decide +kernel), List.mem_of_getElem? (i := 381) (by decide +kernel)⟩
theorem lw_p19 : lw_okq (⟨"TrussSolver$Response", "sumUpLoads", "(LTrussSolver$Truss;)V"⟩, 6) := ⟨⟨by decide +kernel, by decide +kernel⟩, List.mem_of_getElem? (i := 146) (by decide +kernel), List.mem_of_getElem? (i := 401) (by decide +kernel), List.mem_of_getElem? (i := 402) (by decide +kernel)⟩
theorem lw_p20 : lw_okq (⟨"TrussSolver$Response", "moveHeldSlots", "(LTrussSolver$Truss;)V"⟩, 6) := ⟨⟨by decide +kernel, by decide +kernel⟩, List.mem_of_getElem? (i := 146) (by decide +kernel), List.mem_of_getElem? (i := 405) (by decide +kernel), List.mem_of_getElem? (i := 406) (by decide +kernel)⟩
theorem lw_p21 : lw_okq (⟨"TrussSolver$Response", "heldDisplacement", "(LTrussSolver$Truss;I)J"⟩, 6) := ⟨⟨by decide +kernel, by decide +kernel⟩, List.mem_of_getElem? (i := 146) (by decide +kernel), List.mem_of_getElem? (i := 409) (by decide +kernel), List.mem_of_getElem? (i := 410) (by decide +kernel)⟩
theorem lw_p22 : lw_okq (⟨"TrussSolver$Response", "findRightSide", "(LTrussSolver$Truss;LTrussSolver$Numbering;LTrussSolver$Equations;)V"⟩, 6) := ⟨⟨by decide +kernel, by decide +kernel⟩, List.mem_of_getElem? (i := 146) (by decide +kernel), List.mem_of_getElem? (i := 413) (by decide +kernel), List.mem_of_getElem? (i := 414) (by decide +kernel)⟩
theorem lw_p23 : lw_okq (⟨"TrussSolver", "partOfFraction", "(JI)J"⟩, 5) := ⟨⟨by decide +kernel, by decide +kernel⟩, List.mem_of_getElem? (i := 12) (by decide +kernel), List.mem_of_getElem? (i := 421) (by decide +kernel), List.mem_of_getElem? (i := 422) (by decide +kernel)⟩
theorem lw_p24 : lw_okq (⟨"TrussSolverModel", "off", "(II)Z"⟩, 21) := ⟨⟨by decide +kernel, by decide +kernel⟩, List.mem_of_getElem? (i := 477) (by decide +kernel), List.mem_of_getElem? (i := 551) (by decide +kernel), List.mem_of_getElem? (i := 552) (by decide +kernel)⟩
theorem lw_p25 : lw_okq (⟨"TrussSolverModel", "makeOrder", "()V"⟩, 21) := ⟨⟨by decide +kernel, by decide +kernel⟩, List.mem_of_getElem? (i := 477) (by decide +kernel), List.mem_of_getElem? (i := 579) (by decide +kernel), List.mem_of_getElem? (i := 580) (by decide +kernel)⟩
theorem lw_p26 : lw_okq (⟨"TrussSolverModel", "candidate", "(I)I"⟩, 21) := ⟨⟨by decide +kernel, by decide +kernel⟩, List.mem_of_getElem? (i := 477) (by decide +kernel), List.mem_of_getElem? (i := 583) (by decide +kernel), List.mem_of_getElem? (i := 584) (by decide +kernel)⟩
theorem lw_p27 : lw_okq (⟨"TrussSolverModel", "inOrder", "(I)Z"⟩, 21) := ⟨⟨by decide +kernel, by decide +kernel⟩, List.mem_of_getElem? (i := 477) (by decide +kernel), List.mem_of_getElem? (i := 587) (by decide +kernel), List.mem_of_getElem? (i := 588) (by decide +kernel)⟩
theorem lw_p28 : lw_okq (⟨"TrussSolverModel", "joined", "(II)Z"⟩, 21) := ⟨⟨by decide +kernel, by decide +kernel⟩, List.mem_of_getElem? (i := 477) (by decide +kernel), List.mem_of_getElem? (i := 591) (by decide +kernel), List.mem_of_getElem? (i := 592) (by decide +kernel)⟩
theorem lw_p29 : lw_okq (⟨"TrussSolverModel", "neighbours", "(I)I"⟩, 21) := ⟨⟨by decide +kernel, by decide +kernel⟩, List.mem_of_getElem? (i := 477) (by decide +kernel), List.mem_of_getElem? (i := 595) (by decide +kernel), List.mem_of_getElem? (i := 596) (by decide +kernel)⟩
theorem lw_p30 : lw_okq (⟨"TrussSolverModel", "append", "(I)V"⟩, 21) := ⟨⟨by decide +kernel, by decide +kernel⟩, List.mem_of_getElem? (i := 477) (by decide +kernel), List.mem_of_getElem? (i := 599) (by decide +kernel), List.mem_of_getElem? (i := 600) (by decide +kernel)⟩
theorem lw_p31 : lw_okq (⟨"TrussSolverModel", "good", "(I)Z"⟩, 21) := ⟨⟨by decide +kernel, by decide +kernel⟩, List.mem_of_getElem? (i := 477) (by decide +kernel), List.mem_of_getElem? (i := 603) (by decide +kernel), List.mem_of_getElem? (i := 604) (by decide +kernel)⟩
def lw_privs_2 : List (MethodName × Nat) := [(⟨"TrussSolver$Equations", "multiply", "([JI)V"⟩, 7), (⟨"TrussSolver", "isAnswerable", "(III)Z"⟩, 5), (⟨"TrussSolver", "isNodeThere", "(I)Z"⟩, 5), (⟨"TrussSolver$Response", "sumUpLoads", "(LTrussSolver$Truss;)V"⟩, 6), (⟨"TrussSolver$Response", "moveHeldSlots", "(LTrussSolver$Truss;)V"⟩, 6), (⟨"TrussSolver$Response", "heldDisplacement", "(LTrussSolver$Truss;I)J"⟩, 6), (⟨"TrussSolver$Response", "findRightSide", "(LTrussSolver$Truss;LTrussSolver$Numbering;LTrussSolver$Equations;)V"⟩, 6), (⟨"TrussSolver", "partOfFraction", "(JI)J"⟩, 5), (⟨"TrussSolverModel", "off", "(II)Z"⟩, 21), (⟨"TrussSolverModel", "makeOrder", "()V"⟩, 21), (⟨"TrussSolverModel", "candidate", "(I)I"⟩, 21), (⟨"TrussSolverModel", "inOrder", "(I)Z"⟩, 21), (⟨"TrussSolverModel", "joined", "(II)Z"⟩, 21), (⟨"TrussSolverModel", "neighbours", "(I)I"⟩, 21), (⟨"TrussSolverModel", "append", "(I)V"⟩, 21), (⟨"TrussSolverModel", "good", "(I)Z"⟩, 21)]
theorem lw_r2 : ∀ q ∈ lw_privs_2, lw_okq q := List.forall_mem_cons.mpr ⟨lw_p16, List.forall_mem_cons.mpr ⟨lw_p17, List.forall_mem_cons.mpr ⟨lw_p18, List.forall_mem_cons.mpr ⟨lw_p19, List.forall_mem_cons.mpr ⟨lw_p20, List.forall_mem_cons.mpr ⟨lw_p21, List.forall_mem_cons.mpr ⟨lw_p22, List.forall_mem_cons.mpr ⟨lw_p23, List.forall_mem_cons.mpr ⟨lw_p24, List.forall_mem_cons.mpr ⟨lw_p25, List.forall_mem_cons.mpr ⟨lw_p26, List.forall_mem_cons.mpr ⟨lw_p27, List.forall_mem_cons.mpr ⟨lw_p28, List.forall_mem_cons.mpr ⟨lw_p29, List.forall_mem_cons.mpr ⟨lw_p30, List.forall_mem_cons.mpr ⟨lw_p31, fun _ h => absurd h List.not_mem_nil⟩⟩⟩⟩⟩⟩⟩⟩⟩⟩⟩⟩⟩⟩⟩⟩
theorem lw_p32 : lw_okq (⟨"TrussSolverModel", "makeMatrix", "()V"⟩, 21) := ⟨⟨by decide +kernel, by decide +kernel⟩, List.mem_of_getElem? (i := 477) (by decide +kernel), List.mem_of_getElem? (i := 607) (by decide +kernel), List.mem_of_getElem? (i := 608) (by decide +kernel)⟩
theorem lw_p33 : lw_okq (⟨"TrussSolverModel", "way", "(II)I"⟩, 21) := ⟨⟨by decide +kernel, by decide +kernel⟩, List.mem_of_getElem? (i := 477) (by decide +kernel), List.mem_of_getElem? (i := 611) (by decide +kernel), List.mem_of_getElem? (i := 612) (by decide +kernel)⟩
theorem lw_p34 : lw_okq (⟨"TrussSolverModel", "sign", "(I)I"⟩, 21) := ⟨⟨by decide +kernel, by decide +kernel⟩, List.mem_of_getElem? (i := 477) (by decide +kernel), List.mem_of_getElem? (i := 615) (by decide +kernel), List.mem_of_getElem? (i := 616) (by decide +kernel)⟩
theorem lw_p35 : lw_okq (⟨"TrussSolverModel", "det", "(II)J"⟩, 21) := ⟨⟨by decide +kernel, by decide +kernel⟩, List.mem_of_getElem? (i := 477) (by decide +kernel), List.mem_of_getElem? (i := 619) (by decide +kernel), List.mem_of_getElem? (i := 620) (by decide +kernel)⟩
theorem lw_p36 : lw_okq (⟨"TrussSolverModel", "modulo", "(IIJ)J"⟩, 21) := ⟨⟨by decide +kernel, by decide +kernel⟩, List.mem_of_getElem? (i := 477) (by decide +kernel), List.mem_of_getElem? (i := 625) (by decide +kernel), List.mem_of_getElem? (i := 626) (by decide +kernel)⟩
theorem lw_p37 : lw_okq (⟨"TrussSolverModel", "exchange", "(II)V"⟩, 21) := ⟨⟨by decide +kernel, by decide +kernel⟩, List.mem_of_getElem? (i := 477) (by decide +kernel), List.mem_of_getElem? (i := 629) (by decide +kernel), List.mem_of_getElem? (i := 630) (by decide +kernel)⟩
theorem lw_p38 : lw_okq (⟨"TrussSolverModel", "clear", "(IIJ)V"⟩, 21) := ⟨⟨by decide +kernel, by decide +kernel⟩, List.mem_of_getElem? (i := 477) (by decide +kernel), List.mem_of_getElem? (i := 633) (by decide +kernel), List.mem_of_getElem? (i := 634) (by decide +kernel)⟩
theorem lw_p39 : lw_okq (⟨"TrussSolverModel", "powered", "(JJJ)J"⟩, 21) := ⟨⟨by decide +kernel, by decide +kernel⟩, List.mem_of_getElem? (i := 477) (by decide +kernel), List.mem_of_getElem? (i := 638) (by decide +kernel), List.mem_of_getElem? (i := 639) (by decide +kernel)⟩
theorem lw_p40 : lw_okq (⟨"TrussSolverModel", "moved", "(II)J"⟩, 21) := ⟨⟨by decide +kernel, by decide +kernel⟩, List.mem_of_getElem? (i := 477) (by decide +kernel), List.mem_of_getElem? (i := 655) (by decide +kernel), List.mem_of_getElem? (i := 656) (by decide +kernel)⟩
theorem lw_p41 : lw_okq (⟨"TrussSolverModel", "loadOf", "(II)J"⟩, 21) := ⟨⟨by decide +kernel, by decide +kernel⟩, List.mem_of_getElem? (i := 477) (by decide +kernel), List.mem_of_getElem? (i := 659) (by decide +kernel), List.mem_of_getElem? (i := 660) (by decide +kernel)⟩
theorem lw_p42 : lw_okq (⟨"TrussSolverModel", "fixedOf", "(II)J"⟩, 21) := ⟨⟨by decide +kernel, by decide +kernel⟩, List.mem_of_getElem? (i := 477) (by decide +kernel), List.mem_of_getElem? (i := 663) (by decide +kernel), List.mem_of_getElem? (i := 664) (by decide +kernel)⟩
theorem lw_p43 : lw_okq (⟨"TrussSolverModel", "fraction", "(JJI)J"⟩, 21) := ⟨⟨by decide +kernel, by decide +kernel⟩, List.mem_of_getElem? (i := 477) (by decide +kernel), List.mem_of_getElem? (i := 671) (by decide +kernel), List.mem_of_getElem? (i := 672) (by decide +kernel)⟩
theorem lw_p44 : lw_okq (⟨"TrussSolverModel", "pull", "(II)J"⟩, 21) := ⟨⟨by decide +kernel, by decide +kernel⟩, List.mem_of_getElem? (i := 477) (by decide +kernel), List.mem_of_getElem? (i := 680) (by decide +kernel), List.mem_of_getElem? (i := 681) (by decide +kernel)⟩
theorem lw_p45 : lw_okq (⟨"TrussSolverModel", "profile", "()I"⟩, 21) := ⟨⟨by decide +kernel, by decide +kernel⟩, List.mem_of_getElem? (i := 477) (by decide +kernel), List.mem_of_getElem? (i := 701) (by decide +kernel), List.mem_of_getElem? (i := 702) (by decide +kernel)⟩
def lw_privs_3 : List (MethodName × Nat) := [(⟨"TrussSolverModel", "makeMatrix", "()V"⟩, 21), (⟨"TrussSolverModel", "way", "(II)I"⟩, 21), (⟨"TrussSolverModel", "sign", "(I)I"⟩, 21), (⟨"TrussSolverModel", "det", "(II)J"⟩, 21), (⟨"TrussSolverModel", "modulo", "(IIJ)J"⟩, 21), (⟨"TrussSolverModel", "exchange", "(II)V"⟩, 21), (⟨"TrussSolverModel", "clear", "(IIJ)V"⟩, 21), (⟨"TrussSolverModel", "powered", "(JJJ)J"⟩, 21), (⟨"TrussSolverModel", "moved", "(II)J"⟩, 21), (⟨"TrussSolverModel", "loadOf", "(II)J"⟩, 21), (⟨"TrussSolverModel", "fixedOf", "(II)J"⟩, 21), (⟨"TrussSolverModel", "fraction", "(JJI)J"⟩, 21), (⟨"TrussSolverModel", "pull", "(II)J"⟩, 21), (⟨"TrussSolverModel", "profile", "()I"⟩, 21)]
theorem lw_r3 : ∀ q ∈ lw_privs_3, lw_okq q := List.forall_mem_cons.mpr ⟨lw_p32, List.forall_mem_cons.mpr ⟨lw_p33, List.forall_mem_cons.mpr ⟨lw_p34, List.forall_mem_cons.mpr ⟨lw_p35, List.forall_mem_cons.mpr ⟨lw_p36, List.forall_mem_cons.mpr ⟨lw_p37, List.forall_mem_cons.mpr ⟨lw_p38, List.forall_mem_cons.mpr ⟨lw_p39, List.forall_mem_cons.mpr ⟨lw_p40, List.forall_mem_cons.mpr ⟨lw_p41, List.forall_mem_cons.mpr ⟨lw_p42, List.forall_mem_cons.mpr ⟨lw_p43, List.forall_mem_cons.mpr ⟨lw_p44, List.forall_mem_cons.mpr ⟨lw_p45, fun _ h => absurd h List.not_mem_nil⟩⟩⟩⟩⟩⟩⟩⟩⟩⟩⟩⟩⟩⟩
def lw_privs : List (MethodName × Nat) := lw_privs_1 ++ (lw_privs_2 ++ (lw_privs_3))
def lw_tbl : List Cond := k2_sels lw_privs ++ tables_1
theorem lw_privs_ok : ∀ q ∈ lw_privs, lw_okq q := by
  show ∀ q ∈ lw_privs_1 ++ (lw_privs_2 ++ (lw_privs_3)), lw_okq q
  exact List.forall_mem_append.mpr ⟨lw_r1, List.forall_mem_append.mpr ⟨lw_r2, lw_r3⟩⟩
-- ===== end of PART A =====
theorem tb_len_1 : True := trivial
/-- the words of the table that last -/
def gt_ws : List Cond := lw_tbl.filter goodWord
theorem gt_of {w : Cond} (i : Nat) (h : lw_tbl[i]? = some w) (hg : goodWord w = true) : w ∈ gt_ws := List.mem_filter.mpr ⟨List.mem_of_getElem? h, hg⟩
theorem gt_lw {w : Cond} (h : w ∈ gt_ws) : w ∈ lw_tbl := (List.mem_filter.mp h).1
theorem gt_good {w : Cond} (h : w ∈ gt_ws) : (w.onTables && w.keeps) = true ∨ ∃ ty, w = .arrayClass ty := good_of_word (List.mem_filter.mp h).2
theorem gt_in {big : List Cond} {c : Cond} (hb : ∀ w ∈ gt_ws, w ∈ big) (hc : c ∈ gt_ws) : GoodIn big (c :: gt_ws) := fun w h => (List.mem_cons.mp h).elim (fun e => by subst e; exact ⟨hb _ hc, gt_good hc⟩) (fun h => ⟨hb _ h, gt_good h⟩)
end
section
def RQ_E : String := "TrussSolver$Equations"
def FQ_E : u_T := fun k => match k with
  | 0 => ("TrussSolver$Equations", "stiffness", "[[J", true)
  | 1 => ("TrussSolver$Equations", "matrix", "[[J", true)
  | 2 => ("TrussSolver$Equations", "size", "I", false)
  | 3 => ("TrussSolver$Equations", "polynomial", "[J", true)
  | 4 => ("TrussSolver$Equations", "growth", "[J", true)
  | 5 => ("TrussSolver$Equations", "column", "[J", true)
  | _ => ("TrussSolver$Equations", "image", "[J", true)
def TQ_E : Nat → FieldType := fun k => match k with
  | 0 => .array (.array .long)
  | 1 => .array (.array .long)
  | 2 => .int
  | 3 => .array .long
  | 4 => .array .long
  | 5 => .array .long
  | _ => .array .long
theorem NQ_E : ∀ a, a < 7 → ∀ b, b < 7 → a ≠ b → (FQ_E a).2.1 ≠ (FQ_E b).2.1 := by decide +kernel
theorem TQ_E_ok : ∀ k, k < 7 → parseFieldDescriptor (FQ_E k).2.2.1 = some (TQ_E k) := by decide +kernel
theorem IQ_E : ∀ w ∈ u_ws RQ_E FQ_E 7, w ∈ gt_ws := by decide +kernel
def RQ_N : String := "TrussSolver$Numbering"
def FQ_N : u_T := fun k => match k with
  | 0 => ("TrussSolver$Numbering", "nodes", "[I", true)
  | 1 => ("TrussSolver$Numbering", "placed", "I", false)
  | 2 => ("TrussSolver$Numbering", "taken", "I", false)
  | 3 => ("TrussSolver$Numbering", "neighbours", "[I", true)
  | 4 => ("TrussSolver$Numbering", "unknownAt", "[I", true)
  | 5 => ("TrussSolver$Numbering", "slotOfUnknown", "[I", true)
  | _ => ("TrussSolver$Numbering", "unknowns", "I", false)
def TQ_N : Nat → FieldType := fun k => match k with
  | 0 => .array .int
  | 1 => .int
  | 2 => .int
  | 3 => .array .int
  | 4 => .array .int
  | 5 => .array .int
  | _ => .int
theorem NQ_N : ∀ a, a < 7 → ∀ b, b < 7 → a ≠ b → (FQ_N a).2.1 ≠ (FQ_N b).2.1 := by decide +kernel
theorem TQ_N_ok : ∀ k, k < 7 → parseFieldDescriptor (FQ_N k).2.2.1 = some (TQ_N k) := by decide +kernel
theorem IQ_N : ∀ w ∈ u_ws RQ_N FQ_N 7, w ∈ gt_ws := by decide +kernel
def RQ_R : String := "TrussSolver$Response"
def FQ_R : u_T := fun k => match k with
  | 0 => ("TrussSolver$Response", "factors", "[I", true)
  | 1 => ("TrussSolver$Response", "loads", "[J", true)
  | 2 => ("TrussSolver$Response", "numerators", "[J", true)
  | 3 => ("TrussSolver$Response", "rightSide", "[J", true)
  | 4 => ("TrussSolver$Response", "scaled", "[J", true)
  | _ => ("TrussSolver$Response", "scale", "J", false)
def TQ_R : Nat → FieldType := fun k => match k with
  | 0 => .array .int
  | 1 => .array .long
  | 2 => .array .long
  | 3 => .array .long
  | 4 => .array .long
  | _ => .long
theorem NQ_R : ∀ a, a < 6 → ∀ b, b < 6 → a ≠ b → (FQ_R a).2.1 ≠ (FQ_R b).2.1 := by decide +kernel
theorem TQ_R_ok : ∀ k, k < 6 → parseFieldDescriptor (FQ_R k).2.2.1 = some (TQ_R k) := by decide +kernel
theorem IQ_R : ∀ w ∈ u_ws RQ_R FQ_R 6, w ∈ gt_ws := by decide +kernel
def RQ_T : String := "TrussSolver$Truss"
def FQ_T : u_T := fun k => match k with
  | 0 => ("TrussSolver$Truss", "there", "I", false)
  | 1 => ("TrussSolver$Truss", "points", "[I", true)
  | 2 => ("TrussSolver$Truss", "firstNodes", "[I", true)
  | 3 => ("TrussSolver$Truss", "secondNodes", "[I", true)
  | 4 => ("TrussSolver$Truss", "stiffnesses", "[I", true)
  | 5 => ("TrussSolver$Truss", "barCount", "I", false)
  | 6 => ("TrussSolver$Truss", "held", "[Z", true)
  | 7 => ("TrussSolver$Truss", "heldAt", "[I", true)
  | 8 => ("TrussSolver$Truss", "springs", "[I", true)
  | _ => ("TrussSolver$Truss", "loads", "[[I", true)
def TQ_T : Nat → FieldType := fun k => match k with
  | 0 => .int
  | 1 => .array .int
  | 2 => .array .int
  | 3 => .array .int
  | 4 => .array .int
  | 5 => .int
  | 6 => .array .boolean
  | 7 => .array .int
  | 8 => .array .int
  | _ => .array (.array .int)
theorem NQ_T : ∀ a, a < 10 → ∀ b, b < 10 → a ≠ b → (FQ_T a).2.1 ≠ (FQ_T b).2.1 := by decide +kernel
theorem TQ_T_ok : ∀ k, k < 10 → parseFieldDescriptor (FQ_T k).2.2.1 = some (TQ_T k) := by decide +kernel
theorem IQ_T : ∀ w ∈ u_ws RQ_T FQ_T 10, w ∈ gt_ws := by decide +kernel
def RQ_S : String := "TrussSolver"
def FQ_S : u_T := fun k => match k with
  | 0 => ("TrussSolver", "truss", "LTrussSolver$Truss;", true)
  | 1 => ("TrussSolver", "numbering", "LTrussSolver$Numbering;", true)
  | 2 => ("TrussSolver", "equations", "LTrussSolver$Equations;", true)
  | 3 => ("TrussSolver", "response", "LTrussSolver$Response;", true)
  | _ => ("TrussSolver", "isSealed", "Z", false)
def TQ_S : Nat → FieldType := fun k => match k with
  | 0 => .object "TrussSolver$Truss"
  | 1 => .object "TrussSolver$Numbering"
  | 2 => .object "TrussSolver$Equations"
  | 3 => .object "TrussSolver$Response"
  | _ => .boolean
theorem NQ_S : ∀ a, a < 5 → ∀ b, b < 5 → a ≠ b → (FQ_S a).2.1 ≠ (FQ_S b).2.1 := by decide +kernel
theorem TQ_S_ok : ∀ k, k < 5 → parseFieldDescriptor (FQ_S k).2.2.1 = some (TQ_S k) := by decide +kernel
theorem IQ_S : ∀ w ∈ u_ws RQ_S FQ_S 5, w ∈ gt_ws := by decide +kernel
def RQ_M : String := "TrussSolverModel"
def FQ_M : u_T := fun k => match k with
  | 0 => ("TrussSolverModel", "there", "[Z", true)
  | 1 => ("TrussSolverModel", "px", "[I", true)
  | 2 => ("TrussSolverModel", "py", "[I", true)
  | 3 => ("TrussSolverModel", "first", "[I", true)
  | 4 => ("TrussSolverModel", "second", "[I", true)
  | 5 => ("TrussSolverModel", "stiff", "[I", true)
  | 6 => ("TrussSolverModel", "bars", "I", false)
  | 7 => ("TrussSolverModel", "held", "[Z", true)
  | 8 => ("TrussSolverModel", "fixed", "[I", true)
  | 9 => ("TrussSolverModel", "spring", "[I", true)
  | 10 => ("TrussSolverModel", "loads", "[I", true)
  | 11 => ("TrussSolverModel", "sealed", "Z", false)
  | 12 => ("TrussSolverModel", "order", "[I", true)
  | 13 => ("TrussSolverModel", "ordered", "I", false)
  | 14 => ("TrussSolverModel", "place", "[I", true)
  | 15 => ("TrussSolverModel", "unknowns", "I", false)
  | 16 => ("TrussSolverModel", "full", "[I", true)
  | 17 => ("TrussSolverModel", "right", "[J", true)
  | 18 => ("TrussSolverModel", "work", "[J", true)
  | 19 => ("TrussSolverModel", "top", "J", false)
  | _ => ("TrussSolverModel", "below", "J", false)
def TQ_M : Nat → FieldType := fun k => match k with
  | 0 => .array .boolean
  | 1 => .array .int
  | 2 => .array .int
  | 3 => .array .int
  | 4 => .array .int
  | 5 => .array .int
  | 6 => .int
  | 7 => .array .boolean
  | 8 => .array .int
  | 9 => .array .int
  | 10 => .array .int
  | 11 => .boolean
  | 12 => .array .int
  | 13 => .int
  | 14 => .array .int
  | 15 => .int
  | 16 => .array .int
  | 17 => .array .long
  | 18 => .array .long
  | 19 => .long
  | _ => .long
theorem NQ_M : ∀ a, a < 21 → ∀ b, b < 21 → a ≠ b → (FQ_M a).2.1 ≠ (FQ_M b).2.1 := by decide +kernel
theorem TQ_M_ok : ∀ k, k < 21 → parseFieldDescriptor (FQ_M k).2.2.1 = some (TQ_M k) := by decide +kernel
theorem IQ_M : ∀ w ∈ u_ws RQ_M FQ_M 21, w ∈ gt_ws := by decide +kernel
def RQ_L : String := "TrussSolverLaw"
def RQ_JI : String := "java/lang/Integer"
def RQ_JM : String := "java/lang/Math"
def RQ_JA : String := "java/util/Arrays"
def RQ_JS : String := "java/lang/System"
abbrev cl_all : List vw_C := [(RQ_E, FQ_E, 7), (RQ_N, FQ_N, 7), (RQ_R, FQ_R, 6), (RQ_T, FQ_T, 10), (RQ_S, FQ_S, 5), (RQ_M, FQ_M, 21)]
abbrev c_S_init : ByteArray := prog_1_method_1_code
def y_S_init : MethodName := ⟨RQ_S, "<init>", "()V"⟩
abbrev c_T_init : ByteArray := prog_5_method_1_code
def y_T_init : MethodName := ⟨RQ_T, "<init>", "()V"⟩
abbrev c_N_init : ByteArray := prog_3_method_1_code
def y_N_init : MethodName := ⟨RQ_N, "<init>", "()V"⟩
abbrev c_E_init : ByteArray := prog_2_method_1_code
def y_E_init : MethodName := ⟨RQ_E, "<init>", "()V"⟩
abbrev c_R_init : ByteArray := prog_4_method_1_code
def y_R_init : MethodName := ⟨RQ_R, "<init>", "()V"⟩
abbrev c_S_node : ByteArray := prog_1_method_2_code
def y_S_node : MethodName := ⟨RQ_S, "node", "(III)I"⟩
abbrev c_S_isNode : ByteArray := prog_1_method_23_code
def y_S_isNode : MethodName := ⟨RQ_S, "isNode", "(I)Z"⟩
abbrev c_S_isOnGrid : ByteArray := prog_1_method_24_code
def y_S_isOnGrid : MethodName := ⟨RQ_S, "isOnGrid", "(I)Z"⟩
abbrev c_T_hasOtherAt : ByteArray := prog_5_method_4_code
def y_T_hasOtherAt : MethodName := ⟨RQ_T, "hasOtherAt", "(III)Z"⟩
abbrev c_T_isThere : ByteArray := prog_5_method_2_code
def y_T_isThere : MethodName := ⟨RQ_T, "isThere", "(I)Z"⟩
abbrev c_S_slotOf : ByteArray := prog_1_method_28_code
def y_S_slotOf : MethodName := ⟨RQ_S, "slotOf", "(II)I"⟩
abbrev c_T_putNode : ByteArray := prog_5_method_5_code
def y_T_putNode : MethodName := ⟨RQ_T, "putNode", "(III)V"⟩
abbrev c_S_bar : ByteArray := prog_1_method_3_code
def y_S_bar : MethodName := ⟨RQ_S, "bar", "(III)I"⟩
abbrev c_T_addBar : ByteArray := prog_5_method_6_code
def y_T_addBar : MethodName := ⟨RQ_T, "addBar", "(III)I"⟩
abbrev c_S_unbar : ByteArray := prog_1_method_4_code
def y_S_unbar : MethodName := ⟨RQ_S, "unbar", "(I)I"⟩
abbrev c_S_isBarThere : ByteArray := prog_1_method_20_code
def y_S_isBarThere : MethodName := ⟨RQ_S, "isBarThere", "(I)Z"⟩
abbrev c_T_removeBar : ByteArray := prog_5_method_7_code
def y_T_removeBar : MethodName := ⟨RQ_T, "removeBar", "(I)V"⟩
abbrev c_S_hold : ByteArray := prog_1_method_5_code
def y_S_hold : MethodName := ⟨RQ_S, "hold", "(IIZI)I"⟩
abbrev c_S_isDirection : ByteArray := prog_1_method_25_code
def y_S_isDirection : MethodName := ⟨RQ_S, "isDirection", "(I)Z"⟩
abbrev c_S_spring : ByteArray := prog_1_method_6_code
def y_S_spring : MethodName := ⟨RQ_S, "spring", "(III)I"⟩
abbrev c_S_load : ByteArray := prog_1_method_7_code
def y_S_load : MethodName := ⟨RQ_S, "load", "(IIII)I"⟩
abbrev c_S_isCase : ByteArray := prog_1_method_26_code
def y_S_isCase : MethodName := ⟨RQ_S, "isCase", "(I)Z"⟩
abbrev c_S_solve : ByteArray := prog_1_method_8_code
def y_S_solve : MethodName := ⟨RQ_S, "solve", "()I"⟩
abbrev c_T_nodeCount : ByteArray := prog_5_method_3_code
def y_T_nodeCount : MethodName := ⟨RQ_T, "nodeCount", "()I"⟩
abbrev c_J_bitCount : ByteArray := prog_8_method_49_code
def y_J_bitCount : MethodName := ⟨RQ_JI, "bitCount", "(I)I"⟩
abbrev c_T_firstBadBar : ByteArray := prog_5_method_8_code
def y_T_firstBadBar : MethodName := ⟨RQ_T, "firstBadBar", "()I"⟩
abbrev c_T_isGood : ByteArray := prog_5_method_9_code
def y_T_isGood : MethodName := ⟨RQ_T, "isGood", "(I)Z"⟩
abbrev c_T_reach : ByteArray := prog_5_method_10_code
def y_T_reach : MethodName := ⟨RQ_T, "reach", "(II)I"⟩
abbrev c_N_make : ByteArray := prog_3_method_2_code
def y_N_make : MethodName := ⟨RQ_N, "make", "(LTrussSolver$Truss;)V"⟩
abbrev c_N_findNeighbours : ByteArray := prog_3_method_3_code
def y_N_findNeighbours : MethodName := ⟨RQ_N, "findNeighbours", "(LTrussSolver$Truss;)V"⟩
abbrev c_J_fillI : ByteArray := prog_11_method_103_code
def y_J_fillI : MethodName := ⟨RQ_JA, "fill", "([II)V"⟩
abbrev c_N_placeNodes : ByteArray := prog_3_method_4_code
def y_N_placeNodes : MethodName := ⟨RQ_N, "placeNodes", "(LTrussSolver$Truss;)V"⟩
abbrev c_N_leastJoined : ByteArray := prog_3_method_7_code
def y_N_leastJoined : MethodName := ⟨RQ_N, "leastJoined", "(I)I"⟩
abbrev c_N_append : ByteArray := prog_3_method_6_code
def y_N_append : MethodName := ⟨RQ_N, "append", "(I)V"⟩
abbrev c_N_appendNeighboursOf : ByteArray := prog_3_method_5_code
def y_N_appendNeighboursOf : MethodName := ⟨RQ_N, "appendNeighboursOf", "(I)V"⟩
abbrev c_N_turnRound : ByteArray := prog_3_method_8_code
def y_N_turnRound : MethodName := ⟨RQ_N, "turnRound", "()V"⟩
abbrev c_N_numberSlots : ByteArray := prog_3_method_9_code
def y_N_numberSlots : MethodName := ⟨RQ_N, "numberSlots", "(LTrussSolver$Truss;)V"⟩
abbrev c_N_numberSlot : ByteArray := prog_3_method_10_code
def y_N_numberSlot : MethodName := ⟨RQ_N, "numberSlot", "(ILTrussSolver$Truss;)V"⟩
abbrev c_E_make : ByteArray := prog_2_method_2_code
def y_E_make : MethodName := ⟨RQ_E, "make", "(LTrussSolver$Truss;LTrussSolver$Numbering;)V"⟩
abbrev c_E_sumUpStiffness : ByteArray := prog_2_method_3_code
def y_E_sumUpStiffness : MethodName := ⟨RQ_E, "sumUpStiffness", "(LTrussSolver$Truss;)V"⟩
abbrev c_J_fillL : ByteArray := prog_11_method_101_code
def y_J_fillL : MethodName := ⟨RQ_JA, "fill", "([JJ)V"⟩
abbrev c_E_addStiffnessOfBar : ByteArray := prog_2_method_4_code
def y_E_addStiffnessOfBar : MethodName := ⟨RQ_E, "addStiffnessOfBar", "(LTrussSolver$Truss;I)V"⟩
abbrev c_T_stretchBy : ByteArray := prog_5_method_11_code
def y_T_stretchBy : MethodName := ⟨RQ_T, "stretchBy", "(II)I"⟩
abbrev c_T_signOf : ByteArray := prog_5_method_12_code
def y_T_signOf : MethodName := ⟨RQ_T, "signOf", "(I)I"⟩
abbrev c_E_findWeakUnknown : ByteArray := prog_2_method_5_code
def y_E_findWeakUnknown : MethodName := ⟨RQ_E, "findWeakUnknown", "()I"⟩
abbrev c_E_growPolynomial : ByteArray := prog_2_method_6_code
def y_E_growPolynomial : MethodName := ⟨RQ_E, "growPolynomial", "(I)V"⟩
abbrev c_E_findGrowth : ByteArray := prog_2_method_7_code
def y_E_findGrowth : MethodName := ⟨RQ_E, "findGrowth", "(I)V"⟩
abbrev c_E_rowTimes : ByteArray := prog_2_method_8_code
def y_E_rowTimes : MethodName := ⟨RQ_E, "rowTimes", "(I[JI)J"⟩
abbrev c_E_multiply : ByteArray := prog_2_method_9_code
def y_E_multiply : MethodName := ⟨RQ_E, "multiply", "([JI)V"⟩
abbrev c_S_open : ByteArray := prog_1_method_9_code
def y_S_open : MethodName := ⟨RQ_S, "open", "()I"⟩
abbrev c_S_displacement : ByteArray := prog_1_method_10_code
def y_S_displacement : MethodName := ⟨RQ_S, "displacement", "(IIII)J"⟩
abbrev c_S_isAnswerable : ByteArray := prog_1_method_18_code
def y_S_isAnswerable : MethodName := ⟨RQ_S, "isAnswerable", "(III)Z"⟩
abbrev c_S_isNodeThere : ByteArray := prog_1_method_19_code
def y_S_isNodeThere : MethodName := ⟨RQ_S, "isNodeThere", "(I)Z"⟩
abbrev c_S_isPart : ByteArray := prog_1_method_27_code
def y_S_isPart : MethodName := ⟨RQ_S, "isPart", "(I)Z"⟩
abbrev c_R_chooseCase : ByteArray := prog_4_method_2_code
def y_R_chooseCase : MethodName := ⟨RQ_R, "chooseCase", "(I)V"⟩
abbrev c_R_respond : ByteArray := prog_4_method_4_code
def y_R_respond : MethodName := ⟨RQ_R, "respond", "(LTrussSolver$Truss;LTrussSolver$Numbering;LTrussSolver$Equations;)V"⟩
abbrev c_E_wholeMinor : ByteArray := prog_2_method_10_code
def y_E_wholeMinor : MethodName := ⟨RQ_E, "wholeMinor", "()J"⟩
abbrev c_R_sumUpLoads : ByteArray := prog_4_method_5_code
def y_R_sumUpLoads : MethodName := ⟨RQ_R, "sumUpLoads", "(LTrussSolver$Truss;)V"⟩
abbrev c_R_moveHeldSlots : ByteArray := prog_4_method_6_code
def y_R_moveHeldSlots : MethodName := ⟨RQ_R, "moveHeldSlots", "(LTrussSolver$Truss;)V"⟩
abbrev c_R_heldDisplacement : ByteArray := prog_4_method_7_code
def y_R_heldDisplacement : MethodName := ⟨RQ_R, "heldDisplacement", "(LTrussSolver$Truss;I)J"⟩
abbrev c_R_findRightSide : ByteArray := prog_4_method_8_code
def y_R_findRightSide : MethodName := ⟨RQ_R, "findRightSide", "(LTrussSolver$Truss;LTrussSolver$Numbering;LTrussSolver$Equations;)V"⟩
abbrev c_E_solveScaled : ByteArray := prog_2_method_11_code
def y_E_solveScaled : MethodName := ⟨RQ_E, "solveScaled", "([J[J)V"⟩
abbrev c_S_partOfFraction : ByteArray := prog_1_method_21_code
def y_S_partOfFraction : MethodName := ⟨RQ_S, "partOfFraction", "(JI)J"⟩
abbrev c_S_greatestDivisor : ByteArray := prog_1_method_22_code
def y_S_greatestDivisor : MethodName := ⟨RQ_S, "greatestDivisor", "(JJ)J"⟩
abbrev c_S_force : ByteArray := prog_1_method_11_code
def y_S_force : MethodName := ⟨RQ_S, "force", "(III)J"⟩
abbrev c_R_forceNumerator : ByteArray := prog_4_method_9_code
def y_R_forceNumerator : MethodName := ⟨RQ_R, "forceNumerator", "(LTrussSolver$Truss;I)J"⟩
abbrev c_S_reaction : ByteArray := prog_1_method_12_code
def y_S_reaction : MethodName := ⟨RQ_S, "reaction", "(IIII)J"⟩
abbrev c_R_reactionNumerator : ByteArray := prog_4_method_10_code
def y_R_reactionNumerator : MethodName := ⟨RQ_R, "reactionNumerator", "(LTrussSolver$Equations;I)J"⟩
abbrev c_S_combined : ByteArray := prog_1_method_13_code
def y_S_combined : MethodName := ⟨RQ_S, "combined", "(IIII)J"⟩
abbrev c_R_chooseFactors : ByteArray := prog_4_method_3_code
def y_R_chooseFactors : MethodName := ⟨RQ_R, "chooseFactors", "(I)V"⟩
abbrev c_S_determinant : ByteArray := prog_1_method_14_code
def y_S_determinant : MethodName := ⟨RQ_S, "determinant", "()J"⟩
abbrev c_S_order : ByteArray := prog_1_method_15_code
def y_S_order : MethodName := ⟨RQ_S, "order", "(I)I"⟩
abbrev c_S_unknown : ByteArray := prog_1_method_16_code
def y_S_unknown : MethodName := ⟨RQ_S, "unknown", "(II)I"⟩
abbrev c_S_count : ByteArray := prog_1_method_17_code
def y_S_count : MethodName := ⟨RQ_S, "count", "(I)I"⟩
abbrev c_E_profile : ByteArray := prog_2_method_12_code
def y_E_profile : MethodName := ⟨RQ_E, "profile", "()I"⟩
abbrev c_M_init : ByteArray := prog_7_method_1_code
def y_M_init : MethodName := ⟨RQ_M, "<init>", "()V"⟩
abbrev c_M_node : ByteArray := prog_7_method_3_code
def y_M_node : MethodName := ⟨RQ_M, "node", "(III)I"⟩
abbrev c_M_off : ByteArray := prog_7_method_2_code
def y_M_off : MethodName := ⟨RQ_M, "off", "(II)Z"⟩
abbrev c_M_bar : ByteArray := prog_7_method_4_code
def y_M_bar : MethodName := ⟨RQ_M, "bar", "(III)I"⟩
abbrev c_M_unbar : ByteArray := prog_7_method_5_code
def y_M_unbar : MethodName := ⟨RQ_M, "unbar", "(I)I"⟩
abbrev c_M_hold : ByteArray := prog_7_method_6_code
def y_M_hold : MethodName := ⟨RQ_M, "hold", "(IIZI)I"⟩
abbrev c_M_spring : ByteArray := prog_7_method_7_code
def y_M_spring : MethodName := ⟨RQ_M, "spring", "(III)I"⟩
abbrev c_M_load : ByteArray := prog_7_method_8_code
def y_M_load : MethodName := ⟨RQ_M, "load", "(IIII)I"⟩
abbrev c_M_solve : ByteArray := prog_7_method_24_code
def y_M_solve : MethodName := ⟨RQ_M, "solve", "()I"⟩
abbrev c_M_makeOrder : ByteArray := prog_7_method_17_code
def y_M_makeOrder : MethodName := ⟨RQ_M, "makeOrder", "()V"⟩
abbrev c_M_candidate : ByteArray := prog_7_method_15_code
def y_M_candidate : MethodName := ⟨RQ_M, "candidate", "(I)I"⟩
abbrev c_M_inOrder : ByteArray := prog_7_method_14_code
def y_M_inOrder : MethodName := ⟨RQ_M, "inOrder", "(I)Z"⟩
abbrev c_M_joined : ByteArray := prog_7_method_12_code
def y_M_joined : MethodName := ⟨RQ_M, "joined", "(II)Z"⟩
abbrev c_M_neighbours : ByteArray := prog_7_method_13_code
def y_M_neighbours : MethodName := ⟨RQ_M, "neighbours", "(I)I"⟩
abbrev c_M_append : ByteArray := prog_7_method_16_code
def y_M_append : MethodName := ⟨RQ_M, "append", "(I)V"⟩
abbrev c_M_good : ByteArray := prog_7_method_11_code
def y_M_good : MethodName := ⟨RQ_M, "good", "(I)Z"⟩
abbrev c_M_makeMatrix : ByteArray := prog_7_method_18_code
def y_M_makeMatrix : MethodName := ⟨RQ_M, "makeMatrix", "()V"⟩
abbrev c_M_way : ByteArray := prog_7_method_10_code
def y_M_way : MethodName := ⟨RQ_M, "way", "(II)I"⟩
abbrev c_M_sign : ByteArray := prog_7_method_9_code
def y_M_sign : MethodName := ⟨RQ_M, "sign", "(I)I"⟩
abbrev c_M_det : ByteArray := prog_7_method_23_code
def y_M_det : MethodName := ⟨RQ_M, "det", "(II)J"⟩
abbrev c_M_modulo : ByteArray := prog_7_method_20_code
def y_M_modulo : MethodName := ⟨RQ_M, "modulo", "(IIJ)J"⟩
abbrev c_M_exchange : ByteArray := prog_7_method_21_code
def y_M_exchange : MethodName := ⟨RQ_M, "exchange", "(II)V"⟩
abbrev c_M_clear : ByteArray := prog_7_method_22_code
def y_M_clear : MethodName := ⟨RQ_M, "clear", "(IIJ)V"⟩
abbrev c_M_powered : ByteArray := prog_7_method_19_code
def y_M_powered : MethodName := ⟨RQ_M, "powered", "(JJJ)J"⟩
abbrev c_M_open : ByteArray := prog_7_method_25_code
def y_M_open : MethodName := ⟨RQ_M, "open", "()I"⟩
abbrev c_M_displacement : ByteArray := prog_7_method_30_code
def y_M_displacement : MethodName := ⟨RQ_M, "displacement", "(IIII)J"⟩
abbrev c_M_combined : ByteArray := prog_7_method_31_code
def y_M_combined : MethodName := ⟨RQ_M, "combined", "(IIII)J"⟩
abbrev c_M_moved : ByteArray := prog_7_method_28_code
def y_M_moved : MethodName := ⟨RQ_M, "moved", "(II)J"⟩
abbrev c_M_loadOf : ByteArray := prog_7_method_26_code
def y_M_loadOf : MethodName := ⟨RQ_M, "loadOf", "(II)J"⟩
abbrev c_M_fixedOf : ByteArray := prog_7_method_27_code
def y_M_fixedOf : MethodName := ⟨RQ_M, "fixedOf", "(II)J"⟩
abbrev c_M_determinant : ByteArray := prog_7_method_35_code
def y_M_determinant : MethodName := ⟨RQ_M, "determinant", "()J"⟩
abbrev c_M_fraction : ByteArray := prog_7_method_29_code
def y_M_fraction : MethodName := ⟨RQ_M, "fraction", "(JJI)J"⟩
abbrev c_M_force : ByteArray := prog_7_method_33_code
def y_M_force : MethodName := ⟨RQ_M, "force", "(III)J"⟩
abbrev c_M_pull : ByteArray := prog_7_method_32_code
def y_M_pull : MethodName := ⟨RQ_M, "pull", "(II)J"⟩
abbrev c_M_reaction : ByteArray := prog_7_method_34_code
def y_M_reaction : MethodName := ⟨RQ_M, "reaction", "(IIII)J"⟩
abbrev c_M_order : ByteArray := prog_7_method_36_code
def y_M_order : MethodName := ⟨RQ_M, "order", "(I)I"⟩
abbrev c_M_unknown : ByteArray := prog_7_method_37_code
def y_M_unknown : MethodName := ⟨RQ_M, "unknown", "(II)I"⟩
abbrev c_M_count : ByteArray := prog_7_method_39_code
def y_M_count : MethodName := ⟨RQ_M, "count", "(I)I"⟩
abbrev c_M_profile : ByteArray := prog_7_method_38_code
def y_M_profile : MethodName := ⟨RQ_M, "profile", "()I"⟩
end
section
theorem d_S_init_0 : decode c_S_init 0 = .ok (.aload_n 0, 1) := by decide +kernel
theorem d_S_init_1 : decode c_S_init 1 = .ok (.invokespecial 3, 3) := by decide +kernel
theorem d_S_init_4 : decode c_S_init 4 = .ok (.aload_n 0, 1) := by decide +kernel
theorem d_S_init_5 : decode c_S_init 5 = .ok (.new 9, 3) := by decide +kernel
theorem d_S_init_8 : decode c_S_init 8 = .ok (.dup, 1) := by decide +kernel
theorem d_S_init_9 : decode c_S_init 9 = .ok (.invokespecial 11, 3) := by decide +kernel
theorem d_S_init_12 : decode c_S_init 12 = .ok (.putfield 12, 3) := by decide +kernel
theorem d_S_init_15 : decode c_S_init 15 = .ok (.aload_n 0, 1) := by decide +kernel
theorem d_S_init_16 : decode c_S_init 16 = .ok (.new 16, 3) := by decide +kernel
theorem d_S_init_19 : decode c_S_init 19 = .ok (.dup, 1) := by decide +kernel
theorem d_S_init_20 : decode c_S_init 20 = .ok (.invokespecial 18, 3) := by decide +kernel
theorem d_S_init_23 : decode c_S_init 23 = .ok (.putfield 19, 3) := by decide +kernel
theorem d_S_init_26 : decode c_S_init 26 = .ok (.aload_n 0, 1) := by decide +kernel
theorem d_S_init_27 : decode c_S_init 27 = .ok (.new 23, 3) := by decide +kernel
theorem d_S_init_30 : decode c_S_init 30 = .ok (.dup, 1) := by decide +kernel
theorem d_S_init_31 : decode c_S_init 31 = .ok (.invokespecial 25, 3) := by decide +kernel
theorem d_S_init_34 : decode c_S_init 34 = .ok (.putfield 26, 3) := by decide +kernel
theorem d_S_init_37 : decode c_S_init 37 = .ok (.aload_n 0, 1) := by decide +kernel
theorem d_S_init_38 : decode c_S_init 38 = .ok (.new 30, 3) := by decide +kernel
theorem d_S_init_41 : decode c_S_init 41 = .ok (.dup, 1) := by decide +kernel
theorem d_S_init_42 : decode c_S_init 42 = .ok (.invokespecial 32, 3) := by decide +kernel
theorem d_S_init_45 : decode c_S_init 45 = .ok (.putfield 33, 3) := by decide +kernel
theorem d_S_init_48 : decode c_S_init 48 = .ok (.aload_n 0, 1) := by decide +kernel
theorem d_S_init_49 : decode c_S_init 49 = .ok (.iconst 0, 1) := by decide +kernel
theorem d_S_init_50 : decode c_S_init 50 = .ok (.putfield 37, 3) := by decide +kernel
theorem d_S_init_53 : decode c_S_init 53 = .ok (.return_, 1) := by decide +kernel
theorem d_T_init_0 : decode c_T_init 0 = .ok (.aload_n 0, 1) := by decide +kernel
theorem d_T_init_1 : decode c_T_init 1 = .ok (.invokespecial 3, 3) := by decide +kernel
theorem d_T_init_4 : decode c_T_init 4 = .ok (.aload_n 0, 1) := by decide +kernel
theorem d_T_init_5 : decode c_T_init 5 = .ok (.iconst 0, 1) := by decide +kernel
theorem d_T_init_6 : decode c_T_init 6 = .ok (.putfield 9, 3) := by decide +kernel
theorem d_T_init_9 : decode c_T_init 9 = .ok (.aload_n 0, 1) := by decide +kernel
theorem d_T_init_10 : decode c_T_init 10 = .ok (.bipush 10, 2) := by decide +kernel
theorem d_T_init_12 : decode c_T_init 12 = .ok (.newarray .int, 2) := by decide +kernel
theorem d_T_init_14 : decode c_T_init 14 = .ok (.putfield 15, 3) := by decide +kernel
theorem d_T_init_17 : decode c_T_init 17 = .ok (.aload_n 0, 1) := by decide +kernel
theorem d_T_init_18 : decode c_T_init 18 = .ok (.bipush 10, 2) := by decide +kernel
theorem d_T_init_20 : decode c_T_init 20 = .ok (.newarray .int, 2) := by decide +kernel
theorem d_T_init_22 : decode c_T_init 22 = .ok (.putfield 19, 3) := by decide +kernel
theorem d_T_init_25 : decode c_T_init 25 = .ok (.aload_n 0, 1) := by decide +kernel
theorem d_T_init_26 : decode c_T_init 26 = .ok (.bipush 10, 2) := by decide +kernel
theorem d_T_init_28 : decode c_T_init 28 = .ok (.newarray .int, 2) := by decide +kernel
theorem d_T_init_30 : decode c_T_init 30 = .ok (.putfield 22, 3) := by decide +kernel
theorem d_T_init_33 : decode c_T_init 33 = .ok (.aload_n 0, 1) := by decide +kernel
theorem d_T_init_34 : decode c_T_init 34 = .ok (.bipush 10, 2) := by decide +kernel
theorem d_T_init_36 : decode c_T_init 36 = .ok (.newarray .int, 2) := by decide +kernel
theorem d_T_init_38 : decode c_T_init 38 = .ok (.putfield 25, 3) := by decide +kernel
theorem d_T_init_41 : decode c_T_init 41 = .ok (.aload_n 0, 1) := by decide +kernel
theorem d_T_init_42 : decode c_T_init 42 = .ok (.iconst 0, 1) := by decide +kernel
theorem d_T_init_43 : decode c_T_init 43 = .ok (.putfield 28, 3) := by decide +kernel
theorem d_T_init_46 : decode c_T_init 46 = .ok (.aload_n 0, 1) := by decide +kernel
theorem d_T_init_47 : decode c_T_init 47 = .ok (.bipush 10, 2) := by decide +kernel
theorem d_T_init_49 : decode c_T_init 49 = .ok (.newarray .boolean, 2) := by decide +kernel
theorem d_T_init_51 : decode c_T_init 51 = .ok (.putfield 31, 3) := by decide +kernel
theorem d_T_init_54 : decode c_T_init 54 = .ok (.aload_n 0, 1) := by decide +kernel
theorem d_T_init_55 : decode c_T_init 55 = .ok (.bipush 10, 2) := by decide +kernel
theorem d_T_init_57 : decode c_T_init 57 = .ok (.newarray .int, 2) := by decide +kernel
theorem d_T_init_59 : decode c_T_init 59 = .ok (.putfield 35, 3) := by decide +kernel
theorem d_T_init_62 : decode c_T_init 62 = .ok (.aload_n 0, 1) := by decide +kernel
theorem d_T_init_63 : decode c_T_init 63 = .ok (.bipush 10, 2) := by decide +kernel
theorem d_T_init_65 : decode c_T_init 65 = .ok (.newarray .int, 2) := by decide +kernel
theorem d_T_init_67 : decode c_T_init 67 = .ok (.putfield 38, 3) := by decide +kernel
theorem d_T_init_70 : decode c_T_init 70 = .ok (.aload_n 0, 1) := by decide +kernel
theorem d_T_init_71 : decode c_T_init 71 = .ok (.iconst 4, 1) := by decide +kernel
theorem d_T_init_72 : decode c_T_init 72 = .ok (.bipush 10, 2) := by decide +kernel
theorem d_T_init_74 : decode c_T_init 74 = .ok (.multianewarray 41 2, 4) := by decide +kernel
theorem d_T_init_78 : decode c_T_init 78 = .ok (.putfield 43, 3) := by decide +kernel
theorem d_T_init_81 : decode c_T_init 81 = .ok (.return_, 1) := by decide +kernel
theorem d_N_init_0 : decode c_N_init 0 = .ok (.aload_n 0, 1) := by decide +kernel
theorem d_N_init_1 : decode c_N_init 1 = .ok (.invokespecial 3, 3) := by decide +kernel
theorem d_N_init_4 : decode c_N_init 4 = .ok (.aload_n 0, 1) := by decide +kernel
theorem d_N_init_5 : decode c_N_init 5 = .ok (.iconst 5, 1) := by decide +kernel
theorem d_N_init_6 : decode c_N_init 6 = .ok (.newarray .int, 2) := by decide +kernel
theorem d_N_init_8 : decode c_N_init 8 = .ok (.putfield 9, 3) := by decide +kernel
theorem d_N_init_11 : decode c_N_init 11 = .ok (.aload_n 0, 1) := by decide +kernel
theorem d_N_init_12 : decode c_N_init 12 = .ok (.iconst 0, 1) := by decide +kernel
theorem d_N_init_13 : decode c_N_init 13 = .ok (.putfield 15, 3) := by decide +kernel
theorem d_N_init_16 : decode c_N_init 16 = .ok (.aload_n 0, 1) := by decide +kernel
theorem d_N_init_17 : decode c_N_init 17 = .ok (.iconst 0, 1) := by decide +kernel
theorem d_N_init_18 : decode c_N_init 18 = .ok (.putfield 19, 3) := by decide +kernel
theorem d_N_init_21 : decode c_N_init 21 = .ok (.aload_n 0, 1) := by decide +kernel
theorem d_N_init_22 : decode c_N_init 22 = .ok (.iconst 5, 1) := by decide +kernel
theorem d_N_init_23 : decode c_N_init 23 = .ok (.newarray .int, 2) := by decide +kernel
theorem d_N_init_25 : decode c_N_init 25 = .ok (.putfield 22, 3) := by decide +kernel
theorem d_N_init_28 : decode c_N_init 28 = .ok (.aload_n 0, 1) := by decide +kernel
theorem d_N_init_29 : decode c_N_init 29 = .ok (.bipush 10, 2) := by decide +kernel
theorem d_N_init_31 : decode c_N_init 31 = .ok (.newarray .int, 2) := by decide +kernel
theorem d_N_init_33 : decode c_N_init 33 = .ok (.putfield 25, 3) := by decide +kernel
theorem d_N_init_36 : decode c_N_init 36 = .ok (.aload_n 0, 1) := by decide +kernel
theorem d_N_init_37 : decode c_N_init 37 = .ok (.bipush 10, 2) := by decide +kernel
theorem d_N_init_39 : decode c_N_init 39 = .ok (.newarray .int, 2) := by decide +kernel
theorem d_N_init_41 : decode c_N_init 41 = .ok (.putfield 28, 3) := by decide +kernel
theorem d_N_init_44 : decode c_N_init 44 = .ok (.aload_n 0, 1) := by decide +kernel
theorem d_N_init_45 : decode c_N_init 45 = .ok (.iconst 0, 1) := by decide +kernel
theorem d_N_init_46 : decode c_N_init 46 = .ok (.putfield 31, 3) := by decide +kernel
theorem d_N_init_49 : decode c_N_init 49 = .ok (.return_, 1) := by decide +kernel
theorem d_E_init_0 : decode c_E_init 0 = .ok (.aload_n 0, 1) := by decide +kernel
theorem d_E_init_1 : decode c_E_init 1 = .ok (.invokespecial 3, 3) := by decide +kernel
theorem d_E_init_4 : decode c_E_init 4 = .ok (.aload_n 0, 1) := by decide +kernel
theorem d_E_init_5 : decode c_E_init 5 = .ok (.bipush 10, 2) := by decide +kernel
theorem d_E_init_7 : decode c_E_init 7 = .ok (.bipush 10, 2) := by decide +kernel
theorem d_E_init_9 : decode c_E_init 9 = .ok (.multianewarray 9 2, 4) := by decide +kernel
theorem d_E_init_13 : decode c_E_init 13 = .ok (.putfield 11, 3) := by decide +kernel
theorem d_E_init_16 : decode c_E_init 16 = .ok (.aload_n 0, 1) := by decide +kernel
theorem d_E_init_17 : decode c_E_init 17 = .ok (.bipush 10, 2) := by decide +kernel
theorem d_E_init_19 : decode c_E_init 19 = .ok (.bipush 10, 2) := by decide +kernel
theorem d_E_init_21 : decode c_E_init 21 = .ok (.multianewarray 9 2, 4) := by decide +kernel
theorem d_E_init_25 : decode c_E_init 25 = .ok (.putfield 16, 3) := by decide +kernel
theorem d_E_init_28 : decode c_E_init 28 = .ok (.aload_n 0, 1) := by decide +kernel
theorem d_E_init_29 : decode c_E_init 29 = .ok (.iconst 0, 1) := by decide +kernel
theorem d_E_init_30 : decode c_E_init 30 = .ok (.putfield 19, 3) := by decide +kernel
theorem d_E_init_33 : decode c_E_init 33 = .ok (.aload_n 0, 1) := by decide +kernel
theorem d_E_init_34 : decode c_E_init 34 = .ok (.bipush 11, 2) := by decide +kernel
theorem d_E_init_36 : decode c_E_init 36 = .ok (.newarray .long, 2) := by decide +kernel
theorem d_E_init_38 : decode c_E_init 38 = .ok (.putfield 23, 3) := by decide +kernel
theorem d_E_init_41 : decode c_E_init 41 = .ok (.aload_n 0, 1) := by decide +kernel
theorem d_E_init_42 : decode c_E_init 42 = .ok (.bipush 11, 2) := by decide +kernel
theorem d_E_init_44 : decode c_E_init 44 = .ok (.newarray .long, 2) := by decide +kernel
theorem d_E_init_46 : decode c_E_init 46 = .ok (.putfield 27, 3) := by decide +kernel
theorem d_E_init_49 : decode c_E_init 49 = .ok (.aload_n 0, 1) := by decide +kernel
theorem d_E_init_50 : decode c_E_init 50 = .ok (.bipush 10, 2) := by decide +kernel
theorem d_E_init_52 : decode c_E_init 52 = .ok (.newarray .long, 2) := by decide +kernel
theorem d_E_init_54 : decode c_E_init 54 = .ok (.putfield 30, 3) := by decide +kernel
theorem d_E_init_57 : decode c_E_init 57 = .ok (.aload_n 0, 1) := by decide +kernel
theorem d_E_init_58 : decode c_E_init 58 = .ok (.bipush 10, 2) := by decide +kernel
theorem d_E_init_60 : decode c_E_init 60 = .ok (.newarray .long, 2) := by decide +kernel
theorem d_E_init_62 : decode c_E_init 62 = .ok (.putfield 33, 3) := by decide +kernel
theorem d_E_init_65 : decode c_E_init 65 = .ok (.return_, 1) := by decide +kernel
theorem d_R_init_0 : decode c_R_init 0 = .ok (.aload_n 0, 1) := by decide +kernel
theorem d_R_init_1 : decode c_R_init 1 = .ok (.invokespecial 3, 3) := by decide +kernel
theorem d_R_init_4 : decode c_R_init 4 = .ok (.aload_n 0, 1) := by decide +kernel
theorem d_R_init_5 : decode c_R_init 5 = .ok (.iconst 4, 1) := by decide +kernel
theorem d_R_init_6 : decode c_R_init 6 = .ok (.newarray .int, 2) := by decide +kernel
theorem d_R_init_8 : decode c_R_init 8 = .ok (.putfield 9, 3) := by decide +kernel
theorem d_R_init_11 : decode c_R_init 11 = .ok (.aload_n 0, 1) := by decide +kernel
theorem d_R_init_12 : decode c_R_init 12 = .ok (.bipush 10, 2) := by decide +kernel
theorem d_R_init_14 : decode c_R_init 14 = .ok (.newarray .long, 2) := by decide +kernel
theorem d_R_init_16 : decode c_R_init 16 = .ok (.putfield 15, 3) := by decide +kernel
theorem d_R_init_19 : decode c_R_init 19 = .ok (.aload_n 0, 1) := by decide +kernel
theorem d_R_init_20 : decode c_R_init 20 = .ok (.bipush 10, 2) := by decide +kernel
theorem d_R_init_22 : decode c_R_init 22 = .ok (.newarray .long, 2) := by decide +kernel
theorem d_R_init_24 : decode c_R_init 24 = .ok (.putfield 19, 3) := by decide +kernel
theorem d_R_init_27 : decode c_R_init 27 = .ok (.aload_n 0, 1) := by decide +kernel
theorem d_R_init_28 : decode c_R_init 28 = .ok (.bipush 10, 2) := by decide +kernel
theorem d_R_init_30 : decode c_R_init 30 = .ok (.newarray .long, 2) := by decide +kernel
theorem d_R_init_32 : decode c_R_init 32 = .ok (.putfield 22, 3) := by decide +kernel
theorem d_R_init_35 : decode c_R_init 35 = .ok (.aload_n 0, 1) := by decide +kernel
theorem d_R_init_36 : decode c_R_init 36 = .ok (.bipush 10, 2) := by decide +kernel
theorem d_R_init_38 : decode c_R_init 38 = .ok (.newarray .long, 2) := by decide +kernel
theorem d_R_init_40 : decode c_R_init 40 = .ok (.putfield 25, 3) := by decide +kernel
theorem d_R_init_43 : decode c_R_init 43 = .ok (.aload_n 0, 1) := by decide +kernel
theorem d_R_init_44 : decode c_R_init 44 = .ok (.lconst 1, 1) := by decide +kernel
theorem d_R_init_45 : decode c_R_init 45 = .ok (.putfield 28, 3) := by decide +kernel
theorem d_R_init_48 : decode c_R_init 48 = .ok (.return_, 1) := by decide +kernel
theorem d_S_node_0 : decode c_S_node 0 = .ok (.iload_n 1, 1) := by decide +kernel
theorem d_S_node_1 : decode c_S_node 1 = .ok (.invokestatic 41, 3) := by decide +kernel
theorem d_S_node_4 : decode c_S_node 4 = .ok (.ifCond .eq 17, 3) := by decide +kernel
theorem d_S_node_7 : decode c_S_node 7 = .ok (.iload_n 2, 1) := by decide +kernel
theorem d_S_node_8 : decode c_S_node 8 = .ok (.invokestatic 45, 3) := by decide +kernel
theorem d_S_node_11 : decode c_S_node 11 = .ok (.ifCond .eq 10, 3) := by decide +kernel
theorem d_S_node_14 : decode c_S_node 14 = .ok (.iload_n 3, 1) := by decide +kernel
theorem d_S_node_15 : decode c_S_node 15 = .ok (.invokestatic 45, 3) := by decide +kernel
theorem d_S_node_18 : decode c_S_node 18 = .ok (.ifCond .ne 5, 3) := by decide +kernel
theorem d_S_node_21 : decode c_S_node 21 = .ok (.iconst (-1), 1) := by decide +kernel
theorem d_S_node_22 : decode c_S_node 22 = .ok (.ireturn, 1) := by decide +kernel
theorem d_S_node_23 : decode c_S_node 23 = .ok (.aload_n 0, 1) := by decide +kernel
theorem d_S_node_24 : decode c_S_node 24 = .ok (.getfield 37, 3) := by decide +kernel
theorem d_S_node_27 : decode c_S_node 27 = .ok (.ifCond .eq 6, 3) := by decide +kernel
theorem d_S_node_30 : decode c_S_node 30 = .ok (.bipush (-4), 2) := by decide +kernel
theorem d_S_node_32 : decode c_S_node 32 = .ok (.ireturn, 1) := by decide +kernel
theorem d_S_node_33 : decode c_S_node 33 = .ok (.aload_n 0, 1) := by decide +kernel
theorem d_S_node_34 : decode c_S_node 34 = .ok (.getfield 12, 3) := by decide +kernel
theorem d_S_node_37 : decode c_S_node 37 = .ok (.iload_n 1, 1) := by decide +kernel
theorem d_S_node_38 : decode c_S_node 38 = .ok (.iload_n 2, 1) := by decide +kernel
theorem d_S_node_39 : decode c_S_node 39 = .ok (.iload_n 3, 1) := by decide +kernel
theorem d_S_node_40 : decode c_S_node 40 = .ok (.invokevirtual 48, 3) := by decide +kernel
theorem d_S_node_43 : decode c_S_node 43 = .ok (.ifCond .eq 6, 3) := by decide +kernel
theorem d_S_node_46 : decode c_S_node 46 = .ok (.bipush (-2), 2) := by decide +kernel
theorem d_S_node_48 : decode c_S_node 48 = .ok (.ireturn, 1) := by decide +kernel
theorem d_S_node_49 : decode c_S_node 49 = .ok (.aload_n 0, 1) := by decide +kernel
theorem d_S_node_50 : decode c_S_node 50 = .ok (.getfield 12, 3) := by decide +kernel
theorem d_S_node_53 : decode c_S_node 53 = .ok (.iload_n 1, 1) := by decide +kernel
theorem d_S_node_54 : decode c_S_node 54 = .ok (.iload_n 2, 1) := by decide +kernel
theorem d_S_node_55 : decode c_S_node 55 = .ok (.iload_n 3, 1) := by decide +kernel
theorem d_S_node_56 : decode c_S_node 56 = .ok (.invokevirtual 52, 3) := by decide +kernel
theorem d_S_node_59 : decode c_S_node 59 = .ok (.iconst 0, 1) := by decide +kernel
theorem d_S_node_60 : decode c_S_node 60 = .ok (.ireturn, 1) := by decide +kernel
theorem d_S_isNode_0 : decode c_S_isNode 0 = .ok (.iload_n 0, 1) := by decide +kernel
theorem d_S_isNode_1 : decode c_S_isNode 1 = .ok (.ifCond .lt 12, 3) := by decide +kernel
theorem d_S_isNode_4 : decode c_S_isNode 4 = .ok (.iload_n 0, 1) := by decide +kernel
theorem d_S_isNode_5 : decode c_S_isNode 5 = .ok (.iconst 5, 1) := by decide +kernel
theorem d_S_isNode_6 : decode c_S_isNode 6 = .ok (.if_icmp .ge 7, 3) := by decide +kernel
theorem d_S_isNode_9 : decode c_S_isNode 9 = .ok (.iconst 1, 1) := by decide +kernel
theorem d_S_isNode_10 : decode c_S_isNode 10 = .ok (.goto 4, 3) := by decide +kernel
theorem d_S_isNode_13 : decode c_S_isNode 13 = .ok (.iconst 0, 1) := by decide +kernel
theorem d_S_isNode_14 : decode c_S_isNode 14 = .ok (.ireturn, 1) := by decide +kernel
theorem d_S_isOnGrid_0 : decode c_S_isOnGrid 0 = .ok (.iload_n 0, 1) := by decide +kernel
theorem d_S_isOnGrid_1 : decode c_S_isOnGrid 1 = .ok (.ifCond .lt 12, 3) := by decide +kernel
theorem d_S_isOnGrid_4 : decode c_S_isOnGrid 4 = .ok (.iload_n 0, 1) := by decide +kernel
theorem d_S_isOnGrid_5 : decode c_S_isOnGrid 5 = .ok (.iconst 5, 1) := by decide +kernel
theorem d_S_isOnGrid_6 : decode c_S_isOnGrid 6 = .ok (.if_icmp .ge 7, 3) := by decide +kernel
theorem d_S_isOnGrid_9 : decode c_S_isOnGrid 9 = .ok (.iconst 1, 1) := by decide +kernel
theorem d_S_isOnGrid_10 : decode c_S_isOnGrid 10 = .ok (.goto 4, 3) := by decide +kernel
theorem d_S_isOnGrid_13 : decode c_S_isOnGrid 13 = .ok (.iconst 0, 1) := by decide +kernel
theorem d_S_isOnGrid_14 : decode c_S_isOnGrid 14 = .ok (.ireturn, 1) := by decide +kernel
theorem d_T_hasOtherAt_0 : decode c_T_hasOtherAt 0 = .ok (.iconst 0, 1) := by decide +kernel
theorem d_T_hasOtherAt_1 : decode c_T_hasOtherAt 1 = .ok (.istore 4, 2) := by decide +kernel
theorem d_T_hasOtherAt_3 : decode c_T_hasOtherAt 3 = .ok (.iload 4, 2) := by decide +kernel
theorem d_T_hasOtherAt_5 : decode c_T_hasOtherAt 5 = .ok (.iconst 5, 1) := by decide +kernel
theorem d_T_hasOtherAt_6 : decode c_T_hasOtherAt 6 = .ok (.if_icmp .ge 56, 3) := by decide +kernel
theorem d_T_hasOtherAt_9 : decode c_T_hasOtherAt 9 = .ok (.iload 4, 2) := by decide +kernel
theorem d_T_hasOtherAt_11 : decode c_T_hasOtherAt 11 = .ok (.iload_n 1, 1) := by decide +kernel
theorem d_T_hasOtherAt_12 : decode c_T_hasOtherAt 12 = .ok (.if_icmp .eq 44, 3) := by decide +kernel
theorem d_T_hasOtherAt_15 : decode c_T_hasOtherAt 15 = .ok (.aload_n 0, 1) := by decide +kernel
theorem d_T_hasOtherAt_16 : decode c_T_hasOtherAt 16 = .ok (.iload 4, 2) := by decide +kernel
theorem d_T_hasOtherAt_18 : decode c_T_hasOtherAt 18 = .ok (.invokevirtual 52, 3) := by decide +kernel
theorem d_T_hasOtherAt_21 : decode c_T_hasOtherAt 21 = .ok (.ifCond .eq 35, 3) := by decide +kernel
theorem d_T_hasOtherAt_24 : decode c_T_hasOtherAt 24 = .ok (.aload_n 0, 1) := by decide +kernel
theorem d_T_hasOtherAt_25 : decode c_T_hasOtherAt 25 = .ok (.getfield 15, 3) := by decide +kernel
theorem d_T_hasOtherAt_28 : decode c_T_hasOtherAt 28 = .ok (.iload 4, 2) := by decide +kernel
theorem d_T_hasOtherAt_30 : decode c_T_hasOtherAt 30 = .ok (.iconst 0, 1) := by decide +kernel
theorem d_T_hasOtherAt_31 : decode c_T_hasOtherAt 31 = .ok (.invokestatic 56, 3) := by decide +kernel
theorem d_T_hasOtherAt_34 : decode c_T_hasOtherAt 34 = .ok (.iaload, 1) := by decide +kernel
theorem d_T_hasOtherAt_35 : decode c_T_hasOtherAt 35 = .ok (.iload_n 2, 1) := by decide +kernel
theorem d_T_hasOtherAt_36 : decode c_T_hasOtherAt 36 = .ok (.if_icmp .ne 20, 3) := by decide +kernel
theorem d_T_hasOtherAt_39 : decode c_T_hasOtherAt 39 = .ok (.aload_n 0, 1) := by decide +kernel
theorem d_T_hasOtherAt_40 : decode c_T_hasOtherAt 40 = .ok (.getfield 15, 3) := by decide +kernel
theorem d_T_hasOtherAt_43 : decode c_T_hasOtherAt 43 = .ok (.iload 4, 2) := by decide +kernel
theorem d_T_hasOtherAt_45 : decode c_T_hasOtherAt 45 = .ok (.iconst 1, 1) := by decide +kernel
theorem d_T_hasOtherAt_46 : decode c_T_hasOtherAt 46 = .ok (.invokestatic 56, 3) := by decide +kernel
theorem d_T_hasOtherAt_49 : decode c_T_hasOtherAt 49 = .ok (.iaload, 1) := by decide +kernel
theorem d_T_hasOtherAt_50 : decode c_T_hasOtherAt 50 = .ok (.iload_n 3, 1) := by decide +kernel
theorem d_T_hasOtherAt_51 : decode c_T_hasOtherAt 51 = .ok (.if_icmp .ne 5, 3) := by decide +kernel
theorem d_T_hasOtherAt_54 : decode c_T_hasOtherAt 54 = .ok (.iconst 1, 1) := by decide +kernel
theorem d_T_hasOtherAt_55 : decode c_T_hasOtherAt 55 = .ok (.ireturn, 1) := by decide +kernel
theorem d_T_hasOtherAt_56 : decode c_T_hasOtherAt 56 = .ok (.iinc 4 1, 3) := by decide +kernel
theorem d_T_hasOtherAt_59 : decode c_T_hasOtherAt 59 = .ok (.goto (-56), 3) := by decide +kernel
theorem d_T_hasOtherAt_62 : decode c_T_hasOtherAt 62 = .ok (.iconst 0, 1) := by decide +kernel
theorem d_T_hasOtherAt_63 : decode c_T_hasOtherAt 63 = .ok (.ireturn, 1) := by decide +kernel
theorem d_T_isThere_0 : decode c_T_isThere 0 = .ok (.aload_n 0, 1) := by decide +kernel
theorem d_T_isThere_1 : decode c_T_isThere 1 = .ok (.getfield 9, 3) := by decide +kernel
theorem d_T_isThere_4 : decode c_T_isThere 4 = .ok (.iload_n 1, 1) := by decide +kernel
theorem d_T_isThere_5 : decode c_T_isThere 5 = .ok (.ishr, 1) := by decide +kernel
theorem d_T_isThere_6 : decode c_T_isThere 6 = .ok (.iconst 1, 1) := by decide +kernel
theorem d_T_isThere_7 : decode c_T_isThere 7 = .ok (.iand, 1) := by decide +kernel
theorem d_T_isThere_8 : decode c_T_isThere 8 = .ok (.ifCond .eq 7, 3) := by decide +kernel
theorem d_T_isThere_11 : decode c_T_isThere 11 = .ok (.iconst 1, 1) := by decide +kernel
theorem d_T_isThere_12 : decode c_T_isThere 12 = .ok (.goto 4, 3) := by decide +kernel
theorem d_T_isThere_15 : decode c_T_isThere 15 = .ok (.iconst 0, 1) := by decide +kernel
theorem d_T_isThere_16 : decode c_T_isThere 16 = .ok (.ireturn, 1) := by decide +kernel
theorem d_S_slotOf_0 : decode c_S_slotOf 0 = .ok (.iload_n 0, 1) := by decide +kernel
theorem d_S_slotOf_1 : decode c_S_slotOf 1 = .ok (.iconst 2, 1) := by decide +kernel
theorem d_S_slotOf_2 : decode c_S_slotOf 2 = .ok (.imul, 1) := by decide +kernel
theorem d_S_slotOf_3 : decode c_S_slotOf 3 = .ok (.iload_n 1, 1) := by decide +kernel
theorem d_S_slotOf_4 : decode c_S_slotOf 4 = .ok (.iadd, 1) := by decide +kernel
theorem d_S_slotOf_5 : decode c_S_slotOf 5 = .ok (.ireturn, 1) := by decide +kernel
theorem d_T_putNode_0 : decode c_T_putNode 0 = .ok (.aload_n 0, 1) := by decide +kernel
theorem d_T_putNode_1 : decode c_T_putNode 1 = .ok (.dup, 1) := by decide +kernel
theorem d_T_putNode_2 : decode c_T_putNode 2 = .ok (.getfield 9, 3) := by decide +kernel
theorem d_T_putNode_5 : decode c_T_putNode 5 = .ok (.iconst 1, 1) := by decide +kernel
theorem d_T_putNode_6 : decode c_T_putNode 6 = .ok (.iload_n 1, 1) := by decide +kernel
theorem d_T_putNode_7 : decode c_T_putNode 7 = .ok (.ishl, 1) := by decide +kernel
theorem d_T_putNode_8 : decode c_T_putNode 8 = .ok (.ior, 1) := by decide +kernel
theorem d_T_putNode_9 : decode c_T_putNode 9 = .ok (.putfield 9, 3) := by decide +kernel
theorem d_T_putNode_12 : decode c_T_putNode 12 = .ok (.aload_n 0, 1) := by decide +kernel
theorem d_T_putNode_13 : decode c_T_putNode 13 = .ok (.getfield 15, 3) := by decide +kernel
theorem d_T_putNode_16 : decode c_T_putNode 16 = .ok (.iload_n 1, 1) := by decide +kernel
theorem d_T_putNode_17 : decode c_T_putNode 17 = .ok (.iconst 0, 1) := by decide +kernel
theorem d_T_putNode_18 : decode c_T_putNode 18 = .ok (.invokestatic 56, 3) := by decide +kernel
theorem d_T_putNode_21 : decode c_T_putNode 21 = .ok (.iload_n 2, 1) := by decide +kernel
theorem d_T_putNode_22 : decode c_T_putNode 22 = .ok (.iastore, 1) := by decide +kernel
theorem d_T_putNode_23 : decode c_T_putNode 23 = .ok (.aload_n 0, 1) := by decide +kernel
theorem d_T_putNode_24 : decode c_T_putNode 24 = .ok (.getfield 15, 3) := by decide +kernel
theorem d_T_putNode_27 : decode c_T_putNode 27 = .ok (.iload_n 1, 1) := by decide +kernel
theorem d_T_putNode_28 : decode c_T_putNode 28 = .ok (.iconst 1, 1) := by decide +kernel
theorem d_T_putNode_29 : decode c_T_putNode 29 = .ok (.invokestatic 56, 3) := by decide +kernel
theorem d_T_putNode_32 : decode c_T_putNode 32 = .ok (.iload_n 3, 1) := by decide +kernel
theorem d_T_putNode_33 : decode c_T_putNode 33 = .ok (.iastore, 1) := by decide +kernel
theorem d_T_putNode_34 : decode c_T_putNode 34 = .ok (.return_, 1) := by decide +kernel
theorem d_S_bar_0 : decode c_S_bar 0 = .ok (.iload_n 1, 1) := by decide +kernel
theorem d_S_bar_1 : decode c_S_bar 1 = .ok (.invokestatic 41, 3) := by decide +kernel
theorem d_S_bar_4 : decode c_S_bar 4 = .ok (.ifCond .eq 25, 3) := by decide +kernel
theorem d_S_bar_7 : decode c_S_bar 7 = .ok (.iload_n 2, 1) := by decide +kernel
theorem d_S_bar_8 : decode c_S_bar 8 = .ok (.invokestatic 41, 3) := by decide +kernel
theorem d_S_bar_11 : decode c_S_bar 11 = .ok (.ifCond .eq 18, 3) := by decide +kernel
theorem d_S_bar_14 : decode c_S_bar 14 = .ok (.iload_n 3, 1) := by decide +kernel
theorem d_S_bar_15 : decode c_S_bar 15 = .ok (.iconst 1, 1) := by decide +kernel
theorem d_S_bar_16 : decode c_S_bar 16 = .ok (.if_icmp .lt 13, 3) := by decide +kernel
theorem d_S_bar_19 : decode c_S_bar 19 = .ok (.iload_n 3, 1) := by decide +kernel
theorem d_S_bar_20 : decode c_S_bar 20 = .ok (.iconst 3, 1) := by decide +kernel
theorem d_S_bar_21 : decode c_S_bar 21 = .ok (.if_icmp .gt 8, 3) := by decide +kernel
theorem d_S_bar_24 : decode c_S_bar 24 = .ok (.iload_n 1, 1) := by decide +kernel
theorem d_S_bar_25 : decode c_S_bar 25 = .ok (.iload_n 2, 1) := by decide +kernel
theorem d_S_bar_26 : decode c_S_bar 26 = .ok (.if_icmp .ne 5, 3) := by decide +kernel
theorem d_S_bar_29 : decode c_S_bar 29 = .ok (.iconst (-1), 1) := by decide +kernel
theorem d_S_bar_30 : decode c_S_bar 30 = .ok (.ireturn, 1) := by decide +kernel
theorem d_S_bar_31 : decode c_S_bar 31 = .ok (.aload_n 0, 1) := by decide +kernel
theorem d_S_bar_32 : decode c_S_bar 32 = .ok (.getfield 37, 3) := by decide +kernel
theorem d_S_bar_35 : decode c_S_bar 35 = .ok (.ifCond .eq 6, 3) := by decide +kernel
theorem d_S_bar_38 : decode c_S_bar 38 = .ok (.bipush (-4), 2) := by decide +kernel
theorem d_S_bar_40 : decode c_S_bar 40 = .ok (.ireturn, 1) := by decide +kernel
theorem d_S_bar_41 : decode c_S_bar 41 = .ok (.aload_n 0, 1) := by decide +kernel
theorem d_S_bar_42 : decode c_S_bar 42 = .ok (.getfield 12, 3) := by decide +kernel
theorem d_S_bar_45 : decode c_S_bar 45 = .ok (.getfield 56, 3) := by decide +kernel
theorem d_S_bar_48 : decode c_S_bar 48 = .ok (.bipush 10, 2) := by decide +kernel
theorem d_S_bar_50 : decode c_S_bar 50 = .ok (.if_icmp .lt 6, 3) := by decide +kernel
theorem d_S_bar_53 : decode c_S_bar 53 = .ok (.bipush (-3), 2) := by decide +kernel
theorem d_S_bar_55 : decode c_S_bar 55 = .ok (.ireturn, 1) := by decide +kernel
theorem d_S_bar_56 : decode c_S_bar 56 = .ok (.aload_n 0, 1) := by decide +kernel
theorem d_S_bar_57 : decode c_S_bar 57 = .ok (.getfield 12, 3) := by decide +kernel
theorem d_S_bar_60 : decode c_S_bar 60 = .ok (.iload_n 1, 1) := by decide +kernel
theorem d_S_bar_61 : decode c_S_bar 61 = .ok (.iload_n 2, 1) := by decide +kernel
theorem d_S_bar_62 : decode c_S_bar 62 = .ok (.iload_n 3, 1) := by decide +kernel
theorem d_S_bar_63 : decode c_S_bar 63 = .ok (.invokevirtual 60, 3) := by decide +kernel
theorem d_S_bar_66 : decode c_S_bar 66 = .ok (.ireturn, 1) := by decide +kernel
theorem d_T_addBar_0 : decode c_T_addBar 0 = .ok (.aload_n 0, 1) := by decide +kernel
theorem d_T_addBar_1 : decode c_T_addBar 1 = .ok (.getfield 28, 3) := by decide +kernel
theorem d_T_addBar_4 : decode c_T_addBar 4 = .ok (.istore 4, 2) := by decide +kernel
theorem d_T_addBar_6 : decode c_T_addBar 6 = .ok (.aload_n 0, 1) := by decide +kernel
theorem d_T_addBar_7 : decode c_T_addBar 7 = .ok (.getfield 19, 3) := by decide +kernel
theorem d_T_addBar_10 : decode c_T_addBar 10 = .ok (.iload 4, 2) := by decide +kernel
theorem d_T_addBar_12 : decode c_T_addBar 12 = .ok (.iload_n 1, 1) := by decide +kernel
theorem d_T_addBar_13 : decode c_T_addBar 13 = .ok (.iastore, 1) := by decide +kernel
theorem d_T_addBar_14 : decode c_T_addBar 14 = .ok (.aload_n 0, 1) := by decide +kernel
theorem d_T_addBar_15 : decode c_T_addBar 15 = .ok (.getfield 22, 3) := by decide +kernel
theorem d_T_addBar_18 : decode c_T_addBar 18 = .ok (.iload 4, 2) := by decide +kernel
theorem d_T_addBar_20 : decode c_T_addBar 20 = .ok (.iload_n 2, 1) := by decide +kernel
theorem d_T_addBar_21 : decode c_T_addBar 21 = .ok (.iastore, 1) := by decide +kernel
theorem d_T_addBar_22 : decode c_T_addBar 22 = .ok (.aload_n 0, 1) := by decide +kernel
theorem d_T_addBar_23 : decode c_T_addBar 23 = .ok (.getfield 25, 3) := by decide +kernel
theorem d_T_addBar_26 : decode c_T_addBar 26 = .ok (.iload 4, 2) := by decide +kernel
theorem d_T_addBar_28 : decode c_T_addBar 28 = .ok (.iload_n 3, 1) := by decide +kernel
theorem d_T_addBar_29 : decode c_T_addBar 29 = .ok (.iastore, 1) := by decide +kernel
theorem d_T_addBar_30 : decode c_T_addBar 30 = .ok (.aload_n 0, 1) := by decide +kernel
theorem d_T_addBar_31 : decode c_T_addBar 31 = .ok (.dup, 1) := by decide +kernel
theorem d_T_addBar_32 : decode c_T_addBar 32 = .ok (.getfield 28, 3) := by decide +kernel
theorem d_T_addBar_35 : decode c_T_addBar 35 = .ok (.iconst 1, 1) := by decide +kernel
theorem d_T_addBar_36 : decode c_T_addBar 36 = .ok (.iadd, 1) := by decide +kernel
theorem d_T_addBar_37 : decode c_T_addBar 37 = .ok (.putfield 28, 3) := by decide +kernel
theorem d_T_addBar_40 : decode c_T_addBar 40 = .ok (.iload 4, 2) := by decide +kernel
theorem d_T_addBar_42 : decode c_T_addBar 42 = .ok (.ireturn, 1) := by decide +kernel
theorem d_S_unbar_0 : decode c_S_unbar 0 = .ok (.aload_n 0, 1) := by decide +kernel
theorem d_S_unbar_1 : decode c_S_unbar 1 = .ok (.iload_n 1, 1) := by decide +kernel
theorem d_S_unbar_2 : decode c_S_unbar 2 = .ok (.invokevirtual 64, 3) := by decide +kernel
theorem d_S_unbar_5 : decode c_S_unbar 5 = .ok (.ifCond .ne 5, 3) := by decide +kernel
theorem d_S_unbar_8 : decode c_S_unbar 8 = .ok (.iconst (-1), 1) := by decide +kernel
theorem d_S_unbar_9 : decode c_S_unbar 9 = .ok (.ireturn, 1) := by decide +kernel
theorem d_S_unbar_10 : decode c_S_unbar 10 = .ok (.aload_n 0, 1) := by decide +kernel
theorem d_S_unbar_11 : decode c_S_unbar 11 = .ok (.getfield 37, 3) := by decide +kernel
theorem d_S_unbar_14 : decode c_S_unbar 14 = .ok (.ifCond .eq 6, 3) := by decide +kernel
theorem d_S_unbar_17 : decode c_S_unbar 17 = .ok (.bipush (-4), 2) := by decide +kernel
theorem d_S_unbar_19 : decode c_S_unbar 19 = .ok (.ireturn, 1) := by decide +kernel
theorem d_S_unbar_20 : decode c_S_unbar 20 = .ok (.aload_n 0, 1) := by decide +kernel
theorem d_S_unbar_21 : decode c_S_unbar 21 = .ok (.getfield 12, 3) := by decide +kernel
theorem d_S_unbar_24 : decode c_S_unbar 24 = .ok (.iload_n 1, 1) := by decide +kernel
theorem d_S_unbar_25 : decode c_S_unbar 25 = .ok (.invokevirtual 67, 3) := by decide +kernel
theorem d_S_unbar_28 : decode c_S_unbar 28 = .ok (.aload_n 0, 1) := by decide +kernel
theorem d_S_unbar_29 : decode c_S_unbar 29 = .ok (.getfield 12, 3) := by decide +kernel
theorem d_S_unbar_32 : decode c_S_unbar 32 = .ok (.getfield 56, 3) := by decide +kernel
theorem d_S_unbar_35 : decode c_S_unbar 35 = .ok (.ireturn, 1) := by decide +kernel
theorem d_S_isBarThere_0 : decode c_S_isBarThere 0 = .ok (.iload_n 1, 1) := by decide +kernel
theorem d_S_isBarThere_1 : decode c_S_isBarThere 1 = .ok (.ifCond .lt 18, 3) := by decide +kernel
theorem d_S_isBarThere_4 : decode c_S_isBarThere 4 = .ok (.iload_n 1, 1) := by decide +kernel
theorem d_S_isBarThere_5 : decode c_S_isBarThere 5 = .ok (.aload_n 0, 1) := by decide +kernel
theorem d_S_isBarThere_6 : decode c_S_isBarThere 6 = .ok (.getfield 12, 3) := by decide +kernel
theorem d_S_isBarThere_9 : decode c_S_isBarThere 9 = .ok (.getfield 56, 3) := by decide +kernel
theorem d_S_isBarThere_12 : decode c_S_isBarThere 12 = .ok (.if_icmp .ge 7, 3) := by decide +kernel
theorem d_S_isBarThere_15 : decode c_S_isBarThere 15 = .ok (.iconst 1, 1) := by decide +kernel
theorem d_S_isBarThere_16 : decode c_S_isBarThere 16 = .ok (.goto 4, 3) := by decide +kernel
theorem d_S_isBarThere_19 : decode c_S_isBarThere 19 = .ok (.iconst 0, 1) := by decide +kernel
theorem d_S_isBarThere_20 : decode c_S_isBarThere 20 = .ok (.ireturn, 1) := by decide +kernel
theorem d_T_removeBar_0 : decode c_T_removeBar 0 = .ok (.iload_n 1, 1) := by decide +kernel
theorem d_T_removeBar_1 : decode c_T_removeBar 1 = .ok (.iconst 1, 1) := by decide +kernel
theorem d_T_removeBar_2 : decode c_T_removeBar 2 = .ok (.iadd, 1) := by decide +kernel
theorem d_T_removeBar_3 : decode c_T_removeBar 3 = .ok (.istore_n 2, 1) := by decide +kernel
theorem d_T_removeBar_4 : decode c_T_removeBar 4 = .ok (.iload_n 2, 1) := by decide +kernel
theorem d_T_removeBar_5 : decode c_T_removeBar 5 = .ok (.aload_n 0, 1) := by decide +kernel
theorem d_T_removeBar_6 : decode c_T_removeBar 6 = .ok (.getfield 28, 3) := by decide +kernel
theorem d_T_removeBar_9 : decode c_T_removeBar 9 = .ok (.if_icmp .ge 51, 3) := by decide +kernel
theorem d_T_removeBar_12 : decode c_T_removeBar 12 = .ok (.aload_n 0, 1) := by decide +kernel
theorem d_T_removeBar_13 : decode c_T_removeBar 13 = .ok (.getfield 19, 3) := by decide +kernel
theorem d_T_removeBar_16 : decode c_T_removeBar 16 = .ok (.iload_n 2, 1) := by decide +kernel
theorem d_T_removeBar_17 : decode c_T_removeBar 17 = .ok (.iconst 1, 1) := by decide +kernel
theorem d_T_removeBar_18 : decode c_T_removeBar 18 = .ok (.isub, 1) := by decide +kernel
theorem d_T_removeBar_19 : decode c_T_removeBar 19 = .ok (.aload_n 0, 1) := by decide +kernel
theorem d_T_removeBar_20 : decode c_T_removeBar 20 = .ok (.getfield 19, 3) := by decide +kernel
theorem d_T_removeBar_23 : decode c_T_removeBar 23 = .ok (.iload_n 2, 1) := by decide +kernel
theorem d_T_removeBar_24 : decode c_T_removeBar 24 = .ok (.iaload, 1) := by decide +kernel
theorem d_T_removeBar_25 : decode c_T_removeBar 25 = .ok (.iastore, 1) := by decide +kernel
theorem d_T_removeBar_26 : decode c_T_removeBar 26 = .ok (.aload_n 0, 1) := by decide +kernel
theorem d_T_removeBar_27 : decode c_T_removeBar 27 = .ok (.getfield 22, 3) := by decide +kernel
theorem d_T_removeBar_30 : decode c_T_removeBar 30 = .ok (.iload_n 2, 1) := by decide +kernel
theorem d_T_removeBar_31 : decode c_T_removeBar 31 = .ok (.iconst 1, 1) := by decide +kernel
theorem d_T_removeBar_32 : decode c_T_removeBar 32 = .ok (.isub, 1) := by decide +kernel
theorem d_T_removeBar_33 : decode c_T_removeBar 33 = .ok (.aload_n 0, 1) := by decide +kernel
theorem d_T_removeBar_34 : decode c_T_removeBar 34 = .ok (.getfield 22, 3) := by decide +kernel
theorem d_T_removeBar_37 : decode c_T_removeBar 37 = .ok (.iload_n 2, 1) := by decide +kernel
theorem d_T_removeBar_38 : decode c_T_removeBar 38 = .ok (.iaload, 1) := by decide +kernel
theorem d_T_removeBar_39 : decode c_T_removeBar 39 = .ok (.iastore, 1) := by decide +kernel
theorem d_T_removeBar_40 : decode c_T_removeBar 40 = .ok (.aload_n 0, 1) := by decide +kernel
theorem d_T_removeBar_41 : decode c_T_removeBar 41 = .ok (.getfield 25, 3) := by decide +kernel
theorem d_T_removeBar_44 : decode c_T_removeBar 44 = .ok (.iload_n 2, 1) := by decide +kernel
theorem d_T_removeBar_45 : decode c_T_removeBar 45 = .ok (.iconst 1, 1) := by decide +kernel
theorem d_T_removeBar_46 : decode c_T_removeBar 46 = .ok (.isub, 1) := by decide +kernel
theorem d_T_removeBar_47 : decode c_T_removeBar 47 = .ok (.aload_n 0, 1) := by decide +kernel
theorem d_T_removeBar_48 : decode c_T_removeBar 48 = .ok (.getfield 25, 3) := by decide +kernel
theorem d_T_removeBar_51 : decode c_T_removeBar 51 = .ok (.iload_n 2, 1) := by decide +kernel
theorem d_T_removeBar_52 : decode c_T_removeBar 52 = .ok (.iaload, 1) := by decide +kernel
theorem d_T_removeBar_53 : decode c_T_removeBar 53 = .ok (.iastore, 1) := by decide +kernel
theorem d_T_removeBar_54 : decode c_T_removeBar 54 = .ok (.iinc 2 1, 3) := by decide +kernel
theorem d_T_removeBar_57 : decode c_T_removeBar 57 = .ok (.goto (-53), 3) := by decide +kernel
theorem d_T_removeBar_60 : decode c_T_removeBar 60 = .ok (.aload_n 0, 1) := by decide +kernel
theorem d_T_removeBar_61 : decode c_T_removeBar 61 = .ok (.dup, 1) := by decide +kernel
theorem d_T_removeBar_62 : decode c_T_removeBar 62 = .ok (.getfield 28, 3) := by decide +kernel
theorem d_T_removeBar_65 : decode c_T_removeBar 65 = .ok (.iconst 1, 1) := by decide +kernel
theorem d_T_removeBar_66 : decode c_T_removeBar 66 = .ok (.isub, 1) := by decide +kernel
theorem d_T_removeBar_67 : decode c_T_removeBar 67 = .ok (.putfield 28, 3) := by decide +kernel
theorem d_T_removeBar_70 : decode c_T_removeBar 70 = .ok (.return_, 1) := by decide +kernel
theorem d_S_hold_0 : decode c_S_hold 0 = .ok (.iload_n 1, 1) := by decide +kernel
theorem d_S_hold_1 : decode c_S_hold 1 = .ok (.invokestatic 41, 3) := by decide +kernel
theorem d_S_hold_4 : decode c_S_hold 4 = .ok (.ifCond .eq 24, 3) := by decide +kernel
theorem d_S_hold_7 : decode c_S_hold 7 = .ok (.iload_n 2, 1) := by decide +kernel
theorem d_S_hold_8 : decode c_S_hold 8 = .ok (.invokestatic 71, 3) := by decide +kernel
theorem d_S_hold_11 : decode c_S_hold 11 = .ok (.ifCond .eq 17, 3) := by decide +kernel
theorem d_S_hold_14 : decode c_S_hold 14 = .ok (.iload 4, 2) := by decide +kernel
theorem d_S_hold_16 : decode c_S_hold 16 = .ok (.bipush (-9), 2) := by decide +kernel
theorem d_S_hold_18 : decode c_S_hold 18 = .ok (.if_icmp .lt 10, 3) := by decide +kernel
theorem d_S_hold_21 : decode c_S_hold 21 = .ok (.iload 4, 2) := by decide +kernel
theorem d_S_hold_23 : decode c_S_hold 23 = .ok (.bipush 9, 2) := by decide +kernel
theorem d_S_hold_25 : decode c_S_hold 25 = .ok (.if_icmp .le 5, 3) := by decide +kernel
theorem d_S_hold_28 : decode c_S_hold 28 = .ok (.iconst (-1), 1) := by decide +kernel
theorem d_S_hold_29 : decode c_S_hold 29 = .ok (.ireturn, 1) := by decide +kernel
theorem d_S_hold_30 : decode c_S_hold 30 = .ok (.aload_n 0, 1) := by decide +kernel
theorem d_S_hold_31 : decode c_S_hold 31 = .ok (.getfield 37, 3) := by decide +kernel
theorem d_S_hold_34 : decode c_S_hold 34 = .ok (.ifCond .eq 6, 3) := by decide +kernel
theorem d_S_hold_37 : decode c_S_hold 37 = .ok (.bipush (-4), 2) := by decide +kernel
theorem d_S_hold_39 : decode c_S_hold 39 = .ok (.ireturn, 1) := by decide +kernel
theorem d_S_hold_40 : decode c_S_hold 40 = .ok (.iload_n 1, 1) := by decide +kernel
theorem d_S_hold_41 : decode c_S_hold 41 = .ok (.iload_n 2, 1) := by decide +kernel
theorem d_S_hold_42 : decode c_S_hold 42 = .ok (.invokestatic 74, 3) := by decide +kernel
theorem d_S_hold_45 : decode c_S_hold 45 = .ok (.istore 5, 2) := by decide +kernel
theorem d_S_hold_47 : decode c_S_hold 47 = .ok (.aload_n 0, 1) := by decide +kernel
theorem d_S_hold_48 : decode c_S_hold 48 = .ok (.getfield 12, 3) := by decide +kernel
theorem d_S_hold_51 : decode c_S_hold 51 = .ok (.getfield 78, 3) := by decide +kernel
theorem d_S_hold_54 : decode c_S_hold 54 = .ok (.iload 5, 2) := by decide +kernel
theorem d_S_hold_56 : decode c_S_hold 56 = .ok (.iload_n 3, 1) := by decide +kernel
theorem d_S_hold_57 : decode c_S_hold 57 = .ok (.bastore, 1) := by decide +kernel
theorem d_S_hold_58 : decode c_S_hold 58 = .ok (.aload_n 0, 1) := by decide +kernel
theorem d_S_hold_59 : decode c_S_hold 59 = .ok (.getfield 12, 3) := by decide +kernel
theorem d_S_hold_62 : decode c_S_hold 62 = .ok (.getfield 82, 3) := by decide +kernel
theorem d_S_hold_65 : decode c_S_hold 65 = .ok (.iload 5, 2) := by decide +kernel
theorem d_S_hold_67 : decode c_S_hold 67 = .ok (.iload 4, 2) := by decide +kernel
theorem d_S_hold_69 : decode c_S_hold 69 = .ok (.iastore, 1) := by decide +kernel
theorem d_S_hold_70 : decode c_S_hold 70 = .ok (.iconst 0, 1) := by decide +kernel
theorem d_S_hold_71 : decode c_S_hold 71 = .ok (.ireturn, 1) := by decide +kernel
end
section
theorem d_S_isDirection_0 : decode c_S_isDirection 0 = .ok (.iload_n 0, 1) := by decide +kernel
theorem d_S_isDirection_1 : decode c_S_isDirection 1 = .ok (.ifCond .lt 12, 3) := by decide +kernel
theorem d_S_isDirection_4 : decode c_S_isDirection 4 = .ok (.iload_n 0, 1) := by decide +kernel
theorem d_S_isDirection_5 : decode c_S_isDirection 5 = .ok (.iconst 2, 1) := by decide +kernel
theorem d_S_isDirection_6 : decode c_S_isDirection 6 = .ok (.if_icmp .ge 7, 3) := by decide +kernel
theorem d_S_isDirection_9 : decode c_S_isDirection 9 = .ok (.iconst 1, 1) := by decide +kernel
theorem d_S_isDirection_10 : decode c_S_isDirection 10 = .ok (.goto 4, 3) := by decide +kernel
theorem d_S_isDirection_13 : decode c_S_isDirection 13 = .ok (.iconst 0, 1) := by decide +kernel
theorem d_S_isDirection_14 : decode c_S_isDirection 14 = .ok (.ireturn, 1) := by decide +kernel
theorem d_S_spring_0 : decode c_S_spring 0 = .ok (.iload_n 1, 1) := by decide +kernel
theorem d_S_spring_1 : decode c_S_spring 1 = .ok (.invokestatic 41, 3) := by decide +kernel
theorem d_S_spring_4 : decode c_S_spring 4 = .ok (.ifCond .eq 19, 3) := by decide +kernel
theorem d_S_spring_7 : decode c_S_spring 7 = .ok (.iload_n 2, 1) := by decide +kernel
theorem d_S_spring_8 : decode c_S_spring 8 = .ok (.invokestatic 71, 3) := by decide +kernel
theorem d_S_spring_11 : decode c_S_spring 11 = .ok (.ifCond .eq 12, 3) := by decide +kernel
theorem d_S_spring_14 : decode c_S_spring 14 = .ok (.iload_n 3, 1) := by decide +kernel
theorem d_S_spring_15 : decode c_S_spring 15 = .ok (.ifCond .lt 8, 3) := by decide +kernel
theorem d_S_spring_18 : decode c_S_spring 18 = .ok (.iload_n 3, 1) := by decide +kernel
theorem d_S_spring_19 : decode c_S_spring 19 = .ok (.iconst 3, 1) := by decide +kernel
theorem d_S_spring_20 : decode c_S_spring 20 = .ok (.if_icmp .le 5, 3) := by decide +kernel
theorem d_S_spring_23 : decode c_S_spring 23 = .ok (.iconst (-1), 1) := by decide +kernel
theorem d_S_spring_24 : decode c_S_spring 24 = .ok (.ireturn, 1) := by decide +kernel
theorem d_S_spring_25 : decode c_S_spring 25 = .ok (.aload_n 0, 1) := by decide +kernel
theorem d_S_spring_26 : decode c_S_spring 26 = .ok (.getfield 37, 3) := by decide +kernel
theorem d_S_spring_29 : decode c_S_spring 29 = .ok (.ifCond .eq 6, 3) := by decide +kernel
theorem d_S_spring_32 : decode c_S_spring 32 = .ok (.bipush (-4), 2) := by decide +kernel
theorem d_S_spring_34 : decode c_S_spring 34 = .ok (.ireturn, 1) := by decide +kernel
theorem d_S_spring_35 : decode c_S_spring 35 = .ok (.aload_n 0, 1) := by decide +kernel
theorem d_S_spring_36 : decode c_S_spring 36 = .ok (.getfield 12, 3) := by decide +kernel
theorem d_S_spring_39 : decode c_S_spring 39 = .ok (.getfield 86, 3) := by decide +kernel
theorem d_S_spring_42 : decode c_S_spring 42 = .ok (.iload_n 1, 1) := by decide +kernel
theorem d_S_spring_43 : decode c_S_spring 43 = .ok (.iload_n 2, 1) := by decide +kernel
theorem d_S_spring_44 : decode c_S_spring 44 = .ok (.invokestatic 74, 3) := by decide +kernel
theorem d_S_spring_47 : decode c_S_spring 47 = .ok (.iload_n 3, 1) := by decide +kernel
theorem d_S_spring_48 : decode c_S_spring 48 = .ok (.iastore, 1) := by decide +kernel
theorem d_S_spring_49 : decode c_S_spring 49 = .ok (.iconst 0, 1) := by decide +kernel
theorem d_S_spring_50 : decode c_S_spring 50 = .ok (.ireturn, 1) := by decide +kernel
theorem d_S_load_0 : decode c_S_load 0 = .ok (.iload_n 1, 1) := by decide +kernel
theorem d_S_load_1 : decode c_S_load 1 = .ok (.invokestatic 89, 3) := by decide +kernel
theorem d_S_load_4 : decode c_S_load 4 = .ok (.ifCond .eq 31, 3) := by decide +kernel
theorem d_S_load_7 : decode c_S_load 7 = .ok (.iload_n 2, 1) := by decide +kernel
theorem d_S_load_8 : decode c_S_load 8 = .ok (.invokestatic 41, 3) := by decide +kernel
theorem d_S_load_11 : decode c_S_load 11 = .ok (.ifCond .eq 24, 3) := by decide +kernel
theorem d_S_load_14 : decode c_S_load 14 = .ok (.iload_n 3, 1) := by decide +kernel
theorem d_S_load_15 : decode c_S_load 15 = .ok (.invokestatic 71, 3) := by decide +kernel
theorem d_S_load_18 : decode c_S_load 18 = .ok (.ifCond .eq 17, 3) := by decide +kernel
theorem d_S_load_21 : decode c_S_load 21 = .ok (.iload 4, 2) := by decide +kernel
theorem d_S_load_23 : decode c_S_load 23 = .ok (.bipush (-99), 2) := by decide +kernel
theorem d_S_load_25 : decode c_S_load 25 = .ok (.if_icmp .lt 10, 3) := by decide +kernel
theorem d_S_load_28 : decode c_S_load 28 = .ok (.iload 4, 2) := by decide +kernel
theorem d_S_load_30 : decode c_S_load 30 = .ok (.bipush 99, 2) := by decide +kernel
theorem d_S_load_32 : decode c_S_load 32 = .ok (.if_icmp .le 5, 3) := by decide +kernel
theorem d_S_load_35 : decode c_S_load 35 = .ok (.iconst (-1), 1) := by decide +kernel
theorem d_S_load_36 : decode c_S_load 36 = .ok (.ireturn, 1) := by decide +kernel
theorem d_S_load_37 : decode c_S_load 37 = .ok (.aload_n 0, 1) := by decide +kernel
theorem d_S_load_38 : decode c_S_load 38 = .ok (.getfield 12, 3) := by decide +kernel
theorem d_S_load_41 : decode c_S_load 41 = .ok (.getfield 92, 3) := by decide +kernel
theorem d_S_load_44 : decode c_S_load 44 = .ok (.iload_n 1, 1) := by decide +kernel
theorem d_S_load_45 : decode c_S_load 45 = .ok (.aaload, 1) := by decide +kernel
theorem d_S_load_46 : decode c_S_load 46 = .ok (.iload_n 2, 1) := by decide +kernel
theorem d_S_load_47 : decode c_S_load 47 = .ok (.iload_n 3, 1) := by decide +kernel
theorem d_S_load_48 : decode c_S_load 48 = .ok (.invokestatic 74, 3) := by decide +kernel
theorem d_S_load_51 : decode c_S_load 51 = .ok (.iload 4, 2) := by decide +kernel
theorem d_S_load_53 : decode c_S_load 53 = .ok (.iastore, 1) := by decide +kernel
theorem d_S_load_54 : decode c_S_load 54 = .ok (.iconst 0, 1) := by decide +kernel
theorem d_S_load_55 : decode c_S_load 55 = .ok (.ireturn, 1) := by decide +kernel
theorem d_S_isCase_0 : decode c_S_isCase 0 = .ok (.iload_n 0, 1) := by decide +kernel
theorem d_S_isCase_1 : decode c_S_isCase 1 = .ok (.ifCond .lt 12, 3) := by decide +kernel
theorem d_S_isCase_4 : decode c_S_isCase 4 = .ok (.iload_n 0, 1) := by decide +kernel
theorem d_S_isCase_5 : decode c_S_isCase 5 = .ok (.iconst 4, 1) := by decide +kernel
theorem d_S_isCase_6 : decode c_S_isCase 6 = .ok (.if_icmp .ge 7, 3) := by decide +kernel
theorem d_S_isCase_9 : decode c_S_isCase 9 = .ok (.iconst 1, 1) := by decide +kernel
theorem d_S_isCase_10 : decode c_S_isCase 10 = .ok (.goto 4, 3) := by decide +kernel
theorem d_S_isCase_13 : decode c_S_isCase 13 = .ok (.iconst 0, 1) := by decide +kernel
theorem d_S_isCase_14 : decode c_S_isCase 14 = .ok (.ireturn, 1) := by decide +kernel
theorem d_S_solve_0 : decode c_S_solve 0 = .ok (.aload_n 0, 1) := by decide +kernel
theorem d_S_solve_1 : decode c_S_solve 1 = .ok (.getfield 37, 3) := by decide +kernel
theorem d_S_solve_4 : decode c_S_solve 4 = .ok (.ifCond .eq 6, 3) := by decide +kernel
theorem d_S_solve_7 : decode c_S_solve 7 = .ok (.bipush (-4), 2) := by decide +kernel
theorem d_S_solve_9 : decode c_S_solve 9 = .ok (.ireturn, 1) := by decide +kernel
theorem d_S_solve_10 : decode c_S_solve 10 = .ok (.aload_n 0, 1) := by decide +kernel
theorem d_S_solve_11 : decode c_S_solve 11 = .ok (.getfield 12, 3) := by decide +kernel
theorem d_S_solve_14 : decode c_S_solve 14 = .ok (.invokevirtual 96, 3) := by decide +kernel
theorem d_S_solve_17 : decode c_S_solve 17 = .ok (.ifCond .ne 6, 3) := by decide +kernel
theorem d_S_solve_20 : decode c_S_solve 20 = .ok (.bipush (-100), 2) := by decide +kernel
theorem d_S_solve_22 : decode c_S_solve 22 = .ok (.ireturn, 1) := by decide +kernel
theorem d_S_solve_23 : decode c_S_solve 23 = .ok (.aload_n 0, 1) := by decide +kernel
theorem d_S_solve_24 : decode c_S_solve 24 = .ok (.getfield 12, 3) := by decide +kernel
theorem d_S_solve_27 : decode c_S_solve 27 = .ok (.invokevirtual 100, 3) := by decide +kernel
theorem d_S_solve_30 : decode c_S_solve 30 = .ok (.istore_n 1, 1) := by decide +kernel
theorem d_S_solve_31 : decode c_S_solve 31 = .ok (.iload_n 1, 1) := by decide +kernel
theorem d_S_solve_32 : decode c_S_solve 32 = .ok (.ifCond .lt 9, 3) := by decide +kernel
theorem d_S_solve_35 : decode c_S_solve 35 = .ok (.sipush (-200), 3) := by decide +kernel
theorem d_S_solve_38 : decode c_S_solve 38 = .ok (.iload_n 1, 1) := by decide +kernel
theorem d_S_solve_39 : decode c_S_solve 39 = .ok (.isub, 1) := by decide +kernel
theorem d_S_solve_40 : decode c_S_solve 40 = .ok (.ireturn, 1) := by decide +kernel
theorem d_S_solve_41 : decode c_S_solve 41 = .ok (.aload_n 0, 1) := by decide +kernel
theorem d_S_solve_42 : decode c_S_solve 42 = .ok (.getfield 19, 3) := by decide +kernel
theorem d_S_solve_45 : decode c_S_solve 45 = .ok (.aload_n 0, 1) := by decide +kernel
theorem d_S_solve_46 : decode c_S_solve 46 = .ok (.getfield 12, 3) := by decide +kernel
theorem d_S_solve_49 : decode c_S_solve 49 = .ok (.invokevirtual 103, 3) := by decide +kernel
theorem d_S_solve_52 : decode c_S_solve 52 = .ok (.aload_n 0, 1) := by decide +kernel
theorem d_S_solve_53 : decode c_S_solve 53 = .ok (.getfield 26, 3) := by decide +kernel
theorem d_S_solve_56 : decode c_S_solve 56 = .ok (.aload_n 0, 1) := by decide +kernel
theorem d_S_solve_57 : decode c_S_solve 57 = .ok (.getfield 12, 3) := by decide +kernel
theorem d_S_solve_60 : decode c_S_solve 60 = .ok (.aload_n 0, 1) := by decide +kernel
theorem d_S_solve_61 : decode c_S_solve 61 = .ok (.getfield 19, 3) := by decide +kernel
theorem d_S_solve_64 : decode c_S_solve 64 = .ok (.invokevirtual 107, 3) := by decide +kernel
theorem d_S_solve_67 : decode c_S_solve 67 = .ok (.aload_n 0, 1) := by decide +kernel
theorem d_S_solve_68 : decode c_S_solve 68 = .ok (.getfield 26, 3) := by decide +kernel
theorem d_S_solve_71 : decode c_S_solve 71 = .ok (.invokevirtual 110, 3) := by decide +kernel
theorem d_S_solve_74 : decode c_S_solve 74 = .ok (.istore_n 2, 1) := by decide +kernel
theorem d_S_solve_75 : decode c_S_solve 75 = .ok (.iload_n 2, 1) := by decide +kernel
theorem d_S_solve_76 : decode c_S_solve 76 = .ok (.ifCond .lt 9, 3) := by decide +kernel
theorem d_S_solve_79 : decode c_S_solve 79 = .ok (.sipush (-300), 3) := by decide +kernel
theorem d_S_solve_82 : decode c_S_solve 82 = .ok (.iload_n 2, 1) := by decide +kernel
theorem d_S_solve_83 : decode c_S_solve 83 = .ok (.isub, 1) := by decide +kernel
theorem d_S_solve_84 : decode c_S_solve 84 = .ok (.ireturn, 1) := by decide +kernel
theorem d_S_solve_85 : decode c_S_solve 85 = .ok (.aload_n 0, 1) := by decide +kernel
theorem d_S_solve_86 : decode c_S_solve 86 = .ok (.iconst 1, 1) := by decide +kernel
theorem d_S_solve_87 : decode c_S_solve 87 = .ok (.putfield 37, 3) := by decide +kernel
theorem d_S_solve_90 : decode c_S_solve 90 = .ok (.aload_n 0, 1) := by decide +kernel
theorem d_S_solve_91 : decode c_S_solve 91 = .ok (.getfield 19, 3) := by decide +kernel
theorem d_S_solve_94 : decode c_S_solve 94 = .ok (.getfield 113, 3) := by decide +kernel
theorem d_S_solve_97 : decode c_S_solve 97 = .ok (.ireturn, 1) := by decide +kernel
theorem d_T_nodeCount_0 : decode c_T_nodeCount 0 = .ok (.aload_n 0, 1) := by decide +kernel
theorem d_T_nodeCount_1 : decode c_T_nodeCount 1 = .ok (.getfield 9, 3) := by decide +kernel
theorem d_T_nodeCount_4 : decode c_T_nodeCount 4 = .ok (.invokestatic 46, 3) := by decide +kernel
theorem d_T_nodeCount_7 : decode c_T_nodeCount 7 = .ok (.ireturn, 1) := by decide +kernel
theorem d_J_bitCount_0 : decode c_J_bitCount 0 = .ok (.iload_n 0, 1) := by decide +kernel
theorem d_J_bitCount_1 : decode c_J_bitCount 1 = .ok (.iload_n 0, 1) := by decide +kernel
theorem d_J_bitCount_2 : decode c_J_bitCount 2 = .ok (.iconst 1, 1) := by decide +kernel
theorem d_J_bitCount_3 : decode c_J_bitCount 3 = .ok (.iushr, 1) := by decide +kernel
theorem d_J_bitCount_4 : decode c_J_bitCount 4 = .ok (.ldc_w 265, 3) := by decide +kernel
theorem d_J_bitCount_7 : decode c_J_bitCount 7 = .ok (.iand, 1) := by decide +kernel
theorem d_J_bitCount_8 : decode c_J_bitCount 8 = .ok (.isub, 1) := by decide +kernel
theorem d_J_bitCount_9 : decode c_J_bitCount 9 = .ok (.istore_n 0, 1) := by decide +kernel
theorem d_J_bitCount_10 : decode c_J_bitCount 10 = .ok (.iload_n 0, 1) := by decide +kernel
theorem d_J_bitCount_11 : decode c_J_bitCount 11 = .ok (.ldc_w 266, 3) := by decide +kernel
theorem d_J_bitCount_14 : decode c_J_bitCount 14 = .ok (.iand, 1) := by decide +kernel
theorem d_J_bitCount_15 : decode c_J_bitCount 15 = .ok (.iload_n 0, 1) := by decide +kernel
theorem d_J_bitCount_16 : decode c_J_bitCount 16 = .ok (.iconst 2, 1) := by decide +kernel
theorem d_J_bitCount_17 : decode c_J_bitCount 17 = .ok (.iushr, 1) := by decide +kernel
theorem d_J_bitCount_18 : decode c_J_bitCount 18 = .ok (.ldc_w 266, 3) := by decide +kernel
theorem d_J_bitCount_21 : decode c_J_bitCount 21 = .ok (.iand, 1) := by decide +kernel
theorem d_J_bitCount_22 : decode c_J_bitCount 22 = .ok (.iadd, 1) := by decide +kernel
theorem d_J_bitCount_23 : decode c_J_bitCount 23 = .ok (.istore_n 0, 1) := by decide +kernel
theorem d_J_bitCount_24 : decode c_J_bitCount 24 = .ok (.iload_n 0, 1) := by decide +kernel
theorem d_J_bitCount_25 : decode c_J_bitCount 25 = .ok (.iload_n 0, 1) := by decide +kernel
theorem d_J_bitCount_26 : decode c_J_bitCount 26 = .ok (.iconst 4, 1) := by decide +kernel
theorem d_J_bitCount_27 : decode c_J_bitCount 27 = .ok (.iushr, 1) := by decide +kernel
theorem d_J_bitCount_28 : decode c_J_bitCount 28 = .ok (.iadd, 1) := by decide +kernel
theorem d_J_bitCount_29 : decode c_J_bitCount 29 = .ok (.ldc_w 267, 3) := by decide +kernel
theorem d_J_bitCount_32 : decode c_J_bitCount 32 = .ok (.iand, 1) := by decide +kernel
theorem d_J_bitCount_33 : decode c_J_bitCount 33 = .ok (.istore_n 0, 1) := by decide +kernel
theorem d_J_bitCount_34 : decode c_J_bitCount 34 = .ok (.iload_n 0, 1) := by decide +kernel
theorem d_J_bitCount_35 : decode c_J_bitCount 35 = .ok (.iload_n 0, 1) := by decide +kernel
theorem d_J_bitCount_36 : decode c_J_bitCount 36 = .ok (.bipush 8, 2) := by decide +kernel
theorem d_J_bitCount_38 : decode c_J_bitCount 38 = .ok (.iushr, 1) := by decide +kernel
theorem d_J_bitCount_39 : decode c_J_bitCount 39 = .ok (.iadd, 1) := by decide +kernel
theorem d_J_bitCount_40 : decode c_J_bitCount 40 = .ok (.istore_n 0, 1) := by decide +kernel
theorem d_J_bitCount_41 : decode c_J_bitCount 41 = .ok (.iload_n 0, 1) := by decide +kernel
theorem d_J_bitCount_42 : decode c_J_bitCount 42 = .ok (.iload_n 0, 1) := by decide +kernel
theorem d_J_bitCount_43 : decode c_J_bitCount 43 = .ok (.bipush 16, 2) := by decide +kernel
theorem d_J_bitCount_45 : decode c_J_bitCount 45 = .ok (.iushr, 1) := by decide +kernel
theorem d_J_bitCount_46 : decode c_J_bitCount 46 = .ok (.iadd, 1) := by decide +kernel
theorem d_J_bitCount_47 : decode c_J_bitCount 47 = .ok (.istore_n 0, 1) := by decide +kernel
theorem d_J_bitCount_48 : decode c_J_bitCount 48 = .ok (.iload_n 0, 1) := by decide +kernel
theorem d_J_bitCount_49 : decode c_J_bitCount 49 = .ok (.bipush 63, 2) := by decide +kernel
theorem d_J_bitCount_51 : decode c_J_bitCount 51 = .ok (.iand, 1) := by decide +kernel
theorem d_J_bitCount_52 : decode c_J_bitCount 52 = .ok (.ireturn, 1) := by decide +kernel
theorem d_T_firstBadBar_0 : decode c_T_firstBadBar 0 = .ok (.iconst 0, 1) := by decide +kernel
theorem d_T_firstBadBar_1 : decode c_T_firstBadBar 1 = .ok (.istore_n 1, 1) := by decide +kernel
theorem d_T_firstBadBar_2 : decode c_T_firstBadBar 2 = .ok (.iload_n 1, 1) := by decide +kernel
theorem d_T_firstBadBar_3 : decode c_T_firstBadBar 3 = .ok (.aload_n 0, 1) := by decide +kernel
theorem d_T_firstBadBar_4 : decode c_T_firstBadBar 4 = .ok (.getfield 28, 3) := by decide +kernel
theorem d_T_firstBadBar_7 : decode c_T_firstBadBar 7 = .ok (.if_icmp .ge 45, 3) := by decide +kernel
theorem d_T_firstBadBar_10 : decode c_T_firstBadBar 10 = .ok (.aload_n 0, 1) := by decide +kernel
theorem d_T_firstBadBar_11 : decode c_T_firstBadBar 11 = .ok (.aload_n 0, 1) := by decide +kernel
theorem d_T_firstBadBar_12 : decode c_T_firstBadBar 12 = .ok (.getfield 19, 3) := by decide +kernel
theorem d_T_firstBadBar_15 : decode c_T_firstBadBar 15 = .ok (.iload_n 1, 1) := by decide +kernel
theorem d_T_firstBadBar_16 : decode c_T_firstBadBar 16 = .ok (.iaload, 1) := by decide +kernel
theorem d_T_firstBadBar_17 : decode c_T_firstBadBar 17 = .ok (.invokevirtual 52, 3) := by decide +kernel
theorem d_T_firstBadBar_20 : decode c_T_firstBadBar 20 = .ok (.ifCond .eq 24, 3) := by decide +kernel
theorem d_T_firstBadBar_23 : decode c_T_firstBadBar 23 = .ok (.aload_n 0, 1) := by decide +kernel
theorem d_T_firstBadBar_24 : decode c_T_firstBadBar 24 = .ok (.aload_n 0, 1) := by decide +kernel
theorem d_T_firstBadBar_25 : decode c_T_firstBadBar 25 = .ok (.getfield 22, 3) := by decide +kernel
theorem d_T_firstBadBar_28 : decode c_T_firstBadBar 28 = .ok (.iload_n 1, 1) := by decide +kernel
theorem d_T_firstBadBar_29 : decode c_T_firstBadBar 29 = .ok (.iaload, 1) := by decide +kernel
theorem d_T_firstBadBar_30 : decode c_T_firstBadBar 30 = .ok (.invokevirtual 52, 3) := by decide +kernel
theorem d_T_firstBadBar_33 : decode c_T_firstBadBar 33 = .ok (.ifCond .eq 11, 3) := by decide +kernel
theorem d_T_firstBadBar_36 : decode c_T_firstBadBar 36 = .ok (.aload_n 0, 1) := by decide +kernel
theorem d_T_firstBadBar_37 : decode c_T_firstBadBar 37 = .ok (.iload_n 1, 1) := by decide +kernel
theorem d_T_firstBadBar_38 : decode c_T_firstBadBar 38 = .ok (.invokevirtual 60, 3) := by decide +kernel
theorem d_T_firstBadBar_41 : decode c_T_firstBadBar 41 = .ok (.ifCond .ne 5, 3) := by decide +kernel
theorem d_T_firstBadBar_44 : decode c_T_firstBadBar 44 = .ok (.iload_n 1, 1) := by decide +kernel
theorem d_T_firstBadBar_45 : decode c_T_firstBadBar 45 = .ok (.ireturn, 1) := by decide +kernel
theorem d_T_firstBadBar_46 : decode c_T_firstBadBar 46 = .ok (.iinc 1 1, 3) := by decide +kernel
theorem d_T_firstBadBar_49 : decode c_T_firstBadBar 49 = .ok (.goto (-47), 3) := by decide +kernel
theorem d_T_firstBadBar_52 : decode c_T_firstBadBar 52 = .ok (.iconst (-1), 1) := by decide +kernel
theorem d_T_firstBadBar_53 : decode c_T_firstBadBar 53 = .ok (.ireturn, 1) := by decide +kernel
theorem d_T_isGood_0 : decode c_T_isGood 0 = .ok (.aload_n 0, 1) := by decide +kernel
theorem d_T_isGood_1 : decode c_T_isGood 1 = .ok (.iload_n 1, 1) := by decide +kernel
theorem d_T_isGood_2 : decode c_T_isGood 2 = .ok (.iconst 0, 1) := by decide +kernel
theorem d_T_isGood_3 : decode c_T_isGood 3 = .ok (.invokevirtual 63, 3) := by decide +kernel
theorem d_T_isGood_6 : decode c_T_isGood 6 = .ok (.istore_n 2, 1) := by decide +kernel
theorem d_T_isGood_7 : decode c_T_isGood 7 = .ok (.aload_n 0, 1) := by decide +kernel
theorem d_T_isGood_8 : decode c_T_isGood 8 = .ok (.iload_n 1, 1) := by decide +kernel
theorem d_T_isGood_9 : decode c_T_isGood 9 = .ok (.iconst 1, 1) := by decide +kernel
theorem d_T_isGood_10 : decode c_T_isGood 10 = .ok (.invokevirtual 63, 3) := by decide +kernel
theorem d_T_isGood_13 : decode c_T_isGood 13 = .ok (.istore_n 3, 1) := by decide +kernel
theorem d_T_isGood_14 : decode c_T_isGood 14 = .ok (.iload_n 2, 1) := by decide +kernel
theorem d_T_isGood_15 : decode c_T_isGood 15 = .ok (.ifCond .eq 18, 3) := by decide +kernel
theorem d_T_isGood_18 : decode c_T_isGood 18 = .ok (.iload_n 3, 1) := by decide +kernel
theorem d_T_isGood_19 : decode c_T_isGood 19 = .ok (.ifCond .eq 14, 3) := by decide +kernel
theorem d_T_isGood_22 : decode c_T_isGood 22 = .ok (.iload_n 2, 1) := by decide +kernel
theorem d_T_isGood_23 : decode c_T_isGood 23 = .ok (.invokestatic 66, 3) := by decide +kernel
theorem d_T_isGood_26 : decode c_T_isGood 26 = .ok (.iload_n 3, 1) := by decide +kernel
theorem d_T_isGood_27 : decode c_T_isGood 27 = .ok (.invokestatic 66, 3) := by decide +kernel
theorem d_T_isGood_30 : decode c_T_isGood 30 = .ok (.if_icmp .ne 7, 3) := by decide +kernel
theorem d_T_isGood_33 : decode c_T_isGood 33 = .ok (.iconst 1, 1) := by decide +kernel
theorem d_T_isGood_34 : decode c_T_isGood 34 = .ok (.goto 4, 3) := by decide +kernel
theorem d_T_isGood_37 : decode c_T_isGood 37 = .ok (.iconst 0, 1) := by decide +kernel
theorem d_T_isGood_38 : decode c_T_isGood 38 = .ok (.ireturn, 1) := by decide +kernel
theorem d_T_reach_0 : decode c_T_reach 0 = .ok (.aload_n 0, 1) := by decide +kernel
theorem d_T_reach_1 : decode c_T_reach 1 = .ok (.getfield 15, 3) := by decide +kernel
theorem d_T_reach_4 : decode c_T_reach 4 = .ok (.aload_n 0, 1) := by decide +kernel
theorem d_T_reach_5 : decode c_T_reach 5 = .ok (.getfield 22, 3) := by decide +kernel
theorem d_T_reach_8 : decode c_T_reach 8 = .ok (.iload_n 1, 1) := by decide +kernel
theorem d_T_reach_9 : decode c_T_reach 9 = .ok (.iaload, 1) := by decide +kernel
theorem d_T_reach_10 : decode c_T_reach 10 = .ok (.iload_n 2, 1) := by decide +kernel
theorem d_T_reach_11 : decode c_T_reach 11 = .ok (.invokestatic 56, 3) := by decide +kernel
theorem d_T_reach_14 : decode c_T_reach 14 = .ok (.iaload, 1) := by decide +kernel
theorem d_T_reach_15 : decode c_T_reach 15 = .ok (.aload_n 0, 1) := by decide +kernel
theorem d_T_reach_16 : decode c_T_reach 16 = .ok (.getfield 15, 3) := by decide +kernel
theorem d_T_reach_19 : decode c_T_reach 19 = .ok (.aload_n 0, 1) := by decide +kernel
theorem d_T_reach_20 : decode c_T_reach 20 = .ok (.getfield 19, 3) := by decide +kernel
theorem d_T_reach_23 : decode c_T_reach 23 = .ok (.iload_n 1, 1) := by decide +kernel
theorem d_T_reach_24 : decode c_T_reach 24 = .ok (.iaload, 1) := by decide +kernel
theorem d_T_reach_25 : decode c_T_reach 25 = .ok (.iload_n 2, 1) := by decide +kernel
theorem d_T_reach_26 : decode c_T_reach 26 = .ok (.invokestatic 56, 3) := by decide +kernel
theorem d_T_reach_29 : decode c_T_reach 29 = .ok (.iaload, 1) := by decide +kernel
theorem d_T_reach_30 : decode c_T_reach 30 = .ok (.isub, 1) := by decide +kernel
theorem d_T_reach_31 : decode c_T_reach 31 = .ok (.ireturn, 1) := by decide +kernel
theorem d_N_make_0 : decode c_N_make 0 = .ok (.aload_n 0, 1) := by decide +kernel
theorem d_N_make_1 : decode c_N_make 1 = .ok (.aload_n 1, 1) := by decide +kernel
theorem d_N_make_2 : decode c_N_make 2 = .ok (.invokevirtual 34, 3) := by decide +kernel
theorem d_N_make_5 : decode c_N_make 5 = .ok (.aload_n 0, 1) := by decide +kernel
theorem d_N_make_6 : decode c_N_make 6 = .ok (.aload_n 1, 1) := by decide +kernel
theorem d_N_make_7 : decode c_N_make 7 = .ok (.invokevirtual 38, 3) := by decide +kernel
theorem d_N_make_10 : decode c_N_make 10 = .ok (.aload_n 0, 1) := by decide +kernel
theorem d_N_make_11 : decode c_N_make 11 = .ok (.invokevirtual 41, 3) := by decide +kernel
theorem d_N_make_14 : decode c_N_make 14 = .ok (.aload_n 0, 1) := by decide +kernel
theorem d_N_make_15 : decode c_N_make 15 = .ok (.aload_n 1, 1) := by decide +kernel
theorem d_N_make_16 : decode c_N_make 16 = .ok (.invokevirtual 44, 3) := by decide +kernel
theorem d_N_make_19 : decode c_N_make 19 = .ok (.return_, 1) := by decide +kernel
theorem d_N_findNeighbours_0 : decode c_N_findNeighbours 0 = .ok (.aload_n 0, 1) := by decide +kernel
theorem d_N_findNeighbours_1 : decode c_N_findNeighbours 1 = .ok (.getfield 22, 3) := by decide +kernel
theorem d_N_findNeighbours_4 : decode c_N_findNeighbours 4 = .ok (.iconst 0, 1) := by decide +kernel
theorem d_N_findNeighbours_5 : decode c_N_findNeighbours 5 = .ok (.invokestatic 47, 3) := by decide +kernel
theorem d_N_findNeighbours_8 : decode c_N_findNeighbours 8 = .ok (.iconst 0, 1) := by decide +kernel
theorem d_N_findNeighbours_9 : decode c_N_findNeighbours 9 = .ok (.istore_n 2, 1) := by decide +kernel
theorem d_N_findNeighbours_10 : decode c_N_findNeighbours 10 = .ok (.iload_n 2, 1) := by decide +kernel
theorem d_N_findNeighbours_11 : decode c_N_findNeighbours 11 = .ok (.aload_n 1, 1) := by decide +kernel
theorem d_N_findNeighbours_12 : decode c_N_findNeighbours 12 = .ok (.getfield 53, 3) := by decide +kernel
theorem d_N_findNeighbours_15 : decode c_N_findNeighbours 15 = .ok (.if_icmp .ge 50, 3) := by decide +kernel
theorem d_N_findNeighbours_18 : decode c_N_findNeighbours 18 = .ok (.aload_n 1, 1) := by decide +kernel
theorem d_N_findNeighbours_19 : decode c_N_findNeighbours 19 = .ok (.getfield 58, 3) := by decide +kernel
theorem d_N_findNeighbours_22 : decode c_N_findNeighbours 22 = .ok (.iload_n 2, 1) := by decide +kernel
theorem d_N_findNeighbours_23 : decode c_N_findNeighbours 23 = .ok (.iaload, 1) := by decide +kernel
theorem d_N_findNeighbours_24 : decode c_N_findNeighbours 24 = .ok (.istore_n 3, 1) := by decide +kernel
theorem d_N_findNeighbours_25 : decode c_N_findNeighbours 25 = .ok (.aload_n 1, 1) := by decide +kernel
theorem d_N_findNeighbours_26 : decode c_N_findNeighbours 26 = .ok (.getfield 61, 3) := by decide +kernel
theorem d_N_findNeighbours_29 : decode c_N_findNeighbours 29 = .ok (.iload_n 2, 1) := by decide +kernel
theorem d_N_findNeighbours_30 : decode c_N_findNeighbours 30 = .ok (.iaload, 1) := by decide +kernel
theorem d_N_findNeighbours_31 : decode c_N_findNeighbours 31 = .ok (.istore 4, 2) := by decide +kernel
theorem d_N_findNeighbours_33 : decode c_N_findNeighbours 33 = .ok (.aload_n 0, 1) := by decide +kernel
theorem d_N_findNeighbours_34 : decode c_N_findNeighbours 34 = .ok (.getfield 22, 3) := by decide +kernel
theorem d_N_findNeighbours_37 : decode c_N_findNeighbours 37 = .ok (.iload_n 3, 1) := by decide +kernel
theorem d_N_findNeighbours_38 : decode c_N_findNeighbours 38 = .ok (.dup2, 1) := by decide +kernel
theorem d_N_findNeighbours_39 : decode c_N_findNeighbours 39 = .ok (.iaload, 1) := by decide +kernel
theorem d_N_findNeighbours_40 : decode c_N_findNeighbours 40 = .ok (.iconst 1, 1) := by decide +kernel
theorem d_N_findNeighbours_41 : decode c_N_findNeighbours 41 = .ok (.iload 4, 2) := by decide +kernel
theorem d_N_findNeighbours_43 : decode c_N_findNeighbours 43 = .ok (.ishl, 1) := by decide +kernel
theorem d_N_findNeighbours_44 : decode c_N_findNeighbours 44 = .ok (.ior, 1) := by decide +kernel
theorem d_N_findNeighbours_45 : decode c_N_findNeighbours 45 = .ok (.iastore, 1) := by decide +kernel
theorem d_N_findNeighbours_46 : decode c_N_findNeighbours 46 = .ok (.aload_n 0, 1) := by decide +kernel
theorem d_N_findNeighbours_47 : decode c_N_findNeighbours 47 = .ok (.getfield 22, 3) := by decide +kernel
theorem d_N_findNeighbours_50 : decode c_N_findNeighbours 50 = .ok (.iload 4, 2) := by decide +kernel
theorem d_N_findNeighbours_52 : decode c_N_findNeighbours 52 = .ok (.dup2, 1) := by decide +kernel
theorem d_N_findNeighbours_53 : decode c_N_findNeighbours 53 = .ok (.iaload, 1) := by decide +kernel
theorem d_N_findNeighbours_54 : decode c_N_findNeighbours 54 = .ok (.iconst 1, 1) := by decide +kernel
theorem d_N_findNeighbours_55 : decode c_N_findNeighbours 55 = .ok (.iload_n 3, 1) := by decide +kernel
theorem d_N_findNeighbours_56 : decode c_N_findNeighbours 56 = .ok (.ishl, 1) := by decide +kernel
theorem d_N_findNeighbours_57 : decode c_N_findNeighbours 57 = .ok (.ior, 1) := by decide +kernel
theorem d_N_findNeighbours_58 : decode c_N_findNeighbours 58 = .ok (.iastore, 1) := by decide +kernel
theorem d_N_findNeighbours_59 : decode c_N_findNeighbours 59 = .ok (.iinc 2 1, 3) := by decide +kernel
theorem d_N_findNeighbours_62 : decode c_N_findNeighbours 62 = .ok (.goto (-52), 3) := by decide +kernel
theorem d_N_findNeighbours_65 : decode c_N_findNeighbours 65 = .ok (.return_, 1) := by decide +kernel
theorem d_J_fillI_0 : decode c_J_fillI 0 = .ok (.iconst 0, 1) := by decide +kernel
theorem d_J_fillI_1 : decode c_J_fillI 1 = .ok (.istore_n 2, 1) := by decide +kernel
theorem d_J_fillI_2 : decode c_J_fillI 2 = .ok (.aload_n 0, 1) := by decide +kernel
theorem d_J_fillI_3 : decode c_J_fillI 3 = .ok (.arraylength, 1) := by decide +kernel
theorem d_J_fillI_4 : decode c_J_fillI 4 = .ok (.istore_n 3, 1) := by decide +kernel
theorem d_J_fillI_5 : decode c_J_fillI 5 = .ok (.iload_n 2, 1) := by decide +kernel
theorem d_J_fillI_6 : decode c_J_fillI 6 = .ok (.iload_n 3, 1) := by decide +kernel
theorem d_J_fillI_7 : decode c_J_fillI 7 = .ok (.if_icmp .ge 13, 3) := by decide +kernel
theorem d_J_fillI_10 : decode c_J_fillI 10 = .ok (.aload_n 0, 1) := by decide +kernel
theorem d_J_fillI_11 : decode c_J_fillI 11 = .ok (.iload_n 2, 1) := by decide +kernel
theorem d_J_fillI_12 : decode c_J_fillI 12 = .ok (.iload_n 1, 1) := by decide +kernel
theorem d_J_fillI_13 : decode c_J_fillI 13 = .ok (.iastore, 1) := by decide +kernel
theorem d_J_fillI_14 : decode c_J_fillI 14 = .ok (.iinc 2 1, 3) := by decide +kernel
theorem d_J_fillI_17 : decode c_J_fillI 17 = .ok (.goto (-12), 3) := by decide +kernel
theorem d_J_fillI_20 : decode c_J_fillI 20 = .ok (.return_, 1) := by decide +kernel
theorem d_N_placeNodes_0 : decode c_N_placeNodes 0 = .ok (.aload_n 0, 1) := by decide +kernel
theorem d_N_placeNodes_1 : decode c_N_placeNodes 1 = .ok (.iconst 0, 1) := by decide +kernel
theorem d_N_placeNodes_2 : decode c_N_placeNodes 2 = .ok (.putfield 15, 3) := by decide +kernel
theorem d_N_placeNodes_5 : decode c_N_placeNodes 5 = .ok (.aload_n 0, 1) := by decide +kernel
theorem d_N_placeNodes_6 : decode c_N_placeNodes 6 = .ok (.iconst 0, 1) := by decide +kernel
theorem d_N_placeNodes_7 : decode c_N_placeNodes 7 = .ok (.putfield 19, 3) := by decide +kernel
theorem d_N_placeNodes_10 : decode c_N_placeNodes 10 = .ok (.aload_n 1, 1) := by decide +kernel
theorem d_N_placeNodes_11 : decode c_N_placeNodes 11 = .ok (.invokevirtual 64, 3) := by decide +kernel
theorem d_N_placeNodes_14 : decode c_N_placeNodes 14 = .ok (.istore_n 2, 1) := by decide +kernel
theorem d_N_placeNodes_15 : decode c_N_placeNodes 15 = .ok (.iconst 0, 1) := by decide +kernel
theorem d_N_placeNodes_16 : decode c_N_placeNodes 16 = .ok (.istore_n 3, 1) := by decide +kernel
theorem d_N_placeNodes_17 : decode c_N_placeNodes 17 = .ok (.iload_n 3, 1) := by decide +kernel
theorem d_N_placeNodes_18 : decode c_N_placeNodes 18 = .ok (.iload_n 2, 1) := by decide +kernel
theorem d_N_placeNodes_19 : decode c_N_placeNodes 19 = .ok (.if_icmp .ge 46, 3) := by decide +kernel
theorem d_N_placeNodes_22 : decode c_N_placeNodes 22 = .ok (.iload_n 3, 1) := by decide +kernel
theorem d_N_placeNodes_23 : decode c_N_placeNodes 23 = .ok (.aload_n 0, 1) := by decide +kernel
theorem d_N_placeNodes_24 : decode c_N_placeNodes 24 = .ok (.getfield 15, 3) := by decide +kernel
theorem d_N_placeNodes_27 : decode c_N_placeNodes 27 = .ok (.if_icmp .ne 22, 3) := by decide +kernel
theorem d_N_placeNodes_30 : decode c_N_placeNodes 30 = .ok (.aload_n 0, 1) := by decide +kernel
theorem d_N_placeNodes_31 : decode c_N_placeNodes 31 = .ok (.aload_n 0, 1) := by decide +kernel
theorem d_N_placeNodes_32 : decode c_N_placeNodes 32 = .ok (.aload_n 1, 1) := by decide +kernel
theorem d_N_placeNodes_33 : decode c_N_placeNodes 33 = .ok (.getfield 68, 3) := by decide +kernel
theorem d_N_placeNodes_36 : decode c_N_placeNodes 36 = .ok (.aload_n 0, 1) := by decide +kernel
theorem d_N_placeNodes_37 : decode c_N_placeNodes 37 = .ok (.getfield 19, 3) := by decide +kernel
theorem d_N_placeNodes_40 : decode c_N_placeNodes 40 = .ok (.iconst (-1), 1) := by decide +kernel
theorem d_N_placeNodes_41 : decode c_N_placeNodes 41 = .ok (.ixor, 1) := by decide +kernel
theorem d_N_placeNodes_42 : decode c_N_placeNodes 42 = .ok (.iand, 1) := by decide +kernel
theorem d_N_placeNodes_43 : decode c_N_placeNodes 43 = .ok (.invokevirtual 71, 3) := by decide +kernel
theorem d_N_placeNodes_46 : decode c_N_placeNodes 46 = .ok (.invokevirtual 75, 3) := by decide +kernel
theorem d_N_placeNodes_49 : decode c_N_placeNodes 49 = .ok (.aload_n 0, 1) := by decide +kernel
theorem d_N_placeNodes_50 : decode c_N_placeNodes 50 = .ok (.aload_n 0, 1) := by decide +kernel
theorem d_N_placeNodes_51 : decode c_N_placeNodes 51 = .ok (.getfield 9, 3) := by decide +kernel
theorem d_N_placeNodes_54 : decode c_N_placeNodes 54 = .ok (.iload_n 3, 1) := by decide +kernel
theorem d_N_placeNodes_55 : decode c_N_placeNodes 55 = .ok (.iaload, 1) := by decide +kernel
theorem d_N_placeNodes_56 : decode c_N_placeNodes 56 = .ok (.invokevirtual 79, 3) := by decide +kernel
theorem d_N_placeNodes_59 : decode c_N_placeNodes 59 = .ok (.iinc 3 1, 3) := by decide +kernel
theorem d_N_placeNodes_62 : decode c_N_placeNodes 62 = .ok (.goto (-45), 3) := by decide +kernel
theorem d_N_placeNodes_65 : decode c_N_placeNodes 65 = .ok (.return_, 1) := by decide +kernel
theorem d_N_leastJoined_0 : decode c_N_leastJoined 0 = .ok (.iconst (-1), 1) := by decide +kernel
theorem d_N_leastJoined_1 : decode c_N_leastJoined 1 = .ok (.istore_n 2, 1) := by decide +kernel
theorem d_N_leastJoined_2 : decode c_N_leastJoined 2 = .ok (.iconst 5, 1) := by decide +kernel
theorem d_N_leastJoined_3 : decode c_N_leastJoined 3 = .ok (.istore_n 3, 1) := by decide +kernel
theorem d_N_leastJoined_4 : decode c_N_leastJoined 4 = .ok (.iconst 0, 1) := by decide +kernel
theorem d_N_leastJoined_5 : decode c_N_leastJoined 5 = .ok (.istore 4, 2) := by decide +kernel
theorem d_N_leastJoined_7 : decode c_N_leastJoined 7 = .ok (.iload 4, 2) := by decide +kernel
theorem d_N_leastJoined_9 : decode c_N_leastJoined 9 = .ok (.iconst 5, 1) := by decide +kernel
theorem d_N_leastJoined_10 : decode c_N_leastJoined 10 = .ok (.if_icmp .ge 42, 3) := by decide +kernel
theorem d_N_leastJoined_13 : decode c_N_leastJoined 13 = .ok (.aload_n 0, 1) := by decide +kernel
theorem d_N_leastJoined_14 : decode c_N_leastJoined 14 = .ok (.getfield 22, 3) := by decide +kernel
theorem d_N_leastJoined_17 : decode c_N_leastJoined 17 = .ok (.iload 4, 2) := by decide +kernel
theorem d_N_leastJoined_19 : decode c_N_leastJoined 19 = .ok (.iaload, 1) := by decide +kernel
theorem d_N_leastJoined_20 : decode c_N_leastJoined 20 = .ok (.invokestatic 82, 3) := by decide +kernel
theorem d_N_leastJoined_23 : decode c_N_leastJoined 23 = .ok (.istore 5, 2) := by decide +kernel
theorem d_N_leastJoined_25 : decode c_N_leastJoined 25 = .ok (.iload_n 1, 1) := by decide +kernel
theorem d_N_leastJoined_26 : decode c_N_leastJoined 26 = .ok (.iload 4, 2) := by decide +kernel
theorem d_N_leastJoined_28 : decode c_N_leastJoined 28 = .ok (.ishr, 1) := by decide +kernel
theorem d_N_leastJoined_29 : decode c_N_leastJoined 29 = .ok (.iconst 1, 1) := by decide +kernel
theorem d_N_leastJoined_30 : decode c_N_leastJoined 30 = .ok (.iand, 1) := by decide +kernel
theorem d_N_leastJoined_31 : decode c_N_leastJoined 31 = .ok (.ifCond .eq 15, 3) := by decide +kernel
theorem d_N_leastJoined_34 : decode c_N_leastJoined 34 = .ok (.iload 5, 2) := by decide +kernel
theorem d_N_leastJoined_36 : decode c_N_leastJoined 36 = .ok (.iload_n 3, 1) := by decide +kernel
theorem d_N_leastJoined_37 : decode c_N_leastJoined 37 = .ok (.if_icmp .ge 9, 3) := by decide +kernel
theorem d_N_leastJoined_40 : decode c_N_leastJoined 40 = .ok (.iload 4, 2) := by decide +kernel
theorem d_N_leastJoined_42 : decode c_N_leastJoined 42 = .ok (.istore_n 2, 1) := by decide +kernel
theorem d_N_leastJoined_43 : decode c_N_leastJoined 43 = .ok (.iload 5, 2) := by decide +kernel
theorem d_N_leastJoined_45 : decode c_N_leastJoined 45 = .ok (.istore_n 3, 1) := by decide +kernel
theorem d_N_leastJoined_46 : decode c_N_leastJoined 46 = .ok (.iinc 4 1, 3) := by decide +kernel
theorem d_N_leastJoined_49 : decode c_N_leastJoined 49 = .ok (.goto (-42), 3) := by decide +kernel
theorem d_N_leastJoined_52 : decode c_N_leastJoined 52 = .ok (.iload_n 2, 1) := by decide +kernel
theorem d_N_leastJoined_53 : decode c_N_leastJoined 53 = .ok (.ireturn, 1) := by decide +kernel
theorem d_N_append_0 : decode c_N_append 0 = .ok (.iload_n 1, 1) := by decide +kernel
theorem d_N_append_1 : decode c_N_append 1 = .ok (.ifCond .lt 11, 3) := by decide +kernel
theorem d_N_append_4 : decode c_N_append 4 = .ok (.aload_n 0, 1) := by decide +kernel
theorem d_N_append_5 : decode c_N_append 5 = .ok (.getfield 15, 3) := by decide +kernel
theorem d_N_append_8 : decode c_N_append 8 = .ok (.iconst 5, 1) := by decide +kernel
theorem d_N_append_9 : decode c_N_append 9 = .ok (.if_icmp .lt 4, 3) := by decide +kernel
theorem d_N_append_12 : decode c_N_append 12 = .ok (.return_, 1) := by decide +kernel
theorem d_N_append_13 : decode c_N_append 13 = .ok (.aload_n 0, 1) := by decide +kernel
theorem d_N_append_14 : decode c_N_append 14 = .ok (.getfield 9, 3) := by decide +kernel
theorem d_N_append_17 : decode c_N_append 17 = .ok (.aload_n 0, 1) := by decide +kernel
theorem d_N_append_18 : decode c_N_append 18 = .ok (.getfield 15, 3) := by decide +kernel
theorem d_N_append_21 : decode c_N_append 21 = .ok (.iload_n 1, 1) := by decide +kernel
theorem d_N_append_22 : decode c_N_append 22 = .ok (.iastore, 1) := by decide +kernel
theorem d_N_append_23 : decode c_N_append 23 = .ok (.aload_n 0, 1) := by decide +kernel
theorem d_N_append_24 : decode c_N_append 24 = .ok (.dup, 1) := by decide +kernel
theorem d_N_append_25 : decode c_N_append 25 = .ok (.getfield 15, 3) := by decide +kernel
theorem d_N_append_28 : decode c_N_append 28 = .ok (.iconst 1, 1) := by decide +kernel
theorem d_N_append_29 : decode c_N_append 29 = .ok (.iadd, 1) := by decide +kernel
theorem d_N_append_30 : decode c_N_append 30 = .ok (.putfield 15, 3) := by decide +kernel
theorem d_N_append_33 : decode c_N_append 33 = .ok (.aload_n 0, 1) := by decide +kernel
theorem d_N_append_34 : decode c_N_append 34 = .ok (.dup, 1) := by decide +kernel
theorem d_N_append_35 : decode c_N_append 35 = .ok (.getfield 19, 3) := by decide +kernel
theorem d_N_append_38 : decode c_N_append 38 = .ok (.iconst 1, 1) := by decide +kernel
theorem d_N_append_39 : decode c_N_append 39 = .ok (.iload_n 1, 1) := by decide +kernel
theorem d_N_append_40 : decode c_N_append 40 = .ok (.ishl, 1) := by decide +kernel
theorem d_N_append_41 : decode c_N_append 41 = .ok (.ior, 1) := by decide +kernel
theorem d_N_append_42 : decode c_N_append 42 = .ok (.putfield 19, 3) := by decide +kernel
theorem d_N_append_45 : decode c_N_append 45 = .ok (.return_, 1) := by decide +kernel
theorem d_N_appendNeighboursOf_0 : decode c_N_appendNeighboursOf 0 = .ok (.aload_n 0, 1) := by decide +kernel
theorem d_N_appendNeighboursOf_1 : decode c_N_appendNeighboursOf 1 = .ok (.getfield 22, 3) := by decide +kernel
theorem d_N_appendNeighboursOf_4 : decode c_N_appendNeighboursOf 4 = .ok (.iload_n 1, 1) := by decide +kernel
theorem d_N_appendNeighboursOf_5 : decode c_N_appendNeighboursOf 5 = .ok (.iaload, 1) := by decide +kernel
theorem d_N_appendNeighboursOf_6 : decode c_N_appendNeighboursOf 6 = .ok (.aload_n 0, 1) := by decide +kernel
theorem d_N_appendNeighboursOf_7 : decode c_N_appendNeighboursOf 7 = .ok (.getfield 19, 3) := by decide +kernel
theorem d_N_appendNeighboursOf_10 : decode c_N_appendNeighboursOf 10 = .ok (.iconst (-1), 1) := by decide +kernel
theorem d_N_appendNeighboursOf_11 : decode c_N_appendNeighboursOf 11 = .ok (.ixor, 1) := by decide +kernel
theorem d_N_appendNeighboursOf_12 : decode c_N_appendNeighboursOf 12 = .ok (.iand, 1) := by decide +kernel
theorem d_N_appendNeighboursOf_13 : decode c_N_appendNeighboursOf 13 = .ok (.invokestatic 82, 3) := by decide +kernel
theorem d_N_appendNeighboursOf_16 : decode c_N_appendNeighboursOf 16 = .ok (.istore_n 2, 1) := by decide +kernel
theorem d_N_appendNeighboursOf_17 : decode c_N_appendNeighboursOf 17 = .ok (.iconst 0, 1) := by decide +kernel
theorem d_N_appendNeighboursOf_18 : decode c_N_appendNeighboursOf 18 = .ok (.istore_n 3, 1) := by decide +kernel
theorem d_N_appendNeighboursOf_19 : decode c_N_appendNeighboursOf 19 = .ok (.iload_n 3, 1) := by decide +kernel
theorem d_N_appendNeighboursOf_20 : decode c_N_appendNeighboursOf 20 = .ok (.iload_n 2, 1) := by decide +kernel
theorem d_N_appendNeighboursOf_21 : decode c_N_appendNeighboursOf 21 = .ok (.if_icmp .ge 30, 3) := by decide +kernel
theorem d_N_appendNeighboursOf_24 : decode c_N_appendNeighboursOf 24 = .ok (.aload_n 0, 1) := by decide +kernel
theorem d_N_appendNeighboursOf_25 : decode c_N_appendNeighboursOf 25 = .ok (.aload_n 0, 1) := by decide +kernel
theorem d_N_appendNeighboursOf_26 : decode c_N_appendNeighboursOf 26 = .ok (.aload_n 0, 1) := by decide +kernel
theorem d_N_appendNeighboursOf_27 : decode c_N_appendNeighboursOf 27 = .ok (.getfield 22, 3) := by decide +kernel
theorem d_N_appendNeighboursOf_30 : decode c_N_appendNeighboursOf 30 = .ok (.iload_n 1, 1) := by decide +kernel
theorem d_N_appendNeighboursOf_31 : decode c_N_appendNeighboursOf 31 = .ok (.iaload, 1) := by decide +kernel
theorem d_N_appendNeighboursOf_32 : decode c_N_appendNeighboursOf 32 = .ok (.aload_n 0, 1) := by decide +kernel
theorem d_N_appendNeighboursOf_33 : decode c_N_appendNeighboursOf 33 = .ok (.getfield 19, 3) := by decide +kernel
theorem d_N_appendNeighboursOf_36 : decode c_N_appendNeighboursOf 36 = .ok (.iconst (-1), 1) := by decide +kernel
theorem d_N_appendNeighboursOf_37 : decode c_N_appendNeighboursOf 37 = .ok (.ixor, 1) := by decide +kernel
theorem d_N_appendNeighboursOf_38 : decode c_N_appendNeighboursOf 38 = .ok (.iand, 1) := by decide +kernel
theorem d_N_appendNeighboursOf_39 : decode c_N_appendNeighboursOf 39 = .ok (.invokevirtual 71, 3) := by decide +kernel
theorem d_N_appendNeighboursOf_42 : decode c_N_appendNeighboursOf 42 = .ok (.invokevirtual 75, 3) := by decide +kernel
theorem d_N_appendNeighboursOf_45 : decode c_N_appendNeighboursOf 45 = .ok (.iinc 3 1, 3) := by decide +kernel
theorem d_N_appendNeighboursOf_48 : decode c_N_appendNeighboursOf 48 = .ok (.goto (-29), 3) := by decide +kernel
theorem d_N_appendNeighboursOf_51 : decode c_N_appendNeighboursOf 51 = .ok (.return_, 1) := by decide +kernel
theorem d_N_turnRound_0 : decode c_N_turnRound 0 = .ok (.iconst 0, 1) := by decide +kernel
theorem d_N_turnRound_1 : decode c_N_turnRound 1 = .ok (.istore_n 1, 1) := by decide +kernel
theorem d_N_turnRound_2 : decode c_N_turnRound 2 = .ok (.aload_n 0, 1) := by decide +kernel
theorem d_N_turnRound_3 : decode c_N_turnRound 3 = .ok (.getfield 15, 3) := by decide +kernel
theorem d_N_turnRound_6 : decode c_N_turnRound 6 = .ok (.iconst 1, 1) := by decide +kernel
theorem d_N_turnRound_7 : decode c_N_turnRound 7 = .ok (.isub, 1) := by decide +kernel
theorem d_N_turnRound_8 : decode c_N_turnRound 8 = .ok (.istore_n 2, 1) := by decide +kernel
theorem d_N_turnRound_9 : decode c_N_turnRound 9 = .ok (.iload_n 1, 1) := by decide +kernel
theorem d_N_turnRound_10 : decode c_N_turnRound 10 = .ok (.iload_n 2, 1) := by decide +kernel
theorem d_N_turnRound_11 : decode c_N_turnRound 11 = .ok (.if_icmp .ge 38, 3) := by decide +kernel
theorem d_N_turnRound_14 : decode c_N_turnRound 14 = .ok (.aload_n 0, 1) := by decide +kernel
theorem d_N_turnRound_15 : decode c_N_turnRound 15 = .ok (.getfield 9, 3) := by decide +kernel
theorem d_N_turnRound_18 : decode c_N_turnRound 18 = .ok (.iload_n 1, 1) := by decide +kernel
theorem d_N_turnRound_19 : decode c_N_turnRound 19 = .ok (.iaload, 1) := by decide +kernel
theorem d_N_turnRound_20 : decode c_N_turnRound 20 = .ok (.istore_n 3, 1) := by decide +kernel
theorem d_N_turnRound_21 : decode c_N_turnRound 21 = .ok (.aload_n 0, 1) := by decide +kernel
theorem d_N_turnRound_22 : decode c_N_turnRound 22 = .ok (.getfield 9, 3) := by decide +kernel
theorem d_N_turnRound_25 : decode c_N_turnRound 25 = .ok (.iload_n 1, 1) := by decide +kernel
theorem d_N_turnRound_26 : decode c_N_turnRound 26 = .ok (.aload_n 0, 1) := by decide +kernel
theorem d_N_turnRound_27 : decode c_N_turnRound 27 = .ok (.getfield 9, 3) := by decide +kernel
theorem d_N_turnRound_30 : decode c_N_turnRound 30 = .ok (.iload_n 2, 1) := by decide +kernel
theorem d_N_turnRound_31 : decode c_N_turnRound 31 = .ok (.iaload, 1) := by decide +kernel
theorem d_N_turnRound_32 : decode c_N_turnRound 32 = .ok (.iastore, 1) := by decide +kernel
theorem d_N_turnRound_33 : decode c_N_turnRound 33 = .ok (.aload_n 0, 1) := by decide +kernel
theorem d_N_turnRound_34 : decode c_N_turnRound 34 = .ok (.getfield 9, 3) := by decide +kernel
theorem d_N_turnRound_37 : decode c_N_turnRound 37 = .ok (.iload_n 2, 1) := by decide +kernel
theorem d_N_turnRound_38 : decode c_N_turnRound 38 = .ok (.iload_n 3, 1) := by decide +kernel
theorem d_N_turnRound_39 : decode c_N_turnRound 39 = .ok (.iastore, 1) := by decide +kernel
theorem d_N_turnRound_40 : decode c_N_turnRound 40 = .ok (.iinc 1 1, 3) := by decide +kernel
theorem d_N_turnRound_43 : decode c_N_turnRound 43 = .ok (.iinc 2 (-1), 3) := by decide +kernel
theorem d_N_turnRound_46 : decode c_N_turnRound 46 = .ok (.goto (-37), 3) := by decide +kernel
theorem d_N_turnRound_49 : decode c_N_turnRound 49 = .ok (.return_, 1) := by decide +kernel
end
section
theorem d_N_numberSlots_0 : decode c_N_numberSlots 0 = .ok (.aload_n 0, 1) := by decide +kernel
theorem d_N_numberSlots_1 : decode c_N_numberSlots 1 = .ok (.iconst 0, 1) := by decide +kernel
theorem d_N_numberSlots_2 : decode c_N_numberSlots 2 = .ok (.putfield 31, 3) := by decide +kernel
theorem d_N_numberSlots_5 : decode c_N_numberSlots 5 = .ok (.iconst 0, 1) := by decide +kernel
theorem d_N_numberSlots_6 : decode c_N_numberSlots 6 = .ok (.istore_n 2, 1) := by decide +kernel
theorem d_N_numberSlots_7 : decode c_N_numberSlots 7 = .ok (.iload_n 2, 1) := by decide +kernel
theorem d_N_numberSlots_8 : decode c_N_numberSlots 8 = .ok (.aload_n 0, 1) := by decide +kernel
theorem d_N_numberSlots_9 : decode c_N_numberSlots 9 = .ok (.getfield 15, 3) := by decide +kernel
theorem d_N_numberSlots_12 : decode c_N_numberSlots 12 = .ok (.if_icmp .ge 37, 3) := by decide +kernel
theorem d_N_numberSlots_15 : decode c_N_numberSlots 15 = .ok (.iconst 0, 1) := by decide +kernel
theorem d_N_numberSlots_16 : decode c_N_numberSlots 16 = .ok (.istore_n 3, 1) := by decide +kernel
theorem d_N_numberSlots_17 : decode c_N_numberSlots 17 = .ok (.iload_n 3, 1) := by decide +kernel
theorem d_N_numberSlots_18 : decode c_N_numberSlots 18 = .ok (.iconst 2, 1) := by decide +kernel
theorem d_N_numberSlots_19 : decode c_N_numberSlots 19 = .ok (.if_icmp .ge 24, 3) := by decide +kernel
theorem d_N_numberSlots_22 : decode c_N_numberSlots 22 = .ok (.aload_n 0, 1) := by decide +kernel
theorem d_N_numberSlots_23 : decode c_N_numberSlots 23 = .ok (.aload_n 0, 1) := by decide +kernel
theorem d_N_numberSlots_24 : decode c_N_numberSlots 24 = .ok (.getfield 9, 3) := by decide +kernel
theorem d_N_numberSlots_27 : decode c_N_numberSlots 27 = .ok (.iload_n 2, 1) := by decide +kernel
theorem d_N_numberSlots_28 : decode c_N_numberSlots 28 = .ok (.iaload, 1) := by decide +kernel
theorem d_N_numberSlots_29 : decode c_N_numberSlots 29 = .ok (.iload_n 3, 1) := by decide +kernel
theorem d_N_numberSlots_30 : decode c_N_numberSlots 30 = .ok (.invokestatic 87, 3) := by decide +kernel
theorem d_N_numberSlots_33 : decode c_N_numberSlots 33 = .ok (.aload_n 1, 1) := by decide +kernel
theorem d_N_numberSlots_34 : decode c_N_numberSlots 34 = .ok (.invokevirtual 91, 3) := by decide +kernel
theorem d_N_numberSlots_37 : decode c_N_numberSlots 37 = .ok (.iinc 3 1, 3) := by decide +kernel
theorem d_N_numberSlots_40 : decode c_N_numberSlots 40 = .ok (.goto (-23), 3) := by decide +kernel
theorem d_N_numberSlots_43 : decode c_N_numberSlots 43 = .ok (.iinc 2 1, 3) := by decide +kernel
theorem d_N_numberSlots_46 : decode c_N_numberSlots 46 = .ok (.goto (-39), 3) := by decide +kernel
theorem d_N_numberSlots_49 : decode c_N_numberSlots 49 = .ok (.return_, 1) := by decide +kernel
theorem d_N_numberSlot_0 : decode c_N_numberSlot 0 = .ok (.aload_n 2, 1) := by decide +kernel
theorem d_N_numberSlot_1 : decode c_N_numberSlot 1 = .ok (.getfield 95, 3) := by decide +kernel
theorem d_N_numberSlot_4 : decode c_N_numberSlot 4 = .ok (.iload_n 1, 1) := by decide +kernel
theorem d_N_numberSlot_5 : decode c_N_numberSlot 5 = .ok (.baload, 1) := by decide +kernel
theorem d_N_numberSlot_6 : decode c_N_numberSlot 6 = .ok (.ifCond .eq 12, 3) := by decide +kernel
theorem d_N_numberSlot_9 : decode c_N_numberSlot 9 = .ok (.aload_n 0, 1) := by decide +kernel
theorem d_N_numberSlot_10 : decode c_N_numberSlot 10 = .ok (.getfield 25, 3) := by decide +kernel
theorem d_N_numberSlot_13 : decode c_N_numberSlot 13 = .ok (.iload_n 1, 1) := by decide +kernel
theorem d_N_numberSlot_14 : decode c_N_numberSlot 14 = .ok (.bipush (-2), 2) := by decide +kernel
theorem d_N_numberSlot_16 : decode c_N_numberSlot 16 = .ok (.iastore, 1) := by decide +kernel
theorem d_N_numberSlot_17 : decode c_N_numberSlot 17 = .ok (.return_, 1) := by decide +kernel
theorem d_N_numberSlot_18 : decode c_N_numberSlot 18 = .ok (.aload_n 0, 1) := by decide +kernel
theorem d_N_numberSlot_19 : decode c_N_numberSlot 19 = .ok (.getfield 25, 3) := by decide +kernel
theorem d_N_numberSlot_22 : decode c_N_numberSlot 22 = .ok (.iload_n 1, 1) := by decide +kernel
theorem d_N_numberSlot_23 : decode c_N_numberSlot 23 = .ok (.aload_n 0, 1) := by decide +kernel
theorem d_N_numberSlot_24 : decode c_N_numberSlot 24 = .ok (.getfield 31, 3) := by decide +kernel
theorem d_N_numberSlot_27 : decode c_N_numberSlot 27 = .ok (.iastore, 1) := by decide +kernel
theorem d_N_numberSlot_28 : decode c_N_numberSlot 28 = .ok (.aload_n 0, 1) := by decide +kernel
theorem d_N_numberSlot_29 : decode c_N_numberSlot 29 = .ok (.getfield 28, 3) := by decide +kernel
theorem d_N_numberSlot_32 : decode c_N_numberSlot 32 = .ok (.aload_n 0, 1) := by decide +kernel
theorem d_N_numberSlot_33 : decode c_N_numberSlot 33 = .ok (.getfield 31, 3) := by decide +kernel
theorem d_N_numberSlot_36 : decode c_N_numberSlot 36 = .ok (.iload_n 1, 1) := by decide +kernel
theorem d_N_numberSlot_37 : decode c_N_numberSlot 37 = .ok (.iastore, 1) := by decide +kernel
theorem d_N_numberSlot_38 : decode c_N_numberSlot 38 = .ok (.aload_n 0, 1) := by decide +kernel
theorem d_N_numberSlot_39 : decode c_N_numberSlot 39 = .ok (.dup, 1) := by decide +kernel
theorem d_N_numberSlot_40 : decode c_N_numberSlot 40 = .ok (.getfield 31, 3) := by decide +kernel
theorem d_N_numberSlot_43 : decode c_N_numberSlot 43 = .ok (.iconst 1, 1) := by decide +kernel
theorem d_N_numberSlot_44 : decode c_N_numberSlot 44 = .ok (.iadd, 1) := by decide +kernel
theorem d_N_numberSlot_45 : decode c_N_numberSlot 45 = .ok (.putfield 31, 3) := by decide +kernel
theorem d_N_numberSlot_48 : decode c_N_numberSlot 48 = .ok (.return_, 1) := by decide +kernel
theorem d_E_make_0 : decode c_E_make 0 = .ok (.aload_n 0, 1) := by decide +kernel
theorem d_E_make_1 : decode c_E_make 1 = .ok (.aload_n 1, 1) := by decide +kernel
theorem d_E_make_2 : decode c_E_make 2 = .ok (.invokevirtual 36, 3) := by decide +kernel
theorem d_E_make_5 : decode c_E_make 5 = .ok (.aload_n 0, 1) := by decide +kernel
theorem d_E_make_6 : decode c_E_make 6 = .ok (.aload_n 2, 1) := by decide +kernel
theorem d_E_make_7 : decode c_E_make 7 = .ok (.getfield 40, 3) := by decide +kernel
theorem d_E_make_10 : decode c_E_make 10 = .ok (.putfield 19, 3) := by decide +kernel
theorem d_E_make_13 : decode c_E_make 13 = .ok (.iconst 0, 1) := by decide +kernel
theorem d_E_make_14 : decode c_E_make 14 = .ok (.istore_n 3, 1) := by decide +kernel
theorem d_E_make_15 : decode c_E_make 15 = .ok (.iload_n 3, 1) := by decide +kernel
theorem d_E_make_16 : decode c_E_make 16 = .ok (.aload_n 0, 1) := by decide +kernel
theorem d_E_make_17 : decode c_E_make 17 = .ok (.getfield 19, 3) := by decide +kernel
theorem d_E_make_20 : decode c_E_make 20 = .ok (.if_icmp .ge 55, 3) := by decide +kernel
theorem d_E_make_23 : decode c_E_make 23 = .ok (.iconst 0, 1) := by decide +kernel
theorem d_E_make_24 : decode c_E_make 24 = .ok (.istore 4, 2) := by decide +kernel
theorem d_E_make_26 : decode c_E_make 26 = .ok (.iload 4, 2) := by decide +kernel
theorem d_E_make_28 : decode c_E_make 28 = .ok (.aload_n 0, 1) := by decide +kernel
theorem d_E_make_29 : decode c_E_make 29 = .ok (.getfield 19, 3) := by decide +kernel
theorem d_E_make_32 : decode c_E_make 32 = .ok (.if_icmp .ge 37, 3) := by decide +kernel
theorem d_E_make_35 : decode c_E_make 35 = .ok (.aload_n 0, 1) := by decide +kernel
theorem d_E_make_36 : decode c_E_make 36 = .ok (.getfield 16, 3) := by decide +kernel
theorem d_E_make_39 : decode c_E_make 39 = .ok (.iload_n 3, 1) := by decide +kernel
theorem d_E_make_40 : decode c_E_make 40 = .ok (.aaload, 1) := by decide +kernel
theorem d_E_make_41 : decode c_E_make 41 = .ok (.iload 4, 2) := by decide +kernel
theorem d_E_make_43 : decode c_E_make 43 = .ok (.aload_n 0, 1) := by decide +kernel
theorem d_E_make_44 : decode c_E_make 44 = .ok (.getfield 11, 3) := by decide +kernel
theorem d_E_make_47 : decode c_E_make 47 = .ok (.aload_n 2, 1) := by decide +kernel
theorem d_E_make_48 : decode c_E_make 48 = .ok (.getfield 45, 3) := by decide +kernel
theorem d_E_make_51 : decode c_E_make 51 = .ok (.iload_n 3, 1) := by decide +kernel
theorem d_E_make_52 : decode c_E_make 52 = .ok (.iaload, 1) := by decide +kernel
theorem d_E_make_53 : decode c_E_make 53 = .ok (.aaload, 1) := by decide +kernel
theorem d_E_make_54 : decode c_E_make 54 = .ok (.aload_n 2, 1) := by decide +kernel
theorem d_E_make_55 : decode c_E_make 55 = .ok (.getfield 45, 3) := by decide +kernel
theorem d_E_make_58 : decode c_E_make 58 = .ok (.iload 4, 2) := by decide +kernel
theorem d_E_make_60 : decode c_E_make 60 = .ok (.iaload, 1) := by decide +kernel
theorem d_E_make_61 : decode c_E_make 61 = .ok (.laload, 1) := by decide +kernel
theorem d_E_make_62 : decode c_E_make 62 = .ok (.lastore, 1) := by decide +kernel
theorem d_E_make_63 : decode c_E_make 63 = .ok (.iinc 4 1, 3) := by decide +kernel
theorem d_E_make_66 : decode c_E_make 66 = .ok (.goto (-40), 3) := by decide +kernel
theorem d_E_make_69 : decode c_E_make 69 = .ok (.iinc 3 1, 3) := by decide +kernel
theorem d_E_make_72 : decode c_E_make 72 = .ok (.goto (-57), 3) := by decide +kernel
theorem d_E_make_75 : decode c_E_make 75 = .ok (.return_, 1) := by decide +kernel
theorem d_E_sumUpStiffness_0 : decode c_E_sumUpStiffness 0 = .ok (.iconst 0, 1) := by decide +kernel
theorem d_E_sumUpStiffness_1 : decode c_E_sumUpStiffness 1 = .ok (.istore_n 2, 1) := by decide +kernel
theorem d_E_sumUpStiffness_2 : decode c_E_sumUpStiffness 2 = .ok (.iload_n 2, 1) := by decide +kernel
theorem d_E_sumUpStiffness_3 : decode c_E_sumUpStiffness 3 = .ok (.bipush 10, 2) := by decide +kernel
theorem d_E_sumUpStiffness_5 : decode c_E_sumUpStiffness 5 = .ok (.if_icmp .ge 34, 3) := by decide +kernel
theorem d_E_sumUpStiffness_8 : decode c_E_sumUpStiffness 8 = .ok (.aload_n 0, 1) := by decide +kernel
theorem d_E_sumUpStiffness_9 : decode c_E_sumUpStiffness 9 = .ok (.getfield 11, 3) := by decide +kernel
theorem d_E_sumUpStiffness_12 : decode c_E_sumUpStiffness 12 = .ok (.iload_n 2, 1) := by decide +kernel
theorem d_E_sumUpStiffness_13 : decode c_E_sumUpStiffness 13 = .ok (.aaload, 1) := by decide +kernel
theorem d_E_sumUpStiffness_14 : decode c_E_sumUpStiffness 14 = .ok (.lconst 0, 1) := by decide +kernel
theorem d_E_sumUpStiffness_15 : decode c_E_sumUpStiffness 15 = .ok (.invokestatic 49, 3) := by decide +kernel
theorem d_E_sumUpStiffness_18 : decode c_E_sumUpStiffness 18 = .ok (.aload_n 0, 1) := by decide +kernel
theorem d_E_sumUpStiffness_19 : decode c_E_sumUpStiffness 19 = .ok (.getfield 11, 3) := by decide +kernel
theorem d_E_sumUpStiffness_22 : decode c_E_sumUpStiffness 22 = .ok (.iload_n 2, 1) := by decide +kernel
theorem d_E_sumUpStiffness_23 : decode c_E_sumUpStiffness 23 = .ok (.aaload, 1) := by decide +kernel
theorem d_E_sumUpStiffness_24 : decode c_E_sumUpStiffness 24 = .ok (.iload_n 2, 1) := by decide +kernel
theorem d_E_sumUpStiffness_25 : decode c_E_sumUpStiffness 25 = .ok (.aload_n 1, 1) := by decide +kernel
theorem d_E_sumUpStiffness_26 : decode c_E_sumUpStiffness 26 = .ok (.getfield 55, 3) := by decide +kernel
theorem d_E_sumUpStiffness_29 : decode c_E_sumUpStiffness 29 = .ok (.iload_n 2, 1) := by decide +kernel
theorem d_E_sumUpStiffness_30 : decode c_E_sumUpStiffness 30 = .ok (.iaload, 1) := by decide +kernel
theorem d_E_sumUpStiffness_31 : decode c_E_sumUpStiffness 31 = .ok (.i2l, 1) := by decide +kernel
theorem d_E_sumUpStiffness_32 : decode c_E_sumUpStiffness 32 = .ok (.lastore, 1) := by decide +kernel
theorem d_E_sumUpStiffness_33 : decode c_E_sumUpStiffness 33 = .ok (.iinc 2 1, 3) := by decide +kernel
theorem d_E_sumUpStiffness_36 : decode c_E_sumUpStiffness 36 = .ok (.goto (-34), 3) := by decide +kernel
theorem d_E_sumUpStiffness_39 : decode c_E_sumUpStiffness 39 = .ok (.iconst 0, 1) := by decide +kernel
theorem d_E_sumUpStiffness_40 : decode c_E_sumUpStiffness 40 = .ok (.istore_n 2, 1) := by decide +kernel
theorem d_E_sumUpStiffness_41 : decode c_E_sumUpStiffness 41 = .ok (.iload_n 2, 1) := by decide +kernel
theorem d_E_sumUpStiffness_42 : decode c_E_sumUpStiffness 42 = .ok (.aload_n 1, 1) := by decide +kernel
theorem d_E_sumUpStiffness_43 : decode c_E_sumUpStiffness 43 = .ok (.getfield 60, 3) := by decide +kernel
theorem d_E_sumUpStiffness_46 : decode c_E_sumUpStiffness 46 = .ok (.if_icmp .ge 15, 3) := by decide +kernel
theorem d_E_sumUpStiffness_49 : decode c_E_sumUpStiffness 49 = .ok (.aload_n 0, 1) := by decide +kernel
theorem d_E_sumUpStiffness_50 : decode c_E_sumUpStiffness 50 = .ok (.aload_n 1, 1) := by decide +kernel
theorem d_E_sumUpStiffness_51 : decode c_E_sumUpStiffness 51 = .ok (.iload_n 2, 1) := by decide +kernel
theorem d_E_sumUpStiffness_52 : decode c_E_sumUpStiffness 52 = .ok (.invokevirtual 63, 3) := by decide +kernel
theorem d_E_sumUpStiffness_55 : decode c_E_sumUpStiffness 55 = .ok (.iinc 2 1, 3) := by decide +kernel
theorem d_E_sumUpStiffness_58 : decode c_E_sumUpStiffness 58 = .ok (.goto (-17), 3) := by decide +kernel
theorem d_E_sumUpStiffness_61 : decode c_E_sumUpStiffness 61 = .ok (.return_, 1) := by decide +kernel
theorem d_J_fillL_0 : decode c_J_fillL 0 = .ok (.iconst 0, 1) := by decide +kernel
theorem d_J_fillL_1 : decode c_J_fillL 1 = .ok (.istore_n 3, 1) := by decide +kernel
theorem d_J_fillL_2 : decode c_J_fillL 2 = .ok (.aload_n 0, 1) := by decide +kernel
theorem d_J_fillL_3 : decode c_J_fillL 3 = .ok (.arraylength, 1) := by decide +kernel
theorem d_J_fillL_4 : decode c_J_fillL 4 = .ok (.istore 4, 2) := by decide +kernel
theorem d_J_fillL_6 : decode c_J_fillL 6 = .ok (.iload_n 3, 1) := by decide +kernel
theorem d_J_fillL_7 : decode c_J_fillL 7 = .ok (.iload 4, 2) := by decide +kernel
theorem d_J_fillL_9 : decode c_J_fillL 9 = .ok (.if_icmp .ge 13, 3) := by decide +kernel
theorem d_J_fillL_12 : decode c_J_fillL 12 = .ok (.aload_n 0, 1) := by decide +kernel
theorem d_J_fillL_13 : decode c_J_fillL 13 = .ok (.iload_n 3, 1) := by decide +kernel
theorem d_J_fillL_14 : decode c_J_fillL 14 = .ok (.lload_n 1, 1) := by decide +kernel
theorem d_J_fillL_15 : decode c_J_fillL 15 = .ok (.lastore, 1) := by decide +kernel
theorem d_J_fillL_16 : decode c_J_fillL 16 = .ok (.iinc 3 1, 3) := by decide +kernel
theorem d_J_fillL_19 : decode c_J_fillL 19 = .ok (.goto (-13), 3) := by decide +kernel
theorem d_J_fillL_22 : decode c_J_fillL 22 = .ok (.return_, 1) := by decide +kernel
theorem d_E_addStiffnessOfBar_0 : decode c_E_addStiffnessOfBar 0 = .ok (.iconst 0, 1) := by decide +kernel
theorem d_E_addStiffnessOfBar_1 : decode c_E_addStiffnessOfBar 1 = .ok (.istore_n 3, 1) := by decide +kernel
theorem d_E_addStiffnessOfBar_2 : decode c_E_addStiffnessOfBar 2 = .ok (.iload_n 3, 1) := by decide +kernel
theorem d_E_addStiffnessOfBar_3 : decode c_E_addStiffnessOfBar 3 = .ok (.bipush 10, 2) := by decide +kernel
theorem d_E_addStiffnessOfBar_5 : decode c_E_addStiffnessOfBar 5 = .ok (.if_icmp .ge 68, 3) := by decide +kernel
theorem d_E_addStiffnessOfBar_8 : decode c_E_addStiffnessOfBar 8 = .ok (.aload_n 1, 1) := by decide +kernel
theorem d_E_addStiffnessOfBar_9 : decode c_E_addStiffnessOfBar 9 = .ok (.getfield 67, 3) := by decide +kernel
theorem d_E_addStiffnessOfBar_12 : decode c_E_addStiffnessOfBar 12 = .ok (.iload_n 2, 1) := by decide +kernel
theorem d_E_addStiffnessOfBar_13 : decode c_E_addStiffnessOfBar 13 = .ok (.iaload, 1) := by decide +kernel
theorem d_E_addStiffnessOfBar_14 : decode c_E_addStiffnessOfBar 14 = .ok (.aload_n 1, 1) := by decide +kernel
theorem d_E_addStiffnessOfBar_15 : decode c_E_addStiffnessOfBar 15 = .ok (.iload_n 2, 1) := by decide +kernel
theorem d_E_addStiffnessOfBar_16 : decode c_E_addStiffnessOfBar 16 = .ok (.iload_n 3, 1) := by decide +kernel
theorem d_E_addStiffnessOfBar_17 : decode c_E_addStiffnessOfBar 17 = .ok (.invokevirtual 70, 3) := by decide +kernel
theorem d_E_addStiffnessOfBar_20 : decode c_E_addStiffnessOfBar 20 = .ok (.imul, 1) := by decide +kernel
theorem d_E_addStiffnessOfBar_21 : decode c_E_addStiffnessOfBar 21 = .ok (.istore 4, 2) := by decide +kernel
theorem d_E_addStiffnessOfBar_23 : decode c_E_addStiffnessOfBar 23 = .ok (.iload 4, 2) := by decide +kernel
theorem d_E_addStiffnessOfBar_25 : decode c_E_addStiffnessOfBar 25 = .ok (.ifCond .eq 42, 3) := by decide +kernel
theorem d_E_addStiffnessOfBar_28 : decode c_E_addStiffnessOfBar 28 = .ok (.iconst 0, 1) := by decide +kernel
theorem d_E_addStiffnessOfBar_29 : decode c_E_addStiffnessOfBar 29 = .ok (.istore 5, 2) := by decide +kernel
theorem d_E_addStiffnessOfBar_31 : decode c_E_addStiffnessOfBar 31 = .ok (.iload 5, 2) := by decide +kernel
theorem d_E_addStiffnessOfBar_33 : decode c_E_addStiffnessOfBar 33 = .ok (.bipush 10, 2) := by decide +kernel
theorem d_E_addStiffnessOfBar_35 : decode c_E_addStiffnessOfBar 35 = .ok (.if_icmp .ge 32, 3) := by decide +kernel
theorem d_E_addStiffnessOfBar_38 : decode c_E_addStiffnessOfBar 38 = .ok (.aload_n 0, 1) := by decide +kernel
theorem d_E_addStiffnessOfBar_39 : decode c_E_addStiffnessOfBar 39 = .ok (.getfield 11, 3) := by decide +kernel
theorem d_E_addStiffnessOfBar_42 : decode c_E_addStiffnessOfBar 42 = .ok (.iload_n 3, 1) := by decide +kernel
theorem d_E_addStiffnessOfBar_43 : decode c_E_addStiffnessOfBar 43 = .ok (.aaload, 1) := by decide +kernel
theorem d_E_addStiffnessOfBar_44 : decode c_E_addStiffnessOfBar 44 = .ok (.iload 5, 2) := by decide +kernel
theorem d_E_addStiffnessOfBar_46 : decode c_E_addStiffnessOfBar 46 = .ok (.dup2, 1) := by decide +kernel
theorem d_E_addStiffnessOfBar_47 : decode c_E_addStiffnessOfBar 47 = .ok (.laload, 1) := by decide +kernel
theorem d_E_addStiffnessOfBar_48 : decode c_E_addStiffnessOfBar 48 = .ok (.iload 4, 2) := by decide +kernel
theorem d_E_addStiffnessOfBar_50 : decode c_E_addStiffnessOfBar 50 = .ok (.aload_n 1, 1) := by decide +kernel
theorem d_E_addStiffnessOfBar_51 : decode c_E_addStiffnessOfBar 51 = .ok (.iload_n 2, 1) := by decide +kernel
theorem d_E_addStiffnessOfBar_52 : decode c_E_addStiffnessOfBar 52 = .ok (.iload 5, 2) := by decide +kernel
theorem d_E_addStiffnessOfBar_54 : decode c_E_addStiffnessOfBar 54 = .ok (.invokevirtual 70, 3) := by decide +kernel
theorem d_E_addStiffnessOfBar_57 : decode c_E_addStiffnessOfBar 57 = .ok (.imul, 1) := by decide +kernel
theorem d_E_addStiffnessOfBar_58 : decode c_E_addStiffnessOfBar 58 = .ok (.i2l, 1) := by decide +kernel
theorem d_E_addStiffnessOfBar_59 : decode c_E_addStiffnessOfBar 59 = .ok (.ladd, 1) := by decide +kernel
theorem d_E_addStiffnessOfBar_60 : decode c_E_addStiffnessOfBar 60 = .ok (.lastore, 1) := by decide +kernel
theorem d_E_addStiffnessOfBar_61 : decode c_E_addStiffnessOfBar 61 = .ok (.iinc 5 1, 3) := by decide +kernel
theorem d_E_addStiffnessOfBar_64 : decode c_E_addStiffnessOfBar 64 = .ok (.goto (-33), 3) := by decide +kernel
theorem d_E_addStiffnessOfBar_67 : decode c_E_addStiffnessOfBar 67 = .ok (.iinc 3 1, 3) := by decide +kernel
theorem d_E_addStiffnessOfBar_70 : decode c_E_addStiffnessOfBar 70 = .ok (.goto (-68), 3) := by decide +kernel
theorem d_E_addStiffnessOfBar_73 : decode c_E_addStiffnessOfBar 73 = .ok (.return_, 1) := by decide +kernel
theorem d_T_stretchBy_0 : decode c_T_stretchBy 0 = .ok (.iload_n 2, 1) := by decide +kernel
theorem d_T_stretchBy_1 : decode c_T_stretchBy 1 = .ok (.iconst 2, 1) := by decide +kernel
theorem d_T_stretchBy_2 : decode c_T_stretchBy 2 = .ok (.idiv, 1) := by decide +kernel
theorem d_T_stretchBy_3 : decode c_T_stretchBy 3 = .ok (.istore_n 3, 1) := by decide +kernel
theorem d_T_stretchBy_4 : decode c_T_stretchBy 4 = .ok (.aload_n 0, 1) := by decide +kernel
theorem d_T_stretchBy_5 : decode c_T_stretchBy 5 = .ok (.iload_n 1, 1) := by decide +kernel
theorem d_T_stretchBy_6 : decode c_T_stretchBy 6 = .ok (.iload_n 2, 1) := by decide +kernel
theorem d_T_stretchBy_7 : decode c_T_stretchBy 7 = .ok (.iconst 2, 1) := by decide +kernel
theorem d_T_stretchBy_8 : decode c_T_stretchBy 8 = .ok (.irem, 1) := by decide +kernel
theorem d_T_stretchBy_9 : decode c_T_stretchBy 9 = .ok (.invokevirtual 63, 3) := by decide +kernel
theorem d_T_stretchBy_12 : decode c_T_stretchBy 12 = .ok (.invokestatic 71, 3) := by decide +kernel
theorem d_T_stretchBy_15 : decode c_T_stretchBy 15 = .ok (.istore 4, 2) := by decide +kernel
theorem d_T_stretchBy_17 : decode c_T_stretchBy 17 = .ok (.iload_n 3, 1) := by decide +kernel
theorem d_T_stretchBy_18 : decode c_T_stretchBy 18 = .ok (.aload_n 0, 1) := by decide +kernel
theorem d_T_stretchBy_19 : decode c_T_stretchBy 19 = .ok (.getfield 22, 3) := by decide +kernel
theorem d_T_stretchBy_22 : decode c_T_stretchBy 22 = .ok (.iload_n 1, 1) := by decide +kernel
theorem d_T_stretchBy_23 : decode c_T_stretchBy 23 = .ok (.iaload, 1) := by decide +kernel
theorem d_T_stretchBy_24 : decode c_T_stretchBy 24 = .ok (.if_icmp .ne 6, 3) := by decide +kernel
theorem d_T_stretchBy_27 : decode c_T_stretchBy 27 = .ok (.iload 4, 2) := by decide +kernel
theorem d_T_stretchBy_29 : decode c_T_stretchBy 29 = .ok (.ireturn, 1) := by decide +kernel
theorem d_T_stretchBy_30 : decode c_T_stretchBy 30 = .ok (.iload_n 3, 1) := by decide +kernel
theorem d_T_stretchBy_31 : decode c_T_stretchBy 31 = .ok (.aload_n 0, 1) := by decide +kernel
theorem d_T_stretchBy_32 : decode c_T_stretchBy 32 = .ok (.getfield 19, 3) := by decide +kernel
theorem d_T_stretchBy_35 : decode c_T_stretchBy 35 = .ok (.iload_n 1, 1) := by decide +kernel
theorem d_T_stretchBy_36 : decode c_T_stretchBy 36 = .ok (.iaload, 1) := by decide +kernel
theorem d_T_stretchBy_37 : decode c_T_stretchBy 37 = .ok (.if_icmp .ne 9, 3) := by decide +kernel
theorem d_T_stretchBy_40 : decode c_T_stretchBy 40 = .ok (.iload 4, 2) := by decide +kernel
theorem d_T_stretchBy_42 : decode c_T_stretchBy 42 = .ok (.ineg, 1) := by decide +kernel
theorem d_T_stretchBy_43 : decode c_T_stretchBy 43 = .ok (.goto 4, 3) := by decide +kernel
theorem d_T_stretchBy_46 : decode c_T_stretchBy 46 = .ok (.iconst 0, 1) := by decide +kernel
theorem d_T_stretchBy_47 : decode c_T_stretchBy 47 = .ok (.ireturn, 1) := by decide +kernel
theorem d_T_signOf_0 : decode c_T_signOf 0 = .ok (.iload_n 0, 1) := by decide +kernel
theorem d_T_signOf_1 : decode c_T_signOf 1 = .ok (.ifCond .ne 5, 3) := by decide +kernel
theorem d_T_signOf_4 : decode c_T_signOf 4 = .ok (.iconst 0, 1) := by decide +kernel
theorem d_T_signOf_5 : decode c_T_signOf 5 = .ok (.ireturn, 1) := by decide +kernel
theorem d_T_signOf_6 : decode c_T_signOf 6 = .ok (.iload_n 0, 1) := by decide +kernel
theorem d_T_signOf_7 : decode c_T_signOf 7 = .ok (.ifCond .le 7, 3) := by decide +kernel
theorem d_T_signOf_10 : decode c_T_signOf 10 = .ok (.iconst 1, 1) := by decide +kernel
theorem d_T_signOf_11 : decode c_T_signOf 11 = .ok (.goto 4, 3) := by decide +kernel
theorem d_T_signOf_14 : decode c_T_signOf 14 = .ok (.iconst (-1), 1) := by decide +kernel
theorem d_T_signOf_15 : decode c_T_signOf 15 = .ok (.ireturn, 1) := by decide +kernel
theorem d_E_findWeakUnknown_0 : decode c_E_findWeakUnknown 0 = .ok (.aload_n 0, 1) := by decide +kernel
theorem d_E_findWeakUnknown_1 : decode c_E_findWeakUnknown 1 = .ok (.getfield 23, 3) := by decide +kernel
theorem d_E_findWeakUnknown_4 : decode c_E_findWeakUnknown 4 = .ok (.iconst 0, 1) := by decide +kernel
theorem d_E_findWeakUnknown_5 : decode c_E_findWeakUnknown 5 = .ok (.lconst 1, 1) := by decide +kernel
theorem d_E_findWeakUnknown_6 : decode c_E_findWeakUnknown 6 = .ok (.lastore, 1) := by decide +kernel
theorem d_E_findWeakUnknown_7 : decode c_E_findWeakUnknown 7 = .ok (.iconst 0, 1) := by decide +kernel
theorem d_E_findWeakUnknown_8 : decode c_E_findWeakUnknown 8 = .ok (.istore_n 1, 1) := by decide +kernel
theorem d_E_findWeakUnknown_9 : decode c_E_findWeakUnknown 9 = .ok (.iload_n 1, 1) := by decide +kernel
theorem d_E_findWeakUnknown_10 : decode c_E_findWeakUnknown 10 = .ok (.aload_n 0, 1) := by decide +kernel
theorem d_E_findWeakUnknown_11 : decode c_E_findWeakUnknown 11 = .ok (.getfield 19, 3) := by decide +kernel
theorem d_E_findWeakUnknown_14 : decode c_E_findWeakUnknown 14 = .ok (.if_icmp .ge 29, 3) := by decide +kernel
theorem d_E_findWeakUnknown_17 : decode c_E_findWeakUnknown 17 = .ok (.aload_n 0, 1) := by decide +kernel
theorem d_E_findWeakUnknown_18 : decode c_E_findWeakUnknown 18 = .ok (.iload_n 1, 1) := by decide +kernel
theorem d_E_findWeakUnknown_19 : decode c_E_findWeakUnknown 19 = .ok (.invokevirtual 74, 3) := by decide +kernel
theorem d_E_findWeakUnknown_22 : decode c_E_findWeakUnknown 22 = .ok (.aload_n 0, 1) := by decide +kernel
theorem d_E_findWeakUnknown_23 : decode c_E_findWeakUnknown 23 = .ok (.getfield 23, 3) := by decide +kernel
theorem d_E_findWeakUnknown_26 : decode c_E_findWeakUnknown 26 = .ok (.iload_n 1, 1) := by decide +kernel
theorem d_E_findWeakUnknown_27 : decode c_E_findWeakUnknown 27 = .ok (.iconst 1, 1) := by decide +kernel
theorem d_E_findWeakUnknown_28 : decode c_E_findWeakUnknown 28 = .ok (.iadd, 1) := by decide +kernel
theorem d_E_findWeakUnknown_29 : decode c_E_findWeakUnknown 29 = .ok (.laload, 1) := by decide +kernel
theorem d_E_findWeakUnknown_30 : decode c_E_findWeakUnknown 30 = .ok (.lconst 0, 1) := by decide +kernel
theorem d_E_findWeakUnknown_31 : decode c_E_findWeakUnknown 31 = .ok (.lcmp, 1) := by decide +kernel
theorem d_E_findWeakUnknown_32 : decode c_E_findWeakUnknown 32 = .ok (.ifCond .ne 5, 3) := by decide +kernel
theorem d_E_findWeakUnknown_35 : decode c_E_findWeakUnknown 35 = .ok (.iload_n 1, 1) := by decide +kernel
theorem d_E_findWeakUnknown_36 : decode c_E_findWeakUnknown 36 = .ok (.ireturn, 1) := by decide +kernel
theorem d_E_findWeakUnknown_37 : decode c_E_findWeakUnknown 37 = .ok (.iinc 1 1, 3) := by decide +kernel
theorem d_E_findWeakUnknown_40 : decode c_E_findWeakUnknown 40 = .ok (.goto (-31), 3) := by decide +kernel
theorem d_E_findWeakUnknown_43 : decode c_E_findWeakUnknown 43 = .ok (.iconst (-1), 1) := by decide +kernel
theorem d_E_findWeakUnknown_44 : decode c_E_findWeakUnknown 44 = .ok (.ireturn, 1) := by decide +kernel
theorem d_E_growPolynomial_0 : decode c_E_growPolynomial 0 = .ok (.aload_n 0, 1) := by decide +kernel
theorem d_E_growPolynomial_1 : decode c_E_growPolynomial 1 = .ok (.iload_n 1, 1) := by decide +kernel
theorem d_E_growPolynomial_2 : decode c_E_growPolynomial 2 = .ok (.invokevirtual 78, 3) := by decide +kernel
theorem d_E_growPolynomial_5 : decode c_E_growPolynomial 5 = .ok (.aload_n 0, 1) := by decide +kernel
theorem d_E_growPolynomial_6 : decode c_E_growPolynomial 6 = .ok (.getfield 23, 3) := by decide +kernel
theorem d_E_growPolynomial_9 : decode c_E_growPolynomial 9 = .ok (.iload_n 1, 1) := by decide +kernel
theorem d_E_growPolynomial_10 : decode c_E_growPolynomial 10 = .ok (.iconst 1, 1) := by decide +kernel
theorem d_E_growPolynomial_11 : decode c_E_growPolynomial 11 = .ok (.iadd, 1) := by decide +kernel
theorem d_E_growPolynomial_12 : decode c_E_growPolynomial 12 = .ok (.lconst 0, 1) := by decide +kernel
theorem d_E_growPolynomial_13 : decode c_E_growPolynomial 13 = .ok (.lastore, 1) := by decide +kernel
theorem d_E_growPolynomial_14 : decode c_E_growPolynomial 14 = .ok (.iload_n 1, 1) := by decide +kernel
theorem d_E_growPolynomial_15 : decode c_E_growPolynomial 15 = .ok (.iconst 1, 1) := by decide +kernel
theorem d_E_growPolynomial_16 : decode c_E_growPolynomial 16 = .ok (.iadd, 1) := by decide +kernel
theorem d_E_growPolynomial_17 : decode c_E_growPolynomial 17 = .ok (.istore_n 2, 1) := by decide +kernel
theorem d_E_growPolynomial_18 : decode c_E_growPolynomial 18 = .ok (.iload_n 2, 1) := by decide +kernel
theorem d_E_growPolynomial_19 : decode c_E_growPolynomial 19 = .ok (.ifCond .lt 53, 3) := by decide +kernel
theorem d_E_growPolynomial_22 : decode c_E_growPolynomial 22 = .ok (.lconst 0, 1) := by decide +kernel
theorem d_E_growPolynomial_23 : decode c_E_growPolynomial 23 = .ok (.lstore_n 3, 1) := by decide +kernel
theorem d_E_growPolynomial_24 : decode c_E_growPolynomial 24 = .ok (.iconst 0, 1) := by decide +kernel
theorem d_E_growPolynomial_25 : decode c_E_growPolynomial 25 = .ok (.istore 5, 2) := by decide +kernel
theorem d_E_growPolynomial_27 : decode c_E_growPolynomial 27 = .ok (.iload 5, 2) := by decide +kernel
theorem d_E_growPolynomial_29 : decode c_E_growPolynomial 29 = .ok (.iload_n 2, 1) := by decide +kernel
theorem d_E_growPolynomial_30 : decode c_E_growPolynomial 30 = .ok (.if_icmp .gt 29, 3) := by decide +kernel
theorem d_E_growPolynomial_33 : decode c_E_growPolynomial 33 = .ok (.lload_n 3, 1) := by decide +kernel
theorem d_E_growPolynomial_34 : decode c_E_growPolynomial 34 = .ok (.aload_n 0, 1) := by decide +kernel
theorem d_E_growPolynomial_35 : decode c_E_growPolynomial 35 = .ok (.getfield 27, 3) := by decide +kernel
theorem d_E_growPolynomial_38 : decode c_E_growPolynomial 38 = .ok (.iload 5, 2) := by decide +kernel
theorem d_E_growPolynomial_40 : decode c_E_growPolynomial 40 = .ok (.laload, 1) := by decide +kernel
theorem d_E_growPolynomial_41 : decode c_E_growPolynomial 41 = .ok (.aload_n 0, 1) := by decide +kernel
theorem d_E_growPolynomial_42 : decode c_E_growPolynomial 42 = .ok (.getfield 23, 3) := by decide +kernel
theorem d_E_growPolynomial_45 : decode c_E_growPolynomial 45 = .ok (.iload_n 2, 1) := by decide +kernel
theorem d_E_growPolynomial_46 : decode c_E_growPolynomial 46 = .ok (.iload 5, 2) := by decide +kernel
theorem d_E_growPolynomial_48 : decode c_E_growPolynomial 48 = .ok (.isub, 1) := by decide +kernel
theorem d_E_growPolynomial_49 : decode c_E_growPolynomial 49 = .ok (.laload, 1) := by decide +kernel
theorem d_E_growPolynomial_50 : decode c_E_growPolynomial 50 = .ok (.lmul, 1) := by decide +kernel
theorem d_E_growPolynomial_51 : decode c_E_growPolynomial 51 = .ok (.ladd, 1) := by decide +kernel
theorem d_E_growPolynomial_52 : decode c_E_growPolynomial 52 = .ok (.lstore_n 3, 1) := by decide +kernel
theorem d_E_growPolynomial_53 : decode c_E_growPolynomial 53 = .ok (.iinc 5 1, 3) := by decide +kernel
theorem d_E_growPolynomial_56 : decode c_E_growPolynomial 56 = .ok (.goto (-29), 3) := by decide +kernel
theorem d_E_growPolynomial_59 : decode c_E_growPolynomial 59 = .ok (.aload_n 0, 1) := by decide +kernel
theorem d_E_growPolynomial_60 : decode c_E_growPolynomial 60 = .ok (.getfield 23, 3) := by decide +kernel
theorem d_E_growPolynomial_63 : decode c_E_growPolynomial 63 = .ok (.iload_n 2, 1) := by decide +kernel
theorem d_E_growPolynomial_64 : decode c_E_growPolynomial 64 = .ok (.lload_n 3, 1) := by decide +kernel
theorem d_E_growPolynomial_65 : decode c_E_growPolynomial 65 = .ok (.lastore, 1) := by decide +kernel
theorem d_E_growPolynomial_66 : decode c_E_growPolynomial 66 = .ok (.iinc 2 (-1), 3) := by decide +kernel
theorem d_E_growPolynomial_69 : decode c_E_growPolynomial 69 = .ok (.goto (-51), 3) := by decide +kernel
theorem d_E_growPolynomial_72 : decode c_E_growPolynomial 72 = .ok (.return_, 1) := by decide +kernel
theorem d_E_findGrowth_0 : decode c_E_findGrowth 0 = .ok (.aload_n 0, 1) := by decide +kernel
theorem d_E_findGrowth_1 : decode c_E_findGrowth 1 = .ok (.getfield 27, 3) := by decide +kernel
theorem d_E_findGrowth_4 : decode c_E_findGrowth 4 = .ok (.iconst 0, 1) := by decide +kernel
theorem d_E_findGrowth_5 : decode c_E_findGrowth 5 = .ok (.lconst 1, 1) := by decide +kernel
theorem d_E_findGrowth_6 : decode c_E_findGrowth 6 = .ok (.lastore, 1) := by decide +kernel
theorem d_E_findGrowth_7 : decode c_E_findGrowth 7 = .ok (.aload_n 0, 1) := by decide +kernel
theorem d_E_findGrowth_8 : decode c_E_findGrowth 8 = .ok (.getfield 27, 3) := by decide +kernel
theorem d_E_findGrowth_11 : decode c_E_findGrowth 11 = .ok (.iconst 1, 1) := by decide +kernel
theorem d_E_findGrowth_12 : decode c_E_findGrowth 12 = .ok (.aload_n 0, 1) := by decide +kernel
theorem d_E_findGrowth_13 : decode c_E_findGrowth 13 = .ok (.getfield 16, 3) := by decide +kernel
theorem d_E_findGrowth_16 : decode c_E_findGrowth 16 = .ok (.iload_n 1, 1) := by decide +kernel
theorem d_E_findGrowth_17 : decode c_E_findGrowth 17 = .ok (.aaload, 1) := by decide +kernel
theorem d_E_findGrowth_18 : decode c_E_findGrowth 18 = .ok (.iload_n 1, 1) := by decide +kernel
theorem d_E_findGrowth_19 : decode c_E_findGrowth 19 = .ok (.laload, 1) := by decide +kernel
theorem d_E_findGrowth_20 : decode c_E_findGrowth 20 = .ok (.lneg, 1) := by decide +kernel
theorem d_E_findGrowth_21 : decode c_E_findGrowth 21 = .ok (.lastore, 1) := by decide +kernel
theorem d_E_findGrowth_22 : decode c_E_findGrowth 22 = .ok (.iconst 0, 1) := by decide +kernel
theorem d_E_findGrowth_23 : decode c_E_findGrowth 23 = .ok (.istore_n 2, 1) := by decide +kernel
theorem d_E_findGrowth_24 : decode c_E_findGrowth 24 = .ok (.iload_n 2, 1) := by decide +kernel
theorem d_E_findGrowth_25 : decode c_E_findGrowth 25 = .ok (.iload_n 1, 1) := by decide +kernel
theorem d_E_findGrowth_26 : decode c_E_findGrowth 26 = .ok (.if_icmp .ge 23, 3) := by decide +kernel
theorem d_E_findGrowth_29 : decode c_E_findGrowth 29 = .ok (.aload_n 0, 1) := by decide +kernel
theorem d_E_findGrowth_30 : decode c_E_findGrowth 30 = .ok (.getfield 30, 3) := by decide +kernel
theorem d_E_findGrowth_33 : decode c_E_findGrowth 33 = .ok (.iload_n 2, 1) := by decide +kernel
theorem d_E_findGrowth_34 : decode c_E_findGrowth 34 = .ok (.aload_n 0, 1) := by decide +kernel
theorem d_E_findGrowth_35 : decode c_E_findGrowth 35 = .ok (.getfield 16, 3) := by decide +kernel
theorem d_E_findGrowth_38 : decode c_E_findGrowth 38 = .ok (.iload_n 2, 1) := by decide +kernel
theorem d_E_findGrowth_39 : decode c_E_findGrowth 39 = .ok (.aaload, 1) := by decide +kernel
theorem d_E_findGrowth_40 : decode c_E_findGrowth 40 = .ok (.iload_n 1, 1) := by decide +kernel
theorem d_E_findGrowth_41 : decode c_E_findGrowth 41 = .ok (.laload, 1) := by decide +kernel
theorem d_E_findGrowth_42 : decode c_E_findGrowth 42 = .ok (.lastore, 1) := by decide +kernel
theorem d_E_findGrowth_43 : decode c_E_findGrowth 43 = .ok (.iinc 2 1, 3) := by decide +kernel
theorem d_E_findGrowth_46 : decode c_E_findGrowth 46 = .ok (.goto (-22), 3) := by decide +kernel
theorem d_E_findGrowth_49 : decode c_E_findGrowth 49 = .ok (.iconst 2, 1) := by decide +kernel
theorem d_E_findGrowth_50 : decode c_E_findGrowth 50 = .ok (.istore_n 2, 1) := by decide +kernel
theorem d_E_findGrowth_51 : decode c_E_findGrowth 51 = .ok (.iload_n 2, 1) := by decide +kernel
theorem d_E_findGrowth_52 : decode c_E_findGrowth 52 = .ok (.iload_n 1, 1) := by decide +kernel
theorem d_E_findGrowth_53 : decode c_E_findGrowth 53 = .ok (.iconst 1, 1) := by decide +kernel
theorem d_E_findGrowth_54 : decode c_E_findGrowth 54 = .ok (.iadd, 1) := by decide +kernel
theorem d_E_findGrowth_55 : decode c_E_findGrowth 55 = .ok (.if_icmp .gt 35, 3) := by decide +kernel
theorem d_E_findGrowth_58 : decode c_E_findGrowth 58 = .ok (.aload_n 0, 1) := by decide +kernel
theorem d_E_findGrowth_59 : decode c_E_findGrowth 59 = .ok (.getfield 27, 3) := by decide +kernel
theorem d_E_findGrowth_62 : decode c_E_findGrowth 62 = .ok (.iload_n 2, 1) := by decide +kernel
theorem d_E_findGrowth_63 : decode c_E_findGrowth 63 = .ok (.aload_n 0, 1) := by decide +kernel
theorem d_E_findGrowth_64 : decode c_E_findGrowth 64 = .ok (.iload_n 1, 1) := by decide +kernel
theorem d_E_findGrowth_65 : decode c_E_findGrowth 65 = .ok (.aload_n 0, 1) := by decide +kernel
theorem d_E_findGrowth_66 : decode c_E_findGrowth 66 = .ok (.getfield 30, 3) := by decide +kernel
theorem d_E_findGrowth_69 : decode c_E_findGrowth 69 = .ok (.iload_n 1, 1) := by decide +kernel
theorem d_E_findGrowth_70 : decode c_E_findGrowth 70 = .ok (.invokevirtual 81, 3) := by decide +kernel
theorem d_E_findGrowth_73 : decode c_E_findGrowth 73 = .ok (.lneg, 1) := by decide +kernel
theorem d_E_findGrowth_74 : decode c_E_findGrowth 74 = .ok (.lastore, 1) := by decide +kernel
theorem d_E_findGrowth_75 : decode c_E_findGrowth 75 = .ok (.aload_n 0, 1) := by decide +kernel
theorem d_E_findGrowth_76 : decode c_E_findGrowth 76 = .ok (.aload_n 0, 1) := by decide +kernel
theorem d_E_findGrowth_77 : decode c_E_findGrowth 77 = .ok (.getfield 30, 3) := by decide +kernel
theorem d_E_findGrowth_80 : decode c_E_findGrowth 80 = .ok (.iload_n 1, 1) := by decide +kernel
theorem d_E_findGrowth_81 : decode c_E_findGrowth 81 = .ok (.invokevirtual 85, 3) := by decide +kernel
theorem d_E_findGrowth_84 : decode c_E_findGrowth 84 = .ok (.iinc 2 1, 3) := by decide +kernel
theorem d_E_findGrowth_87 : decode c_E_findGrowth 87 = .ok (.goto (-36), 3) := by decide +kernel
theorem d_E_findGrowth_90 : decode c_E_findGrowth 90 = .ok (.return_, 1) := by decide +kernel
theorem d_E_rowTimes_0 : decode c_E_rowTimes 0 = .ok (.lconst 0, 1) := by decide +kernel
theorem d_E_rowTimes_1 : decode c_E_rowTimes 1 = .ok (.lstore 4, 2) := by decide +kernel
theorem d_E_rowTimes_3 : decode c_E_rowTimes 3 = .ok (.iconst 0, 1) := by decide +kernel
theorem d_E_rowTimes_4 : decode c_E_rowTimes 4 = .ok (.istore 6, 2) := by decide +kernel
theorem d_E_rowTimes_6 : decode c_E_rowTimes 6 = .ok (.iload 6, 2) := by decide +kernel
theorem d_E_rowTimes_8 : decode c_E_rowTimes 8 = .ok (.iload_n 3, 1) := by decide +kernel
theorem d_E_rowTimes_9 : decode c_E_rowTimes 9 = .ok (.if_icmp .ge 28, 3) := by decide +kernel
theorem d_E_rowTimes_12 : decode c_E_rowTimes 12 = .ok (.lload 4, 2) := by decide +kernel
theorem d_E_rowTimes_14 : decode c_E_rowTimes 14 = .ok (.aload_n 0, 1) := by decide +kernel
theorem d_E_rowTimes_15 : decode c_E_rowTimes 15 = .ok (.getfield 16, 3) := by decide +kernel
theorem d_E_rowTimes_18 : decode c_E_rowTimes 18 = .ok (.iload_n 1, 1) := by decide +kernel
theorem d_E_rowTimes_19 : decode c_E_rowTimes 19 = .ok (.aaload, 1) := by decide +kernel
theorem d_E_rowTimes_20 : decode c_E_rowTimes 20 = .ok (.iload 6, 2) := by decide +kernel
theorem d_E_rowTimes_22 : decode c_E_rowTimes 22 = .ok (.laload, 1) := by decide +kernel
theorem d_E_rowTimes_23 : decode c_E_rowTimes 23 = .ok (.aload_n 2, 1) := by decide +kernel
theorem d_E_rowTimes_24 : decode c_E_rowTimes 24 = .ok (.iload 6, 2) := by decide +kernel
theorem d_E_rowTimes_26 : decode c_E_rowTimes 26 = .ok (.laload, 1) := by decide +kernel
theorem d_E_rowTimes_27 : decode c_E_rowTimes 27 = .ok (.lmul, 1) := by decide +kernel
theorem d_E_rowTimes_28 : decode c_E_rowTimes 28 = .ok (.ladd, 1) := by decide +kernel
theorem d_E_rowTimes_29 : decode c_E_rowTimes 29 = .ok (.lstore 4, 2) := by decide +kernel
theorem d_E_rowTimes_31 : decode c_E_rowTimes 31 = .ok (.iinc 6 1, 3) := by decide +kernel
theorem d_E_rowTimes_34 : decode c_E_rowTimes 34 = .ok (.goto (-28), 3) := by decide +kernel
theorem d_E_rowTimes_37 : decode c_E_rowTimes 37 = .ok (.lload 4, 2) := by decide +kernel
theorem d_E_rowTimes_39 : decode c_E_rowTimes 39 = .ok (.lreturn, 1) := by decide +kernel
theorem d_E_multiply_0 : decode c_E_multiply 0 = .ok (.iconst 0, 1) := by decide +kernel
theorem d_E_multiply_1 : decode c_E_multiply 1 = .ok (.istore_n 3, 1) := by decide +kernel
theorem d_E_multiply_2 : decode c_E_multiply 2 = .ok (.iload_n 3, 1) := by decide +kernel
theorem d_E_multiply_3 : decode c_E_multiply 3 = .ok (.iload_n 2, 1) := by decide +kernel
theorem d_E_multiply_4 : decode c_E_multiply 4 = .ok (.if_icmp .ge 22, 3) := by decide +kernel
theorem d_E_multiply_7 : decode c_E_multiply 7 = .ok (.aload_n 0, 1) := by decide +kernel
theorem d_E_multiply_8 : decode c_E_multiply 8 = .ok (.getfield 33, 3) := by decide +kernel
theorem d_E_multiply_11 : decode c_E_multiply 11 = .ok (.iload_n 3, 1) := by decide +kernel
theorem d_E_multiply_12 : decode c_E_multiply 12 = .ok (.aload_n 0, 1) := by decide +kernel
theorem d_E_multiply_13 : decode c_E_multiply 13 = .ok (.iload_n 3, 1) := by decide +kernel
theorem d_E_multiply_14 : decode c_E_multiply 14 = .ok (.aload_n 1, 1) := by decide +kernel
theorem d_E_multiply_15 : decode c_E_multiply 15 = .ok (.iload_n 2, 1) := by decide +kernel
theorem d_E_multiply_16 : decode c_E_multiply 16 = .ok (.invokevirtual 81, 3) := by decide +kernel
theorem d_E_multiply_19 : decode c_E_multiply 19 = .ok (.lastore, 1) := by decide +kernel
theorem d_E_multiply_20 : decode c_E_multiply 20 = .ok (.iinc 3 1, 3) := by decide +kernel
theorem d_E_multiply_23 : decode c_E_multiply 23 = .ok (.goto (-21), 3) := by decide +kernel
theorem d_E_multiply_26 : decode c_E_multiply 26 = .ok (.aload_n 0, 1) := by decide +kernel
theorem d_E_multiply_27 : decode c_E_multiply 27 = .ok (.getfield 33, 3) := by decide +kernel
theorem d_E_multiply_30 : decode c_E_multiply 30 = .ok (.iconst 0, 1) := by decide +kernel
theorem d_E_multiply_31 : decode c_E_multiply 31 = .ok (.aload_n 1, 1) := by decide +kernel
theorem d_E_multiply_32 : decode c_E_multiply 32 = .ok (.iconst 0, 1) := by decide +kernel
theorem d_E_multiply_33 : decode c_E_multiply 33 = .ok (.iload_n 2, 1) := by decide +kernel
theorem d_E_multiply_34 : decode c_E_multiply 34 = .ok (.invokestatic 89, 3) := by decide +kernel
theorem d_E_multiply_37 : decode c_E_multiply 37 = .ok (.return_, 1) := by decide +kernel
theorem d_S_open_0 : decode c_S_open 0 = .ok (.aload_n 0, 1) := by decide +kernel
theorem d_S_open_1 : decode c_S_open 1 = .ok (.getfield 37, 3) := by decide +kernel
theorem d_S_open_4 : decode c_S_open 4 = .ok (.ifCond .ne 5, 3) := by decide +kernel
theorem d_S_open_7 : decode c_S_open 7 = .ok (.iconst (-1), 1) := by decide +kernel
theorem d_S_open_8 : decode c_S_open 8 = .ok (.ireturn, 1) := by decide +kernel
theorem d_S_open_9 : decode c_S_open 9 = .ok (.aload_n 0, 1) := by decide +kernel
theorem d_S_open_10 : decode c_S_open 10 = .ok (.iconst 0, 1) := by decide +kernel
theorem d_S_open_11 : decode c_S_open 11 = .ok (.putfield 37, 3) := by decide +kernel
theorem d_S_open_14 : decode c_S_open 14 = .ok (.iconst 0, 1) := by decide +kernel
theorem d_S_open_15 : decode c_S_open 15 = .ok (.ireturn, 1) := by decide +kernel
theorem d_S_displacement_0 : decode c_S_displacement 0 = .ok (.iload_n 1, 1) := by decide +kernel
theorem d_S_displacement_1 : decode c_S_displacement 1 = .ok (.invokestatic 89, 3) := by decide +kernel
theorem d_S_displacement_4 : decode c_S_displacement 4 = .ok (.ifCond .eq 14, 3) := by decide +kernel
theorem d_S_displacement_7 : decode c_S_displacement 7 = .ok (.aload_n 0, 1) := by decide +kernel
theorem d_S_displacement_8 : decode c_S_displacement 8 = .ok (.iload_n 2, 1) := by decide +kernel
theorem d_S_displacement_9 : decode c_S_displacement 9 = .ok (.iload_n 3, 1) := by decide +kernel
theorem d_S_displacement_10 : decode c_S_displacement 10 = .ok (.iload 4, 2) := by decide +kernel
theorem d_S_displacement_12 : decode c_S_displacement 12 = .ok (.invokevirtual 116, 3) := by decide +kernel
theorem d_S_displacement_15 : decode c_S_displacement 15 = .ok (.ifCond .ne 7, 3) := by decide +kernel
theorem d_S_displacement_18 : decode c_S_displacement 18 = .ok (.ldc2_w 119, 3) := by decide +kernel
theorem d_S_displacement_21 : decode c_S_displacement 21 = .ok (.lreturn, 1) := by decide +kernel
theorem d_S_displacement_22 : decode c_S_displacement 22 = .ok (.aload_n 0, 1) := by decide +kernel
theorem d_S_displacement_23 : decode c_S_displacement 23 = .ok (.getfield 33, 3) := by decide +kernel
theorem d_S_displacement_26 : decode c_S_displacement 26 = .ok (.iload_n 1, 1) := by decide +kernel
theorem d_S_displacement_27 : decode c_S_displacement 27 = .ok (.invokevirtual 121, 3) := by decide +kernel
theorem d_S_displacement_30 : decode c_S_displacement 30 = .ok (.aload_n 0, 1) := by decide +kernel
theorem d_S_displacement_31 : decode c_S_displacement 31 = .ok (.getfield 33, 3) := by decide +kernel
theorem d_S_displacement_34 : decode c_S_displacement 34 = .ok (.aload_n 0, 1) := by decide +kernel
theorem d_S_displacement_35 : decode c_S_displacement 35 = .ok (.getfield 12, 3) := by decide +kernel
theorem d_S_displacement_38 : decode c_S_displacement 38 = .ok (.aload_n 0, 1) := by decide +kernel
theorem d_S_displacement_39 : decode c_S_displacement 39 = .ok (.getfield 19, 3) := by decide +kernel
theorem d_S_displacement_42 : decode c_S_displacement 42 = .ok (.aload_n 0, 1) := by decide +kernel
theorem d_S_displacement_43 : decode c_S_displacement 43 = .ok (.getfield 26, 3) := by decide +kernel
theorem d_S_displacement_46 : decode c_S_displacement 46 = .ok (.invokevirtual 124, 3) := by decide +kernel
theorem d_S_displacement_49 : decode c_S_displacement 49 = .ok (.aload_n 0, 1) := by decide +kernel
theorem d_S_displacement_50 : decode c_S_displacement 50 = .ok (.aload_n 0, 1) := by decide +kernel
theorem d_S_displacement_51 : decode c_S_displacement 51 = .ok (.getfield 33, 3) := by decide +kernel
theorem d_S_displacement_54 : decode c_S_displacement 54 = .ok (.getfield 128, 3) := by decide +kernel
theorem d_S_displacement_57 : decode c_S_displacement 57 = .ok (.iload_n 2, 1) := by decide +kernel
theorem d_S_displacement_58 : decode c_S_displacement 58 = .ok (.iload_n 3, 1) := by decide +kernel
theorem d_S_displacement_59 : decode c_S_displacement 59 = .ok (.invokestatic 74, 3) := by decide +kernel
theorem d_S_displacement_62 : decode c_S_displacement 62 = .ok (.laload, 1) := by decide +kernel
theorem d_S_displacement_63 : decode c_S_displacement 63 = .ok (.iload 4, 2) := by decide +kernel
theorem d_S_displacement_65 : decode c_S_displacement 65 = .ok (.invokevirtual 132, 3) := by decide +kernel
theorem d_S_displacement_68 : decode c_S_displacement 68 = .ok (.lreturn, 1) := by decide +kernel
end
section
theorem d_S_isAnswerable_0 : decode c_S_isAnswerable 0 = .ok (.aload_n 0, 1) := by decide +kernel
theorem d_S_isAnswerable_1 : decode c_S_isAnswerable 1 = .ok (.getfield 37, 3) := by decide +kernel
theorem d_S_isAnswerable_4 : decode c_S_isAnswerable 4 = .ok (.ifCond .eq 29, 3) := by decide +kernel
theorem d_S_isAnswerable_7 : decode c_S_isAnswerable 7 = .ok (.aload_n 0, 1) := by decide +kernel
theorem d_S_isAnswerable_8 : decode c_S_isAnswerable 8 = .ok (.iload_n 1, 1) := by decide +kernel
theorem d_S_isAnswerable_9 : decode c_S_isAnswerable 9 = .ok (.invokevirtual 160, 3) := by decide +kernel
theorem d_S_isAnswerable_12 : decode c_S_isAnswerable 12 = .ok (.ifCond .eq 21, 3) := by decide +kernel
theorem d_S_isAnswerable_15 : decode c_S_isAnswerable 15 = .ok (.iload_n 2, 1) := by decide +kernel
theorem d_S_isAnswerable_16 : decode c_S_isAnswerable 16 = .ok (.invokestatic 71, 3) := by decide +kernel
theorem d_S_isAnswerable_19 : decode c_S_isAnswerable 19 = .ok (.ifCond .eq 14, 3) := by decide +kernel
theorem d_S_isAnswerable_22 : decode c_S_isAnswerable 22 = .ok (.iload_n 3, 1) := by decide +kernel
theorem d_S_isAnswerable_23 : decode c_S_isAnswerable 23 = .ok (.invokestatic 136, 3) := by decide +kernel
theorem d_S_isAnswerable_26 : decode c_S_isAnswerable 26 = .ok (.ifCond .eq 7, 3) := by decide +kernel
theorem d_S_isAnswerable_29 : decode c_S_isAnswerable 29 = .ok (.iconst 1, 1) := by decide +kernel
theorem d_S_isAnswerable_30 : decode c_S_isAnswerable 30 = .ok (.goto 4, 3) := by decide +kernel
theorem d_S_isAnswerable_33 : decode c_S_isAnswerable 33 = .ok (.iconst 0, 1) := by decide +kernel
theorem d_S_isAnswerable_34 : decode c_S_isAnswerable 34 = .ok (.ireturn, 1) := by decide +kernel
theorem d_S_isNodeThere_0 : decode c_S_isNodeThere 0 = .ok (.iload_n 1, 1) := by decide +kernel
theorem d_S_isNodeThere_1 : decode c_S_isNodeThere 1 = .ok (.invokestatic 41, 3) := by decide +kernel
theorem d_S_isNodeThere_4 : decode c_S_isNodeThere 4 = .ok (.ifCond .eq 18, 3) := by decide +kernel
theorem d_S_isNodeThere_7 : decode c_S_isNodeThere 7 = .ok (.aload_n 0, 1) := by decide +kernel
theorem d_S_isNodeThere_8 : decode c_S_isNodeThere 8 = .ok (.getfield 12, 3) := by decide +kernel
theorem d_S_isNodeThere_11 : decode c_S_isNodeThere 11 = .ok (.iload_n 1, 1) := by decide +kernel
theorem d_S_isNodeThere_12 : decode c_S_isNodeThere 12 = .ok (.invokevirtual 169, 3) := by decide +kernel
theorem d_S_isNodeThere_15 : decode c_S_isNodeThere 15 = .ok (.ifCond .eq 7, 3) := by decide +kernel
theorem d_S_isNodeThere_18 : decode c_S_isNodeThere 18 = .ok (.iconst 1, 1) := by decide +kernel
theorem d_S_isNodeThere_19 : decode c_S_isNodeThere 19 = .ok (.goto 4, 3) := by decide +kernel
theorem d_S_isNodeThere_22 : decode c_S_isNodeThere 22 = .ok (.iconst 0, 1) := by decide +kernel
theorem d_S_isNodeThere_23 : decode c_S_isNodeThere 23 = .ok (.ireturn, 1) := by decide +kernel
theorem d_S_isPart_0 : decode c_S_isPart 0 = .ok (.iload_n 0, 1) := by decide +kernel
theorem d_S_isPart_1 : decode c_S_isPart 1 = .ok (.ifCond .eq 8, 3) := by decide +kernel
theorem d_S_isPart_4 : decode c_S_isPart 4 = .ok (.iload_n 0, 1) := by decide +kernel
theorem d_S_isPart_5 : decode c_S_isPart 5 = .ok (.iconst 1, 1) := by decide +kernel
theorem d_S_isPart_6 : decode c_S_isPart 6 = .ok (.if_icmp .ne 7, 3) := by decide +kernel
theorem d_S_isPart_9 : decode c_S_isPart 9 = .ok (.iconst 1, 1) := by decide +kernel
theorem d_S_isPart_10 : decode c_S_isPart 10 = .ok (.goto 4, 3) := by decide +kernel
theorem d_S_isPart_13 : decode c_S_isPart 13 = .ok (.iconst 0, 1) := by decide +kernel
theorem d_S_isPart_14 : decode c_S_isPart 14 = .ok (.ireturn, 1) := by decide +kernel
theorem d_R_chooseCase_0 : decode c_R_chooseCase 0 = .ok (.iconst 0, 1) := by decide +kernel
theorem d_R_chooseCase_1 : decode c_R_chooseCase 1 = .ok (.istore_n 2, 1) := by decide +kernel
theorem d_R_chooseCase_2 : decode c_R_chooseCase 2 = .ok (.iload_n 2, 1) := by decide +kernel
theorem d_R_chooseCase_3 : decode c_R_chooseCase 3 = .ok (.iconst 4, 1) := by decide +kernel
theorem d_R_chooseCase_4 : decode c_R_chooseCase 4 = .ok (.if_icmp .ge 25, 3) := by decide +kernel
theorem d_R_chooseCase_7 : decode c_R_chooseCase 7 = .ok (.aload_n 0, 1) := by decide +kernel
theorem d_R_chooseCase_8 : decode c_R_chooseCase 8 = .ok (.getfield 9, 3) := by decide +kernel
theorem d_R_chooseCase_11 : decode c_R_chooseCase 11 = .ok (.iload_n 2, 1) := by decide +kernel
theorem d_R_chooseCase_12 : decode c_R_chooseCase 12 = .ok (.iload_n 2, 1) := by decide +kernel
theorem d_R_chooseCase_13 : decode c_R_chooseCase 13 = .ok (.iload_n 1, 1) := by decide +kernel
theorem d_R_chooseCase_14 : decode c_R_chooseCase 14 = .ok (.if_icmp .ne 7, 3) := by decide +kernel
theorem d_R_chooseCase_17 : decode c_R_chooseCase 17 = .ok (.iconst 1, 1) := by decide +kernel
theorem d_R_chooseCase_18 : decode c_R_chooseCase 18 = .ok (.goto 4, 3) := by decide +kernel
theorem d_R_chooseCase_21 : decode c_R_chooseCase 21 = .ok (.iconst 0, 1) := by decide +kernel
theorem d_R_chooseCase_22 : decode c_R_chooseCase 22 = .ok (.iastore, 1) := by decide +kernel
theorem d_R_chooseCase_23 : decode c_R_chooseCase 23 = .ok (.iinc 2 1, 3) := by decide +kernel
theorem d_R_chooseCase_26 : decode c_R_chooseCase 26 = .ok (.goto (-24), 3) := by decide +kernel
theorem d_R_chooseCase_29 : decode c_R_chooseCase 29 = .ok (.return_, 1) := by decide +kernel
theorem d_R_respond_0 : decode c_R_respond 0 = .ok (.aload_n 0, 1) := by decide +kernel
theorem d_R_respond_1 : decode c_R_respond 1 = .ok (.aload_n 3, 1) := by decide +kernel
theorem d_R_respond_2 : decode c_R_respond 2 = .ok (.invokevirtual 32, 3) := by decide +kernel
theorem d_R_respond_5 : decode c_R_respond 5 = .ok (.putfield 28, 3) := by decide +kernel
theorem d_R_respond_8 : decode c_R_respond 8 = .ok (.aload_n 0, 1) := by decide +kernel
theorem d_R_respond_9 : decode c_R_respond 9 = .ok (.aload_n 1, 1) := by decide +kernel
theorem d_R_respond_10 : decode c_R_respond 10 = .ok (.invokevirtual 38, 3) := by decide +kernel
theorem d_R_respond_13 : decode c_R_respond 13 = .ok (.aload_n 0, 1) := by decide +kernel
theorem d_R_respond_14 : decode c_R_respond 14 = .ok (.aload_n 1, 1) := by decide +kernel
theorem d_R_respond_15 : decode c_R_respond 15 = .ok (.invokevirtual 42, 3) := by decide +kernel
theorem d_R_respond_18 : decode c_R_respond 18 = .ok (.aload_n 0, 1) := by decide +kernel
theorem d_R_respond_19 : decode c_R_respond 19 = .ok (.aload_n 1, 1) := by decide +kernel
theorem d_R_respond_20 : decode c_R_respond 20 = .ok (.aload_n 2, 1) := by decide +kernel
theorem d_R_respond_21 : decode c_R_respond 21 = .ok (.aload_n 3, 1) := by decide +kernel
theorem d_R_respond_22 : decode c_R_respond 22 = .ok (.invokevirtual 45, 3) := by decide +kernel
theorem d_R_respond_25 : decode c_R_respond 25 = .ok (.aload_n 3, 1) := by decide +kernel
theorem d_R_respond_26 : decode c_R_respond 26 = .ok (.aload_n 0, 1) := by decide +kernel
theorem d_R_respond_27 : decode c_R_respond 27 = .ok (.getfield 22, 3) := by decide +kernel
theorem d_R_respond_30 : decode c_R_respond 30 = .ok (.aload_n 0, 1) := by decide +kernel
theorem d_R_respond_31 : decode c_R_respond 31 = .ok (.getfield 25, 3) := by decide +kernel
theorem d_R_respond_34 : decode c_R_respond 34 = .ok (.invokevirtual 49, 3) := by decide +kernel
theorem d_R_respond_37 : decode c_R_respond 37 = .ok (.iconst 0, 1) := by decide +kernel
theorem d_R_respond_38 : decode c_R_respond 38 = .ok (.istore 4, 2) := by decide +kernel
theorem d_R_respond_40 : decode c_R_respond 40 = .ok (.iload 4, 2) := by decide +kernel
theorem d_R_respond_42 : decode c_R_respond 42 = .ok (.aload_n 2, 1) := by decide +kernel
theorem d_R_respond_43 : decode c_R_respond 43 = .ok (.getfield 53, 3) := by decide +kernel
theorem d_R_respond_46 : decode c_R_respond 46 = .ok (.if_icmp .ge 28, 3) := by decide +kernel
theorem d_R_respond_49 : decode c_R_respond 49 = .ok (.aload_n 0, 1) := by decide +kernel
theorem d_R_respond_50 : decode c_R_respond 50 = .ok (.getfield 19, 3) := by decide +kernel
theorem d_R_respond_53 : decode c_R_respond 53 = .ok (.aload_n 2, 1) := by decide +kernel
theorem d_R_respond_54 : decode c_R_respond 54 = .ok (.getfield 59, 3) := by decide +kernel
theorem d_R_respond_57 : decode c_R_respond 57 = .ok (.iload 4, 2) := by decide +kernel
theorem d_R_respond_59 : decode c_R_respond 59 = .ok (.iaload, 1) := by decide +kernel
theorem d_R_respond_60 : decode c_R_respond 60 = .ok (.aload_n 0, 1) := by decide +kernel
theorem d_R_respond_61 : decode c_R_respond 61 = .ok (.getfield 25, 3) := by decide +kernel
theorem d_R_respond_64 : decode c_R_respond 64 = .ok (.iload 4, 2) := by decide +kernel
theorem d_R_respond_66 : decode c_R_respond 66 = .ok (.laload, 1) := by decide +kernel
theorem d_R_respond_67 : decode c_R_respond 67 = .ok (.lastore, 1) := by decide +kernel
theorem d_R_respond_68 : decode c_R_respond 68 = .ok (.iinc 4 1, 3) := by decide +kernel
theorem d_R_respond_71 : decode c_R_respond 71 = .ok (.goto (-31), 3) := by decide +kernel
theorem d_R_respond_74 : decode c_R_respond 74 = .ok (.return_, 1) := by decide +kernel
theorem d_E_wholeMinor_0 : decode c_E_wholeMinor 0 = .ok (.aload_n 0, 1) := by decide +kernel
theorem d_E_wholeMinor_1 : decode c_E_wholeMinor 1 = .ok (.getfield 19, 3) := by decide +kernel
theorem d_E_wholeMinor_4 : decode c_E_wholeMinor 4 = .ok (.iconst 2, 1) := by decide +kernel
theorem d_E_wholeMinor_5 : decode c_E_wholeMinor 5 = .ok (.irem, 1) := by decide +kernel
theorem d_E_wholeMinor_6 : decode c_E_wholeMinor 6 = .ok (.ifCond .ne 15, 3) := by decide +kernel
theorem d_E_wholeMinor_9 : decode c_E_wholeMinor 9 = .ok (.aload_n 0, 1) := by decide +kernel
theorem d_E_wholeMinor_10 : decode c_E_wholeMinor 10 = .ok (.getfield 23, 3) := by decide +kernel
theorem d_E_wholeMinor_13 : decode c_E_wholeMinor 13 = .ok (.aload_n 0, 1) := by decide +kernel
theorem d_E_wholeMinor_14 : decode c_E_wholeMinor 14 = .ok (.getfield 19, 3) := by decide +kernel
theorem d_E_wholeMinor_17 : decode c_E_wholeMinor 17 = .ok (.laload, 1) := by decide +kernel
theorem d_E_wholeMinor_18 : decode c_E_wholeMinor 18 = .ok (.goto 13, 3) := by decide +kernel
theorem d_E_wholeMinor_21 : decode c_E_wholeMinor 21 = .ok (.aload_n 0, 1) := by decide +kernel
theorem d_E_wholeMinor_22 : decode c_E_wholeMinor 22 = .ok (.getfield 23, 3) := by decide +kernel
theorem d_E_wholeMinor_25 : decode c_E_wholeMinor 25 = .ok (.aload_n 0, 1) := by decide +kernel
theorem d_E_wholeMinor_26 : decode c_E_wholeMinor 26 = .ok (.getfield 19, 3) := by decide +kernel
theorem d_E_wholeMinor_29 : decode c_E_wholeMinor 29 = .ok (.laload, 1) := by decide +kernel
theorem d_E_wholeMinor_30 : decode c_E_wholeMinor 30 = .ok (.lneg, 1) := by decide +kernel
theorem d_E_wholeMinor_31 : decode c_E_wholeMinor 31 = .ok (.lreturn, 1) := by decide +kernel
theorem d_R_sumUpLoads_0 : decode c_R_sumUpLoads 0 = .ok (.iconst 0, 1) := by decide +kernel
theorem d_R_sumUpLoads_1 : decode c_R_sumUpLoads 1 = .ok (.istore_n 2, 1) := by decide +kernel
theorem d_R_sumUpLoads_2 : decode c_R_sumUpLoads 2 = .ok (.iload_n 2, 1) := by decide +kernel
theorem d_R_sumUpLoads_3 : decode c_R_sumUpLoads 3 = .ok (.bipush 10, 2) := by decide +kernel
theorem d_R_sumUpLoads_5 : decode c_R_sumUpLoads 5 = .ok (.if_icmp .ge 54, 3) := by decide +kernel
theorem d_R_sumUpLoads_8 : decode c_R_sumUpLoads 8 = .ok (.lconst 0, 1) := by decide +kernel
theorem d_R_sumUpLoads_9 : decode c_R_sumUpLoads 9 = .ok (.lstore_n 3, 1) := by decide +kernel
theorem d_R_sumUpLoads_10 : decode c_R_sumUpLoads 10 = .ok (.iconst 0, 1) := by decide +kernel
theorem d_R_sumUpLoads_11 : decode c_R_sumUpLoads 11 = .ok (.istore 5, 2) := by decide +kernel
theorem d_R_sumUpLoads_13 : decode c_R_sumUpLoads 13 = .ok (.iload 5, 2) := by decide +kernel
theorem d_R_sumUpLoads_15 : decode c_R_sumUpLoads 15 = .ok (.iconst 4, 1) := by decide +kernel
theorem d_R_sumUpLoads_16 : decode c_R_sumUpLoads 16 = .ok (.if_icmp .ge 30, 3) := by decide +kernel
theorem d_R_sumUpLoads_19 : decode c_R_sumUpLoads 19 = .ok (.lload_n 3, 1) := by decide +kernel
theorem d_R_sumUpLoads_20 : decode c_R_sumUpLoads 20 = .ok (.aload_n 0, 1) := by decide +kernel
theorem d_R_sumUpLoads_21 : decode c_R_sumUpLoads 21 = .ok (.getfield 9, 3) := by decide +kernel
theorem d_R_sumUpLoads_24 : decode c_R_sumUpLoads 24 = .ok (.iload 5, 2) := by decide +kernel
theorem d_R_sumUpLoads_26 : decode c_R_sumUpLoads 26 = .ok (.iaload, 1) := by decide +kernel
theorem d_R_sumUpLoads_27 : decode c_R_sumUpLoads 27 = .ok (.aload_n 1, 1) := by decide +kernel
theorem d_R_sumUpLoads_28 : decode c_R_sumUpLoads 28 = .ok (.getfield 62, 3) := by decide +kernel
theorem d_R_sumUpLoads_31 : decode c_R_sumUpLoads 31 = .ok (.iload 5, 2) := by decide +kernel
theorem d_R_sumUpLoads_33 : decode c_R_sumUpLoads 33 = .ok (.aaload, 1) := by decide +kernel
theorem d_R_sumUpLoads_34 : decode c_R_sumUpLoads 34 = .ok (.iload_n 2, 1) := by decide +kernel
theorem d_R_sumUpLoads_35 : decode c_R_sumUpLoads 35 = .ok (.iaload, 1) := by decide +kernel
theorem d_R_sumUpLoads_36 : decode c_R_sumUpLoads 36 = .ok (.imul, 1) := by decide +kernel
theorem d_R_sumUpLoads_37 : decode c_R_sumUpLoads 37 = .ok (.i2l, 1) := by decide +kernel
theorem d_R_sumUpLoads_38 : decode c_R_sumUpLoads 38 = .ok (.ladd, 1) := by decide +kernel
theorem d_R_sumUpLoads_39 : decode c_R_sumUpLoads 39 = .ok (.lstore_n 3, 1) := by decide +kernel
theorem d_R_sumUpLoads_40 : decode c_R_sumUpLoads 40 = .ok (.iinc 5 1, 3) := by decide +kernel
theorem d_R_sumUpLoads_43 : decode c_R_sumUpLoads 43 = .ok (.goto (-30), 3) := by decide +kernel
theorem d_R_sumUpLoads_46 : decode c_R_sumUpLoads 46 = .ok (.aload_n 0, 1) := by decide +kernel
theorem d_R_sumUpLoads_47 : decode c_R_sumUpLoads 47 = .ok (.getfield 15, 3) := by decide +kernel
theorem d_R_sumUpLoads_50 : decode c_R_sumUpLoads 50 = .ok (.iload_n 2, 1) := by decide +kernel
theorem d_R_sumUpLoads_51 : decode c_R_sumUpLoads 51 = .ok (.lload_n 3, 1) := by decide +kernel
theorem d_R_sumUpLoads_52 : decode c_R_sumUpLoads 52 = .ok (.lastore, 1) := by decide +kernel
theorem d_R_sumUpLoads_53 : decode c_R_sumUpLoads 53 = .ok (.iinc 2 1, 3) := by decide +kernel
theorem d_R_sumUpLoads_56 : decode c_R_sumUpLoads 56 = .ok (.goto (-54), 3) := by decide +kernel
theorem d_R_sumUpLoads_59 : decode c_R_sumUpLoads 59 = .ok (.return_, 1) := by decide +kernel
theorem d_R_moveHeldSlots_0 : decode c_R_moveHeldSlots 0 = .ok (.iconst 0, 1) := by decide +kernel
theorem d_R_moveHeldSlots_1 : decode c_R_moveHeldSlots 1 = .ok (.istore_n 2, 1) := by decide +kernel
theorem d_R_moveHeldSlots_2 : decode c_R_moveHeldSlots 2 = .ok (.iload_n 2, 1) := by decide +kernel
theorem d_R_moveHeldSlots_3 : decode c_R_moveHeldSlots 3 = .ok (.bipush 10, 2) := by decide +kernel
theorem d_R_moveHeldSlots_5 : decode c_R_moveHeldSlots 5 = .ok (.if_icmp .ge 39, 3) := by decide +kernel
theorem d_R_moveHeldSlots_8 : decode c_R_moveHeldSlots 8 = .ok (.aload_n 0, 1) := by decide +kernel
theorem d_R_moveHeldSlots_9 : decode c_R_moveHeldSlots 9 = .ok (.getfield 19, 3) := by decide +kernel
theorem d_R_moveHeldSlots_12 : decode c_R_moveHeldSlots 12 = .ok (.iload_n 2, 1) := by decide +kernel
theorem d_R_moveHeldSlots_13 : decode c_R_moveHeldSlots 13 = .ok (.aload_n 1, 1) := by decide +kernel
theorem d_R_moveHeldSlots_14 : decode c_R_moveHeldSlots 14 = .ok (.getfield 67, 3) := by decide +kernel
theorem d_R_moveHeldSlots_17 : decode c_R_moveHeldSlots 17 = .ok (.iload_n 2, 1) := by decide +kernel
theorem d_R_moveHeldSlots_18 : decode c_R_moveHeldSlots 18 = .ok (.baload, 1) := by decide +kernel
theorem d_R_moveHeldSlots_19 : decode c_R_moveHeldSlots 19 = .ok (.ifCond .eq 17, 3) := by decide +kernel
theorem d_R_moveHeldSlots_22 : decode c_R_moveHeldSlots 22 = .ok (.aload_n 0, 1) := by decide +kernel
theorem d_R_moveHeldSlots_23 : decode c_R_moveHeldSlots 23 = .ok (.aload_n 1, 1) := by decide +kernel
theorem d_R_moveHeldSlots_24 : decode c_R_moveHeldSlots 24 = .ok (.iload_n 2, 1) := by decide +kernel
theorem d_R_moveHeldSlots_25 : decode c_R_moveHeldSlots 25 = .ok (.invokevirtual 71, 3) := by decide +kernel
theorem d_R_moveHeldSlots_28 : decode c_R_moveHeldSlots 28 = .ok (.aload_n 0, 1) := by decide +kernel
theorem d_R_moveHeldSlots_29 : decode c_R_moveHeldSlots 29 = .ok (.getfield 28, 3) := by decide +kernel
theorem d_R_moveHeldSlots_32 : decode c_R_moveHeldSlots 32 = .ok (.lmul, 1) := by decide +kernel
theorem d_R_moveHeldSlots_33 : decode c_R_moveHeldSlots 33 = .ok (.goto 4, 3) := by decide +kernel
theorem d_R_moveHeldSlots_36 : decode c_R_moveHeldSlots 36 = .ok (.lconst 0, 1) := by decide +kernel
theorem d_R_moveHeldSlots_37 : decode c_R_moveHeldSlots 37 = .ok (.lastore, 1) := by decide +kernel
theorem d_R_moveHeldSlots_38 : decode c_R_moveHeldSlots 38 = .ok (.iinc 2 1, 3) := by decide +kernel
theorem d_R_moveHeldSlots_41 : decode c_R_moveHeldSlots 41 = .ok (.goto (-39), 3) := by decide +kernel
theorem d_R_moveHeldSlots_44 : decode c_R_moveHeldSlots 44 = .ok (.return_, 1) := by decide +kernel
theorem d_R_heldDisplacement_0 : decode c_R_heldDisplacement 0 = .ok (.lconst 0, 1) := by decide +kernel
theorem d_R_heldDisplacement_1 : decode c_R_heldDisplacement 1 = .ok (.lstore_n 3, 1) := by decide +kernel
theorem d_R_heldDisplacement_2 : decode c_R_heldDisplacement 2 = .ok (.iconst 0, 1) := by decide +kernel
theorem d_R_heldDisplacement_3 : decode c_R_heldDisplacement 3 = .ok (.istore 5, 2) := by decide +kernel
theorem d_R_heldDisplacement_5 : decode c_R_heldDisplacement 5 = .ok (.iload 5, 2) := by decide +kernel
theorem d_R_heldDisplacement_7 : decode c_R_heldDisplacement 7 = .ok (.iconst 4, 1) := by decide +kernel
theorem d_R_heldDisplacement_8 : decode c_R_heldDisplacement 8 = .ok (.if_icmp .ge 27, 3) := by decide +kernel
theorem d_R_heldDisplacement_11 : decode c_R_heldDisplacement 11 = .ok (.lload_n 3, 1) := by decide +kernel
theorem d_R_heldDisplacement_12 : decode c_R_heldDisplacement 12 = .ok (.aload_n 0, 1) := by decide +kernel
theorem d_R_heldDisplacement_13 : decode c_R_heldDisplacement 13 = .ok (.getfield 9, 3) := by decide +kernel
theorem d_R_heldDisplacement_16 : decode c_R_heldDisplacement 16 = .ok (.iload 5, 2) := by decide +kernel
theorem d_R_heldDisplacement_18 : decode c_R_heldDisplacement 18 = .ok (.iaload, 1) := by decide +kernel
theorem d_R_heldDisplacement_19 : decode c_R_heldDisplacement 19 = .ok (.aload_n 1, 1) := by decide +kernel
theorem d_R_heldDisplacement_20 : decode c_R_heldDisplacement 20 = .ok (.getfield 75, 3) := by decide +kernel
theorem d_R_heldDisplacement_23 : decode c_R_heldDisplacement 23 = .ok (.iload_n 2, 1) := by decide +kernel
theorem d_R_heldDisplacement_24 : decode c_R_heldDisplacement 24 = .ok (.iaload, 1) := by decide +kernel
theorem d_R_heldDisplacement_25 : decode c_R_heldDisplacement 25 = .ok (.imul, 1) := by decide +kernel
theorem d_R_heldDisplacement_26 : decode c_R_heldDisplacement 26 = .ok (.i2l, 1) := by decide +kernel
theorem d_R_heldDisplacement_27 : decode c_R_heldDisplacement 27 = .ok (.ladd, 1) := by decide +kernel
theorem d_R_heldDisplacement_28 : decode c_R_heldDisplacement 28 = .ok (.lstore_n 3, 1) := by decide +kernel
theorem d_R_heldDisplacement_29 : decode c_R_heldDisplacement 29 = .ok (.iinc 5 1, 3) := by decide +kernel
theorem d_R_heldDisplacement_32 : decode c_R_heldDisplacement 32 = .ok (.goto (-27), 3) := by decide +kernel
theorem d_R_heldDisplacement_35 : decode c_R_heldDisplacement 35 = .ok (.lload_n 3, 1) := by decide +kernel
theorem d_R_heldDisplacement_36 : decode c_R_heldDisplacement 36 = .ok (.lreturn, 1) := by decide +kernel
theorem d_R_findRightSide_0 : decode c_R_findRightSide 0 = .ok (.iconst 0, 1) := by decide +kernel
theorem d_R_findRightSide_1 : decode c_R_findRightSide 1 = .ok (.istore 4, 2) := by decide +kernel
theorem d_R_findRightSide_3 : decode c_R_findRightSide 3 = .ok (.iload 4, 2) := by decide +kernel
theorem d_R_findRightSide_5 : decode c_R_findRightSide 5 = .ok (.aload_n 2, 1) := by decide +kernel
theorem d_R_findRightSide_6 : decode c_R_findRightSide 6 = .ok (.getfield 53, 3) := by decide +kernel
theorem d_R_findRightSide_9 : decode c_R_findRightSide 9 = .ok (.if_icmp .ge 85, 3) := by decide +kernel
theorem d_R_findRightSide_12 : decode c_R_findRightSide 12 = .ok (.aload_n 2, 1) := by decide +kernel
theorem d_R_findRightSide_13 : decode c_R_findRightSide 13 = .ok (.getfield 59, 3) := by decide +kernel
theorem d_R_findRightSide_16 : decode c_R_findRightSide 16 = .ok (.iload 4, 2) := by decide +kernel
theorem d_R_findRightSide_18 : decode c_R_findRightSide 18 = .ok (.iaload, 1) := by decide +kernel
theorem d_R_findRightSide_19 : decode c_R_findRightSide 19 = .ok (.istore 5, 2) := by decide +kernel
theorem d_R_findRightSide_21 : decode c_R_findRightSide 21 = .ok (.aload_n 0, 1) := by decide +kernel
theorem d_R_findRightSide_22 : decode c_R_findRightSide 22 = .ok (.getfield 15, 3) := by decide +kernel
theorem d_R_findRightSide_25 : decode c_R_findRightSide 25 = .ok (.iload 5, 2) := by decide +kernel
theorem d_R_findRightSide_27 : decode c_R_findRightSide 27 = .ok (.laload, 1) := by decide +kernel
theorem d_R_findRightSide_28 : decode c_R_findRightSide 28 = .ok (.lstore 6, 2) := by decide +kernel
theorem d_R_findRightSide_30 : decode c_R_findRightSide 30 = .ok (.iconst 0, 1) := by decide +kernel
theorem d_R_findRightSide_31 : decode c_R_findRightSide 31 = .ok (.istore 8, 2) := by decide +kernel
theorem d_R_findRightSide_33 : decode c_R_findRightSide 33 = .ok (.iload 8, 2) := by decide +kernel
theorem d_R_findRightSide_35 : decode c_R_findRightSide 35 = .ok (.bipush 10, 2) := by decide +kernel
theorem d_R_findRightSide_37 : decode c_R_findRightSide 37 = .ok (.if_icmp .ge 42, 3) := by decide +kernel
theorem d_R_findRightSide_40 : decode c_R_findRightSide 40 = .ok (.aload_n 1, 1) := by decide +kernel
theorem d_R_findRightSide_41 : decode c_R_findRightSide 41 = .ok (.getfield 67, 3) := by decide +kernel
theorem d_R_findRightSide_44 : decode c_R_findRightSide 44 = .ok (.iload 8, 2) := by decide +kernel
theorem d_R_findRightSide_46 : decode c_R_findRightSide 46 = .ok (.baload, 1) := by decide +kernel
theorem d_R_findRightSide_47 : decode c_R_findRightSide 47 = .ok (.ifCond .eq 26, 3) := by decide +kernel
theorem d_R_findRightSide_50 : decode c_R_findRightSide 50 = .ok (.lload 6, 2) := by decide +kernel
theorem d_R_findRightSide_52 : decode c_R_findRightSide 52 = .ok (.aload_n 3, 1) := by decide +kernel
theorem d_R_findRightSide_53 : decode c_R_findRightSide 53 = .ok (.getfield 78, 3) := by decide +kernel
theorem d_R_findRightSide_56 : decode c_R_findRightSide 56 = .ok (.iload 5, 2) := by decide +kernel
theorem d_R_findRightSide_58 : decode c_R_findRightSide 58 = .ok (.aaload, 1) := by decide +kernel
theorem d_R_findRightSide_59 : decode c_R_findRightSide 59 = .ok (.iload 8, 2) := by decide +kernel
theorem d_R_findRightSide_61 : decode c_R_findRightSide 61 = .ok (.laload, 1) := by decide +kernel
theorem d_R_findRightSide_62 : decode c_R_findRightSide 62 = .ok (.aload_n 0, 1) := by decide +kernel
theorem d_R_findRightSide_63 : decode c_R_findRightSide 63 = .ok (.aload_n 1, 1) := by decide +kernel
theorem d_R_findRightSide_64 : decode c_R_findRightSide 64 = .ok (.iload 8, 2) := by decide +kernel
theorem d_R_findRightSide_66 : decode c_R_findRightSide 66 = .ok (.invokevirtual 71, 3) := by decide +kernel
theorem d_R_findRightSide_69 : decode c_R_findRightSide 69 = .ok (.lmul, 1) := by decide +kernel
theorem d_R_findRightSide_70 : decode c_R_findRightSide 70 = .ok (.lsub, 1) := by decide +kernel
theorem d_R_findRightSide_71 : decode c_R_findRightSide 71 = .ok (.lstore 6, 2) := by decide +kernel
theorem d_R_findRightSide_73 : decode c_R_findRightSide 73 = .ok (.iinc 8 1, 3) := by decide +kernel
theorem d_R_findRightSide_76 : decode c_R_findRightSide 76 = .ok (.goto (-43), 3) := by decide +kernel
theorem d_R_findRightSide_79 : decode c_R_findRightSide 79 = .ok (.aload_n 0, 1) := by decide +kernel
theorem d_R_findRightSide_80 : decode c_R_findRightSide 80 = .ok (.getfield 22, 3) := by decide +kernel
theorem d_R_findRightSide_83 : decode c_R_findRightSide 83 = .ok (.iload 4, 2) := by decide +kernel
theorem d_R_findRightSide_85 : decode c_R_findRightSide 85 = .ok (.lload 6, 2) := by decide +kernel
theorem d_R_findRightSide_87 : decode c_R_findRightSide 87 = .ok (.lastore, 1) := by decide +kernel
theorem d_R_findRightSide_88 : decode c_R_findRightSide 88 = .ok (.iinc 4 1, 3) := by decide +kernel
theorem d_R_findRightSide_91 : decode c_R_findRightSide 91 = .ok (.goto (-88), 3) := by decide +kernel
theorem d_R_findRightSide_94 : decode c_R_findRightSide 94 = .ok (.return_, 1) := by decide +kernel
theorem d_E_solveScaled_0 : decode c_E_solveScaled 0 = .ok (.aload_n 1, 1) := by decide +kernel
theorem d_E_solveScaled_1 : decode c_E_solveScaled 1 = .ok (.iconst 0, 1) := by decide +kernel
theorem d_E_solveScaled_2 : decode c_E_solveScaled 2 = .ok (.aload_n 2, 1) := by decide +kernel
theorem d_E_solveScaled_3 : decode c_E_solveScaled 3 = .ok (.iconst 0, 1) := by decide +kernel
theorem d_E_solveScaled_4 : decode c_E_solveScaled 4 = .ok (.aload_n 0, 1) := by decide +kernel
theorem d_E_solveScaled_5 : decode c_E_solveScaled 5 = .ok (.getfield 19, 3) := by decide +kernel
theorem d_E_solveScaled_8 : decode c_E_solveScaled 8 = .ok (.invokestatic 89, 3) := by decide +kernel
theorem d_E_solveScaled_11 : decode c_E_solveScaled 11 = .ok (.iconst 1, 1) := by decide +kernel
theorem d_E_solveScaled_12 : decode c_E_solveScaled 12 = .ok (.istore_n 3, 1) := by decide +kernel
theorem d_E_solveScaled_13 : decode c_E_solveScaled 13 = .ok (.iload_n 3, 1) := by decide +kernel
theorem d_E_solveScaled_14 : decode c_E_solveScaled 14 = .ok (.aload_n 0, 1) := by decide +kernel
theorem d_E_solveScaled_15 : decode c_E_solveScaled 15 = .ok (.getfield 19, 3) := by decide +kernel
theorem d_E_solveScaled_18 : decode c_E_solveScaled 18 = .ok (.if_icmp .ge 54, 3) := by decide +kernel
theorem d_E_solveScaled_21 : decode c_E_solveScaled 21 = .ok (.aload_n 0, 1) := by decide +kernel
theorem d_E_solveScaled_22 : decode c_E_solveScaled 22 = .ok (.aload_n 2, 1) := by decide +kernel
theorem d_E_solveScaled_23 : decode c_E_solveScaled 23 = .ok (.aload_n 0, 1) := by decide +kernel
theorem d_E_solveScaled_24 : decode c_E_solveScaled 24 = .ok (.getfield 19, 3) := by decide +kernel
theorem d_E_solveScaled_27 : decode c_E_solveScaled 27 = .ok (.invokevirtual 85, 3) := by decide +kernel
theorem d_E_solveScaled_30 : decode c_E_solveScaled 30 = .ok (.iconst 0, 1) := by decide +kernel
theorem d_E_solveScaled_31 : decode c_E_solveScaled 31 = .ok (.istore 4, 2) := by decide +kernel
theorem d_E_solveScaled_33 : decode c_E_solveScaled 33 = .ok (.iload 4, 2) := by decide +kernel
theorem d_E_solveScaled_35 : decode c_E_solveScaled 35 = .ok (.aload_n 0, 1) := by decide +kernel
theorem d_E_solveScaled_36 : decode c_E_solveScaled 36 = .ok (.getfield 19, 3) := by decide +kernel
theorem d_E_solveScaled_39 : decode c_E_solveScaled 39 = .ok (.if_icmp .ge 27, 3) := by decide +kernel
theorem d_E_solveScaled_42 : decode c_E_solveScaled 42 = .ok (.aload_n 2, 1) := by decide +kernel
theorem d_E_solveScaled_43 : decode c_E_solveScaled 43 = .ok (.iload 4, 2) := by decide +kernel
theorem d_E_solveScaled_45 : decode c_E_solveScaled 45 = .ok (.dup2, 1) := by decide +kernel
theorem d_E_solveScaled_46 : decode c_E_solveScaled 46 = .ok (.laload, 1) := by decide +kernel
theorem d_E_solveScaled_47 : decode c_E_solveScaled 47 = .ok (.aload_n 0, 1) := by decide +kernel
theorem d_E_solveScaled_48 : decode c_E_solveScaled 48 = .ok (.getfield 23, 3) := by decide +kernel
theorem d_E_solveScaled_51 : decode c_E_solveScaled 51 = .ok (.iload_n 3, 1) := by decide +kernel
theorem d_E_solveScaled_52 : decode c_E_solveScaled 52 = .ok (.laload, 1) := by decide +kernel
theorem d_E_solveScaled_53 : decode c_E_solveScaled 53 = .ok (.aload_n 1, 1) := by decide +kernel
theorem d_E_solveScaled_54 : decode c_E_solveScaled 54 = .ok (.iload 4, 2) := by decide +kernel
theorem d_E_solveScaled_56 : decode c_E_solveScaled 56 = .ok (.laload, 1) := by decide +kernel
theorem d_E_solveScaled_57 : decode c_E_solveScaled 57 = .ok (.lmul, 1) := by decide +kernel
theorem d_E_solveScaled_58 : decode c_E_solveScaled 58 = .ok (.ladd, 1) := by decide +kernel
theorem d_E_solveScaled_59 : decode c_E_solveScaled 59 = .ok (.lastore, 1) := by decide +kernel
theorem d_E_solveScaled_60 : decode c_E_solveScaled 60 = .ok (.iinc 4 1, 3) := by decide +kernel
theorem d_E_solveScaled_63 : decode c_E_solveScaled 63 = .ok (.goto (-30), 3) := by decide +kernel
theorem d_E_solveScaled_66 : decode c_E_solveScaled 66 = .ok (.iinc 3 1, 3) := by decide +kernel
theorem d_E_solveScaled_69 : decode c_E_solveScaled 69 = .ok (.goto (-56), 3) := by decide +kernel
theorem d_E_solveScaled_72 : decode c_E_solveScaled 72 = .ok (.aload_n 0, 1) := by decide +kernel
theorem d_E_solveScaled_73 : decode c_E_solveScaled 73 = .ok (.getfield 19, 3) := by decide +kernel
theorem d_E_solveScaled_76 : decode c_E_solveScaled 76 = .ok (.iconst 2, 1) := by decide +kernel
theorem d_E_solveScaled_77 : decode c_E_solveScaled 77 = .ok (.irem, 1) := by decide +kernel
theorem d_E_solveScaled_78 : decode c_E_solveScaled 78 = .ok (.ifCond .ne 26, 3) := by decide +kernel
theorem d_E_solveScaled_81 : decode c_E_solveScaled 81 = .ok (.iconst 0, 1) := by decide +kernel
theorem d_E_solveScaled_82 : decode c_E_solveScaled 82 = .ok (.istore_n 3, 1) := by decide +kernel
theorem d_E_solveScaled_83 : decode c_E_solveScaled 83 = .ok (.iload_n 3, 1) := by decide +kernel
theorem d_E_solveScaled_84 : decode c_E_solveScaled 84 = .ok (.aload_n 0, 1) := by decide +kernel
theorem d_E_solveScaled_85 : decode c_E_solveScaled 85 = .ok (.getfield 19, 3) := by decide +kernel
theorem d_E_solveScaled_88 : decode c_E_solveScaled 88 = .ok (.if_icmp .ge 16, 3) := by decide +kernel
theorem d_E_solveScaled_91 : decode c_E_solveScaled 91 = .ok (.aload_n 2, 1) := by decide +kernel
theorem d_E_solveScaled_92 : decode c_E_solveScaled 92 = .ok (.iload_n 3, 1) := by decide +kernel
theorem d_E_solveScaled_93 : decode c_E_solveScaled 93 = .ok (.aload_n 2, 1) := by decide +kernel
theorem d_E_solveScaled_94 : decode c_E_solveScaled 94 = .ok (.iload_n 3, 1) := by decide +kernel
theorem d_E_solveScaled_95 : decode c_E_solveScaled 95 = .ok (.laload, 1) := by decide +kernel
theorem d_E_solveScaled_96 : decode c_E_solveScaled 96 = .ok (.lneg, 1) := by decide +kernel
theorem d_E_solveScaled_97 : decode c_E_solveScaled 97 = .ok (.lastore, 1) := by decide +kernel
theorem d_E_solveScaled_98 : decode c_E_solveScaled 98 = .ok (.iinc 3 1, 3) := by decide +kernel
theorem d_E_solveScaled_101 : decode c_E_solveScaled 101 = .ok (.goto (-18), 3) := by decide +kernel
theorem d_E_solveScaled_104 : decode c_E_solveScaled 104 = .ok (.return_, 1) := by decide +kernel
theorem d_S_partOfFraction_0 : decode c_S_partOfFraction 0 = .ok (.aload_n 0, 1) := by decide +kernel
theorem d_S_partOfFraction_1 : decode c_S_partOfFraction 1 = .ok (.getfield 26, 3) := by decide +kernel
theorem d_S_partOfFraction_4 : decode c_S_partOfFraction 4 = .ok (.invokevirtual 150, 3) := by decide +kernel
theorem d_S_partOfFraction_7 : decode c_S_partOfFraction 7 = .ok (.lstore 4, 2) := by decide +kernel
theorem d_S_partOfFraction_9 : decode c_S_partOfFraction 9 = .ok (.lload_n 1, 1) := by decide +kernel
theorem d_S_partOfFraction_10 : decode c_S_partOfFraction 10 = .ok (.invokestatic 172, 3) := by decide +kernel
theorem d_S_partOfFraction_13 : decode c_S_partOfFraction 13 = .ok (.lload 4, 2) := by decide +kernel
theorem d_S_partOfFraction_15 : decode c_S_partOfFraction 15 = .ok (.invokestatic 178, 3) := by decide +kernel
theorem d_S_partOfFraction_18 : decode c_S_partOfFraction 18 = .ok (.lstore 6, 2) := by decide +kernel
theorem d_S_partOfFraction_20 : decode c_S_partOfFraction 20 = .ok (.lload 6, 2) := by decide +kernel
theorem d_S_partOfFraction_22 : decode c_S_partOfFraction 22 = .ok (.lconst 0, 1) := by decide +kernel
theorem d_S_partOfFraction_23 : decode c_S_partOfFraction 23 = .ok (.lcmp, 1) := by decide +kernel
theorem d_S_partOfFraction_24 : decode c_S_partOfFraction 24 = .ok (.ifCond .ne 7, 3) := by decide +kernel
theorem d_S_partOfFraction_27 : decode c_S_partOfFraction 27 = .ok (.ldc2_w 119, 3) := by decide +kernel
theorem d_S_partOfFraction_30 : decode c_S_partOfFraction 30 = .ok (.lreturn, 1) := by decide +kernel
theorem d_S_partOfFraction_31 : decode c_S_partOfFraction 31 = .ok (.iload_n 3, 1) := by decide +kernel
theorem d_S_partOfFraction_32 : decode c_S_partOfFraction 32 = .ok (.ifCond .ne 10, 3) := by decide +kernel
theorem d_S_partOfFraction_35 : decode c_S_partOfFraction 35 = .ok (.lload_n 1, 1) := by decide +kernel
theorem d_S_partOfFraction_36 : decode c_S_partOfFraction 36 = .ok (.lload 6, 2) := by decide +kernel
theorem d_S_partOfFraction_38 : decode c_S_partOfFraction 38 = .ok (.ldiv, 1) := by decide +kernel
theorem d_S_partOfFraction_39 : decode c_S_partOfFraction 39 = .ok (.goto 8, 3) := by decide +kernel
theorem d_S_partOfFraction_42 : decode c_S_partOfFraction 42 = .ok (.lload 4, 2) := by decide +kernel
theorem d_S_partOfFraction_44 : decode c_S_partOfFraction 44 = .ok (.lload 6, 2) := by decide +kernel
theorem d_S_partOfFraction_46 : decode c_S_partOfFraction 46 = .ok (.ldiv, 1) := by decide +kernel
theorem d_S_partOfFraction_47 : decode c_S_partOfFraction 47 = .ok (.lreturn, 1) := by decide +kernel
theorem d_S_greatestDivisor_0 : decode c_S_greatestDivisor 0 = .ok (.lload_n 0, 1) := by decide +kernel
theorem d_S_greatestDivisor_1 : decode c_S_greatestDivisor 1 = .ok (.lstore 4, 2) := by decide +kernel
theorem d_S_greatestDivisor_3 : decode c_S_greatestDivisor 3 = .ok (.lload_n 2, 1) := by decide +kernel
theorem d_S_greatestDivisor_4 : decode c_S_greatestDivisor 4 = .ok (.lstore 6, 2) := by decide +kernel
theorem d_S_greatestDivisor_6 : decode c_S_greatestDivisor 6 = .ok (.iconst 0, 1) := by decide +kernel
theorem d_S_greatestDivisor_7 : decode c_S_greatestDivisor 7 = .ok (.istore 8, 2) := by decide +kernel
theorem d_S_greatestDivisor_9 : decode c_S_greatestDivisor 9 = .ok (.iload 8, 2) := by decide +kernel
theorem d_S_greatestDivisor_11 : decode c_S_greatestDivisor 11 = .ok (.bipush 100, 2) := by decide +kernel
theorem d_S_greatestDivisor_13 : decode c_S_greatestDivisor 13 = .ok (.if_icmp .ge 31, 3) := by decide +kernel
theorem d_S_greatestDivisor_16 : decode c_S_greatestDivisor 16 = .ok (.lload 6, 2) := by decide +kernel
theorem d_S_greatestDivisor_18 : decode c_S_greatestDivisor 18 = .ok (.lconst 0, 1) := by decide +kernel
theorem d_S_greatestDivisor_19 : decode c_S_greatestDivisor 19 = .ok (.lcmp, 1) := by decide +kernel
theorem d_S_greatestDivisor_20 : decode c_S_greatestDivisor 20 = .ok (.ifCond .eq 24, 3) := by decide +kernel
theorem d_S_greatestDivisor_23 : decode c_S_greatestDivisor 23 = .ok (.lload 4, 2) := by decide +kernel
theorem d_S_greatestDivisor_25 : decode c_S_greatestDivisor 25 = .ok (.lload 6, 2) := by decide +kernel
theorem d_S_greatestDivisor_27 : decode c_S_greatestDivisor 27 = .ok (.lrem, 1) := by decide +kernel
theorem d_S_greatestDivisor_28 : decode c_S_greatestDivisor 28 = .ok (.lstore 9, 2) := by decide +kernel
theorem d_S_greatestDivisor_30 : decode c_S_greatestDivisor 30 = .ok (.lload 6, 2) := by decide +kernel
theorem d_S_greatestDivisor_32 : decode c_S_greatestDivisor 32 = .ok (.lstore 4, 2) := by decide +kernel
theorem d_S_greatestDivisor_34 : decode c_S_greatestDivisor 34 = .ok (.lload 9, 2) := by decide +kernel
theorem d_S_greatestDivisor_36 : decode c_S_greatestDivisor 36 = .ok (.lstore 6, 2) := by decide +kernel
theorem d_S_greatestDivisor_38 : decode c_S_greatestDivisor 38 = .ok (.iinc 8 1, 3) := by decide +kernel
theorem d_S_greatestDivisor_41 : decode c_S_greatestDivisor 41 = .ok (.goto (-32), 3) := by decide +kernel
theorem d_S_greatestDivisor_44 : decode c_S_greatestDivisor 44 = .ok (.lload 4, 2) := by decide +kernel
theorem d_S_greatestDivisor_46 : decode c_S_greatestDivisor 46 = .ok (.lreturn, 1) := by decide +kernel
theorem d_S_force_0 : decode c_S_force 0 = .ok (.aload_n 0, 1) := by decide +kernel
theorem d_S_force_1 : decode c_S_force 1 = .ok (.getfield 37, 3) := by decide +kernel
theorem d_S_force_4 : decode c_S_force 4 = .ok (.ifCond .eq 25, 3) := by decide +kernel
theorem d_S_force_7 : decode c_S_force 7 = .ok (.iload_n 1, 1) := by decide +kernel
theorem d_S_force_8 : decode c_S_force 8 = .ok (.invokestatic 89, 3) := by decide +kernel
theorem d_S_force_11 : decode c_S_force 11 = .ok (.ifCond .eq 18, 3) := by decide +kernel
theorem d_S_force_14 : decode c_S_force 14 = .ok (.aload_n 0, 1) := by decide +kernel
theorem d_S_force_15 : decode c_S_force 15 = .ok (.iload_n 2, 1) := by decide +kernel
theorem d_S_force_16 : decode c_S_force 16 = .ok (.invokevirtual 64, 3) := by decide +kernel
theorem d_S_force_19 : decode c_S_force 19 = .ok (.ifCond .eq 10, 3) := by decide +kernel
theorem d_S_force_22 : decode c_S_force 22 = .ok (.iload_n 3, 1) := by decide +kernel
theorem d_S_force_23 : decode c_S_force 23 = .ok (.invokestatic 136, 3) := by decide +kernel
theorem d_S_force_26 : decode c_S_force 26 = .ok (.ifCond .ne 7, 3) := by decide +kernel
theorem d_S_force_29 : decode c_S_force 29 = .ok (.ldc2_w 119, 3) := by decide +kernel
theorem d_S_force_32 : decode c_S_force 32 = .ok (.lreturn, 1) := by decide +kernel
theorem d_S_force_33 : decode c_S_force 33 = .ok (.aload_n 0, 1) := by decide +kernel
theorem d_S_force_34 : decode c_S_force 34 = .ok (.getfield 33, 3) := by decide +kernel
theorem d_S_force_37 : decode c_S_force 37 = .ok (.iload_n 1, 1) := by decide +kernel
theorem d_S_force_38 : decode c_S_force 38 = .ok (.invokevirtual 121, 3) := by decide +kernel
theorem d_S_force_41 : decode c_S_force 41 = .ok (.aload_n 0, 1) := by decide +kernel
theorem d_S_force_42 : decode c_S_force 42 = .ok (.getfield 33, 3) := by decide +kernel
theorem d_S_force_45 : decode c_S_force 45 = .ok (.aload_n 0, 1) := by decide +kernel
theorem d_S_force_46 : decode c_S_force 46 = .ok (.getfield 12, 3) := by decide +kernel
theorem d_S_force_49 : decode c_S_force 49 = .ok (.aload_n 0, 1) := by decide +kernel
theorem d_S_force_50 : decode c_S_force 50 = .ok (.getfield 19, 3) := by decide +kernel
theorem d_S_force_53 : decode c_S_force 53 = .ok (.aload_n 0, 1) := by decide +kernel
theorem d_S_force_54 : decode c_S_force 54 = .ok (.getfield 26, 3) := by decide +kernel
theorem d_S_force_57 : decode c_S_force 57 = .ok (.invokevirtual 124, 3) := by decide +kernel
theorem d_S_force_60 : decode c_S_force 60 = .ok (.aload_n 0, 1) := by decide +kernel
theorem d_S_force_61 : decode c_S_force 61 = .ok (.aload_n 0, 1) := by decide +kernel
theorem d_S_force_62 : decode c_S_force 62 = .ok (.getfield 33, 3) := by decide +kernel
theorem d_S_force_65 : decode c_S_force 65 = .ok (.aload_n 0, 1) := by decide +kernel
theorem d_S_force_66 : decode c_S_force 66 = .ok (.getfield 12, 3) := by decide +kernel
theorem d_S_force_69 : decode c_S_force 69 = .ok (.iload_n 2, 1) := by decide +kernel
theorem d_S_force_70 : decode c_S_force 70 = .ok (.invokevirtual 139, 3) := by decide +kernel
theorem d_S_force_73 : decode c_S_force 73 = .ok (.iload_n 3, 1) := by decide +kernel
theorem d_S_force_74 : decode c_S_force 74 = .ok (.invokevirtual 132, 3) := by decide +kernel
theorem d_S_force_77 : decode c_S_force 77 = .ok (.lreturn, 1) := by decide +kernel
theorem d_R_forceNumerator_0 : decode c_R_forceNumerator 0 = .ok (.lconst 0, 1) := by decide +kernel
theorem d_R_forceNumerator_1 : decode c_R_forceNumerator 1 = .ok (.lstore_n 3, 1) := by decide +kernel
theorem d_R_forceNumerator_2 : decode c_R_forceNumerator 2 = .ok (.iconst 0, 1) := by decide +kernel
theorem d_R_forceNumerator_3 : decode c_R_forceNumerator 3 = .ok (.istore 5, 2) := by decide +kernel
theorem d_R_forceNumerator_5 : decode c_R_forceNumerator 5 = .ok (.iload 5, 2) := by decide +kernel
theorem d_R_forceNumerator_7 : decode c_R_forceNumerator 7 = .ok (.bipush 10, 2) := by decide +kernel
theorem d_R_forceNumerator_9 : decode c_R_forceNumerator 9 = .ok (.if_icmp .ge 28, 3) := by decide +kernel
theorem d_R_forceNumerator_12 : decode c_R_forceNumerator 12 = .ok (.lload_n 3, 1) := by decide +kernel
theorem d_R_forceNumerator_13 : decode c_R_forceNumerator 13 = .ok (.aload_n 1, 1) := by decide +kernel
theorem d_R_forceNumerator_14 : decode c_R_forceNumerator 14 = .ok (.iload_n 2, 1) := by decide +kernel
theorem d_R_forceNumerator_15 : decode c_R_forceNumerator 15 = .ok (.iload 5, 2) := by decide +kernel
theorem d_R_forceNumerator_17 : decode c_R_forceNumerator 17 = .ok (.invokevirtual 82, 3) := by decide +kernel
theorem d_R_forceNumerator_20 : decode c_R_forceNumerator 20 = .ok (.i2l, 1) := by decide +kernel
theorem d_R_forceNumerator_21 : decode c_R_forceNumerator 21 = .ok (.aload_n 0, 1) := by decide +kernel
theorem d_R_forceNumerator_22 : decode c_R_forceNumerator 22 = .ok (.getfield 19, 3) := by decide +kernel
theorem d_R_forceNumerator_25 : decode c_R_forceNumerator 25 = .ok (.iload 5, 2) := by decide +kernel
theorem d_R_forceNumerator_27 : decode c_R_forceNumerator 27 = .ok (.laload, 1) := by decide +kernel
theorem d_R_forceNumerator_28 : decode c_R_forceNumerator 28 = .ok (.lmul, 1) := by decide +kernel
theorem d_R_forceNumerator_29 : decode c_R_forceNumerator 29 = .ok (.ladd, 1) := by decide +kernel
theorem d_R_forceNumerator_30 : decode c_R_forceNumerator 30 = .ok (.lstore_n 3, 1) := by decide +kernel
theorem d_R_forceNumerator_31 : decode c_R_forceNumerator 31 = .ok (.iinc 5 1, 3) := by decide +kernel
theorem d_R_forceNumerator_34 : decode c_R_forceNumerator 34 = .ok (.goto (-29), 3) := by decide +kernel
theorem d_R_forceNumerator_37 : decode c_R_forceNumerator 37 = .ok (.aload_n 1, 1) := by decide +kernel
theorem d_R_forceNumerator_38 : decode c_R_forceNumerator 38 = .ok (.getfield 86, 3) := by decide +kernel
theorem d_R_forceNumerator_41 : decode c_R_forceNumerator 41 = .ok (.iload_n 2, 1) := by decide +kernel
theorem d_R_forceNumerator_42 : decode c_R_forceNumerator 42 = .ok (.iaload, 1) := by decide +kernel
theorem d_R_forceNumerator_43 : decode c_R_forceNumerator 43 = .ok (.i2l, 1) := by decide +kernel
theorem d_R_forceNumerator_44 : decode c_R_forceNumerator 44 = .ok (.lload_n 3, 1) := by decide +kernel
theorem d_R_forceNumerator_45 : decode c_R_forceNumerator 45 = .ok (.lmul, 1) := by decide +kernel
theorem d_R_forceNumerator_46 : decode c_R_forceNumerator 46 = .ok (.lreturn, 1) := by decide +kernel
theorem d_S_reaction_0 : decode c_S_reaction 0 = .ok (.iload_n 1, 1) := by decide +kernel
theorem d_S_reaction_1 : decode c_S_reaction 1 = .ok (.invokestatic 89, 3) := by decide +kernel
theorem d_S_reaction_4 : decode c_S_reaction 4 = .ok (.ifCond .eq 14, 3) := by decide +kernel
theorem d_S_reaction_7 : decode c_S_reaction 7 = .ok (.aload_n 0, 1) := by decide +kernel
theorem d_S_reaction_8 : decode c_S_reaction 8 = .ok (.iload_n 2, 1) := by decide +kernel
theorem d_S_reaction_9 : decode c_S_reaction 9 = .ok (.iload_n 3, 1) := by decide +kernel
theorem d_S_reaction_10 : decode c_S_reaction 10 = .ok (.iload 4, 2) := by decide +kernel
theorem d_S_reaction_12 : decode c_S_reaction 12 = .ok (.invokevirtual 116, 3) := by decide +kernel
theorem d_S_reaction_15 : decode c_S_reaction 15 = .ok (.ifCond .ne 7, 3) := by decide +kernel
theorem d_S_reaction_18 : decode c_S_reaction 18 = .ok (.ldc2_w 119, 3) := by decide +kernel
theorem d_S_reaction_21 : decode c_S_reaction 21 = .ok (.lreturn, 1) := by decide +kernel
theorem d_S_reaction_22 : decode c_S_reaction 22 = .ok (.iload_n 2, 1) := by decide +kernel
theorem d_S_reaction_23 : decode c_S_reaction 23 = .ok (.iload_n 3, 1) := by decide +kernel
theorem d_S_reaction_24 : decode c_S_reaction 24 = .ok (.invokestatic 74, 3) := by decide +kernel
theorem d_S_reaction_27 : decode c_S_reaction 27 = .ok (.istore 5, 2) := by decide +kernel
theorem d_S_reaction_29 : decode c_S_reaction 29 = .ok (.aload_n 0, 1) := by decide +kernel
theorem d_S_reaction_30 : decode c_S_reaction 30 = .ok (.getfield 12, 3) := by decide +kernel
theorem d_S_reaction_33 : decode c_S_reaction 33 = .ok (.getfield 78, 3) := by decide +kernel
theorem d_S_reaction_36 : decode c_S_reaction 36 = .ok (.iload 5, 2) := by decide +kernel
theorem d_S_reaction_38 : decode c_S_reaction 38 = .ok (.baload, 1) := by decide +kernel
theorem d_S_reaction_39 : decode c_S_reaction 39 = .ok (.ifCond .ne 7, 3) := by decide +kernel
theorem d_S_reaction_42 : decode c_S_reaction 42 = .ok (.ldc2_w 119, 3) := by decide +kernel
theorem d_S_reaction_45 : decode c_S_reaction 45 = .ok (.lreturn, 1) := by decide +kernel
theorem d_S_reaction_46 : decode c_S_reaction 46 = .ok (.aload_n 0, 1) := by decide +kernel
theorem d_S_reaction_47 : decode c_S_reaction 47 = .ok (.getfield 33, 3) := by decide +kernel
theorem d_S_reaction_50 : decode c_S_reaction 50 = .ok (.iload_n 1, 1) := by decide +kernel
theorem d_S_reaction_51 : decode c_S_reaction 51 = .ok (.invokevirtual 121, 3) := by decide +kernel
theorem d_S_reaction_54 : decode c_S_reaction 54 = .ok (.aload_n 0, 1) := by decide +kernel
theorem d_S_reaction_55 : decode c_S_reaction 55 = .ok (.getfield 33, 3) := by decide +kernel
theorem d_S_reaction_58 : decode c_S_reaction 58 = .ok (.aload_n 0, 1) := by decide +kernel
theorem d_S_reaction_59 : decode c_S_reaction 59 = .ok (.getfield 12, 3) := by decide +kernel
theorem d_S_reaction_62 : decode c_S_reaction 62 = .ok (.aload_n 0, 1) := by decide +kernel
theorem d_S_reaction_63 : decode c_S_reaction 63 = .ok (.getfield 19, 3) := by decide +kernel
theorem d_S_reaction_66 : decode c_S_reaction 66 = .ok (.aload_n 0, 1) := by decide +kernel
theorem d_S_reaction_67 : decode c_S_reaction 67 = .ok (.getfield 26, 3) := by decide +kernel
theorem d_S_reaction_70 : decode c_S_reaction 70 = .ok (.invokevirtual 124, 3) := by decide +kernel
theorem d_S_reaction_73 : decode c_S_reaction 73 = .ok (.aload_n 0, 1) := by decide +kernel
theorem d_S_reaction_74 : decode c_S_reaction 74 = .ok (.aload_n 0, 1) := by decide +kernel
theorem d_S_reaction_75 : decode c_S_reaction 75 = .ok (.getfield 33, 3) := by decide +kernel
theorem d_S_reaction_78 : decode c_S_reaction 78 = .ok (.aload_n 0, 1) := by decide +kernel
theorem d_S_reaction_79 : decode c_S_reaction 79 = .ok (.getfield 26, 3) := by decide +kernel
theorem d_S_reaction_82 : decode c_S_reaction 82 = .ok (.iload 5, 2) := by decide +kernel
theorem d_S_reaction_84 : decode c_S_reaction 84 = .ok (.invokevirtual 143, 3) := by decide +kernel
theorem d_S_reaction_87 : decode c_S_reaction 87 = .ok (.iload 4, 2) := by decide +kernel
theorem d_S_reaction_89 : decode c_S_reaction 89 = .ok (.invokevirtual 132, 3) := by decide +kernel
theorem d_S_reaction_92 : decode c_S_reaction 92 = .ok (.lreturn, 1) := by decide +kernel
end
section
theorem d_R_reactionNumerator_0 : decode c_R_reactionNumerator 0 = .ok (.aload_n 0, 1) := by decide +kernel
theorem d_R_reactionNumerator_1 : decode c_R_reactionNumerator 1 = .ok (.getfield 15, 3) := by decide +kernel
theorem d_R_reactionNumerator_4 : decode c_R_reactionNumerator 4 = .ok (.iload_n 2, 1) := by decide +kernel
theorem d_R_reactionNumerator_5 : decode c_R_reactionNumerator 5 = .ok (.laload, 1) := by decide +kernel
theorem d_R_reactionNumerator_6 : decode c_R_reactionNumerator 6 = .ok (.lneg, 1) := by decide +kernel
theorem d_R_reactionNumerator_7 : decode c_R_reactionNumerator 7 = .ok (.aload_n 0, 1) := by decide +kernel
theorem d_R_reactionNumerator_8 : decode c_R_reactionNumerator 8 = .ok (.getfield 28, 3) := by decide +kernel
theorem d_R_reactionNumerator_11 : decode c_R_reactionNumerator 11 = .ok (.lmul, 1) := by decide +kernel
theorem d_R_reactionNumerator_12 : decode c_R_reactionNumerator 12 = .ok (.lstore_n 3, 1) := by decide +kernel
theorem d_R_reactionNumerator_13 : decode c_R_reactionNumerator 13 = .ok (.iconst 0, 1) := by decide +kernel
theorem d_R_reactionNumerator_14 : decode c_R_reactionNumerator 14 = .ok (.istore 5, 2) := by decide +kernel
theorem d_R_reactionNumerator_16 : decode c_R_reactionNumerator 16 = .ok (.iload 5, 2) := by decide +kernel
theorem d_R_reactionNumerator_18 : decode c_R_reactionNumerator 18 = .ok (.bipush 10, 2) := by decide +kernel
theorem d_R_reactionNumerator_20 : decode c_R_reactionNumerator 20 = .ok (.if_icmp .ge 29, 3) := by decide +kernel
theorem d_R_reactionNumerator_23 : decode c_R_reactionNumerator 23 = .ok (.lload_n 3, 1) := by decide +kernel
theorem d_R_reactionNumerator_24 : decode c_R_reactionNumerator 24 = .ok (.aload_n 1, 1) := by decide +kernel
theorem d_R_reactionNumerator_25 : decode c_R_reactionNumerator 25 = .ok (.getfield 78, 3) := by decide +kernel
theorem d_R_reactionNumerator_28 : decode c_R_reactionNumerator 28 = .ok (.iload_n 2, 1) := by decide +kernel
theorem d_R_reactionNumerator_29 : decode c_R_reactionNumerator 29 = .ok (.aaload, 1) := by decide +kernel
theorem d_R_reactionNumerator_30 : decode c_R_reactionNumerator 30 = .ok (.iload 5, 2) := by decide +kernel
theorem d_R_reactionNumerator_32 : decode c_R_reactionNumerator 32 = .ok (.laload, 1) := by decide +kernel
theorem d_R_reactionNumerator_33 : decode c_R_reactionNumerator 33 = .ok (.aload_n 0, 1) := by decide +kernel
theorem d_R_reactionNumerator_34 : decode c_R_reactionNumerator 34 = .ok (.getfield 19, 3) := by decide +kernel
theorem d_R_reactionNumerator_37 : decode c_R_reactionNumerator 37 = .ok (.iload 5, 2) := by decide +kernel
theorem d_R_reactionNumerator_39 : decode c_R_reactionNumerator 39 = .ok (.laload, 1) := by decide +kernel
theorem d_R_reactionNumerator_40 : decode c_R_reactionNumerator 40 = .ok (.lmul, 1) := by decide +kernel
theorem d_R_reactionNumerator_41 : decode c_R_reactionNumerator 41 = .ok (.ladd, 1) := by decide +kernel
theorem d_R_reactionNumerator_42 : decode c_R_reactionNumerator 42 = .ok (.lstore_n 3, 1) := by decide +kernel
theorem d_R_reactionNumerator_43 : decode c_R_reactionNumerator 43 = .ok (.iinc 5 1, 3) := by decide +kernel
theorem d_R_reactionNumerator_46 : decode c_R_reactionNumerator 46 = .ok (.goto (-30), 3) := by decide +kernel
theorem d_R_reactionNumerator_49 : decode c_R_reactionNumerator 49 = .ok (.lload_n 3, 1) := by decide +kernel
theorem d_R_reactionNumerator_50 : decode c_R_reactionNumerator 50 = .ok (.lreturn, 1) := by decide +kernel
theorem d_S_combined_0 : decode c_S_combined 0 = .ok (.aload_n 0, 1) := by decide +kernel
theorem d_S_combined_1 : decode c_S_combined 1 = .ok (.iload_n 2, 1) := by decide +kernel
theorem d_S_combined_2 : decode c_S_combined 2 = .ok (.iload_n 3, 1) := by decide +kernel
theorem d_S_combined_3 : decode c_S_combined 3 = .ok (.iload 4, 2) := by decide +kernel
theorem d_S_combined_5 : decode c_S_combined 5 = .ok (.invokevirtual 116, 3) := by decide +kernel
theorem d_S_combined_8 : decode c_S_combined 8 = .ok (.ifCond .ne 7, 3) := by decide +kernel
theorem d_S_combined_11 : decode c_S_combined 11 = .ok (.ldc2_w 119, 3) := by decide +kernel
theorem d_S_combined_14 : decode c_S_combined 14 = .ok (.lreturn, 1) := by decide +kernel
theorem d_S_combined_15 : decode c_S_combined 15 = .ok (.aload_n 0, 1) := by decide +kernel
theorem d_S_combined_16 : decode c_S_combined 16 = .ok (.getfield 33, 3) := by decide +kernel
theorem d_S_combined_19 : decode c_S_combined 19 = .ok (.iload_n 1, 1) := by decide +kernel
theorem d_S_combined_20 : decode c_S_combined 20 = .ok (.invokevirtual 147, 3) := by decide +kernel
theorem d_S_combined_23 : decode c_S_combined 23 = .ok (.aload_n 0, 1) := by decide +kernel
theorem d_S_combined_24 : decode c_S_combined 24 = .ok (.getfield 33, 3) := by decide +kernel
theorem d_S_combined_27 : decode c_S_combined 27 = .ok (.aload_n 0, 1) := by decide +kernel
theorem d_S_combined_28 : decode c_S_combined 28 = .ok (.getfield 12, 3) := by decide +kernel
theorem d_S_combined_31 : decode c_S_combined 31 = .ok (.aload_n 0, 1) := by decide +kernel
theorem d_S_combined_32 : decode c_S_combined 32 = .ok (.getfield 19, 3) := by decide +kernel
theorem d_S_combined_35 : decode c_S_combined 35 = .ok (.aload_n 0, 1) := by decide +kernel
theorem d_S_combined_36 : decode c_S_combined 36 = .ok (.getfield 26, 3) := by decide +kernel
theorem d_S_combined_39 : decode c_S_combined 39 = .ok (.invokevirtual 124, 3) := by decide +kernel
theorem d_S_combined_42 : decode c_S_combined 42 = .ok (.aload_n 0, 1) := by decide +kernel
theorem d_S_combined_43 : decode c_S_combined 43 = .ok (.aload_n 0, 1) := by decide +kernel
theorem d_S_combined_44 : decode c_S_combined 44 = .ok (.getfield 33, 3) := by decide +kernel
theorem d_S_combined_47 : decode c_S_combined 47 = .ok (.getfield 128, 3) := by decide +kernel
theorem d_S_combined_50 : decode c_S_combined 50 = .ok (.iload_n 2, 1) := by decide +kernel
theorem d_S_combined_51 : decode c_S_combined 51 = .ok (.iload_n 3, 1) := by decide +kernel
theorem d_S_combined_52 : decode c_S_combined 52 = .ok (.invokestatic 74, 3) := by decide +kernel
theorem d_S_combined_55 : decode c_S_combined 55 = .ok (.laload, 1) := by decide +kernel
theorem d_S_combined_56 : decode c_S_combined 56 = .ok (.iload 4, 2) := by decide +kernel
theorem d_S_combined_58 : decode c_S_combined 58 = .ok (.invokevirtual 132, 3) := by decide +kernel
theorem d_S_combined_61 : decode c_S_combined 61 = .ok (.lreturn, 1) := by decide +kernel
theorem d_R_chooseFactors_0 : decode c_R_chooseFactors 0 = .ok (.iconst 0, 1) := by decide +kernel
theorem d_R_chooseFactors_1 : decode c_R_chooseFactors 1 = .ok (.istore_n 2, 1) := by decide +kernel
theorem d_R_chooseFactors_2 : decode c_R_chooseFactors 2 = .ok (.iload_n 2, 1) := by decide +kernel
theorem d_R_chooseFactors_3 : decode c_R_chooseFactors 3 = .ok (.iconst 4, 1) := by decide +kernel
theorem d_R_chooseFactors_4 : decode c_R_chooseFactors 4 = .ok (.if_icmp .ge 22, 3) := by decide +kernel
theorem d_R_chooseFactors_7 : decode c_R_chooseFactors 7 = .ok (.aload_n 0, 1) := by decide +kernel
theorem d_R_chooseFactors_8 : decode c_R_chooseFactors 8 = .ok (.getfield 9, 3) := by decide +kernel
theorem d_R_chooseFactors_11 : decode c_R_chooseFactors 11 = .ok (.iload_n 2, 1) := by decide +kernel
theorem d_R_chooseFactors_12 : decode c_R_chooseFactors 12 = .ok (.iload_n 1, 1) := by decide +kernel
theorem d_R_chooseFactors_13 : decode c_R_chooseFactors 13 = .ok (.bipush 8, 2) := by decide +kernel
theorem d_R_chooseFactors_15 : decode c_R_chooseFactors 15 = .ok (.iload_n 2, 1) := by decide +kernel
theorem d_R_chooseFactors_16 : decode c_R_chooseFactors 16 = .ok (.imul, 1) := by decide +kernel
theorem d_R_chooseFactors_17 : decode c_R_chooseFactors 17 = .ok (.ishr, 1) := by decide +kernel
theorem d_R_chooseFactors_18 : decode c_R_chooseFactors 18 = .ok (.i2b, 1) := by decide +kernel
theorem d_R_chooseFactors_19 : decode c_R_chooseFactors 19 = .ok (.iastore, 1) := by decide +kernel
theorem d_R_chooseFactors_20 : decode c_R_chooseFactors 20 = .ok (.iinc 2 1, 3) := by decide +kernel
theorem d_R_chooseFactors_23 : decode c_R_chooseFactors 23 = .ok (.goto (-21), 3) := by decide +kernel
theorem d_R_chooseFactors_26 : decode c_R_chooseFactors 26 = .ok (.return_, 1) := by decide +kernel
theorem d_S_determinant_0 : decode c_S_determinant 0 = .ok (.aload_n 0, 1) := by decide +kernel
theorem d_S_determinant_1 : decode c_S_determinant 1 = .ok (.getfield 37, 3) := by decide +kernel
theorem d_S_determinant_4 : decode c_S_determinant 4 = .ok (.ifCond .eq 13, 3) := by decide +kernel
theorem d_S_determinant_7 : decode c_S_determinant 7 = .ok (.aload_n 0, 1) := by decide +kernel
theorem d_S_determinant_8 : decode c_S_determinant 8 = .ok (.getfield 26, 3) := by decide +kernel
theorem d_S_determinant_11 : decode c_S_determinant 11 = .ok (.invokevirtual 150, 3) := by decide +kernel
theorem d_S_determinant_14 : decode c_S_determinant 14 = .ok (.goto 6, 3) := by decide +kernel
theorem d_S_determinant_17 : decode c_S_determinant 17 = .ok (.ldc2_w 119, 3) := by decide +kernel
theorem d_S_determinant_20 : decode c_S_determinant 20 = .ok (.lreturn, 1) := by decide +kernel
theorem d_S_order_0 : decode c_S_order 0 = .ok (.aload_n 0, 1) := by decide +kernel
theorem d_S_order_1 : decode c_S_order 1 = .ok (.getfield 37, 3) := by decide +kernel
theorem d_S_order_4 : decode c_S_order 4 = .ok (.ifCond .eq 18, 3) := by decide +kernel
theorem d_S_order_7 : decode c_S_order 7 = .ok (.iload_n 1, 1) := by decide +kernel
theorem d_S_order_8 : decode c_S_order 8 = .ok (.ifCond .lt 14, 3) := by decide +kernel
theorem d_S_order_11 : decode c_S_order 11 = .ok (.iload_n 1, 1) := by decide +kernel
theorem d_S_order_12 : decode c_S_order 12 = .ok (.aload_n 0, 1) := by decide +kernel
theorem d_S_order_13 : decode c_S_order 13 = .ok (.getfield 19, 3) := by decide +kernel
theorem d_S_order_16 : decode c_S_order 16 = .ok (.getfield 154, 3) := by decide +kernel
theorem d_S_order_19 : decode c_S_order 19 = .ok (.if_icmp .lt 5, 3) := by decide +kernel
theorem d_S_order_22 : decode c_S_order 22 = .ok (.iconst (-1), 1) := by decide +kernel
theorem d_S_order_23 : decode c_S_order 23 = .ok (.ireturn, 1) := by decide +kernel
theorem d_S_order_24 : decode c_S_order 24 = .ok (.aload_n 0, 1) := by decide +kernel
theorem d_S_order_25 : decode c_S_order 25 = .ok (.getfield 19, 3) := by decide +kernel
theorem d_S_order_28 : decode c_S_order 28 = .ok (.getfield 157, 3) := by decide +kernel
theorem d_S_order_31 : decode c_S_order 31 = .ok (.iload_n 1, 1) := by decide +kernel
theorem d_S_order_32 : decode c_S_order 32 = .ok (.iaload, 1) := by decide +kernel
theorem d_S_order_33 : decode c_S_order 33 = .ok (.ireturn, 1) := by decide +kernel
theorem d_S_unknown_0 : decode c_S_unknown 0 = .ok (.aload_n 0, 1) := by decide +kernel
theorem d_S_unknown_1 : decode c_S_unknown 1 = .ok (.getfield 37, 3) := by decide +kernel
theorem d_S_unknown_4 : decode c_S_unknown 4 = .ok (.ifCond .eq 18, 3) := by decide +kernel
theorem d_S_unknown_7 : decode c_S_unknown 7 = .ok (.aload_n 0, 1) := by decide +kernel
theorem d_S_unknown_8 : decode c_S_unknown 8 = .ok (.iload_n 1, 1) := by decide +kernel
theorem d_S_unknown_9 : decode c_S_unknown 9 = .ok (.invokevirtual 160, 3) := by decide +kernel
theorem d_S_unknown_12 : decode c_S_unknown 12 = .ok (.ifCond .eq 10, 3) := by decide +kernel
theorem d_S_unknown_15 : decode c_S_unknown 15 = .ok (.iload_n 2, 1) := by decide +kernel
theorem d_S_unknown_16 : decode c_S_unknown 16 = .ok (.invokestatic 71, 3) := by decide +kernel
theorem d_S_unknown_19 : decode c_S_unknown 19 = .ok (.ifCond .ne 5, 3) := by decide +kernel
theorem d_S_unknown_22 : decode c_S_unknown 22 = .ok (.iconst (-1), 1) := by decide +kernel
theorem d_S_unknown_23 : decode c_S_unknown 23 = .ok (.ireturn, 1) := by decide +kernel
theorem d_S_unknown_24 : decode c_S_unknown 24 = .ok (.aload_n 0, 1) := by decide +kernel
theorem d_S_unknown_25 : decode c_S_unknown 25 = .ok (.getfield 19, 3) := by decide +kernel
theorem d_S_unknown_28 : decode c_S_unknown 28 = .ok (.getfield 163, 3) := by decide +kernel
theorem d_S_unknown_31 : decode c_S_unknown 31 = .ok (.iload_n 1, 1) := by decide +kernel
theorem d_S_unknown_32 : decode c_S_unknown 32 = .ok (.iload_n 2, 1) := by decide +kernel
theorem d_S_unknown_33 : decode c_S_unknown 33 = .ok (.invokestatic 74, 3) := by decide +kernel
theorem d_S_unknown_36 : decode c_S_unknown 36 = .ok (.iaload, 1) := by decide +kernel
theorem d_S_unknown_37 : decode c_S_unknown 37 = .ok (.ireturn, 1) := by decide +kernel
theorem d_S_count_0 : decode c_S_count 0 = .ok (.iload_n 1, 1) := by decide +kernel
theorem d_S_count_1 : decode c_S_count 1 = .ok (.tableswitch 102 0 4 #[35, 43, 51, 64, 83], 35) := by decide +kernel
theorem d_S_count_36 : decode c_S_count 36 = .ok (.aload_n 0, 1) := by decide +kernel
theorem d_S_count_37 : decode c_S_count 37 = .ok (.getfield 12, 3) := by decide +kernel
theorem d_S_count_40 : decode c_S_count 40 = .ok (.invokevirtual 96, 3) := by decide +kernel
theorem d_S_count_43 : decode c_S_count 43 = .ok (.ireturn, 1) := by decide +kernel
theorem d_S_count_44 : decode c_S_count 44 = .ok (.aload_n 0, 1) := by decide +kernel
theorem d_S_count_45 : decode c_S_count 45 = .ok (.getfield 12, 3) := by decide +kernel
theorem d_S_count_48 : decode c_S_count 48 = .ok (.getfield 56, 3) := by decide +kernel
theorem d_S_count_51 : decode c_S_count 51 = .ok (.ireturn, 1) := by decide +kernel
theorem d_S_count_52 : decode c_S_count 52 = .ok (.aload_n 0, 1) := by decide +kernel
theorem d_S_count_53 : decode c_S_count 53 = .ok (.getfield 37, 3) := by decide +kernel
theorem d_S_count_56 : decode c_S_count 56 = .ok (.ifCond .eq 7, 3) := by decide +kernel
theorem d_S_count_59 : decode c_S_count 59 = .ok (.iconst 1, 1) := by decide +kernel
theorem d_S_count_60 : decode c_S_count 60 = .ok (.goto 4, 3) := by decide +kernel
theorem d_S_count_63 : decode c_S_count 63 = .ok (.iconst 0, 1) := by decide +kernel
theorem d_S_count_64 : decode c_S_count 64 = .ok (.ireturn, 1) := by decide +kernel
theorem d_S_count_65 : decode c_S_count 65 = .ok (.aload_n 0, 1) := by decide +kernel
theorem d_S_count_66 : decode c_S_count 66 = .ok (.getfield 37, 3) := by decide +kernel
theorem d_S_count_69 : decode c_S_count 69 = .ok (.ifCond .eq 13, 3) := by decide +kernel
theorem d_S_count_72 : decode c_S_count 72 = .ok (.aload_n 0, 1) := by decide +kernel
theorem d_S_count_73 : decode c_S_count 73 = .ok (.getfield 19, 3) := by decide +kernel
theorem d_S_count_76 : decode c_S_count 76 = .ok (.getfield 113, 3) := by decide +kernel
theorem d_S_count_79 : decode c_S_count 79 = .ok (.goto 4, 3) := by decide +kernel
theorem d_S_count_82 : decode c_S_count 82 = .ok (.iconst 0, 1) := by decide +kernel
theorem d_S_count_83 : decode c_S_count 83 = .ok (.ireturn, 1) := by decide +kernel
theorem d_S_count_84 : decode c_S_count 84 = .ok (.aload_n 0, 1) := by decide +kernel
theorem d_S_count_85 : decode c_S_count 85 = .ok (.getfield 37, 3) := by decide +kernel
theorem d_S_count_88 : decode c_S_count 88 = .ok (.ifCond .eq 13, 3) := by decide +kernel
theorem d_S_count_91 : decode c_S_count 91 = .ok (.aload_n 0, 1) := by decide +kernel
theorem d_S_count_92 : decode c_S_count 92 = .ok (.getfield 26, 3) := by decide +kernel
theorem d_S_count_95 : decode c_S_count 95 = .ok (.invokevirtual 166, 3) := by decide +kernel
theorem d_S_count_98 : decode c_S_count 98 = .ok (.goto 4, 3) := by decide +kernel
theorem d_S_count_101 : decode c_S_count 101 = .ok (.iconst 0, 1) := by decide +kernel
theorem d_S_count_102 : decode c_S_count 102 = .ok (.ireturn, 1) := by decide +kernel
theorem d_S_count_103 : decode c_S_count 103 = .ok (.iconst (-1), 1) := by decide +kernel
theorem d_S_count_104 : decode c_S_count 104 = .ok (.ireturn, 1) := by decide +kernel
theorem d_E_profile_0 : decode c_E_profile 0 = .ok (.iconst 0, 1) := by decide +kernel
theorem d_E_profile_1 : decode c_E_profile 1 = .ok (.istore_n 1, 1) := by decide +kernel
theorem d_E_profile_2 : decode c_E_profile 2 = .ok (.iconst 0, 1) := by decide +kernel
theorem d_E_profile_3 : decode c_E_profile 3 = .ok (.istore_n 2, 1) := by decide +kernel
theorem d_E_profile_4 : decode c_E_profile 4 = .ok (.iload_n 2, 1) := by decide +kernel
theorem d_E_profile_5 : decode c_E_profile 5 = .ok (.aload_n 0, 1) := by decide +kernel
theorem d_E_profile_6 : decode c_E_profile 6 = .ok (.getfield 19, 3) := by decide +kernel
theorem d_E_profile_9 : decode c_E_profile 9 = .ok (.if_icmp .ge 41, 3) := by decide +kernel
theorem d_E_profile_12 : decode c_E_profile 12 = .ok (.iconst 0, 1) := by decide +kernel
theorem d_E_profile_13 : decode c_E_profile 13 = .ok (.istore_n 3, 1) := by decide +kernel
theorem d_E_profile_14 : decode c_E_profile 14 = .ok (.iload_n 3, 1) := by decide +kernel
theorem d_E_profile_15 : decode c_E_profile 15 = .ok (.iload_n 2, 1) := by decide +kernel
theorem d_E_profile_16 : decode c_E_profile 16 = .ok (.if_icmp .ge 22, 3) := by decide +kernel
theorem d_E_profile_19 : decode c_E_profile 19 = .ok (.aload_n 0, 1) := by decide +kernel
theorem d_E_profile_20 : decode c_E_profile 20 = .ok (.getfield 16, 3) := by decide +kernel
theorem d_E_profile_23 : decode c_E_profile 23 = .ok (.iload_n 2, 1) := by decide +kernel
theorem d_E_profile_24 : decode c_E_profile 24 = .ok (.aaload, 1) := by decide +kernel
theorem d_E_profile_25 : decode c_E_profile 25 = .ok (.iload_n 3, 1) := by decide +kernel
theorem d_E_profile_26 : decode c_E_profile 26 = .ok (.laload, 1) := by decide +kernel
theorem d_E_profile_27 : decode c_E_profile 27 = .ok (.lconst 0, 1) := by decide +kernel
theorem d_E_profile_28 : decode c_E_profile 28 = .ok (.lcmp, 1) := by decide +kernel
theorem d_E_profile_29 : decode c_E_profile 29 = .ok (.ifCond .ne 9, 3) := by decide +kernel
theorem d_E_profile_32 : decode c_E_profile 32 = .ok (.iinc 3 1, 3) := by decide +kernel
theorem d_E_profile_35 : decode c_E_profile 35 = .ok (.goto (-21), 3) := by decide +kernel
theorem d_E_profile_38 : decode c_E_profile 38 = .ok (.iload_n 1, 1) := by decide +kernel
theorem d_E_profile_39 : decode c_E_profile 39 = .ok (.iload_n 2, 1) := by decide +kernel
theorem d_E_profile_40 : decode c_E_profile 40 = .ok (.iload_n 3, 1) := by decide +kernel
theorem d_E_profile_41 : decode c_E_profile 41 = .ok (.isub, 1) := by decide +kernel
theorem d_E_profile_42 : decode c_E_profile 42 = .ok (.iadd, 1) := by decide +kernel
theorem d_E_profile_43 : decode c_E_profile 43 = .ok (.istore_n 1, 1) := by decide +kernel
theorem d_E_profile_44 : decode c_E_profile 44 = .ok (.iinc 2 1, 3) := by decide +kernel
theorem d_E_profile_47 : decode c_E_profile 47 = .ok (.goto (-43), 3) := by decide +kernel
theorem d_E_profile_50 : decode c_E_profile 50 = .ok (.iload_n 1, 1) := by decide +kernel
theorem d_E_profile_51 : decode c_E_profile 51 = .ok (.ireturn, 1) := by decide +kernel
end
section
theorem d_M_init_0 : decode c_M_init 0 = .ok (.aload_n 0, 1) := by decide +kernel
theorem d_M_init_1 : decode c_M_init 1 = .ok (.invokespecial 1, 3) := by decide +kernel
theorem d_M_init_4 : decode c_M_init 4 = .ok (.aload_n 0, 1) := by decide +kernel
theorem d_M_init_5 : decode c_M_init 5 = .ok (.iconst 5, 1) := by decide +kernel
theorem d_M_init_6 : decode c_M_init 6 = .ok (.newarray .boolean, 2) := by decide +kernel
theorem d_M_init_8 : decode c_M_init 8 = .ok (.putfield 7, 3) := by decide +kernel
theorem d_M_init_11 : decode c_M_init 11 = .ok (.aload_n 0, 1) := by decide +kernel
theorem d_M_init_12 : decode c_M_init 12 = .ok (.iconst 5, 1) := by decide +kernel
theorem d_M_init_13 : decode c_M_init 13 = .ok (.newarray .int, 2) := by decide +kernel
theorem d_M_init_15 : decode c_M_init 15 = .ok (.putfield 13, 3) := by decide +kernel
theorem d_M_init_18 : decode c_M_init 18 = .ok (.aload_n 0, 1) := by decide +kernel
theorem d_M_init_19 : decode c_M_init 19 = .ok (.iconst 5, 1) := by decide +kernel
theorem d_M_init_20 : decode c_M_init 20 = .ok (.newarray .int, 2) := by decide +kernel
theorem d_M_init_22 : decode c_M_init 22 = .ok (.putfield 17, 3) := by decide +kernel
theorem d_M_init_25 : decode c_M_init 25 = .ok (.aload_n 0, 1) := by decide +kernel
theorem d_M_init_26 : decode c_M_init 26 = .ok (.bipush 10, 2) := by decide +kernel
theorem d_M_init_28 : decode c_M_init 28 = .ok (.newarray .int, 2) := by decide +kernel
theorem d_M_init_30 : decode c_M_init 30 = .ok (.putfield 20, 3) := by decide +kernel
theorem d_M_init_33 : decode c_M_init 33 = .ok (.aload_n 0, 1) := by decide +kernel
theorem d_M_init_34 : decode c_M_init 34 = .ok (.bipush 10, 2) := by decide +kernel
theorem d_M_init_36 : decode c_M_init 36 = .ok (.newarray .int, 2) := by decide +kernel
theorem d_M_init_38 : decode c_M_init 38 = .ok (.putfield 23, 3) := by decide +kernel
theorem d_M_init_41 : decode c_M_init 41 = .ok (.aload_n 0, 1) := by decide +kernel
theorem d_M_init_42 : decode c_M_init 42 = .ok (.bipush 10, 2) := by decide +kernel
theorem d_M_init_44 : decode c_M_init 44 = .ok (.newarray .int, 2) := by decide +kernel
theorem d_M_init_46 : decode c_M_init 46 = .ok (.putfield 26, 3) := by decide +kernel
theorem d_M_init_49 : decode c_M_init 49 = .ok (.aload_n 0, 1) := by decide +kernel
theorem d_M_init_50 : decode c_M_init 50 = .ok (.bipush 10, 2) := by decide +kernel
theorem d_M_init_52 : decode c_M_init 52 = .ok (.newarray .boolean, 2) := by decide +kernel
theorem d_M_init_54 : decode c_M_init 54 = .ok (.putfield 29, 3) := by decide +kernel
theorem d_M_init_57 : decode c_M_init 57 = .ok (.aload_n 0, 1) := by decide +kernel
theorem d_M_init_58 : decode c_M_init 58 = .ok (.bipush 10, 2) := by decide +kernel
theorem d_M_init_60 : decode c_M_init 60 = .ok (.newarray .int, 2) := by decide +kernel
theorem d_M_init_62 : decode c_M_init 62 = .ok (.putfield 32, 3) := by decide +kernel
theorem d_M_init_65 : decode c_M_init 65 = .ok (.aload_n 0, 1) := by decide +kernel
theorem d_M_init_66 : decode c_M_init 66 = .ok (.bipush 10, 2) := by decide +kernel
theorem d_M_init_68 : decode c_M_init 68 = .ok (.newarray .int, 2) := by decide +kernel
theorem d_M_init_70 : decode c_M_init 70 = .ok (.putfield 35, 3) := by decide +kernel
theorem d_M_init_73 : decode c_M_init 73 = .ok (.aload_n 0, 1) := by decide +kernel
theorem d_M_init_74 : decode c_M_init 74 = .ok (.bipush 40, 2) := by decide +kernel
theorem d_M_init_76 : decode c_M_init 76 = .ok (.newarray .int, 2) := by decide +kernel
theorem d_M_init_78 : decode c_M_init 78 = .ok (.putfield 38, 3) := by decide +kernel
theorem d_M_init_81 : decode c_M_init 81 = .ok (.aload_n 0, 1) := by decide +kernel
theorem d_M_init_82 : decode c_M_init 82 = .ok (.iconst 5, 1) := by decide +kernel
theorem d_M_init_83 : decode c_M_init 83 = .ok (.newarray .int, 2) := by decide +kernel
theorem d_M_init_85 : decode c_M_init 85 = .ok (.putfield 41, 3) := by decide +kernel
theorem d_M_init_88 : decode c_M_init 88 = .ok (.aload_n 0, 1) := by decide +kernel
theorem d_M_init_89 : decode c_M_init 89 = .ok (.bipush 10, 2) := by decide +kernel
theorem d_M_init_91 : decode c_M_init 91 = .ok (.newarray .int, 2) := by decide +kernel
theorem d_M_init_93 : decode c_M_init 93 = .ok (.putfield 44, 3) := by decide +kernel
theorem d_M_init_96 : decode c_M_init 96 = .ok (.aload_n 0, 1) := by decide +kernel
theorem d_M_init_97 : decode c_M_init 97 = .ok (.bipush 100, 2) := by decide +kernel
theorem d_M_init_99 : decode c_M_init 99 = .ok (.newarray .int, 2) := by decide +kernel
theorem d_M_init_101 : decode c_M_init 101 = .ok (.putfield 47, 3) := by decide +kernel
theorem d_M_init_104 : decode c_M_init 104 = .ok (.aload_n 0, 1) := by decide +kernel
theorem d_M_init_105 : decode c_M_init 105 = .ok (.bipush 10, 2) := by decide +kernel
theorem d_M_init_107 : decode c_M_init 107 = .ok (.newarray .long, 2) := by decide +kernel
theorem d_M_init_109 : decode c_M_init 109 = .ok (.putfield 50, 3) := by decide +kernel
theorem d_M_init_112 : decode c_M_init 112 = .ok (.aload_n 0, 1) := by decide +kernel
theorem d_M_init_113 : decode c_M_init 113 = .ok (.bipush 100, 2) := by decide +kernel
theorem d_M_init_115 : decode c_M_init 115 = .ok (.newarray .long, 2) := by decide +kernel
theorem d_M_init_117 : decode c_M_init 117 = .ok (.putfield 54, 3) := by decide +kernel
theorem d_M_init_120 : decode c_M_init 120 = .ok (.return_, 1) := by decide +kernel
theorem d_M_node_0 : decode c_M_node 0 = .ok (.aload_n 0, 1) := by decide +kernel
theorem d_M_node_1 : decode c_M_node 1 = .ok (.iload_n 1, 1) := by decide +kernel
theorem d_M_node_2 : decode c_M_node 2 = .ok (.iconst 4, 1) := by decide +kernel
theorem d_M_node_3 : decode c_M_node 3 = .ok (.invokevirtual 57, 3) := by decide +kernel
theorem d_M_node_6 : decode c_M_node 6 = .ok (.ifCond .ne 21, 3) := by decide +kernel
theorem d_M_node_9 : decode c_M_node 9 = .ok (.aload_n 0, 1) := by decide +kernel
theorem d_M_node_10 : decode c_M_node 10 = .ok (.iload_n 2, 1) := by decide +kernel
theorem d_M_node_11 : decode c_M_node 11 = .ok (.iconst 4, 1) := by decide +kernel
theorem d_M_node_12 : decode c_M_node 12 = .ok (.invokevirtual 57, 3) := by decide +kernel
theorem d_M_node_15 : decode c_M_node 15 = .ok (.ifCond .ne 12, 3) := by decide +kernel
theorem d_M_node_18 : decode c_M_node 18 = .ok (.aload_n 0, 1) := by decide +kernel
theorem d_M_node_19 : decode c_M_node 19 = .ok (.iload_n 3, 1) := by decide +kernel
theorem d_M_node_20 : decode c_M_node 20 = .ok (.iconst 4, 1) := by decide +kernel
theorem d_M_node_21 : decode c_M_node 21 = .ok (.invokevirtual 57, 3) := by decide +kernel
theorem d_M_node_24 : decode c_M_node 24 = .ok (.ifCond .eq 5, 3) := by decide +kernel
theorem d_M_node_27 : decode c_M_node 27 = .ok (.iconst (-1), 1) := by decide +kernel
theorem d_M_node_28 : decode c_M_node 28 = .ok (.ireturn, 1) := by decide +kernel
theorem d_M_node_29 : decode c_M_node 29 = .ok (.aload_n 0, 1) := by decide +kernel
theorem d_M_node_30 : decode c_M_node 30 = .ok (.getfield 61, 3) := by decide +kernel
theorem d_M_node_33 : decode c_M_node 33 = .ok (.ifCond .eq 6, 3) := by decide +kernel
theorem d_M_node_36 : decode c_M_node 36 = .ok (.bipush (-4), 2) := by decide +kernel
theorem d_M_node_38 : decode c_M_node 38 = .ok (.ireturn, 1) := by decide +kernel
theorem d_M_node_39 : decode c_M_node 39 = .ok (.iconst 0, 1) := by decide +kernel
theorem d_M_node_40 : decode c_M_node 40 = .ok (.istore 4, 2) := by decide +kernel
theorem d_M_node_42 : decode c_M_node 42 = .ok (.iload 4, 2) := by decide +kernel
theorem d_M_node_44 : decode c_M_node 44 = .ok (.iconst 5, 1) := by decide +kernel
theorem d_M_node_45 : decode c_M_node 45 = .ok (.if_icmp .ge 50, 3) := by decide +kernel
theorem d_M_node_48 : decode c_M_node 48 = .ok (.iload 4, 2) := by decide +kernel
theorem d_M_node_50 : decode c_M_node 50 = .ok (.iload_n 1, 1) := by decide +kernel
theorem d_M_node_51 : decode c_M_node 51 = .ok (.if_icmp .eq 38, 3) := by decide +kernel
theorem d_M_node_54 : decode c_M_node 54 = .ok (.aload_n 0, 1) := by decide +kernel
theorem d_M_node_55 : decode c_M_node 55 = .ok (.getfield 7, 3) := by decide +kernel
theorem d_M_node_58 : decode c_M_node 58 = .ok (.iload 4, 2) := by decide +kernel
theorem d_M_node_60 : decode c_M_node 60 = .ok (.baload, 1) := by decide +kernel
theorem d_M_node_61 : decode c_M_node 61 = .ok (.ifCond .eq 28, 3) := by decide +kernel
theorem d_M_node_64 : decode c_M_node 64 = .ok (.aload_n 0, 1) := by decide +kernel
theorem d_M_node_65 : decode c_M_node 65 = .ok (.getfield 13, 3) := by decide +kernel
theorem d_M_node_68 : decode c_M_node 68 = .ok (.iload 4, 2) := by decide +kernel
theorem d_M_node_70 : decode c_M_node 70 = .ok (.iaload, 1) := by decide +kernel
theorem d_M_node_71 : decode c_M_node 71 = .ok (.iload_n 2, 1) := by decide +kernel
theorem d_M_node_72 : decode c_M_node 72 = .ok (.if_icmp .ne 17, 3) := by decide +kernel
theorem d_M_node_75 : decode c_M_node 75 = .ok (.aload_n 0, 1) := by decide +kernel
theorem d_M_node_76 : decode c_M_node 76 = .ok (.getfield 17, 3) := by decide +kernel
theorem d_M_node_79 : decode c_M_node 79 = .ok (.iload 4, 2) := by decide +kernel
theorem d_M_node_81 : decode c_M_node 81 = .ok (.iaload, 1) := by decide +kernel
theorem d_M_node_82 : decode c_M_node 82 = .ok (.iload_n 3, 1) := by decide +kernel
theorem d_M_node_83 : decode c_M_node 83 = .ok (.if_icmp .ne 6, 3) := by decide +kernel
theorem d_M_node_86 : decode c_M_node 86 = .ok (.bipush (-2), 2) := by decide +kernel
theorem d_M_node_88 : decode c_M_node 88 = .ok (.ireturn, 1) := by decide +kernel
theorem d_M_node_89 : decode c_M_node 89 = .ok (.iinc 4 1, 3) := by decide +kernel
theorem d_M_node_92 : decode c_M_node 92 = .ok (.goto (-50), 3) := by decide +kernel
theorem d_M_node_95 : decode c_M_node 95 = .ok (.aload_n 0, 1) := by decide +kernel
theorem d_M_node_96 : decode c_M_node 96 = .ok (.getfield 7, 3) := by decide +kernel
theorem d_M_node_99 : decode c_M_node 99 = .ok (.iload_n 1, 1) := by decide +kernel
theorem d_M_node_100 : decode c_M_node 100 = .ok (.iconst 1, 1) := by decide +kernel
theorem d_M_node_101 : decode c_M_node 101 = .ok (.bastore, 1) := by decide +kernel
theorem d_M_node_102 : decode c_M_node 102 = .ok (.aload_n 0, 1) := by decide +kernel
theorem d_M_node_103 : decode c_M_node 103 = .ok (.getfield 13, 3) := by decide +kernel
theorem d_M_node_106 : decode c_M_node 106 = .ok (.iload_n 1, 1) := by decide +kernel
theorem d_M_node_107 : decode c_M_node 107 = .ok (.iload_n 2, 1) := by decide +kernel
theorem d_M_node_108 : decode c_M_node 108 = .ok (.iastore, 1) := by decide +kernel
theorem d_M_node_109 : decode c_M_node 109 = .ok (.aload_n 0, 1) := by decide +kernel
theorem d_M_node_110 : decode c_M_node 110 = .ok (.getfield 17, 3) := by decide +kernel
theorem d_M_node_113 : decode c_M_node 113 = .ok (.iload_n 1, 1) := by decide +kernel
theorem d_M_node_114 : decode c_M_node 114 = .ok (.iload_n 3, 1) := by decide +kernel
theorem d_M_node_115 : decode c_M_node 115 = .ok (.iastore, 1) := by decide +kernel
theorem d_M_node_116 : decode c_M_node 116 = .ok (.iconst 0, 1) := by decide +kernel
theorem d_M_node_117 : decode c_M_node 117 = .ok (.ireturn, 1) := by decide +kernel
theorem d_M_off_0 : decode c_M_off 0 = .ok (.iload_n 1, 1) := by decide +kernel
theorem d_M_off_1 : decode c_M_off 1 = .ok (.ifCond .lt 8, 3) := by decide +kernel
theorem d_M_off_4 : decode c_M_off 4 = .ok (.iload_n 1, 1) := by decide +kernel
theorem d_M_off_5 : decode c_M_off 5 = .ok (.iload_n 2, 1) := by decide +kernel
theorem d_M_off_6 : decode c_M_off 6 = .ok (.if_icmp .le 7, 3) := by decide +kernel
theorem d_M_off_9 : decode c_M_off 9 = .ok (.iconst 1, 1) := by decide +kernel
theorem d_M_off_10 : decode c_M_off 10 = .ok (.goto 4, 3) := by decide +kernel
theorem d_M_off_13 : decode c_M_off 13 = .ok (.iconst 0, 1) := by decide +kernel
theorem d_M_off_14 : decode c_M_off 14 = .ok (.ireturn, 1) := by decide +kernel
theorem d_M_bar_0 : decode c_M_bar 0 = .ok (.aload_n 0, 1) := by decide +kernel
theorem d_M_bar_1 : decode c_M_bar 1 = .ok (.iload_n 1, 1) := by decide +kernel
theorem d_M_bar_2 : decode c_M_bar 2 = .ok (.iconst 4, 1) := by decide +kernel
theorem d_M_bar_3 : decode c_M_bar 3 = .ok (.invokevirtual 57, 3) := by decide +kernel
theorem d_M_bar_6 : decode c_M_bar 6 = .ok (.ifCond .ne 27, 3) := by decide +kernel
theorem d_M_bar_9 : decode c_M_bar 9 = .ok (.aload_n 0, 1) := by decide +kernel
theorem d_M_bar_10 : decode c_M_bar 10 = .ok (.iload_n 2, 1) := by decide +kernel
theorem d_M_bar_11 : decode c_M_bar 11 = .ok (.iconst 4, 1) := by decide +kernel
theorem d_M_bar_12 : decode c_M_bar 12 = .ok (.invokevirtual 57, 3) := by decide +kernel
theorem d_M_bar_15 : decode c_M_bar 15 = .ok (.ifCond .ne 18, 3) := by decide +kernel
theorem d_M_bar_18 : decode c_M_bar 18 = .ok (.iload_n 3, 1) := by decide +kernel
theorem d_M_bar_19 : decode c_M_bar 19 = .ok (.iconst 1, 1) := by decide +kernel
theorem d_M_bar_20 : decode c_M_bar 20 = .ok (.if_icmp .lt 13, 3) := by decide +kernel
theorem d_M_bar_23 : decode c_M_bar 23 = .ok (.iload_n 3, 1) := by decide +kernel
theorem d_M_bar_24 : decode c_M_bar 24 = .ok (.iconst 3, 1) := by decide +kernel
theorem d_M_bar_25 : decode c_M_bar 25 = .ok (.if_icmp .gt 8, 3) := by decide +kernel
theorem d_M_bar_28 : decode c_M_bar 28 = .ok (.iload_n 1, 1) := by decide +kernel
theorem d_M_bar_29 : decode c_M_bar 29 = .ok (.iload_n 2, 1) := by decide +kernel
theorem d_M_bar_30 : decode c_M_bar 30 = .ok (.if_icmp .ne 5, 3) := by decide +kernel
theorem d_M_bar_33 : decode c_M_bar 33 = .ok (.iconst (-1), 1) := by decide +kernel
theorem d_M_bar_34 : decode c_M_bar 34 = .ok (.ireturn, 1) := by decide +kernel
theorem d_M_bar_35 : decode c_M_bar 35 = .ok (.aload_n 0, 1) := by decide +kernel
theorem d_M_bar_36 : decode c_M_bar 36 = .ok (.getfield 61, 3) := by decide +kernel
theorem d_M_bar_39 : decode c_M_bar 39 = .ok (.ifCond .eq 6, 3) := by decide +kernel
theorem d_M_bar_42 : decode c_M_bar 42 = .ok (.bipush (-4), 2) := by decide +kernel
theorem d_M_bar_44 : decode c_M_bar 44 = .ok (.ireturn, 1) := by decide +kernel
theorem d_M_bar_45 : decode c_M_bar 45 = .ok (.aload_n 0, 1) := by decide +kernel
theorem d_M_bar_46 : decode c_M_bar 46 = .ok (.getfield 65, 3) := by decide +kernel
theorem d_M_bar_49 : decode c_M_bar 49 = .ok (.bipush 10, 2) := by decide +kernel
theorem d_M_bar_51 : decode c_M_bar 51 = .ok (.if_icmp .ne 6, 3) := by decide +kernel
theorem d_M_bar_54 : decode c_M_bar 54 = .ok (.bipush (-3), 2) := by decide +kernel
theorem d_M_bar_56 : decode c_M_bar 56 = .ok (.ireturn, 1) := by decide +kernel
theorem d_M_bar_57 : decode c_M_bar 57 = .ok (.aload_n 0, 1) := by decide +kernel
theorem d_M_bar_58 : decode c_M_bar 58 = .ok (.getfield 20, 3) := by decide +kernel
theorem d_M_bar_61 : decode c_M_bar 61 = .ok (.aload_n 0, 1) := by decide +kernel
theorem d_M_bar_62 : decode c_M_bar 62 = .ok (.getfield 65, 3) := by decide +kernel
theorem d_M_bar_65 : decode c_M_bar 65 = .ok (.iload_n 1, 1) := by decide +kernel
theorem d_M_bar_66 : decode c_M_bar 66 = .ok (.iastore, 1) := by decide +kernel
theorem d_M_bar_67 : decode c_M_bar 67 = .ok (.aload_n 0, 1) := by decide +kernel
theorem d_M_bar_68 : decode c_M_bar 68 = .ok (.getfield 23, 3) := by decide +kernel
theorem d_M_bar_71 : decode c_M_bar 71 = .ok (.aload_n 0, 1) := by decide +kernel
theorem d_M_bar_72 : decode c_M_bar 72 = .ok (.getfield 65, 3) := by decide +kernel
theorem d_M_bar_75 : decode c_M_bar 75 = .ok (.iload_n 2, 1) := by decide +kernel
theorem d_M_bar_76 : decode c_M_bar 76 = .ok (.iastore, 1) := by decide +kernel
theorem d_M_bar_77 : decode c_M_bar 77 = .ok (.aload_n 0, 1) := by decide +kernel
theorem d_M_bar_78 : decode c_M_bar 78 = .ok (.getfield 26, 3) := by decide +kernel
theorem d_M_bar_81 : decode c_M_bar 81 = .ok (.aload_n 0, 1) := by decide +kernel
theorem d_M_bar_82 : decode c_M_bar 82 = .ok (.getfield 65, 3) := by decide +kernel
theorem d_M_bar_85 : decode c_M_bar 85 = .ok (.iload_n 3, 1) := by decide +kernel
theorem d_M_bar_86 : decode c_M_bar 86 = .ok (.iastore, 1) := by decide +kernel
theorem d_M_bar_87 : decode c_M_bar 87 = .ok (.aload_n 0, 1) := by decide +kernel
theorem d_M_bar_88 : decode c_M_bar 88 = .ok (.dup, 1) := by decide +kernel
theorem d_M_bar_89 : decode c_M_bar 89 = .ok (.getfield 65, 3) := by decide +kernel
theorem d_M_bar_92 : decode c_M_bar 92 = .ok (.iconst 1, 1) := by decide +kernel
theorem d_M_bar_93 : decode c_M_bar 93 = .ok (.iadd, 1) := by decide +kernel
theorem d_M_bar_94 : decode c_M_bar 94 = .ok (.putfield 65, 3) := by decide +kernel
theorem d_M_bar_97 : decode c_M_bar 97 = .ok (.aload_n 0, 1) := by decide +kernel
theorem d_M_bar_98 : decode c_M_bar 98 = .ok (.getfield 65, 3) := by decide +kernel
theorem d_M_bar_101 : decode c_M_bar 101 = .ok (.iconst 1, 1) := by decide +kernel
theorem d_M_bar_102 : decode c_M_bar 102 = .ok (.isub, 1) := by decide +kernel
theorem d_M_bar_103 : decode c_M_bar 103 = .ok (.ireturn, 1) := by decide +kernel
theorem d_M_unbar_0 : decode c_M_unbar 0 = .ok (.iload_n 1, 1) := by decide +kernel
theorem d_M_unbar_1 : decode c_M_unbar 1 = .ok (.ifCond .lt 11, 3) := by decide +kernel
theorem d_M_unbar_4 : decode c_M_unbar 4 = .ok (.iload_n 1, 1) := by decide +kernel
theorem d_M_unbar_5 : decode c_M_unbar 5 = .ok (.aload_n 0, 1) := by decide +kernel
theorem d_M_unbar_6 : decode c_M_unbar 6 = .ok (.getfield 65, 3) := by decide +kernel
theorem d_M_unbar_9 : decode c_M_unbar 9 = .ok (.if_icmp .lt 5, 3) := by decide +kernel
theorem d_M_unbar_12 : decode c_M_unbar 12 = .ok (.iconst (-1), 1) := by decide +kernel
theorem d_M_unbar_13 : decode c_M_unbar 13 = .ok (.ireturn, 1) := by decide +kernel
theorem d_M_unbar_14 : decode c_M_unbar 14 = .ok (.aload_n 0, 1) := by decide +kernel
theorem d_M_unbar_15 : decode c_M_unbar 15 = .ok (.getfield 61, 3) := by decide +kernel
theorem d_M_unbar_18 : decode c_M_unbar 18 = .ok (.ifCond .eq 6, 3) := by decide +kernel
theorem d_M_unbar_21 : decode c_M_unbar 21 = .ok (.bipush (-4), 2) := by decide +kernel
theorem d_M_unbar_23 : decode c_M_unbar 23 = .ok (.ireturn, 1) := by decide +kernel
theorem d_M_unbar_24 : decode c_M_unbar 24 = .ok (.aload_n 0, 1) := by decide +kernel
theorem d_M_unbar_25 : decode c_M_unbar 25 = .ok (.dup, 1) := by decide +kernel
theorem d_M_unbar_26 : decode c_M_unbar 26 = .ok (.getfield 65, 3) := by decide +kernel
theorem d_M_unbar_29 : decode c_M_unbar 29 = .ok (.iconst 1, 1) := by decide +kernel
theorem d_M_unbar_30 : decode c_M_unbar 30 = .ok (.isub, 1) := by decide +kernel
theorem d_M_unbar_31 : decode c_M_unbar 31 = .ok (.putfield 65, 3) := by decide +kernel
theorem d_M_unbar_34 : decode c_M_unbar 34 = .ok (.iload_n 1, 1) := by decide +kernel
theorem d_M_unbar_35 : decode c_M_unbar 35 = .ok (.istore_n 2, 1) := by decide +kernel
theorem d_M_unbar_36 : decode c_M_unbar 36 = .ok (.iload_n 2, 1) := by decide +kernel
theorem d_M_unbar_37 : decode c_M_unbar 37 = .ok (.aload_n 0, 1) := by decide +kernel
theorem d_M_unbar_38 : decode c_M_unbar 38 = .ok (.getfield 65, 3) := by decide +kernel
theorem d_M_unbar_41 : decode c_M_unbar 41 = .ok (.if_icmp .ge 51, 3) := by decide +kernel
theorem d_M_unbar_44 : decode c_M_unbar 44 = .ok (.aload_n 0, 1) := by decide +kernel
theorem d_M_unbar_45 : decode c_M_unbar 45 = .ok (.getfield 20, 3) := by decide +kernel
theorem d_M_unbar_48 : decode c_M_unbar 48 = .ok (.iload_n 2, 1) := by decide +kernel
theorem d_M_unbar_49 : decode c_M_unbar 49 = .ok (.aload_n 0, 1) := by decide +kernel
theorem d_M_unbar_50 : decode c_M_unbar 50 = .ok (.getfield 20, 3) := by decide +kernel
theorem d_M_unbar_53 : decode c_M_unbar 53 = .ok (.iload_n 2, 1) := by decide +kernel
theorem d_M_unbar_54 : decode c_M_unbar 54 = .ok (.iconst 1, 1) := by decide +kernel
theorem d_M_unbar_55 : decode c_M_unbar 55 = .ok (.iadd, 1) := by decide +kernel
theorem d_M_unbar_56 : decode c_M_unbar 56 = .ok (.iaload, 1) := by decide +kernel
theorem d_M_unbar_57 : decode c_M_unbar 57 = .ok (.iastore, 1) := by decide +kernel
theorem d_M_unbar_58 : decode c_M_unbar 58 = .ok (.aload_n 0, 1) := by decide +kernel
theorem d_M_unbar_59 : decode c_M_unbar 59 = .ok (.getfield 23, 3) := by decide +kernel
theorem d_M_unbar_62 : decode c_M_unbar 62 = .ok (.iload_n 2, 1) := by decide +kernel
theorem d_M_unbar_63 : decode c_M_unbar 63 = .ok (.aload_n 0, 1) := by decide +kernel
theorem d_M_unbar_64 : decode c_M_unbar 64 = .ok (.getfield 23, 3) := by decide +kernel
theorem d_M_unbar_67 : decode c_M_unbar 67 = .ok (.iload_n 2, 1) := by decide +kernel
theorem d_M_unbar_68 : decode c_M_unbar 68 = .ok (.iconst 1, 1) := by decide +kernel
theorem d_M_unbar_69 : decode c_M_unbar 69 = .ok (.iadd, 1) := by decide +kernel
theorem d_M_unbar_70 : decode c_M_unbar 70 = .ok (.iaload, 1) := by decide +kernel
theorem d_M_unbar_71 : decode c_M_unbar 71 = .ok (.iastore, 1) := by decide +kernel
theorem d_M_unbar_72 : decode c_M_unbar 72 = .ok (.aload_n 0, 1) := by decide +kernel
theorem d_M_unbar_73 : decode c_M_unbar 73 = .ok (.getfield 26, 3) := by decide +kernel
theorem d_M_unbar_76 : decode c_M_unbar 76 = .ok (.iload_n 2, 1) := by decide +kernel
theorem d_M_unbar_77 : decode c_M_unbar 77 = .ok (.aload_n 0, 1) := by decide +kernel
theorem d_M_unbar_78 : decode c_M_unbar 78 = .ok (.getfield 26, 3) := by decide +kernel
theorem d_M_unbar_81 : decode c_M_unbar 81 = .ok (.iload_n 2, 1) := by decide +kernel
theorem d_M_unbar_82 : decode c_M_unbar 82 = .ok (.iconst 1, 1) := by decide +kernel
theorem d_M_unbar_83 : decode c_M_unbar 83 = .ok (.iadd, 1) := by decide +kernel
theorem d_M_unbar_84 : decode c_M_unbar 84 = .ok (.iaload, 1) := by decide +kernel
theorem d_M_unbar_85 : decode c_M_unbar 85 = .ok (.iastore, 1) := by decide +kernel
theorem d_M_unbar_86 : decode c_M_unbar 86 = .ok (.iinc 2 1, 3) := by decide +kernel
theorem d_M_unbar_89 : decode c_M_unbar 89 = .ok (.goto (-53), 3) := by decide +kernel
theorem d_M_unbar_92 : decode c_M_unbar 92 = .ok (.aload_n 0, 1) := by decide +kernel
theorem d_M_unbar_93 : decode c_M_unbar 93 = .ok (.getfield 65, 3) := by decide +kernel
theorem d_M_unbar_96 : decode c_M_unbar 96 = .ok (.ireturn, 1) := by decide +kernel
theorem d_M_hold_0 : decode c_M_hold 0 = .ok (.aload_n 0, 1) := by decide +kernel
theorem d_M_hold_1 : decode c_M_hold 1 = .ok (.iload_n 1, 1) := by decide +kernel
theorem d_M_hold_2 : decode c_M_hold 2 = .ok (.iconst 4, 1) := by decide +kernel
theorem d_M_hold_3 : decode c_M_hold 3 = .ok (.invokevirtual 57, 3) := by decide +kernel
theorem d_M_hold_6 : decode c_M_hold 6 = .ok (.ifCond .ne 26, 3) := by decide +kernel
theorem d_M_hold_9 : decode c_M_hold 9 = .ok (.aload_n 0, 1) := by decide +kernel
theorem d_M_hold_10 : decode c_M_hold 10 = .ok (.iload_n 2, 1) := by decide +kernel
theorem d_M_hold_11 : decode c_M_hold 11 = .ok (.iconst 1, 1) := by decide +kernel
theorem d_M_hold_12 : decode c_M_hold 12 = .ok (.invokevirtual 57, 3) := by decide +kernel
theorem d_M_hold_15 : decode c_M_hold 15 = .ok (.ifCond .ne 17, 3) := by decide +kernel
theorem d_M_hold_18 : decode c_M_hold 18 = .ok (.iload 4, 2) := by decide +kernel
theorem d_M_hold_20 : decode c_M_hold 20 = .ok (.bipush (-9), 2) := by decide +kernel
theorem d_M_hold_22 : decode c_M_hold 22 = .ok (.if_icmp .lt 10, 3) := by decide +kernel
theorem d_M_hold_25 : decode c_M_hold 25 = .ok (.iload 4, 2) := by decide +kernel
theorem d_M_hold_27 : decode c_M_hold 27 = .ok (.bipush 9, 2) := by decide +kernel
theorem d_M_hold_29 : decode c_M_hold 29 = .ok (.if_icmp .le 5, 3) := by decide +kernel
theorem d_M_hold_32 : decode c_M_hold 32 = .ok (.iconst (-1), 1) := by decide +kernel
theorem d_M_hold_33 : decode c_M_hold 33 = .ok (.ireturn, 1) := by decide +kernel
theorem d_M_hold_34 : decode c_M_hold 34 = .ok (.aload_n 0, 1) := by decide +kernel
theorem d_M_hold_35 : decode c_M_hold 35 = .ok (.getfield 61, 3) := by decide +kernel
theorem d_M_hold_38 : decode c_M_hold 38 = .ok (.ifCond .eq 6, 3) := by decide +kernel
theorem d_M_hold_41 : decode c_M_hold 41 = .ok (.bipush (-4), 2) := by decide +kernel
theorem d_M_hold_43 : decode c_M_hold 43 = .ok (.ireturn, 1) := by decide +kernel
theorem d_M_hold_44 : decode c_M_hold 44 = .ok (.aload_n 0, 1) := by decide +kernel
theorem d_M_hold_45 : decode c_M_hold 45 = .ok (.getfield 29, 3) := by decide +kernel
theorem d_M_hold_48 : decode c_M_hold 48 = .ok (.iload_n 1, 1) := by decide +kernel
theorem d_M_hold_49 : decode c_M_hold 49 = .ok (.iconst 2, 1) := by decide +kernel
theorem d_M_hold_50 : decode c_M_hold 50 = .ok (.imul, 1) := by decide +kernel
theorem d_M_hold_51 : decode c_M_hold 51 = .ok (.iload_n 2, 1) := by decide +kernel
theorem d_M_hold_52 : decode c_M_hold 52 = .ok (.iadd, 1) := by decide +kernel
theorem d_M_hold_53 : decode c_M_hold 53 = .ok (.iload_n 3, 1) := by decide +kernel
theorem d_M_hold_54 : decode c_M_hold 54 = .ok (.bastore, 1) := by decide +kernel
theorem d_M_hold_55 : decode c_M_hold 55 = .ok (.aload_n 0, 1) := by decide +kernel
theorem d_M_hold_56 : decode c_M_hold 56 = .ok (.getfield 32, 3) := by decide +kernel
theorem d_M_hold_59 : decode c_M_hold 59 = .ok (.iload_n 1, 1) := by decide +kernel
theorem d_M_hold_60 : decode c_M_hold 60 = .ok (.iconst 2, 1) := by decide +kernel
theorem d_M_hold_61 : decode c_M_hold 61 = .ok (.imul, 1) := by decide +kernel
theorem d_M_hold_62 : decode c_M_hold 62 = .ok (.iload_n 2, 1) := by decide +kernel
theorem d_M_hold_63 : decode c_M_hold 63 = .ok (.iadd, 1) := by decide +kernel
theorem d_M_hold_64 : decode c_M_hold 64 = .ok (.iload 4, 2) := by decide +kernel
theorem d_M_hold_66 : decode c_M_hold 66 = .ok (.iastore, 1) := by decide +kernel
theorem d_M_hold_67 : decode c_M_hold 67 = .ok (.iconst 0, 1) := by decide +kernel
theorem d_M_hold_68 : decode c_M_hold 68 = .ok (.ireturn, 1) := by decide +kernel
theorem d_M_spring_0 : decode c_M_spring 0 = .ok (.aload_n 0, 1) := by decide +kernel
theorem d_M_spring_1 : decode c_M_spring 1 = .ok (.iload_n 1, 1) := by decide +kernel
theorem d_M_spring_2 : decode c_M_spring 2 = .ok (.iconst 4, 1) := by decide +kernel
theorem d_M_spring_3 : decode c_M_spring 3 = .ok (.invokevirtual 57, 3) := by decide +kernel
theorem d_M_spring_6 : decode c_M_spring 6 = .ok (.ifCond .ne 21, 3) := by decide +kernel
theorem d_M_spring_9 : decode c_M_spring 9 = .ok (.aload_n 0, 1) := by decide +kernel
theorem d_M_spring_10 : decode c_M_spring 10 = .ok (.iload_n 2, 1) := by decide +kernel
theorem d_M_spring_11 : decode c_M_spring 11 = .ok (.iconst 1, 1) := by decide +kernel
theorem d_M_spring_12 : decode c_M_spring 12 = .ok (.invokevirtual 57, 3) := by decide +kernel
theorem d_M_spring_15 : decode c_M_spring 15 = .ok (.ifCond .ne 12, 3) := by decide +kernel
theorem d_M_spring_18 : decode c_M_spring 18 = .ok (.aload_n 0, 1) := by decide +kernel
theorem d_M_spring_19 : decode c_M_spring 19 = .ok (.iload_n 3, 1) := by decide +kernel
theorem d_M_spring_20 : decode c_M_spring 20 = .ok (.iconst 3, 1) := by decide +kernel
theorem d_M_spring_21 : decode c_M_spring 21 = .ok (.invokevirtual 57, 3) := by decide +kernel
theorem d_M_spring_24 : decode c_M_spring 24 = .ok (.ifCond .eq 5, 3) := by decide +kernel
theorem d_M_spring_27 : decode c_M_spring 27 = .ok (.iconst (-1), 1) := by decide +kernel
theorem d_M_spring_28 : decode c_M_spring 28 = .ok (.ireturn, 1) := by decide +kernel
theorem d_M_spring_29 : decode c_M_spring 29 = .ok (.aload_n 0, 1) := by decide +kernel
theorem d_M_spring_30 : decode c_M_spring 30 = .ok (.getfield 61, 3) := by decide +kernel
theorem d_M_spring_33 : decode c_M_spring 33 = .ok (.ifCond .eq 6, 3) := by decide +kernel
theorem d_M_spring_36 : decode c_M_spring 36 = .ok (.bipush (-4), 2) := by decide +kernel
theorem d_M_spring_38 : decode c_M_spring 38 = .ok (.ireturn, 1) := by decide +kernel
theorem d_M_spring_39 : decode c_M_spring 39 = .ok (.aload_n 0, 1) := by decide +kernel
theorem d_M_spring_40 : decode c_M_spring 40 = .ok (.getfield 35, 3) := by decide +kernel
theorem d_M_spring_43 : decode c_M_spring 43 = .ok (.iload_n 1, 1) := by decide +kernel
theorem d_M_spring_44 : decode c_M_spring 44 = .ok (.iconst 2, 1) := by decide +kernel
theorem d_M_spring_45 : decode c_M_spring 45 = .ok (.imul, 1) := by decide +kernel
theorem d_M_spring_46 : decode c_M_spring 46 = .ok (.iload_n 2, 1) := by decide +kernel
theorem d_M_spring_47 : decode c_M_spring 47 = .ok (.iadd, 1) := by decide +kernel
theorem d_M_spring_48 : decode c_M_spring 48 = .ok (.iload_n 3, 1) := by decide +kernel
theorem d_M_spring_49 : decode c_M_spring 49 = .ok (.iastore, 1) := by decide +kernel
theorem d_M_spring_50 : decode c_M_spring 50 = .ok (.iconst 0, 1) := by decide +kernel
theorem d_M_spring_51 : decode c_M_spring 51 = .ok (.ireturn, 1) := by decide +kernel
theorem d_M_load_0 : decode c_M_load 0 = .ok (.aload_n 0, 1) := by decide +kernel
theorem d_M_load_1 : decode c_M_load 1 = .ok (.iload_n 1, 1) := by decide +kernel
theorem d_M_load_2 : decode c_M_load 2 = .ok (.iconst 3, 1) := by decide +kernel
theorem d_M_load_3 : decode c_M_load 3 = .ok (.invokevirtual 57, 3) := by decide +kernel
theorem d_M_load_6 : decode c_M_load 6 = .ok (.ifCond .ne 35, 3) := by decide +kernel
theorem d_M_load_9 : decode c_M_load 9 = .ok (.aload_n 0, 1) := by decide +kernel
theorem d_M_load_10 : decode c_M_load 10 = .ok (.iload_n 2, 1) := by decide +kernel
theorem d_M_load_11 : decode c_M_load 11 = .ok (.iconst 4, 1) := by decide +kernel
theorem d_M_load_12 : decode c_M_load 12 = .ok (.invokevirtual 57, 3) := by decide +kernel
theorem d_M_load_15 : decode c_M_load 15 = .ok (.ifCond .ne 26, 3) := by decide +kernel
theorem d_M_load_18 : decode c_M_load 18 = .ok (.aload_n 0, 1) := by decide +kernel
theorem d_M_load_19 : decode c_M_load 19 = .ok (.iload_n 3, 1) := by decide +kernel
theorem d_M_load_20 : decode c_M_load 20 = .ok (.iconst 1, 1) := by decide +kernel
theorem d_M_load_21 : decode c_M_load 21 = .ok (.invokevirtual 57, 3) := by decide +kernel
theorem d_M_load_24 : decode c_M_load 24 = .ok (.ifCond .ne 17, 3) := by decide +kernel
theorem d_M_load_27 : decode c_M_load 27 = .ok (.iload 4, 2) := by decide +kernel
theorem d_M_load_29 : decode c_M_load 29 = .ok (.bipush (-99), 2) := by decide +kernel
theorem d_M_load_31 : decode c_M_load 31 = .ok (.if_icmp .lt 10, 3) := by decide +kernel
theorem d_M_load_34 : decode c_M_load 34 = .ok (.iload 4, 2) := by decide +kernel
theorem d_M_load_36 : decode c_M_load 36 = .ok (.bipush 99, 2) := by decide +kernel
theorem d_M_load_38 : decode c_M_load 38 = .ok (.if_icmp .le 5, 3) := by decide +kernel
theorem d_M_load_41 : decode c_M_load 41 = .ok (.iconst (-1), 1) := by decide +kernel
theorem d_M_load_42 : decode c_M_load 42 = .ok (.ireturn, 1) := by decide +kernel
theorem d_M_load_43 : decode c_M_load 43 = .ok (.aload_n 0, 1) := by decide +kernel
theorem d_M_load_44 : decode c_M_load 44 = .ok (.getfield 38, 3) := by decide +kernel
theorem d_M_load_47 : decode c_M_load 47 = .ok (.iload_n 1, 1) := by decide +kernel
theorem d_M_load_48 : decode c_M_load 48 = .ok (.bipush 10, 2) := by decide +kernel
theorem d_M_load_50 : decode c_M_load 50 = .ok (.imul, 1) := by decide +kernel
theorem d_M_load_51 : decode c_M_load 51 = .ok (.iload_n 2, 1) := by decide +kernel
theorem d_M_load_52 : decode c_M_load 52 = .ok (.iconst 2, 1) := by decide +kernel
theorem d_M_load_53 : decode c_M_load 53 = .ok (.imul, 1) := by decide +kernel
theorem d_M_load_54 : decode c_M_load 54 = .ok (.iadd, 1) := by decide +kernel
theorem d_M_load_55 : decode c_M_load 55 = .ok (.iload_n 3, 1) := by decide +kernel
theorem d_M_load_56 : decode c_M_load 56 = .ok (.iadd, 1) := by decide +kernel
theorem d_M_load_57 : decode c_M_load 57 = .ok (.iload 4, 2) := by decide +kernel
theorem d_M_load_59 : decode c_M_load 59 = .ok (.iastore, 1) := by decide +kernel
theorem d_M_load_60 : decode c_M_load 60 = .ok (.iconst 0, 1) := by decide +kernel
theorem d_M_load_61 : decode c_M_load 61 = .ok (.ireturn, 1) := by decide +kernel
theorem d_M_solve_0 : decode c_M_solve 0 = .ok (.aload_n 0, 1) := by decide +kernel
theorem d_M_solve_1 : decode c_M_solve 1 = .ok (.getfield 61, 3) := by decide +kernel
theorem d_M_solve_4 : decode c_M_solve 4 = .ok (.ifCond .eq 6, 3) := by decide +kernel
theorem d_M_solve_7 : decode c_M_solve 7 = .ok (.bipush (-4), 2) := by decide +kernel
theorem d_M_solve_9 : decode c_M_solve 9 = .ok (.ireturn, 1) := by decide +kernel
theorem d_M_solve_10 : decode c_M_solve 10 = .ok (.aload_n 0, 1) := by decide +kernel
theorem d_M_solve_11 : decode c_M_solve 11 = .ok (.invokevirtual 122, 3) := by decide +kernel
theorem d_M_solve_14 : decode c_M_solve 14 = .ok (.aload_n 0, 1) := by decide +kernel
theorem d_M_solve_15 : decode c_M_solve 15 = .ok (.getfield 76, 3) := by decide +kernel
theorem d_M_solve_18 : decode c_M_solve 18 = .ok (.ifCond .ne 6, 3) := by decide +kernel
theorem d_M_solve_21 : decode c_M_solve 21 = .ok (.bipush (-100), 2) := by decide +kernel
theorem d_M_solve_23 : decode c_M_solve 23 = .ok (.ireturn, 1) := by decide +kernel
theorem d_M_solve_24 : decode c_M_solve 24 = .ok (.iconst 0, 1) := by decide +kernel
theorem d_M_solve_25 : decode c_M_solve 25 = .ok (.istore_n 1, 1) := by decide +kernel
theorem d_M_solve_26 : decode c_M_solve 26 = .ok (.iload_n 1, 1) := by decide +kernel
theorem d_M_solve_27 : decode c_M_solve 27 = .ok (.aload_n 0, 1) := by decide +kernel
theorem d_M_solve_28 : decode c_M_solve 28 = .ok (.getfield 65, 3) := by decide +kernel
theorem d_M_solve_31 : decode c_M_solve 31 = .ok (.if_icmp .ge 23, 3) := by decide +kernel
theorem d_M_solve_34 : decode c_M_solve 34 = .ok (.aload_n 0, 1) := by decide +kernel
theorem d_M_solve_35 : decode c_M_solve 35 = .ok (.iload_n 1, 1) := by decide +kernel
theorem d_M_solve_36 : decode c_M_solve 36 = .ok (.invokevirtual 125, 3) := by decide +kernel
theorem d_M_solve_39 : decode c_M_solve 39 = .ok (.ifCond .ne 9, 3) := by decide +kernel
theorem d_M_solve_42 : decode c_M_solve 42 = .ok (.sipush (-200), 3) := by decide +kernel
theorem d_M_solve_45 : decode c_M_solve 45 = .ok (.iload_n 1, 1) := by decide +kernel
theorem d_M_solve_46 : decode c_M_solve 46 = .ok (.isub, 1) := by decide +kernel
theorem d_M_solve_47 : decode c_M_solve 47 = .ok (.ireturn, 1) := by decide +kernel
theorem d_M_solve_48 : decode c_M_solve 48 = .ok (.iinc 1 1, 3) := by decide +kernel
theorem d_M_solve_51 : decode c_M_solve 51 = .ok (.goto (-25), 3) := by decide +kernel
theorem d_M_solve_54 : decode c_M_solve 54 = .ok (.aload_n 0, 1) := by decide +kernel
theorem d_M_solve_55 : decode c_M_solve 55 = .ok (.invokevirtual 128, 3) := by decide +kernel
theorem d_M_solve_58 : decode c_M_solve 58 = .ok (.aload_n 0, 1) := by decide +kernel
theorem d_M_solve_59 : decode c_M_solve 59 = .ok (.aload_n 0, 1) := by decide +kernel
theorem d_M_solve_60 : decode c_M_solve 60 = .ok (.getfield 93, 3) := by decide +kernel
theorem d_M_solve_63 : decode c_M_solve 63 = .ok (.iconst (-1), 1) := by decide +kernel
theorem d_M_solve_64 : decode c_M_solve 64 = .ok (.invokevirtual 131, 3) := by decide +kernel
theorem d_M_solve_67 : decode c_M_solve 67 = .ok (.lconst 0, 1) := by decide +kernel
theorem d_M_solve_68 : decode c_M_solve 68 = .ok (.lcmp, 1) := by decide +kernel
theorem d_M_solve_69 : decode c_M_solve 69 = .ok (.ifCond .ne 36, 3) := by decide +kernel
theorem d_M_solve_72 : decode c_M_solve 72 = .ok (.iconst 1, 1) := by decide +kernel
theorem d_M_solve_73 : decode c_M_solve 73 = .ok (.istore_n 1, 1) := by decide +kernel
theorem d_M_solve_74 : decode c_M_solve 74 = .ok (.iload_n 1, 1) := by decide +kernel
theorem d_M_solve_75 : decode c_M_solve 75 = .ok (.aload_n 0, 1) := by decide +kernel
theorem d_M_solve_76 : decode c_M_solve 76 = .ok (.getfield 93, 3) := by decide +kernel
theorem d_M_solve_79 : decode c_M_solve 79 = .ok (.if_icmp .gt 26, 3) := by decide +kernel
theorem d_M_solve_82 : decode c_M_solve 82 = .ok (.aload_n 0, 1) := by decide +kernel
theorem d_M_solve_83 : decode c_M_solve 83 = .ok (.iload_n 1, 1) := by decide +kernel
theorem d_M_solve_84 : decode c_M_solve 84 = .ok (.iconst (-1), 1) := by decide +kernel
theorem d_M_solve_85 : decode c_M_solve 85 = .ok (.invokevirtual 131, 3) := by decide +kernel
theorem d_M_solve_88 : decode c_M_solve 88 = .ok (.lconst 0, 1) := by decide +kernel
theorem d_M_solve_89 : decode c_M_solve 89 = .ok (.lcmp, 1) := by decide +kernel
theorem d_M_solve_90 : decode c_M_solve 90 = .ok (.ifCond .ne 9, 3) := by decide +kernel
theorem d_M_solve_93 : decode c_M_solve 93 = .ok (.sipush (-299), 3) := by decide +kernel
theorem d_M_solve_96 : decode c_M_solve 96 = .ok (.iload_n 1, 1) := by decide +kernel
theorem d_M_solve_97 : decode c_M_solve 97 = .ok (.isub, 1) := by decide +kernel
theorem d_M_solve_98 : decode c_M_solve 98 = .ok (.ireturn, 1) := by decide +kernel
theorem d_M_solve_99 : decode c_M_solve 99 = .ok (.iinc 1 1, 3) := by decide +kernel
theorem d_M_solve_102 : decode c_M_solve 102 = .ok (.goto (-28), 3) := by decide +kernel
theorem d_M_solve_105 : decode c_M_solve 105 = .ok (.aload_n 0, 1) := by decide +kernel
theorem d_M_solve_106 : decode c_M_solve 106 = .ok (.iconst 1, 1) := by decide +kernel
theorem d_M_solve_107 : decode c_M_solve 107 = .ok (.putfield 61, 3) := by decide +kernel
theorem d_M_solve_110 : decode c_M_solve 110 = .ok (.aload_n 0, 1) := by decide +kernel
theorem d_M_solve_111 : decode c_M_solve 111 = .ok (.getfield 93, 3) := by decide +kernel
theorem d_M_solve_114 : decode c_M_solve 114 = .ok (.ireturn, 1) := by decide +kernel
theorem d_M_makeOrder_0 : decode c_M_makeOrder 0 = .ok (.aload_n 0, 1) := by decide +kernel
theorem d_M_makeOrder_1 : decode c_M_makeOrder 1 = .ok (.iconst 0, 1) := by decide +kernel
theorem d_M_makeOrder_2 : decode c_M_makeOrder 2 = .ok (.putfield 76, 3) := by decide +kernel
theorem d_M_makeOrder_5 : decode c_M_makeOrder 5 = .ok (.iconst 0, 1) := by decide +kernel
theorem d_M_makeOrder_6 : decode c_M_makeOrder 6 = .ok (.istore_n 1, 1) := by decide +kernel
theorem d_M_makeOrder_7 : decode c_M_makeOrder 7 = .ok (.iconst 0, 1) := by decide +kernel
theorem d_M_makeOrder_8 : decode c_M_makeOrder 8 = .ok (.istore_n 2, 1) := by decide +kernel
theorem d_M_makeOrder_9 : decode c_M_makeOrder 9 = .ok (.iload_n 2, 1) := by decide +kernel
theorem d_M_makeOrder_10 : decode c_M_makeOrder 10 = .ok (.bipush 20, 2) := by decide +kernel
theorem d_M_makeOrder_12 : decode c_M_makeOrder 12 = .ok (.if_icmp .ge 47, 3) := by decide +kernel
theorem d_M_makeOrder_15 : decode c_M_makeOrder 15 = .ok (.aload_n 0, 1) := by decide +kernel
theorem d_M_makeOrder_16 : decode c_M_makeOrder 16 = .ok (.iload_n 1, 1) := by decide +kernel
theorem d_M_makeOrder_17 : decode c_M_makeOrder 17 = .ok (.aload_n 0, 1) := by decide +kernel
theorem d_M_makeOrder_18 : decode c_M_makeOrder 18 = .ok (.getfield 76, 3) := by decide +kernel
theorem d_M_makeOrder_21 : decode c_M_makeOrder 21 = .ok (.if_icmp .ge 12, 3) := by decide +kernel
theorem d_M_makeOrder_24 : decode c_M_makeOrder 24 = .ok (.aload_n 0, 1) := by decide +kernel
theorem d_M_makeOrder_25 : decode c_M_makeOrder 25 = .ok (.getfield 41, 3) := by decide +kernel
theorem d_M_makeOrder_28 : decode c_M_makeOrder 28 = .ok (.iload_n 1, 1) := by decide +kernel
theorem d_M_makeOrder_29 : decode c_M_makeOrder 29 = .ok (.iaload, 1) := by decide +kernel
theorem d_M_makeOrder_30 : decode c_M_makeOrder 30 = .ok (.goto 4, 3) := by decide +kernel
theorem d_M_makeOrder_33 : decode c_M_makeOrder 33 = .ok (.iconst (-1), 1) := by decide +kernel
theorem d_M_makeOrder_34 : decode c_M_makeOrder 34 = .ok (.invokevirtual 86, 3) := by decide +kernel
theorem d_M_makeOrder_37 : decode c_M_makeOrder 37 = .ok (.istore_n 3, 1) := by decide +kernel
theorem d_M_makeOrder_38 : decode c_M_makeOrder 38 = .ok (.iload_n 3, 1) := by decide +kernel
theorem d_M_makeOrder_39 : decode c_M_makeOrder 39 = .ok (.ifCond .lt 11, 3) := by decide +kernel
theorem d_M_makeOrder_42 : decode c_M_makeOrder 42 = .ok (.aload_n 0, 1) := by decide +kernel
theorem d_M_makeOrder_43 : decode c_M_makeOrder 43 = .ok (.iload_n 3, 1) := by decide +kernel
theorem d_M_makeOrder_44 : decode c_M_makeOrder 44 = .ok (.invokevirtual 89, 3) := by decide +kernel
theorem d_M_makeOrder_47 : decode c_M_makeOrder 47 = .ok (.goto 6, 3) := by decide +kernel
theorem d_M_makeOrder_50 : decode c_M_makeOrder 50 = .ok (.iinc 1 1, 3) := by decide +kernel
theorem d_M_makeOrder_53 : decode c_M_makeOrder 53 = .ok (.iinc 2 1, 3) := by decide +kernel
theorem d_M_makeOrder_56 : decode c_M_makeOrder 56 = .ok (.goto (-47), 3) := by decide +kernel
theorem d_M_makeOrder_59 : decode c_M_makeOrder 59 = .ok (.iconst 0, 1) := by decide +kernel
theorem d_M_makeOrder_60 : decode c_M_makeOrder 60 = .ok (.istore_n 2, 1) := by decide +kernel
theorem d_M_makeOrder_61 : decode c_M_makeOrder 61 = .ok (.iload_n 2, 1) := by decide +kernel
theorem d_M_makeOrder_62 : decode c_M_makeOrder 62 = .ok (.aload_n 0, 1) := by decide +kernel
theorem d_M_makeOrder_63 : decode c_M_makeOrder 63 = .ok (.getfield 76, 3) := by decide +kernel
theorem d_M_makeOrder_66 : decode c_M_makeOrder 66 = .ok (.iconst 2, 1) := by decide +kernel
theorem d_M_makeOrder_67 : decode c_M_makeOrder 67 = .ok (.idiv, 1) := by decide +kernel
theorem d_M_makeOrder_68 : decode c_M_makeOrder 68 = .ok (.if_icmp .ge 49, 3) := by decide +kernel
theorem d_M_makeOrder_71 : decode c_M_makeOrder 71 = .ok (.aload_n 0, 1) := by decide +kernel
theorem d_M_makeOrder_72 : decode c_M_makeOrder 72 = .ok (.getfield 41, 3) := by decide +kernel
theorem d_M_makeOrder_75 : decode c_M_makeOrder 75 = .ok (.iload_n 2, 1) := by decide +kernel
theorem d_M_makeOrder_76 : decode c_M_makeOrder 76 = .ok (.iaload, 1) := by decide +kernel
theorem d_M_makeOrder_77 : decode c_M_makeOrder 77 = .ok (.istore_n 3, 1) := by decide +kernel
theorem d_M_makeOrder_78 : decode c_M_makeOrder 78 = .ok (.aload_n 0, 1) := by decide +kernel
theorem d_M_makeOrder_79 : decode c_M_makeOrder 79 = .ok (.getfield 41, 3) := by decide +kernel
theorem d_M_makeOrder_82 : decode c_M_makeOrder 82 = .ok (.iload_n 2, 1) := by decide +kernel
theorem d_M_makeOrder_83 : decode c_M_makeOrder 83 = .ok (.aload_n 0, 1) := by decide +kernel
theorem d_M_makeOrder_84 : decode c_M_makeOrder 84 = .ok (.getfield 41, 3) := by decide +kernel
theorem d_M_makeOrder_87 : decode c_M_makeOrder 87 = .ok (.aload_n 0, 1) := by decide +kernel
theorem d_M_makeOrder_88 : decode c_M_makeOrder 88 = .ok (.getfield 76, 3) := by decide +kernel
theorem d_M_makeOrder_91 : decode c_M_makeOrder 91 = .ok (.iconst 1, 1) := by decide +kernel
theorem d_M_makeOrder_92 : decode c_M_makeOrder 92 = .ok (.isub, 1) := by decide +kernel
theorem d_M_makeOrder_93 : decode c_M_makeOrder 93 = .ok (.iload_n 2, 1) := by decide +kernel
theorem d_M_makeOrder_94 : decode c_M_makeOrder 94 = .ok (.isub, 1) := by decide +kernel
theorem d_M_makeOrder_95 : decode c_M_makeOrder 95 = .ok (.iaload, 1) := by decide +kernel
theorem d_M_makeOrder_96 : decode c_M_makeOrder 96 = .ok (.iastore, 1) := by decide +kernel
theorem d_M_makeOrder_97 : decode c_M_makeOrder 97 = .ok (.aload_n 0, 1) := by decide +kernel
theorem d_M_makeOrder_98 : decode c_M_makeOrder 98 = .ok (.getfield 41, 3) := by decide +kernel
theorem d_M_makeOrder_101 : decode c_M_makeOrder 101 = .ok (.aload_n 0, 1) := by decide +kernel
theorem d_M_makeOrder_102 : decode c_M_makeOrder 102 = .ok (.getfield 76, 3) := by decide +kernel
theorem d_M_makeOrder_105 : decode c_M_makeOrder 105 = .ok (.iconst 1, 1) := by decide +kernel
theorem d_M_makeOrder_106 : decode c_M_makeOrder 106 = .ok (.isub, 1) := by decide +kernel
theorem d_M_makeOrder_107 : decode c_M_makeOrder 107 = .ok (.iload_n 2, 1) := by decide +kernel
theorem d_M_makeOrder_108 : decode c_M_makeOrder 108 = .ok (.isub, 1) := by decide +kernel
theorem d_M_makeOrder_109 : decode c_M_makeOrder 109 = .ok (.iload_n 3, 1) := by decide +kernel
theorem d_M_makeOrder_110 : decode c_M_makeOrder 110 = .ok (.iastore, 1) := by decide +kernel
theorem d_M_makeOrder_111 : decode c_M_makeOrder 111 = .ok (.iinc 2 1, 3) := by decide +kernel
theorem d_M_makeOrder_114 : decode c_M_makeOrder 114 = .ok (.goto (-53), 3) := by decide +kernel
theorem d_M_makeOrder_117 : decode c_M_makeOrder 117 = .ok (.aload_n 0, 1) := by decide +kernel
theorem d_M_makeOrder_118 : decode c_M_makeOrder 118 = .ok (.iconst 0, 1) := by decide +kernel
theorem d_M_makeOrder_119 : decode c_M_makeOrder 119 = .ok (.putfield 93, 3) := by decide +kernel
theorem d_M_makeOrder_122 : decode c_M_makeOrder 122 = .ok (.iconst 0, 1) := by decide +kernel
theorem d_M_makeOrder_123 : decode c_M_makeOrder 123 = .ok (.istore_n 2, 1) := by decide +kernel
theorem d_M_makeOrder_124 : decode c_M_makeOrder 124 = .ok (.iload_n 2, 1) := by decide +kernel
theorem d_M_makeOrder_125 : decode c_M_makeOrder 125 = .ok (.aload_n 0, 1) := by decide +kernel
theorem d_M_makeOrder_126 : decode c_M_makeOrder 126 = .ok (.getfield 76, 3) := by decide +kernel
theorem d_M_makeOrder_129 : decode c_M_makeOrder 129 = .ok (.iconst 2, 1) := by decide +kernel
theorem d_M_makeOrder_130 : decode c_M_makeOrder 130 = .ok (.imul, 1) := by decide +kernel
theorem d_M_makeOrder_131 : decode c_M_makeOrder 131 = .ok (.if_icmp .ge 53, 3) := by decide +kernel
theorem d_M_makeOrder_134 : decode c_M_makeOrder 134 = .ok (.aload_n 0, 1) := by decide +kernel
theorem d_M_makeOrder_135 : decode c_M_makeOrder 135 = .ok (.getfield 41, 3) := by decide +kernel
theorem d_M_makeOrder_138 : decode c_M_makeOrder 138 = .ok (.iload_n 2, 1) := by decide +kernel
theorem d_M_makeOrder_139 : decode c_M_makeOrder 139 = .ok (.iconst 2, 1) := by decide +kernel
theorem d_M_makeOrder_140 : decode c_M_makeOrder 140 = .ok (.idiv, 1) := by decide +kernel
theorem d_M_makeOrder_141 : decode c_M_makeOrder 141 = .ok (.iaload, 1) := by decide +kernel
theorem d_M_makeOrder_142 : decode c_M_makeOrder 142 = .ok (.iconst 2, 1) := by decide +kernel
theorem d_M_makeOrder_143 : decode c_M_makeOrder 143 = .ok (.imul, 1) := by decide +kernel
theorem d_M_makeOrder_144 : decode c_M_makeOrder 144 = .ok (.iload_n 2, 1) := by decide +kernel
theorem d_M_makeOrder_145 : decode c_M_makeOrder 145 = .ok (.iconst 2, 1) := by decide +kernel
theorem d_M_makeOrder_146 : decode c_M_makeOrder 146 = .ok (.irem, 1) := by decide +kernel
theorem d_M_makeOrder_147 : decode c_M_makeOrder 147 = .ok (.iadd, 1) := by decide +kernel
theorem d_M_makeOrder_148 : decode c_M_makeOrder 148 = .ok (.istore_n 3, 1) := by decide +kernel
theorem d_M_makeOrder_149 : decode c_M_makeOrder 149 = .ok (.aload_n 0, 1) := by decide +kernel
theorem d_M_makeOrder_150 : decode c_M_makeOrder 150 = .ok (.getfield 29, 3) := by decide +kernel
theorem d_M_makeOrder_153 : decode c_M_makeOrder 153 = .ok (.iload_n 3, 1) := by decide +kernel
theorem d_M_makeOrder_154 : decode c_M_makeOrder 154 = .ok (.baload, 1) := by decide +kernel
theorem d_M_makeOrder_155 : decode c_M_makeOrder 155 = .ok (.ifCond .ne 23, 3) := by decide +kernel
theorem d_M_makeOrder_158 : decode c_M_makeOrder 158 = .ok (.aload_n 0, 1) := by decide +kernel
theorem d_M_makeOrder_159 : decode c_M_makeOrder 159 = .ok (.getfield 44, 3) := by decide +kernel
theorem d_M_makeOrder_162 : decode c_M_makeOrder 162 = .ok (.aload_n 0, 1) := by decide +kernel
theorem d_M_makeOrder_163 : decode c_M_makeOrder 163 = .ok (.getfield 93, 3) := by decide +kernel
theorem d_M_makeOrder_166 : decode c_M_makeOrder 166 = .ok (.iload_n 3, 1) := by decide +kernel
theorem d_M_makeOrder_167 : decode c_M_makeOrder 167 = .ok (.iastore, 1) := by decide +kernel
theorem d_M_makeOrder_168 : decode c_M_makeOrder 168 = .ok (.aload_n 0, 1) := by decide +kernel
theorem d_M_makeOrder_169 : decode c_M_makeOrder 169 = .ok (.dup, 1) := by decide +kernel
theorem d_M_makeOrder_170 : decode c_M_makeOrder 170 = .ok (.getfield 93, 3) := by decide +kernel
theorem d_M_makeOrder_173 : decode c_M_makeOrder 173 = .ok (.iconst 1, 1) := by decide +kernel
theorem d_M_makeOrder_174 : decode c_M_makeOrder 174 = .ok (.iadd, 1) := by decide +kernel
theorem d_M_makeOrder_175 : decode c_M_makeOrder 175 = .ok (.putfield 93, 3) := by decide +kernel
theorem d_M_makeOrder_178 : decode c_M_makeOrder 178 = .ok (.iinc 2 1, 3) := by decide +kernel
theorem d_M_makeOrder_181 : decode c_M_makeOrder 181 = .ok (.goto (-57), 3) := by decide +kernel
theorem d_M_makeOrder_184 : decode c_M_makeOrder 184 = .ok (.return_, 1) := by decide +kernel
end
section
theorem d_M_candidate_0 : decode c_M_candidate 0 = .ok (.iconst (-1), 1) := by decide +kernel
theorem d_M_candidate_1 : decode c_M_candidate 1 = .ok (.istore_n 2, 1) := by decide +kernel
theorem d_M_candidate_2 : decode c_M_candidate 2 = .ok (.iconst 0, 1) := by decide +kernel
theorem d_M_candidate_3 : decode c_M_candidate 3 = .ok (.istore_n 3, 1) := by decide +kernel
theorem d_M_candidate_4 : decode c_M_candidate 4 = .ok (.iload_n 3, 1) := by decide +kernel
theorem d_M_candidate_5 : decode c_M_candidate 5 = .ok (.iconst 5, 1) := by decide +kernel
theorem d_M_candidate_6 : decode c_M_candidate 6 = .ok (.if_icmp .ge 70, 3) := by decide +kernel
theorem d_M_candidate_9 : decode c_M_candidate 9 = .ok (.aload_n 0, 1) := by decide +kernel
theorem d_M_candidate_10 : decode c_M_candidate 10 = .ok (.getfield 7, 3) := by decide +kernel
theorem d_M_candidate_13 : decode c_M_candidate 13 = .ok (.iload_n 3, 1) := by decide +kernel
theorem d_M_candidate_14 : decode c_M_candidate 14 = .ok (.baload, 1) := by decide +kernel
theorem d_M_candidate_15 : decode c_M_candidate 15 = .ok (.ifCond .eq 28, 3) := by decide +kernel
theorem d_M_candidate_18 : decode c_M_candidate 18 = .ok (.aload_n 0, 1) := by decide +kernel
theorem d_M_candidate_19 : decode c_M_candidate 19 = .ok (.iload_n 3, 1) := by decide +kernel
theorem d_M_candidate_20 : decode c_M_candidate 20 = .ok (.invokevirtual 79, 3) := by decide +kernel
theorem d_M_candidate_23 : decode c_M_candidate 23 = .ok (.ifCond .ne 20, 3) := by decide +kernel
theorem d_M_candidate_26 : decode c_M_candidate 26 = .ok (.iload_n 1, 1) := by decide +kernel
theorem d_M_candidate_27 : decode c_M_candidate 27 = .ok (.ifCond .lt 12, 3) := by decide +kernel
theorem d_M_candidate_30 : decode c_M_candidate 30 = .ok (.aload_n 0, 1) := by decide +kernel
theorem d_M_candidate_31 : decode c_M_candidate 31 = .ok (.iload_n 1, 1) := by decide +kernel
theorem d_M_candidate_32 : decode c_M_candidate 32 = .ok (.iload_n 3, 1) := by decide +kernel
theorem d_M_candidate_33 : decode c_M_candidate 33 = .ok (.invokevirtual 73, 3) := by decide +kernel
theorem d_M_candidate_36 : decode c_M_candidate 36 = .ok (.ifCond .eq 7, 3) := by decide +kernel
theorem d_M_candidate_39 : decode c_M_candidate 39 = .ok (.iconst 1, 1) := by decide +kernel
theorem d_M_candidate_40 : decode c_M_candidate 40 = .ok (.goto 4, 3) := by decide +kernel
theorem d_M_candidate_43 : decode c_M_candidate 43 = .ok (.iconst 0, 1) := by decide +kernel
theorem d_M_candidate_44 : decode c_M_candidate 44 = .ok (.istore 4, 2) := by decide +kernel
theorem d_M_candidate_46 : decode c_M_candidate 46 = .ok (.iload 4, 2) := by decide +kernel
theorem d_M_candidate_48 : decode c_M_candidate 48 = .ok (.ifCond .eq 22, 3) := by decide +kernel
theorem d_M_candidate_51 : decode c_M_candidate 51 = .ok (.iload_n 2, 1) := by decide +kernel
theorem d_M_candidate_52 : decode c_M_candidate 52 = .ok (.ifCond .lt 16, 3) := by decide +kernel
theorem d_M_candidate_55 : decode c_M_candidate 55 = .ok (.aload_n 0, 1) := by decide +kernel
theorem d_M_candidate_56 : decode c_M_candidate 56 = .ok (.iload_n 3, 1) := by decide +kernel
theorem d_M_candidate_57 : decode c_M_candidate 57 = .ok (.invokevirtual 83, 3) := by decide +kernel
theorem d_M_candidate_60 : decode c_M_candidate 60 = .ok (.aload_n 0, 1) := by decide +kernel
theorem d_M_candidate_61 : decode c_M_candidate 61 = .ok (.iload_n 2, 1) := by decide +kernel
theorem d_M_candidate_62 : decode c_M_candidate 62 = .ok (.invokevirtual 83, 3) := by decide +kernel
theorem d_M_candidate_65 : decode c_M_candidate 65 = .ok (.if_icmp .ge 5, 3) := by decide +kernel
theorem d_M_candidate_68 : decode c_M_candidate 68 = .ok (.iload_n 3, 1) := by decide +kernel
theorem d_M_candidate_69 : decode c_M_candidate 69 = .ok (.istore_n 2, 1) := by decide +kernel
theorem d_M_candidate_70 : decode c_M_candidate 70 = .ok (.iinc 3 1, 3) := by decide +kernel
theorem d_M_candidate_73 : decode c_M_candidate 73 = .ok (.goto (-69), 3) := by decide +kernel
theorem d_M_candidate_76 : decode c_M_candidate 76 = .ok (.iload_n 2, 1) := by decide +kernel
theorem d_M_candidate_77 : decode c_M_candidate 77 = .ok (.ireturn, 1) := by decide +kernel
theorem d_M_inOrder_0 : decode c_M_inOrder 0 = .ok (.iconst 0, 1) := by decide +kernel
theorem d_M_inOrder_1 : decode c_M_inOrder 1 = .ok (.istore_n 2, 1) := by decide +kernel
theorem d_M_inOrder_2 : decode c_M_inOrder 2 = .ok (.iload_n 2, 1) := by decide +kernel
theorem d_M_inOrder_3 : decode c_M_inOrder 3 = .ok (.aload_n 0, 1) := by decide +kernel
theorem d_M_inOrder_4 : decode c_M_inOrder 4 = .ok (.getfield 76, 3) := by decide +kernel
theorem d_M_inOrder_7 : decode c_M_inOrder 7 = .ok (.if_icmp .ge 21, 3) := by decide +kernel
theorem d_M_inOrder_10 : decode c_M_inOrder 10 = .ok (.aload_n 0, 1) := by decide +kernel
theorem d_M_inOrder_11 : decode c_M_inOrder 11 = .ok (.getfield 41, 3) := by decide +kernel
theorem d_M_inOrder_14 : decode c_M_inOrder 14 = .ok (.iload_n 2, 1) := by decide +kernel
theorem d_M_inOrder_15 : decode c_M_inOrder 15 = .ok (.iaload, 1) := by decide +kernel
theorem d_M_inOrder_16 : decode c_M_inOrder 16 = .ok (.iload_n 1, 1) := by decide +kernel
theorem d_M_inOrder_17 : decode c_M_inOrder 17 = .ok (.if_icmp .ne 5, 3) := by decide +kernel
theorem d_M_inOrder_20 : decode c_M_inOrder 20 = .ok (.iconst 1, 1) := by decide +kernel
theorem d_M_inOrder_21 : decode c_M_inOrder 21 = .ok (.ireturn, 1) := by decide +kernel
theorem d_M_inOrder_22 : decode c_M_inOrder 22 = .ok (.iinc 2 1, 3) := by decide +kernel
theorem d_M_inOrder_25 : decode c_M_inOrder 25 = .ok (.goto (-23), 3) := by decide +kernel
theorem d_M_inOrder_28 : decode c_M_inOrder 28 = .ok (.iconst 0, 1) := by decide +kernel
theorem d_M_inOrder_29 : decode c_M_inOrder 29 = .ok (.ireturn, 1) := by decide +kernel
theorem d_M_joined_0 : decode c_M_joined 0 = .ok (.iconst 0, 1) := by decide +kernel
theorem d_M_joined_1 : decode c_M_joined 1 = .ok (.istore_n 3, 1) := by decide +kernel
theorem d_M_joined_2 : decode c_M_joined 2 = .ok (.iload_n 3, 1) := by decide +kernel
theorem d_M_joined_3 : decode c_M_joined 3 = .ok (.aload_n 0, 1) := by decide +kernel
theorem d_M_joined_4 : decode c_M_joined 4 = .ok (.getfield 65, 3) := by decide +kernel
theorem d_M_joined_7 : decode c_M_joined 7 = .ok (.if_icmp .ge 51, 3) := by decide +kernel
theorem d_M_joined_10 : decode c_M_joined 10 = .ok (.aload_n 0, 1) := by decide +kernel
theorem d_M_joined_11 : decode c_M_joined 11 = .ok (.getfield 20, 3) := by decide +kernel
theorem d_M_joined_14 : decode c_M_joined 14 = .ok (.iload_n 3, 1) := by decide +kernel
theorem d_M_joined_15 : decode c_M_joined 15 = .ok (.iaload, 1) := by decide +kernel
theorem d_M_joined_16 : decode c_M_joined 16 = .ok (.iload_n 1, 1) := by decide +kernel
theorem d_M_joined_17 : decode c_M_joined 17 = .ok (.if_icmp .ne 13, 3) := by decide +kernel
theorem d_M_joined_20 : decode c_M_joined 20 = .ok (.aload_n 0, 1) := by decide +kernel
theorem d_M_joined_21 : decode c_M_joined 21 = .ok (.getfield 23, 3) := by decide +kernel
theorem d_M_joined_24 : decode c_M_joined 24 = .ok (.iload_n 3, 1) := by decide +kernel
theorem d_M_joined_25 : decode c_M_joined 25 = .ok (.iaload, 1) := by decide +kernel
theorem d_M_joined_26 : decode c_M_joined 26 = .ok (.iload_n 2, 1) := by decide +kernel
theorem d_M_joined_27 : decode c_M_joined 27 = .ok (.if_icmp .eq 23, 3) := by decide +kernel
theorem d_M_joined_30 : decode c_M_joined 30 = .ok (.aload_n 0, 1) := by decide +kernel
theorem d_M_joined_31 : decode c_M_joined 31 = .ok (.getfield 20, 3) := by decide +kernel
theorem d_M_joined_34 : decode c_M_joined 34 = .ok (.iload_n 3, 1) := by decide +kernel
theorem d_M_joined_35 : decode c_M_joined 35 = .ok (.iaload, 1) := by decide +kernel
theorem d_M_joined_36 : decode c_M_joined 36 = .ok (.iload_n 2, 1) := by decide +kernel
theorem d_M_joined_37 : decode c_M_joined 37 = .ok (.if_icmp .ne 15, 3) := by decide +kernel
theorem d_M_joined_40 : decode c_M_joined 40 = .ok (.aload_n 0, 1) := by decide +kernel
theorem d_M_joined_41 : decode c_M_joined 41 = .ok (.getfield 23, 3) := by decide +kernel
theorem d_M_joined_44 : decode c_M_joined 44 = .ok (.iload_n 3, 1) := by decide +kernel
theorem d_M_joined_45 : decode c_M_joined 45 = .ok (.iaload, 1) := by decide +kernel
theorem d_M_joined_46 : decode c_M_joined 46 = .ok (.iload_n 1, 1) := by decide +kernel
theorem d_M_joined_47 : decode c_M_joined 47 = .ok (.if_icmp .ne 5, 3) := by decide +kernel
theorem d_M_joined_50 : decode c_M_joined 50 = .ok (.iconst 1, 1) := by decide +kernel
theorem d_M_joined_51 : decode c_M_joined 51 = .ok (.ireturn, 1) := by decide +kernel
theorem d_M_joined_52 : decode c_M_joined 52 = .ok (.iinc 3 1, 3) := by decide +kernel
theorem d_M_joined_55 : decode c_M_joined 55 = .ok (.goto (-53), 3) := by decide +kernel
theorem d_M_joined_58 : decode c_M_joined 58 = .ok (.iconst 0, 1) := by decide +kernel
theorem d_M_joined_59 : decode c_M_joined 59 = .ok (.ireturn, 1) := by decide +kernel
theorem d_M_neighbours_0 : decode c_M_neighbours 0 = .ok (.iconst 0, 1) := by decide +kernel
theorem d_M_neighbours_1 : decode c_M_neighbours 1 = .ok (.istore_n 2, 1) := by decide +kernel
theorem d_M_neighbours_2 : decode c_M_neighbours 2 = .ok (.iconst 0, 1) := by decide +kernel
theorem d_M_neighbours_3 : decode c_M_neighbours 3 = .ok (.istore_n 3, 1) := by decide +kernel
theorem d_M_neighbours_4 : decode c_M_neighbours 4 = .ok (.iload_n 3, 1) := by decide +kernel
theorem d_M_neighbours_5 : decode c_M_neighbours 5 = .ok (.iconst 5, 1) := by decide +kernel
theorem d_M_neighbours_6 : decode c_M_neighbours 6 = .ok (.if_icmp .ge 21, 3) := by decide +kernel
theorem d_M_neighbours_9 : decode c_M_neighbours 9 = .ok (.aload_n 0, 1) := by decide +kernel
theorem d_M_neighbours_10 : decode c_M_neighbours 10 = .ok (.iload_n 1, 1) := by decide +kernel
theorem d_M_neighbours_11 : decode c_M_neighbours 11 = .ok (.iload_n 3, 1) := by decide +kernel
theorem d_M_neighbours_12 : decode c_M_neighbours 12 = .ok (.invokevirtual 73, 3) := by decide +kernel
theorem d_M_neighbours_15 : decode c_M_neighbours 15 = .ok (.ifCond .eq 6, 3) := by decide +kernel
theorem d_M_neighbours_18 : decode c_M_neighbours 18 = .ok (.iinc 2 1, 3) := by decide +kernel
theorem d_M_neighbours_21 : decode c_M_neighbours 21 = .ok (.iinc 3 1, 3) := by decide +kernel
theorem d_M_neighbours_24 : decode c_M_neighbours 24 = .ok (.goto (-20), 3) := by decide +kernel
theorem d_M_neighbours_27 : decode c_M_neighbours 27 = .ok (.iload_n 2, 1) := by decide +kernel
theorem d_M_neighbours_28 : decode c_M_neighbours 28 = .ok (.ireturn, 1) := by decide +kernel
theorem d_M_append_0 : decode c_M_append 0 = .ok (.aload_n 0, 1) := by decide +kernel
theorem d_M_append_1 : decode c_M_append 1 = .ok (.getfield 41, 3) := by decide +kernel
theorem d_M_append_4 : decode c_M_append 4 = .ok (.aload_n 0, 1) := by decide +kernel
theorem d_M_append_5 : decode c_M_append 5 = .ok (.getfield 76, 3) := by decide +kernel
theorem d_M_append_8 : decode c_M_append 8 = .ok (.iload_n 1, 1) := by decide +kernel
theorem d_M_append_9 : decode c_M_append 9 = .ok (.iastore, 1) := by decide +kernel
theorem d_M_append_10 : decode c_M_append 10 = .ok (.aload_n 0, 1) := by decide +kernel
theorem d_M_append_11 : decode c_M_append 11 = .ok (.dup, 1) := by decide +kernel
theorem d_M_append_12 : decode c_M_append 12 = .ok (.getfield 76, 3) := by decide +kernel
theorem d_M_append_15 : decode c_M_append 15 = .ok (.iconst 1, 1) := by decide +kernel
theorem d_M_append_16 : decode c_M_append 16 = .ok (.iadd, 1) := by decide +kernel
theorem d_M_append_17 : decode c_M_append 17 = .ok (.putfield 76, 3) := by decide +kernel
theorem d_M_append_20 : decode c_M_append 20 = .ok (.return_, 1) := by decide +kernel
theorem d_M_good_0 : decode c_M_good 0 = .ok (.aload_n 0, 1) := by decide +kernel
theorem d_M_good_1 : decode c_M_good 1 = .ok (.getfield 7, 3) := by decide +kernel
theorem d_M_good_4 : decode c_M_good 4 = .ok (.aload_n 0, 1) := by decide +kernel
theorem d_M_good_5 : decode c_M_good 5 = .ok (.getfield 20, 3) := by decide +kernel
theorem d_M_good_8 : decode c_M_good 8 = .ok (.iload_n 1, 1) := by decide +kernel
theorem d_M_good_9 : decode c_M_good 9 = .ok (.iaload, 1) := by decide +kernel
theorem d_M_good_10 : decode c_M_good 10 = .ok (.baload, 1) := by decide +kernel
theorem d_M_good_11 : decode c_M_good 11 = .ok (.ifCond .eq 17, 3) := by decide +kernel
theorem d_M_good_14 : decode c_M_good 14 = .ok (.aload_n 0, 1) := by decide +kernel
theorem d_M_good_15 : decode c_M_good 15 = .ok (.getfield 7, 3) := by decide +kernel
theorem d_M_good_18 : decode c_M_good 18 = .ok (.aload_n 0, 1) := by decide +kernel
theorem d_M_good_19 : decode c_M_good 19 = .ok (.getfield 23, 3) := by decide +kernel
theorem d_M_good_22 : decode c_M_good 22 = .ok (.iload_n 1, 1) := by decide +kernel
theorem d_M_good_23 : decode c_M_good 23 = .ok (.iaload, 1) := by decide +kernel
theorem d_M_good_24 : decode c_M_good 24 = .ok (.baload, 1) := by decide +kernel
theorem d_M_good_25 : decode c_M_good 25 = .ok (.ifCond .ne 5, 3) := by decide +kernel
theorem d_M_good_28 : decode c_M_good 28 = .ok (.iconst 0, 1) := by decide +kernel
theorem d_M_good_29 : decode c_M_good 29 = .ok (.ireturn, 1) := by decide +kernel
theorem d_M_good_30 : decode c_M_good 30 = .ok (.aload_n 0, 1) := by decide +kernel
theorem d_M_good_31 : decode c_M_good 31 = .ok (.getfield 13, 3) := by decide +kernel
theorem d_M_good_34 : decode c_M_good 34 = .ok (.aload_n 0, 1) := by decide +kernel
theorem d_M_good_35 : decode c_M_good 35 = .ok (.getfield 23, 3) := by decide +kernel
theorem d_M_good_38 : decode c_M_good 38 = .ok (.iload_n 1, 1) := by decide +kernel
theorem d_M_good_39 : decode c_M_good 39 = .ok (.iaload, 1) := by decide +kernel
theorem d_M_good_40 : decode c_M_good 40 = .ok (.iaload, 1) := by decide +kernel
theorem d_M_good_41 : decode c_M_good 41 = .ok (.aload_n 0, 1) := by decide +kernel
theorem d_M_good_42 : decode c_M_good 42 = .ok (.getfield 13, 3) := by decide +kernel
theorem d_M_good_45 : decode c_M_good 45 = .ok (.aload_n 0, 1) := by decide +kernel
theorem d_M_good_46 : decode c_M_good 46 = .ok (.getfield 20, 3) := by decide +kernel
theorem d_M_good_49 : decode c_M_good 49 = .ok (.iload_n 1, 1) := by decide +kernel
theorem d_M_good_50 : decode c_M_good 50 = .ok (.iaload, 1) := by decide +kernel
theorem d_M_good_51 : decode c_M_good 51 = .ok (.iaload, 1) := by decide +kernel
theorem d_M_good_52 : decode c_M_good 52 = .ok (.isub, 1) := by decide +kernel
theorem d_M_good_53 : decode c_M_good 53 = .ok (.istore_n 2, 1) := by decide +kernel
theorem d_M_good_54 : decode c_M_good 54 = .ok (.aload_n 0, 1) := by decide +kernel
theorem d_M_good_55 : decode c_M_good 55 = .ok (.getfield 17, 3) := by decide +kernel
theorem d_M_good_58 : decode c_M_good 58 = .ok (.aload_n 0, 1) := by decide +kernel
theorem d_M_good_59 : decode c_M_good 59 = .ok (.getfield 23, 3) := by decide +kernel
theorem d_M_good_62 : decode c_M_good 62 = .ok (.iload_n 1, 1) := by decide +kernel
theorem d_M_good_63 : decode c_M_good 63 = .ok (.iaload, 1) := by decide +kernel
theorem d_M_good_64 : decode c_M_good 64 = .ok (.iaload, 1) := by decide +kernel
theorem d_M_good_65 : decode c_M_good 65 = .ok (.aload_n 0, 1) := by decide +kernel
theorem d_M_good_66 : decode c_M_good 66 = .ok (.getfield 17, 3) := by decide +kernel
theorem d_M_good_69 : decode c_M_good 69 = .ok (.aload_n 0, 1) := by decide +kernel
theorem d_M_good_70 : decode c_M_good 70 = .ok (.getfield 20, 3) := by decide +kernel
theorem d_M_good_73 : decode c_M_good 73 = .ok (.iload_n 1, 1) := by decide +kernel
theorem d_M_good_74 : decode c_M_good 74 = .ok (.iaload, 1) := by decide +kernel
theorem d_M_good_75 : decode c_M_good 75 = .ok (.iaload, 1) := by decide +kernel
theorem d_M_good_76 : decode c_M_good 76 = .ok (.isub, 1) := by decide +kernel
theorem d_M_good_77 : decode c_M_good 77 = .ok (.istore_n 3, 1) := by decide +kernel
theorem d_M_good_78 : decode c_M_good 78 = .ok (.iload_n 2, 1) := by decide +kernel
theorem d_M_good_79 : decode c_M_good 79 = .ok (.ifCond .eq 18, 3) := by decide +kernel
theorem d_M_good_82 : decode c_M_good 82 = .ok (.iload_n 3, 1) := by decide +kernel
theorem d_M_good_83 : decode c_M_good 83 = .ok (.ifCond .eq 14, 3) := by decide +kernel
theorem d_M_good_86 : decode c_M_good 86 = .ok (.iload_n 2, 1) := by decide +kernel
theorem d_M_good_87 : decode c_M_good 87 = .ok (.iload_n 3, 1) := by decide +kernel
theorem d_M_good_88 : decode c_M_good 88 = .ok (.if_icmp .eq 9, 3) := by decide +kernel
theorem d_M_good_91 : decode c_M_good 91 = .ok (.iload_n 2, 1) := by decide +kernel
theorem d_M_good_92 : decode c_M_good 92 = .ok (.iload_n 3, 1) := by decide +kernel
theorem d_M_good_93 : decode c_M_good 93 = .ok (.ineg, 1) := by decide +kernel
theorem d_M_good_94 : decode c_M_good 94 = .ok (.if_icmp .ne 7, 3) := by decide +kernel
theorem d_M_good_97 : decode c_M_good 97 = .ok (.iconst 1, 1) := by decide +kernel
theorem d_M_good_98 : decode c_M_good 98 = .ok (.goto 4, 3) := by decide +kernel
theorem d_M_good_101 : decode c_M_good 101 = .ok (.iconst 0, 1) := by decide +kernel
theorem d_M_good_102 : decode c_M_good 102 = .ok (.ireturn, 1) := by decide +kernel
theorem d_M_makeMatrix_0 : decode c_M_makeMatrix 0 = .ok (.iconst 0, 1) := by decide +kernel
theorem d_M_makeMatrix_1 : decode c_M_makeMatrix 1 = .ok (.istore_n 1, 1) := by decide +kernel
theorem d_M_makeMatrix_2 : decode c_M_makeMatrix 2 = .ok (.iload_n 1, 1) := by decide +kernel
theorem d_M_makeMatrix_3 : decode c_M_makeMatrix 3 = .ok (.bipush 100, 2) := by decide +kernel
theorem d_M_makeMatrix_5 : decode c_M_makeMatrix 5 = .ok (.if_icmp .ge 39, 3) := by decide +kernel
theorem d_M_makeMatrix_8 : decode c_M_makeMatrix 8 = .ok (.aload_n 0, 1) := by decide +kernel
theorem d_M_makeMatrix_9 : decode c_M_makeMatrix 9 = .ok (.getfield 47, 3) := by decide +kernel
theorem d_M_makeMatrix_12 : decode c_M_makeMatrix 12 = .ok (.iload_n 1, 1) := by decide +kernel
theorem d_M_makeMatrix_13 : decode c_M_makeMatrix 13 = .ok (.iload_n 1, 1) := by decide +kernel
theorem d_M_makeMatrix_14 : decode c_M_makeMatrix 14 = .ok (.bipush 10, 2) := by decide +kernel
theorem d_M_makeMatrix_16 : decode c_M_makeMatrix 16 = .ok (.idiv, 1) := by decide +kernel
theorem d_M_makeMatrix_17 : decode c_M_makeMatrix 17 = .ok (.iload_n 1, 1) := by decide +kernel
theorem d_M_makeMatrix_18 : decode c_M_makeMatrix 18 = .ok (.bipush 10, 2) := by decide +kernel
theorem d_M_makeMatrix_20 : decode c_M_makeMatrix 20 = .ok (.irem, 1) := by decide +kernel
theorem d_M_makeMatrix_21 : decode c_M_makeMatrix 21 = .ok (.if_icmp .ne 15, 3) := by decide +kernel
theorem d_M_makeMatrix_24 : decode c_M_makeMatrix 24 = .ok (.aload_n 0, 1) := by decide +kernel
theorem d_M_makeMatrix_25 : decode c_M_makeMatrix 25 = .ok (.getfield 35, 3) := by decide +kernel
theorem d_M_makeMatrix_28 : decode c_M_makeMatrix 28 = .ok (.iload_n 1, 1) := by decide +kernel
theorem d_M_makeMatrix_29 : decode c_M_makeMatrix 29 = .ok (.bipush 10, 2) := by decide +kernel
theorem d_M_makeMatrix_31 : decode c_M_makeMatrix 31 = .ok (.idiv, 1) := by decide +kernel
theorem d_M_makeMatrix_32 : decode c_M_makeMatrix 32 = .ok (.iaload, 1) := by decide +kernel
theorem d_M_makeMatrix_33 : decode c_M_makeMatrix 33 = .ok (.goto 4, 3) := by decide +kernel
theorem d_M_makeMatrix_36 : decode c_M_makeMatrix 36 = .ok (.iconst 0, 1) := by decide +kernel
theorem d_M_makeMatrix_37 : decode c_M_makeMatrix 37 = .ok (.iastore, 1) := by decide +kernel
theorem d_M_makeMatrix_38 : decode c_M_makeMatrix 38 = .ok (.iinc 1 1, 3) := by decide +kernel
theorem d_M_makeMatrix_41 : decode c_M_makeMatrix 41 = .ok (.goto (-39), 3) := by decide +kernel
theorem d_M_makeMatrix_44 : decode c_M_makeMatrix 44 = .ok (.iconst 0, 1) := by decide +kernel
theorem d_M_makeMatrix_45 : decode c_M_makeMatrix 45 = .ok (.istore_n 1, 1) := by decide +kernel
theorem d_M_makeMatrix_46 : decode c_M_makeMatrix 46 = .ok (.iload_n 1, 1) := by decide +kernel
theorem d_M_makeMatrix_47 : decode c_M_makeMatrix 47 = .ok (.aload_n 0, 1) := by decide +kernel
theorem d_M_makeMatrix_48 : decode c_M_makeMatrix 48 = .ok (.getfield 65, 3) := by decide +kernel
theorem d_M_makeMatrix_51 : decode c_M_makeMatrix 51 = .ok (.if_icmp .ge 147, 3) := by decide +kernel
theorem d_M_makeMatrix_54 : decode c_M_makeMatrix 54 = .ok (.iconst 0, 1) := by decide +kernel
theorem d_M_makeMatrix_55 : decode c_M_makeMatrix 55 = .ok (.istore_n 2, 1) := by decide +kernel
theorem d_M_makeMatrix_56 : decode c_M_makeMatrix 56 = .ok (.iload_n 2, 1) := by decide +kernel
theorem d_M_makeMatrix_57 : decode c_M_makeMatrix 57 = .ok (.bipush 16, 2) := by decide +kernel
theorem d_M_makeMatrix_59 : decode c_M_makeMatrix 59 = .ok (.if_icmp .ge 133, 3) := by decide +kernel
theorem d_M_makeMatrix_62 : decode c_M_makeMatrix 62 = .ok (.iload_n 2, 1) := by decide +kernel
theorem d_M_makeMatrix_63 : decode c_M_makeMatrix 63 = .ok (.bipush 8, 2) := by decide +kernel
theorem d_M_makeMatrix_65 : decode c_M_makeMatrix 65 = .ok (.if_icmp .ge 12, 3) := by decide +kernel
theorem d_M_makeMatrix_68 : decode c_M_makeMatrix 68 = .ok (.aload_n 0, 1) := by decide +kernel
theorem d_M_makeMatrix_69 : decode c_M_makeMatrix 69 = .ok (.getfield 20, 3) := by decide +kernel
theorem d_M_makeMatrix_72 : decode c_M_makeMatrix 72 = .ok (.iload_n 1, 1) := by decide +kernel
theorem d_M_makeMatrix_73 : decode c_M_makeMatrix 73 = .ok (.iaload, 1) := by decide +kernel
theorem d_M_makeMatrix_74 : decode c_M_makeMatrix 74 = .ok (.goto 9, 3) := by decide +kernel
theorem d_M_makeMatrix_77 : decode c_M_makeMatrix 77 = .ok (.aload_n 0, 1) := by decide +kernel
theorem d_M_makeMatrix_78 : decode c_M_makeMatrix 78 = .ok (.getfield 23, 3) := by decide +kernel
theorem d_M_makeMatrix_81 : decode c_M_makeMatrix 81 = .ok (.iload_n 1, 1) := by decide +kernel
theorem d_M_makeMatrix_82 : decode c_M_makeMatrix 82 = .ok (.iaload, 1) := by decide +kernel
theorem d_M_makeMatrix_83 : decode c_M_makeMatrix 83 = .ok (.iconst 2, 1) := by decide +kernel
theorem d_M_makeMatrix_84 : decode c_M_makeMatrix 84 = .ok (.imul, 1) := by decide +kernel
theorem d_M_makeMatrix_85 : decode c_M_makeMatrix 85 = .ok (.iload_n 2, 1) := by decide +kernel
theorem d_M_makeMatrix_86 : decode c_M_makeMatrix 86 = .ok (.iconst 2, 1) := by decide +kernel
theorem d_M_makeMatrix_87 : decode c_M_makeMatrix 87 = .ok (.irem, 1) := by decide +kernel
theorem d_M_makeMatrix_88 : decode c_M_makeMatrix 88 = .ok (.iadd, 1) := by decide +kernel
theorem d_M_makeMatrix_89 : decode c_M_makeMatrix 89 = .ok (.istore_n 3, 1) := by decide +kernel
theorem d_M_makeMatrix_90 : decode c_M_makeMatrix 90 = .ok (.iload_n 2, 1) := by decide +kernel
theorem d_M_makeMatrix_91 : decode c_M_makeMatrix 91 = .ok (.iconst 4, 1) := by decide +kernel
theorem d_M_makeMatrix_92 : decode c_M_makeMatrix 92 = .ok (.idiv, 1) := by decide +kernel
theorem d_M_makeMatrix_93 : decode c_M_makeMatrix 93 = .ok (.iconst 2, 1) := by decide +kernel
theorem d_M_makeMatrix_94 : decode c_M_makeMatrix 94 = .ok (.irem, 1) := by decide +kernel
theorem d_M_makeMatrix_95 : decode c_M_makeMatrix 95 = .ok (.ifCond .ne 12, 3) := by decide +kernel
theorem d_M_makeMatrix_98 : decode c_M_makeMatrix 98 = .ok (.aload_n 0, 1) := by decide +kernel
theorem d_M_makeMatrix_99 : decode c_M_makeMatrix 99 = .ok (.getfield 20, 3) := by decide +kernel
theorem d_M_makeMatrix_102 : decode c_M_makeMatrix 102 = .ok (.iload_n 1, 1) := by decide +kernel
theorem d_M_makeMatrix_103 : decode c_M_makeMatrix 103 = .ok (.iaload, 1) := by decide +kernel
theorem d_M_makeMatrix_104 : decode c_M_makeMatrix 104 = .ok (.goto 9, 3) := by decide +kernel
theorem d_M_makeMatrix_107 : decode c_M_makeMatrix 107 = .ok (.aload_n 0, 1) := by decide +kernel
theorem d_M_makeMatrix_108 : decode c_M_makeMatrix 108 = .ok (.getfield 23, 3) := by decide +kernel
theorem d_M_makeMatrix_111 : decode c_M_makeMatrix 111 = .ok (.iload_n 1, 1) := by decide +kernel
theorem d_M_makeMatrix_112 : decode c_M_makeMatrix 112 = .ok (.iaload, 1) := by decide +kernel
theorem d_M_makeMatrix_113 : decode c_M_makeMatrix 113 = .ok (.iconst 2, 1) := by decide +kernel
theorem d_M_makeMatrix_114 : decode c_M_makeMatrix 114 = .ok (.imul, 1) := by decide +kernel
theorem d_M_makeMatrix_115 : decode c_M_makeMatrix 115 = .ok (.iload_n 2, 1) := by decide +kernel
theorem d_M_makeMatrix_116 : decode c_M_makeMatrix 116 = .ok (.iconst 2, 1) := by decide +kernel
theorem d_M_makeMatrix_117 : decode c_M_makeMatrix 117 = .ok (.idiv, 1) := by decide +kernel
theorem d_M_makeMatrix_118 : decode c_M_makeMatrix 118 = .ok (.iconst 2, 1) := by decide +kernel
theorem d_M_makeMatrix_119 : decode c_M_makeMatrix 119 = .ok (.irem, 1) := by decide +kernel
theorem d_M_makeMatrix_120 : decode c_M_makeMatrix 120 = .ok (.iadd, 1) := by decide +kernel
theorem d_M_makeMatrix_121 : decode c_M_makeMatrix 121 = .ok (.istore 4, 2) := by decide +kernel
theorem d_M_makeMatrix_123 : decode c_M_makeMatrix 123 = .ok (.aload_n 0, 1) := by decide +kernel
theorem d_M_makeMatrix_124 : decode c_M_makeMatrix 124 = .ok (.getfield 26, 3) := by decide +kernel
theorem d_M_makeMatrix_127 : decode c_M_makeMatrix 127 = .ok (.iload_n 1, 1) := by decide +kernel
theorem d_M_makeMatrix_128 : decode c_M_makeMatrix 128 = .ok (.iaload, 1) := by decide +kernel
theorem d_M_makeMatrix_129 : decode c_M_makeMatrix 129 = .ok (.aload_n 0, 1) := by decide +kernel
theorem d_M_makeMatrix_130 : decode c_M_makeMatrix 130 = .ok (.iload_n 1, 1) := by decide +kernel
theorem d_M_makeMatrix_131 : decode c_M_makeMatrix 131 = .ok (.iload_n 2, 1) := by decide +kernel
theorem d_M_makeMatrix_132 : decode c_M_makeMatrix 132 = .ok (.iconst 2, 1) := by decide +kernel
theorem d_M_makeMatrix_133 : decode c_M_makeMatrix 133 = .ok (.irem, 1) := by decide +kernel
theorem d_M_makeMatrix_134 : decode c_M_makeMatrix 134 = .ok (.invokevirtual 96, 3) := by decide +kernel
theorem d_M_makeMatrix_137 : decode c_M_makeMatrix 137 = .ok (.imul, 1) := by decide +kernel
theorem d_M_makeMatrix_138 : decode c_M_makeMatrix 138 = .ok (.aload_n 0, 1) := by decide +kernel
theorem d_M_makeMatrix_139 : decode c_M_makeMatrix 139 = .ok (.iload_n 1, 1) := by decide +kernel
theorem d_M_makeMatrix_140 : decode c_M_makeMatrix 140 = .ok (.iload_n 2, 1) := by decide +kernel
theorem d_M_makeMatrix_141 : decode c_M_makeMatrix 141 = .ok (.iconst 2, 1) := by decide +kernel
theorem d_M_makeMatrix_142 : decode c_M_makeMatrix 142 = .ok (.idiv, 1) := by decide +kernel
theorem d_M_makeMatrix_143 : decode c_M_makeMatrix 143 = .ok (.iconst 2, 1) := by decide +kernel
theorem d_M_makeMatrix_144 : decode c_M_makeMatrix 144 = .ok (.irem, 1) := by decide +kernel
theorem d_M_makeMatrix_145 : decode c_M_makeMatrix 145 = .ok (.invokevirtual 96, 3) := by decide +kernel
theorem d_M_makeMatrix_148 : decode c_M_makeMatrix 148 = .ok (.imul, 1) := by decide +kernel
theorem d_M_makeMatrix_149 : decode c_M_makeMatrix 149 = .ok (.istore 5, 2) := by decide +kernel
theorem d_M_makeMatrix_151 : decode c_M_makeMatrix 151 = .ok (.aload_n 0, 1) := by decide +kernel
theorem d_M_makeMatrix_152 : decode c_M_makeMatrix 152 = .ok (.getfield 47, 3) := by decide +kernel
theorem d_M_makeMatrix_155 : decode c_M_makeMatrix 155 = .ok (.iload_n 3, 1) := by decide +kernel
theorem d_M_makeMatrix_156 : decode c_M_makeMatrix 156 = .ok (.bipush 10, 2) := by decide +kernel
theorem d_M_makeMatrix_158 : decode c_M_makeMatrix 158 = .ok (.imul, 1) := by decide +kernel
theorem d_M_makeMatrix_159 : decode c_M_makeMatrix 159 = .ok (.iload 4, 2) := by decide +kernel
theorem d_M_makeMatrix_161 : decode c_M_makeMatrix 161 = .ok (.iadd, 1) := by decide +kernel
theorem d_M_makeMatrix_162 : decode c_M_makeMatrix 162 = .ok (.dup2, 1) := by decide +kernel
theorem d_M_makeMatrix_163 : decode c_M_makeMatrix 163 = .ok (.iaload, 1) := by decide +kernel
theorem d_M_makeMatrix_164 : decode c_M_makeMatrix 164 = .ok (.iload_n 2, 1) := by decide +kernel
theorem d_M_makeMatrix_165 : decode c_M_makeMatrix 165 = .ok (.bipush 8, 2) := by decide +kernel
theorem d_M_makeMatrix_167 : decode c_M_makeMatrix 167 = .ok (.idiv, 1) := by decide +kernel
theorem d_M_makeMatrix_168 : decode c_M_makeMatrix 168 = .ok (.iload_n 2, 1) := by decide +kernel
theorem d_M_makeMatrix_169 : decode c_M_makeMatrix 169 = .ok (.iconst 4, 1) := by decide +kernel
theorem d_M_makeMatrix_170 : decode c_M_makeMatrix 170 = .ok (.idiv, 1) := by decide +kernel
theorem d_M_makeMatrix_171 : decode c_M_makeMatrix 171 = .ok (.iconst 2, 1) := by decide +kernel
theorem d_M_makeMatrix_172 : decode c_M_makeMatrix 172 = .ok (.irem, 1) := by decide +kernel
theorem d_M_makeMatrix_173 : decode c_M_makeMatrix 173 = .ok (.if_icmp .ne 8, 3) := by decide +kernel
theorem d_M_makeMatrix_176 : decode c_M_makeMatrix 176 = .ok (.iload 5, 2) := by decide +kernel
theorem d_M_makeMatrix_178 : decode c_M_makeMatrix 178 = .ok (.goto 6, 3) := by decide +kernel
theorem d_M_makeMatrix_181 : decode c_M_makeMatrix 181 = .ok (.iload 5, 2) := by decide +kernel
theorem d_M_makeMatrix_183 : decode c_M_makeMatrix 183 = .ok (.ineg, 1) := by decide +kernel
theorem d_M_makeMatrix_184 : decode c_M_makeMatrix 184 = .ok (.iadd, 1) := by decide +kernel
theorem d_M_makeMatrix_185 : decode c_M_makeMatrix 185 = .ok (.iastore, 1) := by decide +kernel
theorem d_M_makeMatrix_186 : decode c_M_makeMatrix 186 = .ok (.iinc 2 1, 3) := by decide +kernel
theorem d_M_makeMatrix_189 : decode c_M_makeMatrix 189 = .ok (.goto (-133), 3) := by decide +kernel
theorem d_M_makeMatrix_192 : decode c_M_makeMatrix 192 = .ok (.iinc 1 1, 3) := by decide +kernel
theorem d_M_makeMatrix_195 : decode c_M_makeMatrix 195 = .ok (.goto (-149), 3) := by decide +kernel
theorem d_M_makeMatrix_198 : decode c_M_makeMatrix 198 = .ok (.return_, 1) := by decide +kernel
theorem d_M_way_0 : decode c_M_way 0 = .ok (.aload_n 0, 1) := by decide +kernel
theorem d_M_way_1 : decode c_M_way 1 = .ok (.getfield 13, 3) := by decide +kernel
theorem d_M_way_4 : decode c_M_way 4 = .ok (.aload_n 0, 1) := by decide +kernel
theorem d_M_way_5 : decode c_M_way 5 = .ok (.getfield 23, 3) := by decide +kernel
theorem d_M_way_8 : decode c_M_way 8 = .ok (.iload_n 1, 1) := by decide +kernel
theorem d_M_way_9 : decode c_M_way 9 = .ok (.iaload, 1) := by decide +kernel
theorem d_M_way_10 : decode c_M_way 10 = .ok (.iaload, 1) := by decide +kernel
theorem d_M_way_11 : decode c_M_way 11 = .ok (.aload_n 0, 1) := by decide +kernel
theorem d_M_way_12 : decode c_M_way 12 = .ok (.getfield 13, 3) := by decide +kernel
theorem d_M_way_15 : decode c_M_way 15 = .ok (.aload_n 0, 1) := by decide +kernel
theorem d_M_way_16 : decode c_M_way 16 = .ok (.getfield 20, 3) := by decide +kernel
theorem d_M_way_19 : decode c_M_way 19 = .ok (.iload_n 1, 1) := by decide +kernel
theorem d_M_way_20 : decode c_M_way 20 = .ok (.iaload, 1) := by decide +kernel
theorem d_M_way_21 : decode c_M_way 21 = .ok (.iaload, 1) := by decide +kernel
theorem d_M_way_22 : decode c_M_way 22 = .ok (.isub, 1) := by decide +kernel
theorem d_M_way_23 : decode c_M_way 23 = .ok (.istore_n 3, 1) := by decide +kernel
theorem d_M_way_24 : decode c_M_way 24 = .ok (.aload_n 0, 1) := by decide +kernel
theorem d_M_way_25 : decode c_M_way 25 = .ok (.getfield 17, 3) := by decide +kernel
theorem d_M_way_28 : decode c_M_way 28 = .ok (.aload_n 0, 1) := by decide +kernel
theorem d_M_way_29 : decode c_M_way 29 = .ok (.getfield 23, 3) := by decide +kernel
theorem d_M_way_32 : decode c_M_way 32 = .ok (.iload_n 1, 1) := by decide +kernel
theorem d_M_way_33 : decode c_M_way 33 = .ok (.iaload, 1) := by decide +kernel
theorem d_M_way_34 : decode c_M_way 34 = .ok (.iaload, 1) := by decide +kernel
theorem d_M_way_35 : decode c_M_way 35 = .ok (.aload_n 0, 1) := by decide +kernel
theorem d_M_way_36 : decode c_M_way 36 = .ok (.getfield 17, 3) := by decide +kernel
theorem d_M_way_39 : decode c_M_way 39 = .ok (.aload_n 0, 1) := by decide +kernel
theorem d_M_way_40 : decode c_M_way 40 = .ok (.getfield 20, 3) := by decide +kernel
theorem d_M_way_43 : decode c_M_way 43 = .ok (.iload_n 1, 1) := by decide +kernel
theorem d_M_way_44 : decode c_M_way 44 = .ok (.iaload, 1) := by decide +kernel
theorem d_M_way_45 : decode c_M_way 45 = .ok (.iaload, 1) := by decide +kernel
theorem d_M_way_46 : decode c_M_way 46 = .ok (.isub, 1) := by decide +kernel
theorem d_M_way_47 : decode c_M_way 47 = .ok (.istore 4, 2) := by decide +kernel
theorem d_M_way_49 : decode c_M_way 49 = .ok (.iload_n 2, 1) := by decide +kernel
theorem d_M_way_50 : decode c_M_way 50 = .ok (.ifCond .ne 11, 3) := by decide +kernel
theorem d_M_way_53 : decode c_M_way 53 = .ok (.aload_n 0, 1) := by decide +kernel
theorem d_M_way_54 : decode c_M_way 54 = .ok (.iload_n 3, 1) := by decide +kernel
theorem d_M_way_55 : decode c_M_way 55 = .ok (.invokevirtual 69, 3) := by decide +kernel
theorem d_M_way_58 : decode c_M_way 58 = .ok (.goto 9, 3) := by decide +kernel
theorem d_M_way_61 : decode c_M_way 61 = .ok (.aload_n 0, 1) := by decide +kernel
theorem d_M_way_62 : decode c_M_way 62 = .ok (.iload 4, 2) := by decide +kernel
theorem d_M_way_64 : decode c_M_way 64 = .ok (.invokevirtual 69, 3) := by decide +kernel
theorem d_M_way_67 : decode c_M_way 67 = .ok (.ireturn, 1) := by decide +kernel
theorem d_M_sign_0 : decode c_M_sign 0 = .ok (.iload_n 1, 1) := by decide +kernel
theorem d_M_sign_1 : decode c_M_sign 1 = .ok (.ifCond .ge 7, 3) := by decide +kernel
theorem d_M_sign_4 : decode c_M_sign 4 = .ok (.iconst (-1), 1) := by decide +kernel
theorem d_M_sign_5 : decode c_M_sign 5 = .ok (.goto 12, 3) := by decide +kernel
theorem d_M_sign_8 : decode c_M_sign 8 = .ok (.iload_n 1, 1) := by decide +kernel
theorem d_M_sign_9 : decode c_M_sign 9 = .ok (.ifCond .le 7, 3) := by decide +kernel
theorem d_M_sign_12 : decode c_M_sign 12 = .ok (.iconst 1, 1) := by decide +kernel
theorem d_M_sign_13 : decode c_M_sign 13 = .ok (.goto 4, 3) := by decide +kernel
theorem d_M_sign_16 : decode c_M_sign 16 = .ok (.iconst 0, 1) := by decide +kernel
theorem d_M_sign_17 : decode c_M_sign 17 = .ok (.ireturn, 1) := by decide +kernel
theorem d_M_det_0 : decode c_M_det 0 = .ok (.ldc2_w 114, 3) := by decide +kernel
theorem d_M_det_3 : decode c_M_det 3 = .ok (.lstore_n 3, 1) := by decide +kernel
theorem d_M_det_4 : decode c_M_det 4 = .ok (.ldc2_w 116, 3) := by decide +kernel
theorem d_M_det_7 : decode c_M_det 7 = .ok (.lstore 5, 2) := by decide +kernel
theorem d_M_det_9 : decode c_M_det 9 = .ok (.aload_n 0, 1) := by decide +kernel
theorem d_M_det_10 : decode c_M_det 10 = .ok (.iload_n 1, 1) := by decide +kernel
theorem d_M_det_11 : decode c_M_det 11 = .ok (.iload_n 2, 1) := by decide +kernel
theorem d_M_det_12 : decode c_M_det 12 = .ok (.lload_n 3, 1) := by decide +kernel
theorem d_M_det_13 : decode c_M_det 13 = .ok (.invokevirtual 118, 3) := by decide +kernel
theorem d_M_det_16 : decode c_M_det 16 = .ok (.lstore 7, 2) := by decide +kernel
theorem d_M_det_18 : decode c_M_det 18 = .ok (.aload_n 0, 1) := by decide +kernel
theorem d_M_det_19 : decode c_M_det 19 = .ok (.iload_n 1, 1) := by decide +kernel
theorem d_M_det_20 : decode c_M_det 20 = .ok (.iload_n 2, 1) := by decide +kernel
theorem d_M_det_21 : decode c_M_det 21 = .ok (.lload 5, 2) := by decide +kernel
theorem d_M_det_23 : decode c_M_det 23 = .ok (.invokevirtual 118, 3) := by decide +kernel
theorem d_M_det_26 : decode c_M_det 26 = .ok (.lstore 9, 2) := by decide +kernel
theorem d_M_det_28 : decode c_M_det 28 = .ok (.lload 9, 2) := by decide +kernel
theorem d_M_det_30 : decode c_M_det 30 = .ok (.lload 7, 2) := by decide +kernel
theorem d_M_det_32 : decode c_M_det 32 = .ok (.lsub, 1) := by decide +kernel
theorem d_M_det_33 : decode c_M_det 33 = .ok (.lload 5, 2) := by decide +kernel
theorem d_M_det_35 : decode c_M_det 35 = .ok (.lrem, 1) := by decide +kernel
theorem d_M_det_36 : decode c_M_det 36 = .ok (.lload 5, 2) := by decide +kernel
theorem d_M_det_38 : decode c_M_det 38 = .ok (.ladd, 1) := by decide +kernel
theorem d_M_det_39 : decode c_M_det 39 = .ok (.lload 5, 2) := by decide +kernel
theorem d_M_det_41 : decode c_M_det 41 = .ok (.lrem, 1) := by decide +kernel
theorem d_M_det_42 : decode c_M_det 42 = .ok (.aload_n 0, 1) := by decide +kernel
theorem d_M_det_43 : decode c_M_det 43 = .ok (.lload_n 3, 1) := by decide +kernel
theorem d_M_det_44 : decode c_M_det 44 = .ok (.lload 5, 2) := by decide +kernel
theorem d_M_det_46 : decode c_M_det 46 = .ok (.lrem, 1) := by decide +kernel
theorem d_M_det_47 : decode c_M_det 47 = .ok (.lload 5, 2) := by decide +kernel
theorem d_M_det_49 : decode c_M_det 49 = .ok (.ldc2_w 108, 3) := by decide +kernel
theorem d_M_det_52 : decode c_M_det 52 = .ok (.lsub, 1) := by decide +kernel
theorem d_M_det_53 : decode c_M_det 53 = .ok (.lload 5, 2) := by decide +kernel
theorem d_M_det_55 : decode c_M_det 55 = .ok (.invokevirtual 110, 3) := by decide +kernel
theorem d_M_det_58 : decode c_M_det 58 = .ok (.lmul, 1) := by decide +kernel
theorem d_M_det_59 : decode c_M_det 59 = .ok (.lload 5, 2) := by decide +kernel
theorem d_M_det_61 : decode c_M_det 61 = .ok (.lrem, 1) := by decide +kernel
theorem d_M_det_62 : decode c_M_det 62 = .ok (.lstore 11, 2) := by decide +kernel
theorem d_M_det_64 : decode c_M_det 64 = .ok (.lload 7, 2) := by decide +kernel
theorem d_M_det_66 : decode c_M_det 66 = .ok (.lload_n 3, 1) := by decide +kernel
theorem d_M_det_67 : decode c_M_det 67 = .ok (.lload 11, 2) := by decide +kernel
theorem d_M_det_69 : decode c_M_det 69 = .ok (.lmul, 1) := by decide +kernel
theorem d_M_det_70 : decode c_M_det 70 = .ok (.ladd, 1) := by decide +kernel
theorem d_M_det_71 : decode c_M_det 71 = .ok (.lstore 13, 2) := by decide +kernel
theorem d_M_det_73 : decode c_M_det 73 = .ok (.lload 13, 2) := by decide +kernel
theorem d_M_det_75 : decode c_M_det 75 = .ok (.lload_n 3, 1) := by decide +kernel
theorem d_M_det_76 : decode c_M_det 76 = .ok (.lload 5, 2) := by decide +kernel
theorem d_M_det_78 : decode c_M_det 78 = .ok (.lmul, 1) := by decide +kernel
theorem d_M_det_79 : decode c_M_det 79 = .ok (.ldc2_w 108, 3) := by decide +kernel
theorem d_M_det_82 : decode c_M_det 82 = .ok (.ldiv, 1) := by decide +kernel
theorem d_M_det_83 : decode c_M_det 83 = .ok (.lcmp, 1) := by decide +kernel
theorem d_M_det_84 : decode c_M_det 84 = .ok (.ifCond .le 13, 3) := by decide +kernel
theorem d_M_det_87 : decode c_M_det 87 = .ok (.lload 13, 2) := by decide +kernel
theorem d_M_det_89 : decode c_M_det 89 = .ok (.lload_n 3, 1) := by decide +kernel
theorem d_M_det_90 : decode c_M_det 90 = .ok (.lload 5, 2) := by decide +kernel
theorem d_M_det_92 : decode c_M_det 92 = .ok (.lmul, 1) := by decide +kernel
theorem d_M_det_93 : decode c_M_det 93 = .ok (.lsub, 1) := by decide +kernel
theorem d_M_det_94 : decode c_M_det 94 = .ok (.goto 5, 3) := by decide +kernel
theorem d_M_det_97 : decode c_M_det 97 = .ok (.lload 13, 2) := by decide +kernel
theorem d_M_det_99 : decode c_M_det 99 = .ok (.lreturn, 1) := by decide +kernel
theorem d_M_modulo_0 : decode c_M_modulo 0 = .ok (.iconst 0, 1) := by decide +kernel
theorem d_M_modulo_1 : decode c_M_modulo 1 = .ok (.istore 5, 2) := by decide +kernel
theorem d_M_modulo_3 : decode c_M_modulo 3 = .ok (.iload 5, 2) := by decide +kernel
theorem d_M_modulo_5 : decode c_M_modulo 5 = .ok (.iload_n 1, 1) := by decide +kernel
theorem d_M_modulo_6 : decode c_M_modulo 6 = .ok (.iload_n 1, 1) := by decide +kernel
theorem d_M_modulo_7 : decode c_M_modulo 7 = .ok (.imul, 1) := by decide +kernel
theorem d_M_modulo_8 : decode c_M_modulo 8 = .ok (.if_icmp .ge 84, 3) := by decide +kernel
theorem d_M_modulo_11 : decode c_M_modulo 11 = .ok (.iload 5, 2) := by decide +kernel
theorem d_M_modulo_13 : decode c_M_modulo 13 = .ok (.iload_n 1, 1) := by decide +kernel
theorem d_M_modulo_14 : decode c_M_modulo 14 = .ok (.idiv, 1) := by decide +kernel
theorem d_M_modulo_15 : decode c_M_modulo 15 = .ok (.istore 6, 2) := by decide +kernel
theorem d_M_modulo_17 : decode c_M_modulo 17 = .ok (.iload 5, 2) := by decide +kernel
theorem d_M_modulo_19 : decode c_M_modulo 19 = .ok (.iload_n 1, 1) := by decide +kernel
theorem d_M_modulo_20 : decode c_M_modulo 20 = .ok (.irem, 1) := by decide +kernel
theorem d_M_modulo_21 : decode c_M_modulo 21 = .ok (.istore 7, 2) := by decide +kernel
theorem d_M_modulo_23 : decode c_M_modulo 23 = .ok (.iload 7, 2) := by decide +kernel
theorem d_M_modulo_25 : decode c_M_modulo 25 = .ok (.iload_n 2, 1) := by decide +kernel
theorem d_M_modulo_26 : decode c_M_modulo 26 = .ok (.if_icmp .ne 13, 3) := by decide +kernel
theorem d_M_modulo_29 : decode c_M_modulo 29 = .ok (.aload_n 0, 1) := by decide +kernel
theorem d_M_modulo_30 : decode c_M_modulo 30 = .ok (.getfield 50, 3) := by decide +kernel
theorem d_M_modulo_33 : decode c_M_modulo 33 = .ok (.iload 6, 2) := by decide +kernel
theorem d_M_modulo_35 : decode c_M_modulo 35 = .ok (.laload, 1) := by decide +kernel
theorem d_M_modulo_36 : decode c_M_modulo 36 = .ok (.goto 27, 3) := by decide +kernel
theorem d_M_modulo_39 : decode c_M_modulo 39 = .ok (.aload_n 0, 1) := by decide +kernel
theorem d_M_modulo_40 : decode c_M_modulo 40 = .ok (.getfield 47, 3) := by decide +kernel
theorem d_M_modulo_43 : decode c_M_modulo 43 = .ok (.aload_n 0, 1) := by decide +kernel
theorem d_M_modulo_44 : decode c_M_modulo 44 = .ok (.getfield 44, 3) := by decide +kernel
theorem d_M_modulo_47 : decode c_M_modulo 47 = .ok (.iload 6, 2) := by decide +kernel
theorem d_M_modulo_49 : decode c_M_modulo 49 = .ok (.iaload, 1) := by decide +kernel
theorem d_M_modulo_50 : decode c_M_modulo 50 = .ok (.bipush 10, 2) := by decide +kernel
theorem d_M_modulo_52 : decode c_M_modulo 52 = .ok (.imul, 1) := by decide +kernel
theorem d_M_modulo_53 : decode c_M_modulo 53 = .ok (.aload_n 0, 1) := by decide +kernel
theorem d_M_modulo_54 : decode c_M_modulo 54 = .ok (.getfield 44, 3) := by decide +kernel
theorem d_M_modulo_57 : decode c_M_modulo 57 = .ok (.iload 7, 2) := by decide +kernel
theorem d_M_modulo_59 : decode c_M_modulo 59 = .ok (.iaload, 1) := by decide +kernel
theorem d_M_modulo_60 : decode c_M_modulo 60 = .ok (.iadd, 1) := by decide +kernel
theorem d_M_modulo_61 : decode c_M_modulo 61 = .ok (.iaload, 1) := by decide +kernel
theorem d_M_modulo_62 : decode c_M_modulo 62 = .ok (.i2l, 1) := by decide +kernel
theorem d_M_modulo_63 : decode c_M_modulo 63 = .ok (.lstore 8, 2) := by decide +kernel
theorem d_M_modulo_65 : decode c_M_modulo 65 = .ok (.aload_n 0, 1) := by decide +kernel
theorem d_M_modulo_66 : decode c_M_modulo 66 = .ok (.getfield 54, 3) := by decide +kernel
theorem d_M_modulo_69 : decode c_M_modulo 69 = .ok (.iload 6, 2) := by decide +kernel
theorem d_M_modulo_71 : decode c_M_modulo 71 = .ok (.bipush 10, 2) := by decide +kernel
theorem d_M_modulo_73 : decode c_M_modulo 73 = .ok (.imul, 1) := by decide +kernel
theorem d_M_modulo_74 : decode c_M_modulo 74 = .ok (.iload 7, 2) := by decide +kernel
theorem d_M_modulo_76 : decode c_M_modulo 76 = .ok (.iadd, 1) := by decide +kernel
theorem d_M_modulo_77 : decode c_M_modulo 77 = .ok (.lload 8, 2) := by decide +kernel
theorem d_M_modulo_79 : decode c_M_modulo 79 = .ok (.lload_n 3, 1) := by decide +kernel
theorem d_M_modulo_80 : decode c_M_modulo 80 = .ok (.lrem, 1) := by decide +kernel
theorem d_M_modulo_81 : decode c_M_modulo 81 = .ok (.lload_n 3, 1) := by decide +kernel
theorem d_M_modulo_82 : decode c_M_modulo 82 = .ok (.ladd, 1) := by decide +kernel
theorem d_M_modulo_83 : decode c_M_modulo 83 = .ok (.lload_n 3, 1) := by decide +kernel
theorem d_M_modulo_84 : decode c_M_modulo 84 = .ok (.lrem, 1) := by decide +kernel
theorem d_M_modulo_85 : decode c_M_modulo 85 = .ok (.lastore, 1) := by decide +kernel
theorem d_M_modulo_86 : decode c_M_modulo 86 = .ok (.iinc 5 1, 3) := by decide +kernel
theorem d_M_modulo_89 : decode c_M_modulo 89 = .ok (.goto (-86), 3) := by decide +kernel
theorem d_M_modulo_92 : decode c_M_modulo 92 = .ok (.lconst 1, 1) := by decide +kernel
theorem d_M_modulo_93 : decode c_M_modulo 93 = .ok (.lstore 5, 2) := by decide +kernel
theorem d_M_modulo_95 : decode c_M_modulo 95 = .ok (.iconst 0, 1) := by decide +kernel
theorem d_M_modulo_96 : decode c_M_modulo 96 = .ok (.istore 7, 2) := by decide +kernel
theorem d_M_modulo_98 : decode c_M_modulo 98 = .ok (.iload 7, 2) := by decide +kernel
theorem d_M_modulo_100 : decode c_M_modulo 100 = .ok (.iload_n 1, 1) := by decide +kernel
theorem d_M_modulo_101 : decode c_M_modulo 101 = .ok (.if_icmp .ge 100, 3) := by decide +kernel
theorem d_M_modulo_104 : decode c_M_modulo 104 = .ok (.iload 7, 2) := by decide +kernel
theorem d_M_modulo_106 : decode c_M_modulo 106 = .ok (.istore 8, 2) := by decide +kernel
theorem d_M_modulo_108 : decode c_M_modulo 108 = .ok (.iload 8, 2) := by decide +kernel
theorem d_M_modulo_110 : decode c_M_modulo 110 = .ok (.iload_n 1, 1) := by decide +kernel
theorem d_M_modulo_111 : decode c_M_modulo 111 = .ok (.if_icmp .ge 27, 3) := by decide +kernel
theorem d_M_modulo_114 : decode c_M_modulo 114 = .ok (.aload_n 0, 1) := by decide +kernel
theorem d_M_modulo_115 : decode c_M_modulo 115 = .ok (.getfield 54, 3) := by decide +kernel
theorem d_M_modulo_118 : decode c_M_modulo 118 = .ok (.iload 8, 2) := by decide +kernel
theorem d_M_modulo_120 : decode c_M_modulo 120 = .ok (.bipush 10, 2) := by decide +kernel
theorem d_M_modulo_122 : decode c_M_modulo 122 = .ok (.imul, 1) := by decide +kernel
theorem d_M_modulo_123 : decode c_M_modulo 123 = .ok (.iload 7, 2) := by decide +kernel
theorem d_M_modulo_125 : decode c_M_modulo 125 = .ok (.iadd, 1) := by decide +kernel
theorem d_M_modulo_126 : decode c_M_modulo 126 = .ok (.laload, 1) := by decide +kernel
theorem d_M_modulo_127 : decode c_M_modulo 127 = .ok (.lconst 0, 1) := by decide +kernel
theorem d_M_modulo_128 : decode c_M_modulo 128 = .ok (.lcmp, 1) := by decide +kernel
theorem d_M_modulo_129 : decode c_M_modulo 129 = .ok (.ifCond .ne 9, 3) := by decide +kernel
theorem d_M_modulo_132 : decode c_M_modulo 132 = .ok (.iinc 8 1, 3) := by decide +kernel
theorem d_M_modulo_135 : decode c_M_modulo 135 = .ok (.goto (-27), 3) := by decide +kernel
theorem d_M_modulo_138 : decode c_M_modulo 138 = .ok (.iload 8, 2) := by decide +kernel
theorem d_M_modulo_140 : decode c_M_modulo 140 = .ok (.iload_n 1, 1) := by decide +kernel
theorem d_M_modulo_141 : decode c_M_modulo 141 = .ok (.if_icmp .ne 5, 3) := by decide +kernel
theorem d_M_modulo_144 : decode c_M_modulo 144 = .ok (.lconst 0, 1) := by decide +kernel
theorem d_M_modulo_145 : decode c_M_modulo 145 = .ok (.lreturn, 1) := by decide +kernel
theorem d_M_modulo_146 : decode c_M_modulo 146 = .ok (.iload 8, 2) := by decide +kernel
theorem d_M_modulo_148 : decode c_M_modulo 148 = .ok (.iload 7, 2) := by decide +kernel
theorem d_M_modulo_150 : decode c_M_modulo 150 = .ok (.if_icmp .eq 9, 3) := by decide +kernel
theorem d_M_modulo_153 : decode c_M_modulo 153 = .ok (.lload_n 3, 1) := by decide +kernel
theorem d_M_modulo_154 : decode c_M_modulo 154 = .ok (.lload 5, 2) := by decide +kernel
theorem d_M_modulo_156 : decode c_M_modulo 156 = .ok (.lsub, 1) := by decide +kernel
theorem d_M_modulo_157 : decode c_M_modulo 157 = .ok (.lstore 5, 2) := by decide +kernel
theorem d_M_modulo_159 : decode c_M_modulo 159 = .ok (.aload_n 0, 1) := by decide +kernel
theorem d_M_modulo_160 : decode c_M_modulo 160 = .ok (.iload 8, 2) := by decide +kernel
theorem d_M_modulo_162 : decode c_M_modulo 162 = .ok (.iload 7, 2) := by decide +kernel
theorem d_M_modulo_164 : decode c_M_modulo 164 = .ok (.invokevirtual 100, 3) := by decide +kernel
theorem d_M_modulo_167 : decode c_M_modulo 167 = .ok (.lload 5, 2) := by decide +kernel
theorem d_M_modulo_169 : decode c_M_modulo 169 = .ok (.aload_n 0, 1) := by decide +kernel
theorem d_M_modulo_170 : decode c_M_modulo 170 = .ok (.getfield 54, 3) := by decide +kernel
theorem d_M_modulo_173 : decode c_M_modulo 173 = .ok (.iload 7, 2) := by decide +kernel
theorem d_M_modulo_175 : decode c_M_modulo 175 = .ok (.bipush 10, 2) := by decide +kernel
theorem d_M_modulo_177 : decode c_M_modulo 177 = .ok (.imul, 1) := by decide +kernel
theorem d_M_modulo_178 : decode c_M_modulo 178 = .ok (.iload 7, 2) := by decide +kernel
theorem d_M_modulo_180 : decode c_M_modulo 180 = .ok (.iadd, 1) := by decide +kernel
theorem d_M_modulo_181 : decode c_M_modulo 181 = .ok (.laload, 1) := by decide +kernel
theorem d_M_modulo_182 : decode c_M_modulo 182 = .ok (.lmul, 1) := by decide +kernel
theorem d_M_modulo_183 : decode c_M_modulo 183 = .ok (.lload_n 3, 1) := by decide +kernel
theorem d_M_modulo_184 : decode c_M_modulo 184 = .ok (.lrem, 1) := by decide +kernel
theorem d_M_modulo_185 : decode c_M_modulo 185 = .ok (.lstore 5, 2) := by decide +kernel
theorem d_M_modulo_187 : decode c_M_modulo 187 = .ok (.aload_n 0, 1) := by decide +kernel
theorem d_M_modulo_188 : decode c_M_modulo 188 = .ok (.iload 7, 2) := by decide +kernel
theorem d_M_modulo_190 : decode c_M_modulo 190 = .ok (.iload_n 1, 1) := by decide +kernel
theorem d_M_modulo_191 : decode c_M_modulo 191 = .ok (.lload_n 3, 1) := by decide +kernel
theorem d_M_modulo_192 : decode c_M_modulo 192 = .ok (.invokevirtual 104, 3) := by decide +kernel
theorem d_M_modulo_195 : decode c_M_modulo 195 = .ok (.iinc 7 1, 3) := by decide +kernel
theorem d_M_modulo_198 : decode c_M_modulo 198 = .ok (.goto (-100), 3) := by decide +kernel
theorem d_M_modulo_201 : decode c_M_modulo 201 = .ok (.lload 5, 2) := by decide +kernel
theorem d_M_modulo_203 : decode c_M_modulo 203 = .ok (.lload_n 3, 1) := by decide +kernel
theorem d_M_modulo_204 : decode c_M_modulo 204 = .ok (.lrem, 1) := by decide +kernel
theorem d_M_modulo_205 : decode c_M_modulo 205 = .ok (.lreturn, 1) := by decide +kernel
end
section
theorem d_M_exchange_0 : decode c_M_exchange 0 = .ok (.iconst 0, 1) := by decide +kernel
theorem d_M_exchange_1 : decode c_M_exchange 1 = .ok (.istore_n 3, 1) := by decide +kernel
theorem d_M_exchange_2 : decode c_M_exchange 2 = .ok (.iload_n 3, 1) := by decide +kernel
theorem d_M_exchange_3 : decode c_M_exchange 3 = .ok (.bipush 10, 2) := by decide +kernel
theorem d_M_exchange_5 : decode c_M_exchange 5 = .ok (.if_icmp .ge 57, 3) := by decide +kernel
theorem d_M_exchange_8 : decode c_M_exchange 8 = .ok (.aload_n 0, 1) := by decide +kernel
theorem d_M_exchange_9 : decode c_M_exchange 9 = .ok (.getfield 54, 3) := by decide +kernel
theorem d_M_exchange_12 : decode c_M_exchange 12 = .ok (.iload_n 1, 1) := by decide +kernel
theorem d_M_exchange_13 : decode c_M_exchange 13 = .ok (.bipush 10, 2) := by decide +kernel
theorem d_M_exchange_15 : decode c_M_exchange 15 = .ok (.imul, 1) := by decide +kernel
theorem d_M_exchange_16 : decode c_M_exchange 16 = .ok (.iload_n 3, 1) := by decide +kernel
theorem d_M_exchange_17 : decode c_M_exchange 17 = .ok (.iadd, 1) := by decide +kernel
theorem d_M_exchange_18 : decode c_M_exchange 18 = .ok (.laload, 1) := by decide +kernel
theorem d_M_exchange_19 : decode c_M_exchange 19 = .ok (.lstore 4, 2) := by decide +kernel
theorem d_M_exchange_21 : decode c_M_exchange 21 = .ok (.aload_n 0, 1) := by decide +kernel
theorem d_M_exchange_22 : decode c_M_exchange 22 = .ok (.getfield 54, 3) := by decide +kernel
theorem d_M_exchange_25 : decode c_M_exchange 25 = .ok (.iload_n 1, 1) := by decide +kernel
theorem d_M_exchange_26 : decode c_M_exchange 26 = .ok (.bipush 10, 2) := by decide +kernel
theorem d_M_exchange_28 : decode c_M_exchange 28 = .ok (.imul, 1) := by decide +kernel
theorem d_M_exchange_29 : decode c_M_exchange 29 = .ok (.iload_n 3, 1) := by decide +kernel
theorem d_M_exchange_30 : decode c_M_exchange 30 = .ok (.iadd, 1) := by decide +kernel
theorem d_M_exchange_31 : decode c_M_exchange 31 = .ok (.aload_n 0, 1) := by decide +kernel
theorem d_M_exchange_32 : decode c_M_exchange 32 = .ok (.getfield 54, 3) := by decide +kernel
theorem d_M_exchange_35 : decode c_M_exchange 35 = .ok (.iload_n 2, 1) := by decide +kernel
theorem d_M_exchange_36 : decode c_M_exchange 36 = .ok (.bipush 10, 2) := by decide +kernel
theorem d_M_exchange_38 : decode c_M_exchange 38 = .ok (.imul, 1) := by decide +kernel
theorem d_M_exchange_39 : decode c_M_exchange 39 = .ok (.iload_n 3, 1) := by decide +kernel
theorem d_M_exchange_40 : decode c_M_exchange 40 = .ok (.iadd, 1) := by decide +kernel
theorem d_M_exchange_41 : decode c_M_exchange 41 = .ok (.laload, 1) := by decide +kernel
theorem d_M_exchange_42 : decode c_M_exchange 42 = .ok (.lastore, 1) := by decide +kernel
theorem d_M_exchange_43 : decode c_M_exchange 43 = .ok (.aload_n 0, 1) := by decide +kernel
theorem d_M_exchange_44 : decode c_M_exchange 44 = .ok (.getfield 54, 3) := by decide +kernel
theorem d_M_exchange_47 : decode c_M_exchange 47 = .ok (.iload_n 2, 1) := by decide +kernel
theorem d_M_exchange_48 : decode c_M_exchange 48 = .ok (.bipush 10, 2) := by decide +kernel
theorem d_M_exchange_50 : decode c_M_exchange 50 = .ok (.imul, 1) := by decide +kernel
theorem d_M_exchange_51 : decode c_M_exchange 51 = .ok (.iload_n 3, 1) := by decide +kernel
theorem d_M_exchange_52 : decode c_M_exchange 52 = .ok (.iadd, 1) := by decide +kernel
theorem d_M_exchange_53 : decode c_M_exchange 53 = .ok (.lload 4, 2) := by decide +kernel
theorem d_M_exchange_55 : decode c_M_exchange 55 = .ok (.lastore, 1) := by decide +kernel
theorem d_M_exchange_56 : decode c_M_exchange 56 = .ok (.iinc 3 1, 3) := by decide +kernel
theorem d_M_exchange_59 : decode c_M_exchange 59 = .ok (.goto (-57), 3) := by decide +kernel
theorem d_M_exchange_62 : decode c_M_exchange 62 = .ok (.return_, 1) := by decide +kernel
theorem d_M_clear_0 : decode c_M_clear 0 = .ok (.aload_n 0, 1) := by decide +kernel
theorem d_M_clear_1 : decode c_M_clear 1 = .ok (.aload_n 0, 1) := by decide +kernel
theorem d_M_clear_2 : decode c_M_clear 2 = .ok (.getfield 54, 3) := by decide +kernel
theorem d_M_clear_5 : decode c_M_clear 5 = .ok (.iload_n 1, 1) := by decide +kernel
theorem d_M_clear_6 : decode c_M_clear 6 = .ok (.bipush 10, 2) := by decide +kernel
theorem d_M_clear_8 : decode c_M_clear 8 = .ok (.imul, 1) := by decide +kernel
theorem d_M_clear_9 : decode c_M_clear 9 = .ok (.iload_n 1, 1) := by decide +kernel
theorem d_M_clear_10 : decode c_M_clear 10 = .ok (.iadd, 1) := by decide +kernel
theorem d_M_clear_11 : decode c_M_clear 11 = .ok (.laload, 1) := by decide +kernel
theorem d_M_clear_12 : decode c_M_clear 12 = .ok (.lload_n 3, 1) := by decide +kernel
theorem d_M_clear_13 : decode c_M_clear 13 = .ok (.ldc2_w 108, 3) := by decide +kernel
theorem d_M_clear_16 : decode c_M_clear 16 = .ok (.lsub, 1) := by decide +kernel
theorem d_M_clear_17 : decode c_M_clear 17 = .ok (.lload_n 3, 1) := by decide +kernel
theorem d_M_clear_18 : decode c_M_clear 18 = .ok (.invokevirtual 110, 3) := by decide +kernel
theorem d_M_clear_21 : decode c_M_clear 21 = .ok (.lstore 5, 2) := by decide +kernel
theorem d_M_clear_23 : decode c_M_clear 23 = .ok (.iload_n 1, 1) := by decide +kernel
theorem d_M_clear_24 : decode c_M_clear 24 = .ok (.iconst 1, 1) := by decide +kernel
theorem d_M_clear_25 : decode c_M_clear 25 = .ok (.iadd, 1) := by decide +kernel
theorem d_M_clear_26 : decode c_M_clear 26 = .ok (.istore 7, 2) := by decide +kernel
theorem d_M_clear_28 : decode c_M_clear 28 = .ok (.iload 7, 2) := by decide +kernel
theorem d_M_clear_30 : decode c_M_clear 30 = .ok (.iload_n 2, 1) := by decide +kernel
theorem d_M_clear_31 : decode c_M_clear 31 = .ok (.if_icmp .ge 89, 3) := by decide +kernel
theorem d_M_clear_34 : decode c_M_clear 34 = .ok (.aload_n 0, 1) := by decide +kernel
theorem d_M_clear_35 : decode c_M_clear 35 = .ok (.getfield 54, 3) := by decide +kernel
theorem d_M_clear_38 : decode c_M_clear 38 = .ok (.iload 7, 2) := by decide +kernel
theorem d_M_clear_40 : decode c_M_clear 40 = .ok (.bipush 10, 2) := by decide +kernel
theorem d_M_clear_42 : decode c_M_clear 42 = .ok (.imul, 1) := by decide +kernel
theorem d_M_clear_43 : decode c_M_clear 43 = .ok (.iload_n 1, 1) := by decide +kernel
theorem d_M_clear_44 : decode c_M_clear 44 = .ok (.iadd, 1) := by decide +kernel
theorem d_M_clear_45 : decode c_M_clear 45 = .ok (.laload, 1) := by decide +kernel
theorem d_M_clear_46 : decode c_M_clear 46 = .ok (.lload 5, 2) := by decide +kernel
theorem d_M_clear_48 : decode c_M_clear 48 = .ok (.lmul, 1) := by decide +kernel
theorem d_M_clear_49 : decode c_M_clear 49 = .ok (.lload_n 3, 1) := by decide +kernel
theorem d_M_clear_50 : decode c_M_clear 50 = .ok (.lrem, 1) := by decide +kernel
theorem d_M_clear_51 : decode c_M_clear 51 = .ok (.lstore 8, 2) := by decide +kernel
theorem d_M_clear_53 : decode c_M_clear 53 = .ok (.iload_n 1, 1) := by decide +kernel
theorem d_M_clear_54 : decode c_M_clear 54 = .ok (.istore 10, 2) := by decide +kernel
theorem d_M_clear_56 : decode c_M_clear 56 = .ok (.iload 10, 2) := by decide +kernel
theorem d_M_clear_58 : decode c_M_clear 58 = .ok (.iload_n 2, 1) := by decide +kernel
theorem d_M_clear_59 : decode c_M_clear 59 = .ok (.if_icmp .ge 55, 3) := by decide +kernel
theorem d_M_clear_62 : decode c_M_clear 62 = .ok (.aload_n 0, 1) := by decide +kernel
theorem d_M_clear_63 : decode c_M_clear 63 = .ok (.getfield 54, 3) := by decide +kernel
theorem d_M_clear_66 : decode c_M_clear 66 = .ok (.iload 7, 2) := by decide +kernel
theorem d_M_clear_68 : decode c_M_clear 68 = .ok (.bipush 10, 2) := by decide +kernel
theorem d_M_clear_70 : decode c_M_clear 70 = .ok (.imul, 1) := by decide +kernel
theorem d_M_clear_71 : decode c_M_clear 71 = .ok (.iload 10, 2) := by decide +kernel
theorem d_M_clear_73 : decode c_M_clear 73 = .ok (.iadd, 1) := by decide +kernel
theorem d_M_clear_74 : decode c_M_clear 74 = .ok (.aload_n 0, 1) := by decide +kernel
theorem d_M_clear_75 : decode c_M_clear 75 = .ok (.getfield 54, 3) := by decide +kernel
theorem d_M_clear_78 : decode c_M_clear 78 = .ok (.iload 7, 2) := by decide +kernel
theorem d_M_clear_80 : decode c_M_clear 80 = .ok (.bipush 10, 2) := by decide +kernel
theorem d_M_clear_82 : decode c_M_clear 82 = .ok (.imul, 1) := by decide +kernel
theorem d_M_clear_83 : decode c_M_clear 83 = .ok (.iload 10, 2) := by decide +kernel
theorem d_M_clear_85 : decode c_M_clear 85 = .ok (.iadd, 1) := by decide +kernel
theorem d_M_clear_86 : decode c_M_clear 86 = .ok (.laload, 1) := by decide +kernel
theorem d_M_clear_87 : decode c_M_clear 87 = .ok (.lload_n 3, 1) := by decide +kernel
theorem d_M_clear_88 : decode c_M_clear 88 = .ok (.lload 8, 2) := by decide +kernel
theorem d_M_clear_90 : decode c_M_clear 90 = .ok (.lsub, 1) := by decide +kernel
theorem d_M_clear_91 : decode c_M_clear 91 = .ok (.aload_n 0, 1) := by decide +kernel
theorem d_M_clear_92 : decode c_M_clear 92 = .ok (.getfield 54, 3) := by decide +kernel
theorem d_M_clear_95 : decode c_M_clear 95 = .ok (.iload_n 1, 1) := by decide +kernel
theorem d_M_clear_96 : decode c_M_clear 96 = .ok (.bipush 10, 2) := by decide +kernel
theorem d_M_clear_98 : decode c_M_clear 98 = .ok (.imul, 1) := by decide +kernel
theorem d_M_clear_99 : decode c_M_clear 99 = .ok (.iload 10, 2) := by decide +kernel
theorem d_M_clear_101 : decode c_M_clear 101 = .ok (.iadd, 1) := by decide +kernel
theorem d_M_clear_102 : decode c_M_clear 102 = .ok (.laload, 1) := by decide +kernel
theorem d_M_clear_103 : decode c_M_clear 103 = .ok (.lmul, 1) := by decide +kernel
theorem d_M_clear_104 : decode c_M_clear 104 = .ok (.ladd, 1) := by decide +kernel
theorem d_M_clear_105 : decode c_M_clear 105 = .ok (.lload_n 3, 1) := by decide +kernel
theorem d_M_clear_106 : decode c_M_clear 106 = .ok (.lrem, 1) := by decide +kernel
theorem d_M_clear_107 : decode c_M_clear 107 = .ok (.lastore, 1) := by decide +kernel
theorem d_M_clear_108 : decode c_M_clear 108 = .ok (.iinc 10 1, 3) := by decide +kernel
theorem d_M_clear_111 : decode c_M_clear 111 = .ok (.goto (-55), 3) := by decide +kernel
theorem d_M_clear_114 : decode c_M_clear 114 = .ok (.iinc 7 1, 3) := by decide +kernel
theorem d_M_clear_117 : decode c_M_clear 117 = .ok (.goto (-89), 3) := by decide +kernel
theorem d_M_clear_120 : decode c_M_clear 120 = .ok (.return_, 1) := by decide +kernel
theorem d_M_powered_0 : decode c_M_powered 0 = .ok (.lconst 1, 1) := by decide +kernel
theorem d_M_powered_1 : decode c_M_powered 1 = .ok (.lstore 7, 2) := by decide +kernel
theorem d_M_powered_3 : decode c_M_powered 3 = .ok (.bipush 62, 2) := by decide +kernel
theorem d_M_powered_5 : decode c_M_powered 5 = .ok (.istore 9, 2) := by decide +kernel
theorem d_M_powered_7 : decode c_M_powered 7 = .ok (.iload 9, 2) := by decide +kernel
theorem d_M_powered_9 : decode c_M_powered 9 = .ok (.ifCond .lt 39, 3) := by decide +kernel
theorem d_M_powered_12 : decode c_M_powered 12 = .ok (.lload 7, 2) := by decide +kernel
theorem d_M_powered_14 : decode c_M_powered 14 = .ok (.lload 7, 2) := by decide +kernel
theorem d_M_powered_16 : decode c_M_powered 16 = .ok (.lmul, 1) := by decide +kernel
theorem d_M_powered_17 : decode c_M_powered 17 = .ok (.lload 5, 2) := by decide +kernel
theorem d_M_powered_19 : decode c_M_powered 19 = .ok (.lrem, 1) := by decide +kernel
theorem d_M_powered_20 : decode c_M_powered 20 = .ok (.lstore 7, 2) := by decide +kernel
theorem d_M_powered_22 : decode c_M_powered 22 = .ok (.lload_n 3, 1) := by decide +kernel
theorem d_M_powered_23 : decode c_M_powered 23 = .ok (.iload 9, 2) := by decide +kernel
theorem d_M_powered_25 : decode c_M_powered 25 = .ok (.lshr, 1) := by decide +kernel
theorem d_M_powered_26 : decode c_M_powered 26 = .ok (.lconst 1, 1) := by decide +kernel
theorem d_M_powered_27 : decode c_M_powered 27 = .ok (.land, 1) := by decide +kernel
theorem d_M_powered_28 : decode c_M_powered 28 = .ok (.lconst 0, 1) := by decide +kernel
theorem d_M_powered_29 : decode c_M_powered 29 = .ok (.lcmp, 1) := by decide +kernel
theorem d_M_powered_30 : decode c_M_powered 30 = .ok (.ifCond .eq 12, 3) := by decide +kernel
theorem d_M_powered_33 : decode c_M_powered 33 = .ok (.lload 7, 2) := by decide +kernel
theorem d_M_powered_35 : decode c_M_powered 35 = .ok (.lload_n 1, 1) := by decide +kernel
theorem d_M_powered_36 : decode c_M_powered 36 = .ok (.lmul, 1) := by decide +kernel
theorem d_M_powered_37 : decode c_M_powered 37 = .ok (.lload 5, 2) := by decide +kernel
theorem d_M_powered_39 : decode c_M_powered 39 = .ok (.lrem, 1) := by decide +kernel
theorem d_M_powered_40 : decode c_M_powered 40 = .ok (.lstore 7, 2) := by decide +kernel
theorem d_M_powered_42 : decode c_M_powered 42 = .ok (.iinc 9 (-1), 3) := by decide +kernel
theorem d_M_powered_45 : decode c_M_powered 45 = .ok (.goto (-38), 3) := by decide +kernel
theorem d_M_powered_48 : decode c_M_powered 48 = .ok (.lload 7, 2) := by decide +kernel
theorem d_M_powered_50 : decode c_M_powered 50 = .ok (.lreturn, 1) := by decide +kernel
theorem d_M_open_0 : decode c_M_open 0 = .ok (.aload_n 0, 1) := by decide +kernel
theorem d_M_open_1 : decode c_M_open 1 = .ok (.getfield 61, 3) := by decide +kernel
theorem d_M_open_4 : decode c_M_open 4 = .ok (.ifCond .ne 5, 3) := by decide +kernel
theorem d_M_open_7 : decode c_M_open 7 = .ok (.iconst (-1), 1) := by decide +kernel
theorem d_M_open_8 : decode c_M_open 8 = .ok (.ireturn, 1) := by decide +kernel
theorem d_M_open_9 : decode c_M_open 9 = .ok (.aload_n 0, 1) := by decide +kernel
theorem d_M_open_10 : decode c_M_open 10 = .ok (.iconst 0, 1) := by decide +kernel
theorem d_M_open_11 : decode c_M_open 11 = .ok (.putfield 61, 3) := by decide +kernel
theorem d_M_open_14 : decode c_M_open 14 = .ok (.iconst 0, 1) := by decide +kernel
theorem d_M_open_15 : decode c_M_open 15 = .ok (.ireturn, 1) := by decide +kernel
theorem d_M_displacement_0 : decode c_M_displacement 0 = .ok (.aload_n 0, 1) := by decide +kernel
theorem d_M_displacement_1 : decode c_M_displacement 1 = .ok (.iload_n 1, 1) := by decide +kernel
theorem d_M_displacement_2 : decode c_M_displacement 2 = .ok (.iconst 3, 1) := by decide +kernel
theorem d_M_displacement_3 : decode c_M_displacement 3 = .ok (.invokevirtual 57, 3) := by decide +kernel
theorem d_M_displacement_6 : decode c_M_displacement 6 = .ok (.ifCond .eq 7, 3) := by decide +kernel
theorem d_M_displacement_9 : decode c_M_displacement 9 = .ok (.ldc2_w 148, 3) := by decide +kernel
theorem d_M_displacement_12 : decode c_M_displacement 12 = .ok (.lreturn, 1) := by decide +kernel
theorem d_M_displacement_13 : decode c_M_displacement 13 = .ok (.aload_n 0, 1) := by decide +kernel
theorem d_M_displacement_14 : decode c_M_displacement 14 = .ok (.iconst 1, 1) := by decide +kernel
theorem d_M_displacement_15 : decode c_M_displacement 15 = .ok (.bipush 8, 2) := by decide +kernel
theorem d_M_displacement_17 : decode c_M_displacement 17 = .ok (.iload_n 1, 1) := by decide +kernel
theorem d_M_displacement_18 : decode c_M_displacement 18 = .ok (.imul, 1) := by decide +kernel
theorem d_M_displacement_19 : decode c_M_displacement 19 = .ok (.ishl, 1) := by decide +kernel
theorem d_M_displacement_20 : decode c_M_displacement 20 = .ok (.iload_n 2, 1) := by decide +kernel
theorem d_M_displacement_21 : decode c_M_displacement 21 = .ok (.iload_n 3, 1) := by decide +kernel
theorem d_M_displacement_22 : decode c_M_displacement 22 = .ok (.iload 4, 2) := by decide +kernel
theorem d_M_displacement_24 : decode c_M_displacement 24 = .ok (.invokevirtual 150, 3) := by decide +kernel
theorem d_M_displacement_27 : decode c_M_displacement 27 = .ok (.lreturn, 1) := by decide +kernel
theorem d_M_combined_0 : decode c_M_combined 0 = .ok (.aload_n 0, 1) := by decide +kernel
theorem d_M_combined_1 : decode c_M_combined 1 = .ok (.getfield 61, 3) := by decide +kernel
theorem d_M_combined_4 : decode c_M_combined 4 = .ok (.ifCond .eq 40, 3) := by decide +kernel
theorem d_M_combined_7 : decode c_M_combined 7 = .ok (.aload_n 0, 1) := by decide +kernel
theorem d_M_combined_8 : decode c_M_combined 8 = .ok (.iload_n 2, 1) := by decide +kernel
theorem d_M_combined_9 : decode c_M_combined 9 = .ok (.iconst 4, 1) := by decide +kernel
theorem d_M_combined_10 : decode c_M_combined 10 = .ok (.invokevirtual 57, 3) := by decide +kernel
theorem d_M_combined_13 : decode c_M_combined 13 = .ok (.ifCond .ne 31, 3) := by decide +kernel
theorem d_M_combined_16 : decode c_M_combined 16 = .ok (.aload_n 0, 1) := by decide +kernel
theorem d_M_combined_17 : decode c_M_combined 17 = .ok (.getfield 7, 3) := by decide +kernel
theorem d_M_combined_20 : decode c_M_combined 20 = .ok (.iload_n 2, 1) := by decide +kernel
theorem d_M_combined_21 : decode c_M_combined 21 = .ok (.baload, 1) := by decide +kernel
theorem d_M_combined_22 : decode c_M_combined 22 = .ok (.ifCond .eq 22, 3) := by decide +kernel
theorem d_M_combined_25 : decode c_M_combined 25 = .ok (.aload_n 0, 1) := by decide +kernel
theorem d_M_combined_26 : decode c_M_combined 26 = .ok (.iload_n 3, 1) := by decide +kernel
theorem d_M_combined_27 : decode c_M_combined 27 = .ok (.iconst 1, 1) := by decide +kernel
theorem d_M_combined_28 : decode c_M_combined 28 = .ok (.invokevirtual 57, 3) := by decide +kernel
theorem d_M_combined_31 : decode c_M_combined 31 = .ok (.ifCond .ne 13, 3) := by decide +kernel
theorem d_M_combined_34 : decode c_M_combined 34 = .ok (.aload_n 0, 1) := by decide +kernel
theorem d_M_combined_35 : decode c_M_combined 35 = .ok (.iload 4, 2) := by decide +kernel
theorem d_M_combined_37 : decode c_M_combined 37 = .ok (.iconst 1, 1) := by decide +kernel
theorem d_M_combined_38 : decode c_M_combined 38 = .ok (.invokevirtual 57, 3) := by decide +kernel
theorem d_M_combined_41 : decode c_M_combined 41 = .ok (.ifCond .eq 7, 3) := by decide +kernel
theorem d_M_combined_44 : decode c_M_combined 44 = .ok (.ldc2_w 148, 3) := by decide +kernel
theorem d_M_combined_47 : decode c_M_combined 47 = .ok (.lreturn, 1) := by decide +kernel
theorem d_M_combined_48 : decode c_M_combined 48 = .ok (.aload_n 0, 1) := by decide +kernel
theorem d_M_combined_49 : decode c_M_combined 49 = .ok (.aload_n 0, 1) := by decide +kernel
theorem d_M_combined_50 : decode c_M_combined 50 = .ok (.iload_n 1, 1) := by decide +kernel
theorem d_M_combined_51 : decode c_M_combined 51 = .ok (.iload_n 2, 1) := by decide +kernel
theorem d_M_combined_52 : decode c_M_combined 52 = .ok (.iconst 2, 1) := by decide +kernel
theorem d_M_combined_53 : decode c_M_combined 53 = .ok (.imul, 1) := by decide +kernel
theorem d_M_combined_54 : decode c_M_combined 54 = .ok (.iload_n 3, 1) := by decide +kernel
theorem d_M_combined_55 : decode c_M_combined 55 = .ok (.iadd, 1) := by decide +kernel
theorem d_M_combined_56 : decode c_M_combined 56 = .ok (.invokevirtual 154, 3) := by decide +kernel
theorem d_M_combined_59 : decode c_M_combined 59 = .ok (.aload_n 0, 1) := by decide +kernel
theorem d_M_combined_60 : decode c_M_combined 60 = .ok (.invokevirtual 157, 3) := by decide +kernel
theorem d_M_combined_63 : decode c_M_combined 63 = .ok (.iload 4, 2) := by decide +kernel
theorem d_M_combined_65 : decode c_M_combined 65 = .ok (.invokevirtual 161, 3) := by decide +kernel
theorem d_M_combined_68 : decode c_M_combined 68 = .ok (.lreturn, 1) := by decide +kernel
theorem d_M_moved_0 : decode c_M_moved 0 = .ok (.aload_n 0, 1) := by decide +kernel
theorem d_M_moved_1 : decode c_M_moved 1 = .ok (.invokevirtual 122, 3) := by decide +kernel
theorem d_M_moved_4 : decode c_M_moved 4 = .ok (.aload_n 0, 1) := by decide +kernel
theorem d_M_moved_5 : decode c_M_moved 5 = .ok (.invokevirtual 128, 3) := by decide +kernel
theorem d_M_moved_8 : decode c_M_moved 8 = .ok (.iconst (-1), 1) := by decide +kernel
theorem d_M_moved_9 : decode c_M_moved 9 = .ok (.istore_n 3, 1) := by decide +kernel
theorem d_M_moved_10 : decode c_M_moved 10 = .ok (.iconst 0, 1) := by decide +kernel
theorem d_M_moved_11 : decode c_M_moved 11 = .ok (.istore 4, 2) := by decide +kernel
theorem d_M_moved_13 : decode c_M_moved 13 = .ok (.iload 4, 2) := by decide +kernel
theorem d_M_moved_15 : decode c_M_moved 15 = .ok (.aload_n 0, 1) := by decide +kernel
theorem d_M_moved_16 : decode c_M_moved 16 = .ok (.getfield 93, 3) := by decide +kernel
theorem d_M_moved_19 : decode c_M_moved 19 = .ok (.if_icmp .ge 105, 3) := by decide +kernel
theorem d_M_moved_22 : decode c_M_moved 22 = .ok (.aload_n 0, 1) := by decide +kernel
theorem d_M_moved_23 : decode c_M_moved 23 = .ok (.getfield 50, 3) := by decide +kernel
theorem d_M_moved_26 : decode c_M_moved 26 = .ok (.iload 4, 2) := by decide +kernel
theorem d_M_moved_28 : decode c_M_moved 28 = .ok (.aload_n 0, 1) := by decide +kernel
theorem d_M_moved_29 : decode c_M_moved 29 = .ok (.iload_n 1, 1) := by decide +kernel
theorem d_M_moved_30 : decode c_M_moved 30 = .ok (.aload_n 0, 1) := by decide +kernel
theorem d_M_moved_31 : decode c_M_moved 31 = .ok (.getfield 44, 3) := by decide +kernel
theorem d_M_moved_34 : decode c_M_moved 34 = .ok (.iload 4, 2) := by decide +kernel
theorem d_M_moved_36 : decode c_M_moved 36 = .ok (.iaload, 1) := by decide +kernel
theorem d_M_moved_37 : decode c_M_moved 37 = .ok (.invokevirtual 135, 3) := by decide +kernel
theorem d_M_moved_40 : decode c_M_moved 40 = .ok (.lastore, 1) := by decide +kernel
theorem d_M_moved_41 : decode c_M_moved 41 = .ok (.iconst 0, 1) := by decide +kernel
theorem d_M_moved_42 : decode c_M_moved 42 = .ok (.istore 5, 2) := by decide +kernel
theorem d_M_moved_44 : decode c_M_moved 44 = .ok (.iload 5, 2) := by decide +kernel
theorem d_M_moved_46 : decode c_M_moved 46 = .ok (.bipush 10, 2) := by decide +kernel
theorem d_M_moved_48 : decode c_M_moved 48 = .ok (.if_icmp .ge 56, 3) := by decide +kernel
theorem d_M_moved_51 : decode c_M_moved 51 = .ok (.aload_n 0, 1) := by decide +kernel
theorem d_M_moved_52 : decode c_M_moved 52 = .ok (.getfield 29, 3) := by decide +kernel
theorem d_M_moved_55 : decode c_M_moved 55 = .ok (.iload 5, 2) := by decide +kernel
theorem d_M_moved_57 : decode c_M_moved 57 = .ok (.baload, 1) := by decide +kernel
theorem d_M_moved_58 : decode c_M_moved 58 = .ok (.ifCond .eq 40, 3) := by decide +kernel
theorem d_M_moved_61 : decode c_M_moved 61 = .ok (.aload_n 0, 1) := by decide +kernel
theorem d_M_moved_62 : decode c_M_moved 62 = .ok (.getfield 50, 3) := by decide +kernel
theorem d_M_moved_65 : decode c_M_moved 65 = .ok (.iload 4, 2) := by decide +kernel
theorem d_M_moved_67 : decode c_M_moved 67 = .ok (.dup2, 1) := by decide +kernel
theorem d_M_moved_68 : decode c_M_moved 68 = .ok (.laload, 1) := by decide +kernel
theorem d_M_moved_69 : decode c_M_moved 69 = .ok (.aload_n 0, 1) := by decide +kernel
theorem d_M_moved_70 : decode c_M_moved 70 = .ok (.getfield 47, 3) := by decide +kernel
theorem d_M_moved_73 : decode c_M_moved 73 = .ok (.aload_n 0, 1) := by decide +kernel
theorem d_M_moved_74 : decode c_M_moved 74 = .ok (.getfield 44, 3) := by decide +kernel
theorem d_M_moved_77 : decode c_M_moved 77 = .ok (.iload 4, 2) := by decide +kernel
theorem d_M_moved_79 : decode c_M_moved 79 = .ok (.iaload, 1) := by decide +kernel
theorem d_M_moved_80 : decode c_M_moved 80 = .ok (.bipush 10, 2) := by decide +kernel
theorem d_M_moved_82 : decode c_M_moved 82 = .ok (.imul, 1) := by decide +kernel
theorem d_M_moved_83 : decode c_M_moved 83 = .ok (.iload 5, 2) := by decide +kernel
theorem d_M_moved_85 : decode c_M_moved 85 = .ok (.iadd, 1) := by decide +kernel
theorem d_M_moved_86 : decode c_M_moved 86 = .ok (.iaload, 1) := by decide +kernel
theorem d_M_moved_87 : decode c_M_moved 87 = .ok (.i2l, 1) := by decide +kernel
theorem d_M_moved_88 : decode c_M_moved 88 = .ok (.aload_n 0, 1) := by decide +kernel
theorem d_M_moved_89 : decode c_M_moved 89 = .ok (.iload_n 1, 1) := by decide +kernel
theorem d_M_moved_90 : decode c_M_moved 90 = .ok (.iload 5, 2) := by decide +kernel
theorem d_M_moved_92 : decode c_M_moved 92 = .ok (.invokevirtual 138, 3) := by decide +kernel
theorem d_M_moved_95 : decode c_M_moved 95 = .ok (.lmul, 1) := by decide +kernel
theorem d_M_moved_96 : decode c_M_moved 96 = .ok (.lsub, 1) := by decide +kernel
theorem d_M_moved_97 : decode c_M_moved 97 = .ok (.lastore, 1) := by decide +kernel
theorem d_M_moved_98 : decode c_M_moved 98 = .ok (.iinc 5 1, 3) := by decide +kernel
theorem d_M_moved_101 : decode c_M_moved 101 = .ok (.goto (-57), 3) := by decide +kernel
theorem d_M_moved_104 : decode c_M_moved 104 = .ok (.aload_n 0, 1) := by decide +kernel
theorem d_M_moved_105 : decode c_M_moved 105 = .ok (.getfield 44, 3) := by decide +kernel
theorem d_M_moved_108 : decode c_M_moved 108 = .ok (.iload 4, 2) := by decide +kernel
theorem d_M_moved_110 : decode c_M_moved 110 = .ok (.iaload, 1) := by decide +kernel
theorem d_M_moved_111 : decode c_M_moved 111 = .ok (.iload_n 2, 1) := by decide +kernel
theorem d_M_moved_112 : decode c_M_moved 112 = .ok (.if_icmp .ne 6, 3) := by decide +kernel
theorem d_M_moved_115 : decode c_M_moved 115 = .ok (.iload 4, 2) := by decide +kernel
theorem d_M_moved_117 : decode c_M_moved 117 = .ok (.istore_n 3, 1) := by decide +kernel
theorem d_M_moved_118 : decode c_M_moved 118 = .ok (.iinc 4 1, 3) := by decide +kernel
theorem d_M_moved_121 : decode c_M_moved 121 = .ok (.goto (-108), 3) := by decide +kernel
theorem d_M_moved_124 : decode c_M_moved 124 = .ok (.iload_n 3, 1) := by decide +kernel
theorem d_M_moved_125 : decode c_M_moved 125 = .ok (.ifCond .ge 22, 3) := by decide +kernel
theorem d_M_moved_128 : decode c_M_moved 128 = .ok (.aload_n 0, 1) := by decide +kernel
theorem d_M_moved_129 : decode c_M_moved 129 = .ok (.iload_n 1, 1) := by decide +kernel
theorem d_M_moved_130 : decode c_M_moved 130 = .ok (.iload_n 2, 1) := by decide +kernel
theorem d_M_moved_131 : decode c_M_moved 131 = .ok (.invokevirtual 138, 3) := by decide +kernel
theorem d_M_moved_134 : decode c_M_moved 134 = .ok (.aload_n 0, 1) := by decide +kernel
theorem d_M_moved_135 : decode c_M_moved 135 = .ok (.aload_n 0, 1) := by decide +kernel
theorem d_M_moved_136 : decode c_M_moved 136 = .ok (.getfield 93, 3) := by decide +kernel
theorem d_M_moved_139 : decode c_M_moved 139 = .ok (.iconst (-1), 1) := by decide +kernel
theorem d_M_moved_140 : decode c_M_moved 140 = .ok (.invokevirtual 131, 3) := by decide +kernel
theorem d_M_moved_143 : decode c_M_moved 143 = .ok (.lmul, 1) := by decide +kernel
theorem d_M_moved_144 : decode c_M_moved 144 = .ok (.goto 12, 3) := by decide +kernel
theorem d_M_moved_147 : decode c_M_moved 147 = .ok (.aload_n 0, 1) := by decide +kernel
theorem d_M_moved_148 : decode c_M_moved 148 = .ok (.aload_n 0, 1) := by decide +kernel
theorem d_M_moved_149 : decode c_M_moved 149 = .ok (.getfield 93, 3) := by decide +kernel
theorem d_M_moved_152 : decode c_M_moved 152 = .ok (.iload_n 3, 1) := by decide +kernel
theorem d_M_moved_153 : decode c_M_moved 153 = .ok (.invokevirtual 131, 3) := by decide +kernel
theorem d_M_moved_156 : decode c_M_moved 156 = .ok (.lreturn, 1) := by decide +kernel
theorem d_M_loadOf_0 : decode c_M_loadOf 0 = .ok (.lconst 0, 1) := by decide +kernel
theorem d_M_loadOf_1 : decode c_M_loadOf 1 = .ok (.lstore_n 3, 1) := by decide +kernel
theorem d_M_loadOf_2 : decode c_M_loadOf 2 = .ok (.iconst 0, 1) := by decide +kernel
theorem d_M_loadOf_3 : decode c_M_loadOf 3 = .ok (.istore 5, 2) := by decide +kernel
theorem d_M_loadOf_5 : decode c_M_loadOf 5 = .ok (.iload 5, 2) := by decide +kernel
theorem d_M_loadOf_7 : decode c_M_loadOf 7 = .ok (.iconst 4, 1) := by decide +kernel
theorem d_M_loadOf_8 : decode c_M_loadOf 8 = .ok (.if_icmp .ge 35, 3) := by decide +kernel
theorem d_M_loadOf_11 : decode c_M_loadOf 11 = .ok (.lload_n 3, 1) := by decide +kernel
theorem d_M_loadOf_12 : decode c_M_loadOf 12 = .ok (.iload_n 1, 1) := by decide +kernel
theorem d_M_loadOf_13 : decode c_M_loadOf 13 = .ok (.bipush 8, 2) := by decide +kernel
theorem d_M_loadOf_15 : decode c_M_loadOf 15 = .ok (.iload 5, 2) := by decide +kernel
theorem d_M_loadOf_17 : decode c_M_loadOf 17 = .ok (.imul, 1) := by decide +kernel
theorem d_M_loadOf_18 : decode c_M_loadOf 18 = .ok (.ishr, 1) := by decide +kernel
theorem d_M_loadOf_19 : decode c_M_loadOf 19 = .ok (.i2b, 1) := by decide +kernel
theorem d_M_loadOf_20 : decode c_M_loadOf 20 = .ok (.i2l, 1) := by decide +kernel
theorem d_M_loadOf_21 : decode c_M_loadOf 21 = .ok (.aload_n 0, 1) := by decide +kernel
theorem d_M_loadOf_22 : decode c_M_loadOf 22 = .ok (.getfield 38, 3) := by decide +kernel
theorem d_M_loadOf_25 : decode c_M_loadOf 25 = .ok (.iload 5, 2) := by decide +kernel
theorem d_M_loadOf_27 : decode c_M_loadOf 27 = .ok (.bipush 10, 2) := by decide +kernel
theorem d_M_loadOf_29 : decode c_M_loadOf 29 = .ok (.imul, 1) := by decide +kernel
theorem d_M_loadOf_30 : decode c_M_loadOf 30 = .ok (.iload_n 2, 1) := by decide +kernel
theorem d_M_loadOf_31 : decode c_M_loadOf 31 = .ok (.iadd, 1) := by decide +kernel
theorem d_M_loadOf_32 : decode c_M_loadOf 32 = .ok (.iaload, 1) := by decide +kernel
theorem d_M_loadOf_33 : decode c_M_loadOf 33 = .ok (.i2l, 1) := by decide +kernel
theorem d_M_loadOf_34 : decode c_M_loadOf 34 = .ok (.lmul, 1) := by decide +kernel
theorem d_M_loadOf_35 : decode c_M_loadOf 35 = .ok (.ladd, 1) := by decide +kernel
theorem d_M_loadOf_36 : decode c_M_loadOf 36 = .ok (.lstore_n 3, 1) := by decide +kernel
theorem d_M_loadOf_37 : decode c_M_loadOf 37 = .ok (.iinc 5 1, 3) := by decide +kernel
theorem d_M_loadOf_40 : decode c_M_loadOf 40 = .ok (.goto (-35), 3) := by decide +kernel
theorem d_M_loadOf_43 : decode c_M_loadOf 43 = .ok (.lload_n 3, 1) := by decide +kernel
theorem d_M_loadOf_44 : decode c_M_loadOf 44 = .ok (.lreturn, 1) := by decide +kernel
theorem d_M_fixedOf_0 : decode c_M_fixedOf 0 = .ok (.lconst 0, 1) := by decide +kernel
theorem d_M_fixedOf_1 : decode c_M_fixedOf 1 = .ok (.lstore_n 3, 1) := by decide +kernel
theorem d_M_fixedOf_2 : decode c_M_fixedOf 2 = .ok (.iconst 0, 1) := by decide +kernel
theorem d_M_fixedOf_3 : decode c_M_fixedOf 3 = .ok (.istore 5, 2) := by decide +kernel
theorem d_M_fixedOf_5 : decode c_M_fixedOf 5 = .ok (.iload 5, 2) := by decide +kernel
theorem d_M_fixedOf_7 : decode c_M_fixedOf 7 = .ok (.iconst 4, 1) := by decide +kernel
theorem d_M_fixedOf_8 : decode c_M_fixedOf 8 = .ok (.if_icmp .ge 29, 3) := by decide +kernel
theorem d_M_fixedOf_11 : decode c_M_fixedOf 11 = .ok (.lload_n 3, 1) := by decide +kernel
theorem d_M_fixedOf_12 : decode c_M_fixedOf 12 = .ok (.iload_n 1, 1) := by decide +kernel
theorem d_M_fixedOf_13 : decode c_M_fixedOf 13 = .ok (.bipush 8, 2) := by decide +kernel
theorem d_M_fixedOf_15 : decode c_M_fixedOf 15 = .ok (.iload 5, 2) := by decide +kernel
theorem d_M_fixedOf_17 : decode c_M_fixedOf 17 = .ok (.imul, 1) := by decide +kernel
theorem d_M_fixedOf_18 : decode c_M_fixedOf 18 = .ok (.ishr, 1) := by decide +kernel
theorem d_M_fixedOf_19 : decode c_M_fixedOf 19 = .ok (.i2b, 1) := by decide +kernel
theorem d_M_fixedOf_20 : decode c_M_fixedOf 20 = .ok (.i2l, 1) := by decide +kernel
theorem d_M_fixedOf_21 : decode c_M_fixedOf 21 = .ok (.aload_n 0, 1) := by decide +kernel
theorem d_M_fixedOf_22 : decode c_M_fixedOf 22 = .ok (.getfield 32, 3) := by decide +kernel
theorem d_M_fixedOf_25 : decode c_M_fixedOf 25 = .ok (.iload_n 2, 1) := by decide +kernel
theorem d_M_fixedOf_26 : decode c_M_fixedOf 26 = .ok (.iaload, 1) := by decide +kernel
theorem d_M_fixedOf_27 : decode c_M_fixedOf 27 = .ok (.i2l, 1) := by decide +kernel
theorem d_M_fixedOf_28 : decode c_M_fixedOf 28 = .ok (.lmul, 1) := by decide +kernel
theorem d_M_fixedOf_29 : decode c_M_fixedOf 29 = .ok (.ladd, 1) := by decide +kernel
theorem d_M_fixedOf_30 : decode c_M_fixedOf 30 = .ok (.lstore_n 3, 1) := by decide +kernel
theorem d_M_fixedOf_31 : decode c_M_fixedOf 31 = .ok (.iinc 5 1, 3) := by decide +kernel
theorem d_M_fixedOf_34 : decode c_M_fixedOf 34 = .ok (.goto (-29), 3) := by decide +kernel
theorem d_M_fixedOf_37 : decode c_M_fixedOf 37 = .ok (.lload_n 3, 1) := by decide +kernel
theorem d_M_fixedOf_38 : decode c_M_fixedOf 38 = .ok (.lreturn, 1) := by decide +kernel
theorem d_M_determinant_0 : decode c_M_determinant 0 = .ok (.aload_n 0, 1) := by decide +kernel
theorem d_M_determinant_1 : decode c_M_determinant 1 = .ok (.getfield 61, 3) := by decide +kernel
theorem d_M_determinant_4 : decode c_M_determinant 4 = .ok (.ifCond .ne 7, 3) := by decide +kernel
theorem d_M_determinant_7 : decode c_M_determinant 7 = .ok (.ldc2_w 148, 3) := by decide +kernel
theorem d_M_determinant_10 : decode c_M_determinant 10 = .ok (.lreturn, 1) := by decide +kernel
theorem d_M_determinant_11 : decode c_M_determinant 11 = .ok (.aload_n 0, 1) := by decide +kernel
theorem d_M_determinant_12 : decode c_M_determinant 12 = .ok (.invokevirtual 122, 3) := by decide +kernel
theorem d_M_determinant_15 : decode c_M_determinant 15 = .ok (.aload_n 0, 1) := by decide +kernel
theorem d_M_determinant_16 : decode c_M_determinant 16 = .ok (.invokevirtual 128, 3) := by decide +kernel
theorem d_M_determinant_19 : decode c_M_determinant 19 = .ok (.aload_n 0, 1) := by decide +kernel
theorem d_M_determinant_20 : decode c_M_determinant 20 = .ok (.aload_n 0, 1) := by decide +kernel
theorem d_M_determinant_21 : decode c_M_determinant 21 = .ok (.getfield 93, 3) := by decide +kernel
theorem d_M_determinant_24 : decode c_M_determinant 24 = .ok (.iconst (-1), 1) := by decide +kernel
theorem d_M_determinant_25 : decode c_M_determinant 25 = .ok (.invokevirtual 131, 3) := by decide +kernel
theorem d_M_determinant_28 : decode c_M_determinant 28 = .ok (.lreturn, 1) := by decide +kernel
theorem d_M_fraction_0 : decode c_M_fraction 0 = .ok (.aload_n 0, 1) := by decide +kernel
theorem d_M_fraction_1 : decode c_M_fraction 1 = .ok (.lload_n 1, 1) := by decide +kernel
theorem d_M_fraction_2 : decode c_M_fraction 2 = .ok (.lconst 0, 1) := by decide +kernel
theorem d_M_fraction_3 : decode c_M_fraction 3 = .ok (.lcmp, 1) := by decide +kernel
theorem d_M_fraction_4 : decode c_M_fraction 4 = .ok (.ifCond .ge 8, 3) := by decide +kernel
theorem d_M_fraction_7 : decode c_M_fraction 7 = .ok (.lload_n 1, 1) := by decide +kernel
theorem d_M_fraction_8 : decode c_M_fraction 8 = .ok (.lneg, 1) := by decide +kernel
theorem d_M_fraction_9 : decode c_M_fraction 9 = .ok (.goto 4, 3) := by decide +kernel
theorem d_M_fraction_12 : decode c_M_fraction 12 = .ok (.lload_n 1, 1) := by decide +kernel
theorem d_M_fraction_13 : decode c_M_fraction 13 = .ok (.putfield 141, 3) := by decide +kernel
theorem d_M_fraction_16 : decode c_M_fraction 16 = .ok (.aload_n 0, 1) := by decide +kernel
theorem d_M_fraction_17 : decode c_M_fraction 17 = .ok (.lload_n 3, 1) := by decide +kernel
theorem d_M_fraction_18 : decode c_M_fraction 18 = .ok (.putfield 145, 3) := by decide +kernel
theorem d_M_fraction_21 : decode c_M_fraction 21 = .ok (.aload_n 0, 1) := by decide +kernel
theorem d_M_fraction_22 : decode c_M_fraction 22 = .ok (.getfield 145, 3) := by decide +kernel
theorem d_M_fraction_25 : decode c_M_fraction 25 = .ok (.lconst 0, 1) := by decide +kernel
theorem d_M_fraction_26 : decode c_M_fraction 26 = .ok (.lcmp, 1) := by decide +kernel
theorem d_M_fraction_27 : decode c_M_fraction 27 = .ok (.ifCond .eq 31, 3) := by decide +kernel
theorem d_M_fraction_30 : decode c_M_fraction 30 = .ok (.aload_n 0, 1) := by decide +kernel
theorem d_M_fraction_31 : decode c_M_fraction 31 = .ok (.getfield 141, 3) := by decide +kernel
theorem d_M_fraction_34 : decode c_M_fraction 34 = .ok (.aload_n 0, 1) := by decide +kernel
theorem d_M_fraction_35 : decode c_M_fraction 35 = .ok (.getfield 145, 3) := by decide +kernel
theorem d_M_fraction_38 : decode c_M_fraction 38 = .ok (.lrem, 1) := by decide +kernel
theorem d_M_fraction_39 : decode c_M_fraction 39 = .ok (.lstore 6, 2) := by decide +kernel
theorem d_M_fraction_41 : decode c_M_fraction 41 = .ok (.aload_n 0, 1) := by decide +kernel
theorem d_M_fraction_42 : decode c_M_fraction 42 = .ok (.aload_n 0, 1) := by decide +kernel
theorem d_M_fraction_43 : decode c_M_fraction 43 = .ok (.getfield 145, 3) := by decide +kernel
theorem d_M_fraction_46 : decode c_M_fraction 46 = .ok (.putfield 141, 3) := by decide +kernel
theorem d_M_fraction_49 : decode c_M_fraction 49 = .ok (.aload_n 0, 1) := by decide +kernel
theorem d_M_fraction_50 : decode c_M_fraction 50 = .ok (.lload 6, 2) := by decide +kernel
theorem d_M_fraction_52 : decode c_M_fraction 52 = .ok (.putfield 145, 3) := by decide +kernel
theorem d_M_fraction_55 : decode c_M_fraction 55 = .ok (.goto (-34), 3) := by decide +kernel
theorem d_M_fraction_58 : decode c_M_fraction 58 = .ok (.iload 5, 2) := by decide +kernel
theorem d_M_fraction_60 : decode c_M_fraction 60 = .ok (.ifCond .ne 12, 3) := by decide +kernel
theorem d_M_fraction_63 : decode c_M_fraction 63 = .ok (.lload_n 1, 1) := by decide +kernel
theorem d_M_fraction_64 : decode c_M_fraction 64 = .ok (.aload_n 0, 1) := by decide +kernel
theorem d_M_fraction_65 : decode c_M_fraction 65 = .ok (.getfield 141, 3) := by decide +kernel
theorem d_M_fraction_68 : decode c_M_fraction 68 = .ok (.ldiv, 1) := by decide +kernel
theorem d_M_fraction_69 : decode c_M_fraction 69 = .ok (.goto 9, 3) := by decide +kernel
theorem d_M_fraction_72 : decode c_M_fraction 72 = .ok (.lload_n 3, 1) := by decide +kernel
theorem d_M_fraction_73 : decode c_M_fraction 73 = .ok (.aload_n 0, 1) := by decide +kernel
theorem d_M_fraction_74 : decode c_M_fraction 74 = .ok (.getfield 141, 3) := by decide +kernel
theorem d_M_fraction_77 : decode c_M_fraction 77 = .ok (.ldiv, 1) := by decide +kernel
theorem d_M_fraction_78 : decode c_M_fraction 78 = .ok (.lreturn, 1) := by decide +kernel
theorem d_M_force_0 : decode c_M_force 0 = .ok (.aload_n 0, 1) := by decide +kernel
theorem d_M_force_1 : decode c_M_force 1 = .ok (.getfield 61, 3) := by decide +kernel
theorem d_M_force_4 : decode c_M_force 4 = .ok (.ifCond .eq 33, 3) := by decide +kernel
theorem d_M_force_7 : decode c_M_force 7 = .ok (.aload_n 0, 1) := by decide +kernel
theorem d_M_force_8 : decode c_M_force 8 = .ok (.iload_n 1, 1) := by decide +kernel
theorem d_M_force_9 : decode c_M_force 9 = .ok (.iconst 3, 1) := by decide +kernel
theorem d_M_force_10 : decode c_M_force 10 = .ok (.invokevirtual 57, 3) := by decide +kernel
theorem d_M_force_13 : decode c_M_force 13 = .ok (.ifCond .ne 24, 3) := by decide +kernel
theorem d_M_force_16 : decode c_M_force 16 = .ok (.iload_n 2, 1) := by decide +kernel
theorem d_M_force_17 : decode c_M_force 17 = .ok (.ifCond .lt 20, 3) := by decide +kernel
theorem d_M_force_20 : decode c_M_force 20 = .ok (.iload_n 2, 1) := by decide +kernel
theorem d_M_force_21 : decode c_M_force 21 = .ok (.aload_n 0, 1) := by decide +kernel
theorem d_M_force_22 : decode c_M_force 22 = .ok (.getfield 65, 3) := by decide +kernel
theorem d_M_force_25 : decode c_M_force 25 = .ok (.if_icmp .ge 12, 3) := by decide +kernel
theorem d_M_force_28 : decode c_M_force 28 = .ok (.aload_n 0, 1) := by decide +kernel
theorem d_M_force_29 : decode c_M_force 29 = .ok (.iload_n 3, 1) := by decide +kernel
theorem d_M_force_30 : decode c_M_force 30 = .ok (.iconst 1, 1) := by decide +kernel
theorem d_M_force_31 : decode c_M_force 31 = .ok (.invokevirtual 57, 3) := by decide +kernel
theorem d_M_force_34 : decode c_M_force 34 = .ok (.ifCond .eq 7, 3) := by decide +kernel
theorem d_M_force_37 : decode c_M_force 37 = .ok (.ldc2_w 148, 3) := by decide +kernel
theorem d_M_force_40 : decode c_M_force 40 = .ok (.lreturn, 1) := by decide +kernel
theorem d_M_force_41 : decode c_M_force 41 = .ok (.aload_n 0, 1) := by decide +kernel
theorem d_M_force_42 : decode c_M_force 42 = .ok (.aload_n 0, 1) := by decide +kernel
theorem d_M_force_43 : decode c_M_force 43 = .ok (.iconst 1, 1) := by decide +kernel
theorem d_M_force_44 : decode c_M_force 44 = .ok (.bipush 8, 2) := by decide +kernel
theorem d_M_force_46 : decode c_M_force 46 = .ok (.iload_n 1, 1) := by decide +kernel
theorem d_M_force_47 : decode c_M_force 47 = .ok (.imul, 1) := by decide +kernel
theorem d_M_force_48 : decode c_M_force 48 = .ok (.ishl, 1) := by decide +kernel
theorem d_M_force_49 : decode c_M_force 49 = .ok (.iload_n 2, 1) := by decide +kernel
theorem d_M_force_50 : decode c_M_force 50 = .ok (.invokevirtual 165, 3) := by decide +kernel
theorem d_M_force_53 : decode c_M_force 53 = .ok (.aload_n 0, 1) := by decide +kernel
theorem d_M_force_54 : decode c_M_force 54 = .ok (.invokevirtual 157, 3) := by decide +kernel
theorem d_M_force_57 : decode c_M_force 57 = .ok (.iload_n 3, 1) := by decide +kernel
theorem d_M_force_58 : decode c_M_force 58 = .ok (.invokevirtual 161, 3) := by decide +kernel
theorem d_M_force_61 : decode c_M_force 61 = .ok (.lreturn, 1) := by decide +kernel
end
section
theorem d_M_pull_0 : decode c_M_pull 0 = .ok (.lconst 0, 1) := by decide +kernel
theorem d_M_pull_1 : decode c_M_pull 1 = .ok (.lstore_n 3, 1) := by decide +kernel
theorem d_M_pull_2 : decode c_M_pull 2 = .ok (.iconst 0, 1) := by decide +kernel
theorem d_M_pull_3 : decode c_M_pull 3 = .ok (.istore 5, 2) := by decide +kernel
theorem d_M_pull_5 : decode c_M_pull 5 = .ok (.iload 5, 2) := by decide +kernel
theorem d_M_pull_7 : decode c_M_pull 7 = .ok (.iconst 2, 1) := by decide +kernel
theorem d_M_pull_8 : decode c_M_pull 8 = .ok (.if_icmp .ge 54, 3) := by decide +kernel
theorem d_M_pull_11 : decode c_M_pull 11 = .ok (.lload_n 3, 1) := by decide +kernel
theorem d_M_pull_12 : decode c_M_pull 12 = .ok (.aload_n 0, 1) := by decide +kernel
theorem d_M_pull_13 : decode c_M_pull 13 = .ok (.iload_n 2, 1) := by decide +kernel
theorem d_M_pull_14 : decode c_M_pull 14 = .ok (.iload 5, 2) := by decide +kernel
theorem d_M_pull_16 : decode c_M_pull 16 = .ok (.invokevirtual 96, 3) := by decide +kernel
theorem d_M_pull_19 : decode c_M_pull 19 = .ok (.i2l, 1) := by decide +kernel
theorem d_M_pull_20 : decode c_M_pull 20 = .ok (.aload_n 0, 1) := by decide +kernel
theorem d_M_pull_21 : decode c_M_pull 21 = .ok (.iload_n 1, 1) := by decide +kernel
theorem d_M_pull_22 : decode c_M_pull 22 = .ok (.aload_n 0, 1) := by decide +kernel
theorem d_M_pull_23 : decode c_M_pull 23 = .ok (.getfield 23, 3) := by decide +kernel
theorem d_M_pull_26 : decode c_M_pull 26 = .ok (.iload_n 2, 1) := by decide +kernel
theorem d_M_pull_27 : decode c_M_pull 27 = .ok (.iaload, 1) := by decide +kernel
theorem d_M_pull_28 : decode c_M_pull 28 = .ok (.iconst 2, 1) := by decide +kernel
theorem d_M_pull_29 : decode c_M_pull 29 = .ok (.imul, 1) := by decide +kernel
theorem d_M_pull_30 : decode c_M_pull 30 = .ok (.iload 5, 2) := by decide +kernel
theorem d_M_pull_32 : decode c_M_pull 32 = .ok (.iadd, 1) := by decide +kernel
theorem d_M_pull_33 : decode c_M_pull 33 = .ok (.invokevirtual 154, 3) := by decide +kernel
theorem d_M_pull_36 : decode c_M_pull 36 = .ok (.aload_n 0, 1) := by decide +kernel
theorem d_M_pull_37 : decode c_M_pull 37 = .ok (.iload_n 1, 1) := by decide +kernel
theorem d_M_pull_38 : decode c_M_pull 38 = .ok (.aload_n 0, 1) := by decide +kernel
theorem d_M_pull_39 : decode c_M_pull 39 = .ok (.getfield 20, 3) := by decide +kernel
theorem d_M_pull_42 : decode c_M_pull 42 = .ok (.iload_n 2, 1) := by decide +kernel
theorem d_M_pull_43 : decode c_M_pull 43 = .ok (.iaload, 1) := by decide +kernel
theorem d_M_pull_44 : decode c_M_pull 44 = .ok (.iconst 2, 1) := by decide +kernel
theorem d_M_pull_45 : decode c_M_pull 45 = .ok (.imul, 1) := by decide +kernel
theorem d_M_pull_46 : decode c_M_pull 46 = .ok (.iload 5, 2) := by decide +kernel
theorem d_M_pull_48 : decode c_M_pull 48 = .ok (.iadd, 1) := by decide +kernel
theorem d_M_pull_49 : decode c_M_pull 49 = .ok (.invokevirtual 154, 3) := by decide +kernel
theorem d_M_pull_52 : decode c_M_pull 52 = .ok (.lsub, 1) := by decide +kernel
theorem d_M_pull_53 : decode c_M_pull 53 = .ok (.lmul, 1) := by decide +kernel
theorem d_M_pull_54 : decode c_M_pull 54 = .ok (.ladd, 1) := by decide +kernel
theorem d_M_pull_55 : decode c_M_pull 55 = .ok (.lstore_n 3, 1) := by decide +kernel
theorem d_M_pull_56 : decode c_M_pull 56 = .ok (.iinc 5 1, 3) := by decide +kernel
theorem d_M_pull_59 : decode c_M_pull 59 = .ok (.goto (-54), 3) := by decide +kernel
theorem d_M_pull_62 : decode c_M_pull 62 = .ok (.lload_n 3, 1) := by decide +kernel
theorem d_M_pull_63 : decode c_M_pull 63 = .ok (.aload_n 0, 1) := by decide +kernel
theorem d_M_pull_64 : decode c_M_pull 64 = .ok (.getfield 26, 3) := by decide +kernel
theorem d_M_pull_67 : decode c_M_pull 67 = .ok (.iload_n 2, 1) := by decide +kernel
theorem d_M_pull_68 : decode c_M_pull 68 = .ok (.iaload, 1) := by decide +kernel
theorem d_M_pull_69 : decode c_M_pull 69 = .ok (.i2l, 1) := by decide +kernel
theorem d_M_pull_70 : decode c_M_pull 70 = .ok (.lmul, 1) := by decide +kernel
theorem d_M_pull_71 : decode c_M_pull 71 = .ok (.lreturn, 1) := by decide +kernel
theorem d_M_reaction_0 : decode c_M_reaction 0 = .ok (.aload_n 0, 1) := by decide +kernel
theorem d_M_reaction_1 : decode c_M_reaction 1 = .ok (.getfield 61, 3) := by decide +kernel
theorem d_M_reaction_4 : decode c_M_reaction 4 = .ok (.ifCond .eq 49, 3) := by decide +kernel
theorem d_M_reaction_7 : decode c_M_reaction 7 = .ok (.aload_n 0, 1) := by decide +kernel
theorem d_M_reaction_8 : decode c_M_reaction 8 = .ok (.iload_n 1, 1) := by decide +kernel
theorem d_M_reaction_9 : decode c_M_reaction 9 = .ok (.iconst 3, 1) := by decide +kernel
theorem d_M_reaction_10 : decode c_M_reaction 10 = .ok (.invokevirtual 57, 3) := by decide +kernel
theorem d_M_reaction_13 : decode c_M_reaction 13 = .ok (.ifCond .ne 40, 3) := by decide +kernel
theorem d_M_reaction_16 : decode c_M_reaction 16 = .ok (.aload_n 0, 1) := by decide +kernel
theorem d_M_reaction_17 : decode c_M_reaction 17 = .ok (.iload_n 2, 1) := by decide +kernel
theorem d_M_reaction_18 : decode c_M_reaction 18 = .ok (.iconst 4, 1) := by decide +kernel
theorem d_M_reaction_19 : decode c_M_reaction 19 = .ok (.invokevirtual 57, 3) := by decide +kernel
theorem d_M_reaction_22 : decode c_M_reaction 22 = .ok (.ifCond .ne 31, 3) := by decide +kernel
theorem d_M_reaction_25 : decode c_M_reaction 25 = .ok (.aload_n 0, 1) := by decide +kernel
theorem d_M_reaction_26 : decode c_M_reaction 26 = .ok (.getfield 7, 3) := by decide +kernel
theorem d_M_reaction_29 : decode c_M_reaction 29 = .ok (.iload_n 2, 1) := by decide +kernel
theorem d_M_reaction_30 : decode c_M_reaction 30 = .ok (.baload, 1) := by decide +kernel
theorem d_M_reaction_31 : decode c_M_reaction 31 = .ok (.ifCond .eq 22, 3) := by decide +kernel
theorem d_M_reaction_34 : decode c_M_reaction 34 = .ok (.aload_n 0, 1) := by decide +kernel
theorem d_M_reaction_35 : decode c_M_reaction 35 = .ok (.iload_n 3, 1) := by decide +kernel
theorem d_M_reaction_36 : decode c_M_reaction 36 = .ok (.iconst 1, 1) := by decide +kernel
theorem d_M_reaction_37 : decode c_M_reaction 37 = .ok (.invokevirtual 57, 3) := by decide +kernel
theorem d_M_reaction_40 : decode c_M_reaction 40 = .ok (.ifCond .ne 13, 3) := by decide +kernel
theorem d_M_reaction_43 : decode c_M_reaction 43 = .ok (.aload_n 0, 1) := by decide +kernel
theorem d_M_reaction_44 : decode c_M_reaction 44 = .ok (.iload 4, 2) := by decide +kernel
theorem d_M_reaction_46 : decode c_M_reaction 46 = .ok (.iconst 1, 1) := by decide +kernel
theorem d_M_reaction_47 : decode c_M_reaction 47 = .ok (.invokevirtual 57, 3) := by decide +kernel
theorem d_M_reaction_50 : decode c_M_reaction 50 = .ok (.ifCond .eq 7, 3) := by decide +kernel
theorem d_M_reaction_53 : decode c_M_reaction 53 = .ok (.ldc2_w 148, 3) := by decide +kernel
theorem d_M_reaction_56 : decode c_M_reaction 56 = .ok (.lreturn, 1) := by decide +kernel
theorem d_M_reaction_57 : decode c_M_reaction 57 = .ok (.iload_n 2, 1) := by decide +kernel
theorem d_M_reaction_58 : decode c_M_reaction 58 = .ok (.iconst 2, 1) := by decide +kernel
theorem d_M_reaction_59 : decode c_M_reaction 59 = .ok (.imul, 1) := by decide +kernel
theorem d_M_reaction_60 : decode c_M_reaction 60 = .ok (.iload_n 3, 1) := by decide +kernel
theorem d_M_reaction_61 : decode c_M_reaction 61 = .ok (.iadd, 1) := by decide +kernel
theorem d_M_reaction_62 : decode c_M_reaction 62 = .ok (.istore 5, 2) := by decide +kernel
theorem d_M_reaction_64 : decode c_M_reaction 64 = .ok (.aload_n 0, 1) := by decide +kernel
theorem d_M_reaction_65 : decode c_M_reaction 65 = .ok (.getfield 29, 3) := by decide +kernel
theorem d_M_reaction_68 : decode c_M_reaction 68 = .ok (.iload 5, 2) := by decide +kernel
theorem d_M_reaction_70 : decode c_M_reaction 70 = .ok (.baload, 1) := by decide +kernel
theorem d_M_reaction_71 : decode c_M_reaction 71 = .ok (.ifCond .ne 7, 3) := by decide +kernel
theorem d_M_reaction_74 : decode c_M_reaction 74 = .ok (.ldc2_w 148, 3) := by decide +kernel
theorem d_M_reaction_77 : decode c_M_reaction 77 = .ok (.lreturn, 1) := by decide +kernel
theorem d_M_reaction_78 : decode c_M_reaction 78 = .ok (.aload_n 0, 1) := by decide +kernel
theorem d_M_reaction_79 : decode c_M_reaction 79 = .ok (.getfield 35, 3) := by decide +kernel
theorem d_M_reaction_82 : decode c_M_reaction 82 = .ok (.iload 5, 2) := by decide +kernel
theorem d_M_reaction_84 : decode c_M_reaction 84 = .ok (.iaload, 1) := by decide +kernel
theorem d_M_reaction_85 : decode c_M_reaction 85 = .ok (.i2l, 1) := by decide +kernel
theorem d_M_reaction_86 : decode c_M_reaction 86 = .ok (.aload_n 0, 1) := by decide +kernel
theorem d_M_reaction_87 : decode c_M_reaction 87 = .ok (.getfield 32, 3) := by decide +kernel
theorem d_M_reaction_90 : decode c_M_reaction 90 = .ok (.iload 5, 2) := by decide +kernel
theorem d_M_reaction_92 : decode c_M_reaction 92 = .ok (.iaload, 1) := by decide +kernel
theorem d_M_reaction_93 : decode c_M_reaction 93 = .ok (.i2l, 1) := by decide +kernel
theorem d_M_reaction_94 : decode c_M_reaction 94 = .ok (.lmul, 1) := by decide +kernel
theorem d_M_reaction_95 : decode c_M_reaction 95 = .ok (.aload_n 0, 1) := by decide +kernel
theorem d_M_reaction_96 : decode c_M_reaction 96 = .ok (.getfield 38, 3) := by decide +kernel
theorem d_M_reaction_99 : decode c_M_reaction 99 = .ok (.iload_n 1, 1) := by decide +kernel
theorem d_M_reaction_100 : decode c_M_reaction 100 = .ok (.bipush 10, 2) := by decide +kernel
theorem d_M_reaction_102 : decode c_M_reaction 102 = .ok (.imul, 1) := by decide +kernel
theorem d_M_reaction_103 : decode c_M_reaction 103 = .ok (.iload 5, 2) := by decide +kernel
theorem d_M_reaction_105 : decode c_M_reaction 105 = .ok (.iadd, 1) := by decide +kernel
theorem d_M_reaction_106 : decode c_M_reaction 106 = .ok (.iaload, 1) := by decide +kernel
theorem d_M_reaction_107 : decode c_M_reaction 107 = .ok (.i2l, 1) := by decide +kernel
theorem d_M_reaction_108 : decode c_M_reaction 108 = .ok (.lsub, 1) := by decide +kernel
theorem d_M_reaction_109 : decode c_M_reaction 109 = .ok (.aload_n 0, 1) := by decide +kernel
theorem d_M_reaction_110 : decode c_M_reaction 110 = .ok (.invokevirtual 157, 3) := by decide +kernel
theorem d_M_reaction_113 : decode c_M_reaction 113 = .ok (.lmul, 1) := by decide +kernel
theorem d_M_reaction_114 : decode c_M_reaction 114 = .ok (.lstore 6, 2) := by decide +kernel
theorem d_M_reaction_116 : decode c_M_reaction 116 = .ok (.iconst 0, 1) := by decide +kernel
theorem d_M_reaction_117 : decode c_M_reaction 117 = .ok (.istore 8, 2) := by decide +kernel
theorem d_M_reaction_119 : decode c_M_reaction 119 = .ok (.iload 8, 2) := by decide +kernel
theorem d_M_reaction_121 : decode c_M_reaction 121 = .ok (.aload_n 0, 1) := by decide +kernel
theorem d_M_reaction_122 : decode c_M_reaction 122 = .ok (.getfield 65, 3) := by decide +kernel
theorem d_M_reaction_125 : decode c_M_reaction 125 = .ok (.if_icmp .ge 83, 3) := by decide +kernel
theorem d_M_reaction_128 : decode c_M_reaction 128 = .ok (.aload_n 0, 1) := by decide +kernel
theorem d_M_reaction_129 : decode c_M_reaction 129 = .ok (.getfield 20, 3) := by decide +kernel
theorem d_M_reaction_132 : decode c_M_reaction 132 = .ok (.iload 8, 2) := by decide +kernel
theorem d_M_reaction_134 : decode c_M_reaction 134 = .ok (.iaload, 1) := by decide +kernel
theorem d_M_reaction_135 : decode c_M_reaction 135 = .ok (.iload_n 2, 1) := by decide +kernel
theorem d_M_reaction_136 : decode c_M_reaction 136 = .ok (.if_icmp .ne 29, 3) := by decide +kernel
theorem d_M_reaction_139 : decode c_M_reaction 139 = .ok (.lload 6, 2) := by decide +kernel
theorem d_M_reaction_141 : decode c_M_reaction 141 = .ok (.aload_n 0, 1) := by decide +kernel
theorem d_M_reaction_142 : decode c_M_reaction 142 = .ok (.iload 8, 2) := by decide +kernel
theorem d_M_reaction_144 : decode c_M_reaction 144 = .ok (.iload_n 3, 1) := by decide +kernel
theorem d_M_reaction_145 : decode c_M_reaction 145 = .ok (.invokevirtual 96, 3) := by decide +kernel
theorem d_M_reaction_148 : decode c_M_reaction 148 = .ok (.i2l, 1) := by decide +kernel
theorem d_M_reaction_149 : decode c_M_reaction 149 = .ok (.aload_n 0, 1) := by decide +kernel
theorem d_M_reaction_150 : decode c_M_reaction 150 = .ok (.iconst 1, 1) := by decide +kernel
theorem d_M_reaction_151 : decode c_M_reaction 151 = .ok (.bipush 8, 2) := by decide +kernel
theorem d_M_reaction_153 : decode c_M_reaction 153 = .ok (.iload_n 1, 1) := by decide +kernel
theorem d_M_reaction_154 : decode c_M_reaction 154 = .ok (.imul, 1) := by decide +kernel
theorem d_M_reaction_155 : decode c_M_reaction 155 = .ok (.ishl, 1) := by decide +kernel
theorem d_M_reaction_156 : decode c_M_reaction 156 = .ok (.iload 8, 2) := by decide +kernel
theorem d_M_reaction_158 : decode c_M_reaction 158 = .ok (.invokevirtual 165, 3) := by decide +kernel
theorem d_M_reaction_161 : decode c_M_reaction 161 = .ok (.lmul, 1) := by decide +kernel
theorem d_M_reaction_162 : decode c_M_reaction 162 = .ok (.lsub, 1) := by decide +kernel
theorem d_M_reaction_163 : decode c_M_reaction 163 = .ok (.lstore 6, 2) := by decide +kernel
theorem d_M_reaction_165 : decode c_M_reaction 165 = .ok (.aload_n 0, 1) := by decide +kernel
theorem d_M_reaction_166 : decode c_M_reaction 166 = .ok (.getfield 23, 3) := by decide +kernel
theorem d_M_reaction_169 : decode c_M_reaction 169 = .ok (.iload 8, 2) := by decide +kernel
theorem d_M_reaction_171 : decode c_M_reaction 171 = .ok (.iaload, 1) := by decide +kernel
theorem d_M_reaction_172 : decode c_M_reaction 172 = .ok (.iload_n 2, 1) := by decide +kernel
theorem d_M_reaction_173 : decode c_M_reaction 173 = .ok (.if_icmp .ne 29, 3) := by decide +kernel
theorem d_M_reaction_176 : decode c_M_reaction 176 = .ok (.lload 6, 2) := by decide +kernel
theorem d_M_reaction_178 : decode c_M_reaction 178 = .ok (.aload_n 0, 1) := by decide +kernel
theorem d_M_reaction_179 : decode c_M_reaction 179 = .ok (.iload 8, 2) := by decide +kernel
theorem d_M_reaction_181 : decode c_M_reaction 181 = .ok (.iload_n 3, 1) := by decide +kernel
theorem d_M_reaction_182 : decode c_M_reaction 182 = .ok (.invokevirtual 96, 3) := by decide +kernel
theorem d_M_reaction_185 : decode c_M_reaction 185 = .ok (.i2l, 1) := by decide +kernel
theorem d_M_reaction_186 : decode c_M_reaction 186 = .ok (.aload_n 0, 1) := by decide +kernel
theorem d_M_reaction_187 : decode c_M_reaction 187 = .ok (.iconst 1, 1) := by decide +kernel
theorem d_M_reaction_188 : decode c_M_reaction 188 = .ok (.bipush 8, 2) := by decide +kernel
theorem d_M_reaction_190 : decode c_M_reaction 190 = .ok (.iload_n 1, 1) := by decide +kernel
theorem d_M_reaction_191 : decode c_M_reaction 191 = .ok (.imul, 1) := by decide +kernel
theorem d_M_reaction_192 : decode c_M_reaction 192 = .ok (.ishl, 1) := by decide +kernel
theorem d_M_reaction_193 : decode c_M_reaction 193 = .ok (.iload 8, 2) := by decide +kernel
theorem d_M_reaction_195 : decode c_M_reaction 195 = .ok (.invokevirtual 165, 3) := by decide +kernel
theorem d_M_reaction_198 : decode c_M_reaction 198 = .ok (.lmul, 1) := by decide +kernel
theorem d_M_reaction_199 : decode c_M_reaction 199 = .ok (.ladd, 1) := by decide +kernel
theorem d_M_reaction_200 : decode c_M_reaction 200 = .ok (.lstore 6, 2) := by decide +kernel
theorem d_M_reaction_202 : decode c_M_reaction 202 = .ok (.iinc 8 1, 3) := by decide +kernel
theorem d_M_reaction_205 : decode c_M_reaction 205 = .ok (.goto (-86), 3) := by decide +kernel
theorem d_M_reaction_208 : decode c_M_reaction 208 = .ok (.aload_n 0, 1) := by decide +kernel
theorem d_M_reaction_209 : decode c_M_reaction 209 = .ok (.lload 6, 2) := by decide +kernel
theorem d_M_reaction_211 : decode c_M_reaction 211 = .ok (.aload_n 0, 1) := by decide +kernel
theorem d_M_reaction_212 : decode c_M_reaction 212 = .ok (.invokevirtual 157, 3) := by decide +kernel
theorem d_M_reaction_215 : decode c_M_reaction 215 = .ok (.iload 4, 2) := by decide +kernel
theorem d_M_reaction_217 : decode c_M_reaction 217 = .ok (.invokevirtual 161, 3) := by decide +kernel
theorem d_M_reaction_220 : decode c_M_reaction 220 = .ok (.lreturn, 1) := by decide +kernel
theorem d_M_order_0 : decode c_M_order 0 = .ok (.aload_n 0, 1) := by decide +kernel
theorem d_M_order_1 : decode c_M_order 1 = .ok (.getfield 61, 3) := by decide +kernel
theorem d_M_order_4 : decode c_M_order 4 = .ok (.ifCond .eq 7, 3) := by decide +kernel
theorem d_M_order_7 : decode c_M_order 7 = .ok (.iload_n 1, 1) := by decide +kernel
theorem d_M_order_8 : decode c_M_order 8 = .ok (.ifCond .ge 5, 3) := by decide +kernel
theorem d_M_order_11 : decode c_M_order 11 = .ok (.iconst (-1), 1) := by decide +kernel
theorem d_M_order_12 : decode c_M_order 12 = .ok (.ireturn, 1) := by decide +kernel
theorem d_M_order_13 : decode c_M_order 13 = .ok (.aload_n 0, 1) := by decide +kernel
theorem d_M_order_14 : decode c_M_order 14 = .ok (.invokevirtual 122, 3) := by decide +kernel
theorem d_M_order_17 : decode c_M_order 17 = .ok (.iload_n 1, 1) := by decide +kernel
theorem d_M_order_18 : decode c_M_order 18 = .ok (.aload_n 0, 1) := by decide +kernel
theorem d_M_order_19 : decode c_M_order 19 = .ok (.getfield 76, 3) := by decide +kernel
theorem d_M_order_22 : decode c_M_order 22 = .ok (.if_icmp .ge 12, 3) := by decide +kernel
theorem d_M_order_25 : decode c_M_order 25 = .ok (.aload_n 0, 1) := by decide +kernel
theorem d_M_order_26 : decode c_M_order 26 = .ok (.getfield 41, 3) := by decide +kernel
theorem d_M_order_29 : decode c_M_order 29 = .ok (.iload_n 1, 1) := by decide +kernel
theorem d_M_order_30 : decode c_M_order 30 = .ok (.iaload, 1) := by decide +kernel
theorem d_M_order_31 : decode c_M_order 31 = .ok (.goto 4, 3) := by decide +kernel
theorem d_M_order_34 : decode c_M_order 34 = .ok (.iconst (-1), 1) := by decide +kernel
theorem d_M_order_35 : decode c_M_order 35 = .ok (.ireturn, 1) := by decide +kernel
theorem d_M_unknown_0 : decode c_M_unknown 0 = .ok (.aload_n 0, 1) := by decide +kernel
theorem d_M_unknown_1 : decode c_M_unknown 1 = .ok (.getfield 61, 3) := by decide +kernel
theorem d_M_unknown_4 : decode c_M_unknown 4 = .ok (.ifCond .eq 30, 3) := by decide +kernel
theorem d_M_unknown_7 : decode c_M_unknown 7 = .ok (.aload_n 0, 1) := by decide +kernel
theorem d_M_unknown_8 : decode c_M_unknown 8 = .ok (.iload_n 1, 1) := by decide +kernel
theorem d_M_unknown_9 : decode c_M_unknown 9 = .ok (.iconst 4, 1) := by decide +kernel
theorem d_M_unknown_10 : decode c_M_unknown 10 = .ok (.invokevirtual 57, 3) := by decide +kernel
theorem d_M_unknown_13 : decode c_M_unknown 13 = .ok (.ifCond .ne 21, 3) := by decide +kernel
theorem d_M_unknown_16 : decode c_M_unknown 16 = .ok (.aload_n 0, 1) := by decide +kernel
theorem d_M_unknown_17 : decode c_M_unknown 17 = .ok (.getfield 7, 3) := by decide +kernel
theorem d_M_unknown_20 : decode c_M_unknown 20 = .ok (.iload_n 1, 1) := by decide +kernel
theorem d_M_unknown_21 : decode c_M_unknown 21 = .ok (.baload, 1) := by decide +kernel
theorem d_M_unknown_22 : decode c_M_unknown 22 = .ok (.ifCond .eq 12, 3) := by decide +kernel
theorem d_M_unknown_25 : decode c_M_unknown 25 = .ok (.aload_n 0, 1) := by decide +kernel
theorem d_M_unknown_26 : decode c_M_unknown 26 = .ok (.iload_n 2, 1) := by decide +kernel
theorem d_M_unknown_27 : decode c_M_unknown 27 = .ok (.iconst 1, 1) := by decide +kernel
theorem d_M_unknown_28 : decode c_M_unknown 28 = .ok (.invokevirtual 57, 3) := by decide +kernel
theorem d_M_unknown_31 : decode c_M_unknown 31 = .ok (.ifCond .eq 5, 3) := by decide +kernel
theorem d_M_unknown_34 : decode c_M_unknown 34 = .ok (.iconst (-1), 1) := by decide +kernel
theorem d_M_unknown_35 : decode c_M_unknown 35 = .ok (.ireturn, 1) := by decide +kernel
theorem d_M_unknown_36 : decode c_M_unknown 36 = .ok (.aload_n 0, 1) := by decide +kernel
theorem d_M_unknown_37 : decode c_M_unknown 37 = .ok (.invokevirtual 122, 3) := by decide +kernel
theorem d_M_unknown_40 : decode c_M_unknown 40 = .ok (.iconst 0, 1) := by decide +kernel
theorem d_M_unknown_41 : decode c_M_unknown 41 = .ok (.istore_n 3, 1) := by decide +kernel
theorem d_M_unknown_42 : decode c_M_unknown 42 = .ok (.iload_n 3, 1) := by decide +kernel
theorem d_M_unknown_43 : decode c_M_unknown 43 = .ok (.aload_n 0, 1) := by decide +kernel
theorem d_M_unknown_44 : decode c_M_unknown 44 = .ok (.getfield 93, 3) := by decide +kernel
theorem d_M_unknown_47 : decode c_M_unknown 47 = .ok (.if_icmp .ge 25, 3) := by decide +kernel
theorem d_M_unknown_50 : decode c_M_unknown 50 = .ok (.aload_n 0, 1) := by decide +kernel
theorem d_M_unknown_51 : decode c_M_unknown 51 = .ok (.getfield 44, 3) := by decide +kernel
theorem d_M_unknown_54 : decode c_M_unknown 54 = .ok (.iload_n 3, 1) := by decide +kernel
theorem d_M_unknown_55 : decode c_M_unknown 55 = .ok (.iaload, 1) := by decide +kernel
theorem d_M_unknown_56 : decode c_M_unknown 56 = .ok (.iload_n 1, 1) := by decide +kernel
theorem d_M_unknown_57 : decode c_M_unknown 57 = .ok (.iconst 2, 1) := by decide +kernel
theorem d_M_unknown_58 : decode c_M_unknown 58 = .ok (.imul, 1) := by decide +kernel
theorem d_M_unknown_59 : decode c_M_unknown 59 = .ok (.iload_n 2, 1) := by decide +kernel
theorem d_M_unknown_60 : decode c_M_unknown 60 = .ok (.iadd, 1) := by decide +kernel
theorem d_M_unknown_61 : decode c_M_unknown 61 = .ok (.if_icmp .ne 5, 3) := by decide +kernel
theorem d_M_unknown_64 : decode c_M_unknown 64 = .ok (.iload_n 3, 1) := by decide +kernel
theorem d_M_unknown_65 : decode c_M_unknown 65 = .ok (.ireturn, 1) := by decide +kernel
theorem d_M_unknown_66 : decode c_M_unknown 66 = .ok (.iinc 3 1, 3) := by decide +kernel
theorem d_M_unknown_69 : decode c_M_unknown 69 = .ok (.goto (-27), 3) := by decide +kernel
theorem d_M_unknown_72 : decode c_M_unknown 72 = .ok (.bipush (-2), 2) := by decide +kernel
theorem d_M_unknown_74 : decode c_M_unknown 74 = .ok (.ireturn, 1) := by decide +kernel
theorem d_M_count_0 : decode c_M_count 0 = .ok (.aload_n 0, 1) := by decide +kernel
theorem d_M_count_1 : decode c_M_count 1 = .ok (.iload_n 1, 1) := by decide +kernel
theorem d_M_count_2 : decode c_M_count 2 = .ok (.iconst 4, 1) := by decide +kernel
theorem d_M_count_3 : decode c_M_count 3 = .ok (.invokevirtual 57, 3) := by decide +kernel
theorem d_M_count_6 : decode c_M_count 6 = .ok (.ifCond .eq 5, 3) := by decide +kernel
theorem d_M_count_9 : decode c_M_count 9 = .ok (.iconst (-1), 1) := by decide +kernel
theorem d_M_count_10 : decode c_M_count 10 = .ok (.ireturn, 1) := by decide +kernel
theorem d_M_count_11 : decode c_M_count 11 = .ok (.iload_n 1, 1) := by decide +kernel
theorem d_M_count_12 : decode c_M_count 12 = .ok (.iconst 1, 1) := by decide +kernel
theorem d_M_count_13 : decode c_M_count 13 = .ok (.if_icmp .ne 8, 3) := by decide +kernel
theorem d_M_count_16 : decode c_M_count 16 = .ok (.aload_n 0, 1) := by decide +kernel
theorem d_M_count_17 : decode c_M_count 17 = .ok (.getfield 65, 3) := by decide +kernel
theorem d_M_count_20 : decode c_M_count 20 = .ok (.ireturn, 1) := by decide +kernel
theorem d_M_count_21 : decode c_M_count 21 = .ok (.iload_n 1, 1) := by decide +kernel
theorem d_M_count_22 : decode c_M_count 22 = .ok (.iconst 2, 1) := by decide +kernel
theorem d_M_count_23 : decode c_M_count 23 = .ok (.if_icmp .ne 16, 3) := by decide +kernel
theorem d_M_count_26 : decode c_M_count 26 = .ok (.aload_n 0, 1) := by decide +kernel
theorem d_M_count_27 : decode c_M_count 27 = .ok (.getfield 61, 3) := by decide +kernel
theorem d_M_count_30 : decode c_M_count 30 = .ok (.ifCond .eq 7, 3) := by decide +kernel
theorem d_M_count_33 : decode c_M_count 33 = .ok (.iconst 1, 1) := by decide +kernel
theorem d_M_count_34 : decode c_M_count 34 = .ok (.goto 4, 3) := by decide +kernel
theorem d_M_count_37 : decode c_M_count 37 = .ok (.iconst 0, 1) := by decide +kernel
theorem d_M_count_38 : decode c_M_count 38 = .ok (.ireturn, 1) := by decide +kernel
theorem d_M_count_39 : decode c_M_count 39 = .ok (.iload_n 1, 1) := by decide +kernel
theorem d_M_count_40 : decode c_M_count 40 = .ok (.ifCond .ne 32, 3) := by decide +kernel
theorem d_M_count_43 : decode c_M_count 43 = .ok (.iconst 0, 1) := by decide +kernel
theorem d_M_count_44 : decode c_M_count 44 = .ok (.istore_n 2, 1) := by decide +kernel
theorem d_M_count_45 : decode c_M_count 45 = .ok (.iconst 0, 1) := by decide +kernel
theorem d_M_count_46 : decode c_M_count 46 = .ok (.istore_n 3, 1) := by decide +kernel
theorem d_M_count_47 : decode c_M_count 47 = .ok (.iload_n 3, 1) := by decide +kernel
theorem d_M_count_48 : decode c_M_count 48 = .ok (.iconst 5, 1) := by decide +kernel
theorem d_M_count_49 : decode c_M_count 49 = .ok (.if_icmp .ge 21, 3) := by decide +kernel
theorem d_M_count_52 : decode c_M_count 52 = .ok (.aload_n 0, 1) := by decide +kernel
theorem d_M_count_53 : decode c_M_count 53 = .ok (.getfield 7, 3) := by decide +kernel
theorem d_M_count_56 : decode c_M_count 56 = .ok (.iload_n 3, 1) := by decide +kernel
theorem d_M_count_57 : decode c_M_count 57 = .ok (.baload, 1) := by decide +kernel
theorem d_M_count_58 : decode c_M_count 58 = .ok (.ifCond .eq 6, 3) := by decide +kernel
theorem d_M_count_61 : decode c_M_count 61 = .ok (.iinc 2 1, 3) := by decide +kernel
theorem d_M_count_64 : decode c_M_count 64 = .ok (.iinc 3 1, 3) := by decide +kernel
theorem d_M_count_67 : decode c_M_count 67 = .ok (.goto (-20), 3) := by decide +kernel
theorem d_M_count_70 : decode c_M_count 70 = .ok (.iload_n 2, 1) := by decide +kernel
theorem d_M_count_71 : decode c_M_count 71 = .ok (.ireturn, 1) := by decide +kernel
theorem d_M_count_72 : decode c_M_count 72 = .ok (.aload_n 0, 1) := by decide +kernel
theorem d_M_count_73 : decode c_M_count 73 = .ok (.getfield 61, 3) := by decide +kernel
theorem d_M_count_76 : decode c_M_count 76 = .ok (.ifCond .ne 5, 3) := by decide +kernel
theorem d_M_count_79 : decode c_M_count 79 = .ok (.iconst 0, 1) := by decide +kernel
theorem d_M_count_80 : decode c_M_count 80 = .ok (.ireturn, 1) := by decide +kernel
theorem d_M_count_81 : decode c_M_count 81 = .ok (.aload_n 0, 1) := by decide +kernel
theorem d_M_count_82 : decode c_M_count 82 = .ok (.invokevirtual 122, 3) := by decide +kernel
theorem d_M_count_85 : decode c_M_count 85 = .ok (.iload_n 1, 1) := by decide +kernel
theorem d_M_count_86 : decode c_M_count 86 = .ok (.iconst 3, 1) := by decide +kernel
theorem d_M_count_87 : decode c_M_count 87 = .ok (.if_icmp .ne 10, 3) := by decide +kernel
theorem d_M_count_90 : decode c_M_count 90 = .ok (.aload_n 0, 1) := by decide +kernel
theorem d_M_count_91 : decode c_M_count 91 = .ok (.getfield 93, 3) := by decide +kernel
theorem d_M_count_94 : decode c_M_count 94 = .ok (.goto 7, 3) := by decide +kernel
theorem d_M_count_97 : decode c_M_count 97 = .ok (.aload_n 0, 1) := by decide +kernel
theorem d_M_count_98 : decode c_M_count 98 = .ok (.invokevirtual 168, 3) := by decide +kernel
theorem d_M_count_101 : decode c_M_count 101 = .ok (.ireturn, 1) := by decide +kernel
theorem d_M_profile_0 : decode c_M_profile 0 = .ok (.aload_n 0, 1) := by decide +kernel
theorem d_M_profile_1 : decode c_M_profile 1 = .ok (.invokevirtual 128, 3) := by decide +kernel
theorem d_M_profile_4 : decode c_M_profile 4 = .ok (.iconst 0, 1) := by decide +kernel
theorem d_M_profile_5 : decode c_M_profile 5 = .ok (.istore_n 1, 1) := by decide +kernel
theorem d_M_profile_6 : decode c_M_profile 6 = .ok (.iconst 0, 1) := by decide +kernel
theorem d_M_profile_7 : decode c_M_profile 7 = .ok (.istore_n 2, 1) := by decide +kernel
theorem d_M_profile_8 : decode c_M_profile 8 = .ok (.iload_n 2, 1) := by decide +kernel
theorem d_M_profile_9 : decode c_M_profile 9 = .ok (.aload_n 0, 1) := by decide +kernel
theorem d_M_profile_10 : decode c_M_profile 10 = .ok (.getfield 93, 3) := by decide +kernel
theorem d_M_profile_13 : decode c_M_profile 13 = .ok (.if_icmp .ge 59, 3) := by decide +kernel
theorem d_M_profile_16 : decode c_M_profile 16 = .ok (.iload_n 2, 1) := by decide +kernel
theorem d_M_profile_17 : decode c_M_profile 17 = .ok (.istore_n 3, 1) := by decide +kernel
theorem d_M_profile_18 : decode c_M_profile 18 = .ok (.iload_n 2, 1) := by decide +kernel
theorem d_M_profile_19 : decode c_M_profile 19 = .ok (.istore 4, 2) := by decide +kernel
theorem d_M_profile_21 : decode c_M_profile 21 = .ok (.iload 4, 2) := by decide +kernel
theorem d_M_profile_23 : decode c_M_profile 23 = .ok (.ifCond .lt 37, 3) := by decide +kernel
theorem d_M_profile_26 : decode c_M_profile 26 = .ok (.aload_n 0, 1) := by decide +kernel
theorem d_M_profile_27 : decode c_M_profile 27 = .ok (.getfield 47, 3) := by decide +kernel
theorem d_M_profile_30 : decode c_M_profile 30 = .ok (.aload_n 0, 1) := by decide +kernel
theorem d_M_profile_31 : decode c_M_profile 31 = .ok (.getfield 44, 3) := by decide +kernel
theorem d_M_profile_34 : decode c_M_profile 34 = .ok (.iload_n 2, 1) := by decide +kernel
theorem d_M_profile_35 : decode c_M_profile 35 = .ok (.iaload, 1) := by decide +kernel
theorem d_M_profile_36 : decode c_M_profile 36 = .ok (.bipush 10, 2) := by decide +kernel
theorem d_M_profile_38 : decode c_M_profile 38 = .ok (.imul, 1) := by decide +kernel
theorem d_M_profile_39 : decode c_M_profile 39 = .ok (.aload_n 0, 1) := by decide +kernel
theorem d_M_profile_40 : decode c_M_profile 40 = .ok (.getfield 44, 3) := by decide +kernel
theorem d_M_profile_43 : decode c_M_profile 43 = .ok (.iload 4, 2) := by decide +kernel
theorem d_M_profile_45 : decode c_M_profile 45 = .ok (.iaload, 1) := by decide +kernel
theorem d_M_profile_46 : decode c_M_profile 46 = .ok (.iadd, 1) := by decide +kernel
theorem d_M_profile_47 : decode c_M_profile 47 = .ok (.iaload, 1) := by decide +kernel
theorem d_M_profile_48 : decode c_M_profile 48 = .ok (.ifCond .eq 6, 3) := by decide +kernel
theorem d_M_profile_51 : decode c_M_profile 51 = .ok (.iload 4, 2) := by decide +kernel
theorem d_M_profile_53 : decode c_M_profile 53 = .ok (.istore_n 3, 1) := by decide +kernel
theorem d_M_profile_54 : decode c_M_profile 54 = .ok (.iinc 4 (-1), 3) := by decide +kernel
theorem d_M_profile_57 : decode c_M_profile 57 = .ok (.goto (-36), 3) := by decide +kernel
theorem d_M_profile_60 : decode c_M_profile 60 = .ok (.iload_n 1, 1) := by decide +kernel
theorem d_M_profile_61 : decode c_M_profile 61 = .ok (.iload_n 2, 1) := by decide +kernel
theorem d_M_profile_62 : decode c_M_profile 62 = .ok (.iload_n 3, 1) := by decide +kernel
theorem d_M_profile_63 : decode c_M_profile 63 = .ok (.isub, 1) := by decide +kernel
theorem d_M_profile_64 : decode c_M_profile 64 = .ok (.iadd, 1) := by decide +kernel
theorem d_M_profile_65 : decode c_M_profile 65 = .ok (.istore_n 1, 1) := by decide +kernel
theorem d_M_profile_66 : decode c_M_profile 66 = .ok (.iinc 2 1, 3) := by decide +kernel
theorem d_M_profile_69 : decode c_M_profile 69 = .ok (.goto (-61), 3) := by decide +kernel
theorem d_M_profile_72 : decode c_M_profile 72 = .ok (.iload_n 1, 1) := by decide +kernel
theorem d_M_profile_73 : decode c_M_profile 73 = .ok (.ireturn, 1) := by decide +kernel
end
section
/-! Rows over a store: the cells of a thing whose shape is fixed, by number; ad: their addresses, g: what they hold -/
def wl (n : Nat) (ad : Nat → Nat) (g : Nat → va_E) : va_W := (List.range n).map (fun k => (ad k, g k))
theorem wl_get {n : Nat} {ad : Nat → Nat} {g : Nat → va_E} {k : Nat} (h : k < n) : (wl n ad g)[k]? = some (ad k, g k) := by
  simp [wl, h]
theorem wl_at {n : Nat} {ad : Nat → Nat} {g : Nat → va_E} {k : Nat} {q : Nat × va_E} (h : (wl n ad g)[k]? = some q) : k < n ∧ q = (ad k, g k) := by
  by_cases hk : k < n
  · rw [wl_get hk] at h
    exact ⟨hk, (Option.some.inj h).symm⟩
  · have : (wl n ad g)[k]? = none := by simp [wl]; omega
    rw [this] at h
    cases h
theorem wl_len (n : Nat) (ad : Nat → Nat) (g : Nat → va_E) : (wl n ad g).length = n := by simp [wl]
theorem wl_none {n : Nat} {ad : Nat → Nat} {g : Nat → va_E} {k : Nat} (h : ¬ k < n) : (wl n ad g)[k]? = none := List.getElem?_eq_none (by rw [wl_len]; omega)
theorem wl_set {n : Nat} {ad : Nat → Nat} {g : Nat → va_E} {k : Nat} {x : va_E} (hk : k < n) : (wl n ad g).set k (ad k, x) = wl n ad (va_up g k x) := by
  apply List.ext_getElem?
  intro i
  rw [List.getElem?_set, wl_len]
  by_cases hi : i < n
  · rw [wl_get (g := va_up g k x) hi]
    by_cases hki : k = i
    · subst hki
      rw [if_pos rfl, if_pos hk]
      simp [va_up]
    · rw [if_neg hki, wl_get hi]
      simp [va_up, Ne.symm hki]
  · rw [wl_none hi, if_neg (by omega), wl_none hi]
theorem wl_congr {n : Nat} {ad : Nat → Nat} {g h : Nat → va_E} (q : ∀ k, k < n → g k = h k) : wl n ad g = wl n ad h := by
  apply List.ext_getElem?
  intro i
  by_cases hi : i < n
  · rw [wl_get hi, wl_get hi, q i hi]
  · rw [wl_none hi, wl_none hi]
theorem wl_D {A : Nat → Prop} {n : Nat} {ad : Nat → Nat} {g h : Nat → va_E} (hD : va_D A (wl n ad g)) : va_D A (wl n ad h) := by
  refine ⟨fun i j p q hp hq e => ?_, fun k q hk => ?_⟩
  · obtain ⟨hi, rfl⟩ := wl_at hp
    obtain ⟨hj, rfl⟩ := wl_at hq
    exact hD.1 i j (ad i, g i) (ad j, g j) (wl_get hi) (wl_get hj) e
  · obtain ⟨hi, rfl⟩ := wl_at hk
    exact hD.2 k (ad k, g k) (wl_get hi)
theorem wl_A {A : Nat → Prop} {n : Nat} {ad : Nat → Nat} {g h : Nat → va_E} {H0 H : Heap} {locs : List Loc} (hD : va_D A (wl n ad g)) (hS : va_S A H0 H locs) (hA : ∀ q, H0.size ≤ q → A q) : ∀ q, va_A (wl n ad h) H.size q → A q := by
  intro q hq
  rcases hq with ⟨k, x, hk⟩ | hq
  · obtain ⟨hi, e⟩ := wl_at hk
    have : q = ad k := congrArg Prod.fst e
    subst this
    exact hD.2 k (ad k, g k) (wl_get hi)
  · exact hA q (Nat.le_trans hS.1 hq)
/-- the numbers of a store: whole numbers, long ones, rows of them -/
abbrev gS : Type := (Nat → Int32) × (Nat → Int64) × (Nat → Nat → Int32) × (Nat → Nat → Int64)
def s_i (z : gS) (k : Nat) (x : Int32) : gS := (va_up z.1 k x, z.2)
def s_l (z : gS) (k : Nat) (x : Int64) : gS := (z.1, va_up z.2.1 k x, z.2.2)
def s_I (z : gS) (k : Nat) (h : Nat → Int32) : gS := (z.1, z.2.1, va_up z.2.2.1 k h, z.2.2.2)
def s_J (z : gS) (k : Nat) (h : Nat → Int64) : gS := (z.1, z.2.1, z.2.2.1, va_up z.2.2.2 k h)
/-- the cells out of the numbers: kd their kinds (1 int, 2 boolean, 3 long; else as ob says), ln their lengths -/
def gE (kd ln : Nat → Nat) (cy : Nat → ClassId) (ob : (Nat → Int32) → (Nat → Int64) → Nat → va_E) (z : gS) (k : Nat) : va_E := if kd k = 1 then .inl (cy 0, ln k, .inl (z.2.2.1 k)) else if kd k = 2 then .inl (cy 1, ln k, .inl (z.2.2.1 k)) else if kd k = 3 then .inl (cy 2, ln k, .inr (.inl (z.2.2.2 k))) else ob z.1 z.2.1 k
abbrev gTy (cy : Nat → ClassId) : List (ClassId × FieldType) := [(cy 0, .int), (cy 1, .boolean), (cy 2, .long), (cy 3, .array .int), (cy 4, .array .long)]
section GE
variable {kd ln : Nat → Nat} {cy : Nat → ClassId} {ob : (Nat → Int32) → (Nat → Int64) → Nat → va_E} {z : gS} {k : Nat}
theorem gE_1 (h : kd k = 1) : gE kd ln cy ob z k = .inl (cy 0, ln k, .inl (z.2.2.1 k)) := by unfold gE; rw [if_pos h]
theorem gE_2 (h : kd k = 2) : gE kd ln cy ob z k = .inl (cy 1, ln k, .inl (z.2.2.1 k)) := by unfold gE; rw [if_neg (by omega), if_pos h]
theorem gE_3 (h : kd k = 3) : gE kd ln cy ob z k = .inl (cy 2, ln k, .inr (.inl (z.2.2.2 k))) := by unfold gE; rw [if_neg (by omega), if_neg (by omega), if_pos h]
theorem gE_0 (h : kd k = 0) : gE kd ln cy ob z k = ob z.1 z.2.1 k := by unfold gE; rw [if_neg (by omega), if_neg (by omega), if_neg (by omega)]
theorem gE_u1 (h : kd k = 1) {f : Nat → Int32} : va_up (gE kd ln cy ob z) k (.inl (cy 0, ln k, .inl f)) = gE kd ln cy ob (s_I z k f) := by
  funext j
  by_cases e : j = k
  · subst e
    rw [gE_1 h]
    simp [va_up, s_I]
  · unfold gE
    simp [va_up, e, s_I]
theorem gE_u2 (h : kd k = 2) {f : Nat → Int32} : va_up (gE kd ln cy ob z) k (.inl (cy 1, ln k, .inl f)) = gE kd ln cy ob (s_I z k f) := by
  funext j
  by_cases e : j = k
  · subst e
    rw [gE_2 h]
    simp [va_up, s_I]
  · unfold gE
    simp [va_up, e, s_I]
theorem gE_u3 (h : kd k = 3) {f : Nat → Int64} : va_up (gE kd ln cy ob z) k (.inl (cy 2, ln k, .inr (.inl f))) = gE kd ln cy ob (s_J z k f) := by
  funext j
  by_cases e : j = k
  · subst e
    rw [gE_3 h]
    simp [va_up, s_J]
  · unfold gE
    simp [va_up, e, s_J]
theorem gE_ui (h : kd k = 0) {v : va_E} {j0 : Nat} {x : Int32} (hob : ∀ j, va_up (ob z.1 z.2.1) k v j = ob (va_up z.1 j0 x) z.2.1 j) : va_up (gE kd ln cy ob z) k v = gE kd ln cy ob (s_i z j0 x) := by
  funext j
  have q := hob j
  by_cases e : j = k
  · subst e
    rw [gE_0 h]
    simpa [va_up, s_i] using q
  · unfold gE
    simp only [va_up, e, if_false, s_i] at q ⊢
    rw [q]
theorem gE_ul (h : kd k = 0) {v : va_E} {j0 : Nat} {x : Int64} (hob : ∀ j, va_up (ob z.1 z.2.1) k v j = ob z.1 (va_up z.2.1 j0 x) j) : va_up (gE kd ln cy ob z) k v = gE kd ln cy ob (s_l z j0 x) := by
  funext j
  have q := hob j
  by_cases e : j = k
  · subst e
    rw [gE_0 h]
    simpa [va_up, s_l] using q
  · unfold gE
    simp only [va_up, e, if_false, s_l] at q ⊢
    rw [q]
end GE
/-! checks of a mirror: what it tells where it answers -/
theorem op_chk {α : Type} {c : Prop} [Decidable c] {x : Option α} {y : α} (h : (if c then none else x) = some y) : ¬ c ∧ x = some y := by
  by_cases hc : c
  · rw [if_pos hc] at h; cases h
  · rw [if_neg hc] at h; exact ⟨hc, h⟩
theorem op_bnd {α β : Type} {x : Option α} {f : α → Option β} {y : β} (h : x.bind f = some y) : ∃ a, x = some a ∧ f a = some y := Option.bind_eq_some_iff.mp h
theorem op_pos {α : Type} {c : Prop} [Decidable c] {x y : Option α} {z : α} (h : (if c then x else y) = some z) (hc : c) : x = some z := by rw [if_pos hc] at h; exact h
theorem op_neg {α : Type} {c : Prop} [Decidable c] {x y : Option α} {z : α} (h : (if c then x else y) = some z) (hc : ¬ c) : y = some z := by rw [if_neg hc] at h; exact h
/-! a method's start and end over a store -/
abbrev sPc (D : va_G) (cl : List vw_C) (tys : List (ClassId × FieldType)) (nw : State → Prop) (n : Nat) (ad : Nat → Nat) (g : Nat → va_E) (sz : Nat) (av : List Value) : Array Value → State → Prop := va_Pc av (fun U => U.heap.size = sz ∧ va_P D cl (wl n ad g) U.heap ∧ va_K D cl tys U ∧ nw U ∧ va_D (fun _ => True) (wl n ad g))
abbrev sQi (D : va_G) (cl : List vw_C) (n : Nat) (ad : Nat → Nat) (g : Nat → va_E) (sz : Nat) (r : Int32) (g' : Nat → va_E) : Array Value → State → Outcome → State → Prop := va_Qi (fun x (_ : Unit) => x = r) (fun _ t => va_P D cl (wl n ad g') t.heap) (va_A (wl n ad g) sz)
abbrev sQl (D : va_G) (cl : List vw_C) (n : Nat) (ad : Nat → Nat) (g : Nat → va_E) (sz : Nat) (r : Int64) (g' : Nat → va_E) : Array Value → State → Outcome → State → Prop := va_Ql (fun x (_ : Unit) => x = r) (fun _ t => va_P D cl (wl n ad g') t.heap) (va_A (wl n ad g) sz)
abbrev sQv (D : va_G) (cl : List vw_C) (n : Nat) (ad : Nat → Nat) (g : Nat → va_E) (sz : Nat) (g' : Nat → va_E) : Array Value → State → Outcome → State → Prop := va_Qv (fun (_ : Unit) => True) (fun _ t => va_P D cl (wl n ad g') t.heap) (va_A (wl n ad g) sz)
/-- what of the start lasts: words of nest mates -/
def nwOk (nw : State → Prop) : Prop := (∀ s U : State, s.WarmedH U.vm → nw s → nw U) ∧ ∀ s U : State, s.vm = U.vm → nw s → nw U
section WX
variable {p : Program} {l : Launch} {e : Env} {R : Room} {s : State} {m : MethodId} {args : Array Value} {below : List Frame} {meth : Method} {c : Code} {H : Heap} {locs : List Loc} {cells slots : Nat} {Q : State → Prop}
variable {cc : ByteArray} {pc : Nat} {ls : Array Slot} {rest : List Value} {D : va_G} {cl : List vw_C} {A : Nat → Prop} {tys : List (ClassId × FieldType)} {H0 : Heap} {n : Nat} {ad : Nat → Nat} {g : Nat → va_E}
theorem wx_get (hexec : p.tables.exec = Jvm.exec) (hb : c.code = cc) {own ref C : String} {T : u_T} {N ci index : Nat} {Ts : List Cond} (hts : ∀ w ∈ Ts, w.before args s = true) (hin : ∀ w ∈ u_ws C T N, w ∈ Ts) (hown : s.vm.findClass own = some m.cls) (hK : va_K D cl tys s) (hP : va_P D cl (wl n ad g) H) (q : Nat) (hq : q < n) {fs : List Value} (he : g q = .inr (ci, fs)) (hc : cl[ci]? = some (C, T, N)) (k : Nat) (hk : k < N) (hlink : (Cond.fieldLink own index ref (T k).2.1 (T k).2.2.1).before args s = true) (hsame : ∀ x, s.fieldFound? (T k).1 (T k).2.1 (T k).2.2.1 = some x → s.fieldFound? ref (T k).2.1 (T k).2.2.1 = some x) {v : Value} (hv : fs[k]? = some v) (hdg : decode cc pc = .ok (.getfield index, 3))
    (kk : W p l e R s m args below meth c H locs cells slots Q (F0 m (pc + 3) ls (v :: rest))) : W p l e R s m args below meth c H locs cells slots Q (F0 m pc ls (.ref (ad q) :: rest)) := va_get hexec hb hts hin hown hK hP q (by rw [wl_get hq, he]) hc k hk hlink hsame hv hdg kk
theorem wx_put (hexec : p.tables.exec = Jvm.exec) (hb : c.code = cc) {own ref C : String} {T : u_T} {N ci index : Nat} {Ts : List Cond} (hts : ∀ w ∈ Ts, w.before args s = true) (hin : ∀ w ∈ u_ws C T N, w ∈ Ts) (ty0 : Nat → FieldType) (hty : ∀ k, k < N → parseFieldDescriptor (T k).2.2.1 = some (ty0 k)) (hnm : ∀ a, a < N → ∀ b, b < N → a ≠ b → (T a).2.1 ≠ (T b).2.1) (hown : s.vm.findClass own = some m.cls) (hK : va_K D cl tys s) (hP : va_P D cl (wl n ad g) H) (hD : va_D A (wl n ad g)) (hS0 : va_S A H0 H locs) (q : Nat) (hq : q < n) {fs : List Value} (he : g q = .inr (ci, fs)) (hc : cl[ci]? = some (C, T, N)) (k : Nat) (hk : k < N) (hlink : (Cond.fieldLink own index ref (T k).2.1 (T k).2.2.1).before args s = true) (hsame : ∀ x, s.fieldFound? (T k).1 (T k).2.1 (T k).2.2.1 = some x → s.fieldFound? ref (T k).2.1 (T k).2.2.1 = some x) (hfin : (T k).2.2.2 = false) {ty : FieldType} {v : Value} (hd : parseFieldDescriptor (T k).2.2.1 = some ty) (hn : narrow ty v = v) (hfit : fits ty v = true) (hl : k < fs.length) (hdg : decode cc pc = .ok (.putfield index, 3)) {g' : Nat → va_E} (hg' : va_up g q (.inr (ci, fs.set k v)) = g')
    (kk : ∀ (H1 : Heap) (locs1 : List Loc), va_P D cl (wl n ad g') H1 → va_S A H0 H1 locs1 → W p l e R s m args below meth c H1 locs1 cells slots Q (F0 m (pc + 3) ls rest)) : W p l e R s m args below meth c H locs cells slots Q (F0 m pc ls (v :: .ref (ad q) :: rest)) := by
  subst hg'
  refine va_put hexec hb hts hin ty0 hty hnm hown hK hP hD hS0 q (by rw [wl_get hq, he]) hc k hk hlink hsame hfin hd hn hfit hl hdg (fun H1 locs1 h1 _ h3 => ?_)
  rw [wl_set hq] at h1
  exact kk H1 locs1 h1 h3
variable {kd ln : Nat → Nat} {cy : Nat → ClassId} {ob : (Nat → Int32) → (Nat → Int64) → Nat → va_E} {z : gS}
theorem wx_iald (hexec : p.tables.exec = Jvm.exec) (hb : c.code = cc) (hK : va_K D cl (gTy cy) s) (hP : va_P D cl (wl n ad (gE kd ln cy ob z)) H) (k : Nat) (hk : k < n) (hkd : kd k = 1) (N : Nat) (hN : ln k = N) {i : Int32} (hin : vp_in i N) (hdg : decode cc pc = .ok (.iaload, 1))
    (kk : W p l e R s m args below meth c H locs cells slots Q (F0 m (pc + 1) ls (.int (z.2.2.1 k i.toNatClampNeg) :: rest))) : W p l e R s m args below meth c H locs cells slots Q (F0 m pc ls (.int i :: .ref (ad k) :: rest)) := va_iald hexec hb hK hP k 0 (by rw [wl_get hk, gE_1 hkd, hN]) rfl hin hdg kk
theorem wx_zald (hexec : p.tables.exec = Jvm.exec) (hb : c.code = cc) (hK : va_K D cl (gTy cy) s) (hP : va_P D cl (wl n ad (gE kd ln cy ob z)) H) (k : Nat) (hk : k < n) (hkd : kd k = 2) (N : Nat) (hN : ln k = N) {i : Int32} (hin : vp_in i N) (hdg : decode cc pc = .ok (.baload, 1))
    (kk : W p l e R s m args below meth c H locs cells slots Q (F0 m (pc + 1) ls (.int (z.2.2.1 k i.toNatClampNeg) :: rest))) : W p l e R s m args below meth c H locs cells slots Q (F0 m pc ls (.int i :: .ref (ad k) :: rest)) := va_zald hexec hb hK hP k 1 (by rw [wl_get hk, gE_2 hkd, hN]) rfl hin hdg kk
theorem wx_lald (hexec : p.tables.exec = Jvm.exec) (hb : c.code = cc) (hK : va_K D cl (gTy cy) s) (hP : va_P D cl (wl n ad (gE kd ln cy ob z)) H) (k : Nat) (hk : k < n) (hkd : kd k = 3) (N : Nat) (hN : ln k = N) {i : Int32} (hin : vp_in i N) (hdg : decode cc pc = .ok (.laload, 1))
    (kk : W p l e R s m args below meth c H locs cells slots Q (F0 m (pc + 1) ls (.long (z.2.2.2 k i.toNatClampNeg) :: rest))) : W p l e R s m args below meth c H locs cells slots Q (F0 m pc ls (.int i :: .ref (ad k) :: rest)) := va_lald hexec hb hK hP k 2 (by rw [wl_get hk, gE_3 hkd, hN]) rfl hin hdg kk
theorem wx_iast (hexec : p.tables.exec = Jvm.exec) (hb : c.code = cc) (hK : va_K D cl (gTy cy) s) (hP : va_P D cl (wl n ad (gE kd ln cy ob z)) H) (hD : va_D A (wl n ad (gE kd ln cy ob z))) (hS : va_S A H0 H locs) (k : Nat) (hk : k < n) (hkd : kd k = 1) (N : Nat) (hN : ln k = N) {i x : Int32} (hin : vp_in i N) (hdg : decode cc pc = .ok (.iastore, 1))
    (kk : ∀ (H1 : Heap) (locs1 : List Loc), va_P D cl (wl n ad (gE kd ln cy ob (s_I z k (upd (z.2.2.1 k) i.toNatClampNeg x)))) H1 → va_S A H0 H1 locs1 → W p l e R s m args below meth c H1 locs1 cells slots Q (F0 m (pc + 1) ls rest)) : W p l e R s m args below meth c H locs cells slots Q (F0 m pc ls (.int x :: .int i :: .ref (ad k) :: rest)) := by
  refine va_iast hexec hb hK hP hD hS k 0 (by rw [wl_get hk, gE_1 hkd]) rfl (by rw [hN]; exact hin) hdg (fun H1 locs1 h1 _ h3 => ?_)
  rw [wl_set hk, gE_u1 hkd] at h1
  exact kk H1 locs1 h1 h3
theorem wx_zast (hexec : p.tables.exec = Jvm.exec) (hb : c.code = cc) (hK : va_K D cl (gTy cy) s) (hP : va_P D cl (wl n ad (gE kd ln cy ob z)) H) (hD : va_D A (wl n ad (gE kd ln cy ob z))) (hS : va_S A H0 H locs) (k : Nat) (hk : k < n) (hkd : kd k = 2) (N : Nat) (hN : ln k = N) {i x : Int32} (hin : vp_in i N) (hdg : decode cc pc = .ok (.bastore, 1))
    (kk : ∀ (H1 : Heap) (locs1 : List Loc), va_P D cl (wl n ad (gE kd ln cy ob (s_I z k (upd (z.2.2.1 k) i.toNatClampNeg (vp_nar .boolean x))))) H1 → va_S A H0 H1 locs1 → W p l e R s m args below meth c H1 locs1 cells slots Q (F0 m (pc + 1) ls rest)) : W p l e R s m args below meth c H locs cells slots Q (F0 m pc ls (.int x :: .int i :: .ref (ad k) :: rest)) := by
  refine va_zast hexec hb hK hP hD hS k 1 (by rw [wl_get hk, gE_2 hkd]) rfl (by rw [hN]; exact hin) hdg (fun H1 locs1 h1 _ h3 => ?_)
  rw [wl_set hk, gE_u2 hkd] at h1
  exact kk H1 locs1 h1 h3
theorem wx_last (hexec : p.tables.exec = Jvm.exec) (hb : c.code = cc) (hK : va_K D cl (gTy cy) s) (hP : va_P D cl (wl n ad (gE kd ln cy ob z)) H) (hD : va_D A (wl n ad (gE kd ln cy ob z))) (hS : va_S A H0 H locs) (k : Nat) (hk : k < n) (hkd : kd k = 3) (N : Nat) (hN : ln k = N) {i : Int32} {x : Int64} (hin : vp_in i N) (hdg : decode cc pc = .ok (.lastore, 1))
    (kk : ∀ (H1 : Heap) (locs1 : List Loc), va_P D cl (wl n ad (gE kd ln cy ob (s_J z k (vp_updL (z.2.2.2 k) i.toNatClampNeg x)))) H1 → va_S A H0 H1 locs1 → W p l e R s m args below meth c H1 locs1 cells slots Q (F0 m (pc + 1) ls rest)) : W p l e R s m args below meth c H locs cells slots Q (F0 m pc ls (.long x :: .int i :: .ref (ad k) :: rest)) := by
  refine va_last hexec hb hK hP hD hS k 2 (by rw [wl_get hk, gE_3 hkd]) rfl (by rw [hN]; exact hin) hdg (fun H1 locs1 h1 _ h3 => ?_)
  rw [wl_set hk, gE_u3 hkd] at h1
  exact kk H1 locs1 h1 h3
/-- the length of a row of ints, of longs -/
theorem wx_leni (hexec : p.tables.exec = Jvm.exec) (hb : c.code = cc) (hK : va_K D cl (gTy cy) s) (hP : va_P D cl (wl n ad (gE kd ln cy ob z)) H) (k : Nat) (hk : k < n) (hkd : kd k = 1) {v : Int32} (hv : Int32.ofNat (ln k) = v) (hdg : decode cc pc = .ok (.arraylength, 1))
    (kk : W p l e R s m args below meth c H locs cells slots Q (F0 m (pc + 1) ls (.int v :: rest))) : W p l e R s m args below meth c H locs cells slots Q (F0 m pc ls (.ref (ad k) :: rest)) := va_alen hexec hb hK hP k 0 (by rw [wl_get hk, gE_1 hkd]) rfl hv hdg kk
theorem wx_lenl (hexec : p.tables.exec = Jvm.exec) (hb : c.code = cc) (hK : va_K D cl (gTy cy) s) (hP : va_P D cl (wl n ad (gE kd ln cy ob z)) H) (k : Nat) (hk : k < n) (hkd : kd k = 3) {v : Int32} (hv : Int32.ofNat (ln k) = v) (hdg : decode cc pc = .ok (.arraylength, 1))
    (kk : W p l e R s m args below meth c H locs cells slots Q (F0 m (pc + 1) ls (.int v :: rest))) : W p l e R s m args below meth c H locs cells slots Q (F0 m pc ls (.ref (ad k) :: rest)) := va_alen hexec hb hK hP k 2 (by rw [wl_get hk, gE_3 hkd]) rfl hv hdg kk
/-- a row out of an array of rows -/
theorem wx_aald (hexec : p.tables.exec = Jvm.exec) (hb : c.code = cc) (hK : va_K D cl tys s) (hP : va_P D cl (wl n ad g) H) (k t0 : Nat) (hk : k < n) {cA : ClassId} {ty : FieldType} {N : Nat} {f : Nat → Option Nat} (hg : g k = .inl (cA, N, .inr (.inr (.inr (.inr f))))) (ht : tys[t0]? = some (cA, .array ty)) {i : Int32} (hin : vp_in i N) {b : Nat} (hf : f i.toNatClampNeg = some b) (hdg : decode cc pc = .ok (.aaload, 1))
    (kk : W p l e R s m args below meth c H locs cells slots Q (F0 m (pc + 1) ls (.ref b :: rest))) : W p l e R s m args below meth c H locs cells slots Q (F0 m pc ls (.int i :: .ref (ad k) :: rest)) := by
  have hlt : i.toNatClampNeg < N := Nat.not_le.mp fun q => hin (Or.inr q)
  have ha : (wl n ad g)[k]? = some (ad k, .inl (cA, N, .inr (.inr (.inr (.inr f))))) := by rw [wl_get hk, hg]
  refine W.aald (v := va_rf (f i.toNatClampNeg)) (ty := .array ty) hexec hb (hP k _ ha) ((hK.2 t0 _ ht).1 N (fun j => va_rf (f j))) rfl (fun q => by cases q) (by show ¬ (i < 0 ∨ (arrV _ _ _).slots.size ≤ _); rw [arrV_size]; exact hin) (by show (arrV _ _ _).slots[_]? = _; rw [arrV_read _ _ hlt]) rfl rfl hdg ?_
  rw [hf]
  exact kk
end WX
end
section
/-! Calls and returns over a store -/
def bd2 {a b c : Type} (x : Option (a × b)) (f : a → b → Option c) : Option c := match x with | some (p, q) => f p q | none => none
theorem op_let {a b : Type} {x : a} {f : a → Option b} {y : b} (h : (some x).bind f = some y) : ∃ w, x = w ∧ f w = some y := ⟨x, rfl, h⟩
theorem op_b2 {a b c : Type} {x : Option (a × b)} {f : a → b → Option c} {y : c} (h : bd2 x f = some y) : ∃ p q, x = some (p, q) ∧ f p q = some y := by
  match x, h with
  | some (p, q), h => exact ⟨p, q, rfl, h⟩
section WC
variable {p : Program} {l : Launch} {e : Env} {R : Room} {s : State} {m : MethodId} {args : Array Value} {below : List Frame} {meth : Method} {c : Code} {H : Heap} {locs : List Loc} {cells slots : Nat} {Q : State → Prop}
variable {cc : ByteArray} {pc : Nat} {ls : Array Slot} {rest : List Value} {D : va_G} {cl : List vw_C} {A : Nat → Prop} {tys : List (ClassId × FieldType)} {H0 : Heap} {n : Nat} {ad : Nat → Nat} {g g' : Nat → va_E} {nw : State → Prop}
theorem sw_i {x y : Int32} (h : x = y) (k : W p l e R s m args below meth c H locs cells slots Q (F0 m pc ls (.int y :: rest))) : W p l e R s m args below meth c H locs cells slots Q (F0 m pc ls (.int x :: rest)) := h ▸ k
theorem sw_l {x y : Int64} (h : x = y) (k : W p l e R s m args below meth c H locs cells slots Q (F0 m pc ls (.long y :: rest))) : W p l e R s m args below meth c H locs cells slots Q (F0 m pc ls (.long x :: rest)) := h ▸ k
theorem s_blind (hn : nwOk nw) {sz : Nat} {av : List Value} : FrameBlind (sPc D cl tys nw n ad g sz av) := fun a U g mk q => by
  obtain ⟨q0, q1, qP, qK, qN, qD⟩ := q
  exact ⟨q0, q1, qP, va_K.moved (u := U) (U := U.calling g mk a) (Vm.Alike.refl U.vm) qK, hn.2 U _ rfl qN, qD⟩
theorem s_pre (hn : nwOk nw) (hN : nw s) (hK : va_K D cl tys s) (hP : va_P D cl (wl n ad g) H) (hD : va_D A (wl n ad g)) {av : List Value} : ∀ U : State, U.heap = H → s.WarmedH U.vm → sPc D cl tys nw n ad g H.size av av.toArray U := fun U hU hW => ⟨rfl, by rw [hU], by rw [hU]; exact hP, va_K.moved hW.alike hK, hn.1 s U hW hN, hD.weaken (fun _ _ _ _ => trivial)⟩
variable {y : MethodName} {bytes : ByteArray} {maxL nL nA index : Nat} {ret : Option FieldType} {ws Ts : List Cond} {rm : Room} {own C host : String} {As : List Value} {Qc : Array Value → State → Outcome → State → Prop} {free : Addr → Prop} {st : List Value}
theorem wx_rV (S : CallFix p m c cc nL s args Ts own) {q : Nat} (hM : Met l y ws rm (sPc D cl tys nw n ad g H.size (.ref (ad q) :: As)) Qc 0 0 free) (cw : CallW R s args own C index y bytes maxL ret ws rm 0 0 nA) (hn : nwOk nw) (hN : nw s) (hK : va_K D cl tys s) (hP : va_P D cl (wl n ad g) H) (hD : va_D A (wl n ad g)) (hq : q < n) {ci : Nat} {fs : List Value} (he : g q = .inr (ci, fs)) {T : u_T} {N : Nat} (hc : cl[ci]? = some (C, T, N))
    (hA : As.length = nA) (hsize : ls.size = nL) (hstack : st = As.reverse ++ .ref (ad q) :: rest) (hroom : (rest.map fun v => v.category).sum ≤ 8) (hdg : decode cc pc = .ok (.invokevirtual index, 3)) (hf : cells + 0 ≤ R.cells ∧ slots + 0 ≤ R.slots) :
    va_Run p l e R s m args below meth c H locs cells slots 0 0 (F0 m pc ls st) rest (Qc (Value.ref (ad q) :: As).toArray) free :=
  va_runV S hM cw ⟨s_blind hn, va_recv hK hP hc (by rw [wl_get hq, he]), s_pre hn hN hK hP hD⟩ rfl hA hsize hstack (lv_room hroom) hdg hf
theorem wx_rS (S : CallFix p m c cc nL s args Ts own) (hM : Met l y ws rm (sPc D cl tys nw n ad g H.size As) Qc 0 0 free) (cw : CallB R s args own index y bytes maxL ret ws rm 0 0 nA ∧ (Cond.static y).before args s = true) (hn : nwOk nw) (hN : nw s) (hK : va_K D cl tys s) (hP : va_P D cl (wl n ad g) H) (hD : va_D A (wl n ad g))
    (hA : As.length = nA) (hsize : ls.size = nL) (hstack : st = As.reverse ++ rest) (hroom : (rest.map fun v => v.category).sum ≤ 8) (hdg : decode cc pc = .ok (.invokestatic index, 3)) (hf : cells + 0 ≤ R.cells ∧ slots + 0 ≤ R.slots) :
    va_Run p l e R s m args below meth c H locs cells slots 0 0 (F0 m pc ls st) rest (Qc As.toArray) free :=
  va_runS S hM cw ⟨s_blind hn, s_pre hn hN hK hP hD⟩ rfl hA hsize hstack (lv_room hroom) hdg hf
theorem wx_rSN (S : CallFix p m c cc nL s args Ts own) (hM : Met l y ws rm (sPc D cl tys nw n ad g H.size As) Qc 0 0 free) (cw : va_CN R s args own index y host bytes maxL ret ws rm 0 0 nA ∧ (Cond.static y).before args s = true ∧ True) (hn : nwOk nw) (hN : nw s) (hK : va_K D cl tys s) (hP : va_P D cl (wl n ad g) H) (hD : va_D A (wl n ad g))
    (hA : As.length = nA) (hsize : ls.size = nL) (hstack : st = As.reverse ++ rest) (hroom : (rest.map fun v => v.category).sum ≤ 8) (hdg : decode cc pc = .ok (.invokestatic index, 3)) (hf : cells + 0 ≤ R.cells ∧ slots + 0 ≤ R.slots) :
    va_Run p l e R s m args below meth c H locs cells slots 0 0 (F0 m pc ls st) rest (Qc As.toArray) free :=
  va_runSN S hM cw ⟨s_blind hn, s_pre hn hN hK hP hD⟩ rfl hA hsize hstack (lv_room hroom) hdg hf
variable {a : Array Value}
theorem wx_fi {r : Int32} (hr : va_Run p l e R s m args below meth c H locs cells slots 0 0 (F0 m pc ls st) rest (sQi D cl n ad g H.size r g' a) (va_A (wl n ad g) H.size)) (hD : va_D A (wl n ad g)) (hS : va_S A H0 H locs) (hA : ∀ q, H0.size ≤ q → A q)
    (kk : ∀ (H1 : Heap) (locs1 : List Loc), va_P D cl (wl n ad g') H1 → va_S A H0 H1 locs1 → W p l e R s m args below meth c H1 locs1 cells slots Q (F0 m (pc + 3) ls (.int r :: rest))) : W p l e R s m args below meth c H locs cells slots Q (F0 m pc ls st) :=
  va_calli hr hS (fun q _ h => wl_A hD hS hA q h) (wl_A hD hS hA) (fun r' u t H1 locs1 ht hvm hp hB hz hk hS1 => by
    subst hp
    rw [ht] at hB
    exact kk H1 locs1 hB hS1)
theorem wx_fl {r : Int64} (hr : va_Run p l e R s m args below meth c H locs cells slots 0 0 (F0 m pc ls st) rest (sQl D cl n ad g H.size r g' a) (va_A (wl n ad g) H.size)) (hD : va_D A (wl n ad g)) (hS : va_S A H0 H locs) (hA : ∀ q, H0.size ≤ q → A q)
    (kk : ∀ (H1 : Heap) (locs1 : List Loc), va_P D cl (wl n ad g') H1 → va_S A H0 H1 locs1 → W p l e R s m args below meth c H1 locs1 cells slots Q (F0 m (pc + 3) ls (.long r :: rest))) : W p l e R s m args below meth c H locs cells slots Q (F0 m pc ls st) :=
  va_calll hr hS (fun q _ h => wl_A hD hS hA q h) (wl_A hD hS hA) (fun r' u t H1 locs1 ht hvm hp hB hz hk hS1 => by
    subst hp
    rw [ht] at hB
    exact kk H1 locs1 hB hS1)
theorem wx_fv (hr : va_Run p l e R s m args below meth c H locs cells slots 0 0 (F0 m pc ls st) rest (sQv D cl n ad g H.size g' a) (va_A (wl n ad g) H.size)) (hD : va_D A (wl n ad g)) (hS : va_S A H0 H locs) (hA : ∀ q, H0.size ≤ q → A q)
    (kk : ∀ (H1 : Heap) (locs1 : List Loc), va_P D cl (wl n ad g') H1 → va_S A H0 H1 locs1 → W p l e R s m args below meth c H1 locs1 cells slots Q (F0 m (pc + 3) ls rest)) : W p l e R s m args below meth c H locs cells slots Q (F0 m pc ls st) :=
  va_callv hr hS (fun q _ h => wl_A hD hS hA q h) (wl_A hD hS hA) (fun u t H1 locs1 ht hvm hp hB hz hk hS1 => by
    rw [ht] at hB
    exact kk H1 locs1 hB hS1)
theorem wx_iret {v r : Int32} (hexec : p.tables.exec = Jvm.exec) (hb : c.code = cc) (hr : meth.sig.returnType = some .int) (hlocks : meth.locks = false) (hAe : A = va_A (wl n ad g) s.heap.size) (hP : va_P D cl (wl n ad g') H) (hS : va_S A s.heap H locs) (hv : v = r) (hdg : decode cc pc = .ok (.ireturn, 1)) :
    W p l e R s m args below meth c H locs 0 0 (MQ below (sQi D cl n ad g s.heap.size r g') args s 0 0 (va_A (wl n ad g) s.heap.size)) (F0 m pc ls [.int v]) := by
  subst hAe
  subst hv
  exact W.iret hexec hb hr (fun t ht hW => ⟨⟨_, (), rfl, rfl, by show va_P D cl (wl n ad g') t.heap; rw [ht]; exact hP⟩, hS.F ht⟩) hS.2.2 hdg hlocks
theorem wx_zret {v r : Int32} (hexec : p.tables.exec = Jvm.exec) (hb : c.code = cc) (hr : meth.sig.returnType = some .boolean) (hlocks : meth.locks = false) (hn : narrow .boolean (.int v) = .int v) (hAe : A = va_A (wl n ad g) s.heap.size) (hP : va_P D cl (wl n ad g') H) (hS : va_S A s.heap H locs) (hv : v = r) (hdg : decode cc pc = .ok (.ireturn, 1)) :
    W p l e R s m args below meth c H locs 0 0 (MQ below (sQi D cl n ad g s.heap.size r g') args s 0 0 (va_A (wl n ad g) s.heap.size)) (F0 m pc ls [.int v]) := by
  subst hAe
  subst hv
  exact W.zret hexec hb hr hn (fun t ht hW => ⟨⟨_, (), rfl, rfl, by show va_P D cl (wl n ad g') t.heap; rw [ht]; exact hP⟩, hS.F ht⟩) hS.2.2 hdg hlocks
theorem wx_lret {v r : Int64} (hexec : p.tables.exec = Jvm.exec) (hb : c.code = cc) (hr : meth.sig.returnType = some .long) (hlocks : meth.locks = false) (hAe : A = va_A (wl n ad g) s.heap.size) (hP : va_P D cl (wl n ad g') H) (hS : va_S A s.heap H locs) (hv : v = r) (hdg : decode cc pc = .ok (.lreturn, 1)) :
    W p l e R s m args below meth c H locs 0 0 (MQ below (sQl D cl n ad g s.heap.size r g') args s 0 0 (va_A (wl n ad g) s.heap.size)) (F0 m pc ls [.long v]) := by
  subst hAe
  subst hv
  exact W.lret hexec hb hr (fun t ht hW => ⟨⟨_, (), rfl, rfl, by show va_P D cl (wl n ad g') t.heap; rw [ht]; exact hP⟩, hS.F ht⟩) hS.2.2 hdg hlocks
theorem wx_vret (hexec : p.tables.exec = Jvm.exec) (hb : c.code = cc) (hr : meth.sig.returnType = none) (hlocks : meth.locks = false) (hAe : A = va_A (wl n ad g) s.heap.size) (hP : va_P D cl (wl n ad g') H) (hS : va_S A s.heap H locs) (hdg : decode cc pc = .ok (.return_, 1)) :
    W p l e R s m args below meth c H locs 0 0 (MQ below (sQv D cl n ad g s.heap.size g') args s 0 0 (va_A (wl n ad g) s.heap.size)) (F0 m pc ls []) := by
  subst hAe
  exact W.vret hexec hb hr (fun t ht hW => ⟨⟨(), rfl, trivial, by show va_P D cl (wl n ad g') t.heap; rw [ht]; exact hP⟩, hS.F ht⟩) hS.2.2 hdg hlocks
end WC
end
section
theorem op_inj {a b : Type} {p r : a} {q t : b} (h : some (p, q) = some (r, t)) : p = r ∧ q = t := Prod.mk.inj (Option.some.inj h)
/-! what a mirror takes out of a loop or a call: several things at once -/
def bd1 {a c : Type} (x : Option a) (f : a → Option c) : Option c := x.bind f
theorem op_b1 {a c : Type} {x : Option a} {f : a → Option c} {y : c} (h : bd1 x f = some y) : ∃ p, x = some p ∧ f p = some y := Option.bind_eq_some_iff.mp h
def bd3 {t0 t1 t2 c : Type} (x : Option (t0 × t1 × t2)) (f : t0 → t1 → t2 → Option c) : Option c := match x with | some (p0, p1, p2) => f p0 p1 p2 | none => none
theorem op_b3 {t0 t1 t2 c : Type} {x : Option (t0 × t1 × t2)} {f : t0 → t1 → t2 → Option c} {y : c} (h : bd3 x f = some y) : ∃ p0 p1 p2, x = some (p0, p1, p2) ∧ f p0 p1 p2 = some y := by
  match x, h with
  | some (p0, p1, p2), h => exact ⟨p0, p1, p2, rfl, h⟩
def bd4 {t0 t1 t2 t3 c : Type} (x : Option (t0 × t1 × t2 × t3)) (f : t0 → t1 → t2 → t3 → Option c) : Option c := match x with | some (p0, p1, p2, p3) => f p0 p1 p2 p3 | none => none
theorem op_b4 {t0 t1 t2 t3 c : Type} {x : Option (t0 × t1 × t2 × t3)} {f : t0 → t1 → t2 → t3 → Option c} {y : c} (h : bd4 x f = some y) : ∃ p0 p1 p2 p3, x = some (p0, p1, p2, p3) ∧ f p0 p1 p2 p3 = some y := by
  match x, h with
  | some (p0, p1, p2, p3), h => exact ⟨p0, p1, p2, p3, rfl, h⟩
def bd5 {t0 t1 t2 t3 t4 c : Type} (x : Option (t0 × t1 × t2 × t3 × t4)) (f : t0 → t1 → t2 → t3 → t4 → Option c) : Option c := match x with | some (p0, p1, p2, p3, p4) => f p0 p1 p2 p3 p4 | none => none
theorem op_b5 {t0 t1 t2 t3 t4 c : Type} {x : Option (t0 × t1 × t2 × t3 × t4)} {f : t0 → t1 → t2 → t3 → t4 → Option c} {y : c} (h : bd5 x f = some y) : ∃ p0 p1 p2 p3 p4, x = some (p0, p1, p2, p3, p4) ∧ f p0 p1 p2 p3 p4 = some y := by
  match x, h with
  | some (p0, p1, p2, p3, p4), h => exact ⟨p0, p1, p2, p3, p4, rfl, h⟩
def bd6 {t0 t1 t2 t3 t4 t5 c : Type} (x : Option (t0 × t1 × t2 × t3 × t4 × t5)) (f : t0 → t1 → t2 → t3 → t4 → t5 → Option c) : Option c := match x with | some (p0, p1, p2, p3, p4, p5) => f p0 p1 p2 p3 p4 p5 | none => none
theorem op_b6 {t0 t1 t2 t3 t4 t5 c : Type} {x : Option (t0 × t1 × t2 × t3 × t4 × t5)} {f : t0 → t1 → t2 → t3 → t4 → t5 → Option c} {y : c} (h : bd6 x f = some y) : ∃ p0 p1 p2 p3 p4 p5, x = some (p0, p1, p2, p3, p4, p5) ∧ f p0 p1 p2 p3 p4 p5 = some y := by
  match x, h with
  | some (p0, p1, p2, p3, p4, p5), h => exact ⟨p0, p1, p2, p3, p4, p5, rfl, h⟩
end
section
/-! the two stores: the object under proof (1) and the reference (2) -/
def kd1 : Nat → Nat := fun k => if k < 5 then 0 else if k = 9 then 2 else if k < 17 then 1 else if k < 20 then 0 else if k < 28 then 3 else if k < 32 then 1 else if k < 52 then 3 else 0
def ln1 : Nat → Nat := fun k => if k = 12 ∨ k = 13 then 5 else if k = 16 then 4 else if k = 20 ∨ k = 21 then 11 else 10
def kd2 : Nat → Nat := fun k => if k = 0 then 0 else if k = 1 ∨ k = 7 then 2 else if k < 14 then 1 else if k < 16 then 3 else 0
def ln2 : Nat → Nat := fun k => if k = 1 ∨ k = 2 ∨ k = 3 ∨ k = 11 then 5 else if k = 10 then 40 else if k = 13 ∨ k = 15 then 100 else 10
def ob1 (cy : Nat → ClassId) (ad : Nat → Nat) (v : Nat → Int32) (w : Nat → Int64) : Nat → va_E := fun k => match k with
  | 0 => .inr (4, [.ref (ad 1), .ref (ad 2), .ref (ad 3), .ref (ad 4), .int (v 0)])
  | 1 => .inr (3, [.int (v 1), .ref (ad 5), .ref (ad 6), .ref (ad 7), .ref (ad 8), .int (v 2), .ref (ad 9), .ref (ad 10), .ref (ad 11), .ref (ad 17)])
  | 2 => .inr (1, [.ref (ad 12), .int (v 3), .int (v 4), .ref (ad 13), .ref (ad 14), .ref (ad 15), .int (v 5)])
  | 3 => .inr (0, [.ref (ad 18), .ref (ad 19), .int (v 6), .ref (ad 20), .ref (ad 21), .ref (ad 22), .ref (ad 23)])
  | 4 => .inr (2, [.ref (ad 16), .ref (ad 24), .ref (ad 25), .ref (ad 26), .ref (ad 27), .long (w 0)])
  | 17 => .inl (cy 3, 4, .inr (.inr (.inr (.inr (fun i => if i < 4 then some (ad (i + 28)) else none)))))
  | 18 => .inl (cy 4, 10, .inr (.inr (.inr (.inr (fun i => if i < 10 then some (ad (i + 32)) else none)))))
  | 19 => .inl (cy 4, 10, .inr (.inr (.inr (.inr (fun i => if i < 10 then some (ad (i + 42)) else none)))))
  | _ => .inl (cy 0, 0, .inl (fun _ => 0))
def ob2 (cy : Nat → ClassId) (ad : Nat → Nat) (v : Nat → Int32) (w : Nat → Int64) : Nat → va_E := fun k => match k with
  | 0 => .inr (5, [.ref (ad 1), .ref (ad 2), .ref (ad 3), .ref (ad 4), .ref (ad 5), .ref (ad 6), .int (v 0), .ref (ad 7), .ref (ad 8), .ref (ad 9), .ref (ad 10), .int (v 1), .ref (ad 11), .int (v 2), .ref (ad 12), .int (v 3), .ref (ad 13), .ref (ad 14), .ref (ad 15), .long (w 0), .long (w 1)])
  | _ => .inl (cy 0, 0, .inl (fun _ => 0))
abbrev g1 (cy : Nat → ClassId) (ad : Nat → Nat) (z : gS) : Nat → va_E := gE kd1 ln1 cy (ob1 cy ad) z
abbrev g2 (cy : Nat → ClassId) (ad : Nat → Nat) (z : gS) : Nat → va_E := gE kd2 ln2 cy (ob2 cy ad) z
theorem e_g1_0 (cy : Nat → ClassId) (ad : Nat → Nat) (z : gS) : g1 cy ad z 0 = .inr (4, [.ref (ad 1), .ref (ad 2), .ref (ad 3), .ref (ad 4), .int (z.1 0)]) := gE_0 rfl
theorem e_g1_1 (cy : Nat → ClassId) (ad : Nat → Nat) (z : gS) : g1 cy ad z 1 = .inr (3, [.int (z.1 1), .ref (ad 5), .ref (ad 6), .ref (ad 7), .ref (ad 8), .int (z.1 2), .ref (ad 9), .ref (ad 10), .ref (ad 11), .ref (ad 17)]) := gE_0 rfl
theorem e_g1_2 (cy : Nat → ClassId) (ad : Nat → Nat) (z : gS) : g1 cy ad z 2 = .inr (1, [.ref (ad 12), .int (z.1 3), .int (z.1 4), .ref (ad 13), .ref (ad 14), .ref (ad 15), .int (z.1 5)]) := gE_0 rfl
theorem e_g1_3 (cy : Nat → ClassId) (ad : Nat → Nat) (z : gS) : g1 cy ad z 3 = .inr (0, [.ref (ad 18), .ref (ad 19), .int (z.1 6), .ref (ad 20), .ref (ad 21), .ref (ad 22), .ref (ad 23)]) := gE_0 rfl
theorem e_g1_4 (cy : Nat → ClassId) (ad : Nat → Nat) (z : gS) : g1 cy ad z 4 = .inr (2, [.ref (ad 16), .ref (ad 24), .ref (ad 25), .ref (ad 26), .ref (ad 27), .long (z.2.1 0)]) := gE_0 rfl
theorem e_g1_17 (cy : Nat → ClassId) (ad : Nat → Nat) (z : gS) : g1 cy ad z 17 = .inl (cy 3, 4, .inr (.inr (.inr (.inr (fun i => if i < 4 then some (ad (i + 28)) else none))))) := gE_0 rfl
theorem e_g1_18 (cy : Nat → ClassId) (ad : Nat → Nat) (z : gS) : g1 cy ad z 18 = .inl (cy 4, 10, .inr (.inr (.inr (.inr (fun i => if i < 10 then some (ad (i + 32)) else none))))) := gE_0 rfl
theorem e_g1_19 (cy : Nat → ClassId) (ad : Nat → Nat) (z : gS) : g1 cy ad z 19 = .inl (cy 4, 10, .inr (.inr (.inr (.inr (fun i => if i < 10 then some (ad (i + 42)) else none))))) := gE_0 rfl
theorem e_g2_0 (cy : Nat → ClassId) (ad : Nat → Nat) (z : gS) : g2 cy ad z 0 = .inr (5, [.ref (ad 1), .ref (ad 2), .ref (ad 3), .ref (ad 4), .ref (ad 5), .ref (ad 6), .int (z.1 0), .ref (ad 7), .ref (ad 8), .ref (ad 9), .ref (ad 10), .int (z.1 1), .ref (ad 11), .int (z.1 2), .ref (ad 12), .int (z.1 3), .ref (ad 13), .ref (ad 14), .ref (ad 15), .long (z.2.1 0), .long (z.2.1 1)]) := gE_0 rfl
theorem up_S_isSealed (cy : Nat → ClassId) (ad : Nat → Nat) (z : gS) (x : Int32) : va_up (g1 cy ad z) 0 (.inr (4, [.ref (ad 1), .ref (ad 2), .ref (ad 3), .ref (ad 4), .int x])) = g1 cy ad (s_i z 0 x) := gE_ui rfl (fun j => match j with
  | 0 => rfl
  | 1 => rfl
  | 2 => rfl
  | 3 => rfl
  | 4 => rfl
  | 5 => rfl
  | 6 => rfl
  | 7 => rfl
  | 8 => rfl
  | 9 => rfl
  | 10 => rfl
  | 11 => rfl
  | 12 => rfl
  | 13 => rfl
  | 14 => rfl
  | 15 => rfl
  | 16 => rfl
  | 17 => rfl
  | 18 => rfl
  | 19 => rfl
  | q + 20 => rfl)
theorem up_T_there (cy : Nat → ClassId) (ad : Nat → Nat) (z : gS) (x : Int32) : va_up (g1 cy ad z) 1 (.inr (3, [.int x, .ref (ad 5), .ref (ad 6), .ref (ad 7), .ref (ad 8), .int (z.1 2), .ref (ad 9), .ref (ad 10), .ref (ad 11), .ref (ad 17)])) = g1 cy ad (s_i z 1 x) := gE_ui rfl (fun j => match j with
  | 0 => rfl
  | 1 => rfl
  | 2 => rfl
  | 3 => rfl
  | 4 => rfl
  | 5 => rfl
  | 6 => rfl
  | 7 => rfl
  | 8 => rfl
  | 9 => rfl
  | 10 => rfl
  | 11 => rfl
  | 12 => rfl
  | 13 => rfl
  | 14 => rfl
  | 15 => rfl
  | 16 => rfl
  | 17 => rfl
  | 18 => rfl
  | 19 => rfl
  | q + 20 => rfl)
theorem up_T_barCount (cy : Nat → ClassId) (ad : Nat → Nat) (z : gS) (x : Int32) : va_up (g1 cy ad z) 1 (.inr (3, [.int (z.1 1), .ref (ad 5), .ref (ad 6), .ref (ad 7), .ref (ad 8), .int x, .ref (ad 9), .ref (ad 10), .ref (ad 11), .ref (ad 17)])) = g1 cy ad (s_i z 2 x) := gE_ui rfl (fun j => match j with
  | 0 => rfl
  | 1 => rfl
  | 2 => rfl
  | 3 => rfl
  | 4 => rfl
  | 5 => rfl
  | 6 => rfl
  | 7 => rfl
  | 8 => rfl
  | 9 => rfl
  | 10 => rfl
  | 11 => rfl
  | 12 => rfl
  | 13 => rfl
  | 14 => rfl
  | 15 => rfl
  | 16 => rfl
  | 17 => rfl
  | 18 => rfl
  | 19 => rfl
  | q + 20 => rfl)
theorem up_N_placed (cy : Nat → ClassId) (ad : Nat → Nat) (z : gS) (x : Int32) : va_up (g1 cy ad z) 2 (.inr (1, [.ref (ad 12), .int x, .int (z.1 4), .ref (ad 13), .ref (ad 14), .ref (ad 15), .int (z.1 5)])) = g1 cy ad (s_i z 3 x) := gE_ui rfl (fun j => match j with
  | 0 => rfl
  | 1 => rfl
  | 2 => rfl
  | 3 => rfl
  | 4 => rfl
  | 5 => rfl
  | 6 => rfl
  | 7 => rfl
  | 8 => rfl
  | 9 => rfl
  | 10 => rfl
  | 11 => rfl
  | 12 => rfl
  | 13 => rfl
  | 14 => rfl
  | 15 => rfl
  | 16 => rfl
  | 17 => rfl
  | 18 => rfl
  | 19 => rfl
  | q + 20 => rfl)
theorem up_N_taken (cy : Nat → ClassId) (ad : Nat → Nat) (z : gS) (x : Int32) : va_up (g1 cy ad z) 2 (.inr (1, [.ref (ad 12), .int (z.1 3), .int x, .ref (ad 13), .ref (ad 14), .ref (ad 15), .int (z.1 5)])) = g1 cy ad (s_i z 4 x) := gE_ui rfl (fun j => match j with
  | 0 => rfl
  | 1 => rfl
  | 2 => rfl
  | 3 => rfl
  | 4 => rfl
  | 5 => rfl
  | 6 => rfl
  | 7 => rfl
  | 8 => rfl
  | 9 => rfl
  | 10 => rfl
  | 11 => rfl
  | 12 => rfl
  | 13 => rfl
  | 14 => rfl
  | 15 => rfl
  | 16 => rfl
  | 17 => rfl
  | 18 => rfl
  | 19 => rfl
  | q + 20 => rfl)
theorem up_N_unknowns (cy : Nat → ClassId) (ad : Nat → Nat) (z : gS) (x : Int32) : va_up (g1 cy ad z) 2 (.inr (1, [.ref (ad 12), .int (z.1 3), .int (z.1 4), .ref (ad 13), .ref (ad 14), .ref (ad 15), .int x])) = g1 cy ad (s_i z 5 x) := gE_ui rfl (fun j => match j with
  | 0 => rfl
  | 1 => rfl
  | 2 => rfl
  | 3 => rfl
  | 4 => rfl
  | 5 => rfl
  | 6 => rfl
  | 7 => rfl
  | 8 => rfl
  | 9 => rfl
  | 10 => rfl
  | 11 => rfl
  | 12 => rfl
  | 13 => rfl
  | 14 => rfl
  | 15 => rfl
  | 16 => rfl
  | 17 => rfl
  | 18 => rfl
  | 19 => rfl
  | q + 20 => rfl)
theorem up_E_size (cy : Nat → ClassId) (ad : Nat → Nat) (z : gS) (x : Int32) : va_up (g1 cy ad z) 3 (.inr (0, [.ref (ad 18), .ref (ad 19), .int x, .ref (ad 20), .ref (ad 21), .ref (ad 22), .ref (ad 23)])) = g1 cy ad (s_i z 6 x) := gE_ui rfl (fun j => match j with
  | 0 => rfl
  | 1 => rfl
  | 2 => rfl
  | 3 => rfl
  | 4 => rfl
  | 5 => rfl
  | 6 => rfl
  | 7 => rfl
  | 8 => rfl
  | 9 => rfl
  | 10 => rfl
  | 11 => rfl
  | 12 => rfl
  | 13 => rfl
  | 14 => rfl
  | 15 => rfl
  | 16 => rfl
  | 17 => rfl
  | 18 => rfl
  | 19 => rfl
  | q + 20 => rfl)
theorem up_R_scale (cy : Nat → ClassId) (ad : Nat → Nat) (z : gS) (x : Int64) : va_up (g1 cy ad z) 4 (.inr (2, [.ref (ad 16), .ref (ad 24), .ref (ad 25), .ref (ad 26), .ref (ad 27), .long x])) = g1 cy ad (s_l z 0 x) := gE_ul rfl (fun j => match j with
  | 0 => rfl
  | 1 => rfl
  | 2 => rfl
  | 3 => rfl
  | 4 => rfl
  | 5 => rfl
  | 6 => rfl
  | 7 => rfl
  | 8 => rfl
  | 9 => rfl
  | 10 => rfl
  | 11 => rfl
  | 12 => rfl
  | 13 => rfl
  | 14 => rfl
  | 15 => rfl
  | 16 => rfl
  | 17 => rfl
  | 18 => rfl
  | 19 => rfl
  | q + 20 => rfl)
theorem up_M_bars (cy : Nat → ClassId) (ad : Nat → Nat) (z : gS) (x : Int32) : va_up (g2 cy ad z) 0 (.inr (5, [.ref (ad 1), .ref (ad 2), .ref (ad 3), .ref (ad 4), .ref (ad 5), .ref (ad 6), .int x, .ref (ad 7), .ref (ad 8), .ref (ad 9), .ref (ad 10), .int (z.1 1), .ref (ad 11), .int (z.1 2), .ref (ad 12), .int (z.1 3), .ref (ad 13), .ref (ad 14), .ref (ad 15), .long (z.2.1 0), .long (z.2.1 1)])) = g2 cy ad (s_i z 0 x) := gE_ui rfl (fun j => match j with
  | 0 => rfl
  | q + 1 => rfl)
theorem up_M_sealed (cy : Nat → ClassId) (ad : Nat → Nat) (z : gS) (x : Int32) : va_up (g2 cy ad z) 0 (.inr (5, [.ref (ad 1), .ref (ad 2), .ref (ad 3), .ref (ad 4), .ref (ad 5), .ref (ad 6), .int (z.1 0), .ref (ad 7), .ref (ad 8), .ref (ad 9), .ref (ad 10), .int x, .ref (ad 11), .int (z.1 2), .ref (ad 12), .int (z.1 3), .ref (ad 13), .ref (ad 14), .ref (ad 15), .long (z.2.1 0), .long (z.2.1 1)])) = g2 cy ad (s_i z 1 x) := gE_ui rfl (fun j => match j with
  | 0 => rfl
  | q + 1 => rfl)
theorem up_M_ordered (cy : Nat → ClassId) (ad : Nat → Nat) (z : gS) (x : Int32) : va_up (g2 cy ad z) 0 (.inr (5, [.ref (ad 1), .ref (ad 2), .ref (ad 3), .ref (ad 4), .ref (ad 5), .ref (ad 6), .int (z.1 0), .ref (ad 7), .ref (ad 8), .ref (ad 9), .ref (ad 10), .int (z.1 1), .ref (ad 11), .int x, .ref (ad 12), .int (z.1 3), .ref (ad 13), .ref (ad 14), .ref (ad 15), .long (z.2.1 0), .long (z.2.1 1)])) = g2 cy ad (s_i z 2 x) := gE_ui rfl (fun j => match j with
  | 0 => rfl
  | q + 1 => rfl)
theorem up_M_unknowns (cy : Nat → ClassId) (ad : Nat → Nat) (z : gS) (x : Int32) : va_up (g2 cy ad z) 0 (.inr (5, [.ref (ad 1), .ref (ad 2), .ref (ad 3), .ref (ad 4), .ref (ad 5), .ref (ad 6), .int (z.1 0), .ref (ad 7), .ref (ad 8), .ref (ad 9), .ref (ad 10), .int (z.1 1), .ref (ad 11), .int (z.1 2), .ref (ad 12), .int x, .ref (ad 13), .ref (ad 14), .ref (ad 15), .long (z.2.1 0), .long (z.2.1 1)])) = g2 cy ad (s_i z 3 x) := gE_ui rfl (fun j => match j with
  | 0 => rfl
  | q + 1 => rfl)
theorem up_M_top (cy : Nat → ClassId) (ad : Nat → Nat) (z : gS) (x : Int64) : va_up (g2 cy ad z) 0 (.inr (5, [.ref (ad 1), .ref (ad 2), .ref (ad 3), .ref (ad 4), .ref (ad 5), .ref (ad 6), .int (z.1 0), .ref (ad 7), .ref (ad 8), .ref (ad 9), .ref (ad 10), .int (z.1 1), .ref (ad 11), .int (z.1 2), .ref (ad 12), .int (z.1 3), .ref (ad 13), .ref (ad 14), .ref (ad 15), .long x, .long (z.2.1 1)])) = g2 cy ad (s_l z 0 x) := gE_ul rfl (fun j => match j with
  | 0 => rfl
  | q + 1 => rfl)
theorem up_M_below (cy : Nat → ClassId) (ad : Nat → Nat) (z : gS) (x : Int64) : va_up (g2 cy ad z) 0 (.inr (5, [.ref (ad 1), .ref (ad 2), .ref (ad 3), .ref (ad 4), .ref (ad 5), .ref (ad 6), .int (z.1 0), .ref (ad 7), .ref (ad 8), .ref (ad 9), .ref (ad 10), .int (z.1 1), .ref (ad 11), .int (z.1 2), .ref (ad 12), .int (z.1 3), .ref (ad 13), .ref (ad 14), .ref (ad 15), .long (z.2.1 0), .long x])) = g2 cy ad (s_l z 1 x) := gE_ul rfl (fun j => match j with
  | 0 => rfl
  | q + 1 => rfl)
theorem r28_lt {i : Int32} (h : ¬ (i < 0 ∨ 4 ≤ i.toNatClampNeg)) : i.toNatClampNeg < 4 := Nat.not_le.mp fun q => h (Or.inr q)
theorem r28n {j : Nat} (h : j < 4) : j + 28 < 52 ∧ kd1 (j + 28) = 1 ∧ ln1 (j + 28) = 10 := by
  refine ⟨by omega, ?_, ?_⟩
  · unfold kd1
    repeat (first | rw [if_neg (by omega)] | rw [if_pos (by omega)])
  · unfold ln1
    repeat (first | rw [if_neg (by omega)] | rw [if_pos (by omega)])
theorem r28 {i : Int32} (h : ¬ (i < 0 ∨ 4 ≤ i.toNatClampNeg)) : i.toNatClampNeg + 28 < 52 ∧ kd1 (i.toNatClampNeg + 28) = 1 ∧ ln1 (i.toNatClampNeg + 28) = 10 := r28n (r28_lt h)
theorem r32_lt {i : Int32} (h : ¬ (i < 0 ∨ 10 ≤ i.toNatClampNeg)) : i.toNatClampNeg < 10 := Nat.not_le.mp fun q => h (Or.inr q)
theorem r32n {j : Nat} (h : j < 10) : j + 32 < 52 ∧ kd1 (j + 32) = 3 ∧ ln1 (j + 32) = 10 := by
  refine ⟨by omega, ?_, ?_⟩
  · unfold kd1
    repeat (first | rw [if_neg (by omega)] | rw [if_pos (by omega)])
  · unfold ln1
    repeat (first | rw [if_neg (by omega)] | rw [if_pos (by omega)])
theorem r32 {i : Int32} (h : ¬ (i < 0 ∨ 10 ≤ i.toNatClampNeg)) : i.toNatClampNeg + 32 < 52 ∧ kd1 (i.toNatClampNeg + 32) = 3 ∧ ln1 (i.toNatClampNeg + 32) = 10 := r32n (r32_lt h)
theorem r42_lt {i : Int32} (h : ¬ (i < 0 ∨ 10 ≤ i.toNatClampNeg)) : i.toNatClampNeg < 10 := Nat.not_le.mp fun q => h (Or.inr q)
theorem r42n {j : Nat} (h : j < 10) : j + 42 < 52 ∧ kd1 (j + 42) = 3 ∧ ln1 (j + 42) = 10 := by
  refine ⟨by omega, ?_, ?_⟩
  · unfold kd1
    repeat (first | rw [if_neg (by omega)] | rw [if_pos (by omega)])
  · unfold ln1
    repeat (first | rw [if_neg (by omega)] | rw [if_pos (by omega)])
theorem r42 {i : Int32} (h : ¬ (i < 0 ∨ 10 ≤ i.toNatClampNeg)) : i.toNatClampNeg + 42 < 52 ∧ kd1 (i.toNatClampNeg + 42) = 3 ∧ ln1 (i.toNatClampNeg + 42) = 10 := r42n (r42_lt h)
def nwC (U : State) : Prop := va_Nw (.methodLinkNest RQ_T 56 y_S_slotOf RQ_S) U ∧ va_Nw (.methodLinkNest RQ_N 87 y_S_slotOf RQ_S) U
theorem nwC_ok : nwOk nwC := ⟨fun s U hW h => ⟨va_Nw.warmM hW h.1, va_Nw.warmM hW h.2⟩, fun s U hv h => ⟨va_Nw.same rfl hv h.1, va_Nw.same rfl hv h.2⟩⟩
def nwM (_ : State) : Prop := True
theorem nwM_ok : nwOk nwM := ⟨fun _ _ _ _ => trivial, fun _ _ _ _ => trivial⟩
section WCP
variable {p : Program} {l : Launch} {e : Env} {R : Room} {s : State} {m : MethodId} {args : Array Value} {below : List Frame} {meth : Method} {c : Code} {H : Heap} {locs : List Loc} {cells slots : Nat} {Q : State → Prop}
variable {cc : ByteArray} {pc : Nat} {ls : Array Slot} {rest : List Value} {D : va_G} {cl : List vw_C} {A : Nat → Prop} {H0 : Heap} {n : Nat} {ad : Nat → Nat} {kd ln : Nat → Nat} {cy : Nat → ClassId} {ob : (Nat → Int32) → (Nat → Int64) → Nat → va_E} {z : gS}
theorem wx_copyl (hexec : p.tables.exec = Jvm.exec) (hb : c.code = cc) (hml : c.maxLocals = ls.size) {own : String} {index : Nat} (hown : s.vm.findClass own = some m.cls) (hlink : (Cond.methodLink own index arraycopyName).before args s = true) (hnat : (Cond.native arraycopyName).before args s = true) (hstat : (Cond.static arraycopyName).before args s = true) (hini : (Cond.initialized "java/lang/System").before args s = true)
    (hK : va_K D cl (gTy cy) s) (hP : va_P D cl (wl n ad (gE kd ln cy ob z)) H) (hD : va_D A (wl n ad (gE kd ln cy ob z))) (hS : va_S A H0 H locs) (k0 k1 : Nat) (hk0 : k0 < n) (hk1 : k1 < n) (hd0 : kd k0 = 3) (hd1 : kd k1 = 3) (N0 N1 : Nat) (hN0 : ln k0 = N0) (hN1 : ln k1 = N1)
    {sp dp nn : Int32} (hh : ¬ (sp < 0 ∨ dp < 0 ∨ nn < 0 ∨ N0 < sp.toNatClampNeg + nn.toNatClampNeg ∨ N1 < dp.toNatClampNeg + nn.toNatClampNeg))
    (hframes : 1 ≤ R.frames) (hlocals : (rest.map fun v => v.category).sum + (nativeFrameWords "java/lang/System" "arraycopy" 5 + 11) ≤ R.locals) (hdg : decode cc pc = .ok (.invokestatic index, 3))
    (kk : ∀ (H1 : Heap) (locs1 : List Loc), va_P D cl (wl n ad (gE kd ln cy ob (s_J z k1 (va_cpy (z.2.2.2 k0) (z.2.2.2 k1) sp.toNatClampNeg dp.toNatClampNeg nn.toNatClampNeg)))) H1 → va_S A H0 H1 locs1 → W p l e R s m args below meth c H1 locs1 cells slots Q (F0 m (pc + 3) ls rest)) : W p l e R s m args below meth c H locs cells slots Q (F0 m pc ls (.int nn :: .int dp :: .ref (ad k1) :: .int sp :: .ref (ad k0) :: rest)) := by
  subst hN0
  subst hN1
  refine va_copyl hexec hb hml hown hlink hnat hstat hini hK hP hD hS k0 k1 2 2 (by rw [wl_get hk0, gE_3 hd0]) (by rw [wl_get hk1, gE_3 hd1]) rfl rfl rfl (fun q => hh (Or.inl q)) (fun q => hh (Or.inr (Or.inl q))) (fun q => hh (Or.inr (Or.inr (Or.inl q)))) (Nat.not_lt.mp fun q => hh (Or.inr (Or.inr (Or.inr (Or.inl q))))) (Nat.not_lt.mp fun q => hh (Or.inr (Or.inr (Or.inr (Or.inr q))))) (fun _ _ => rfl) hframes hlocals hdg (fun H1 locs1 h1 _ h3 => ?_)
  rw [wl_set hk1, gE_u3 hd1] at h1
  exact kk H1 locs1 h1 h3
end WCP
end
section
/-! words of the table, by their places; how many arguments a method takes -/
theorem kw_0 : Cond.selects RQ_S y_S_isBarThere y_S_isBarThere ∈ gt_ws := gt_of 0 (by decide +kernel) (by decide +kernel)
theorem kw_1 : Cond.selects RQ_T y_T_isGood y_T_isGood ∈ gt_ws := gt_of 1 (by decide +kernel) (by decide +kernel)
theorem kw_2 : Cond.selects RQ_T y_T_reach y_T_reach ∈ gt_ws := gt_of 2 (by decide +kernel) (by decide +kernel)
theorem kw_3 : Cond.selects RQ_N y_N_findNeighbours y_N_findNeighbours ∈ gt_ws := gt_of 3 (by decide +kernel) (by decide +kernel)
theorem kw_4 : Cond.selects RQ_N y_N_placeNodes y_N_placeNodes ∈ gt_ws := gt_of 4 (by decide +kernel) (by decide +kernel)
theorem kw_5 : Cond.selects RQ_N y_N_leastJoined y_N_leastJoined ∈ gt_ws := gt_of 5 (by decide +kernel) (by decide +kernel)
theorem kw_6 : Cond.selects RQ_N y_N_append y_N_append ∈ gt_ws := gt_of 6 (by decide +kernel) (by decide +kernel)
theorem kw_7 : Cond.selects RQ_N y_N_appendNeighboursOf y_N_appendNeighboursOf ∈ gt_ws := gt_of 7 (by decide +kernel) (by decide +kernel)
theorem kw_8 : Cond.selects RQ_N y_N_turnRound y_N_turnRound ∈ gt_ws := gt_of 8 (by decide +kernel) (by decide +kernel)
theorem kw_9 : Cond.selects RQ_N y_N_numberSlots y_N_numberSlots ∈ gt_ws := gt_of 9 (by decide +kernel) (by decide +kernel)
theorem kw_10 : Cond.selects RQ_N y_N_numberSlot y_N_numberSlot ∈ gt_ws := gt_of 10 (by decide +kernel) (by decide +kernel)
theorem kw_11 : Cond.selects RQ_E y_E_sumUpStiffness y_E_sumUpStiffness ∈ gt_ws := gt_of 11 (by decide +kernel) (by decide +kernel)
theorem kw_12 : Cond.selects RQ_E y_E_addStiffnessOfBar y_E_addStiffnessOfBar ∈ gt_ws := gt_of 12 (by decide +kernel) (by decide +kernel)
theorem kw_13 : Cond.selects RQ_E y_E_growPolynomial y_E_growPolynomial ∈ gt_ws := gt_of 13 (by decide +kernel) (by decide +kernel)
theorem kw_14 : Cond.selects RQ_E y_E_findGrowth y_E_findGrowth ∈ gt_ws := gt_of 14 (by decide +kernel) (by decide +kernel)
theorem kw_15 : Cond.selects RQ_E y_E_rowTimes y_E_rowTimes ∈ gt_ws := gt_of 15 (by decide +kernel) (by decide +kernel)
theorem kw_16 : Cond.selects RQ_E y_E_multiply y_E_multiply ∈ gt_ws := gt_of 16 (by decide +kernel) (by decide +kernel)
theorem kw_17 : Cond.selects RQ_S y_S_isAnswerable y_S_isAnswerable ∈ gt_ws := gt_of 17 (by decide +kernel) (by decide +kernel)
theorem kw_18 : Cond.selects RQ_S y_S_isNodeThere y_S_isNodeThere ∈ gt_ws := gt_of 18 (by decide +kernel) (by decide +kernel)
theorem kw_19 : Cond.selects RQ_R y_R_sumUpLoads y_R_sumUpLoads ∈ gt_ws := gt_of 19 (by decide +kernel) (by decide +kernel)
theorem kw_20 : Cond.selects RQ_R y_R_moveHeldSlots y_R_moveHeldSlots ∈ gt_ws := gt_of 20 (by decide +kernel) (by decide +kernel)
theorem kw_21 : Cond.selects RQ_R y_R_heldDisplacement y_R_heldDisplacement ∈ gt_ws := gt_of 21 (by decide +kernel) (by decide +kernel)
theorem kw_22 : Cond.selects RQ_R y_R_findRightSide y_R_findRightSide ∈ gt_ws := gt_of 22 (by decide +kernel) (by decide +kernel)
theorem kw_23 : Cond.selects RQ_S y_S_partOfFraction y_S_partOfFraction ∈ gt_ws := gt_of 23 (by decide +kernel) (by decide +kernel)
theorem kw_24 : Cond.selects RQ_M y_M_off y_M_off ∈ gt_ws := gt_of 24 (by decide +kernel) (by decide +kernel)
theorem kw_25 : Cond.selects RQ_M y_M_makeOrder y_M_makeOrder ∈ gt_ws := gt_of 25 (by decide +kernel) (by decide +kernel)
theorem kw_26 : Cond.selects RQ_M y_M_candidate y_M_candidate ∈ gt_ws := gt_of 26 (by decide +kernel) (by decide +kernel)
theorem kw_27 : Cond.selects RQ_M y_M_inOrder y_M_inOrder ∈ gt_ws := gt_of 27 (by decide +kernel) (by decide +kernel)
theorem kw_28 : Cond.selects RQ_M y_M_joined y_M_joined ∈ gt_ws := gt_of 28 (by decide +kernel) (by decide +kernel)
theorem kw_29 : Cond.selects RQ_M y_M_neighbours y_M_neighbours ∈ gt_ws := gt_of 29 (by decide +kernel) (by decide +kernel)
theorem kw_30 : Cond.selects RQ_M y_M_append y_M_append ∈ gt_ws := gt_of 30 (by decide +kernel) (by decide +kernel)
theorem kw_31 : Cond.selects RQ_M y_M_good y_M_good ∈ gt_ws := gt_of 31 (by decide +kernel) (by decide +kernel)
theorem kw_32 : Cond.selects RQ_M y_M_makeMatrix y_M_makeMatrix ∈ gt_ws := gt_of 32 (by decide +kernel) (by decide +kernel)
theorem kw_33 : Cond.selects RQ_M y_M_way y_M_way ∈ gt_ws := gt_of 33 (by decide +kernel) (by decide +kernel)
theorem kw_34 : Cond.selects RQ_M y_M_sign y_M_sign ∈ gt_ws := gt_of 34 (by decide +kernel) (by decide +kernel)
theorem kw_35 : Cond.selects RQ_M y_M_det y_M_det ∈ gt_ws := gt_of 35 (by decide +kernel) (by decide +kernel)
theorem kw_36 : Cond.selects RQ_M y_M_modulo y_M_modulo ∈ gt_ws := gt_of 36 (by decide +kernel) (by decide +kernel)
theorem kw_37 : Cond.selects RQ_M y_M_exchange y_M_exchange ∈ gt_ws := gt_of 37 (by decide +kernel) (by decide +kernel)
theorem kw_38 : Cond.selects RQ_M y_M_clear y_M_clear ∈ gt_ws := gt_of 38 (by decide +kernel) (by decide +kernel)
theorem kw_39 : Cond.selects RQ_M y_M_powered y_M_powered ∈ gt_ws := gt_of 39 (by decide +kernel) (by decide +kernel)
theorem kw_40 : Cond.selects RQ_M y_M_moved y_M_moved ∈ gt_ws := gt_of 40 (by decide +kernel) (by decide +kernel)
theorem kw_41 : Cond.selects RQ_M y_M_loadOf y_M_loadOf ∈ gt_ws := gt_of 41 (by decide +kernel) (by decide +kernel)
theorem kw_42 : Cond.selects RQ_M y_M_fixedOf y_M_fixedOf ∈ gt_ws := gt_of 42 (by decide +kernel) (by decide +kernel)
theorem kw_43 : Cond.selects RQ_M y_M_fraction y_M_fraction ∈ gt_ws := gt_of 43 (by decide +kernel) (by decide +kernel)
theorem kw_44 : Cond.selects RQ_M y_M_pull y_M_pull ∈ gt_ws := gt_of 44 (by decide +kernel) (by decide +kernel)
theorem kw_45 : Cond.selects RQ_M y_M_profile y_M_profile ∈ gt_ws := gt_of 45 (by decide +kernel) (by decide +kernel)
theorem kw_47 : Cond.initialized RQ_S ∈ gt_ws := gt_of 47 (by decide +kernel) (by decide +kernel)
theorem kw_48 : Cond.initialized RQ_T ∈ gt_ws := gt_of 48 (by decide +kernel) (by decide +kernel)
theorem kw_49 : Cond.initialized RQ_N ∈ gt_ws := gt_of 49 (by decide +kernel) (by decide +kernel)
theorem kw_50 : Cond.initialized RQ_E ∈ gt_ws := gt_of 50 (by decide +kernel) (by decide +kernel)
theorem kw_51 : Cond.initialized RQ_R ∈ gt_ws := gt_of 51 (by decide +kernel) (by decide +kernel)
theorem kw_52 : Cond.initialized RQ_M ∈ gt_ws := gt_of 52 (by decide +kernel) (by decide +kernel)
theorem kw_53 : Cond.initialized RQ_JI ∈ gt_ws := gt_of 53 (by decide +kernel) (by decide +kernel)
theorem kw_54 : Cond.initialized RQ_JM ∈ gt_ws := gt_of 54 (by decide +kernel) (by decide +kernel)
theorem kw_55 : Cond.initialized RQ_JA ∈ gt_ws := gt_of 55 (by decide +kernel) (by decide +kernel)
theorem kw_56 : Cond.initialized RQ_JS ∈ gt_ws := gt_of 56 (by decide +kernel) (by decide +kernel)
theorem kw_73 : Cond.fieldLink RQ_T 9 "TrussSolver$Truss" "there" "I" ∈ gt_ws := gt_of 73 (by decide +kernel) (by decide +kernel)
theorem kw_74 : Cond.fieldLink RQ_N 68 "TrussSolver$Truss" "there" "I" ∈ gt_ws := gt_of 74 (by decide +kernel) (by decide +kernel)
theorem kw_75 : Cond.fieldLink RQ_T 15 "TrussSolver$Truss" "points" "[I" ∈ gt_ws := gt_of 75 (by decide +kernel) (by decide +kernel)
theorem kw_76 : Cond.fieldLink RQ_T 19 "TrussSolver$Truss" "firstNodes" "[I" ∈ gt_ws := gt_of 76 (by decide +kernel) (by decide +kernel)
theorem kw_77 : Cond.fieldLink RQ_N 58 "TrussSolver$Truss" "firstNodes" "[I" ∈ gt_ws := gt_of 77 (by decide +kernel) (by decide +kernel)
theorem kw_78 : Cond.fieldLink RQ_T 22 "TrussSolver$Truss" "secondNodes" "[I" ∈ gt_ws := gt_of 78 (by decide +kernel) (by decide +kernel)
theorem kw_79 : Cond.fieldLink RQ_N 61 "TrussSolver$Truss" "secondNodes" "[I" ∈ gt_ws := gt_of 79 (by decide +kernel) (by decide +kernel)
theorem kw_80 : Cond.fieldLink RQ_T 25 "TrussSolver$Truss" "stiffnesses" "[I" ∈ gt_ws := gt_of 80 (by decide +kernel) (by decide +kernel)
theorem kw_81 : Cond.fieldLink RQ_E 67 "TrussSolver$Truss" "stiffnesses" "[I" ∈ gt_ws := gt_of 81 (by decide +kernel) (by decide +kernel)
theorem kw_82 : Cond.fieldLink RQ_R 86 "TrussSolver$Truss" "stiffnesses" "[I" ∈ gt_ws := gt_of 82 (by decide +kernel) (by decide +kernel)
theorem kw_83 : Cond.fieldLink RQ_T 28 "TrussSolver$Truss" "barCount" "I" ∈ gt_ws := gt_of 83 (by decide +kernel) (by decide +kernel)
theorem kw_84 : Cond.fieldLink RQ_N 53 "TrussSolver$Truss" "barCount" "I" ∈ gt_ws := gt_of 84 (by decide +kernel) (by decide +kernel)
theorem kw_85 : Cond.fieldLink RQ_E 60 "TrussSolver$Truss" "barCount" "I" ∈ gt_ws := gt_of 85 (by decide +kernel) (by decide +kernel)
theorem kw_86 : Cond.fieldLink RQ_S 56 "TrussSolver$Truss" "barCount" "I" ∈ gt_ws := gt_of 86 (by decide +kernel) (by decide +kernel)
theorem kw_88 : Cond.fieldLink RQ_S 78 "TrussSolver$Truss" "held" "[Z" ∈ gt_ws := gt_of 88 (by decide +kernel) (by decide +kernel)
theorem kw_89 : Cond.fieldLink RQ_R 67 "TrussSolver$Truss" "held" "[Z" ∈ gt_ws := gt_of 89 (by decide +kernel) (by decide +kernel)
theorem kw_90 : Cond.fieldLink RQ_N 95 "TrussSolver$Truss" "held" "[Z" ∈ gt_ws := gt_of 90 (by decide +kernel) (by decide +kernel)
theorem kw_92 : Cond.fieldLink RQ_S 82 "TrussSolver$Truss" "heldAt" "[I" ∈ gt_ws := gt_of 92 (by decide +kernel) (by decide +kernel)
theorem kw_93 : Cond.fieldLink RQ_R 75 "TrussSolver$Truss" "heldAt" "[I" ∈ gt_ws := gt_of 93 (by decide +kernel) (by decide +kernel)
theorem kw_95 : Cond.fieldLink RQ_E 55 "TrussSolver$Truss" "springs" "[I" ∈ gt_ws := gt_of 95 (by decide +kernel) (by decide +kernel)
theorem kw_96 : Cond.fieldLink RQ_S 86 "TrussSolver$Truss" "springs" "[I" ∈ gt_ws := gt_of 96 (by decide +kernel) (by decide +kernel)
theorem kw_98 : Cond.fieldLink RQ_R 62 "TrussSolver$Truss" "loads" "[[I" ∈ gt_ws := gt_of 98 (by decide +kernel) (by decide +kernel)
theorem kw_99 : Cond.fieldLink RQ_S 92 "TrussSolver$Truss" "loads" "[[I" ∈ gt_ws := gt_of 99 (by decide +kernel) (by decide +kernel)
theorem kw_129 : Cond.fieldLink RQ_N 9 "TrussSolver$Numbering" "nodes" "[I" ∈ gt_ws := gt_of 129 (by decide +kernel) (by decide +kernel)
theorem kw_130 : Cond.fieldLink RQ_S 157 "TrussSolver$Numbering" "nodes" "[I" ∈ gt_ws := gt_of 130 (by decide +kernel) (by decide +kernel)
theorem kw_131 : Cond.fieldLink RQ_N 15 "TrussSolver$Numbering" "placed" "I" ∈ gt_ws := gt_of 131 (by decide +kernel) (by decide +kernel)
theorem kw_132 : Cond.fieldLink RQ_S 154 "TrussSolver$Numbering" "placed" "I" ∈ gt_ws := gt_of 132 (by decide +kernel) (by decide +kernel)
theorem kw_133 : Cond.fieldLink RQ_N 19 "TrussSolver$Numbering" "taken" "I" ∈ gt_ws := gt_of 133 (by decide +kernel) (by decide +kernel)
theorem kw_134 : Cond.fieldLink RQ_N 22 "TrussSolver$Numbering" "neighbours" "[I" ∈ gt_ws := gt_of 134 (by decide +kernel) (by decide +kernel)
theorem kw_135 : Cond.fieldLink RQ_N 25 "TrussSolver$Numbering" "unknownAt" "[I" ∈ gt_ws := gt_of 135 (by decide +kernel) (by decide +kernel)
theorem kw_136 : Cond.fieldLink RQ_S 163 "TrussSolver$Numbering" "unknownAt" "[I" ∈ gt_ws := gt_of 136 (by decide +kernel) (by decide +kernel)
theorem kw_137 : Cond.fieldLink RQ_N 28 "TrussSolver$Numbering" "slotOfUnknown" "[I" ∈ gt_ws := gt_of 137 (by decide +kernel) (by decide +kernel)
theorem kw_138 : Cond.fieldLink RQ_E 45 "TrussSolver$Numbering" "slotOfUnknown" "[I" ∈ gt_ws := gt_of 138 (by decide +kernel) (by decide +kernel)
theorem kw_139 : Cond.fieldLink RQ_R 59 "TrussSolver$Numbering" "slotOfUnknown" "[I" ∈ gt_ws := gt_of 139 (by decide +kernel) (by decide +kernel)
theorem kw_140 : Cond.fieldLink RQ_N 31 "TrussSolver$Numbering" "unknowns" "I" ∈ gt_ws := gt_of 140 (by decide +kernel) (by decide +kernel)
theorem kw_141 : Cond.fieldLink RQ_E 40 "TrussSolver$Numbering" "unknowns" "I" ∈ gt_ws := gt_of 141 (by decide +kernel) (by decide +kernel)
theorem kw_142 : Cond.fieldLink RQ_R 53 "TrussSolver$Numbering" "unknowns" "I" ∈ gt_ws := gt_of 142 (by decide +kernel) (by decide +kernel)
theorem kw_143 : Cond.fieldLink RQ_S 113 "TrussSolver$Numbering" "unknowns" "I" ∈ gt_ws := gt_of 143 (by decide +kernel) (by decide +kernel)
theorem kw_167 : Cond.fieldLink RQ_E 11 "TrussSolver$Equations" "stiffness" "[[J" ∈ gt_ws := gt_of 167 (by decide +kernel) (by decide +kernel)
theorem kw_168 : Cond.fieldLink RQ_R 78 "TrussSolver$Equations" "stiffness" "[[J" ∈ gt_ws := gt_of 168 (by decide +kernel) (by decide +kernel)
theorem kw_169 : Cond.fieldLink RQ_E 16 "TrussSolver$Equations" "matrix" "[[J" ∈ gt_ws := gt_of 169 (by decide +kernel) (by decide +kernel)
theorem kw_170 : Cond.fieldLink RQ_E 19 "TrussSolver$Equations" "size" "I" ∈ gt_ws := gt_of 170 (by decide +kernel) (by decide +kernel)
theorem kw_171 : Cond.fieldLink RQ_E 23 "TrussSolver$Equations" "polynomial" "[J" ∈ gt_ws := gt_of 171 (by decide +kernel) (by decide +kernel)
theorem kw_172 : Cond.fieldLink RQ_E 27 "TrussSolver$Equations" "growth" "[J" ∈ gt_ws := gt_of 172 (by decide +kernel) (by decide +kernel)
theorem kw_173 : Cond.fieldLink RQ_E 30 "TrussSolver$Equations" "column" "[J" ∈ gt_ws := gt_of 173 (by decide +kernel) (by decide +kernel)
theorem kw_174 : Cond.fieldLink RQ_E 33 "TrussSolver$Equations" "image" "[J" ∈ gt_ws := gt_of 174 (by decide +kernel) (by decide +kernel)
theorem kw_197 : Cond.fieldLink RQ_R 9 "TrussSolver$Response" "factors" "[I" ∈ gt_ws := gt_of 197 (by decide +kernel) (by decide +kernel)
theorem kw_198 : Cond.fieldLink RQ_R 15 "TrussSolver$Response" "loads" "[J" ∈ gt_ws := gt_of 198 (by decide +kernel) (by decide +kernel)
theorem kw_199 : Cond.fieldLink RQ_R 19 "TrussSolver$Response" "numerators" "[J" ∈ gt_ws := gt_of 199 (by decide +kernel) (by decide +kernel)
theorem kw_200 : Cond.fieldLink RQ_S 128 "TrussSolver$Response" "numerators" "[J" ∈ gt_ws := gt_of 200 (by decide +kernel) (by decide +kernel)
theorem kw_201 : Cond.fieldLink RQ_R 22 "TrussSolver$Response" "rightSide" "[J" ∈ gt_ws := gt_of 201 (by decide +kernel) (by decide +kernel)
theorem kw_202 : Cond.fieldLink RQ_R 25 "TrussSolver$Response" "scaled" "[J" ∈ gt_ws := gt_of 202 (by decide +kernel) (by decide +kernel)
theorem kw_203 : Cond.fieldLink RQ_R 28 "TrussSolver$Response" "scale" "J" ∈ gt_ws := gt_of 203 (by decide +kernel) (by decide +kernel)
theorem kw_217 : Cond.fieldLink RQ_S 12 "TrussSolver" "truss" "LTrussSolver$Truss;" ∈ gt_ws := gt_of 217 (by decide +kernel) (by decide +kernel)
theorem kw_218 : Cond.fieldLink RQ_S 19 "TrussSolver" "numbering" "LTrussSolver$Numbering;" ∈ gt_ws := gt_of 218 (by decide +kernel) (by decide +kernel)
theorem kw_219 : Cond.fieldLink RQ_S 26 "TrussSolver" "equations" "LTrussSolver$Equations;" ∈ gt_ws := gt_of 219 (by decide +kernel) (by decide +kernel)
theorem kw_220 : Cond.fieldLink RQ_S 33 "TrussSolver" "response" "LTrussSolver$Response;" ∈ gt_ws := gt_of 220 (by decide +kernel) (by decide +kernel)
theorem kw_221 : Cond.fieldLink RQ_S 37 "TrussSolver" "isSealed" "Z" ∈ gt_ws := gt_of 221 (by decide +kernel) (by decide +kernel)
theorem kw_237 : Cond.methodLink RQ_S 41 y_S_isNode ∈ gt_ws := gt_of 237 (by decide +kernel) (by decide +kernel)
theorem kw_238 : Cond.static y_S_isNode ∈ gt_ws := gt_of 238 (by decide +kernel) (by decide +kernel)
theorem kw_239 : Cond.code y_S_isNode c_S_isNode 1 (some .boolean) ∈ gt_ws := gt_of 239 (by decide +kernel) (by decide +kernel)
theorem kw_240 : Cond.methodLink RQ_S 45 y_S_isOnGrid ∈ gt_ws := gt_of 240 (by decide +kernel) (by decide +kernel)
theorem kw_241 : Cond.static y_S_isOnGrid ∈ gt_ws := gt_of 241 (by decide +kernel) (by decide +kernel)
theorem kw_242 : Cond.code y_S_isOnGrid c_S_isOnGrid 1 (some .boolean) ∈ gt_ws := gt_of 242 (by decide +kernel) (by decide +kernel)
theorem kw_243 : Cond.methodLink RQ_S 48 y_T_hasOtherAt ∈ gt_ws := gt_of 243 (by decide +kernel) (by decide +kernel)
theorem kw_244 : Cond.instanceMethod y_T_hasOtherAt ∈ gt_ws := gt_of 244 (by decide +kernel) (by decide +kernel)
theorem kw_245 : Cond.selects RQ_T y_T_hasOtherAt y_T_hasOtherAt ∈ gt_ws := gt_of 245 (by decide +kernel) (by decide +kernel)
theorem kw_246 : Cond.code y_T_hasOtherAt c_T_hasOtherAt 5 (some .boolean) ∈ gt_ws := gt_of 246 (by decide +kernel) (by decide +kernel)
theorem kw_247 : Cond.methodLink RQ_T 52 y_T_isThere ∈ gt_ws := gt_of 247 (by decide +kernel) (by decide +kernel)
theorem kw_248 : Cond.instanceMethod y_T_isThere ∈ gt_ws := gt_of 248 (by decide +kernel) (by decide +kernel)
theorem kw_249 : Cond.selects RQ_T y_T_isThere y_T_isThere ∈ gt_ws := gt_of 249 (by decide +kernel) (by decide +kernel)
theorem kw_250 : Cond.code y_T_isThere c_T_isThere 2 (some .boolean) ∈ gt_ws := gt_of 250 (by decide +kernel) (by decide +kernel)
theorem kw_252 : Cond.static y_S_slotOf ∈ gt_ws := gt_of 252 (by decide +kernel) (by decide +kernel)
theorem kw_253 : Cond.code y_S_slotOf c_S_slotOf 2 (some .int) ∈ gt_ws := gt_of 253 (by decide +kernel) (by decide +kernel)
theorem kw_254 : Cond.methodLink RQ_S 52 y_T_putNode ∈ gt_ws := gt_of 254 (by decide +kernel) (by decide +kernel)
theorem kw_255 : Cond.instanceMethod y_T_putNode ∈ gt_ws := gt_of 255 (by decide +kernel) (by decide +kernel)
theorem kw_256 : Cond.selects RQ_T y_T_putNode y_T_putNode ∈ gt_ws := gt_of 256 (by decide +kernel) (by decide +kernel)
theorem kw_257 : Cond.code y_T_putNode c_T_putNode 4 none ∈ gt_ws := gt_of 257 (by decide +kernel) (by decide +kernel)
theorem kw_262 : Cond.methodLink RQ_S 60 y_T_addBar ∈ gt_ws := gt_of 262 (by decide +kernel) (by decide +kernel)
theorem kw_263 : Cond.instanceMethod y_T_addBar ∈ gt_ws := gt_of 263 (by decide +kernel) (by decide +kernel)
theorem kw_264 : Cond.selects RQ_T y_T_addBar y_T_addBar ∈ gt_ws := gt_of 264 (by decide +kernel) (by decide +kernel)
theorem kw_265 : Cond.code y_T_addBar c_T_addBar 5 (some .int) ∈ gt_ws := gt_of 265 (by decide +kernel) (by decide +kernel)
theorem kw_270 : Cond.methodLink RQ_S 64 y_S_isBarThere ∈ gt_ws := gt_of 270 (by decide +kernel) (by decide +kernel)
theorem kw_272 : Cond.instanceMethod y_S_isBarThere ∈ gt_ws := gt_of 272 (by decide +kernel) (by decide +kernel)
theorem kw_273 : Cond.code y_S_isBarThere c_S_isBarThere 2 (some .boolean) ∈ gt_ws := gt_of 273 (by decide +kernel) (by decide +kernel)
theorem kw_274 : Cond.methodLink RQ_S 67 y_T_removeBar ∈ gt_ws := gt_of 274 (by decide +kernel) (by decide +kernel)
theorem kw_275 : Cond.instanceMethod y_T_removeBar ∈ gt_ws := gt_of 275 (by decide +kernel) (by decide +kernel)
theorem kw_276 : Cond.selects RQ_T y_T_removeBar y_T_removeBar ∈ gt_ws := gt_of 276 (by decide +kernel) (by decide +kernel)
theorem kw_277 : Cond.code y_T_removeBar c_T_removeBar 3 none ∈ gt_ws := gt_of 277 (by decide +kernel) (by decide +kernel)
theorem kw_282 : Cond.methodLink RQ_S 71 y_S_isDirection ∈ gt_ws := gt_of 282 (by decide +kernel) (by decide +kernel)
theorem kw_283 : Cond.static y_S_isDirection ∈ gt_ws := gt_of 283 (by decide +kernel) (by decide +kernel)
theorem kw_284 : Cond.code y_S_isDirection c_S_isDirection 1 (some .boolean) ∈ gt_ws := gt_of 284 (by decide +kernel) (by decide +kernel)
theorem kw_285 : Cond.methodLink RQ_S 74 y_S_slotOf ∈ gt_ws := gt_of 285 (by decide +kernel) (by decide +kernel)
theorem kw_294 : Cond.methodLink RQ_S 89 y_S_isCase ∈ gt_ws := gt_of 294 (by decide +kernel) (by decide +kernel)
theorem kw_295 : Cond.static y_S_isCase ∈ gt_ws := gt_of 295 (by decide +kernel) (by decide +kernel)
theorem kw_296 : Cond.code y_S_isCase c_S_isCase 1 (some .boolean) ∈ gt_ws := gt_of 296 (by decide +kernel) (by decide +kernel)
theorem kw_301 : Cond.methodLink RQ_S 96 y_T_nodeCount ∈ gt_ws := gt_of 301 (by decide +kernel) (by decide +kernel)
theorem kw_302 : Cond.instanceMethod y_T_nodeCount ∈ gt_ws := gt_of 302 (by decide +kernel) (by decide +kernel)
theorem kw_303 : Cond.selects RQ_T y_T_nodeCount y_T_nodeCount ∈ gt_ws := gt_of 303 (by decide +kernel) (by decide +kernel)
theorem kw_304 : Cond.code y_T_nodeCount c_T_nodeCount 1 (some .int) ∈ gt_ws := gt_of 304 (by decide +kernel) (by decide +kernel)
theorem kw_305 : Cond.methodLink RQ_T 46 y_J_bitCount ∈ gt_ws := gt_of 305 (by decide +kernel) (by decide +kernel)
theorem kw_306 : Cond.static y_J_bitCount ∈ gt_ws := gt_of 306 (by decide +kernel) (by decide +kernel)
theorem kw_307 : Cond.code y_J_bitCount c_J_bitCount 1 (some .int) ∈ gt_ws := gt_of 307 (by decide +kernel) (by decide +kernel)
theorem kw_308 : Cond.constant RQ_JI 265 (1431655765) ∈ gt_ws := gt_of 308 (by decide +kernel) (by decide +kernel)
theorem kw_309 : Cond.constant RQ_JI 266 (858993459) ∈ gt_ws := gt_of 309 (by decide +kernel) (by decide +kernel)
theorem kw_310 : Cond.constant RQ_JI 267 (252645135) ∈ gt_ws := gt_of 310 (by decide +kernel) (by decide +kernel)
theorem kw_311 : Cond.methodLink RQ_S 100 y_T_firstBadBar ∈ gt_ws := gt_of 311 (by decide +kernel) (by decide +kernel)
theorem kw_312 : Cond.instanceMethod y_T_firstBadBar ∈ gt_ws := gt_of 312 (by decide +kernel) (by decide +kernel)
theorem kw_313 : Cond.selects RQ_T y_T_firstBadBar y_T_firstBadBar ∈ gt_ws := gt_of 313 (by decide +kernel) (by decide +kernel)
theorem kw_314 : Cond.code y_T_firstBadBar c_T_firstBadBar 2 (some .int) ∈ gt_ws := gt_of 314 (by decide +kernel) (by decide +kernel)
theorem kw_315 : Cond.methodLink RQ_T 60 y_T_isGood ∈ gt_ws := gt_of 315 (by decide +kernel) (by decide +kernel)
theorem kw_317 : Cond.instanceMethod y_T_isGood ∈ gt_ws := gt_of 317 (by decide +kernel) (by decide +kernel)
theorem kw_318 : Cond.code y_T_isGood c_T_isGood 4 (some .boolean) ∈ gt_ws := gt_of 318 (by decide +kernel) (by decide +kernel)
theorem kw_319 : Cond.methodLink RQ_T 63 y_T_reach ∈ gt_ws := gt_of 319 (by decide +kernel) (by decide +kernel)
theorem kw_321 : Cond.instanceMethod y_T_reach ∈ gt_ws := gt_of 321 (by decide +kernel) (by decide +kernel)
theorem kw_322 : Cond.code y_T_reach c_T_reach 3 (some .int) ∈ gt_ws := gt_of 322 (by decide +kernel) (by decide +kernel)
theorem kw_323 : Cond.methodLink RQ_T 66 (⟨"java/lang/Math", "abs", "(I)I"⟩ : MethodName) ∈ gt_ws := gt_of 323 (by decide +kernel) (by decide +kernel)
theorem kw_324 : Cond.static (⟨"java/lang/Math", "abs", "(I)I"⟩ : MethodName) ∈ gt_ws := gt_of 324 (by decide +kernel) (by decide +kernel)
theorem kw_325 : Cond.code (⟨"java/lang/Math", "abs", "(I)I"⟩ : MethodName) prog_9_method_59_code 1 (some .int) ∈ gt_ws := gt_of 325 (by decide +kernel) (by decide +kernel)
theorem kw_326 : Cond.methodLink RQ_S 103 y_N_make ∈ gt_ws := gt_of 326 (by decide +kernel) (by decide +kernel)
theorem kw_327 : Cond.instanceMethod y_N_make ∈ gt_ws := gt_of 327 (by decide +kernel) (by decide +kernel)
theorem kw_328 : Cond.selects RQ_N y_N_make y_N_make ∈ gt_ws := gt_of 328 (by decide +kernel) (by decide +kernel)
theorem kw_329 : Cond.code y_N_make c_N_make 2 none ∈ gt_ws := gt_of 329 (by decide +kernel) (by decide +kernel)
theorem kw_330 : Cond.methodLink RQ_N 34 y_N_findNeighbours ∈ gt_ws := gt_of 330 (by decide +kernel) (by decide +kernel)
theorem kw_332 : Cond.instanceMethod y_N_findNeighbours ∈ gt_ws := gt_of 332 (by decide +kernel) (by decide +kernel)
theorem kw_333 : Cond.code y_N_findNeighbours c_N_findNeighbours 5 none ∈ gt_ws := gt_of 333 (by decide +kernel) (by decide +kernel)
theorem kw_334 : Cond.methodLink RQ_N 47 y_J_fillI ∈ gt_ws := gt_of 334 (by decide +kernel) (by decide +kernel)
theorem kw_335 : Cond.static y_J_fillI ∈ gt_ws := gt_of 335 (by decide +kernel) (by decide +kernel)
theorem kw_336 : Cond.code y_J_fillI c_J_fillI 4 none ∈ gt_ws := gt_of 336 (by decide +kernel) (by decide +kernel)
theorem kw_337 : Cond.methodLink RQ_N 38 y_N_placeNodes ∈ gt_ws := gt_of 337 (by decide +kernel) (by decide +kernel)
theorem kw_339 : Cond.instanceMethod y_N_placeNodes ∈ gt_ws := gt_of 339 (by decide +kernel) (by decide +kernel)
theorem kw_340 : Cond.code y_N_placeNodes c_N_placeNodes 4 none ∈ gt_ws := gt_of 340 (by decide +kernel) (by decide +kernel)
theorem kw_341 : Cond.methodLink RQ_N 64 y_T_nodeCount ∈ gt_ws := gt_of 341 (by decide +kernel) (by decide +kernel)
theorem kw_342 : Cond.methodLink RQ_N 71 y_N_leastJoined ∈ gt_ws := gt_of 342 (by decide +kernel) (by decide +kernel)
theorem kw_344 : Cond.instanceMethod y_N_leastJoined ∈ gt_ws := gt_of 344 (by decide +kernel) (by decide +kernel)
theorem kw_345 : Cond.code y_N_leastJoined c_N_leastJoined 6 (some .int) ∈ gt_ws := gt_of 345 (by decide +kernel) (by decide +kernel)
theorem kw_346 : Cond.methodLink RQ_N 82 y_J_bitCount ∈ gt_ws := gt_of 346 (by decide +kernel) (by decide +kernel)
theorem kw_347 : Cond.methodLink RQ_N 75 y_N_append ∈ gt_ws := gt_of 347 (by decide +kernel) (by decide +kernel)
theorem kw_349 : Cond.instanceMethod y_N_append ∈ gt_ws := gt_of 349 (by decide +kernel) (by decide +kernel)
theorem kw_350 : Cond.code y_N_append c_N_append 2 none ∈ gt_ws := gt_of 350 (by decide +kernel) (by decide +kernel)
theorem kw_351 : Cond.methodLink RQ_N 79 y_N_appendNeighboursOf ∈ gt_ws := gt_of 351 (by decide +kernel) (by decide +kernel)
theorem kw_353 : Cond.instanceMethod y_N_appendNeighboursOf ∈ gt_ws := gt_of 353 (by decide +kernel) (by decide +kernel)
theorem kw_354 : Cond.code y_N_appendNeighboursOf c_N_appendNeighboursOf 4 none ∈ gt_ws := gt_of 354 (by decide +kernel) (by decide +kernel)
theorem kw_355 : Cond.methodLink RQ_N 41 y_N_turnRound ∈ gt_ws := gt_of 355 (by decide +kernel) (by decide +kernel)
theorem kw_357 : Cond.instanceMethod y_N_turnRound ∈ gt_ws := gt_of 357 (by decide +kernel) (by decide +kernel)
theorem kw_358 : Cond.code y_N_turnRound c_N_turnRound 4 none ∈ gt_ws := gt_of 358 (by decide +kernel) (by decide +kernel)
theorem kw_359 : Cond.methodLink RQ_N 44 y_N_numberSlots ∈ gt_ws := gt_of 359 (by decide +kernel) (by decide +kernel)
theorem kw_361 : Cond.instanceMethod y_N_numberSlots ∈ gt_ws := gt_of 361 (by decide +kernel) (by decide +kernel)
theorem kw_362 : Cond.code y_N_numberSlots c_N_numberSlots 4 none ∈ gt_ws := gt_of 362 (by decide +kernel) (by decide +kernel)
theorem kw_364 : Cond.methodLink RQ_N 91 y_N_numberSlot ∈ gt_ws := gt_of 364 (by decide +kernel) (by decide +kernel)
theorem kw_366 : Cond.instanceMethod y_N_numberSlot ∈ gt_ws := gt_of 366 (by decide +kernel) (by decide +kernel)
theorem kw_367 : Cond.code y_N_numberSlot c_N_numberSlot 3 none ∈ gt_ws := gt_of 367 (by decide +kernel) (by decide +kernel)
theorem kw_368 : Cond.methodLink RQ_S 107 y_E_make ∈ gt_ws := gt_of 368 (by decide +kernel) (by decide +kernel)
theorem kw_369 : Cond.instanceMethod y_E_make ∈ gt_ws := gt_of 369 (by decide +kernel) (by decide +kernel)
theorem kw_370 : Cond.selects RQ_E y_E_make y_E_make ∈ gt_ws := gt_of 370 (by decide +kernel) (by decide +kernel)
theorem kw_371 : Cond.code y_E_make c_E_make 5 none ∈ gt_ws := gt_of 371 (by decide +kernel) (by decide +kernel)
theorem kw_372 : Cond.methodLink RQ_E 36 y_E_sumUpStiffness ∈ gt_ws := gt_of 372 (by decide +kernel) (by decide +kernel)
theorem kw_374 : Cond.instanceMethod y_E_sumUpStiffness ∈ gt_ws := gt_of 374 (by decide +kernel) (by decide +kernel)
theorem kw_375 : Cond.code y_E_sumUpStiffness c_E_sumUpStiffness 3 none ∈ gt_ws := gt_of 375 (by decide +kernel) (by decide +kernel)
theorem kw_376 : Cond.methodLink RQ_E 49 y_J_fillL ∈ gt_ws := gt_of 376 (by decide +kernel) (by decide +kernel)
theorem kw_377 : Cond.static y_J_fillL ∈ gt_ws := gt_of 377 (by decide +kernel) (by decide +kernel)
theorem kw_378 : Cond.code y_J_fillL c_J_fillL 5 none ∈ gt_ws := gt_of 378 (by decide +kernel) (by decide +kernel)
theorem kw_379 : Cond.methodLink RQ_E 63 y_E_addStiffnessOfBar ∈ gt_ws := gt_of 379 (by decide +kernel) (by decide +kernel)
theorem kw_381 : Cond.instanceMethod y_E_addStiffnessOfBar ∈ gt_ws := gt_of 381 (by decide +kernel) (by decide +kernel)
theorem kw_382 : Cond.code y_E_addStiffnessOfBar c_E_addStiffnessOfBar 6 none ∈ gt_ws := gt_of 382 (by decide +kernel) (by decide +kernel)
theorem kw_383 : Cond.methodLink RQ_E 70 y_T_stretchBy ∈ gt_ws := gt_of 383 (by decide +kernel) (by decide +kernel)
theorem kw_384 : Cond.instanceMethod y_T_stretchBy ∈ gt_ws := gt_of 384 (by decide +kernel) (by decide +kernel)
theorem kw_385 : Cond.selects RQ_T y_T_stretchBy y_T_stretchBy ∈ gt_ws := gt_of 385 (by decide +kernel) (by decide +kernel)
theorem kw_386 : Cond.code y_T_stretchBy c_T_stretchBy 5 (some .int) ∈ gt_ws := gt_of 386 (by decide +kernel) (by decide +kernel)
theorem kw_387 : Cond.methodLink RQ_T 71 y_T_signOf ∈ gt_ws := gt_of 387 (by decide +kernel) (by decide +kernel)
theorem kw_388 : Cond.static y_T_signOf ∈ gt_ws := gt_of 388 (by decide +kernel) (by decide +kernel)
theorem kw_389 : Cond.code y_T_signOf c_T_signOf 1 (some .int) ∈ gt_ws := gt_of 389 (by decide +kernel) (by decide +kernel)
theorem kw_390 : Cond.methodLink RQ_S 110 y_E_findWeakUnknown ∈ gt_ws := gt_of 390 (by decide +kernel) (by decide +kernel)
theorem kw_391 : Cond.instanceMethod y_E_findWeakUnknown ∈ gt_ws := gt_of 391 (by decide +kernel) (by decide +kernel)
theorem kw_392 : Cond.selects RQ_E y_E_findWeakUnknown y_E_findWeakUnknown ∈ gt_ws := gt_of 392 (by decide +kernel) (by decide +kernel)
theorem kw_393 : Cond.code y_E_findWeakUnknown c_E_findWeakUnknown 2 (some .int) ∈ gt_ws := gt_of 393 (by decide +kernel) (by decide +kernel)
theorem kw_394 : Cond.methodLink RQ_E 74 y_E_growPolynomial ∈ gt_ws := gt_of 394 (by decide +kernel) (by decide +kernel)
theorem kw_396 : Cond.instanceMethod y_E_growPolynomial ∈ gt_ws := gt_of 396 (by decide +kernel) (by decide +kernel)
theorem kw_397 : Cond.code y_E_growPolynomial c_E_growPolynomial 6 none ∈ gt_ws := gt_of 397 (by decide +kernel) (by decide +kernel)
theorem kw_398 : Cond.methodLink RQ_E 78 y_E_findGrowth ∈ gt_ws := gt_of 398 (by decide +kernel) (by decide +kernel)
theorem kw_400 : Cond.instanceMethod y_E_findGrowth ∈ gt_ws := gt_of 400 (by decide +kernel) (by decide +kernel)
theorem kw_401 : Cond.code y_E_findGrowth c_E_findGrowth 3 none ∈ gt_ws := gt_of 401 (by decide +kernel) (by decide +kernel)
theorem kw_402 : Cond.methodLink RQ_E 81 y_E_rowTimes ∈ gt_ws := gt_of 402 (by decide +kernel) (by decide +kernel)
theorem kw_404 : Cond.instanceMethod y_E_rowTimes ∈ gt_ws := gt_of 404 (by decide +kernel) (by decide +kernel)
theorem kw_405 : Cond.code y_E_rowTimes c_E_rowTimes 7 (some .long) ∈ gt_ws := gt_of 405 (by decide +kernel) (by decide +kernel)
theorem kw_406 : Cond.methodLink RQ_E 85 y_E_multiply ∈ gt_ws := gt_of 406 (by decide +kernel) (by decide +kernel)
theorem kw_408 : Cond.instanceMethod y_E_multiply ∈ gt_ws := gt_of 408 (by decide +kernel) (by decide +kernel)
theorem kw_409 : Cond.code y_E_multiply c_E_multiply 4 none ∈ gt_ws := gt_of 409 (by decide +kernel) (by decide +kernel)
theorem kw_410 : Cond.methodLink RQ_E 89 (⟨"java/lang/System", "arraycopy", "(Ljava/lang/Object;ILjava/lang/Object;II)V"⟩ : MethodName) ∈ gt_ws := gt_of 410 (by decide +kernel) (by decide +kernel)
theorem kw_411 : Cond.static (⟨"java/lang/System", "arraycopy", "(Ljava/lang/Object;ILjava/lang/Object;II)V"⟩ : MethodName) ∈ gt_ws := gt_of 411 (by decide +kernel) (by decide +kernel)
theorem kw_412 : Cond.native (⟨"java/lang/System", "arraycopy", "(Ljava/lang/Object;ILjava/lang/Object;II)V"⟩ : MethodName) ∈ gt_ws := gt_of 412 (by decide +kernel) (by decide +kernel)
theorem kw_421 : Cond.methodLink RQ_S 116 y_S_isAnswerable ∈ gt_ws := gt_of 421 (by decide +kernel) (by decide +kernel)
theorem kw_423 : Cond.instanceMethod y_S_isAnswerable ∈ gt_ws := gt_of 423 (by decide +kernel) (by decide +kernel)
theorem kw_424 : Cond.code y_S_isAnswerable c_S_isAnswerable 4 (some .boolean) ∈ gt_ws := gt_of 424 (by decide +kernel) (by decide +kernel)
theorem kw_425 : Cond.methodLink RQ_S 160 y_S_isNodeThere ∈ gt_ws := gt_of 425 (by decide +kernel) (by decide +kernel)
theorem kw_427 : Cond.instanceMethod y_S_isNodeThere ∈ gt_ws := gt_of 427 (by decide +kernel) (by decide +kernel)
theorem kw_428 : Cond.code y_S_isNodeThere c_S_isNodeThere 2 (some .boolean) ∈ gt_ws := gt_of 428 (by decide +kernel) (by decide +kernel)
theorem kw_429 : Cond.methodLink RQ_S 169 y_T_isThere ∈ gt_ws := gt_of 429 (by decide +kernel) (by decide +kernel)
theorem kw_430 : Cond.methodLink RQ_S 136 y_S_isPart ∈ gt_ws := gt_of 430 (by decide +kernel) (by decide +kernel)
theorem kw_431 : Cond.static y_S_isPart ∈ gt_ws := gt_of 431 (by decide +kernel) (by decide +kernel)
theorem kw_432 : Cond.code y_S_isPart c_S_isPart 1 (some .boolean) ∈ gt_ws := gt_of 432 (by decide +kernel) (by decide +kernel)
theorem kw_433 : Cond.constantLong RQ_S 119 (-4000000000000000000) ∈ gt_ws := gt_of 433 (by decide +kernel) (by decide +kernel)
theorem kw_434 : Cond.methodLink RQ_S 121 y_R_chooseCase ∈ gt_ws := gt_of 434 (by decide +kernel) (by decide +kernel)
theorem kw_435 : Cond.instanceMethod y_R_chooseCase ∈ gt_ws := gt_of 435 (by decide +kernel) (by decide +kernel)
theorem kw_436 : Cond.selects RQ_R y_R_chooseCase y_R_chooseCase ∈ gt_ws := gt_of 436 (by decide +kernel) (by decide +kernel)
theorem kw_437 : Cond.code y_R_chooseCase c_R_chooseCase 3 none ∈ gt_ws := gt_of 437 (by decide +kernel) (by decide +kernel)
theorem kw_438 : Cond.methodLink RQ_S 124 y_R_respond ∈ gt_ws := gt_of 438 (by decide +kernel) (by decide +kernel)
theorem kw_439 : Cond.instanceMethod y_R_respond ∈ gt_ws := gt_of 439 (by decide +kernel) (by decide +kernel)
theorem kw_440 : Cond.selects RQ_R y_R_respond y_R_respond ∈ gt_ws := gt_of 440 (by decide +kernel) (by decide +kernel)
theorem kw_441 : Cond.code y_R_respond c_R_respond 5 none ∈ gt_ws := gt_of 441 (by decide +kernel) (by decide +kernel)
theorem kw_442 : Cond.methodLink RQ_R 32 y_E_wholeMinor ∈ gt_ws := gt_of 442 (by decide +kernel) (by decide +kernel)
theorem kw_443 : Cond.instanceMethod y_E_wholeMinor ∈ gt_ws := gt_of 443 (by decide +kernel) (by decide +kernel)
theorem kw_444 : Cond.selects RQ_E y_E_wholeMinor y_E_wholeMinor ∈ gt_ws := gt_of 444 (by decide +kernel) (by decide +kernel)
theorem kw_445 : Cond.code y_E_wholeMinor c_E_wholeMinor 1 (some .long) ∈ gt_ws := gt_of 445 (by decide +kernel) (by decide +kernel)
theorem kw_446 : Cond.methodLink RQ_R 38 y_R_sumUpLoads ∈ gt_ws := gt_of 446 (by decide +kernel) (by decide +kernel)
theorem kw_448 : Cond.instanceMethod y_R_sumUpLoads ∈ gt_ws := gt_of 448 (by decide +kernel) (by decide +kernel)
theorem kw_449 : Cond.code y_R_sumUpLoads c_R_sumUpLoads 6 none ∈ gt_ws := gt_of 449 (by decide +kernel) (by decide +kernel)
theorem kw_450 : Cond.methodLink RQ_R 42 y_R_moveHeldSlots ∈ gt_ws := gt_of 450 (by decide +kernel) (by decide +kernel)
theorem kw_452 : Cond.instanceMethod y_R_moveHeldSlots ∈ gt_ws := gt_of 452 (by decide +kernel) (by decide +kernel)
theorem kw_453 : Cond.code y_R_moveHeldSlots c_R_moveHeldSlots 3 none ∈ gt_ws := gt_of 453 (by decide +kernel) (by decide +kernel)
theorem kw_454 : Cond.methodLink RQ_R 71 y_R_heldDisplacement ∈ gt_ws := gt_of 454 (by decide +kernel) (by decide +kernel)
theorem kw_456 : Cond.instanceMethod y_R_heldDisplacement ∈ gt_ws := gt_of 456 (by decide +kernel) (by decide +kernel)
theorem kw_457 : Cond.code y_R_heldDisplacement c_R_heldDisplacement 6 (some .long) ∈ gt_ws := gt_of 457 (by decide +kernel) (by decide +kernel)
theorem kw_458 : Cond.methodLink RQ_R 45 y_R_findRightSide ∈ gt_ws := gt_of 458 (by decide +kernel) (by decide +kernel)
theorem kw_460 : Cond.instanceMethod y_R_findRightSide ∈ gt_ws := gt_of 460 (by decide +kernel) (by decide +kernel)
theorem kw_461 : Cond.code y_R_findRightSide c_R_findRightSide 9 none ∈ gt_ws := gt_of 461 (by decide +kernel) (by decide +kernel)
theorem kw_462 : Cond.methodLink RQ_R 49 y_E_solveScaled ∈ gt_ws := gt_of 462 (by decide +kernel) (by decide +kernel)
theorem kw_463 : Cond.instanceMethod y_E_solveScaled ∈ gt_ws := gt_of 463 (by decide +kernel) (by decide +kernel)
theorem kw_464 : Cond.selects RQ_E y_E_solveScaled y_E_solveScaled ∈ gt_ws := gt_of 464 (by decide +kernel) (by decide +kernel)
theorem kw_465 : Cond.code y_E_solveScaled c_E_solveScaled 5 none ∈ gt_ws := gt_of 465 (by decide +kernel) (by decide +kernel)
theorem kw_466 : Cond.methodLink RQ_S 132 y_S_partOfFraction ∈ gt_ws := gt_of 466 (by decide +kernel) (by decide +kernel)
theorem kw_468 : Cond.instanceMethod y_S_partOfFraction ∈ gt_ws := gt_of 468 (by decide +kernel) (by decide +kernel)
theorem kw_469 : Cond.code y_S_partOfFraction c_S_partOfFraction 8 (some .long) ∈ gt_ws := gt_of 469 (by decide +kernel) (by decide +kernel)
theorem kw_470 : Cond.methodLink RQ_S 150 y_E_wholeMinor ∈ gt_ws := gt_of 470 (by decide +kernel) (by decide +kernel)
theorem kw_471 : Cond.methodLink RQ_S 172 (⟨"java/lang/Math", "abs", "(J)J"⟩ : MethodName) ∈ gt_ws := gt_of 471 (by decide +kernel) (by decide +kernel)
theorem kw_472 : Cond.static (⟨"java/lang/Math", "abs", "(J)J"⟩ : MethodName) ∈ gt_ws := gt_of 472 (by decide +kernel) (by decide +kernel)
theorem kw_473 : Cond.code (⟨"java/lang/Math", "abs", "(J)J"⟩ : MethodName) prog_9_method_61_code 2 (some .long) ∈ gt_ws := gt_of 473 (by decide +kernel) (by decide +kernel)
theorem kw_474 : Cond.methodLink RQ_S 178 y_S_greatestDivisor ∈ gt_ws := gt_of 474 (by decide +kernel) (by decide +kernel)
theorem kw_475 : Cond.static y_S_greatestDivisor ∈ gt_ws := gt_of 475 (by decide +kernel) (by decide +kernel)
theorem kw_476 : Cond.code y_S_greatestDivisor c_S_greatestDivisor 11 (some .long) ∈ gt_ws := gt_of 476 (by decide +kernel) (by decide +kernel)
theorem kw_481 : Cond.methodLink RQ_S 139 y_R_forceNumerator ∈ gt_ws := gt_of 481 (by decide +kernel) (by decide +kernel)
theorem kw_482 : Cond.instanceMethod y_R_forceNumerator ∈ gt_ws := gt_of 482 (by decide +kernel) (by decide +kernel)
theorem kw_483 : Cond.selects RQ_R y_R_forceNumerator y_R_forceNumerator ∈ gt_ws := gt_of 483 (by decide +kernel) (by decide +kernel)
theorem kw_484 : Cond.code y_R_forceNumerator c_R_forceNumerator 6 (some .long) ∈ gt_ws := gt_of 484 (by decide +kernel) (by decide +kernel)
theorem kw_485 : Cond.methodLink RQ_R 82 y_T_stretchBy ∈ gt_ws := gt_of 485 (by decide +kernel) (by decide +kernel)
theorem kw_490 : Cond.methodLink RQ_S 143 y_R_reactionNumerator ∈ gt_ws := gt_of 490 (by decide +kernel) (by decide +kernel)
theorem kw_491 : Cond.instanceMethod y_R_reactionNumerator ∈ gt_ws := gt_of 491 (by decide +kernel) (by decide +kernel)
theorem kw_492 : Cond.selects RQ_R y_R_reactionNumerator y_R_reactionNumerator ∈ gt_ws := gt_of 492 (by decide +kernel) (by decide +kernel)
theorem kw_493 : Cond.code y_R_reactionNumerator c_R_reactionNumerator 6 (some .long) ∈ gt_ws := gt_of 493 (by decide +kernel) (by decide +kernel)
theorem kw_498 : Cond.methodLink RQ_S 147 y_R_chooseFactors ∈ gt_ws := gt_of 498 (by decide +kernel) (by decide +kernel)
theorem kw_499 : Cond.instanceMethod y_R_chooseFactors ∈ gt_ws := gt_of 499 (by decide +kernel) (by decide +kernel)
theorem kw_500 : Cond.selects RQ_R y_R_chooseFactors y_R_chooseFactors ∈ gt_ws := gt_of 500 (by decide +kernel) (by decide +kernel)
theorem kw_501 : Cond.code y_R_chooseFactors c_R_chooseFactors 3 none ∈ gt_ws := gt_of 501 (by decide +kernel) (by decide +kernel)
theorem kw_518 : Cond.methodLink RQ_S 166 y_E_profile ∈ gt_ws := gt_of 518 (by decide +kernel) (by decide +kernel)
theorem kw_519 : Cond.instanceMethod y_E_profile ∈ gt_ws := gt_of 519 (by decide +kernel) (by decide +kernel)
theorem kw_520 : Cond.selects RQ_E y_E_profile y_E_profile ∈ gt_ws := gt_of 520 (by decide +kernel) (by decide +kernel)
theorem kw_521 : Cond.code y_E_profile c_E_profile 4 (some .int) ∈ gt_ws := gt_of 521 (by decide +kernel) (by decide +kernel)
theorem kw_528 : Cond.fieldLink RQ_M 7 "TrussSolverModel" "there" "[Z" ∈ gt_ws := gt_of 528 (by decide +kernel) (by decide +kernel)
theorem kw_529 : Cond.fieldLink RQ_M 13 "TrussSolverModel" "px" "[I" ∈ gt_ws := gt_of 529 (by decide +kernel) (by decide +kernel)
theorem kw_530 : Cond.fieldLink RQ_M 17 "TrussSolverModel" "py" "[I" ∈ gt_ws := gt_of 530 (by decide +kernel) (by decide +kernel)
theorem kw_531 : Cond.fieldLink RQ_M 20 "TrussSolverModel" "first" "[I" ∈ gt_ws := gt_of 531 (by decide +kernel) (by decide +kernel)
theorem kw_532 : Cond.fieldLink RQ_M 23 "TrussSolverModel" "second" "[I" ∈ gt_ws := gt_of 532 (by decide +kernel) (by decide +kernel)
theorem kw_533 : Cond.fieldLink RQ_M 26 "TrussSolverModel" "stiff" "[I" ∈ gt_ws := gt_of 533 (by decide +kernel) (by decide +kernel)
theorem kw_534 : Cond.fieldLink RQ_M 65 "TrussSolverModel" "bars" "I" ∈ gt_ws := gt_of 534 (by decide +kernel) (by decide +kernel)
theorem kw_535 : Cond.fieldLink RQ_M 29 "TrussSolverModel" "held" "[Z" ∈ gt_ws := gt_of 535 (by decide +kernel) (by decide +kernel)
theorem kw_536 : Cond.fieldLink RQ_M 32 "TrussSolverModel" "fixed" "[I" ∈ gt_ws := gt_of 536 (by decide +kernel) (by decide +kernel)
theorem kw_537 : Cond.fieldLink RQ_M 35 "TrussSolverModel" "spring" "[I" ∈ gt_ws := gt_of 537 (by decide +kernel) (by decide +kernel)
theorem kw_538 : Cond.fieldLink RQ_M 38 "TrussSolverModel" "loads" "[I" ∈ gt_ws := gt_of 538 (by decide +kernel) (by decide +kernel)
theorem kw_539 : Cond.fieldLink RQ_M 61 "TrussSolverModel" "sealed" "Z" ∈ gt_ws := gt_of 539 (by decide +kernel) (by decide +kernel)
theorem kw_540 : Cond.fieldLink RQ_M 41 "TrussSolverModel" "order" "[I" ∈ gt_ws := gt_of 540 (by decide +kernel) (by decide +kernel)
theorem kw_541 : Cond.fieldLink RQ_M 76 "TrussSolverModel" "ordered" "I" ∈ gt_ws := gt_of 541 (by decide +kernel) (by decide +kernel)
theorem kw_542 : Cond.fieldLink RQ_M 44 "TrussSolverModel" "place" "[I" ∈ gt_ws := gt_of 542 (by decide +kernel) (by decide +kernel)
theorem kw_543 : Cond.fieldLink RQ_M 93 "TrussSolverModel" "unknowns" "I" ∈ gt_ws := gt_of 543 (by decide +kernel) (by decide +kernel)
theorem kw_544 : Cond.fieldLink RQ_M 47 "TrussSolverModel" "full" "[I" ∈ gt_ws := gt_of 544 (by decide +kernel) (by decide +kernel)
theorem kw_545 : Cond.fieldLink RQ_M 50 "TrussSolverModel" "right" "[J" ∈ gt_ws := gt_of 545 (by decide +kernel) (by decide +kernel)
theorem kw_546 : Cond.fieldLink RQ_M 54 "TrussSolverModel" "work" "[J" ∈ gt_ws := gt_of 546 (by decide +kernel) (by decide +kernel)
theorem kw_547 : Cond.fieldLink RQ_M 141 "TrussSolverModel" "top" "J" ∈ gt_ws := gt_of 547 (by decide +kernel) (by decide +kernel)
theorem kw_548 : Cond.fieldLink RQ_M 145 "TrussSolverModel" "below" "J" ∈ gt_ws := gt_of 548 (by decide +kernel) (by decide +kernel)
theorem kw_596 : Cond.methodLink RQ_M 57 y_M_off ∈ gt_ws := gt_of 596 (by decide +kernel) (by decide +kernel)
theorem kw_598 : Cond.instanceMethod y_M_off ∈ gt_ws := gt_of 598 (by decide +kernel) (by decide +kernel)
theorem kw_599 : Cond.code y_M_off c_M_off 3 (some .boolean) ∈ gt_ws := gt_of 599 (by decide +kernel) (by decide +kernel)
theorem kw_624 : Cond.methodLink RQ_M 122 y_M_makeOrder ∈ gt_ws := gt_of 624 (by decide +kernel) (by decide +kernel)
theorem kw_626 : Cond.instanceMethod y_M_makeOrder ∈ gt_ws := gt_of 626 (by decide +kernel) (by decide +kernel)
theorem kw_627 : Cond.code y_M_makeOrder c_M_makeOrder 4 none ∈ gt_ws := gt_of 627 (by decide +kernel) (by decide +kernel)
theorem kw_628 : Cond.methodLink RQ_M 86 y_M_candidate ∈ gt_ws := gt_of 628 (by decide +kernel) (by decide +kernel)
theorem kw_630 : Cond.instanceMethod y_M_candidate ∈ gt_ws := gt_of 630 (by decide +kernel) (by decide +kernel)
theorem kw_631 : Cond.code y_M_candidate c_M_candidate 5 (some .int) ∈ gt_ws := gt_of 631 (by decide +kernel) (by decide +kernel)
theorem kw_632 : Cond.methodLink RQ_M 79 y_M_inOrder ∈ gt_ws := gt_of 632 (by decide +kernel) (by decide +kernel)
theorem kw_634 : Cond.instanceMethod y_M_inOrder ∈ gt_ws := gt_of 634 (by decide +kernel) (by decide +kernel)
theorem kw_635 : Cond.code y_M_inOrder c_M_inOrder 3 (some .boolean) ∈ gt_ws := gt_of 635 (by decide +kernel) (by decide +kernel)
theorem kw_636 : Cond.methodLink RQ_M 73 y_M_joined ∈ gt_ws := gt_of 636 (by decide +kernel) (by decide +kernel)
theorem kw_638 : Cond.instanceMethod y_M_joined ∈ gt_ws := gt_of 638 (by decide +kernel) (by decide +kernel)
theorem kw_639 : Cond.code y_M_joined c_M_joined 4 (some .boolean) ∈ gt_ws := gt_of 639 (by decide +kernel) (by decide +kernel)
theorem kw_640 : Cond.methodLink RQ_M 83 y_M_neighbours ∈ gt_ws := gt_of 640 (by decide +kernel) (by decide +kernel)
theorem kw_642 : Cond.instanceMethod y_M_neighbours ∈ gt_ws := gt_of 642 (by decide +kernel) (by decide +kernel)
theorem kw_643 : Cond.code y_M_neighbours c_M_neighbours 4 (some .int) ∈ gt_ws := gt_of 643 (by decide +kernel) (by decide +kernel)
theorem kw_644 : Cond.methodLink RQ_M 89 y_M_append ∈ gt_ws := gt_of 644 (by decide +kernel) (by decide +kernel)
theorem kw_646 : Cond.instanceMethod y_M_append ∈ gt_ws := gt_of 646 (by decide +kernel) (by decide +kernel)
theorem kw_647 : Cond.code y_M_append c_M_append 2 none ∈ gt_ws := gt_of 647 (by decide +kernel) (by decide +kernel)
theorem kw_648 : Cond.methodLink RQ_M 125 y_M_good ∈ gt_ws := gt_of 648 (by decide +kernel) (by decide +kernel)
theorem kw_650 : Cond.instanceMethod y_M_good ∈ gt_ws := gt_of 650 (by decide +kernel) (by decide +kernel)
theorem kw_651 : Cond.code y_M_good c_M_good 4 (some .boolean) ∈ gt_ws := gt_of 651 (by decide +kernel) (by decide +kernel)
theorem kw_652 : Cond.methodLink RQ_M 128 y_M_makeMatrix ∈ gt_ws := gt_of 652 (by decide +kernel) (by decide +kernel)
theorem kw_654 : Cond.instanceMethod y_M_makeMatrix ∈ gt_ws := gt_of 654 (by decide +kernel) (by decide +kernel)
theorem kw_655 : Cond.code y_M_makeMatrix c_M_makeMatrix 6 none ∈ gt_ws := gt_of 655 (by decide +kernel) (by decide +kernel)
theorem kw_656 : Cond.methodLink RQ_M 96 y_M_way ∈ gt_ws := gt_of 656 (by decide +kernel) (by decide +kernel)
theorem kw_658 : Cond.instanceMethod y_M_way ∈ gt_ws := gt_of 658 (by decide +kernel) (by decide +kernel)
theorem kw_659 : Cond.code y_M_way c_M_way 5 (some .int) ∈ gt_ws := gt_of 659 (by decide +kernel) (by decide +kernel)
theorem kw_660 : Cond.methodLink RQ_M 69 y_M_sign ∈ gt_ws := gt_of 660 (by decide +kernel) (by decide +kernel)
theorem kw_662 : Cond.instanceMethod y_M_sign ∈ gt_ws := gt_of 662 (by decide +kernel) (by decide +kernel)
theorem kw_663 : Cond.code y_M_sign c_M_sign 2 (some .int) ∈ gt_ws := gt_of 663 (by decide +kernel) (by decide +kernel)
theorem kw_664 : Cond.methodLink RQ_M 131 y_M_det ∈ gt_ws := gt_of 664 (by decide +kernel) (by decide +kernel)
theorem kw_666 : Cond.instanceMethod y_M_det ∈ gt_ws := gt_of 666 (by decide +kernel) (by decide +kernel)
theorem kw_667 : Cond.code y_M_det c_M_det 15 (some .long) ∈ gt_ws := gt_of 667 (by decide +kernel) (by decide +kernel)
theorem kw_668 : Cond.constantLong RQ_M 114 (2147483647) ∈ gt_ws := gt_of 668 (by decide +kernel) (by decide +kernel)
theorem kw_669 : Cond.constantLong RQ_M 116 (2147483629) ∈ gt_ws := gt_of 669 (by decide +kernel) (by decide +kernel)
theorem kw_670 : Cond.methodLink RQ_M 118 y_M_modulo ∈ gt_ws := gt_of 670 (by decide +kernel) (by decide +kernel)
theorem kw_672 : Cond.instanceMethod y_M_modulo ∈ gt_ws := gt_of 672 (by decide +kernel) (by decide +kernel)
theorem kw_673 : Cond.code y_M_modulo c_M_modulo 10 (some .long) ∈ gt_ws := gt_of 673 (by decide +kernel) (by decide +kernel)
theorem kw_674 : Cond.methodLink RQ_M 100 y_M_exchange ∈ gt_ws := gt_of 674 (by decide +kernel) (by decide +kernel)
theorem kw_676 : Cond.instanceMethod y_M_exchange ∈ gt_ws := gt_of 676 (by decide +kernel) (by decide +kernel)
theorem kw_677 : Cond.code y_M_exchange c_M_exchange 6 none ∈ gt_ws := gt_of 677 (by decide +kernel) (by decide +kernel)
theorem kw_678 : Cond.methodLink RQ_M 104 y_M_clear ∈ gt_ws := gt_of 678 (by decide +kernel) (by decide +kernel)
theorem kw_680 : Cond.instanceMethod y_M_clear ∈ gt_ws := gt_of 680 (by decide +kernel) (by decide +kernel)
theorem kw_681 : Cond.code y_M_clear c_M_clear 11 none ∈ gt_ws := gt_of 681 (by decide +kernel) (by decide +kernel)
theorem kw_682 : Cond.constantLong RQ_M 108 (2) ∈ gt_ws := gt_of 682 (by decide +kernel) (by decide +kernel)
theorem kw_683 : Cond.methodLink RQ_M 110 y_M_powered ∈ gt_ws := gt_of 683 (by decide +kernel) (by decide +kernel)
theorem kw_685 : Cond.instanceMethod y_M_powered ∈ gt_ws := gt_of 685 (by decide +kernel) (by decide +kernel)
theorem kw_686 : Cond.code y_M_powered c_M_powered 10 (some .long) ∈ gt_ws := gt_of 686 (by decide +kernel) (by decide +kernel)
theorem kw_695 : Cond.constantLong RQ_M 148 (-4000000000000000000) ∈ gt_ws := gt_of 695 (by decide +kernel) (by decide +kernel)
theorem kw_696 : Cond.methodLink RQ_M 150 y_M_combined ∈ gt_ws := gt_of 696 (by decide +kernel) (by decide +kernel)
theorem kw_697 : Cond.instanceMethod y_M_combined ∈ gt_ws := gt_of 697 (by decide +kernel) (by decide +kernel)
theorem kw_698 : Cond.selects RQ_M y_M_combined y_M_combined ∈ gt_ws := gt_of 698 (by decide +kernel) (by decide +kernel)
theorem kw_699 : Cond.code y_M_combined c_M_combined 5 (some .long) ∈ gt_ws := gt_of 699 (by decide +kernel) (by decide +kernel)
theorem kw_700 : Cond.methodLink RQ_M 154 y_M_moved ∈ gt_ws := gt_of 700 (by decide +kernel) (by decide +kernel)
theorem kw_702 : Cond.instanceMethod y_M_moved ∈ gt_ws := gt_of 702 (by decide +kernel) (by decide +kernel)
theorem kw_703 : Cond.code y_M_moved c_M_moved 6 (some .long) ∈ gt_ws := gt_of 703 (by decide +kernel) (by decide +kernel)
theorem kw_704 : Cond.methodLink RQ_M 135 y_M_loadOf ∈ gt_ws := gt_of 704 (by decide +kernel) (by decide +kernel)
theorem kw_706 : Cond.instanceMethod y_M_loadOf ∈ gt_ws := gt_of 706 (by decide +kernel) (by decide +kernel)
theorem kw_707 : Cond.code y_M_loadOf c_M_loadOf 6 (some .long) ∈ gt_ws := gt_of 707 (by decide +kernel) (by decide +kernel)
theorem kw_708 : Cond.methodLink RQ_M 138 y_M_fixedOf ∈ gt_ws := gt_of 708 (by decide +kernel) (by decide +kernel)
theorem kw_710 : Cond.instanceMethod y_M_fixedOf ∈ gt_ws := gt_of 710 (by decide +kernel) (by decide +kernel)
theorem kw_711 : Cond.code y_M_fixedOf c_M_fixedOf 6 (some .long) ∈ gt_ws := gt_of 711 (by decide +kernel) (by decide +kernel)
theorem kw_712 : Cond.methodLink RQ_M 157 y_M_determinant ∈ gt_ws := gt_of 712 (by decide +kernel) (by decide +kernel)
theorem kw_713 : Cond.instanceMethod y_M_determinant ∈ gt_ws := gt_of 713 (by decide +kernel) (by decide +kernel)
theorem kw_714 : Cond.selects RQ_M y_M_determinant y_M_determinant ∈ gt_ws := gt_of 714 (by decide +kernel) (by decide +kernel)
theorem kw_715 : Cond.code y_M_determinant c_M_determinant 1 (some .long) ∈ gt_ws := gt_of 715 (by decide +kernel) (by decide +kernel)
theorem kw_716 : Cond.methodLink RQ_M 161 y_M_fraction ∈ gt_ws := gt_of 716 (by decide +kernel) (by decide +kernel)
theorem kw_718 : Cond.instanceMethod y_M_fraction ∈ gt_ws := gt_of 718 (by decide +kernel) (by decide +kernel)
theorem kw_719 : Cond.code y_M_fraction c_M_fraction 8 (some .long) ∈ gt_ws := gt_of 719 (by decide +kernel) (by decide +kernel)
theorem kw_725 : Cond.methodLink RQ_M 165 y_M_pull ∈ gt_ws := gt_of 725 (by decide +kernel) (by decide +kernel)
theorem kw_727 : Cond.instanceMethod y_M_pull ∈ gt_ws := gt_of 727 (by decide +kernel) (by decide +kernel)
theorem kw_728 : Cond.code y_M_pull c_M_pull 6 (some .long) ∈ gt_ws := gt_of 728 (by decide +kernel) (by decide +kernel)
theorem kw_746 : Cond.methodLink RQ_M 168 y_M_profile ∈ gt_ws := gt_of 746 (by decide +kernel) (by decide +kernel)
theorem kw_748 : Cond.instanceMethod y_M_profile ∈ gt_ws := gt_of 748 (by decide +kernel) (by decide +kernel)
theorem kw_749 : Cond.code y_M_profile c_M_profile 5 (some .int) ∈ gt_ws := gt_of 749 (by decide +kernel) (by decide +kernel)
theorem q_S_isNode : y_S_isNode.cls ≠ "java/lang/invoke/MethodHandle" ∧ y_S_isNode.cls ≠ "java/lang/invoke/VarHandle" ∧ (parseMethodDescriptor y_S_isNode.desc).map (fun d => d.parameters.length) = some 1 := by decide +kernel
theorem q_S_isOnGrid : y_S_isOnGrid.cls ≠ "java/lang/invoke/MethodHandle" ∧ y_S_isOnGrid.cls ≠ "java/lang/invoke/VarHandle" ∧ (parseMethodDescriptor y_S_isOnGrid.desc).map (fun d => d.parameters.length) = some 1 := by decide +kernel
theorem q_T_isThere : y_T_isThere.cls ≠ "java/lang/invoke/MethodHandle" ∧ y_T_isThere.cls ≠ "java/lang/invoke/VarHandle" ∧ (parseMethodDescriptor y_T_isThere.desc).map (fun d => d.parameters.length) = some 1 := by decide +kernel
theorem q_S_slotOf : y_S_slotOf.cls ≠ "java/lang/invoke/MethodHandle" ∧ y_S_slotOf.cls ≠ "java/lang/invoke/VarHandle" ∧ (parseMethodDescriptor y_S_slotOf.desc).map (fun d => d.parameters.length) = some 2 := by decide +kernel
theorem q_T_hasOtherAt : y_T_hasOtherAt.cls ≠ "java/lang/invoke/MethodHandle" ∧ y_T_hasOtherAt.cls ≠ "java/lang/invoke/VarHandle" ∧ (parseMethodDescriptor y_T_hasOtherAt.desc).map (fun d => d.parameters.length) = some 3 := by decide +kernel
theorem q_T_putNode : y_T_putNode.cls ≠ "java/lang/invoke/MethodHandle" ∧ y_T_putNode.cls ≠ "java/lang/invoke/VarHandle" ∧ (parseMethodDescriptor y_T_putNode.desc).map (fun d => d.parameters.length) = some 3 := by decide +kernel
theorem q_S_node : y_S_node.cls ≠ "java/lang/invoke/MethodHandle" ∧ y_S_node.cls ≠ "java/lang/invoke/VarHandle" ∧ (parseMethodDescriptor y_S_node.desc).map (fun d => d.parameters.length) = some 3 := by decide +kernel
theorem q_T_addBar : y_T_addBar.cls ≠ "java/lang/invoke/MethodHandle" ∧ y_T_addBar.cls ≠ "java/lang/invoke/VarHandle" ∧ (parseMethodDescriptor y_T_addBar.desc).map (fun d => d.parameters.length) = some 3 := by decide +kernel
theorem q_S_bar : y_S_bar.cls ≠ "java/lang/invoke/MethodHandle" ∧ y_S_bar.cls ≠ "java/lang/invoke/VarHandle" ∧ (parseMethodDescriptor y_S_bar.desc).map (fun d => d.parameters.length) = some 3 := by decide +kernel
theorem q_S_isBarThere : y_S_isBarThere.cls ≠ "java/lang/invoke/MethodHandle" ∧ y_S_isBarThere.cls ≠ "java/lang/invoke/VarHandle" ∧ (parseMethodDescriptor y_S_isBarThere.desc).map (fun d => d.parameters.length) = some 1 := by decide +kernel
theorem q_T_removeBar : y_T_removeBar.cls ≠ "java/lang/invoke/MethodHandle" ∧ y_T_removeBar.cls ≠ "java/lang/invoke/VarHandle" ∧ (parseMethodDescriptor y_T_removeBar.desc).map (fun d => d.parameters.length) = some 1 := by decide +kernel
theorem q_S_unbar : y_S_unbar.cls ≠ "java/lang/invoke/MethodHandle" ∧ y_S_unbar.cls ≠ "java/lang/invoke/VarHandle" ∧ (parseMethodDescriptor y_S_unbar.desc).map (fun d => d.parameters.length) = some 1 := by decide +kernel
theorem q_S_isDirection : y_S_isDirection.cls ≠ "java/lang/invoke/MethodHandle" ∧ y_S_isDirection.cls ≠ "java/lang/invoke/VarHandle" ∧ (parseMethodDescriptor y_S_isDirection.desc).map (fun d => d.parameters.length) = some 1 := by decide +kernel
theorem q_S_hold : y_S_hold.cls ≠ "java/lang/invoke/MethodHandle" ∧ y_S_hold.cls ≠ "java/lang/invoke/VarHandle" ∧ (parseMethodDescriptor y_S_hold.desc).map (fun d => d.parameters.length) = some 4 := by decide +kernel
theorem q_S_spring : y_S_spring.cls ≠ "java/lang/invoke/MethodHandle" ∧ y_S_spring.cls ≠ "java/lang/invoke/VarHandle" ∧ (parseMethodDescriptor y_S_spring.desc).map (fun d => d.parameters.length) = some 3 := by decide +kernel
theorem q_S_isCase : y_S_isCase.cls ≠ "java/lang/invoke/MethodHandle" ∧ y_S_isCase.cls ≠ "java/lang/invoke/VarHandle" ∧ (parseMethodDescriptor y_S_isCase.desc).map (fun d => d.parameters.length) = some 1 := by decide +kernel
theorem q_S_load : y_S_load.cls ≠ "java/lang/invoke/MethodHandle" ∧ y_S_load.cls ≠ "java/lang/invoke/VarHandle" ∧ (parseMethodDescriptor y_S_load.desc).map (fun d => d.parameters.length) = some 4 := by decide +kernel
theorem q_J_bitCount : y_J_bitCount.cls ≠ "java/lang/invoke/MethodHandle" ∧ y_J_bitCount.cls ≠ "java/lang/invoke/VarHandle" ∧ (parseMethodDescriptor y_J_bitCount.desc).map (fun d => d.parameters.length) = some 1 := by decide +kernel
theorem q_T_nodeCount : y_T_nodeCount.cls ≠ "java/lang/invoke/MethodHandle" ∧ y_T_nodeCount.cls ≠ "java/lang/invoke/VarHandle" ∧ (parseMethodDescriptor y_T_nodeCount.desc).map (fun d => d.parameters.length) = some 0 := by decide +kernel
theorem q_T_reach : y_T_reach.cls ≠ "java/lang/invoke/MethodHandle" ∧ y_T_reach.cls ≠ "java/lang/invoke/VarHandle" ∧ (parseMethodDescriptor y_T_reach.desc).map (fun d => d.parameters.length) = some 2 := by decide +kernel
theorem q_T_isGood : y_T_isGood.cls ≠ "java/lang/invoke/MethodHandle" ∧ y_T_isGood.cls ≠ "java/lang/invoke/VarHandle" ∧ (parseMethodDescriptor y_T_isGood.desc).map (fun d => d.parameters.length) = some 1 := by decide +kernel
theorem q_T_firstBadBar : y_T_firstBadBar.cls ≠ "java/lang/invoke/MethodHandle" ∧ y_T_firstBadBar.cls ≠ "java/lang/invoke/VarHandle" ∧ (parseMethodDescriptor y_T_firstBadBar.desc).map (fun d => d.parameters.length) = some 0 := by decide +kernel
theorem q_J_fillI : y_J_fillI.cls ≠ "java/lang/invoke/MethodHandle" ∧ y_J_fillI.cls ≠ "java/lang/invoke/VarHandle" ∧ (parseMethodDescriptor y_J_fillI.desc).map (fun d => d.parameters.length) = some 2 := by decide +kernel
theorem q_N_findNeighbours : y_N_findNeighbours.cls ≠ "java/lang/invoke/MethodHandle" ∧ y_N_findNeighbours.cls ≠ "java/lang/invoke/VarHandle" ∧ (parseMethodDescriptor y_N_findNeighbours.desc).map (fun d => d.parameters.length) = some 1 := by decide +kernel
theorem q_N_leastJoined : y_N_leastJoined.cls ≠ "java/lang/invoke/MethodHandle" ∧ y_N_leastJoined.cls ≠ "java/lang/invoke/VarHandle" ∧ (parseMethodDescriptor y_N_leastJoined.desc).map (fun d => d.parameters.length) = some 1 := by decide +kernel
theorem q_N_append : y_N_append.cls ≠ "java/lang/invoke/MethodHandle" ∧ y_N_append.cls ≠ "java/lang/invoke/VarHandle" ∧ (parseMethodDescriptor y_N_append.desc).map (fun d => d.parameters.length) = some 1 := by decide +kernel
theorem q_N_appendNeighboursOf : y_N_appendNeighboursOf.cls ≠ "java/lang/invoke/MethodHandle" ∧ y_N_appendNeighboursOf.cls ≠ "java/lang/invoke/VarHandle" ∧ (parseMethodDescriptor y_N_appendNeighboursOf.desc).map (fun d => d.parameters.length) = some 1 := by decide +kernel
theorem q_N_placeNodes : y_N_placeNodes.cls ≠ "java/lang/invoke/MethodHandle" ∧ y_N_placeNodes.cls ≠ "java/lang/invoke/VarHandle" ∧ (parseMethodDescriptor y_N_placeNodes.desc).map (fun d => d.parameters.length) = some 1 := by decide +kernel
theorem q_N_turnRound : y_N_turnRound.cls ≠ "java/lang/invoke/MethodHandle" ∧ y_N_turnRound.cls ≠ "java/lang/invoke/VarHandle" ∧ (parseMethodDescriptor y_N_turnRound.desc).map (fun d => d.parameters.length) = some 0 := by decide +kernel
theorem q_N_numberSlot : y_N_numberSlot.cls ≠ "java/lang/invoke/MethodHandle" ∧ y_N_numberSlot.cls ≠ "java/lang/invoke/VarHandle" ∧ (parseMethodDescriptor y_N_numberSlot.desc).map (fun d => d.parameters.length) = some 2 := by decide +kernel
theorem q_N_numberSlots : y_N_numberSlots.cls ≠ "java/lang/invoke/MethodHandle" ∧ y_N_numberSlots.cls ≠ "java/lang/invoke/VarHandle" ∧ (parseMethodDescriptor y_N_numberSlots.desc).map (fun d => d.parameters.length) = some 1 := by decide +kernel
theorem q_N_make : y_N_make.cls ≠ "java/lang/invoke/MethodHandle" ∧ y_N_make.cls ≠ "java/lang/invoke/VarHandle" ∧ (parseMethodDescriptor y_N_make.desc).map (fun d => d.parameters.length) = some 1 := by decide +kernel
theorem q_T_signOf : y_T_signOf.cls ≠ "java/lang/invoke/MethodHandle" ∧ y_T_signOf.cls ≠ "java/lang/invoke/VarHandle" ∧ (parseMethodDescriptor y_T_signOf.desc).map (fun d => d.parameters.length) = some 1 := by decide +kernel
theorem q_T_stretchBy : y_T_stretchBy.cls ≠ "java/lang/invoke/MethodHandle" ∧ y_T_stretchBy.cls ≠ "java/lang/invoke/VarHandle" ∧ (parseMethodDescriptor y_T_stretchBy.desc).map (fun d => d.parameters.length) = some 2 := by decide +kernel
theorem q_E_addStiffnessOfBar : y_E_addStiffnessOfBar.cls ≠ "java/lang/invoke/MethodHandle" ∧ y_E_addStiffnessOfBar.cls ≠ "java/lang/invoke/VarHandle" ∧ (parseMethodDescriptor y_E_addStiffnessOfBar.desc).map (fun d => d.parameters.length) = some 2 := by decide +kernel
theorem q_J_fillL : y_J_fillL.cls ≠ "java/lang/invoke/MethodHandle" ∧ y_J_fillL.cls ≠ "java/lang/invoke/VarHandle" ∧ (parseMethodDescriptor y_J_fillL.desc).map (fun d => d.parameters.length) = some 2 := by decide +kernel
theorem q_E_sumUpStiffness : y_E_sumUpStiffness.cls ≠ "java/lang/invoke/MethodHandle" ∧ y_E_sumUpStiffness.cls ≠ "java/lang/invoke/VarHandle" ∧ (parseMethodDescriptor y_E_sumUpStiffness.desc).map (fun d => d.parameters.length) = some 1 := by decide +kernel
theorem q_E_make : y_E_make.cls ≠ "java/lang/invoke/MethodHandle" ∧ y_E_make.cls ≠ "java/lang/invoke/VarHandle" ∧ (parseMethodDescriptor y_E_make.desc).map (fun d => d.parameters.length) = some 2 := by decide +kernel
theorem q_E_rowTimes : y_E_rowTimes.cls ≠ "java/lang/invoke/MethodHandle" ∧ y_E_rowTimes.cls ≠ "java/lang/invoke/VarHandle" ∧ (parseMethodDescriptor y_E_rowTimes.desc).map (fun d => d.parameters.length) = some 3 := by decide +kernel
theorem q_E_multiply : y_E_multiply.cls ≠ "java/lang/invoke/MethodHandle" ∧ y_E_multiply.cls ≠ "java/lang/invoke/VarHandle" ∧ (parseMethodDescriptor y_E_multiply.desc).map (fun d => d.parameters.length) = some 2 := by decide +kernel
theorem q_E_findGrowth : y_E_findGrowth.cls ≠ "java/lang/invoke/MethodHandle" ∧ y_E_findGrowth.cls ≠ "java/lang/invoke/VarHandle" ∧ (parseMethodDescriptor y_E_findGrowth.desc).map (fun d => d.parameters.length) = some 1 := by decide +kernel
theorem q_E_growPolynomial : y_E_growPolynomial.cls ≠ "java/lang/invoke/MethodHandle" ∧ y_E_growPolynomial.cls ≠ "java/lang/invoke/VarHandle" ∧ (parseMethodDescriptor y_E_growPolynomial.desc).map (fun d => d.parameters.length) = some 1 := by decide +kernel
theorem q_E_findWeakUnknown : y_E_findWeakUnknown.cls ≠ "java/lang/invoke/MethodHandle" ∧ y_E_findWeakUnknown.cls ≠ "java/lang/invoke/VarHandle" ∧ (parseMethodDescriptor y_E_findWeakUnknown.desc).map (fun d => d.parameters.length) = some 0 := by decide +kernel
theorem q_S_solve : y_S_solve.cls ≠ "java/lang/invoke/MethodHandle" ∧ y_S_solve.cls ≠ "java/lang/invoke/VarHandle" ∧ (parseMethodDescriptor y_S_solve.desc).map (fun d => d.parameters.length) = some 0 := by decide +kernel
theorem q_S_open : y_S_open.cls ≠ "java/lang/invoke/MethodHandle" ∧ y_S_open.cls ≠ "java/lang/invoke/VarHandle" ∧ (parseMethodDescriptor y_S_open.desc).map (fun d => d.parameters.length) = some 0 := by decide +kernel
theorem q_S_isNodeThere : y_S_isNodeThere.cls ≠ "java/lang/invoke/MethodHandle" ∧ y_S_isNodeThere.cls ≠ "java/lang/invoke/VarHandle" ∧ (parseMethodDescriptor y_S_isNodeThere.desc).map (fun d => d.parameters.length) = some 1 := by decide +kernel
theorem q_S_isPart : y_S_isPart.cls ≠ "java/lang/invoke/MethodHandle" ∧ y_S_isPart.cls ≠ "java/lang/invoke/VarHandle" ∧ (parseMethodDescriptor y_S_isPart.desc).map (fun d => d.parameters.length) = some 1 := by decide +kernel
theorem q_S_isAnswerable : y_S_isAnswerable.cls ≠ "java/lang/invoke/MethodHandle" ∧ y_S_isAnswerable.cls ≠ "java/lang/invoke/VarHandle" ∧ (parseMethodDescriptor y_S_isAnswerable.desc).map (fun d => d.parameters.length) = some 3 := by decide +kernel
theorem q_R_chooseCase : y_R_chooseCase.cls ≠ "java/lang/invoke/MethodHandle" ∧ y_R_chooseCase.cls ≠ "java/lang/invoke/VarHandle" ∧ (parseMethodDescriptor y_R_chooseCase.desc).map (fun d => d.parameters.length) = some 1 := by decide +kernel
theorem q_E_wholeMinor : y_E_wholeMinor.cls ≠ "java/lang/invoke/MethodHandle" ∧ y_E_wholeMinor.cls ≠ "java/lang/invoke/VarHandle" ∧ (parseMethodDescriptor y_E_wholeMinor.desc).map (fun d => d.parameters.length) = some 0 := by decide +kernel
theorem q_R_sumUpLoads : y_R_sumUpLoads.cls ≠ "java/lang/invoke/MethodHandle" ∧ y_R_sumUpLoads.cls ≠ "java/lang/invoke/VarHandle" ∧ (parseMethodDescriptor y_R_sumUpLoads.desc).map (fun d => d.parameters.length) = some 1 := by decide +kernel
theorem q_R_heldDisplacement : y_R_heldDisplacement.cls ≠ "java/lang/invoke/MethodHandle" ∧ y_R_heldDisplacement.cls ≠ "java/lang/invoke/VarHandle" ∧ (parseMethodDescriptor y_R_heldDisplacement.desc).map (fun d => d.parameters.length) = some 2 := by decide +kernel
theorem q_R_moveHeldSlots : y_R_moveHeldSlots.cls ≠ "java/lang/invoke/MethodHandle" ∧ y_R_moveHeldSlots.cls ≠ "java/lang/invoke/VarHandle" ∧ (parseMethodDescriptor y_R_moveHeldSlots.desc).map (fun d => d.parameters.length) = some 1 := by decide +kernel
theorem q_R_findRightSide : y_R_findRightSide.cls ≠ "java/lang/invoke/MethodHandle" ∧ y_R_findRightSide.cls ≠ "java/lang/invoke/VarHandle" ∧ (parseMethodDescriptor y_R_findRightSide.desc).map (fun d => d.parameters.length) = some 3 := by decide +kernel
theorem q_E_solveScaled : y_E_solveScaled.cls ≠ "java/lang/invoke/MethodHandle" ∧ y_E_solveScaled.cls ≠ "java/lang/invoke/VarHandle" ∧ (parseMethodDescriptor y_E_solveScaled.desc).map (fun d => d.parameters.length) = some 2 := by decide +kernel
theorem q_R_respond : y_R_respond.cls ≠ "java/lang/invoke/MethodHandle" ∧ y_R_respond.cls ≠ "java/lang/invoke/VarHandle" ∧ (parseMethodDescriptor y_R_respond.desc).map (fun d => d.parameters.length) = some 3 := by decide +kernel
theorem q_S_greatestDivisor : y_S_greatestDivisor.cls ≠ "java/lang/invoke/MethodHandle" ∧ y_S_greatestDivisor.cls ≠ "java/lang/invoke/VarHandle" ∧ (parseMethodDescriptor y_S_greatestDivisor.desc).map (fun d => d.parameters.length) = some 2 := by decide +kernel
theorem q_S_partOfFraction : y_S_partOfFraction.cls ≠ "java/lang/invoke/MethodHandle" ∧ y_S_partOfFraction.cls ≠ "java/lang/invoke/VarHandle" ∧ (parseMethodDescriptor y_S_partOfFraction.desc).map (fun d => d.parameters.length) = some 2 := by decide +kernel
theorem q_S_displacement : y_S_displacement.cls ≠ "java/lang/invoke/MethodHandle" ∧ y_S_displacement.cls ≠ "java/lang/invoke/VarHandle" ∧ (parseMethodDescriptor y_S_displacement.desc).map (fun d => d.parameters.length) = some 4 := by decide +kernel
theorem q_R_forceNumerator : y_R_forceNumerator.cls ≠ "java/lang/invoke/MethodHandle" ∧ y_R_forceNumerator.cls ≠ "java/lang/invoke/VarHandle" ∧ (parseMethodDescriptor y_R_forceNumerator.desc).map (fun d => d.parameters.length) = some 2 := by decide +kernel
theorem q_S_force : y_S_force.cls ≠ "java/lang/invoke/MethodHandle" ∧ y_S_force.cls ≠ "java/lang/invoke/VarHandle" ∧ (parseMethodDescriptor y_S_force.desc).map (fun d => d.parameters.length) = some 3 := by decide +kernel
theorem q_R_reactionNumerator : y_R_reactionNumerator.cls ≠ "java/lang/invoke/MethodHandle" ∧ y_R_reactionNumerator.cls ≠ "java/lang/invoke/VarHandle" ∧ (parseMethodDescriptor y_R_reactionNumerator.desc).map (fun d => d.parameters.length) = some 2 := by decide +kernel
theorem q_S_reaction : y_S_reaction.cls ≠ "java/lang/invoke/MethodHandle" ∧ y_S_reaction.cls ≠ "java/lang/invoke/VarHandle" ∧ (parseMethodDescriptor y_S_reaction.desc).map (fun d => d.parameters.length) = some 4 := by decide +kernel
theorem q_R_chooseFactors : y_R_chooseFactors.cls ≠ "java/lang/invoke/MethodHandle" ∧ y_R_chooseFactors.cls ≠ "java/lang/invoke/VarHandle" ∧ (parseMethodDescriptor y_R_chooseFactors.desc).map (fun d => d.parameters.length) = some 1 := by decide +kernel
theorem q_S_combined : y_S_combined.cls ≠ "java/lang/invoke/MethodHandle" ∧ y_S_combined.cls ≠ "java/lang/invoke/VarHandle" ∧ (parseMethodDescriptor y_S_combined.desc).map (fun d => d.parameters.length) = some 4 := by decide +kernel
theorem q_S_determinant : y_S_determinant.cls ≠ "java/lang/invoke/MethodHandle" ∧ y_S_determinant.cls ≠ "java/lang/invoke/VarHandle" ∧ (parseMethodDescriptor y_S_determinant.desc).map (fun d => d.parameters.length) = some 0 := by decide +kernel
theorem q_S_order : y_S_order.cls ≠ "java/lang/invoke/MethodHandle" ∧ y_S_order.cls ≠ "java/lang/invoke/VarHandle" ∧ (parseMethodDescriptor y_S_order.desc).map (fun d => d.parameters.length) = some 1 := by decide +kernel
theorem q_S_unknown : y_S_unknown.cls ≠ "java/lang/invoke/MethodHandle" ∧ y_S_unknown.cls ≠ "java/lang/invoke/VarHandle" ∧ (parseMethodDescriptor y_S_unknown.desc).map (fun d => d.parameters.length) = some 2 := by decide +kernel
theorem q_E_profile : y_E_profile.cls ≠ "java/lang/invoke/MethodHandle" ∧ y_E_profile.cls ≠ "java/lang/invoke/VarHandle" ∧ (parseMethodDescriptor y_E_profile.desc).map (fun d => d.parameters.length) = some 0 := by decide +kernel
theorem q_S_count : y_S_count.cls ≠ "java/lang/invoke/MethodHandle" ∧ y_S_count.cls ≠ "java/lang/invoke/VarHandle" ∧ (parseMethodDescriptor y_S_count.desc).map (fun d => d.parameters.length) = some 1 := by decide +kernel
theorem q_M_off : y_M_off.cls ≠ "java/lang/invoke/MethodHandle" ∧ y_M_off.cls ≠ "java/lang/invoke/VarHandle" ∧ (parseMethodDescriptor y_M_off.desc).map (fun d => d.parameters.length) = some 2 := by decide +kernel
theorem q_M_node : y_M_node.cls ≠ "java/lang/invoke/MethodHandle" ∧ y_M_node.cls ≠ "java/lang/invoke/VarHandle" ∧ (parseMethodDescriptor y_M_node.desc).map (fun d => d.parameters.length) = some 3 := by decide +kernel
theorem q_M_bar : y_M_bar.cls ≠ "java/lang/invoke/MethodHandle" ∧ y_M_bar.cls ≠ "java/lang/invoke/VarHandle" ∧ (parseMethodDescriptor y_M_bar.desc).map (fun d => d.parameters.length) = some 3 := by decide +kernel
theorem q_M_unbar : y_M_unbar.cls ≠ "java/lang/invoke/MethodHandle" ∧ y_M_unbar.cls ≠ "java/lang/invoke/VarHandle" ∧ (parseMethodDescriptor y_M_unbar.desc).map (fun d => d.parameters.length) = some 1 := by decide +kernel
theorem q_M_hold : y_M_hold.cls ≠ "java/lang/invoke/MethodHandle" ∧ y_M_hold.cls ≠ "java/lang/invoke/VarHandle" ∧ (parseMethodDescriptor y_M_hold.desc).map (fun d => d.parameters.length) = some 4 := by decide +kernel
theorem q_M_spring : y_M_spring.cls ≠ "java/lang/invoke/MethodHandle" ∧ y_M_spring.cls ≠ "java/lang/invoke/VarHandle" ∧ (parseMethodDescriptor y_M_spring.desc).map (fun d => d.parameters.length) = some 3 := by decide +kernel
theorem q_M_load : y_M_load.cls ≠ "java/lang/invoke/MethodHandle" ∧ y_M_load.cls ≠ "java/lang/invoke/VarHandle" ∧ (parseMethodDescriptor y_M_load.desc).map (fun d => d.parameters.length) = some 4 := by decide +kernel
theorem q_M_good : y_M_good.cls ≠ "java/lang/invoke/MethodHandle" ∧ y_M_good.cls ≠ "java/lang/invoke/VarHandle" ∧ (parseMethodDescriptor y_M_good.desc).map (fun d => d.parameters.length) = some 1 := by decide +kernel
theorem q_M_exchange : y_M_exchange.cls ≠ "java/lang/invoke/MethodHandle" ∧ y_M_exchange.cls ≠ "java/lang/invoke/VarHandle" ∧ (parseMethodDescriptor y_M_exchange.desc).map (fun d => d.parameters.length) = some 2 := by decide +kernel
theorem q_M_powered : y_M_powered.cls ≠ "java/lang/invoke/MethodHandle" ∧ y_M_powered.cls ≠ "java/lang/invoke/VarHandle" ∧ (parseMethodDescriptor y_M_powered.desc).map (fun d => d.parameters.length) = some 3 := by decide +kernel
theorem q_M_clear : y_M_clear.cls ≠ "java/lang/invoke/MethodHandle" ∧ y_M_clear.cls ≠ "java/lang/invoke/VarHandle" ∧ (parseMethodDescriptor y_M_clear.desc).map (fun d => d.parameters.length) = some 3 := by decide +kernel
theorem q_M_modulo : y_M_modulo.cls ≠ "java/lang/invoke/MethodHandle" ∧ y_M_modulo.cls ≠ "java/lang/invoke/VarHandle" ∧ (parseMethodDescriptor y_M_modulo.desc).map (fun d => d.parameters.length) = some 3 := by decide +kernel
theorem q_M_det : y_M_det.cls ≠ "java/lang/invoke/MethodHandle" ∧ y_M_det.cls ≠ "java/lang/invoke/VarHandle" ∧ (parseMethodDescriptor y_M_det.desc).map (fun d => d.parameters.length) = some 2 := by decide +kernel
theorem q_M_inOrder : y_M_inOrder.cls ≠ "java/lang/invoke/MethodHandle" ∧ y_M_inOrder.cls ≠ "java/lang/invoke/VarHandle" ∧ (parseMethodDescriptor y_M_inOrder.desc).map (fun d => d.parameters.length) = some 1 := by decide +kernel
theorem q_M_joined : y_M_joined.cls ≠ "java/lang/invoke/MethodHandle" ∧ y_M_joined.cls ≠ "java/lang/invoke/VarHandle" ∧ (parseMethodDescriptor y_M_joined.desc).map (fun d => d.parameters.length) = some 2 := by decide +kernel
theorem q_M_neighbours : y_M_neighbours.cls ≠ "java/lang/invoke/MethodHandle" ∧ y_M_neighbours.cls ≠ "java/lang/invoke/VarHandle" ∧ (parseMethodDescriptor y_M_neighbours.desc).map (fun d => d.parameters.length) = some 1 := by decide +kernel
theorem q_M_candidate : y_M_candidate.cls ≠ "java/lang/invoke/MethodHandle" ∧ y_M_candidate.cls ≠ "java/lang/invoke/VarHandle" ∧ (parseMethodDescriptor y_M_candidate.desc).map (fun d => d.parameters.length) = some 1 := by decide +kernel
theorem q_M_append : y_M_append.cls ≠ "java/lang/invoke/MethodHandle" ∧ y_M_append.cls ≠ "java/lang/invoke/VarHandle" ∧ (parseMethodDescriptor y_M_append.desc).map (fun d => d.parameters.length) = some 1 := by decide +kernel
theorem q_M_makeOrder : y_M_makeOrder.cls ≠ "java/lang/invoke/MethodHandle" ∧ y_M_makeOrder.cls ≠ "java/lang/invoke/VarHandle" ∧ (parseMethodDescriptor y_M_makeOrder.desc).map (fun d => d.parameters.length) = some 0 := by decide +kernel
theorem q_M_sign : y_M_sign.cls ≠ "java/lang/invoke/MethodHandle" ∧ y_M_sign.cls ≠ "java/lang/invoke/VarHandle" ∧ (parseMethodDescriptor y_M_sign.desc).map (fun d => d.parameters.length) = some 1 := by decide +kernel
theorem q_M_way : y_M_way.cls ≠ "java/lang/invoke/MethodHandle" ∧ y_M_way.cls ≠ "java/lang/invoke/VarHandle" ∧ (parseMethodDescriptor y_M_way.desc).map (fun d => d.parameters.length) = some 2 := by decide +kernel
theorem q_M_makeMatrix : y_M_makeMatrix.cls ≠ "java/lang/invoke/MethodHandle" ∧ y_M_makeMatrix.cls ≠ "java/lang/invoke/VarHandle" ∧ (parseMethodDescriptor y_M_makeMatrix.desc).map (fun d => d.parameters.length) = some 0 := by decide +kernel
theorem q_M_solve : y_M_solve.cls ≠ "java/lang/invoke/MethodHandle" ∧ y_M_solve.cls ≠ "java/lang/invoke/VarHandle" ∧ (parseMethodDescriptor y_M_solve.desc).map (fun d => d.parameters.length) = some 0 := by decide +kernel
theorem q_M_open : y_M_open.cls ≠ "java/lang/invoke/MethodHandle" ∧ y_M_open.cls ≠ "java/lang/invoke/VarHandle" ∧ (parseMethodDescriptor y_M_open.desc).map (fun d => d.parameters.length) = some 0 := by decide +kernel
theorem q_M_fixedOf : y_M_fixedOf.cls ≠ "java/lang/invoke/MethodHandle" ∧ y_M_fixedOf.cls ≠ "java/lang/invoke/VarHandle" ∧ (parseMethodDescriptor y_M_fixedOf.desc).map (fun d => d.parameters.length) = some 2 := by decide +kernel
theorem q_M_loadOf : y_M_loadOf.cls ≠ "java/lang/invoke/MethodHandle" ∧ y_M_loadOf.cls ≠ "java/lang/invoke/VarHandle" ∧ (parseMethodDescriptor y_M_loadOf.desc).map (fun d => d.parameters.length) = some 2 := by decide +kernel
theorem q_M_moved : y_M_moved.cls ≠ "java/lang/invoke/MethodHandle" ∧ y_M_moved.cls ≠ "java/lang/invoke/VarHandle" ∧ (parseMethodDescriptor y_M_moved.desc).map (fun d => d.parameters.length) = some 2 := by decide +kernel
theorem q_M_determinant : y_M_determinant.cls ≠ "java/lang/invoke/MethodHandle" ∧ y_M_determinant.cls ≠ "java/lang/invoke/VarHandle" ∧ (parseMethodDescriptor y_M_determinant.desc).map (fun d => d.parameters.length) = some 0 := by decide +kernel
theorem q_M_fraction : y_M_fraction.cls ≠ "java/lang/invoke/MethodHandle" ∧ y_M_fraction.cls ≠ "java/lang/invoke/VarHandle" ∧ (parseMethodDescriptor y_M_fraction.desc).map (fun d => d.parameters.length) = some 3 := by decide +kernel
theorem q_M_combined : y_M_combined.cls ≠ "java/lang/invoke/MethodHandle" ∧ y_M_combined.cls ≠ "java/lang/invoke/VarHandle" ∧ (parseMethodDescriptor y_M_combined.desc).map (fun d => d.parameters.length) = some 4 := by decide +kernel
theorem q_M_displacement : y_M_displacement.cls ≠ "java/lang/invoke/MethodHandle" ∧ y_M_displacement.cls ≠ "java/lang/invoke/VarHandle" ∧ (parseMethodDescriptor y_M_displacement.desc).map (fun d => d.parameters.length) = some 4 := by decide +kernel
theorem q_M_pull : y_M_pull.cls ≠ "java/lang/invoke/MethodHandle" ∧ y_M_pull.cls ≠ "java/lang/invoke/VarHandle" ∧ (parseMethodDescriptor y_M_pull.desc).map (fun d => d.parameters.length) = some 2 := by decide +kernel
theorem q_M_force : y_M_force.cls ≠ "java/lang/invoke/MethodHandle" ∧ y_M_force.cls ≠ "java/lang/invoke/VarHandle" ∧ (parseMethodDescriptor y_M_force.desc).map (fun d => d.parameters.length) = some 3 := by decide +kernel
theorem q_M_reaction : y_M_reaction.cls ≠ "java/lang/invoke/MethodHandle" ∧ y_M_reaction.cls ≠ "java/lang/invoke/VarHandle" ∧ (parseMethodDescriptor y_M_reaction.desc).map (fun d => d.parameters.length) = some 4 := by decide +kernel
theorem q_M_order : y_M_order.cls ≠ "java/lang/invoke/MethodHandle" ∧ y_M_order.cls ≠ "java/lang/invoke/VarHandle" ∧ (parseMethodDescriptor y_M_order.desc).map (fun d => d.parameters.length) = some 1 := by decide +kernel
theorem q_M_unknown : y_M_unknown.cls ≠ "java/lang/invoke/MethodHandle" ∧ y_M_unknown.cls ≠ "java/lang/invoke/VarHandle" ∧ (parseMethodDescriptor y_M_unknown.desc).map (fun d => d.parameters.length) = some 2 := by decide +kernel
theorem q_M_profile : y_M_profile.cls ≠ "java/lang/invoke/MethodHandle" ∧ y_M_profile.cls ≠ "java/lang/invoke/VarHandle" ∧ (parseMethodDescriptor y_M_profile.desc).map (fun d => d.parameters.length) = some 0 := by decide +kernel
theorem q_M_count : y_M_count.cls ≠ "java/lang/invoke/MethodHandle" ∧ y_M_count.cls ≠ "java/lang/invoke/VarHandle" ∧ (parseMethodDescriptor y_M_count.desc).map (fun d => d.parameters.length) = some 1 := by decide +kernel
end
section
/-! Making arrays over a store's kinds: each new row has the kind's own number cy -/
def vr_row (q N : Nat) (x : va_E) : va_W := (List.range N).map (fun i => (q + 1 + i, x))
theorem vr_at {q N : Nat} {x : va_E} {k : Nat} {y : Nat × va_E} (h : (vr_row q N x)[k]? = some y) : k < N ∧ y = (q + 1 + k, x) := by
  unfold vr_row at h
  rw [List.getElem?_map] at h
  by_cases hk : k < N
  · rw [List.getElem?_range hk] at h
    exact ⟨hk, (Option.some.inj h).symm⟩
  · have : (List.range N)[k]? = none := List.getElem?_eq_none (by rw [List.length_range]; omega)
    rw [this] at h
    cases h
theorem vr_outer (c : ClassId) (N h0 : Nat) : ∀ i : Nat, Jvm.Free.Multi.outerC c N h0 i = arrV c N (fun j => va_rf (if j < i then some (h0 + 1 + j) else none))
  | 0 => by
    show ({ cls := c, slots := Array.replicate N .null, vm := .none } : Cell) = _
    rw [arrV_new]
    refine congrArg (arrV c N) (funext fun j => ?_)
    simp [va_rf]
  | i + 1 => by
    show (Jvm.Free.Multi.outerC c N h0 i).setSlot i (.ref (h0 + 1 + i)) = _
    rw [vr_outer c N h0 i, arrV_store]
    refine congrArg (arrV c N) (funext fun j => ?_)
    by_cases e : j = i
    · subst e
      simp [updV, va_rf]
    · by_cases h : j < i
      · simp [updV, e, h, Nat.lt_succ_of_lt h]
      · simp [updV, e, h, show ¬ j < i + 1 by omega]
section WN
variable {p : Program} {l : Launch} {e : Env} {R : Room} {s : State} {m : MethodId} {args : Array Value} {below : List Frame} {meth : Method} {c : Code} {H : Heap} {locs : List Loc} {cells slots : Nat} {Q : State → Prop}
variable {cc : ByteArray} {pc : Nat} {ls : Array Slot} {rest : List Value} {D : va_G} {cl : List vw_C} {A : Nat → Prop} {H0 : Heap} {ws : va_W} {cy : Nat → ClassId}
theorem wz_newa (hexec : p.tables.exec = Jvm.exec) (hb : c.code = cc) {atype : ArrayType} (harr : (Cond.arrayClass (newarray.typeOf atype)).before args s = true) {ty : FieldType} (hty : newarray.typeOf atype = ty) (k : Nat) (hk : (gTy cy)[k]? = some (cy k, ty)) (hu : ∀ a b : ClassId, va_RA s a ty → va_RA s b ty → a = b) (hK : va_K D cl (gTy cy) s) (hP : va_P D cl ws H) (hD : va_D A ws) (hS : va_S A H0 H locs) (hA : ∀ q, H0.size ≤ q → A q)
    {n : Int32} {N' : Nat} {a0 : vp_A} (ha : ∀ cA : ClassId, vp_cell cA a0 = arrV cA N' (fun _ => defaultValue ty)) (hn : ¬ n < 0) (hN : n.toNatClampNeg = N') (hbytes : N' * componentBytes ty ≤ 536870912) (hcells : cells + 1 ≤ R.cells) (hslots : slots + N' ≤ R.slots) (hdg : decode cc pc = .ok (.newarray atype, 2))
    (kk : ∀ (q : Nat) (H1 : Heap), va_P D cl (ws ++ [(q, .inl (cy k, a0))]) H1 → va_D A (ws ++ [(q, .inl (cy k, a0))]) → va_S A H0 H1 locs →
      W p l e R s m args below meth c H1 locs (cells + 1) (slots + N') Q (F0 m (pc + 2) ls (.ref q :: rest))) : W p l e R s m args below meth c H locs cells slots Q (F0 m pc ls (.int n :: rest)) := by
  refine va_newa hexec hb harr hty hK hP hD hS hA ha hn hN hbytes hcells hslots hdg (fun q cA H1 hK1 hP1 hD1 hS1 => ?_)
  have h1 : va_RA s cA ty := (hK1.2 5 (cA, ty) rfl).2
  have h2 : va_RA s (cy k) ty := (hK.2 k _ hk).2
  have e1 := hu cA (cy k) h1 h2
  subst e1
  exact kk q H1 hP1 hD1 hS1
theorem wz_mna (hexec : p.tables.exec = Jvm.exec) (hb : c.code = cc) {own : String} {index : Nat} {ty : FieldType} (hown : s.vm.findClass own = some m.cls) (hclink : (Cond.classLink own index ("[" ++ (FieldType.array ty).toString)).before args s = true) (hover : (Cond.arrayOver (.array ty)).before args s = true) (harr : (Cond.arrayClass ty).before args s = true) {cI cO : ClassId} (hcI : s.vm.findClass (FieldType.array ty).toString = some cI) (hcO : s.vm.findClass ("[" ++ (FieldType.array ty).toString) = some cO)
    (hP : va_P D cl ws H) (hD : va_D A ws) (hS : va_S A H0 H locs) (hA : ∀ q, H0.size ≤ q → A q) {n k : Int32} {N' K' : Nat} {z : vp_A} (hn : ¬ n < 0) (hk : ¬ k < 0) (hN : n.toNatClampNeg = N') (hM : k.toNatClampNeg = K')
    (hb1 : N' * 4 ≤ 536870912) (hb2 : K' * componentBytes ty ≤ 536870912) (hb3 : K' ≤ 536870912) (hdf : fits ty (defaultValue ty) = true) (hdd : (defaultValue ty).isDefault = true) (hcells : cells + (1 + N') ≤ R.cells) (hslots : slots + (N' + N' * K') ≤ R.slots) (hz : ∀ c : ClassId, Jvm.Free.Multi.innerC c K' (defaultValue ty) = vp_cell c z) (hdg : decode cc pc = .ok (.multianewarray index 2, 4))
    (kk : ∀ (q : Nat) (H1 : Heap), va_P D cl (ws ++ ((q, .inl (cO, N', .inr (.inr (.inr (.inr (fun i => if i < N' then some (q + 1 + i) else none)))))) :: vr_row q N' (.inl (cI, z)))) H1 → va_D A (ws ++ ((q, .inl (cO, N', .inr (.inr (.inr (.inr (fun i => if i < N' then some (q + 1 + i) else none)))))) :: vr_row q N' (.inl (cI, z)))) → va_S A H0 H1 locs →
      W p l e R s m args below meth c H1 locs (cells + 1 + N') (slots + N' + N' * K') Q (F0 m (pc + 4) ls (.ref q :: rest))) : W p l e R s m args below meth c H locs cells slots Q (F0 m pc ls (.int k :: .int n :: rest)) := by
  subst hN
  subst hM
  intro T hT Xs
  obtain ⟨vm₁, cA, comp, -, fA, fC, hO, -, X', step⟩ := Xs.multianewarray2F hexec hown hclink hover harr (g := F0 m pc ls (.int k :: .int n :: rest)) rfl (by rw [hb]; exact hdg) rfl hn hk hb1 hb2 hb3 hdf hdd hcells hslots
  cases Option.some.inj (hcI.symm.trans fC)
  cases Option.some.inj (hcO.symm.trans fA)
  generalize hF : Jvm.Free.Multi.fill (T.setVm vm₁) cO cI n.toNatClampNeg k.toNatClampNeg (defaultValue ty) n.toNatClampNeg = F at X' step
  have hTh : (T.setVm vm₁).heap = H := hT
  obtain ⟨f1, f2, -, -⟩ := Jvm.Free.Multi.fill_facts (T.setVm vm₁) cO cI n.toNatClampNeg k.toNatClampNeg (defaultValue ty) n.toNatClampNeg
  rw [hF, hTh] at f1 f2
  have hold : ∀ x : Nat, x < H.size → F.heap[x]? = H[x]? := fun x hx => by
    have := Jvm.Free.Multi.fill_old (T.setVm vm₁) cO cI n.toNatClampNeg k.toNatClampNeg (defaultValue ty) (a := x) (by rw [hTh]; exact hx) n.toNatClampNeg
    rw [hF, hTh] at this
    exact this
  have hrow : ∀ j : Nat, j < n.toNatClampNeg → F.heap[H.size + 1 + j]? = some (vp_cell cI z) := fun j hj => by
    have := Jvm.Free.Multi.fill_inner (T.setVm vm₁) cO cI n.toNatClampNeg k.toNatClampNeg (defaultValue ty) n.toNatClampNeg j hj
    rw [hF, hTh, hz] at this
    exact this
  have hout : Jvm.Free.Multi.outerC cO n.toNatClampNeg H.size n.toNatClampNeg = vp_cell cO (n.toNatClampNeg, .inr (.inr (.inr (.inr (fun i => if i < n.toNatClampNeg then some (H.size + 1 + i) else none))))) := by
    rw [vp_cell_q]
    exact vr_outer cO n.toNatClampNeg H.size n.toNatClampNeg
  rw [hout] at f2
  have hP0 : va_P D cl ws F.heap := hP.kept (fun k9 x hx => hold x.1 ((hP k9 x hx).lt))
  have hcons : ∀ (k9 : Nat) (x : Nat × va_E), ((H.size, .inl (cO, n.toNatClampNeg, .inr (.inr (.inr (.inr (fun i => if i < n.toNatClampNeg then some (H.size + 1 + i) else none)))))) :: vr_row H.size n.toNatClampNeg (.inl (cI, z)))[k9]? = some x → x.1 = H.size + k9 ∧ va_at D cl x F.heap := by
    intro k9 x hx
    match k9, hx with
    | 0, hx =>
      cases hx
      exact ⟨rfl, f2⟩
    | k9 + 1, hx =>
      rw [List.getElem?_cons_succ] at hx
      obtain ⟨h1, rfl⟩ := vr_at hx
      exact ⟨by show H.size + 1 + k9 = H.size + (k9 + 1); omega, hrow k9 h1⟩
  have hP2 : va_P D cl (ws ++ ((H.size, .inl (cO, n.toNatClampNeg, .inr (.inr (.inr (.inr (fun i => if i < n.toNatClampNeg then some (H.size + 1 + i) else none)))))) :: vr_row H.size n.toNatClampNeg (.inl (cI, z)))) F.heap := hP0.app (fun k9 x hx => (hcons k9 x hx).2)
  have hlow : ∀ (k9 : Nat) (x : Nat × va_E), ws[k9]? = some x → x.1 < H.size := fun k9 x hx => (hP k9 x hx).lt
  have hD2 : va_D A (ws ++ ((H.size, .inl (cO, n.toNatClampNeg, .inr (.inr (.inr (.inr (fun i => if i < n.toNatClampNeg then some (H.size + 1 + i) else none)))))) :: vr_row H.size n.toNatClampNeg (.inl (cI, z)))) := by
    refine hD.app ⟨fun i j x y hx hy hxy => ?_, fun k9 x hx => ?_⟩ (fun i j x y hx hy => ?_)
    · have h1 := (hcons i x hx).1
      have h2 := (hcons j y hy).1
      omega
    · have h1 := (hcons k9 x hx).1
      exact hA _ (by have := hS.1; omega)
    · have h1 := hlow i x hx
      have h2 := (hcons j y hy).1
      omega
  obtain ⟨t, a1, b1⟩ := kk H.size F.heap hP2 hD2 ⟨by rw [f1]; have := hS.1; omega, fun x h1 h2 => (hold x (Nat.lt_of_lt_of_le h1 hS.1)).trans (hS.2.1 x h1 h2), hS.2.2⟩ F rfl X'
  refine ⟨t, step t ?_, b1⟩
  have e9 : T.heap.size = H.size := by rw [hT]
  rw [e9]
  exact a1
end WN
theorem ra_int {s : State} (a b : ClassId) (h1 : va_RA s a .int) (h2 : va_RA s b .int) : a = b := Option.some.inj (Eq.trans (Eq.symm h1) h2)
theorem ra_bool {s : State} (a b : ClassId) (h1 : va_RA s a .boolean) (h2 : va_RA s b .boolean) : a = b := Option.some.inj (Eq.trans (Eq.symm h1) h2)
theorem ra_long {s : State} (a b : ClassId) (h1 : va_RA s a .long) (h2 : va_RA s b .long) : a = b := Option.some.inj (Eq.trans (Eq.symm h1) h2)
theorem hk_I {D : va_G} {cl : List vw_C} {cy : Nat → ClassId} {s : State} (hK : va_K D cl (gTy cy) s) : s.vm.findClass (FieldType.array .int).toString = some (cy 0) := (hK.2 0 (cy 0, .int) rfl).2
theorem hk_J {D : va_G} {cl : List vw_C} {cy : Nat → ClassId} {s : State} (hK : va_K D cl (gTy cy) s) : s.vm.findClass (FieldType.array .long).toString = some (cy 2) := (hK.2 2 (cy 2, .long) rfl).2
theorem hk_II {D : va_G} {cl : List vw_C} {cy : Nat → ClassId} {s : State} (hK : va_K D cl (gTy cy) s) : s.vm.findClass ("[" ++ (FieldType.array .int).toString) = some (cy 3) := (hK.2 3 (cy 3, .array .int) rfl).2
theorem hk_JJ {D : va_G} {cl : List vw_C} {cy : Nat → ClassId} {s : State} (hK : va_K D cl (gTy cy) s) : s.vm.findClass ("[" ++ (FieldType.array .long).toString) = some (cy 4) := (hK.2 4 (cy 4, .array .long) rfl).2
theorem ao_any {t : FieldType} {a b : Array Value} {s : State} (h : (Cond.arrayOver (.array t)).before a s = true) : (Cond.arrayOver (.array t)).before b s = true := h
end
section
theorem kw_63 : Cond.instanceMethod Lib.objectInit ∈ gt_ws := gt_of 63 (by decide +kernel) (by decide +kernel)
theorem kw_64 : Cond.code Lib.objectInit ⟨#[0xb1]⟩ 1 none ∈ gt_ws := gt_of 64 (by decide +kernel) (by decide +kernel)
theorem kw_70 : Cond.methodLink RQ_T 3 Lib.objectInit ∈ gt_ws := gt_of 70 (by decide +kernel) (by decide +kernel)
theorem kw_71 : Cond.classLink RQ_T 41 "[[I" ∈ gt_ws := gt_of 71 (by decide +kernel) (by decide +kernel)
theorem kw_87 : Cond.fieldLink RQ_T 31 "TrussSolver$Truss" "held" "[Z" ∈ gt_ws := gt_of 87 (by decide +kernel) (by decide +kernel)
theorem kw_91 : Cond.fieldLink RQ_T 35 "TrussSolver$Truss" "heldAt" "[I" ∈ gt_ws := gt_of 91 (by decide +kernel) (by decide +kernel)
theorem kw_94 : Cond.fieldLink RQ_T 38 "TrussSolver$Truss" "springs" "[I" ∈ gt_ws := gt_of 94 (by decide +kernel) (by decide +kernel)
theorem kw_97 : Cond.fieldLink RQ_T 43 "TrussSolver$Truss" "loads" "[[I" ∈ gt_ws := gt_of 97 (by decide +kernel) (by decide +kernel)
theorem kw_121 : Cond.arrayClass .int ∈ gt_ws := gt_of 121 (by decide +kernel) (by decide +kernel)
theorem kw_122 : Cond.arrayClass .boolean ∈ gt_ws := gt_of 122 (by decide +kernel) (by decide +kernel)
theorem kw_128 : Cond.methodLink RQ_N 3 Lib.objectInit ∈ gt_ws := gt_of 128 (by decide +kernel) (by decide +kernel)
theorem kw_164 : Cond.methodLink RQ_E 3 Lib.objectInit ∈ gt_ws := gt_of 164 (by decide +kernel) (by decide +kernel)
theorem kw_165 : Cond.classLink RQ_E 9 "[[J" ∈ gt_ws := gt_of 165 (by decide +kernel) (by decide +kernel)
theorem kw_190 : Cond.arrayClass .long ∈ gt_ws := gt_of 190 (by decide +kernel) (by decide +kernel)
theorem kw_196 : Cond.methodLink RQ_R 3 Lib.objectInit ∈ gt_ws := gt_of 196 (by decide +kernel) (by decide +kernel)
theorem kw_527 : Cond.methodLink RQ_M 1 Lib.objectInit ∈ gt_ws := gt_of 527 (by decide +kernel) (by decide +kernel)
theorem s_II : "[" ++ (FieldType.array FieldType.int).toString = "[[I" := by decide +kernel
theorem s_JJ : "[" ++ (FieldType.array FieldType.long).toString = "[[J" := by decide +kernel
/-- what of the start lasts for the makers: arrays over arrays -/
def nwI (U : State) : Prop := (Cond.arrayOver (.array .int)).before #[] U = true ∧ (Cond.arrayOver (.array .long)).before #[] U = true
theorem nwI_ok : nwOk nwI := ⟨fun s U hW h => ⟨Jvm.Stand.arrayOver_alikeB hW.alike h.1, Jvm.Stand.arrayOver_alikeB hW.alike h.2⟩, fun s U hv h => ⟨Jvm.Stand.arrayOver_alikeB (by rw [hv]; exact Vm.Alike.refl _) h.1, Jvm.Stand.arrayOver_alikeB (by rw [hv]; exact Vm.Alike.refl _) h.2⟩⟩
/-- the cells that TrussSolver$Truss() leaves -/
abbrev nw_T (cy : Nat → ClassId) (h0 q1 q2 q3 q4 q5 q6 q7 q8 : Nat) : va_W := [(h0, .inr (3, [.int 0, .ref q1, .ref q2, .ref q3, .ref q4, .int 0, .ref q5, .ref q6, .ref q7, .ref q8])), (q1, .inl (cy 0, 10, .inl (fun _ => 0))), (q2, .inl (cy 0, 10, .inl (fun _ => 0))), (q3, .inl (cy 0, 10, .inl (fun _ => 0))), (q4, .inl (cy 0, 10, .inl (fun _ => 0))), (q5, .inl (cy 1, 10, .inl (fun _ => 0))), (q6, .inl (cy 0, 10, .inl (fun _ => 0))), (q7, .inl (cy 0, 10, .inl (fun _ => 0))), (q8, .inl (cy 3, 4, .inr (.inr (.inr (.inr (fun i => if i < 4 then some (q8 + 1 + i) else none)))))), (q8 + 1 + 0, .inl (cy 0, 10, .inl (fun _ => 0))), (q8 + 1 + 1, .inl (cy 0, 10, .inl (fun _ => 0))), (q8 + 1 + 2, .inl (cy 0, 10, .inl (fun _ => 0))), (q8 + 1 + 3, .inl (cy 0, 10, .inl (fun _ => 0)))]
set_option maxHeartbeats 4000000 in
set_option maxRecDepth 100000 in
theorem m_T_init (l : Launch) (D : va_G) (cy : Nat → ClassId) (h0 sz : Nat) : Met l y_T_init (Cond.code y_T_init c_T_init 1 none :: gt_ws) ({ frames := 1, cells := 12, slots := 114, locals := 45 }) (va_Pc [.ref h0] (fun U => U.heap.size = sz ∧ va_P D cl_all [(h0, .inr (3, [.int 0, .null, .null, .null, .null, .int 0, .null, .null, .null, .null]))] U.heap ∧ va_K D cl_all (gTy cy) U ∧ nwI U ∧ va_D (fun _ => True) [(h0, .inr (3, [.int 0, .null, .null, .null, .null, .int 0, .null, .null, .null, .null]))])) (va_Qv (fun (_ : Nat × Nat × Nat × Nat × Nat × Nat × Nat × Nat) => True) (fun u t => match u with | (q1, q2, q3, q4, q5, q6, q7, q8) => va_P D cl_all (nw_T cy h0 q1 q2 q3 q4 q5 q6 q7 q8) t.heap ∧ va_D (va_A [(h0, .inr (3, [.int 0, .null, .null, .null, .null, .int 0, .null, .null, .null, .null]))] sz) (nw_T cy h0 q1 q2 q3 q4 q5 q6 q7 q8)) (va_A [(h0, .inr (3, [.int 0, .null, .null, .null, .null, .int 0, .null, .null, .null, .null]))] sz)) 12 114 (va_A [(h0, .inr (3, [.int 0, .null, .null, .null, .null, .int 0, .null, .null, .null, .null]))] sz) := by
  refine Met.ofW (cc := c_T_init) (maxL := 1) (ret := none) (by decide) rfl ?_
  intro p e s m args below meth c s₁ B hml hv
  obtain ⟨rfl, hsz, hP, hK, hN, hD0⟩ := hv
  have hx := B.exec
  have hb := B.bytes
  have hr := B.returns
  have hts := atoms_spec (ws := (Cond.code y_T_init c_T_init 1 none :: gt_ws)) B.pre
  have ht : ∀ w ∈ gt_ws, w.before _ s = true := fun w h => hts w (List.mem_cons_of_mem _ h)
  have hown : s.vm.findClass RQ_T = some m.cls := findClass_of_methodNamed B.named
  have hlocks := B.notSynchronized
  have hin : meth.name = "<init>" := (name_of_methodNamed B.named B.method).1
  subst hsz
  have hD := hD0.self (sz := s.heap.size)
  obtain ⟨A, hAe⟩ : ∃ A, A = va_A [(h0, .inr (3, [.int 0, .null, .null, .null, .null, .int 0, .null, .null, .null, .null]))] s.heap.size := ⟨_, rfl⟩
  rw [← hAe] at hD
  have hA : ∀ q : Nat, s.heap.size ≤ q → A q := fun q h => by rw [hAe]; exact Or.inr h
  have hS : va_S A s.heap s.heap [] := va_S.rf
  have hl := lv_entry ([.ref h0]) (n := 1) (Nat.le_of_ble_eq_true rfl)
  rw [lg_entry_eq]
  generalize (lg_sl ([.ref h0]) ++ List.replicate (1 - (lg_sl ([.ref h0])).length) Slot.unset).toArray = ls at hl ⊢
  have hl : lv_has ls 1 [(0, .ref h0)] := hl
  refine lv_aload_n hx hb d_T_init_0 rfl (lv_at hl 0 rfl) ?_
  refine W.objInit hx hb hown (ht _ kw_70) (ht _ kw_63) (ht _ kw_64) rfl (by rw [hml]; exact hl.1) rfl d_T_init_1 (Nat.le_of_ble_eq_true rfl) (Nat.le_of_ble_eq_true rfl) ?_
  refine W.eq (g2 := F0 m 4 ls []) rfl ?_
  refine lv_aload_n hx hb d_T_init_4 rfl (lv_at hl 0 rfl) ?_
  refine lv_iconst (v := 0) hx hb d_T_init_5 (by decide) ?_
  refine va_put (D := D) (ci := 3) (v := .int 0) (ty := .int) (C := RQ_T) (T := FQ_T) (N := 10) hx hb ht IQ_T TQ_T TQ_T_ok NQ_T hown hK hP hD hS 0 rfl rfl 0 (by decide) (ht _ kw_73) (fun _ h9 => h9) rfl (by decide +kernel) rfl rfl (Nat.le_of_ble_eq_true rfl) d_T_init_6 (fun H locs hP hD hS => ?_)
  have hP : va_P D cl_all [(h0, .inr (3, [.int 0, .null, .null, .null, .null, .int 0, .null, .null, .null, .null]))] H := hP
  have hD : va_D A [(h0, .inr (3, [.int 0, .null, .null, .null, .null, .int 0, .null, .null, .null, .null]))] := hD
  refine lv_aload_n hx hb d_T_init_9 rfl (lv_at hl 0 rfl) ?_
  refine lv_bipush (v := 10) hx hb d_T_init_10 (by decide) ?_
  refine wz_newa (atype := .int) (a0 := (10, .inl (fun _ => 0))) (N' := 10) hx hb (ht _ kw_121) rfl 0 rfl ra_int hK hP hD hS hA (fun _ => rfl) (by decide) (by decide) (by decide) (Nat.le_of_ble_eq_true rfl) (Nat.le_of_ble_eq_true rfl) d_T_init_12 (fun q1 H hP hD hS => ?_)
  have hP : va_P D cl_all [(h0, .inr (3, [.int 0, .null, .null, .null, .null, .int 0, .null, .null, .null, .null])), (q1, .inl (cy 0, 10, .inl (fun _ => 0)))] H := hP
  have hD : va_D A [(h0, .inr (3, [.int 0, .null, .null, .null, .null, .int 0, .null, .null, .null, .null])), (q1, .inl (cy 0, 10, .inl (fun _ => 0)))] := hD
  refine W.widen (k := 1) (n := 10) (by omega) (by omega) ?_
  refine va_putF (D := D) (ci := 3) (v := .ref q1) (ty := .array .int) (C := RQ_T) (T := FQ_T) (N := 10) hx hb ht IQ_T TQ_T TQ_T_ok NQ_T hown hK hP hD hS 0 rfl rfl 1 (by decide) (ht _ kw_75) (fun _ h9 => h9) rfl hin rfl (by decide +kernel) rfl rfl (Nat.le_of_ble_eq_true rfl) d_T_init_14 (fun H locs hP hD hS => ?_)
  have hP : va_P D cl_all [(h0, .inr (3, [.int 0, .ref q1, .null, .null, .null, .int 0, .null, .null, .null, .null])), (q1, .inl (cy 0, 10, .inl (fun _ => 0)))] H := hP
  have hD : va_D A [(h0, .inr (3, [.int 0, .ref q1, .null, .null, .null, .int 0, .null, .null, .null, .null])), (q1, .inl (cy 0, 10, .inl (fun _ => 0)))] := hD
  refine lv_aload_n hx hb d_T_init_17 rfl (lv_at hl 0 rfl) ?_
  refine lv_bipush (v := 10) hx hb d_T_init_18 (by decide) ?_
  refine wz_newa (atype := .int) (a0 := (10, .inl (fun _ => 0))) (N' := 10) hx hb (ht _ kw_121) rfl 0 rfl ra_int hK hP hD hS hA (fun _ => rfl) (by decide) (by decide) (by decide) (Nat.le_of_ble_eq_true rfl) (Nat.le_of_ble_eq_true rfl) d_T_init_20 (fun q2 H hP hD hS => ?_)
  have hP : va_P D cl_all [(h0, .inr (3, [.int 0, .ref q1, .null, .null, .null, .int 0, .null, .null, .null, .null])), (q1, .inl (cy 0, 10, .inl (fun _ => 0))), (q2, .inl (cy 0, 10, .inl (fun _ => 0)))] H := hP
  have hD : va_D A [(h0, .inr (3, [.int 0, .ref q1, .null, .null, .null, .int 0, .null, .null, .null, .null])), (q1, .inl (cy 0, 10, .inl (fun _ => 0))), (q2, .inl (cy 0, 10, .inl (fun _ => 0)))] := hD
  refine W.widen (k := 2) (n := 20) (by omega) (by omega) ?_
  refine va_putF (D := D) (ci := 3) (v := .ref q2) (ty := .array .int) (C := RQ_T) (T := FQ_T) (N := 10) hx hb ht IQ_T TQ_T TQ_T_ok NQ_T hown hK hP hD hS 0 rfl rfl 2 (by decide) (ht _ kw_76) (fun _ h9 => h9) rfl hin rfl (by decide +kernel) rfl rfl (Nat.le_of_ble_eq_true rfl) d_T_init_22 (fun H locs hP hD hS => ?_)
  have hP : va_P D cl_all [(h0, .inr (3, [.int 0, .ref q1, .ref q2, .null, .null, .int 0, .null, .null, .null, .null])), (q1, .inl (cy 0, 10, .inl (fun _ => 0))), (q2, .inl (cy 0, 10, .inl (fun _ => 0)))] H := hP
  have hD : va_D A [(h0, .inr (3, [.int 0, .ref q1, .ref q2, .null, .null, .int 0, .null, .null, .null, .null])), (q1, .inl (cy 0, 10, .inl (fun _ => 0))), (q2, .inl (cy 0, 10, .inl (fun _ => 0)))] := hD
  refine lv_aload_n hx hb d_T_init_25 rfl (lv_at hl 0 rfl) ?_
  refine lv_bipush (v := 10) hx hb d_T_init_26 (by decide) ?_
  refine wz_newa (atype := .int) (a0 := (10, .inl (fun _ => 0))) (N' := 10) hx hb (ht _ kw_121) rfl 0 rfl ra_int hK hP hD hS hA (fun _ => rfl) (by decide) (by decide) (by decide) (Nat.le_of_ble_eq_true rfl) (Nat.le_of_ble_eq_true rfl) d_T_init_28 (fun q3 H hP hD hS => ?_)
  have hP : va_P D cl_all [(h0, .inr (3, [.int 0, .ref q1, .ref q2, .null, .null, .int 0, .null, .null, .null, .null])), (q1, .inl (cy 0, 10, .inl (fun _ => 0))), (q2, .inl (cy 0, 10, .inl (fun _ => 0))), (q3, .inl (cy 0, 10, .inl (fun _ => 0)))] H := hP
  have hD : va_D A [(h0, .inr (3, [.int 0, .ref q1, .ref q2, .null, .null, .int 0, .null, .null, .null, .null])), (q1, .inl (cy 0, 10, .inl (fun _ => 0))), (q2, .inl (cy 0, 10, .inl (fun _ => 0))), (q3, .inl (cy 0, 10, .inl (fun _ => 0)))] := hD
  refine W.widen (k := 3) (n := 30) (by omega) (by omega) ?_
  refine va_putF (D := D) (ci := 3) (v := .ref q3) (ty := .array .int) (C := RQ_T) (T := FQ_T) (N := 10) hx hb ht IQ_T TQ_T TQ_T_ok NQ_T hown hK hP hD hS 0 rfl rfl 3 (by decide) (ht _ kw_78) (fun _ h9 => h9) rfl hin rfl (by decide +kernel) rfl rfl (Nat.le_of_ble_eq_true rfl) d_T_init_30 (fun H locs hP hD hS => ?_)
  have hP : va_P D cl_all [(h0, .inr (3, [.int 0, .ref q1, .ref q2, .ref q3, .null, .int 0, .null, .null, .null, .null])), (q1, .inl (cy 0, 10, .inl (fun _ => 0))), (q2, .inl (cy 0, 10, .inl (fun _ => 0))), (q3, .inl (cy 0, 10, .inl (fun _ => 0)))] H := hP
  have hD : va_D A [(h0, .inr (3, [.int 0, .ref q1, .ref q2, .ref q3, .null, .int 0, .null, .null, .null, .null])), (q1, .inl (cy 0, 10, .inl (fun _ => 0))), (q2, .inl (cy 0, 10, .inl (fun _ => 0))), (q3, .inl (cy 0, 10, .inl (fun _ => 0)))] := hD
  refine lv_aload_n hx hb d_T_init_33 rfl (lv_at hl 0 rfl) ?_
  refine lv_bipush (v := 10) hx hb d_T_init_34 (by decide) ?_
  refine wz_newa (atype := .int) (a0 := (10, .inl (fun _ => 0))) (N' := 10) hx hb (ht _ kw_121) rfl 0 rfl ra_int hK hP hD hS hA (fun _ => rfl) (by decide) (by decide) (by decide) (Nat.le_of_ble_eq_true rfl) (Nat.le_of_ble_eq_true rfl) d_T_init_36 (fun q4 H hP hD hS => ?_)
  have hP : va_P D cl_all [(h0, .inr (3, [.int 0, .ref q1, .ref q2, .ref q3, .null, .int 0, .null, .null, .null, .null])), (q1, .inl (cy 0, 10, .inl (fun _ => 0))), (q2, .inl (cy 0, 10, .inl (fun _ => 0))), (q3, .inl (cy 0, 10, .inl (fun _ => 0))), (q4, .inl (cy 0, 10, .inl (fun _ => 0)))] H := hP
  have hD : va_D A [(h0, .inr (3, [.int 0, .ref q1, .ref q2, .ref q3, .null, .int 0, .null, .null, .null, .null])), (q1, .inl (cy 0, 10, .inl (fun _ => 0))), (q2, .inl (cy 0, 10, .inl (fun _ => 0))), (q3, .inl (cy 0, 10, .inl (fun _ => 0))), (q4, .inl (cy 0, 10, .inl (fun _ => 0)))] := hD
  refine W.widen (k := 4) (n := 40) (by omega) (by omega) ?_
  refine va_putF (D := D) (ci := 3) (v := .ref q4) (ty := .array .int) (C := RQ_T) (T := FQ_T) (N := 10) hx hb ht IQ_T TQ_T TQ_T_ok NQ_T hown hK hP hD hS 0 rfl rfl 4 (by decide) (ht _ kw_80) (fun _ h9 => h9) rfl hin rfl (by decide +kernel) rfl rfl (Nat.le_of_ble_eq_true rfl) d_T_init_38 (fun H locs hP hD hS => ?_)
  have hP : va_P D cl_all [(h0, .inr (3, [.int 0, .ref q1, .ref q2, .ref q3, .ref q4, .int 0, .null, .null, .null, .null])), (q1, .inl (cy 0, 10, .inl (fun _ => 0))), (q2, .inl (cy 0, 10, .inl (fun _ => 0))), (q3, .inl (cy 0, 10, .inl (fun _ => 0))), (q4, .inl (cy 0, 10, .inl (fun _ => 0)))] H := hP
  have hD : va_D A [(h0, .inr (3, [.int 0, .ref q1, .ref q2, .ref q3, .ref q4, .int 0, .null, .null, .null, .null])), (q1, .inl (cy 0, 10, .inl (fun _ => 0))), (q2, .inl (cy 0, 10, .inl (fun _ => 0))), (q3, .inl (cy 0, 10, .inl (fun _ => 0))), (q4, .inl (cy 0, 10, .inl (fun _ => 0)))] := hD
  refine lv_aload_n hx hb d_T_init_41 rfl (lv_at hl 0 rfl) ?_
  refine lv_iconst (v := 0) hx hb d_T_init_42 (by decide) ?_
  refine va_put (D := D) (ci := 3) (v := .int 0) (ty := .int) (C := RQ_T) (T := FQ_T) (N := 10) hx hb ht IQ_T TQ_T TQ_T_ok NQ_T hown hK hP hD hS 0 rfl rfl 5 (by decide) (ht _ kw_83) (fun _ h9 => h9) rfl (by decide +kernel) rfl rfl (Nat.le_of_ble_eq_true rfl) d_T_init_43 (fun H locs hP hD hS => ?_)
  have hP : va_P D cl_all [(h0, .inr (3, [.int 0, .ref q1, .ref q2, .ref q3, .ref q4, .int 0, .null, .null, .null, .null])), (q1, .inl (cy 0, 10, .inl (fun _ => 0))), (q2, .inl (cy 0, 10, .inl (fun _ => 0))), (q3, .inl (cy 0, 10, .inl (fun _ => 0))), (q4, .inl (cy 0, 10, .inl (fun _ => 0)))] H := hP
  have hD : va_D A [(h0, .inr (3, [.int 0, .ref q1, .ref q2, .ref q3, .ref q4, .int 0, .null, .null, .null, .null])), (q1, .inl (cy 0, 10, .inl (fun _ => 0))), (q2, .inl (cy 0, 10, .inl (fun _ => 0))), (q3, .inl (cy 0, 10, .inl (fun _ => 0))), (q4, .inl (cy 0, 10, .inl (fun _ => 0)))] := hD
  refine lv_aload_n hx hb d_T_init_46 rfl (lv_at hl 0 rfl) ?_
  refine lv_bipush (v := 10) hx hb d_T_init_47 (by decide) ?_
  refine wz_newa (atype := .boolean) (a0 := (10, .inl (fun _ => 0))) (N' := 10) hx hb (ht _ kw_122) rfl 1 rfl ra_bool hK hP hD hS hA (fun _ => rfl) (by decide) (by decide) (by decide) (Nat.le_of_ble_eq_true rfl) (Nat.le_of_ble_eq_true rfl) d_T_init_49 (fun q5 H hP hD hS => ?_)
  have hP : va_P D cl_all [(h0, .inr (3, [.int 0, .ref q1, .ref q2, .ref q3, .ref q4, .int 0, .null, .null, .null, .null])), (q1, .inl (cy 0, 10, .inl (fun _ => 0))), (q2, .inl (cy 0, 10, .inl (fun _ => 0))), (q3, .inl (cy 0, 10, .inl (fun _ => 0))), (q4, .inl (cy 0, 10, .inl (fun _ => 0))), (q5, .inl (cy 1, 10, .inl (fun _ => 0)))] H := hP
  have hD : va_D A [(h0, .inr (3, [.int 0, .ref q1, .ref q2, .ref q3, .ref q4, .int 0, .null, .null, .null, .null])), (q1, .inl (cy 0, 10, .inl (fun _ => 0))), (q2, .inl (cy 0, 10, .inl (fun _ => 0))), (q3, .inl (cy 0, 10, .inl (fun _ => 0))), (q4, .inl (cy 0, 10, .inl (fun _ => 0))), (q5, .inl (cy 1, 10, .inl (fun _ => 0)))] := hD
  refine W.widen (k := 5) (n := 50) (by omega) (by omega) ?_
  refine va_putF (D := D) (ci := 3) (v := .ref q5) (ty := .array .boolean) (C := RQ_T) (T := FQ_T) (N := 10) hx hb ht IQ_T TQ_T TQ_T_ok NQ_T hown hK hP hD hS 0 rfl rfl 6 (by decide) (ht _ kw_87) (fun _ h9 => h9) rfl hin rfl (by decide +kernel) rfl rfl (Nat.le_of_ble_eq_true rfl) d_T_init_51 (fun H locs hP hD hS => ?_)
  have hP : va_P D cl_all [(h0, .inr (3, [.int 0, .ref q1, .ref q2, .ref q3, .ref q4, .int 0, .ref q5, .null, .null, .null])), (q1, .inl (cy 0, 10, .inl (fun _ => 0))), (q2, .inl (cy 0, 10, .inl (fun _ => 0))), (q3, .inl (cy 0, 10, .inl (fun _ => 0))), (q4, .inl (cy 0, 10, .inl (fun _ => 0))), (q5, .inl (cy 1, 10, .inl (fun _ => 0)))] H := hP
  have hD : va_D A [(h0, .inr (3, [.int 0, .ref q1, .ref q2, .ref q3, .ref q4, .int 0, .ref q5, .null, .null, .null])), (q1, .inl (cy 0, 10, .inl (fun _ => 0))), (q2, .inl (cy 0, 10, .inl (fun _ => 0))), (q3, .inl (cy 0, 10, .inl (fun _ => 0))), (q4, .inl (cy 0, 10, .inl (fun _ => 0))), (q5, .inl (cy 1, 10, .inl (fun _ => 0)))] := hD
  refine lv_aload_n hx hb d_T_init_54 rfl (lv_at hl 0 rfl) ?_
  refine lv_bipush (v := 10) hx hb d_T_init_55 (by decide) ?_
  refine wz_newa (atype := .int) (a0 := (10, .inl (fun _ => 0))) (N' := 10) hx hb (ht _ kw_121) rfl 0 rfl ra_int hK hP hD hS hA (fun _ => rfl) (by decide) (by decide) (by decide) (Nat.le_of_ble_eq_true rfl) (Nat.le_of_ble_eq_true rfl) d_T_init_57 (fun q6 H hP hD hS => ?_)
  have hP : va_P D cl_all [(h0, .inr (3, [.int 0, .ref q1, .ref q2, .ref q3, .ref q4, .int 0, .ref q5, .null, .null, .null])), (q1, .inl (cy 0, 10, .inl (fun _ => 0))), (q2, .inl (cy 0, 10, .inl (fun _ => 0))), (q3, .inl (cy 0, 10, .inl (fun _ => 0))), (q4, .inl (cy 0, 10, .inl (fun _ => 0))), (q5, .inl (cy 1, 10, .inl (fun _ => 0))), (q6, .inl (cy 0, 10, .inl (fun _ => 0)))] H := hP
  have hD : va_D A [(h0, .inr (3, [.int 0, .ref q1, .ref q2, .ref q3, .ref q4, .int 0, .ref q5, .null, .null, .null])), (q1, .inl (cy 0, 10, .inl (fun _ => 0))), (q2, .inl (cy 0, 10, .inl (fun _ => 0))), (q3, .inl (cy 0, 10, .inl (fun _ => 0))), (q4, .inl (cy 0, 10, .inl (fun _ => 0))), (q5, .inl (cy 1, 10, .inl (fun _ => 0))), (q6, .inl (cy 0, 10, .inl (fun _ => 0)))] := hD
  refine W.widen (k := 6) (n := 60) (by omega) (by omega) ?_
  refine va_putF (D := D) (ci := 3) (v := .ref q6) (ty := .array .int) (C := RQ_T) (T := FQ_T) (N := 10) hx hb ht IQ_T TQ_T TQ_T_ok NQ_T hown hK hP hD hS 0 rfl rfl 7 (by decide) (ht _ kw_91) (fun _ h9 => h9) rfl hin rfl (by decide +kernel) rfl rfl (Nat.le_of_ble_eq_true rfl) d_T_init_59 (fun H locs hP hD hS => ?_)
  have hP : va_P D cl_all [(h0, .inr (3, [.int 0, .ref q1, .ref q2, .ref q3, .ref q4, .int 0, .ref q5, .ref q6, .null, .null])), (q1, .inl (cy 0, 10, .inl (fun _ => 0))), (q2, .inl (cy 0, 10, .inl (fun _ => 0))), (q3, .inl (cy 0, 10, .inl (fun _ => 0))), (q4, .inl (cy 0, 10, .inl (fun _ => 0))), (q5, .inl (cy 1, 10, .inl (fun _ => 0))), (q6, .inl (cy 0, 10, .inl (fun _ => 0)))] H := hP
  have hD : va_D A [(h0, .inr (3, [.int 0, .ref q1, .ref q2, .ref q3, .ref q4, .int 0, .ref q5, .ref q6, .null, .null])), (q1, .inl (cy 0, 10, .inl (fun _ => 0))), (q2, .inl (cy 0, 10, .inl (fun _ => 0))), (q3, .inl (cy 0, 10, .inl (fun _ => 0))), (q4, .inl (cy 0, 10, .inl (fun _ => 0))), (q5, .inl (cy 1, 10, .inl (fun _ => 0))), (q6, .inl (cy 0, 10, .inl (fun _ => 0)))] := hD
  refine lv_aload_n hx hb d_T_init_62 rfl (lv_at hl 0 rfl) ?_
  refine lv_bipush (v := 10) hx hb d_T_init_63 (by decide) ?_
  refine wz_newa (atype := .int) (a0 := (10, .inl (fun _ => 0))) (N' := 10) hx hb (ht _ kw_121) rfl 0 rfl ra_int hK hP hD hS hA (fun _ => rfl) (by decide) (by decide) (by decide) (Nat.le_of_ble_eq_true rfl) (Nat.le_of_ble_eq_true rfl) d_T_init_65 (fun q7 H hP hD hS => ?_)
  have hP : va_P D cl_all [(h0, .inr (3, [.int 0, .ref q1, .ref q2, .ref q3, .ref q4, .int 0, .ref q5, .ref q6, .null, .null])), (q1, .inl (cy 0, 10, .inl (fun _ => 0))), (q2, .inl (cy 0, 10, .inl (fun _ => 0))), (q3, .inl (cy 0, 10, .inl (fun _ => 0))), (q4, .inl (cy 0, 10, .inl (fun _ => 0))), (q5, .inl (cy 1, 10, .inl (fun _ => 0))), (q6, .inl (cy 0, 10, .inl (fun _ => 0))), (q7, .inl (cy 0, 10, .inl (fun _ => 0)))] H := hP
  have hD : va_D A [(h0, .inr (3, [.int 0, .ref q1, .ref q2, .ref q3, .ref q4, .int 0, .ref q5, .ref q6, .null, .null])), (q1, .inl (cy 0, 10, .inl (fun _ => 0))), (q2, .inl (cy 0, 10, .inl (fun _ => 0))), (q3, .inl (cy 0, 10, .inl (fun _ => 0))), (q4, .inl (cy 0, 10, .inl (fun _ => 0))), (q5, .inl (cy 1, 10, .inl (fun _ => 0))), (q6, .inl (cy 0, 10, .inl (fun _ => 0))), (q7, .inl (cy 0, 10, .inl (fun _ => 0)))] := hD
  refine W.widen (k := 7) (n := 70) (by omega) (by omega) ?_
  refine va_putF (D := D) (ci := 3) (v := .ref q7) (ty := .array .int) (C := RQ_T) (T := FQ_T) (N := 10) hx hb ht IQ_T TQ_T TQ_T_ok NQ_T hown hK hP hD hS 0 rfl rfl 8 (by decide) (ht _ kw_94) (fun _ h9 => h9) rfl hin rfl (by decide +kernel) rfl rfl (Nat.le_of_ble_eq_true rfl) d_T_init_67 (fun H locs hP hD hS => ?_)
  have hP : va_P D cl_all [(h0, .inr (3, [.int 0, .ref q1, .ref q2, .ref q3, .ref q4, .int 0, .ref q5, .ref q6, .ref q7, .null])), (q1, .inl (cy 0, 10, .inl (fun _ => 0))), (q2, .inl (cy 0, 10, .inl (fun _ => 0))), (q3, .inl (cy 0, 10, .inl (fun _ => 0))), (q4, .inl (cy 0, 10, .inl (fun _ => 0))), (q5, .inl (cy 1, 10, .inl (fun _ => 0))), (q6, .inl (cy 0, 10, .inl (fun _ => 0))), (q7, .inl (cy 0, 10, .inl (fun _ => 0)))] H := hP
  have hD : va_D A [(h0, .inr (3, [.int 0, .ref q1, .ref q2, .ref q3, .ref q4, .int 0, .ref q5, .ref q6, .ref q7, .null])), (q1, .inl (cy 0, 10, .inl (fun _ => 0))), (q2, .inl (cy 0, 10, .inl (fun _ => 0))), (q3, .inl (cy 0, 10, .inl (fun _ => 0))), (q4, .inl (cy 0, 10, .inl (fun _ => 0))), (q5, .inl (cy 1, 10, .inl (fun _ => 0))), (q6, .inl (cy 0, 10, .inl (fun _ => 0))), (q7, .inl (cy 0, 10, .inl (fun _ => 0)))] := hD
  refine lv_aload_n hx hb d_T_init_70 rfl (lv_at hl 0 rfl) ?_
  refine lv_iconst (v := 4) hx hb d_T_init_71 (by decide) ?_
  refine lv_bipush (v := 10) hx hb d_T_init_72 (by decide) ?_
  refine wz_mna (ty := .int) (z := (10, .inl (fun _ => 0))) (N' := 4) (K' := 10) (n := 4) (k := 10) hx hb hown (by rw [s_II]; exact ht _ kw_71) (ao_any hN.1) (ht _ kw_121) (hk_I hK) (hk_II hK) hP hD hS hA (by decide) (by decide) (by decide) (by decide) (by decide) (by decide) (by decide) rfl rfl (by exact Nat.le_of_ble_eq_true rfl) (by exact Nat.le_of_ble_eq_true rfl) (fun _ => by simp [Jvm.Free.Multi.innerC, vp_cell, arrV_new, defaultValue]) d_T_init_74 (fun q8 H hP hD hS => ?_)
  have hP : va_P D cl_all [(h0, .inr (3, [.int 0, .ref q1, .ref q2, .ref q3, .ref q4, .int 0, .ref q5, .ref q6, .ref q7, .null])), (q1, .inl (cy 0, 10, .inl (fun _ => 0))), (q2, .inl (cy 0, 10, .inl (fun _ => 0))), (q3, .inl (cy 0, 10, .inl (fun _ => 0))), (q4, .inl (cy 0, 10, .inl (fun _ => 0))), (q5, .inl (cy 1, 10, .inl (fun _ => 0))), (q6, .inl (cy 0, 10, .inl (fun _ => 0))), (q7, .inl (cy 0, 10, .inl (fun _ => 0))), (q8, .inl (cy 3, 4, .inr (.inr (.inr (.inr (fun i => if i < 4 then some (q8 + 1 + i) else none)))))), (q8 + 1 + 0, .inl (cy 0, 10, .inl (fun _ => 0))), (q8 + 1 + 1, .inl (cy 0, 10, .inl (fun _ => 0))), (q8 + 1 + 2, .inl (cy 0, 10, .inl (fun _ => 0))), (q8 + 1 + 3, .inl (cy 0, 10, .inl (fun _ => 0)))] H := hP
  have hD : va_D A [(h0, .inr (3, [.int 0, .ref q1, .ref q2, .ref q3, .ref q4, .int 0, .ref q5, .ref q6, .ref q7, .null])), (q1, .inl (cy 0, 10, .inl (fun _ => 0))), (q2, .inl (cy 0, 10, .inl (fun _ => 0))), (q3, .inl (cy 0, 10, .inl (fun _ => 0))), (q4, .inl (cy 0, 10, .inl (fun _ => 0))), (q5, .inl (cy 1, 10, .inl (fun _ => 0))), (q6, .inl (cy 0, 10, .inl (fun _ => 0))), (q7, .inl (cy 0, 10, .inl (fun _ => 0))), (q8, .inl (cy 3, 4, .inr (.inr (.inr (.inr (fun i => if i < 4 then some (q8 + 1 + i) else none)))))), (q8 + 1 + 0, .inl (cy 0, 10, .inl (fun _ => 0))), (q8 + 1 + 1, .inl (cy 0, 10, .inl (fun _ => 0))), (q8 + 1 + 2, .inl (cy 0, 10, .inl (fun _ => 0))), (q8 + 1 + 3, .inl (cy 0, 10, .inl (fun _ => 0)))] := hD
  refine W.widen (k := 12) (n := 114) (by omega) (by omega) ?_
  refine va_putF (D := D) (ci := 3) (v := .ref q8) (ty := .array (.array .int)) (C := RQ_T) (T := FQ_T) (N := 10) hx hb ht IQ_T TQ_T TQ_T_ok NQ_T hown hK hP hD hS 0 rfl rfl 9 (by decide) (ht _ kw_97) (fun _ h9 => h9) rfl hin rfl (by decide +kernel) rfl rfl (Nat.le_of_ble_eq_true rfl) d_T_init_78 (fun H locs hP hD hS => ?_)
  have hP : va_P D cl_all [(h0, .inr (3, [.int 0, .ref q1, .ref q2, .ref q3, .ref q4, .int 0, .ref q5, .ref q6, .ref q7, .ref q8])), (q1, .inl (cy 0, 10, .inl (fun _ => 0))), (q2, .inl (cy 0, 10, .inl (fun _ => 0))), (q3, .inl (cy 0, 10, .inl (fun _ => 0))), (q4, .inl (cy 0, 10, .inl (fun _ => 0))), (q5, .inl (cy 1, 10, .inl (fun _ => 0))), (q6, .inl (cy 0, 10, .inl (fun _ => 0))), (q7, .inl (cy 0, 10, .inl (fun _ => 0))), (q8, .inl (cy 3, 4, .inr (.inr (.inr (.inr (fun i => if i < 4 then some (q8 + 1 + i) else none)))))), (q8 + 1 + 0, .inl (cy 0, 10, .inl (fun _ => 0))), (q8 + 1 + 1, .inl (cy 0, 10, .inl (fun _ => 0))), (q8 + 1 + 2, .inl (cy 0, 10, .inl (fun _ => 0))), (q8 + 1 + 3, .inl (cy 0, 10, .inl (fun _ => 0)))] H := hP
  have hD : va_D A [(h0, .inr (3, [.int 0, .ref q1, .ref q2, .ref q3, .ref q4, .int 0, .ref q5, .ref q6, .ref q7, .ref q8])), (q1, .inl (cy 0, 10, .inl (fun _ => 0))), (q2, .inl (cy 0, 10, .inl (fun _ => 0))), (q3, .inl (cy 0, 10, .inl (fun _ => 0))), (q4, .inl (cy 0, 10, .inl (fun _ => 0))), (q5, .inl (cy 1, 10, .inl (fun _ => 0))), (q6, .inl (cy 0, 10, .inl (fun _ => 0))), (q7, .inl (cy 0, 10, .inl (fun _ => 0))), (q8, .inl (cy 3, 4, .inr (.inr (.inr (.inr (fun i => if i < 4 then some (q8 + 1 + i) else none)))))), (q8 + 1 + 0, .inl (cy 0, 10, .inl (fun _ => 0))), (q8 + 1 + 1, .inl (cy 0, 10, .inl (fun _ => 0))), (q8 + 1 + 2, .inl (cy 0, 10, .inl (fun _ => 0))), (q8 + 1 + 3, .inl (cy 0, 10, .inl (fun _ => 0)))] := hD
  exact W.vret hx hb hr (fun t ht9 hW => ⟨⟨(q1, q2, q3, q4, q5, q6, q7, q8), rfl, trivial, by show va_P D cl_all (nw_T cy h0 q1 q2 q3 q4 q5 q6 q7 q8) t.heap; rw [ht9]; exact hP, by rw [hAe] at hD; exact hD⟩, by rw [hAe] at hS; exact hS.F ht9⟩) (by rw [hAe] at hS; exact hS.2.2) d_T_init_81

/-- the cells that TrussSolver$Numbering() leaves -/
abbrev nw_N (cy : Nat → ClassId) (h0 q1 q2 q3 q4 : Nat) : va_W := [(h0, .inr (1, [.ref q1, .int 0, .int 0, .ref q2, .ref q3, .ref q4, .int 0])), (q1, .inl (cy 0, 5, .inl (fun _ => 0))), (q2, .inl (cy 0, 5, .inl (fun _ => 0))), (q3, .inl (cy 0, 10, .inl (fun _ => 0))), (q4, .inl (cy 0, 10, .inl (fun _ => 0)))]
set_option maxHeartbeats 4000000 in
set_option maxRecDepth 100000 in
theorem m_N_init (l : Launch) (D : va_G) (cy : Nat → ClassId) (h0 sz : Nat) : Met l y_N_init (Cond.code y_N_init c_N_init 1 none :: gt_ws) ({ frames := 1, cells := 4, slots := 30, locals := 45 }) (va_Pc [.ref h0] (fun U => U.heap.size = sz ∧ va_P D cl_all [(h0, .inr (1, [.null, .int 0, .int 0, .null, .null, .null, .int 0]))] U.heap ∧ va_K D cl_all (gTy cy) U ∧ nwI U ∧ va_D (fun _ => True) [(h0, .inr (1, [.null, .int 0, .int 0, .null, .null, .null, .int 0]))])) (va_Qv (fun (_ : Nat × Nat × Nat × Nat) => True) (fun u t => match u with | (q1, q2, q3, q4) => va_P D cl_all (nw_N cy h0 q1 q2 q3 q4) t.heap ∧ va_D (va_A [(h0, .inr (1, [.null, .int 0, .int 0, .null, .null, .null, .int 0]))] sz) (nw_N cy h0 q1 q2 q3 q4)) (va_A [(h0, .inr (1, [.null, .int 0, .int 0, .null, .null, .null, .int 0]))] sz)) 4 30 (va_A [(h0, .inr (1, [.null, .int 0, .int 0, .null, .null, .null, .int 0]))] sz) := by
  refine Met.ofW (cc := c_N_init) (maxL := 1) (ret := none) (by decide) rfl ?_
  intro p e s m args below meth c s₁ B hml hv
  obtain ⟨rfl, hsz, hP, hK, hN, hD0⟩ := hv
  have hx := B.exec
  have hb := B.bytes
  have hr := B.returns
  have hts := atoms_spec (ws := (Cond.code y_N_init c_N_init 1 none :: gt_ws)) B.pre
  have ht : ∀ w ∈ gt_ws, w.before _ s = true := fun w h => hts w (List.mem_cons_of_mem _ h)
  have hown : s.vm.findClass RQ_N = some m.cls := findClass_of_methodNamed B.named
  have hlocks := B.notSynchronized
  have hin : meth.name = "<init>" := (name_of_methodNamed B.named B.method).1
  subst hsz
  have hD := hD0.self (sz := s.heap.size)
  obtain ⟨A, hAe⟩ : ∃ A, A = va_A [(h0, .inr (1, [.null, .int 0, .int 0, .null, .null, .null, .int 0]))] s.heap.size := ⟨_, rfl⟩
  rw [← hAe] at hD
  have hA : ∀ q : Nat, s.heap.size ≤ q → A q := fun q h => by rw [hAe]; exact Or.inr h
  have hS : va_S A s.heap s.heap [] := va_S.rf
  have hl := lv_entry ([.ref h0]) (n := 1) (Nat.le_of_ble_eq_true rfl)
  rw [lg_entry_eq]
  generalize (lg_sl ([.ref h0]) ++ List.replicate (1 - (lg_sl ([.ref h0])).length) Slot.unset).toArray = ls at hl ⊢
  have hl : lv_has ls 1 [(0, .ref h0)] := hl
  refine lv_aload_n hx hb d_N_init_0 rfl (lv_at hl 0 rfl) ?_
  refine W.objInit hx hb hown (ht _ kw_128) (ht _ kw_63) (ht _ kw_64) rfl (by rw [hml]; exact hl.1) rfl d_N_init_1 (Nat.le_of_ble_eq_true rfl) (Nat.le_of_ble_eq_true rfl) ?_
  refine W.eq (g2 := F0 m 4 ls []) rfl ?_
  refine lv_aload_n hx hb d_N_init_4 rfl (lv_at hl 0 rfl) ?_
  refine lv_iconst (v := 5) hx hb d_N_init_5 (by decide) ?_
  refine wz_newa (atype := .int) (a0 := (5, .inl (fun _ => 0))) (N' := 5) hx hb (ht _ kw_121) rfl 0 rfl ra_int hK hP hD hS hA (fun _ => rfl) (by decide) (by decide) (by decide) (Nat.le_of_ble_eq_true rfl) (Nat.le_of_ble_eq_true rfl) d_N_init_6 (fun q1 H hP hD hS => ?_)
  have hP : va_P D cl_all [(h0, .inr (1, [.null, .int 0, .int 0, .null, .null, .null, .int 0])), (q1, .inl (cy 0, 5, .inl (fun _ => 0)))] H := hP
  have hD : va_D A [(h0, .inr (1, [.null, .int 0, .int 0, .null, .null, .null, .int 0])), (q1, .inl (cy 0, 5, .inl (fun _ => 0)))] := hD
  refine W.widen (k := 1) (n := 5) (by omega) (by omega) ?_
  refine va_putF (D := D) (ci := 1) (v := .ref q1) (ty := .array .int) (C := RQ_N) (T := FQ_N) (N := 7) hx hb ht IQ_N TQ_N TQ_N_ok NQ_N hown hK hP hD hS 0 rfl rfl 0 (by decide) (ht _ kw_129) (fun _ h9 => h9) rfl hin rfl (by decide +kernel) rfl rfl (Nat.le_of_ble_eq_true rfl) d_N_init_8 (fun H locs hP hD hS => ?_)
  have hP : va_P D cl_all [(h0, .inr (1, [.ref q1, .int 0, .int 0, .null, .null, .null, .int 0])), (q1, .inl (cy 0, 5, .inl (fun _ => 0)))] H := hP
  have hD : va_D A [(h0, .inr (1, [.ref q1, .int 0, .int 0, .null, .null, .null, .int 0])), (q1, .inl (cy 0, 5, .inl (fun _ => 0)))] := hD
  refine lv_aload_n hx hb d_N_init_11 rfl (lv_at hl 0 rfl) ?_
  refine lv_iconst (v := 0) hx hb d_N_init_12 (by decide) ?_
  refine va_put (D := D) (ci := 1) (v := .int 0) (ty := .int) (C := RQ_N) (T := FQ_N) (N := 7) hx hb ht IQ_N TQ_N TQ_N_ok NQ_N hown hK hP hD hS 0 rfl rfl 1 (by decide) (ht _ kw_131) (fun _ h9 => h9) rfl (by decide +kernel) rfl rfl (Nat.le_of_ble_eq_true rfl) d_N_init_13 (fun H locs hP hD hS => ?_)
  have hP : va_P D cl_all [(h0, .inr (1, [.ref q1, .int 0, .int 0, .null, .null, .null, .int 0])), (q1, .inl (cy 0, 5, .inl (fun _ => 0)))] H := hP
  have hD : va_D A [(h0, .inr (1, [.ref q1, .int 0, .int 0, .null, .null, .null, .int 0])), (q1, .inl (cy 0, 5, .inl (fun _ => 0)))] := hD
  refine lv_aload_n hx hb d_N_init_16 rfl (lv_at hl 0 rfl) ?_
  refine lv_iconst (v := 0) hx hb d_N_init_17 (by decide) ?_
  refine va_put (D := D) (ci := 1) (v := .int 0) (ty := .int) (C := RQ_N) (T := FQ_N) (N := 7) hx hb ht IQ_N TQ_N TQ_N_ok NQ_N hown hK hP hD hS 0 rfl rfl 2 (by decide) (ht _ kw_133) (fun _ h9 => h9) rfl (by decide +kernel) rfl rfl (Nat.le_of_ble_eq_true rfl) d_N_init_18 (fun H locs hP hD hS => ?_)
  have hP : va_P D cl_all [(h0, .inr (1, [.ref q1, .int 0, .int 0, .null, .null, .null, .int 0])), (q1, .inl (cy 0, 5, .inl (fun _ => 0)))] H := hP
  have hD : va_D A [(h0, .inr (1, [.ref q1, .int 0, .int 0, .null, .null, .null, .int 0])), (q1, .inl (cy 0, 5, .inl (fun _ => 0)))] := hD
  refine lv_aload_n hx hb d_N_init_21 rfl (lv_at hl 0 rfl) ?_
  refine lv_iconst (v := 5) hx hb d_N_init_22 (by decide) ?_
  refine wz_newa (atype := .int) (a0 := (5, .inl (fun _ => 0))) (N' := 5) hx hb (ht _ kw_121) rfl 0 rfl ra_int hK hP hD hS hA (fun _ => rfl) (by decide) (by decide) (by decide) (Nat.le_of_ble_eq_true rfl) (Nat.le_of_ble_eq_true rfl) d_N_init_23 (fun q2 H hP hD hS => ?_)
  have hP : va_P D cl_all [(h0, .inr (1, [.ref q1, .int 0, .int 0, .null, .null, .null, .int 0])), (q1, .inl (cy 0, 5, .inl (fun _ => 0))), (q2, .inl (cy 0, 5, .inl (fun _ => 0)))] H := hP
  have hD : va_D A [(h0, .inr (1, [.ref q1, .int 0, .int 0, .null, .null, .null, .int 0])), (q1, .inl (cy 0, 5, .inl (fun _ => 0))), (q2, .inl (cy 0, 5, .inl (fun _ => 0)))] := hD
  refine W.widen (k := 2) (n := 10) (by omega) (by omega) ?_
  refine va_putF (D := D) (ci := 1) (v := .ref q2) (ty := .array .int) (C := RQ_N) (T := FQ_N) (N := 7) hx hb ht IQ_N TQ_N TQ_N_ok NQ_N hown hK hP hD hS 0 rfl rfl 3 (by decide) (ht _ kw_134) (fun _ h9 => h9) rfl hin rfl (by decide +kernel) rfl rfl (Nat.le_of_ble_eq_true rfl) d_N_init_25 (fun H locs hP hD hS => ?_)
  have hP : va_P D cl_all [(h0, .inr (1, [.ref q1, .int 0, .int 0, .ref q2, .null, .null, .int 0])), (q1, .inl (cy 0, 5, .inl (fun _ => 0))), (q2, .inl (cy 0, 5, .inl (fun _ => 0)))] H := hP
  have hD : va_D A [(h0, .inr (1, [.ref q1, .int 0, .int 0, .ref q2, .null, .null, .int 0])), (q1, .inl (cy 0, 5, .inl (fun _ => 0))), (q2, .inl (cy 0, 5, .inl (fun _ => 0)))] := hD
  refine lv_aload_n hx hb d_N_init_28 rfl (lv_at hl 0 rfl) ?_
  refine lv_bipush (v := 10) hx hb d_N_init_29 (by decide) ?_
  refine wz_newa (atype := .int) (a0 := (10, .inl (fun _ => 0))) (N' := 10) hx hb (ht _ kw_121) rfl 0 rfl ra_int hK hP hD hS hA (fun _ => rfl) (by decide) (by decide) (by decide) (Nat.le_of_ble_eq_true rfl) (Nat.le_of_ble_eq_true rfl) d_N_init_31 (fun q3 H hP hD hS => ?_)
  have hP : va_P D cl_all [(h0, .inr (1, [.ref q1, .int 0, .int 0, .ref q2, .null, .null, .int 0])), (q1, .inl (cy 0, 5, .inl (fun _ => 0))), (q2, .inl (cy 0, 5, .inl (fun _ => 0))), (q3, .inl (cy 0, 10, .inl (fun _ => 0)))] H := hP
  have hD : va_D A [(h0, .inr (1, [.ref q1, .int 0, .int 0, .ref q2, .null, .null, .int 0])), (q1, .inl (cy 0, 5, .inl (fun _ => 0))), (q2, .inl (cy 0, 5, .inl (fun _ => 0))), (q3, .inl (cy 0, 10, .inl (fun _ => 0)))] := hD
  refine W.widen (k := 3) (n := 20) (by omega) (by omega) ?_
  refine va_putF (D := D) (ci := 1) (v := .ref q3) (ty := .array .int) (C := RQ_N) (T := FQ_N) (N := 7) hx hb ht IQ_N TQ_N TQ_N_ok NQ_N hown hK hP hD hS 0 rfl rfl 4 (by decide) (ht _ kw_135) (fun _ h9 => h9) rfl hin rfl (by decide +kernel) rfl rfl (Nat.le_of_ble_eq_true rfl) d_N_init_33 (fun H locs hP hD hS => ?_)
  have hP : va_P D cl_all [(h0, .inr (1, [.ref q1, .int 0, .int 0, .ref q2, .ref q3, .null, .int 0])), (q1, .inl (cy 0, 5, .inl (fun _ => 0))), (q2, .inl (cy 0, 5, .inl (fun _ => 0))), (q3, .inl (cy 0, 10, .inl (fun _ => 0)))] H := hP
  have hD : va_D A [(h0, .inr (1, [.ref q1, .int 0, .int 0, .ref q2, .ref q3, .null, .int 0])), (q1, .inl (cy 0, 5, .inl (fun _ => 0))), (q2, .inl (cy 0, 5, .inl (fun _ => 0))), (q3, .inl (cy 0, 10, .inl (fun _ => 0)))] := hD
  refine lv_aload_n hx hb d_N_init_36 rfl (lv_at hl 0 rfl) ?_
  refine lv_bipush (v := 10) hx hb d_N_init_37 (by decide) ?_
  refine wz_newa (atype := .int) (a0 := (10, .inl (fun _ => 0))) (N' := 10) hx hb (ht _ kw_121) rfl 0 rfl ra_int hK hP hD hS hA (fun _ => rfl) (by decide) (by decide) (by decide) (Nat.le_of_ble_eq_true rfl) (Nat.le_of_ble_eq_true rfl) d_N_init_39 (fun q4 H hP hD hS => ?_)
  have hP : va_P D cl_all [(h0, .inr (1, [.ref q1, .int 0, .int 0, .ref q2, .ref q3, .null, .int 0])), (q1, .inl (cy 0, 5, .inl (fun _ => 0))), (q2, .inl (cy 0, 5, .inl (fun _ => 0))), (q3, .inl (cy 0, 10, .inl (fun _ => 0))), (q4, .inl (cy 0, 10, .inl (fun _ => 0)))] H := hP
  have hD : va_D A [(h0, .inr (1, [.ref q1, .int 0, .int 0, .ref q2, .ref q3, .null, .int 0])), (q1, .inl (cy 0, 5, .inl (fun _ => 0))), (q2, .inl (cy 0, 5, .inl (fun _ => 0))), (q3, .inl (cy 0, 10, .inl (fun _ => 0))), (q4, .inl (cy 0, 10, .inl (fun _ => 0)))] := hD
  refine W.widen (k := 4) (n := 30) (by omega) (by omega) ?_
  refine va_putF (D := D) (ci := 1) (v := .ref q4) (ty := .array .int) (C := RQ_N) (T := FQ_N) (N := 7) hx hb ht IQ_N TQ_N TQ_N_ok NQ_N hown hK hP hD hS 0 rfl rfl 5 (by decide) (ht _ kw_137) (fun _ h9 => h9) rfl hin rfl (by decide +kernel) rfl rfl (Nat.le_of_ble_eq_true rfl) d_N_init_41 (fun H locs hP hD hS => ?_)
  have hP : va_P D cl_all [(h0, .inr (1, [.ref q1, .int 0, .int 0, .ref q2, .ref q3, .ref q4, .int 0])), (q1, .inl (cy 0, 5, .inl (fun _ => 0))), (q2, .inl (cy 0, 5, .inl (fun _ => 0))), (q3, .inl (cy 0, 10, .inl (fun _ => 0))), (q4, .inl (cy 0, 10, .inl (fun _ => 0)))] H := hP
  have hD : va_D A [(h0, .inr (1, [.ref q1, .int 0, .int 0, .ref q2, .ref q3, .ref q4, .int 0])), (q1, .inl (cy 0, 5, .inl (fun _ => 0))), (q2, .inl (cy 0, 5, .inl (fun _ => 0))), (q3, .inl (cy 0, 10, .inl (fun _ => 0))), (q4, .inl (cy 0, 10, .inl (fun _ => 0)))] := hD
  refine lv_aload_n hx hb d_N_init_44 rfl (lv_at hl 0 rfl) ?_
  refine lv_iconst (v := 0) hx hb d_N_init_45 (by decide) ?_
  refine va_put (D := D) (ci := 1) (v := .int 0) (ty := .int) (C := RQ_N) (T := FQ_N) (N := 7) hx hb ht IQ_N TQ_N TQ_N_ok NQ_N hown hK hP hD hS 0 rfl rfl 6 (by decide) (ht _ kw_140) (fun _ h9 => h9) rfl (by decide +kernel) rfl rfl (Nat.le_of_ble_eq_true rfl) d_N_init_46 (fun H locs hP hD hS => ?_)
  have hP : va_P D cl_all [(h0, .inr (1, [.ref q1, .int 0, .int 0, .ref q2, .ref q3, .ref q4, .int 0])), (q1, .inl (cy 0, 5, .inl (fun _ => 0))), (q2, .inl (cy 0, 5, .inl (fun _ => 0))), (q3, .inl (cy 0, 10, .inl (fun _ => 0))), (q4, .inl (cy 0, 10, .inl (fun _ => 0)))] H := hP
  have hD : va_D A [(h0, .inr (1, [.ref q1, .int 0, .int 0, .ref q2, .ref q3, .ref q4, .int 0])), (q1, .inl (cy 0, 5, .inl (fun _ => 0))), (q2, .inl (cy 0, 5, .inl (fun _ => 0))), (q3, .inl (cy 0, 10, .inl (fun _ => 0))), (q4, .inl (cy 0, 10, .inl (fun _ => 0)))] := hD
  exact W.vret hx hb hr (fun t ht9 hW => ⟨⟨(q1, q2, q3, q4), rfl, trivial, by show va_P D cl_all (nw_N cy h0 q1 q2 q3 q4) t.heap; rw [ht9]; exact hP, by rw [hAe] at hD; exact hD⟩, by rw [hAe] at hS; exact hS.F ht9⟩) (by rw [hAe] at hS; exact hS.2.2) d_N_init_49

/-- the cells that TrussSolver$Equations() leaves -/
abbrev nw_E (cy : Nat → ClassId) (h0 q1 q2 q3 q4 q5 q6 : Nat) : va_W := [(h0, .inr (0, [.ref q1, .ref q2, .int 0, .ref q3, .ref q4, .ref q5, .ref q6])), (q1, .inl (cy 4, 10, .inr (.inr (.inr (.inr (fun i => if i < 10 then some (q1 + 1 + i) else none)))))), (q1 + 1 + 0, .inl (cy 2, 10, .inr (.inl (fun _ => 0)))), (q1 + 1 + 1, .inl (cy 2, 10, .inr (.inl (fun _ => 0)))), (q1 + 1 + 2, .inl (cy 2, 10, .inr (.inl (fun _ => 0)))), (q1 + 1 + 3, .inl (cy 2, 10, .inr (.inl (fun _ => 0)))), (q1 + 1 + 4, .inl (cy 2, 10, .inr (.inl (fun _ => 0)))), (q1 + 1 + 5, .inl (cy 2, 10, .inr (.inl (fun _ => 0)))), (q1 + 1 + 6, .inl (cy 2, 10, .inr (.inl (fun _ => 0)))), (q1 + 1 + 7, .inl (cy 2, 10, .inr (.inl (fun _ => 0)))), (q1 + 1 + 8, .inl (cy 2, 10, .inr (.inl (fun _ => 0)))), (q1 + 1 + 9, .inl (cy 2, 10, .inr (.inl (fun _ => 0)))), (q2, .inl (cy 4, 10, .inr (.inr (.inr (.inr (fun i => if i < 10 then some (q2 + 1 + i) else none)))))), (q2 + 1 + 0, .inl (cy 2, 10, .inr (.inl (fun _ => 0)))), (q2 + 1 + 1, .inl (cy 2, 10, .inr (.inl (fun _ => 0)))), (q2 + 1 + 2, .inl (cy 2, 10, .inr (.inl (fun _ => 0)))), (q2 + 1 + 3, .inl (cy 2, 10, .inr (.inl (fun _ => 0)))), (q2 + 1 + 4, .inl (cy 2, 10, .inr (.inl (fun _ => 0)))), (q2 + 1 + 5, .inl (cy 2, 10, .inr (.inl (fun _ => 0)))), (q2 + 1 + 6, .inl (cy 2, 10, .inr (.inl (fun _ => 0)))), (q2 + 1 + 7, .inl (cy 2, 10, .inr (.inl (fun _ => 0)))), (q2 + 1 + 8, .inl (cy 2, 10, .inr (.inl (fun _ => 0)))), (q2 + 1 + 9, .inl (cy 2, 10, .inr (.inl (fun _ => 0)))), (q3, .inl (cy 2, 11, .inr (.inl (fun _ => 0)))), (q4, .inl (cy 2, 11, .inr (.inl (fun _ => 0)))), (q5, .inl (cy 2, 10, .inr (.inl (fun _ => 0)))), (q6, .inl (cy 2, 10, .inr (.inl (fun _ => 0))))]
set_option maxHeartbeats 4000000 in
set_option maxRecDepth 100000 in
theorem m_E_init (l : Launch) (D : va_G) (cy : Nat → ClassId) (h0 sz : Nat) : Met l y_E_init (Cond.code y_E_init c_E_init 1 none :: gt_ws) ({ frames := 1, cells := 26, slots := 262, locals := 45 }) (va_Pc [.ref h0] (fun U => U.heap.size = sz ∧ va_P D cl_all [(h0, .inr (0, [.null, .null, .int 0, .null, .null, .null, .null]))] U.heap ∧ va_K D cl_all (gTy cy) U ∧ nwI U ∧ va_D (fun _ => True) [(h0, .inr (0, [.null, .null, .int 0, .null, .null, .null, .null]))])) (va_Qv (fun (_ : Nat × Nat × Nat × Nat × Nat × Nat) => True) (fun u t => match u with | (q1, q2, q3, q4, q5, q6) => va_P D cl_all (nw_E cy h0 q1 q2 q3 q4 q5 q6) t.heap ∧ va_D (va_A [(h0, .inr (0, [.null, .null, .int 0, .null, .null, .null, .null]))] sz) (nw_E cy h0 q1 q2 q3 q4 q5 q6)) (va_A [(h0, .inr (0, [.null, .null, .int 0, .null, .null, .null, .null]))] sz)) 26 262 (va_A [(h0, .inr (0, [.null, .null, .int 0, .null, .null, .null, .null]))] sz) := by
  refine Met.ofW (cc := c_E_init) (maxL := 1) (ret := none) (by decide) rfl ?_
  intro p e s m args below meth c s₁ B hml hv
  obtain ⟨rfl, hsz, hP, hK, hN, hD0⟩ := hv
  have hx := B.exec
  have hb := B.bytes
  have hr := B.returns
  have hts := atoms_spec (ws := (Cond.code y_E_init c_E_init 1 none :: gt_ws)) B.pre
  have ht : ∀ w ∈ gt_ws, w.before _ s = true := fun w h => hts w (List.mem_cons_of_mem _ h)
  have hown : s.vm.findClass RQ_E = some m.cls := findClass_of_methodNamed B.named
  have hlocks := B.notSynchronized
  have hin : meth.name = "<init>" := (name_of_methodNamed B.named B.method).1
  subst hsz
  have hD := hD0.self (sz := s.heap.size)
  obtain ⟨A, hAe⟩ : ∃ A, A = va_A [(h0, .inr (0, [.null, .null, .int 0, .null, .null, .null, .null]))] s.heap.size := ⟨_, rfl⟩
  rw [← hAe] at hD
  have hA : ∀ q : Nat, s.heap.size ≤ q → A q := fun q h => by rw [hAe]; exact Or.inr h
  have hS : va_S A s.heap s.heap [] := va_S.rf
  have hl := lv_entry ([.ref h0]) (n := 1) (Nat.le_of_ble_eq_true rfl)
  rw [lg_entry_eq]
  generalize (lg_sl ([.ref h0]) ++ List.replicate (1 - (lg_sl ([.ref h0])).length) Slot.unset).toArray = ls at hl ⊢
  have hl : lv_has ls 1 [(0, .ref h0)] := hl
  refine lv_aload_n hx hb d_E_init_0 rfl (lv_at hl 0 rfl) ?_
  refine W.objInit hx hb hown (ht _ kw_164) (ht _ kw_63) (ht _ kw_64) rfl (by rw [hml]; exact hl.1) rfl d_E_init_1 (Nat.le_of_ble_eq_true rfl) (Nat.le_of_ble_eq_true rfl) ?_
  refine W.eq (g2 := F0 m 4 ls []) rfl ?_
  refine lv_aload_n hx hb d_E_init_4 rfl (lv_at hl 0 rfl) ?_
  refine lv_bipush (v := 10) hx hb d_E_init_5 (by decide) ?_
  refine lv_bipush (v := 10) hx hb d_E_init_7 (by decide) ?_
  refine wz_mna (ty := .long) (z := (10, .inr (.inl (fun _ => 0)))) (N' := 10) (K' := 10) (n := 10) (k := 10) hx hb hown (by rw [s_JJ]; exact ht _ kw_165) (ao_any hN.2) (ht _ kw_190) (hk_J hK) (hk_JJ hK) hP hD hS hA (by decide) (by decide) (by decide) (by decide) (by decide) (by decide) (by decide) rfl rfl (by exact Nat.le_of_ble_eq_true rfl) (by exact Nat.le_of_ble_eq_true rfl) (fun _ => by simp [Jvm.Free.Multi.innerC, vp_cell, arrV_new, defaultValue]) d_E_init_9 (fun q1 H hP hD hS => ?_)
  have hP : va_P D cl_all [(h0, .inr (0, [.null, .null, .int 0, .null, .null, .null, .null])), (q1, .inl (cy 4, 10, .inr (.inr (.inr (.inr (fun i => if i < 10 then some (q1 + 1 + i) else none)))))), (q1 + 1 + 0, .inl (cy 2, 10, .inr (.inl (fun _ => 0)))), (q1 + 1 + 1, .inl (cy 2, 10, .inr (.inl (fun _ => 0)))), (q1 + 1 + 2, .inl (cy 2, 10, .inr (.inl (fun _ => 0)))), (q1 + 1 + 3, .inl (cy 2, 10, .inr (.inl (fun _ => 0)))), (q1 + 1 + 4, .inl (cy 2, 10, .inr (.inl (fun _ => 0)))), (q1 + 1 + 5, .inl (cy 2, 10, .inr (.inl (fun _ => 0)))), (q1 + 1 + 6, .inl (cy 2, 10, .inr (.inl (fun _ => 0)))), (q1 + 1 + 7, .inl (cy 2, 10, .inr (.inl (fun _ => 0)))), (q1 + 1 + 8, .inl (cy 2, 10, .inr (.inl (fun _ => 0)))), (q1 + 1 + 9, .inl (cy 2, 10, .inr (.inl (fun _ => 0))))] H := hP
  have hD : va_D A [(h0, .inr (0, [.null, .null, .int 0, .null, .null, .null, .null])), (q1, .inl (cy 4, 10, .inr (.inr (.inr (.inr (fun i => if i < 10 then some (q1 + 1 + i) else none)))))), (q1 + 1 + 0, .inl (cy 2, 10, .inr (.inl (fun _ => 0)))), (q1 + 1 + 1, .inl (cy 2, 10, .inr (.inl (fun _ => 0)))), (q1 + 1 + 2, .inl (cy 2, 10, .inr (.inl (fun _ => 0)))), (q1 + 1 + 3, .inl (cy 2, 10, .inr (.inl (fun _ => 0)))), (q1 + 1 + 4, .inl (cy 2, 10, .inr (.inl (fun _ => 0)))), (q1 + 1 + 5, .inl (cy 2, 10, .inr (.inl (fun _ => 0)))), (q1 + 1 + 6, .inl (cy 2, 10, .inr (.inl (fun _ => 0)))), (q1 + 1 + 7, .inl (cy 2, 10, .inr (.inl (fun _ => 0)))), (q1 + 1 + 8, .inl (cy 2, 10, .inr (.inl (fun _ => 0)))), (q1 + 1 + 9, .inl (cy 2, 10, .inr (.inl (fun _ => 0))))] := hD
  refine W.widen (k := 11) (n := 110) (by omega) (by omega) ?_
  refine va_putF (D := D) (ci := 0) (v := .ref q1) (ty := .array (.array .long)) (C := RQ_E) (T := FQ_E) (N := 7) hx hb ht IQ_E TQ_E TQ_E_ok NQ_E hown hK hP hD hS 0 rfl rfl 0 (by decide) (ht _ kw_167) (fun _ h9 => h9) rfl hin rfl (by decide +kernel) rfl rfl (Nat.le_of_ble_eq_true rfl) d_E_init_13 (fun H locs hP hD hS => ?_)
  have hP : va_P D cl_all [(h0, .inr (0, [.ref q1, .null, .int 0, .null, .null, .null, .null])), (q1, .inl (cy 4, 10, .inr (.inr (.inr (.inr (fun i => if i < 10 then some (q1 + 1 + i) else none)))))), (q1 + 1 + 0, .inl (cy 2, 10, .inr (.inl (fun _ => 0)))), (q1 + 1 + 1, .inl (cy 2, 10, .inr (.inl (fun _ => 0)))), (q1 + 1 + 2, .inl (cy 2, 10, .inr (.inl (fun _ => 0)))), (q1 + 1 + 3, .inl (cy 2, 10, .inr (.inl (fun _ => 0)))), (q1 + 1 + 4, .inl (cy 2, 10, .inr (.inl (fun _ => 0)))), (q1 + 1 + 5, .inl (cy 2, 10, .inr (.inl (fun _ => 0)))), (q1 + 1 + 6, .inl (cy 2, 10, .inr (.inl (fun _ => 0)))), (q1 + 1 + 7, .inl (cy 2, 10, .inr (.inl (fun _ => 0)))), (q1 + 1 + 8, .inl (cy 2, 10, .inr (.inl (fun _ => 0)))), (q1 + 1 + 9, .inl (cy 2, 10, .inr (.inl (fun _ => 0))))] H := hP
  have hD : va_D A [(h0, .inr (0, [.ref q1, .null, .int 0, .null, .null, .null, .null])), (q1, .inl (cy 4, 10, .inr (.inr (.inr (.inr (fun i => if i < 10 then some (q1 + 1 + i) else none)))))), (q1 + 1 + 0, .inl (cy 2, 10, .inr (.inl (fun _ => 0)))), (q1 + 1 + 1, .inl (cy 2, 10, .inr (.inl (fun _ => 0)))), (q1 + 1 + 2, .inl (cy 2, 10, .inr (.inl (fun _ => 0)))), (q1 + 1 + 3, .inl (cy 2, 10, .inr (.inl (fun _ => 0)))), (q1 + 1 + 4, .inl (cy 2, 10, .inr (.inl (fun _ => 0)))), (q1 + 1 + 5, .inl (cy 2, 10, .inr (.inl (fun _ => 0)))), (q1 + 1 + 6, .inl (cy 2, 10, .inr (.inl (fun _ => 0)))), (q1 + 1 + 7, .inl (cy 2, 10, .inr (.inl (fun _ => 0)))), (q1 + 1 + 8, .inl (cy 2, 10, .inr (.inl (fun _ => 0)))), (q1 + 1 + 9, .inl (cy 2, 10, .inr (.inl (fun _ => 0))))] := hD
  refine lv_aload_n hx hb d_E_init_16 rfl (lv_at hl 0 rfl) ?_
  refine lv_bipush (v := 10) hx hb d_E_init_17 (by decide) ?_
  refine lv_bipush (v := 10) hx hb d_E_init_19 (by decide) ?_
  refine wz_mna (ty := .long) (z := (10, .inr (.inl (fun _ => 0)))) (N' := 10) (K' := 10) (n := 10) (k := 10) hx hb hown (by rw [s_JJ]; exact ht _ kw_165) (ao_any hN.2) (ht _ kw_190) (hk_J hK) (hk_JJ hK) hP hD hS hA (by decide) (by decide) (by decide) (by decide) (by decide) (by decide) (by decide) rfl rfl (by exact Nat.le_of_ble_eq_true rfl) (by exact Nat.le_of_ble_eq_true rfl) (fun _ => by simp [Jvm.Free.Multi.innerC, vp_cell, arrV_new, defaultValue]) d_E_init_21 (fun q2 H hP hD hS => ?_)
  have hP : va_P D cl_all [(h0, .inr (0, [.ref q1, .null, .int 0, .null, .null, .null, .null])), (q1, .inl (cy 4, 10, .inr (.inr (.inr (.inr (fun i => if i < 10 then some (q1 + 1 + i) else none)))))), (q1 + 1 + 0, .inl (cy 2, 10, .inr (.inl (fun _ => 0)))), (q1 + 1 + 1, .inl (cy 2, 10, .inr (.inl (fun _ => 0)))), (q1 + 1 + 2, .inl (cy 2, 10, .inr (.inl (fun _ => 0)))), (q1 + 1 + 3, .inl (cy 2, 10, .inr (.inl (fun _ => 0)))), (q1 + 1 + 4, .inl (cy 2, 10, .inr (.inl (fun _ => 0)))), (q1 + 1 + 5, .inl (cy 2, 10, .inr (.inl (fun _ => 0)))), (q1 + 1 + 6, .inl (cy 2, 10, .inr (.inl (fun _ => 0)))), (q1 + 1 + 7, .inl (cy 2, 10, .inr (.inl (fun _ => 0)))), (q1 + 1 + 8, .inl (cy 2, 10, .inr (.inl (fun _ => 0)))), (q1 + 1 + 9, .inl (cy 2, 10, .inr (.inl (fun _ => 0)))), (q2, .inl (cy 4, 10, .inr (.inr (.inr (.inr (fun i => if i < 10 then some (q2 + 1 + i) else none)))))), (q2 + 1 + 0, .inl (cy 2, 10, .inr (.inl (fun _ => 0)))), (q2 + 1 + 1, .inl (cy 2, 10, .inr (.inl (fun _ => 0)))), (q2 + 1 + 2, .inl (cy 2, 10, .inr (.inl (fun _ => 0)))), (q2 + 1 + 3, .inl (cy 2, 10, .inr (.inl (fun _ => 0)))), (q2 + 1 + 4, .inl (cy 2, 10, .inr (.inl (fun _ => 0)))), (q2 + 1 + 5, .inl (cy 2, 10, .inr (.inl (fun _ => 0)))), (q2 + 1 + 6, .inl (cy 2, 10, .inr (.inl (fun _ => 0)))), (q2 + 1 + 7, .inl (cy 2, 10, .inr (.inl (fun _ => 0)))), (q2 + 1 + 8, .inl (cy 2, 10, .inr (.inl (fun _ => 0)))), (q2 + 1 + 9, .inl (cy 2, 10, .inr (.inl (fun _ => 0))))] H := hP
  have hD : va_D A [(h0, .inr (0, [.ref q1, .null, .int 0, .null, .null, .null, .null])), (q1, .inl (cy 4, 10, .inr (.inr (.inr (.inr (fun i => if i < 10 then some (q1 + 1 + i) else none)))))), (q1 + 1 + 0, .inl (cy 2, 10, .inr (.inl (fun _ => 0)))), (q1 + 1 + 1, .inl (cy 2, 10, .inr (.inl (fun _ => 0)))), (q1 + 1 + 2, .inl (cy 2, 10, .inr (.inl (fun _ => 0)))), (q1 + 1 + 3, .inl (cy 2, 10, .inr (.inl (fun _ => 0)))), (q1 + 1 + 4, .inl (cy 2, 10, .inr (.inl (fun _ => 0)))), (q1 + 1 + 5, .inl (cy 2, 10, .inr (.inl (fun _ => 0)))), (q1 + 1 + 6, .inl (cy 2, 10, .inr (.inl (fun _ => 0)))), (q1 + 1 + 7, .inl (cy 2, 10, .inr (.inl (fun _ => 0)))), (q1 + 1 + 8, .inl (cy 2, 10, .inr (.inl (fun _ => 0)))), (q1 + 1 + 9, .inl (cy 2, 10, .inr (.inl (fun _ => 0)))), (q2, .inl (cy 4, 10, .inr (.inr (.inr (.inr (fun i => if i < 10 then some (q2 + 1 + i) else none)))))), (q2 + 1 + 0, .inl (cy 2, 10, .inr (.inl (fun _ => 0)))), (q2 + 1 + 1, .inl (cy 2, 10, .inr (.inl (fun _ => 0)))), (q2 + 1 + 2, .inl (cy 2, 10, .inr (.inl (fun _ => 0)))), (q2 + 1 + 3, .inl (cy 2, 10, .inr (.inl (fun _ => 0)))), (q2 + 1 + 4, .inl (cy 2, 10, .inr (.inl (fun _ => 0)))), (q2 + 1 + 5, .inl (cy 2, 10, .inr (.inl (fun _ => 0)))), (q2 + 1 + 6, .inl (cy 2, 10, .inr (.inl (fun _ => 0)))), (q2 + 1 + 7, .inl (cy 2, 10, .inr (.inl (fun _ => 0)))), (q2 + 1 + 8, .inl (cy 2, 10, .inr (.inl (fun _ => 0)))), (q2 + 1 + 9, .inl (cy 2, 10, .inr (.inl (fun _ => 0))))] := hD
  refine W.widen (k := 22) (n := 220) (by omega) (by omega) ?_
  refine va_putF (D := D) (ci := 0) (v := .ref q2) (ty := .array (.array .long)) (C := RQ_E) (T := FQ_E) (N := 7) hx hb ht IQ_E TQ_E TQ_E_ok NQ_E hown hK hP hD hS 0 rfl rfl 1 (by decide) (ht _ kw_169) (fun _ h9 => h9) rfl hin rfl (by decide +kernel) rfl rfl (Nat.le_of_ble_eq_true rfl) d_E_init_25 (fun H locs hP hD hS => ?_)
  have hP : va_P D cl_all [(h0, .inr (0, [.ref q1, .ref q2, .int 0, .null, .null, .null, .null])), (q1, .inl (cy 4, 10, .inr (.inr (.inr (.inr (fun i => if i < 10 then some (q1 + 1 + i) else none)))))), (q1 + 1 + 0, .inl (cy 2, 10, .inr (.inl (fun _ => 0)))), (q1 + 1 + 1, .inl (cy 2, 10, .inr (.inl (fun _ => 0)))), (q1 + 1 + 2, .inl (cy 2, 10, .inr (.inl (fun _ => 0)))), (q1 + 1 + 3, .inl (cy 2, 10, .inr (.inl (fun _ => 0)))), (q1 + 1 + 4, .inl (cy 2, 10, .inr (.inl (fun _ => 0)))), (q1 + 1 + 5, .inl (cy 2, 10, .inr (.inl (fun _ => 0)))), (q1 + 1 + 6, .inl (cy 2, 10, .inr (.inl (fun _ => 0)))), (q1 + 1 + 7, .inl (cy 2, 10, .inr (.inl (fun _ => 0)))), (q1 + 1 + 8, .inl (cy 2, 10, .inr (.inl (fun _ => 0)))), (q1 + 1 + 9, .inl (cy 2, 10, .inr (.inl (fun _ => 0)))), (q2, .inl (cy 4, 10, .inr (.inr (.inr (.inr (fun i => if i < 10 then some (q2 + 1 + i) else none)))))), (q2 + 1 + 0, .inl (cy 2, 10, .inr (.inl (fun _ => 0)))), (q2 + 1 + 1, .inl (cy 2, 10, .inr (.inl (fun _ => 0)))), (q2 + 1 + 2, .inl (cy 2, 10, .inr (.inl (fun _ => 0)))), (q2 + 1 + 3, .inl (cy 2, 10, .inr (.inl (fun _ => 0)))), (q2 + 1 + 4, .inl (cy 2, 10, .inr (.inl (fun _ => 0)))), (q2 + 1 + 5, .inl (cy 2, 10, .inr (.inl (fun _ => 0)))), (q2 + 1 + 6, .inl (cy 2, 10, .inr (.inl (fun _ => 0)))), (q2 + 1 + 7, .inl (cy 2, 10, .inr (.inl (fun _ => 0)))), (q2 + 1 + 8, .inl (cy 2, 10, .inr (.inl (fun _ => 0)))), (q2 + 1 + 9, .inl (cy 2, 10, .inr (.inl (fun _ => 0))))] H := hP
  have hD : va_D A [(h0, .inr (0, [.ref q1, .ref q2, .int 0, .null, .null, .null, .null])), (q1, .inl (cy 4, 10, .inr (.inr (.inr (.inr (fun i => if i < 10 then some (q1 + 1 + i) else none)))))), (q1 + 1 + 0, .inl (cy 2, 10, .inr (.inl (fun _ => 0)))), (q1 + 1 + 1, .inl (cy 2, 10, .inr (.inl (fun _ => 0)))), (q1 + 1 + 2, .inl (cy 2, 10, .inr (.inl (fun _ => 0)))), (q1 + 1 + 3, .inl (cy 2, 10, .inr (.inl (fun _ => 0)))), (q1 + 1 + 4, .inl (cy 2, 10, .inr (.inl (fun _ => 0)))), (q1 + 1 + 5, .inl (cy 2, 10, .inr (.inl (fun _ => 0)))), (q1 + 1 + 6, .inl (cy 2, 10, .inr (.inl (fun _ => 0)))), (q1 + 1 + 7, .inl (cy 2, 10, .inr (.inl (fun _ => 0)))), (q1 + 1 + 8, .inl (cy 2, 10, .inr (.inl (fun _ => 0)))), (q1 + 1 + 9, .inl (cy 2, 10, .inr (.inl (fun _ => 0)))), (q2, .inl (cy 4, 10, .inr (.inr (.inr (.inr (fun i => if i < 10 then some (q2 + 1 + i) else none)))))), (q2 + 1 + 0, .inl (cy 2, 10, .inr (.inl (fun _ => 0)))), (q2 + 1 + 1, .inl (cy 2, 10, .inr (.inl (fun _ => 0)))), (q2 + 1 + 2, .inl (cy 2, 10, .inr (.inl (fun _ => 0)))), (q2 + 1 + 3, .inl (cy 2, 10, .inr (.inl (fun _ => 0)))), (q2 + 1 + 4, .inl (cy 2, 10, .inr (.inl (fun _ => 0)))), (q2 + 1 + 5, .inl (cy 2, 10, .inr (.inl (fun _ => 0)))), (q2 + 1 + 6, .inl (cy 2, 10, .inr (.inl (fun _ => 0)))), (q2 + 1 + 7, .inl (cy 2, 10, .inr (.inl (fun _ => 0)))), (q2 + 1 + 8, .inl (cy 2, 10, .inr (.inl (fun _ => 0)))), (q2 + 1 + 9, .inl (cy 2, 10, .inr (.inl (fun _ => 0))))] := hD
  refine lv_aload_n hx hb d_E_init_28 rfl (lv_at hl 0 rfl) ?_
  refine lv_iconst (v := 0) hx hb d_E_init_29 (by decide) ?_
  refine va_put (D := D) (ci := 0) (v := .int 0) (ty := .int) (C := RQ_E) (T := FQ_E) (N := 7) hx hb ht IQ_E TQ_E TQ_E_ok NQ_E hown hK hP hD hS 0 rfl rfl 2 (by decide) (ht _ kw_170) (fun _ h9 => h9) rfl (by decide +kernel) rfl rfl (Nat.le_of_ble_eq_true rfl) d_E_init_30 (fun H locs hP hD hS => ?_)
  have hP : va_P D cl_all [(h0, .inr (0, [.ref q1, .ref q2, .int 0, .null, .null, .null, .null])), (q1, .inl (cy 4, 10, .inr (.inr (.inr (.inr (fun i => if i < 10 then some (q1 + 1 + i) else none)))))), (q1 + 1 + 0, .inl (cy 2, 10, .inr (.inl (fun _ => 0)))), (q1 + 1 + 1, .inl (cy 2, 10, .inr (.inl (fun _ => 0)))), (q1 + 1 + 2, .inl (cy 2, 10, .inr (.inl (fun _ => 0)))), (q1 + 1 + 3, .inl (cy 2, 10, .inr (.inl (fun _ => 0)))), (q1 + 1 + 4, .inl (cy 2, 10, .inr (.inl (fun _ => 0)))), (q1 + 1 + 5, .inl (cy 2, 10, .inr (.inl (fun _ => 0)))), (q1 + 1 + 6, .inl (cy 2, 10, .inr (.inl (fun _ => 0)))), (q1 + 1 + 7, .inl (cy 2, 10, .inr (.inl (fun _ => 0)))), (q1 + 1 + 8, .inl (cy 2, 10, .inr (.inl (fun _ => 0)))), (q1 + 1 + 9, .inl (cy 2, 10, .inr (.inl (fun _ => 0)))), (q2, .inl (cy 4, 10, .inr (.inr (.inr (.inr (fun i => if i < 10 then some (q2 + 1 + i) else none)))))), (q2 + 1 + 0, .inl (cy 2, 10, .inr (.inl (fun _ => 0)))), (q2 + 1 + 1, .inl (cy 2, 10, .inr (.inl (fun _ => 0)))), (q2 + 1 + 2, .inl (cy 2, 10, .inr (.inl (fun _ => 0)))), (q2 + 1 + 3, .inl (cy 2, 10, .inr (.inl (fun _ => 0)))), (q2 + 1 + 4, .inl (cy 2, 10, .inr (.inl (fun _ => 0)))), (q2 + 1 + 5, .inl (cy 2, 10, .inr (.inl (fun _ => 0)))), (q2 + 1 + 6, .inl (cy 2, 10, .inr (.inl (fun _ => 0)))), (q2 + 1 + 7, .inl (cy 2, 10, .inr (.inl (fun _ => 0)))), (q2 + 1 + 8, .inl (cy 2, 10, .inr (.inl (fun _ => 0)))), (q2 + 1 + 9, .inl (cy 2, 10, .inr (.inl (fun _ => 0))))] H := hP
  have hD : va_D A [(h0, .inr (0, [.ref q1, .ref q2, .int 0, .null, .null, .null, .null])), (q1, .inl (cy 4, 10, .inr (.inr (.inr (.inr (fun i => if i < 10 then some (q1 + 1 + i) else none)))))), (q1 + 1 + 0, .inl (cy 2, 10, .inr (.inl (fun _ => 0)))), (q1 + 1 + 1, .inl (cy 2, 10, .inr (.inl (fun _ => 0)))), (q1 + 1 + 2, .inl (cy 2, 10, .inr (.inl (fun _ => 0)))), (q1 + 1 + 3, .inl (cy 2, 10, .inr (.inl (fun _ => 0)))), (q1 + 1 + 4, .inl (cy 2, 10, .inr (.inl (fun _ => 0)))), (q1 + 1 + 5, .inl (cy 2, 10, .inr (.inl (fun _ => 0)))), (q1 + 1 + 6, .inl (cy 2, 10, .inr (.inl (fun _ => 0)))), (q1 + 1 + 7, .inl (cy 2, 10, .inr (.inl (fun _ => 0)))), (q1 + 1 + 8, .inl (cy 2, 10, .inr (.inl (fun _ => 0)))), (q1 + 1 + 9, .inl (cy 2, 10, .inr (.inl (fun _ => 0)))), (q2, .inl (cy 4, 10, .inr (.inr (.inr (.inr (fun i => if i < 10 then some (q2 + 1 + i) else none)))))), (q2 + 1 + 0, .inl (cy 2, 10, .inr (.inl (fun _ => 0)))), (q2 + 1 + 1, .inl (cy 2, 10, .inr (.inl (fun _ => 0)))), (q2 + 1 + 2, .inl (cy 2, 10, .inr (.inl (fun _ => 0)))), (q2 + 1 + 3, .inl (cy 2, 10, .inr (.inl (fun _ => 0)))), (q2 + 1 + 4, .inl (cy 2, 10, .inr (.inl (fun _ => 0)))), (q2 + 1 + 5, .inl (cy 2, 10, .inr (.inl (fun _ => 0)))), (q2 + 1 + 6, .inl (cy 2, 10, .inr (.inl (fun _ => 0)))), (q2 + 1 + 7, .inl (cy 2, 10, .inr (.inl (fun _ => 0)))), (q2 + 1 + 8, .inl (cy 2, 10, .inr (.inl (fun _ => 0)))), (q2 + 1 + 9, .inl (cy 2, 10, .inr (.inl (fun _ => 0))))] := hD
  refine lv_aload_n hx hb d_E_init_33 rfl (lv_at hl 0 rfl) ?_
  refine lv_bipush (v := 11) hx hb d_E_init_34 (by decide) ?_
  refine wz_newa (atype := .long) (a0 := (11, .inr (.inl (fun _ => 0)))) (N' := 11) hx hb (ht _ kw_190) rfl 2 rfl ra_long hK hP hD hS hA (fun _ => rfl) (by decide) (by decide) (by decide) (Nat.le_of_ble_eq_true rfl) (Nat.le_of_ble_eq_true rfl) d_E_init_36 (fun q3 H hP hD hS => ?_)
  have hP : va_P D cl_all [(h0, .inr (0, [.ref q1, .ref q2, .int 0, .null, .null, .null, .null])), (q1, .inl (cy 4, 10, .inr (.inr (.inr (.inr (fun i => if i < 10 then some (q1 + 1 + i) else none)))))), (q1 + 1 + 0, .inl (cy 2, 10, .inr (.inl (fun _ => 0)))), (q1 + 1 + 1, .inl (cy 2, 10, .inr (.inl (fun _ => 0)))), (q1 + 1 + 2, .inl (cy 2, 10, .inr (.inl (fun _ => 0)))), (q1 + 1 + 3, .inl (cy 2, 10, .inr (.inl (fun _ => 0)))), (q1 + 1 + 4, .inl (cy 2, 10, .inr (.inl (fun _ => 0)))), (q1 + 1 + 5, .inl (cy 2, 10, .inr (.inl (fun _ => 0)))), (q1 + 1 + 6, .inl (cy 2, 10, .inr (.inl (fun _ => 0)))), (q1 + 1 + 7, .inl (cy 2, 10, .inr (.inl (fun _ => 0)))), (q1 + 1 + 8, .inl (cy 2, 10, .inr (.inl (fun _ => 0)))), (q1 + 1 + 9, .inl (cy 2, 10, .inr (.inl (fun _ => 0)))), (q2, .inl (cy 4, 10, .inr (.inr (.inr (.inr (fun i => if i < 10 then some (q2 + 1 + i) else none)))))), (q2 + 1 + 0, .inl (cy 2, 10, .inr (.inl (fun _ => 0)))), (q2 + 1 + 1, .inl (cy 2, 10, .inr (.inl (fun _ => 0)))), (q2 + 1 + 2, .inl (cy 2, 10, .inr (.inl (fun _ => 0)))), (q2 + 1 + 3, .inl (cy 2, 10, .inr (.inl (fun _ => 0)))), (q2 + 1 + 4, .inl (cy 2, 10, .inr (.inl (fun _ => 0)))), (q2 + 1 + 5, .inl (cy 2, 10, .inr (.inl (fun _ => 0)))), (q2 + 1 + 6, .inl (cy 2, 10, .inr (.inl (fun _ => 0)))), (q2 + 1 + 7, .inl (cy 2, 10, .inr (.inl (fun _ => 0)))), (q2 + 1 + 8, .inl (cy 2, 10, .inr (.inl (fun _ => 0)))), (q2 + 1 + 9, .inl (cy 2, 10, .inr (.inl (fun _ => 0)))), (q3, .inl (cy 2, 11, .inr (.inl (fun _ => 0))))] H := hP
  have hD : va_D A [(h0, .inr (0, [.ref q1, .ref q2, .int 0, .null, .null, .null, .null])), (q1, .inl (cy 4, 10, .inr (.inr (.inr (.inr (fun i => if i < 10 then some (q1 + 1 + i) else none)))))), (q1 + 1 + 0, .inl (cy 2, 10, .inr (.inl (fun _ => 0)))), (q1 + 1 + 1, .inl (cy 2, 10, .inr (.inl (fun _ => 0)))), (q1 + 1 + 2, .inl (cy 2, 10, .inr (.inl (fun _ => 0)))), (q1 + 1 + 3, .inl (cy 2, 10, .inr (.inl (fun _ => 0)))), (q1 + 1 + 4, .inl (cy 2, 10, .inr (.inl (fun _ => 0)))), (q1 + 1 + 5, .inl (cy 2, 10, .inr (.inl (fun _ => 0)))), (q1 + 1 + 6, .inl (cy 2, 10, .inr (.inl (fun _ => 0)))), (q1 + 1 + 7, .inl (cy 2, 10, .inr (.inl (fun _ => 0)))), (q1 + 1 + 8, .inl (cy 2, 10, .inr (.inl (fun _ => 0)))), (q1 + 1 + 9, .inl (cy 2, 10, .inr (.inl (fun _ => 0)))), (q2, .inl (cy 4, 10, .inr (.inr (.inr (.inr (fun i => if i < 10 then some (q2 + 1 + i) else none)))))), (q2 + 1 + 0, .inl (cy 2, 10, .inr (.inl (fun _ => 0)))), (q2 + 1 + 1, .inl (cy 2, 10, .inr (.inl (fun _ => 0)))), (q2 + 1 + 2, .inl (cy 2, 10, .inr (.inl (fun _ => 0)))), (q2 + 1 + 3, .inl (cy 2, 10, .inr (.inl (fun _ => 0)))), (q2 + 1 + 4, .inl (cy 2, 10, .inr (.inl (fun _ => 0)))), (q2 + 1 + 5, .inl (cy 2, 10, .inr (.inl (fun _ => 0)))), (q2 + 1 + 6, .inl (cy 2, 10, .inr (.inl (fun _ => 0)))), (q2 + 1 + 7, .inl (cy 2, 10, .inr (.inl (fun _ => 0)))), (q2 + 1 + 8, .inl (cy 2, 10, .inr (.inl (fun _ => 0)))), (q2 + 1 + 9, .inl (cy 2, 10, .inr (.inl (fun _ => 0)))), (q3, .inl (cy 2, 11, .inr (.inl (fun _ => 0))))] := hD
  refine W.widen (k := 23) (n := 231) (by omega) (by omega) ?_
  refine va_putF (D := D) (ci := 0) (v := .ref q3) (ty := .array .long) (C := RQ_E) (T := FQ_E) (N := 7) hx hb ht IQ_E TQ_E TQ_E_ok NQ_E hown hK hP hD hS 0 rfl rfl 3 (by decide) (ht _ kw_171) (fun _ h9 => h9) rfl hin rfl (by decide +kernel) rfl rfl (Nat.le_of_ble_eq_true rfl) d_E_init_38 (fun H locs hP hD hS => ?_)
  have hP : va_P D cl_all [(h0, .inr (0, [.ref q1, .ref q2, .int 0, .ref q3, .null, .null, .null])), (q1, .inl (cy 4, 10, .inr (.inr (.inr (.inr (fun i => if i < 10 then some (q1 + 1 + i) else none)))))), (q1 + 1 + 0, .inl (cy 2, 10, .inr (.inl (fun _ => 0)))), (q1 + 1 + 1, .inl (cy 2, 10, .inr (.inl (fun _ => 0)))), (q1 + 1 + 2, .inl (cy 2, 10, .inr (.inl (fun _ => 0)))), (q1 + 1 + 3, .inl (cy 2, 10, .inr (.inl (fun _ => 0)))), (q1 + 1 + 4, .inl (cy 2, 10, .inr (.inl (fun _ => 0)))), (q1 + 1 + 5, .inl (cy 2, 10, .inr (.inl (fun _ => 0)))), (q1 + 1 + 6, .inl (cy 2, 10, .inr (.inl (fun _ => 0)))), (q1 + 1 + 7, .inl (cy 2, 10, .inr (.inl (fun _ => 0)))), (q1 + 1 + 8, .inl (cy 2, 10, .inr (.inl (fun _ => 0)))), (q1 + 1 + 9, .inl (cy 2, 10, .inr (.inl (fun _ => 0)))), (q2, .inl (cy 4, 10, .inr (.inr (.inr (.inr (fun i => if i < 10 then some (q2 + 1 + i) else none)))))), (q2 + 1 + 0, .inl (cy 2, 10, .inr (.inl (fun _ => 0)))), (q2 + 1 + 1, .inl (cy 2, 10, .inr (.inl (fun _ => 0)))), (q2 + 1 + 2, .inl (cy 2, 10, .inr (.inl (fun _ => 0)))), (q2 + 1 + 3, .inl (cy 2, 10, .inr (.inl (fun _ => 0)))), (q2 + 1 + 4, .inl (cy 2, 10, .inr (.inl (fun _ => 0)))), (q2 + 1 + 5, .inl (cy 2, 10, .inr (.inl (fun _ => 0)))), (q2 + 1 + 6, .inl (cy 2, 10, .inr (.inl (fun _ => 0)))), (q2 + 1 + 7, .inl (cy 2, 10, .inr (.inl (fun _ => 0)))), (q2 + 1 + 8, .inl (cy 2, 10, .inr (.inl (fun _ => 0)))), (q2 + 1 + 9, .inl (cy 2, 10, .inr (.inl (fun _ => 0)))), (q3, .inl (cy 2, 11, .inr (.inl (fun _ => 0))))] H := hP
  have hD : va_D A [(h0, .inr (0, [.ref q1, .ref q2, .int 0, .ref q3, .null, .null, .null])), (q1, .inl (cy 4, 10, .inr (.inr (.inr (.inr (fun i => if i < 10 then some (q1 + 1 + i) else none)))))), (q1 + 1 + 0, .inl (cy 2, 10, .inr (.inl (fun _ => 0)))), (q1 + 1 + 1, .inl (cy 2, 10, .inr (.inl (fun _ => 0)))), (q1 + 1 + 2, .inl (cy 2, 10, .inr (.inl (fun _ => 0)))), (q1 + 1 + 3, .inl (cy 2, 10, .inr (.inl (fun _ => 0)))), (q1 + 1 + 4, .inl (cy 2, 10, .inr (.inl (fun _ => 0)))), (q1 + 1 + 5, .inl (cy 2, 10, .inr (.inl (fun _ => 0)))), (q1 + 1 + 6, .inl (cy 2, 10, .inr (.inl (fun _ => 0)))), (q1 + 1 + 7, .inl (cy 2, 10, .inr (.inl (fun _ => 0)))), (q1 + 1 + 8, .inl (cy 2, 10, .inr (.inl (fun _ => 0)))), (q1 + 1 + 9, .inl (cy 2, 10, .inr (.inl (fun _ => 0)))), (q2, .inl (cy 4, 10, .inr (.inr (.inr (.inr (fun i => if i < 10 then some (q2 + 1 + i) else none)))))), (q2 + 1 + 0, .inl (cy 2, 10, .inr (.inl (fun _ => 0)))), (q2 + 1 + 1, .inl (cy 2, 10, .inr (.inl (fun _ => 0)))), (q2 + 1 + 2, .inl (cy 2, 10, .inr (.inl (fun _ => 0)))), (q2 + 1 + 3, .inl (cy 2, 10, .inr (.inl (fun _ => 0)))), (q2 + 1 + 4, .inl (cy 2, 10, .inr (.inl (fun _ => 0)))), (q2 + 1 + 5, .inl (cy 2, 10, .inr (.inl (fun _ => 0)))), (q2 + 1 + 6, .inl (cy 2, 10, .inr (.inl (fun _ => 0)))), (q2 + 1 + 7, .inl (cy 2, 10, .inr (.inl (fun _ => 0)))), (q2 + 1 + 8, .inl (cy 2, 10, .inr (.inl (fun _ => 0)))), (q2 + 1 + 9, .inl (cy 2, 10, .inr (.inl (fun _ => 0)))), (q3, .inl (cy 2, 11, .inr (.inl (fun _ => 0))))] := hD
  refine lv_aload_n hx hb d_E_init_41 rfl (lv_at hl 0 rfl) ?_
  refine lv_bipush (v := 11) hx hb d_E_init_42 (by decide) ?_
  refine wz_newa (atype := .long) (a0 := (11, .inr (.inl (fun _ => 0)))) (N' := 11) hx hb (ht _ kw_190) rfl 2 rfl ra_long hK hP hD hS hA (fun _ => rfl) (by decide) (by decide) (by decide) (Nat.le_of_ble_eq_true rfl) (Nat.le_of_ble_eq_true rfl) d_E_init_44 (fun q4 H hP hD hS => ?_)
  have hP : va_P D cl_all [(h0, .inr (0, [.ref q1, .ref q2, .int 0, .ref q3, .null, .null, .null])), (q1, .inl (cy 4, 10, .inr (.inr (.inr (.inr (fun i => if i < 10 then some (q1 + 1 + i) else none)))))), (q1 + 1 + 0, .inl (cy 2, 10, .inr (.inl (fun _ => 0)))), (q1 + 1 + 1, .inl (cy 2, 10, .inr (.inl (fun _ => 0)))), (q1 + 1 + 2, .inl (cy 2, 10, .inr (.inl (fun _ => 0)))), (q1 + 1 + 3, .inl (cy 2, 10, .inr (.inl (fun _ => 0)))), (q1 + 1 + 4, .inl (cy 2, 10, .inr (.inl (fun _ => 0)))), (q1 + 1 + 5, .inl (cy 2, 10, .inr (.inl (fun _ => 0)))), (q1 + 1 + 6, .inl (cy 2, 10, .inr (.inl (fun _ => 0)))), (q1 + 1 + 7, .inl (cy 2, 10, .inr (.inl (fun _ => 0)))), (q1 + 1 + 8, .inl (cy 2, 10, .inr (.inl (fun _ => 0)))), (q1 + 1 + 9, .inl (cy 2, 10, .inr (.inl (fun _ => 0)))), (q2, .inl (cy 4, 10, .inr (.inr (.inr (.inr (fun i => if i < 10 then some (q2 + 1 + i) else none)))))), (q2 + 1 + 0, .inl (cy 2, 10, .inr (.inl (fun _ => 0)))), (q2 + 1 + 1, .inl (cy 2, 10, .inr (.inl (fun _ => 0)))), (q2 + 1 + 2, .inl (cy 2, 10, .inr (.inl (fun _ => 0)))), (q2 + 1 + 3, .inl (cy 2, 10, .inr (.inl (fun _ => 0)))), (q2 + 1 + 4, .inl (cy 2, 10, .inr (.inl (fun _ => 0)))), (q2 + 1 + 5, .inl (cy 2, 10, .inr (.inl (fun _ => 0)))), (q2 + 1 + 6, .inl (cy 2, 10, .inr (.inl (fun _ => 0)))), (q2 + 1 + 7, .inl (cy 2, 10, .inr (.inl (fun _ => 0)))), (q2 + 1 + 8, .inl (cy 2, 10, .inr (.inl (fun _ => 0)))), (q2 + 1 + 9, .inl (cy 2, 10, .inr (.inl (fun _ => 0)))), (q3, .inl (cy 2, 11, .inr (.inl (fun _ => 0)))), (q4, .inl (cy 2, 11, .inr (.inl (fun _ => 0))))] H := hP
  have hD : va_D A [(h0, .inr (0, [.ref q1, .ref q2, .int 0, .ref q3, .null, .null, .null])), (q1, .inl (cy 4, 10, .inr (.inr (.inr (.inr (fun i => if i < 10 then some (q1 + 1 + i) else none)))))), (q1 + 1 + 0, .inl (cy 2, 10, .inr (.inl (fun _ => 0)))), (q1 + 1 + 1, .inl (cy 2, 10, .inr (.inl (fun _ => 0)))), (q1 + 1 + 2, .inl (cy 2, 10, .inr (.inl (fun _ => 0)))), (q1 + 1 + 3, .inl (cy 2, 10, .inr (.inl (fun _ => 0)))), (q1 + 1 + 4, .inl (cy 2, 10, .inr (.inl (fun _ => 0)))), (q1 + 1 + 5, .inl (cy 2, 10, .inr (.inl (fun _ => 0)))), (q1 + 1 + 6, .inl (cy 2, 10, .inr (.inl (fun _ => 0)))), (q1 + 1 + 7, .inl (cy 2, 10, .inr (.inl (fun _ => 0)))), (q1 + 1 + 8, .inl (cy 2, 10, .inr (.inl (fun _ => 0)))), (q1 + 1 + 9, .inl (cy 2, 10, .inr (.inl (fun _ => 0)))), (q2, .inl (cy 4, 10, .inr (.inr (.inr (.inr (fun i => if i < 10 then some (q2 + 1 + i) else none)))))), (q2 + 1 + 0, .inl (cy 2, 10, .inr (.inl (fun _ => 0)))), (q2 + 1 + 1, .inl (cy 2, 10, .inr (.inl (fun _ => 0)))), (q2 + 1 + 2, .inl (cy 2, 10, .inr (.inl (fun _ => 0)))), (q2 + 1 + 3, .inl (cy 2, 10, .inr (.inl (fun _ => 0)))), (q2 + 1 + 4, .inl (cy 2, 10, .inr (.inl (fun _ => 0)))), (q2 + 1 + 5, .inl (cy 2, 10, .inr (.inl (fun _ => 0)))), (q2 + 1 + 6, .inl (cy 2, 10, .inr (.inl (fun _ => 0)))), (q2 + 1 + 7, .inl (cy 2, 10, .inr (.inl (fun _ => 0)))), (q2 + 1 + 8, .inl (cy 2, 10, .inr (.inl (fun _ => 0)))), (q2 + 1 + 9, .inl (cy 2, 10, .inr (.inl (fun _ => 0)))), (q3, .inl (cy 2, 11, .inr (.inl (fun _ => 0)))), (q4, .inl (cy 2, 11, .inr (.inl (fun _ => 0))))] := hD
  refine W.widen (k := 24) (n := 242) (by omega) (by omega) ?_
  refine va_putF (D := D) (ci := 0) (v := .ref q4) (ty := .array .long) (C := RQ_E) (T := FQ_E) (N := 7) hx hb ht IQ_E TQ_E TQ_E_ok NQ_E hown hK hP hD hS 0 rfl rfl 4 (by decide) (ht _ kw_172) (fun _ h9 => h9) rfl hin rfl (by decide +kernel) rfl rfl (Nat.le_of_ble_eq_true rfl) d_E_init_46 (fun H locs hP hD hS => ?_)
  have hP : va_P D cl_all [(h0, .inr (0, [.ref q1, .ref q2, .int 0, .ref q3, .ref q4, .null, .null])), (q1, .inl (cy 4, 10, .inr (.inr (.inr (.inr (fun i => if i < 10 then some (q1 + 1 + i) else none)))))), (q1 + 1 + 0, .inl (cy 2, 10, .inr (.inl (fun _ => 0)))), (q1 + 1 + 1, .inl (cy 2, 10, .inr (.inl (fun _ => 0)))), (q1 + 1 + 2, .inl (cy 2, 10, .inr (.inl (fun _ => 0)))), (q1 + 1 + 3, .inl (cy 2, 10, .inr (.inl (fun _ => 0)))), (q1 + 1 + 4, .inl (cy 2, 10, .inr (.inl (fun _ => 0)))), (q1 + 1 + 5, .inl (cy 2, 10, .inr (.inl (fun _ => 0)))), (q1 + 1 + 6, .inl (cy 2, 10, .inr (.inl (fun _ => 0)))), (q1 + 1 + 7, .inl (cy 2, 10, .inr (.inl (fun _ => 0)))), (q1 + 1 + 8, .inl (cy 2, 10, .inr (.inl (fun _ => 0)))), (q1 + 1 + 9, .inl (cy 2, 10, .inr (.inl (fun _ => 0)))), (q2, .inl (cy 4, 10, .inr (.inr (.inr (.inr (fun i => if i < 10 then some (q2 + 1 + i) else none)))))), (q2 + 1 + 0, .inl (cy 2, 10, .inr (.inl (fun _ => 0)))), (q2 + 1 + 1, .inl (cy 2, 10, .inr (.inl (fun _ => 0)))), (q2 + 1 + 2, .inl (cy 2, 10, .inr (.inl (fun _ => 0)))), (q2 + 1 + 3, .inl (cy 2, 10, .inr (.inl (fun _ => 0)))), (q2 + 1 + 4, .inl (cy 2, 10, .inr (.inl (fun _ => 0)))), (q2 + 1 + 5, .inl (cy 2, 10, .inr (.inl (fun _ => 0)))), (q2 + 1 + 6, .inl (cy 2, 10, .inr (.inl (fun _ => 0)))), (q2 + 1 + 7, .inl (cy 2, 10, .inr (.inl (fun _ => 0)))), (q2 + 1 + 8, .inl (cy 2, 10, .inr (.inl (fun _ => 0)))), (q2 + 1 + 9, .inl (cy 2, 10, .inr (.inl (fun _ => 0)))), (q3, .inl (cy 2, 11, .inr (.inl (fun _ => 0)))), (q4, .inl (cy 2, 11, .inr (.inl (fun _ => 0))))] H := hP
  have hD : va_D A [(h0, .inr (0, [.ref q1, .ref q2, .int 0, .ref q3, .ref q4, .null, .null])), (q1, .inl (cy 4, 10, .inr (.inr (.inr (.inr (fun i => if i < 10 then some (q1 + 1 + i) else none)))))), (q1 + 1 + 0, .inl (cy 2, 10, .inr (.inl (fun _ => 0)))), (q1 + 1 + 1, .inl (cy 2, 10, .inr (.inl (fun _ => 0)))), (q1 + 1 + 2, .inl (cy 2, 10, .inr (.inl (fun _ => 0)))), (q1 + 1 + 3, .inl (cy 2, 10, .inr (.inl (fun _ => 0)))), (q1 + 1 + 4, .inl (cy 2, 10, .inr (.inl (fun _ => 0)))), (q1 + 1 + 5, .inl (cy 2, 10, .inr (.inl (fun _ => 0)))), (q1 + 1 + 6, .inl (cy 2, 10, .inr (.inl (fun _ => 0)))), (q1 + 1 + 7, .inl (cy 2, 10, .inr (.inl (fun _ => 0)))), (q1 + 1 + 8, .inl (cy 2, 10, .inr (.inl (fun _ => 0)))), (q1 + 1 + 9, .inl (cy 2, 10, .inr (.inl (fun _ => 0)))), (q2, .inl (cy 4, 10, .inr (.inr (.inr (.inr (fun i => if i < 10 then some (q2 + 1 + i) else none)))))), (q2 + 1 + 0, .inl (cy 2, 10, .inr (.inl (fun _ => 0)))), (q2 + 1 + 1, .inl (cy 2, 10, .inr (.inl (fun _ => 0)))), (q2 + 1 + 2, .inl (cy 2, 10, .inr (.inl (fun _ => 0)))), (q2 + 1 + 3, .inl (cy 2, 10, .inr (.inl (fun _ => 0)))), (q2 + 1 + 4, .inl (cy 2, 10, .inr (.inl (fun _ => 0)))), (q2 + 1 + 5, .inl (cy 2, 10, .inr (.inl (fun _ => 0)))), (q2 + 1 + 6, .inl (cy 2, 10, .inr (.inl (fun _ => 0)))), (q2 + 1 + 7, .inl (cy 2, 10, .inr (.inl (fun _ => 0)))), (q2 + 1 + 8, .inl (cy 2, 10, .inr (.inl (fun _ => 0)))), (q2 + 1 + 9, .inl (cy 2, 10, .inr (.inl (fun _ => 0)))), (q3, .inl (cy 2, 11, .inr (.inl (fun _ => 0)))), (q4, .inl (cy 2, 11, .inr (.inl (fun _ => 0))))] := hD
  refine lv_aload_n hx hb d_E_init_49 rfl (lv_at hl 0 rfl) ?_
  refine lv_bipush (v := 10) hx hb d_E_init_50 (by decide) ?_
  refine wz_newa (atype := .long) (a0 := (10, .inr (.inl (fun _ => 0)))) (N' := 10) hx hb (ht _ kw_190) rfl 2 rfl ra_long hK hP hD hS hA (fun _ => rfl) (by decide) (by decide) (by decide) (Nat.le_of_ble_eq_true rfl) (Nat.le_of_ble_eq_true rfl) d_E_init_52 (fun q5 H hP hD hS => ?_)
  have hP : va_P D cl_all [(h0, .inr (0, [.ref q1, .ref q2, .int 0, .ref q3, .ref q4, .null, .null])), (q1, .inl (cy 4, 10, .inr (.inr (.inr (.inr (fun i => if i < 10 then some (q1 + 1 + i) else none)))))), (q1 + 1 + 0, .inl (cy 2, 10, .inr (.inl (fun _ => 0)))), (q1 + 1 + 1, .inl (cy 2, 10, .inr (.inl (fun _ => 0)))), (q1 + 1 + 2, .inl (cy 2, 10, .inr (.inl (fun _ => 0)))), (q1 + 1 + 3, .inl (cy 2, 10, .inr (.inl (fun _ => 0)))), (q1 + 1 + 4, .inl (cy 2, 10, .inr (.inl (fun _ => 0)))), (q1 + 1 + 5, .inl (cy 2, 10, .inr (.inl (fun _ => 0)))), (q1 + 1 + 6, .inl (cy 2, 10, .inr (.inl (fun _ => 0)))), (q1 + 1 + 7, .inl (cy 2, 10, .inr (.inl (fun _ => 0)))), (q1 + 1 + 8, .inl (cy 2, 10, .inr (.inl (fun _ => 0)))), (q1 + 1 + 9, .inl (cy 2, 10, .inr (.inl (fun _ => 0)))), (q2, .inl (cy 4, 10, .inr (.inr (.inr (.inr (fun i => if i < 10 then some (q2 + 1 + i) else none)))))), (q2 + 1 + 0, .inl (cy 2, 10, .inr (.inl (fun _ => 0)))), (q2 + 1 + 1, .inl (cy 2, 10, .inr (.inl (fun _ => 0)))), (q2 + 1 + 2, .inl (cy 2, 10, .inr (.inl (fun _ => 0)))), (q2 + 1 + 3, .inl (cy 2, 10, .inr (.inl (fun _ => 0)))), (q2 + 1 + 4, .inl (cy 2, 10, .inr (.inl (fun _ => 0)))), (q2 + 1 + 5, .inl (cy 2, 10, .inr (.inl (fun _ => 0)))), (q2 + 1 + 6, .inl (cy 2, 10, .inr (.inl (fun _ => 0)))), (q2 + 1 + 7, .inl (cy 2, 10, .inr (.inl (fun _ => 0)))), (q2 + 1 + 8, .inl (cy 2, 10, .inr (.inl (fun _ => 0)))), (q2 + 1 + 9, .inl (cy 2, 10, .inr (.inl (fun _ => 0)))), (q3, .inl (cy 2, 11, .inr (.inl (fun _ => 0)))), (q4, .inl (cy 2, 11, .inr (.inl (fun _ => 0)))), (q5, .inl (cy 2, 10, .inr (.inl (fun _ => 0))))] H := hP
  have hD : va_D A [(h0, .inr (0, [.ref q1, .ref q2, .int 0, .ref q3, .ref q4, .null, .null])), (q1, .inl (cy 4, 10, .inr (.inr (.inr (.inr (fun i => if i < 10 then some (q1 + 1 + i) else none)))))), (q1 + 1 + 0, .inl (cy 2, 10, .inr (.inl (fun _ => 0)))), (q1 + 1 + 1, .inl (cy 2, 10, .inr (.inl (fun _ => 0)))), (q1 + 1 + 2, .inl (cy 2, 10, .inr (.inl (fun _ => 0)))), (q1 + 1 + 3, .inl (cy 2, 10, .inr (.inl (fun _ => 0)))), (q1 + 1 + 4, .inl (cy 2, 10, .inr (.inl (fun _ => 0)))), (q1 + 1 + 5, .inl (cy 2, 10, .inr (.inl (fun _ => 0)))), (q1 + 1 + 6, .inl (cy 2, 10, .inr (.inl (fun _ => 0)))), (q1 + 1 + 7, .inl (cy 2, 10, .inr (.inl (fun _ => 0)))), (q1 + 1 + 8, .inl (cy 2, 10, .inr (.inl (fun _ => 0)))), (q1 + 1 + 9, .inl (cy 2, 10, .inr (.inl (fun _ => 0)))), (q2, .inl (cy 4, 10, .inr (.inr (.inr (.inr (fun i => if i < 10 then some (q2 + 1 + i) else none)))))), (q2 + 1 + 0, .inl (cy 2, 10, .inr (.inl (fun _ => 0)))), (q2 + 1 + 1, .inl (cy 2, 10, .inr (.inl (fun _ => 0)))), (q2 + 1 + 2, .inl (cy 2, 10, .inr (.inl (fun _ => 0)))), (q2 + 1 + 3, .inl (cy 2, 10, .inr (.inl (fun _ => 0)))), (q2 + 1 + 4, .inl (cy 2, 10, .inr (.inl (fun _ => 0)))), (q2 + 1 + 5, .inl (cy 2, 10, .inr (.inl (fun _ => 0)))), (q2 + 1 + 6, .inl (cy 2, 10, .inr (.inl (fun _ => 0)))), (q2 + 1 + 7, .inl (cy 2, 10, .inr (.inl (fun _ => 0)))), (q2 + 1 + 8, .inl (cy 2, 10, .inr (.inl (fun _ => 0)))), (q2 + 1 + 9, .inl (cy 2, 10, .inr (.inl (fun _ => 0)))), (q3, .inl (cy 2, 11, .inr (.inl (fun _ => 0)))), (q4, .inl (cy 2, 11, .inr (.inl (fun _ => 0)))), (q5, .inl (cy 2, 10, .inr (.inl (fun _ => 0))))] := hD
  refine W.widen (k := 25) (n := 252) (by omega) (by omega) ?_
  refine va_putF (D := D) (ci := 0) (v := .ref q5) (ty := .array .long) (C := RQ_E) (T := FQ_E) (N := 7) hx hb ht IQ_E TQ_E TQ_E_ok NQ_E hown hK hP hD hS 0 rfl rfl 5 (by decide) (ht _ kw_173) (fun _ h9 => h9) rfl hin rfl (by decide +kernel) rfl rfl (Nat.le_of_ble_eq_true rfl) d_E_init_54 (fun H locs hP hD hS => ?_)
  have hP : va_P D cl_all [(h0, .inr (0, [.ref q1, .ref q2, .int 0, .ref q3, .ref q4, .ref q5, .null])), (q1, .inl (cy 4, 10, .inr (.inr (.inr (.inr (fun i => if i < 10 then some (q1 + 1 + i) else none)))))), (q1 + 1 + 0, .inl (cy 2, 10, .inr (.inl (fun _ => 0)))), (q1 + 1 + 1, .inl (cy 2, 10, .inr (.inl (fun _ => 0)))), (q1 + 1 + 2, .inl (cy 2, 10, .inr (.inl (fun _ => 0)))), (q1 + 1 + 3, .inl (cy 2, 10, .inr (.inl (fun _ => 0)))), (q1 + 1 + 4, .inl (cy 2, 10, .inr (.inl (fun _ => 0)))), (q1 + 1 + 5, .inl (cy 2, 10, .inr (.inl (fun _ => 0)))), (q1 + 1 + 6, .inl (cy 2, 10, .inr (.inl (fun _ => 0)))), (q1 + 1 + 7, .inl (cy 2, 10, .inr (.inl (fun _ => 0)))), (q1 + 1 + 8, .inl (cy 2, 10, .inr (.inl (fun _ => 0)))), (q1 + 1 + 9, .inl (cy 2, 10, .inr (.inl (fun _ => 0)))), (q2, .inl (cy 4, 10, .inr (.inr (.inr (.inr (fun i => if i < 10 then some (q2 + 1 + i) else none)))))), (q2 + 1 + 0, .inl (cy 2, 10, .inr (.inl (fun _ => 0)))), (q2 + 1 + 1, .inl (cy 2, 10, .inr (.inl (fun _ => 0)))), (q2 + 1 + 2, .inl (cy 2, 10, .inr (.inl (fun _ => 0)))), (q2 + 1 + 3, .inl (cy 2, 10, .inr (.inl (fun _ => 0)))), (q2 + 1 + 4, .inl (cy 2, 10, .inr (.inl (fun _ => 0)))), (q2 + 1 + 5, .inl (cy 2, 10, .inr (.inl (fun _ => 0)))), (q2 + 1 + 6, .inl (cy 2, 10, .inr (.inl (fun _ => 0)))), (q2 + 1 + 7, .inl (cy 2, 10, .inr (.inl (fun _ => 0)))), (q2 + 1 + 8, .inl (cy 2, 10, .inr (.inl (fun _ => 0)))), (q2 + 1 + 9, .inl (cy 2, 10, .inr (.inl (fun _ => 0)))), (q3, .inl (cy 2, 11, .inr (.inl (fun _ => 0)))), (q4, .inl (cy 2, 11, .inr (.inl (fun _ => 0)))), (q5, .inl (cy 2, 10, .inr (.inl (fun _ => 0))))] H := hP
  have hD : va_D A [(h0, .inr (0, [.ref q1, .ref q2, .int 0, .ref q3, .ref q4, .ref q5, .null])), (q1, .inl (cy 4, 10, .inr (.inr (.inr (.inr (fun i => if i < 10 then some (q1 + 1 + i) else none)))))), (q1 + 1 + 0, .inl (cy 2, 10, .inr (.inl (fun _ => 0)))), (q1 + 1 + 1, .inl (cy 2, 10, .inr (.inl (fun _ => 0)))), (q1 + 1 + 2, .inl (cy 2, 10, .inr (.inl (fun _ => 0)))), (q1 + 1 + 3, .inl (cy 2, 10, .inr (.inl (fun _ => 0)))), (q1 + 1 + 4, .inl (cy 2, 10, .inr (.inl (fun _ => 0)))), (q1 + 1 + 5, .inl (cy 2, 10, .inr (.inl (fun _ => 0)))), (q1 + 1 + 6, .inl (cy 2, 10, .inr (.inl (fun _ => 0)))), (q1 + 1 + 7, .inl (cy 2, 10, .inr (.inl (fun _ => 0)))), (q1 + 1 + 8, .inl (cy 2, 10, .inr (.inl (fun _ => 0)))), (q1 + 1 + 9, .inl (cy 2, 10, .inr (.inl (fun _ => 0)))), (q2, .inl (cy 4, 10, .inr (.inr (.inr (.inr (fun i => if i < 10 then some (q2 + 1 + i) else none)))))), (q2 + 1 + 0, .inl (cy 2, 10, .inr (.inl (fun _ => 0)))), (q2 + 1 + 1, .inl (cy 2, 10, .inr (.inl (fun _ => 0)))), (q2 + 1 + 2, .inl (cy 2, 10, .inr (.inl (fun _ => 0)))), (q2 + 1 + 3, .inl (cy 2, 10, .inr (.inl (fun _ => 0)))), (q2 + 1 + 4, .inl (cy 2, 10, .inr (.inl (fun _ => 0)))), (q2 + 1 + 5, .inl (cy 2, 10, .inr (.inl (fun _ => 0)))), (q2 + 1 + 6, .inl (cy 2, 10, .inr (.inl (fun _ => 0)))), (q2 + 1 + 7, .inl (cy 2, 10, .inr (.inl (fun _ => 0)))), (q2 + 1 + 8, .inl (cy 2, 10, .inr (.inl (fun _ => 0)))), (q2 + 1 + 9, .inl (cy 2, 10, .inr (.inl (fun _ => 0)))), (q3, .inl (cy 2, 11, .inr (.inl (fun _ => 0)))), (q4, .inl (cy 2, 11, .inr (.inl (fun _ => 0)))), (q5, .inl (cy 2, 10, .inr (.inl (fun _ => 0))))] := hD
  refine lv_aload_n hx hb d_E_init_57 rfl (lv_at hl 0 rfl) ?_
  refine lv_bipush (v := 10) hx hb d_E_init_58 (by decide) ?_
  refine wz_newa (atype := .long) (a0 := (10, .inr (.inl (fun _ => 0)))) (N' := 10) hx hb (ht _ kw_190) rfl 2 rfl ra_long hK hP hD hS hA (fun _ => rfl) (by decide) (by decide) (by decide) (Nat.le_of_ble_eq_true rfl) (Nat.le_of_ble_eq_true rfl) d_E_init_60 (fun q6 H hP hD hS => ?_)
  have hP : va_P D cl_all [(h0, .inr (0, [.ref q1, .ref q2, .int 0, .ref q3, .ref q4, .ref q5, .null])), (q1, .inl (cy 4, 10, .inr (.inr (.inr (.inr (fun i => if i < 10 then some (q1 + 1 + i) else none)))))), (q1 + 1 + 0, .inl (cy 2, 10, .inr (.inl (fun _ => 0)))), (q1 + 1 + 1, .inl (cy 2, 10, .inr (.inl (fun _ => 0)))), (q1 + 1 + 2, .inl (cy 2, 10, .inr (.inl (fun _ => 0)))), (q1 + 1 + 3, .inl (cy 2, 10, .inr (.inl (fun _ => 0)))), (q1 + 1 + 4, .inl (cy 2, 10, .inr (.inl (fun _ => 0)))), (q1 + 1 + 5, .inl (cy 2, 10, .inr (.inl (fun _ => 0)))), (q1 + 1 + 6, .inl (cy 2, 10, .inr (.inl (fun _ => 0)))), (q1 + 1 + 7, .inl (cy 2, 10, .inr (.inl (fun _ => 0)))), (q1 + 1 + 8, .inl (cy 2, 10, .inr (.inl (fun _ => 0)))), (q1 + 1 + 9, .inl (cy 2, 10, .inr (.inl (fun _ => 0)))), (q2, .inl (cy 4, 10, .inr (.inr (.inr (.inr (fun i => if i < 10 then some (q2 + 1 + i) else none)))))), (q2 + 1 + 0, .inl (cy 2, 10, .inr (.inl (fun _ => 0)))), (q2 + 1 + 1, .inl (cy 2, 10, .inr (.inl (fun _ => 0)))), (q2 + 1 + 2, .inl (cy 2, 10, .inr (.inl (fun _ => 0)))), (q2 + 1 + 3, .inl (cy 2, 10, .inr (.inl (fun _ => 0)))), (q2 + 1 + 4, .inl (cy 2, 10, .inr (.inl (fun _ => 0)))), (q2 + 1 + 5, .inl (cy 2, 10, .inr (.inl (fun _ => 0)))), (q2 + 1 + 6, .inl (cy 2, 10, .inr (.inl (fun _ => 0)))), (q2 + 1 + 7, .inl (cy 2, 10, .inr (.inl (fun _ => 0)))), (q2 + 1 + 8, .inl (cy 2, 10, .inr (.inl (fun _ => 0)))), (q2 + 1 + 9, .inl (cy 2, 10, .inr (.inl (fun _ => 0)))), (q3, .inl (cy 2, 11, .inr (.inl (fun _ => 0)))), (q4, .inl (cy 2, 11, .inr (.inl (fun _ => 0)))), (q5, .inl (cy 2, 10, .inr (.inl (fun _ => 0)))), (q6, .inl (cy 2, 10, .inr (.inl (fun _ => 0))))] H := hP
  have hD : va_D A [(h0, .inr (0, [.ref q1, .ref q2, .int 0, .ref q3, .ref q4, .ref q5, .null])), (q1, .inl (cy 4, 10, .inr (.inr (.inr (.inr (fun i => if i < 10 then some (q1 + 1 + i) else none)))))), (q1 + 1 + 0, .inl (cy 2, 10, .inr (.inl (fun _ => 0)))), (q1 + 1 + 1, .inl (cy 2, 10, .inr (.inl (fun _ => 0)))), (q1 + 1 + 2, .inl (cy 2, 10, .inr (.inl (fun _ => 0)))), (q1 + 1 + 3, .inl (cy 2, 10, .inr (.inl (fun _ => 0)))), (q1 + 1 + 4, .inl (cy 2, 10, .inr (.inl (fun _ => 0)))), (q1 + 1 + 5, .inl (cy 2, 10, .inr (.inl (fun _ => 0)))), (q1 + 1 + 6, .inl (cy 2, 10, .inr (.inl (fun _ => 0)))), (q1 + 1 + 7, .inl (cy 2, 10, .inr (.inl (fun _ => 0)))), (q1 + 1 + 8, .inl (cy 2, 10, .inr (.inl (fun _ => 0)))), (q1 + 1 + 9, .inl (cy 2, 10, .inr (.inl (fun _ => 0)))), (q2, .inl (cy 4, 10, .inr (.inr (.inr (.inr (fun i => if i < 10 then some (q2 + 1 + i) else none)))))), (q2 + 1 + 0, .inl (cy 2, 10, .inr (.inl (fun _ => 0)))), (q2 + 1 + 1, .inl (cy 2, 10, .inr (.inl (fun _ => 0)))), (q2 + 1 + 2, .inl (cy 2, 10, .inr (.inl (fun _ => 0)))), (q2 + 1 + 3, .inl (cy 2, 10, .inr (.inl (fun _ => 0)))), (q2 + 1 + 4, .inl (cy 2, 10, .inr (.inl (fun _ => 0)))), (q2 + 1 + 5, .inl (cy 2, 10, .inr (.inl (fun _ => 0)))), (q2 + 1 + 6, .inl (cy 2, 10, .inr (.inl (fun _ => 0)))), (q2 + 1 + 7, .inl (cy 2, 10, .inr (.inl (fun _ => 0)))), (q2 + 1 + 8, .inl (cy 2, 10, .inr (.inl (fun _ => 0)))), (q2 + 1 + 9, .inl (cy 2, 10, .inr (.inl (fun _ => 0)))), (q3, .inl (cy 2, 11, .inr (.inl (fun _ => 0)))), (q4, .inl (cy 2, 11, .inr (.inl (fun _ => 0)))), (q5, .inl (cy 2, 10, .inr (.inl (fun _ => 0)))), (q6, .inl (cy 2, 10, .inr (.inl (fun _ => 0))))] := hD
  refine W.widen (k := 26) (n := 262) (by omega) (by omega) ?_
  refine va_putF (D := D) (ci := 0) (v := .ref q6) (ty := .array .long) (C := RQ_E) (T := FQ_E) (N := 7) hx hb ht IQ_E TQ_E TQ_E_ok NQ_E hown hK hP hD hS 0 rfl rfl 6 (by decide) (ht _ kw_174) (fun _ h9 => h9) rfl hin rfl (by decide +kernel) rfl rfl (Nat.le_of_ble_eq_true rfl) d_E_init_62 (fun H locs hP hD hS => ?_)
  have hP : va_P D cl_all [(h0, .inr (0, [.ref q1, .ref q2, .int 0, .ref q3, .ref q4, .ref q5, .ref q6])), (q1, .inl (cy 4, 10, .inr (.inr (.inr (.inr (fun i => if i < 10 then some (q1 + 1 + i) else none)))))), (q1 + 1 + 0, .inl (cy 2, 10, .inr (.inl (fun _ => 0)))), (q1 + 1 + 1, .inl (cy 2, 10, .inr (.inl (fun _ => 0)))), (q1 + 1 + 2, .inl (cy 2, 10, .inr (.inl (fun _ => 0)))), (q1 + 1 + 3, .inl (cy 2, 10, .inr (.inl (fun _ => 0)))), (q1 + 1 + 4, .inl (cy 2, 10, .inr (.inl (fun _ => 0)))), (q1 + 1 + 5, .inl (cy 2, 10, .inr (.inl (fun _ => 0)))), (q1 + 1 + 6, .inl (cy 2, 10, .inr (.inl (fun _ => 0)))), (q1 + 1 + 7, .inl (cy 2, 10, .inr (.inl (fun _ => 0)))), (q1 + 1 + 8, .inl (cy 2, 10, .inr (.inl (fun _ => 0)))), (q1 + 1 + 9, .inl (cy 2, 10, .inr (.inl (fun _ => 0)))), (q2, .inl (cy 4, 10, .inr (.inr (.inr (.inr (fun i => if i < 10 then some (q2 + 1 + i) else none)))))), (q2 + 1 + 0, .inl (cy 2, 10, .inr (.inl (fun _ => 0)))), (q2 + 1 + 1, .inl (cy 2, 10, .inr (.inl (fun _ => 0)))), (q2 + 1 + 2, .inl (cy 2, 10, .inr (.inl (fun _ => 0)))), (q2 + 1 + 3, .inl (cy 2, 10, .inr (.inl (fun _ => 0)))), (q2 + 1 + 4, .inl (cy 2, 10, .inr (.inl (fun _ => 0)))), (q2 + 1 + 5, .inl (cy 2, 10, .inr (.inl (fun _ => 0)))), (q2 + 1 + 6, .inl (cy 2, 10, .inr (.inl (fun _ => 0)))), (q2 + 1 + 7, .inl (cy 2, 10, .inr (.inl (fun _ => 0)))), (q2 + 1 + 8, .inl (cy 2, 10, .inr (.inl (fun _ => 0)))), (q2 + 1 + 9, .inl (cy 2, 10, .inr (.inl (fun _ => 0)))), (q3, .inl (cy 2, 11, .inr (.inl (fun _ => 0)))), (q4, .inl (cy 2, 11, .inr (.inl (fun _ => 0)))), (q5, .inl (cy 2, 10, .inr (.inl (fun _ => 0)))), (q6, .inl (cy 2, 10, .inr (.inl (fun _ => 0))))] H := hP
  have hD : va_D A [(h0, .inr (0, [.ref q1, .ref q2, .int 0, .ref q3, .ref q4, .ref q5, .ref q6])), (q1, .inl (cy 4, 10, .inr (.inr (.inr (.inr (fun i => if i < 10 then some (q1 + 1 + i) else none)))))), (q1 + 1 + 0, .inl (cy 2, 10, .inr (.inl (fun _ => 0)))), (q1 + 1 + 1, .inl (cy 2, 10, .inr (.inl (fun _ => 0)))), (q1 + 1 + 2, .inl (cy 2, 10, .inr (.inl (fun _ => 0)))), (q1 + 1 + 3, .inl (cy 2, 10, .inr (.inl (fun _ => 0)))), (q1 + 1 + 4, .inl (cy 2, 10, .inr (.inl (fun _ => 0)))), (q1 + 1 + 5, .inl (cy 2, 10, .inr (.inl (fun _ => 0)))), (q1 + 1 + 6, .inl (cy 2, 10, .inr (.inl (fun _ => 0)))), (q1 + 1 + 7, .inl (cy 2, 10, .inr (.inl (fun _ => 0)))), (q1 + 1 + 8, .inl (cy 2, 10, .inr (.inl (fun _ => 0)))), (q1 + 1 + 9, .inl (cy 2, 10, .inr (.inl (fun _ => 0)))), (q2, .inl (cy 4, 10, .inr (.inr (.inr (.inr (fun i => if i < 10 then some (q2 + 1 + i) else none)))))), (q2 + 1 + 0, .inl (cy 2, 10, .inr (.inl (fun _ => 0)))), (q2 + 1 + 1, .inl (cy 2, 10, .inr (.inl (fun _ => 0)))), (q2 + 1 + 2, .inl (cy 2, 10, .inr (.inl (fun _ => 0)))), (q2 + 1 + 3, .inl (cy 2, 10, .inr (.inl (fun _ => 0)))), (q2 + 1 + 4, .inl (cy 2, 10, .inr (.inl (fun _ => 0)))), (q2 + 1 + 5, .inl (cy 2, 10, .inr (.inl (fun _ => 0)))), (q2 + 1 + 6, .inl (cy 2, 10, .inr (.inl (fun _ => 0)))), (q2 + 1 + 7, .inl (cy 2, 10, .inr (.inl (fun _ => 0)))), (q2 + 1 + 8, .inl (cy 2, 10, .inr (.inl (fun _ => 0)))), (q2 + 1 + 9, .inl (cy 2, 10, .inr (.inl (fun _ => 0)))), (q3, .inl (cy 2, 11, .inr (.inl (fun _ => 0)))), (q4, .inl (cy 2, 11, .inr (.inl (fun _ => 0)))), (q5, .inl (cy 2, 10, .inr (.inl (fun _ => 0)))), (q6, .inl (cy 2, 10, .inr (.inl (fun _ => 0))))] := hD
  exact W.vret hx hb hr (fun t ht9 hW => ⟨⟨(q1, q2, q3, q4, q5, q6), rfl, trivial, by show va_P D cl_all (nw_E cy h0 q1 q2 q3 q4 q5 q6) t.heap; rw [ht9]; exact hP, by rw [hAe] at hD; exact hD⟩, by rw [hAe] at hS; exact hS.F ht9⟩) (by rw [hAe] at hS; exact hS.2.2) d_E_init_65

/-- the cells that TrussSolver$Response() leaves -/
abbrev nw_R (cy : Nat → ClassId) (h0 q1 q2 q3 q4 q5 : Nat) : va_W := [(h0, .inr (2, [.ref q1, .ref q2, .ref q3, .ref q4, .ref q5, .long 1])), (q1, .inl (cy 0, 4, .inl (fun _ => 0))), (q2, .inl (cy 2, 10, .inr (.inl (fun _ => 0)))), (q3, .inl (cy 2, 10, .inr (.inl (fun _ => 0)))), (q4, .inl (cy 2, 10, .inr (.inl (fun _ => 0)))), (q5, .inl (cy 2, 10, .inr (.inl (fun _ => 0))))]
set_option maxHeartbeats 4000000 in
set_option maxRecDepth 100000 in
theorem m_R_init (l : Launch) (D : va_G) (cy : Nat → ClassId) (h0 sz : Nat) : Met l y_R_init (Cond.code y_R_init c_R_init 1 none :: gt_ws) ({ frames := 1, cells := 5, slots := 44, locals := 45 }) (va_Pc [.ref h0] (fun U => U.heap.size = sz ∧ va_P D cl_all [(h0, .inr (2, [.null, .null, .null, .null, .null, .long 0]))] U.heap ∧ va_K D cl_all (gTy cy) U ∧ nwI U ∧ va_D (fun _ => True) [(h0, .inr (2, [.null, .null, .null, .null, .null, .long 0]))])) (va_Qv (fun (_ : Nat × Nat × Nat × Nat × Nat) => True) (fun u t => match u with | (q1, q2, q3, q4, q5) => va_P D cl_all (nw_R cy h0 q1 q2 q3 q4 q5) t.heap ∧ va_D (va_A [(h0, .inr (2, [.null, .null, .null, .null, .null, .long 0]))] sz) (nw_R cy h0 q1 q2 q3 q4 q5)) (va_A [(h0, .inr (2, [.null, .null, .null, .null, .null, .long 0]))] sz)) 5 44 (va_A [(h0, .inr (2, [.null, .null, .null, .null, .null, .long 0]))] sz) := by
  refine Met.ofW (cc := c_R_init) (maxL := 1) (ret := none) (by decide) rfl ?_
  intro p e s m args below meth c s₁ B hml hv
  obtain ⟨rfl, hsz, hP, hK, hN, hD0⟩ := hv
  have hx := B.exec
  have hb := B.bytes
  have hr := B.returns
  have hts := atoms_spec (ws := (Cond.code y_R_init c_R_init 1 none :: gt_ws)) B.pre
  have ht : ∀ w ∈ gt_ws, w.before _ s = true := fun w h => hts w (List.mem_cons_of_mem _ h)
  have hown : s.vm.findClass RQ_R = some m.cls := findClass_of_methodNamed B.named
  have hlocks := B.notSynchronized
  have hin : meth.name = "<init>" := (name_of_methodNamed B.named B.method).1
  subst hsz
  have hD := hD0.self (sz := s.heap.size)
  obtain ⟨A, hAe⟩ : ∃ A, A = va_A [(h0, .inr (2, [.null, .null, .null, .null, .null, .long 0]))] s.heap.size := ⟨_, rfl⟩
  rw [← hAe] at hD
  have hA : ∀ q : Nat, s.heap.size ≤ q → A q := fun q h => by rw [hAe]; exact Or.inr h
  have hS : va_S A s.heap s.heap [] := va_S.rf
  have hl := lv_entry ([.ref h0]) (n := 1) (Nat.le_of_ble_eq_true rfl)
  rw [lg_entry_eq]
  generalize (lg_sl ([.ref h0]) ++ List.replicate (1 - (lg_sl ([.ref h0])).length) Slot.unset).toArray = ls at hl ⊢
  have hl : lv_has ls 1 [(0, .ref h0)] := hl
  refine lv_aload_n hx hb d_R_init_0 rfl (lv_at hl 0 rfl) ?_
  refine W.objInit hx hb hown (ht _ kw_196) (ht _ kw_63) (ht _ kw_64) rfl (by rw [hml]; exact hl.1) rfl d_R_init_1 (Nat.le_of_ble_eq_true rfl) (Nat.le_of_ble_eq_true rfl) ?_
  refine W.eq (g2 := F0 m 4 ls []) rfl ?_
  refine lv_aload_n hx hb d_R_init_4 rfl (lv_at hl 0 rfl) ?_
  refine lv_iconst (v := 4) hx hb d_R_init_5 (by decide) ?_
  refine wz_newa (atype := .int) (a0 := (4, .inl (fun _ => 0))) (N' := 4) hx hb (ht _ kw_121) rfl 0 rfl ra_int hK hP hD hS hA (fun _ => rfl) (by decide) (by decide) (by decide) (Nat.le_of_ble_eq_true rfl) (Nat.le_of_ble_eq_true rfl) d_R_init_6 (fun q1 H hP hD hS => ?_)
  have hP : va_P D cl_all [(h0, .inr (2, [.null, .null, .null, .null, .null, .long 0])), (q1, .inl (cy 0, 4, .inl (fun _ => 0)))] H := hP
  have hD : va_D A [(h0, .inr (2, [.null, .null, .null, .null, .null, .long 0])), (q1, .inl (cy 0, 4, .inl (fun _ => 0)))] := hD
  refine W.widen (k := 1) (n := 4) (by omega) (by omega) ?_
  refine va_putF (D := D) (ci := 2) (v := .ref q1) (ty := .array .int) (C := RQ_R) (T := FQ_R) (N := 6) hx hb ht IQ_R TQ_R TQ_R_ok NQ_R hown hK hP hD hS 0 rfl rfl 0 (by decide) (ht _ kw_197) (fun _ h9 => h9) rfl hin rfl (by decide +kernel) rfl rfl (Nat.le_of_ble_eq_true rfl) d_R_init_8 (fun H locs hP hD hS => ?_)
  have hP : va_P D cl_all [(h0, .inr (2, [.ref q1, .null, .null, .null, .null, .long 0])), (q1, .inl (cy 0, 4, .inl (fun _ => 0)))] H := hP
  have hD : va_D A [(h0, .inr (2, [.ref q1, .null, .null, .null, .null, .long 0])), (q1, .inl (cy 0, 4, .inl (fun _ => 0)))] := hD
  refine lv_aload_n hx hb d_R_init_11 rfl (lv_at hl 0 rfl) ?_
  refine lv_bipush (v := 10) hx hb d_R_init_12 (by decide) ?_
  refine wz_newa (atype := .long) (a0 := (10, .inr (.inl (fun _ => 0)))) (N' := 10) hx hb (ht _ kw_190) rfl 2 rfl ra_long hK hP hD hS hA (fun _ => rfl) (by decide) (by decide) (by decide) (Nat.le_of_ble_eq_true rfl) (Nat.le_of_ble_eq_true rfl) d_R_init_14 (fun q2 H hP hD hS => ?_)
  have hP : va_P D cl_all [(h0, .inr (2, [.ref q1, .null, .null, .null, .null, .long 0])), (q1, .inl (cy 0, 4, .inl (fun _ => 0))), (q2, .inl (cy 2, 10, .inr (.inl (fun _ => 0))))] H := hP
  have hD : va_D A [(h0, .inr (2, [.ref q1, .null, .null, .null, .null, .long 0])), (q1, .inl (cy 0, 4, .inl (fun _ => 0))), (q2, .inl (cy 2, 10, .inr (.inl (fun _ => 0))))] := hD
  refine W.widen (k := 2) (n := 14) (by omega) (by omega) ?_
  refine va_putF (D := D) (ci := 2) (v := .ref q2) (ty := .array .long) (C := RQ_R) (T := FQ_R) (N := 6) hx hb ht IQ_R TQ_R TQ_R_ok NQ_R hown hK hP hD hS 0 rfl rfl 1 (by decide) (ht _ kw_198) (fun _ h9 => h9) rfl hin rfl (by decide +kernel) rfl rfl (Nat.le_of_ble_eq_true rfl) d_R_init_16 (fun H locs hP hD hS => ?_)
  have hP : va_P D cl_all [(h0, .inr (2, [.ref q1, .ref q2, .null, .null, .null, .long 0])), (q1, .inl (cy 0, 4, .inl (fun _ => 0))), (q2, .inl (cy 2, 10, .inr (.inl (fun _ => 0))))] H := hP
  have hD : va_D A [(h0, .inr (2, [.ref q1, .ref q2, .null, .null, .null, .long 0])), (q1, .inl (cy 0, 4, .inl (fun _ => 0))), (q2, .inl (cy 2, 10, .inr (.inl (fun _ => 0))))] := hD
  refine lv_aload_n hx hb d_R_init_19 rfl (lv_at hl 0 rfl) ?_
  refine lv_bipush (v := 10) hx hb d_R_init_20 (by decide) ?_
  refine wz_newa (atype := .long) (a0 := (10, .inr (.inl (fun _ => 0)))) (N' := 10) hx hb (ht _ kw_190) rfl 2 rfl ra_long hK hP hD hS hA (fun _ => rfl) (by decide) (by decide) (by decide) (Nat.le_of_ble_eq_true rfl) (Nat.le_of_ble_eq_true rfl) d_R_init_22 (fun q3 H hP hD hS => ?_)
  have hP : va_P D cl_all [(h0, .inr (2, [.ref q1, .ref q2, .null, .null, .null, .long 0])), (q1, .inl (cy 0, 4, .inl (fun _ => 0))), (q2, .inl (cy 2, 10, .inr (.inl (fun _ => 0)))), (q3, .inl (cy 2, 10, .inr (.inl (fun _ => 0))))] H := hP
  have hD : va_D A [(h0, .inr (2, [.ref q1, .ref q2, .null, .null, .null, .long 0])), (q1, .inl (cy 0, 4, .inl (fun _ => 0))), (q2, .inl (cy 2, 10, .inr (.inl (fun _ => 0)))), (q3, .inl (cy 2, 10, .inr (.inl (fun _ => 0))))] := hD
  refine W.widen (k := 3) (n := 24) (by omega) (by omega) ?_
  refine va_putF (D := D) (ci := 2) (v := .ref q3) (ty := .array .long) (C := RQ_R) (T := FQ_R) (N := 6) hx hb ht IQ_R TQ_R TQ_R_ok NQ_R hown hK hP hD hS 0 rfl rfl 2 (by decide) (ht _ kw_199) (fun _ h9 => h9) rfl hin rfl (by decide +kernel) rfl rfl (Nat.le_of_ble_eq_true rfl) d_R_init_24 (fun H locs hP hD hS => ?_)
  have hP : va_P D cl_all [(h0, .inr (2, [.ref q1, .ref q2, .ref q3, .null, .null, .long 0])), (q1, .inl (cy 0, 4, .inl (fun _ => 0))), (q2, .inl (cy 2, 10, .inr (.inl (fun _ => 0)))), (q3, .inl (cy 2, 10, .inr (.inl (fun _ => 0))))] H := hP
  have hD : va_D A [(h0, .inr (2, [.ref q1, .ref q2, .ref q3, .null, .null, .long 0])), (q1, .inl (cy 0, 4, .inl (fun _ => 0))), (q2, .inl (cy 2, 10, .inr (.inl (fun _ => 0)))), (q3, .inl (cy 2, 10, .inr (.inl (fun _ => 0))))] := hD
  refine lv_aload_n hx hb d_R_init_27 rfl (lv_at hl 0 rfl) ?_
  refine lv_bipush (v := 10) hx hb d_R_init_28 (by decide) ?_
  refine wz_newa (atype := .long) (a0 := (10, .inr (.inl (fun _ => 0)))) (N' := 10) hx hb (ht _ kw_190) rfl 2 rfl ra_long hK hP hD hS hA (fun _ => rfl) (by decide) (by decide) (by decide) (Nat.le_of_ble_eq_true rfl) (Nat.le_of_ble_eq_true rfl) d_R_init_30 (fun q4 H hP hD hS => ?_)
  have hP : va_P D cl_all [(h0, .inr (2, [.ref q1, .ref q2, .ref q3, .null, .null, .long 0])), (q1, .inl (cy 0, 4, .inl (fun _ => 0))), (q2, .inl (cy 2, 10, .inr (.inl (fun _ => 0)))), (q3, .inl (cy 2, 10, .inr (.inl (fun _ => 0)))), (q4, .inl (cy 2, 10, .inr (.inl (fun _ => 0))))] H := hP
  have hD : va_D A [(h0, .inr (2, [.ref q1, .ref q2, .ref q3, .null, .null, .long 0])), (q1, .inl (cy 0, 4, .inl (fun _ => 0))), (q2, .inl (cy 2, 10, .inr (.inl (fun _ => 0)))), (q3, .inl (cy 2, 10, .inr (.inl (fun _ => 0)))), (q4, .inl (cy 2, 10, .inr (.inl (fun _ => 0))))] := hD
  refine W.widen (k := 4) (n := 34) (by omega) (by omega) ?_
  refine va_putF (D := D) (ci := 2) (v := .ref q4) (ty := .array .long) (C := RQ_R) (T := FQ_R) (N := 6) hx hb ht IQ_R TQ_R TQ_R_ok NQ_R hown hK hP hD hS 0 rfl rfl 3 (by decide) (ht _ kw_201) (fun _ h9 => h9) rfl hin rfl (by decide +kernel) rfl rfl (Nat.le_of_ble_eq_true rfl) d_R_init_32 (fun H locs hP hD hS => ?_)
  have hP : va_P D cl_all [(h0, .inr (2, [.ref q1, .ref q2, .ref q3, .ref q4, .null, .long 0])), (q1, .inl (cy 0, 4, .inl (fun _ => 0))), (q2, .inl (cy 2, 10, .inr (.inl (fun _ => 0)))), (q3, .inl (cy 2, 10, .inr (.inl (fun _ => 0)))), (q4, .inl (cy 2, 10, .inr (.inl (fun _ => 0))))] H := hP
  have hD : va_D A [(h0, .inr (2, [.ref q1, .ref q2, .ref q3, .ref q4, .null, .long 0])), (q1, .inl (cy 0, 4, .inl (fun _ => 0))), (q2, .inl (cy 2, 10, .inr (.inl (fun _ => 0)))), (q3, .inl (cy 2, 10, .inr (.inl (fun _ => 0)))), (q4, .inl (cy 2, 10, .inr (.inl (fun _ => 0))))] := hD
  refine lv_aload_n hx hb d_R_init_35 rfl (lv_at hl 0 rfl) ?_
  refine lv_bipush (v := 10) hx hb d_R_init_36 (by decide) ?_
  refine wz_newa (atype := .long) (a0 := (10, .inr (.inl (fun _ => 0)))) (N' := 10) hx hb (ht _ kw_190) rfl 2 rfl ra_long hK hP hD hS hA (fun _ => rfl) (by decide) (by decide) (by decide) (Nat.le_of_ble_eq_true rfl) (Nat.le_of_ble_eq_true rfl) d_R_init_38 (fun q5 H hP hD hS => ?_)
  have hP : va_P D cl_all [(h0, .inr (2, [.ref q1, .ref q2, .ref q3, .ref q4, .null, .long 0])), (q1, .inl (cy 0, 4, .inl (fun _ => 0))), (q2, .inl (cy 2, 10, .inr (.inl (fun _ => 0)))), (q3, .inl (cy 2, 10, .inr (.inl (fun _ => 0)))), (q4, .inl (cy 2, 10, .inr (.inl (fun _ => 0)))), (q5, .inl (cy 2, 10, .inr (.inl (fun _ => 0))))] H := hP
  have hD : va_D A [(h0, .inr (2, [.ref q1, .ref q2, .ref q3, .ref q4, .null, .long 0])), (q1, .inl (cy 0, 4, .inl (fun _ => 0))), (q2, .inl (cy 2, 10, .inr (.inl (fun _ => 0)))), (q3, .inl (cy 2, 10, .inr (.inl (fun _ => 0)))), (q4, .inl (cy 2, 10, .inr (.inl (fun _ => 0)))), (q5, .inl (cy 2, 10, .inr (.inl (fun _ => 0))))] := hD
  refine W.widen (k := 5) (n := 44) (by omega) (by omega) ?_
  refine va_putF (D := D) (ci := 2) (v := .ref q5) (ty := .array .long) (C := RQ_R) (T := FQ_R) (N := 6) hx hb ht IQ_R TQ_R TQ_R_ok NQ_R hown hK hP hD hS 0 rfl rfl 4 (by decide) (ht _ kw_202) (fun _ h9 => h9) rfl hin rfl (by decide +kernel) rfl rfl (Nat.le_of_ble_eq_true rfl) d_R_init_40 (fun H locs hP hD hS => ?_)
  have hP : va_P D cl_all [(h0, .inr (2, [.ref q1, .ref q2, .ref q3, .ref q4, .ref q5, .long 0])), (q1, .inl (cy 0, 4, .inl (fun _ => 0))), (q2, .inl (cy 2, 10, .inr (.inl (fun _ => 0)))), (q3, .inl (cy 2, 10, .inr (.inl (fun _ => 0)))), (q4, .inl (cy 2, 10, .inr (.inl (fun _ => 0)))), (q5, .inl (cy 2, 10, .inr (.inl (fun _ => 0))))] H := hP
  have hD : va_D A [(h0, .inr (2, [.ref q1, .ref q2, .ref q3, .ref q4, .ref q5, .long 0])), (q1, .inl (cy 0, 4, .inl (fun _ => 0))), (q2, .inl (cy 2, 10, .inr (.inl (fun _ => 0)))), (q3, .inl (cy 2, 10, .inr (.inl (fun _ => 0)))), (q4, .inl (cy 2, 10, .inr (.inl (fun _ => 0)))), (q5, .inl (cy 2, 10, .inr (.inl (fun _ => 0))))] := hD
  refine lv_aload_n hx hb d_R_init_43 rfl (lv_at hl 0 rfl) ?_
  refine lv_lconst (v := 1) hx hb d_R_init_44 (by decide) ?_
  refine va_put (D := D) (ci := 2) (v := .long 1) (ty := .long) (C := RQ_R) (T := FQ_R) (N := 6) hx hb ht IQ_R TQ_R TQ_R_ok NQ_R hown hK hP hD hS 0 rfl rfl 5 (by decide) (ht _ kw_203) (fun _ h9 => h9) rfl (by decide +kernel) rfl rfl (Nat.le_of_ble_eq_true rfl) d_R_init_45 (fun H locs hP hD hS => ?_)
  have hP : va_P D cl_all [(h0, .inr (2, [.ref q1, .ref q2, .ref q3, .ref q4, .ref q5, .long 1])), (q1, .inl (cy 0, 4, .inl (fun _ => 0))), (q2, .inl (cy 2, 10, .inr (.inl (fun _ => 0)))), (q3, .inl (cy 2, 10, .inr (.inl (fun _ => 0)))), (q4, .inl (cy 2, 10, .inr (.inl (fun _ => 0)))), (q5, .inl (cy 2, 10, .inr (.inl (fun _ => 0))))] H := hP
  have hD : va_D A [(h0, .inr (2, [.ref q1, .ref q2, .ref q3, .ref q4, .ref q5, .long 1])), (q1, .inl (cy 0, 4, .inl (fun _ => 0))), (q2, .inl (cy 2, 10, .inr (.inl (fun _ => 0)))), (q3, .inl (cy 2, 10, .inr (.inl (fun _ => 0)))), (q4, .inl (cy 2, 10, .inr (.inl (fun _ => 0)))), (q5, .inl (cy 2, 10, .inr (.inl (fun _ => 0))))] := hD
  exact W.vret hx hb hr (fun t ht9 hW => ⟨⟨(q1, q2, q3, q4, q5), rfl, trivial, by show va_P D cl_all (nw_R cy h0 q1 q2 q3 q4 q5) t.heap; rw [ht9]; exact hP, by rw [hAe] at hD; exact hD⟩, by rw [hAe] at hS; exact hS.F ht9⟩) (by rw [hAe] at hS; exact hS.2.2) d_R_init_48

/-- the cells that TrussSolverModel() leaves -/
abbrev nw_M (cy : Nat → ClassId) (h0 q1 q2 q3 q4 q5 q6 q7 q8 q9 q10 q11 q12 q13 q14 q15 : Nat) : va_W := [(h0, .inr (5, [.ref q1, .ref q2, .ref q3, .ref q4, .ref q5, .ref q6, .int 0, .ref q7, .ref q8, .ref q9, .ref q10, .int 0, .ref q11, .int 0, .ref q12, .int 0, .ref q13, .ref q14, .ref q15, .long 0, .long 0])), (q1, .inl (cy 1, 5, .inl (fun _ => 0))), (q2, .inl (cy 0, 5, .inl (fun _ => 0))), (q3, .inl (cy 0, 5, .inl (fun _ => 0))), (q4, .inl (cy 0, 10, .inl (fun _ => 0))), (q5, .inl (cy 0, 10, .inl (fun _ => 0))), (q6, .inl (cy 0, 10, .inl (fun _ => 0))), (q7, .inl (cy 1, 10, .inl (fun _ => 0))), (q8, .inl (cy 0, 10, .inl (fun _ => 0))), (q9, .inl (cy 0, 10, .inl (fun _ => 0))), (q10, .inl (cy 0, 40, .inl (fun _ => 0))), (q11, .inl (cy 0, 5, .inl (fun _ => 0))), (q12, .inl (cy 0, 10, .inl (fun _ => 0))), (q13, .inl (cy 0, 100, .inl (fun _ => 0))), (q14, .inl (cy 2, 10, .inr (.inl (fun _ => 0)))), (q15, .inl (cy 2, 100, .inr (.inl (fun _ => 0))))]
set_option maxHeartbeats 4000000 in
set_option maxRecDepth 100000 in
theorem m_M_init (l : Launch) (D : va_G) (cy : Nat → ClassId) (h0 sz : Nat) : Met l y_M_init (Cond.code y_M_init c_M_init 1 none :: gt_ws) ({ frames := 1, cells := 15, slots := 340, locals := 45 }) (va_Pc [.ref h0] (fun U => U.heap.size = sz ∧ va_P D cl_all [(h0, .inr (5, [.null, .null, .null, .null, .null, .null, .int 0, .null, .null, .null, .null, .int 0, .null, .int 0, .null, .int 0, .null, .null, .null, .long 0, .long 0]))] U.heap ∧ va_K D cl_all (gTy cy) U ∧ nwI U ∧ va_D (fun _ => True) [(h0, .inr (5, [.null, .null, .null, .null, .null, .null, .int 0, .null, .null, .null, .null, .int 0, .null, .int 0, .null, .int 0, .null, .null, .null, .long 0, .long 0]))])) (va_Qv (fun (_ : Nat × Nat × Nat × Nat × Nat × Nat × Nat × Nat × Nat × Nat × Nat × Nat × Nat × Nat × Nat) => True) (fun u t => match u with | (q1, q2, q3, q4, q5, q6, q7, q8, q9, q10, q11, q12, q13, q14, q15) => va_P D cl_all (nw_M cy h0 q1 q2 q3 q4 q5 q6 q7 q8 q9 q10 q11 q12 q13 q14 q15) t.heap ∧ va_D (va_A [(h0, .inr (5, [.null, .null, .null, .null, .null, .null, .int 0, .null, .null, .null, .null, .int 0, .null, .int 0, .null, .int 0, .null, .null, .null, .long 0, .long 0]))] sz) (nw_M cy h0 q1 q2 q3 q4 q5 q6 q7 q8 q9 q10 q11 q12 q13 q14 q15)) (va_A [(h0, .inr (5, [.null, .null, .null, .null, .null, .null, .int 0, .null, .null, .null, .null, .int 0, .null, .int 0, .null, .int 0, .null, .null, .null, .long 0, .long 0]))] sz)) 15 340 (va_A [(h0, .inr (5, [.null, .null, .null, .null, .null, .null, .int 0, .null, .null, .null, .null, .int 0, .null, .int 0, .null, .int 0, .null, .null, .null, .long 0, .long 0]))] sz) := by
  refine Met.ofW (cc := c_M_init) (maxL := 1) (ret := none) (by decide) rfl ?_
  intro p e s m args below meth c s₁ B hml hv
  obtain ⟨rfl, hsz, hP, hK, hN, hD0⟩ := hv
  have hx := B.exec
  have hb := B.bytes
  have hr := B.returns
  have hts := atoms_spec (ws := (Cond.code y_M_init c_M_init 1 none :: gt_ws)) B.pre
  have ht : ∀ w ∈ gt_ws, w.before _ s = true := fun w h => hts w (List.mem_cons_of_mem _ h)
  have hown : s.vm.findClass RQ_M = some m.cls := findClass_of_methodNamed B.named
  have hlocks := B.notSynchronized
  have hin : meth.name = "<init>" := (name_of_methodNamed B.named B.method).1
  subst hsz
  have hD := hD0.self (sz := s.heap.size)
  obtain ⟨A, hAe⟩ : ∃ A, A = va_A [(h0, .inr (5, [.null, .null, .null, .null, .null, .null, .int 0, .null, .null, .null, .null, .int 0, .null, .int 0, .null, .int 0, .null, .null, .null, .long 0, .long 0]))] s.heap.size := ⟨_, rfl⟩
  rw [← hAe] at hD
  have hA : ∀ q : Nat, s.heap.size ≤ q → A q := fun q h => by rw [hAe]; exact Or.inr h
  have hS : va_S A s.heap s.heap [] := va_S.rf
  have hl := lv_entry ([.ref h0]) (n := 1) (Nat.le_of_ble_eq_true rfl)
  rw [lg_entry_eq]
  generalize (lg_sl ([.ref h0]) ++ List.replicate (1 - (lg_sl ([.ref h0])).length) Slot.unset).toArray = ls at hl ⊢
  have hl : lv_has ls 1 [(0, .ref h0)] := hl
  refine lv_aload_n hx hb d_M_init_0 rfl (lv_at hl 0 rfl) ?_
  refine W.objInit hx hb hown (ht _ kw_527) (ht _ kw_63) (ht _ kw_64) rfl (by rw [hml]; exact hl.1) rfl d_M_init_1 (Nat.le_of_ble_eq_true rfl) (Nat.le_of_ble_eq_true rfl) ?_
  refine W.eq (g2 := F0 m 4 ls []) rfl ?_
  refine lv_aload_n hx hb d_M_init_4 rfl (lv_at hl 0 rfl) ?_
  refine lv_iconst (v := 5) hx hb d_M_init_5 (by decide) ?_
  refine wz_newa (atype := .boolean) (a0 := (5, .inl (fun _ => 0))) (N' := 5) hx hb (ht _ kw_122) rfl 1 rfl ra_bool hK hP hD hS hA (fun _ => rfl) (by decide) (by decide) (by decide) (Nat.le_of_ble_eq_true rfl) (Nat.le_of_ble_eq_true rfl) d_M_init_6 (fun q1 H hP hD hS => ?_)
  have hP : va_P D cl_all [(h0, .inr (5, [.null, .null, .null, .null, .null, .null, .int 0, .null, .null, .null, .null, .int 0, .null, .int 0, .null, .int 0, .null, .null, .null, .long 0, .long 0])), (q1, .inl (cy 1, 5, .inl (fun _ => 0)))] H := hP
  have hD : va_D A [(h0, .inr (5, [.null, .null, .null, .null, .null, .null, .int 0, .null, .null, .null, .null, .int 0, .null, .int 0, .null, .int 0, .null, .null, .null, .long 0, .long 0])), (q1, .inl (cy 1, 5, .inl (fun _ => 0)))] := hD
  refine W.widen (k := 1) (n := 5) (by omega) (by omega) ?_
  refine va_putF (D := D) (ci := 5) (v := .ref q1) (ty := .array .boolean) (C := RQ_M) (T := FQ_M) (N := 21) hx hb ht IQ_M TQ_M TQ_M_ok NQ_M hown hK hP hD hS 0 rfl rfl 0 (by decide) (ht _ kw_528) (fun _ h9 => h9) rfl hin rfl (by decide +kernel) rfl rfl (Nat.le_of_ble_eq_true rfl) d_M_init_8 (fun H locs hP hD hS => ?_)
  have hP : va_P D cl_all [(h0, .inr (5, [.ref q1, .null, .null, .null, .null, .null, .int 0, .null, .null, .null, .null, .int 0, .null, .int 0, .null, .int 0, .null, .null, .null, .long 0, .long 0])), (q1, .inl (cy 1, 5, .inl (fun _ => 0)))] H := hP
  have hD : va_D A [(h0, .inr (5, [.ref q1, .null, .null, .null, .null, .null, .int 0, .null, .null, .null, .null, .int 0, .null, .int 0, .null, .int 0, .null, .null, .null, .long 0, .long 0])), (q1, .inl (cy 1, 5, .inl (fun _ => 0)))] := hD
  refine lv_aload_n hx hb d_M_init_11 rfl (lv_at hl 0 rfl) ?_
  refine lv_iconst (v := 5) hx hb d_M_init_12 (by decide) ?_
  refine wz_newa (atype := .int) (a0 := (5, .inl (fun _ => 0))) (N' := 5) hx hb (ht _ kw_121) rfl 0 rfl ra_int hK hP hD hS hA (fun _ => rfl) (by decide) (by decide) (by decide) (Nat.le_of_ble_eq_true rfl) (Nat.le_of_ble_eq_true rfl) d_M_init_13 (fun q2 H hP hD hS => ?_)
  have hP : va_P D cl_all [(h0, .inr (5, [.ref q1, .null, .null, .null, .null, .null, .int 0, .null, .null, .null, .null, .int 0, .null, .int 0, .null, .int 0, .null, .null, .null, .long 0, .long 0])), (q1, .inl (cy 1, 5, .inl (fun _ => 0))), (q2, .inl (cy 0, 5, .inl (fun _ => 0)))] H := hP
  have hD : va_D A [(h0, .inr (5, [.ref q1, .null, .null, .null, .null, .null, .int 0, .null, .null, .null, .null, .int 0, .null, .int 0, .null, .int 0, .null, .null, .null, .long 0, .long 0])), (q1, .inl (cy 1, 5, .inl (fun _ => 0))), (q2, .inl (cy 0, 5, .inl (fun _ => 0)))] := hD
  refine W.widen (k := 2) (n := 10) (by omega) (by omega) ?_
  refine va_putF (D := D) (ci := 5) (v := .ref q2) (ty := .array .int) (C := RQ_M) (T := FQ_M) (N := 21) hx hb ht IQ_M TQ_M TQ_M_ok NQ_M hown hK hP hD hS 0 rfl rfl 1 (by decide) (ht _ kw_529) (fun _ h9 => h9) rfl hin rfl (by decide +kernel) rfl rfl (Nat.le_of_ble_eq_true rfl) d_M_init_15 (fun H locs hP hD hS => ?_)
  have hP : va_P D cl_all [(h0, .inr (5, [.ref q1, .ref q2, .null, .null, .null, .null, .int 0, .null, .null, .null, .null, .int 0, .null, .int 0, .null, .int 0, .null, .null, .null, .long 0, .long 0])), (q1, .inl (cy 1, 5, .inl (fun _ => 0))), (q2, .inl (cy 0, 5, .inl (fun _ => 0)))] H := hP
  have hD : va_D A [(h0, .inr (5, [.ref q1, .ref q2, .null, .null, .null, .null, .int 0, .null, .null, .null, .null, .int 0, .null, .int 0, .null, .int 0, .null, .null, .null, .long 0, .long 0])), (q1, .inl (cy 1, 5, .inl (fun _ => 0))), (q2, .inl (cy 0, 5, .inl (fun _ => 0)))] := hD
  refine lv_aload_n hx hb d_M_init_18 rfl (lv_at hl 0 rfl) ?_
  refine lv_iconst (v := 5) hx hb d_M_init_19 (by decide) ?_
  refine wz_newa (atype := .int) (a0 := (5, .inl (fun _ => 0))) (N' := 5) hx hb (ht _ kw_121) rfl 0 rfl ra_int hK hP hD hS hA (fun _ => rfl) (by decide) (by decide) (by decide) (Nat.le_of_ble_eq_true rfl) (Nat.le_of_ble_eq_true rfl) d_M_init_20 (fun q3 H hP hD hS => ?_)
  have hP : va_P D cl_all [(h0, .inr (5, [.ref q1, .ref q2, .null, .null, .null, .null, .int 0, .null, .null, .null, .null, .int 0, .null, .int 0, .null, .int 0, .null, .null, .null, .long 0, .long 0])), (q1, .inl (cy 1, 5, .inl (fun _ => 0))), (q2, .inl (cy 0, 5, .inl (fun _ => 0))), (q3, .inl (cy 0, 5, .inl (fun _ => 0)))] H := hP
  have hD : va_D A [(h0, .inr (5, [.ref q1, .ref q2, .null, .null, .null, .null, .int 0, .null, .null, .null, .null, .int 0, .null, .int 0, .null, .int 0, .null, .null, .null, .long 0, .long 0])), (q1, .inl (cy 1, 5, .inl (fun _ => 0))), (q2, .inl (cy 0, 5, .inl (fun _ => 0))), (q3, .inl (cy 0, 5, .inl (fun _ => 0)))] := hD
  refine W.widen (k := 3) (n := 15) (by omega) (by omega) ?_
  refine va_putF (D := D) (ci := 5) (v := .ref q3) (ty := .array .int) (C := RQ_M) (T := FQ_M) (N := 21) hx hb ht IQ_M TQ_M TQ_M_ok NQ_M hown hK hP hD hS 0 rfl rfl 2 (by decide) (ht _ kw_530) (fun _ h9 => h9) rfl hin rfl (by decide +kernel) rfl rfl (Nat.le_of_ble_eq_true rfl) d_M_init_22 (fun H locs hP hD hS => ?_)
  have hP : va_P D cl_all [(h0, .inr (5, [.ref q1, .ref q2, .ref q3, .null, .null, .null, .int 0, .null, .null, .null, .null, .int 0, .null, .int 0, .null, .int 0, .null, .null, .null, .long 0, .long 0])), (q1, .inl (cy 1, 5, .inl (fun _ => 0))), (q2, .inl (cy 0, 5, .inl (fun _ => 0))), (q3, .inl (cy 0, 5, .inl (fun _ => 0)))] H := hP
  have hD : va_D A [(h0, .inr (5, [.ref q1, .ref q2, .ref q3, .null, .null, .null, .int 0, .null, .null, .null, .null, .int 0, .null, .int 0, .null, .int 0, .null, .null, .null, .long 0, .long 0])), (q1, .inl (cy 1, 5, .inl (fun _ => 0))), (q2, .inl (cy 0, 5, .inl (fun _ => 0))), (q3, .inl (cy 0, 5, .inl (fun _ => 0)))] := hD
  refine lv_aload_n hx hb d_M_init_25 rfl (lv_at hl 0 rfl) ?_
  refine lv_bipush (v := 10) hx hb d_M_init_26 (by decide) ?_
  refine wz_newa (atype := .int) (a0 := (10, .inl (fun _ => 0))) (N' := 10) hx hb (ht _ kw_121) rfl 0 rfl ra_int hK hP hD hS hA (fun _ => rfl) (by decide) (by decide) (by decide) (Nat.le_of_ble_eq_true rfl) (Nat.le_of_ble_eq_true rfl) d_M_init_28 (fun q4 H hP hD hS => ?_)
  have hP : va_P D cl_all [(h0, .inr (5, [.ref q1, .ref q2, .ref q3, .null, .null, .null, .int 0, .null, .null, .null, .null, .int 0, .null, .int 0, .null, .int 0, .null, .null, .null, .long 0, .long 0])), (q1, .inl (cy 1, 5, .inl (fun _ => 0))), (q2, .inl (cy 0, 5, .inl (fun _ => 0))), (q3, .inl (cy 0, 5, .inl (fun _ => 0))), (q4, .inl (cy 0, 10, .inl (fun _ => 0)))] H := hP
  have hD : va_D A [(h0, .inr (5, [.ref q1, .ref q2, .ref q3, .null, .null, .null, .int 0, .null, .null, .null, .null, .int 0, .null, .int 0, .null, .int 0, .null, .null, .null, .long 0, .long 0])), (q1, .inl (cy 1, 5, .inl (fun _ => 0))), (q2, .inl (cy 0, 5, .inl (fun _ => 0))), (q3, .inl (cy 0, 5, .inl (fun _ => 0))), (q4, .inl (cy 0, 10, .inl (fun _ => 0)))] := hD
  refine W.widen (k := 4) (n := 25) (by omega) (by omega) ?_
  refine va_putF (D := D) (ci := 5) (v := .ref q4) (ty := .array .int) (C := RQ_M) (T := FQ_M) (N := 21) hx hb ht IQ_M TQ_M TQ_M_ok NQ_M hown hK hP hD hS 0 rfl rfl 3 (by decide) (ht _ kw_531) (fun _ h9 => h9) rfl hin rfl (by decide +kernel) rfl rfl (Nat.le_of_ble_eq_true rfl) d_M_init_30 (fun H locs hP hD hS => ?_)
  have hP : va_P D cl_all [(h0, .inr (5, [.ref q1, .ref q2, .ref q3, .ref q4, .null, .null, .int 0, .null, .null, .null, .null, .int 0, .null, .int 0, .null, .int 0, .null, .null, .null, .long 0, .long 0])), (q1, .inl (cy 1, 5, .inl (fun _ => 0))), (q2, .inl (cy 0, 5, .inl (fun _ => 0))), (q3, .inl (cy 0, 5, .inl (fun _ => 0))), (q4, .inl (cy 0, 10, .inl (fun _ => 0)))] H := hP
  have hD : va_D A [(h0, .inr (5, [.ref q1, .ref q2, .ref q3, .ref q4, .null, .null, .int 0, .null, .null, .null, .null, .int 0, .null, .int 0, .null, .int 0, .null, .null, .null, .long 0, .long 0])), (q1, .inl (cy 1, 5, .inl (fun _ => 0))), (q2, .inl (cy 0, 5, .inl (fun _ => 0))), (q3, .inl (cy 0, 5, .inl (fun _ => 0))), (q4, .inl (cy 0, 10, .inl (fun _ => 0)))] := hD
  refine lv_aload_n hx hb d_M_init_33 rfl (lv_at hl 0 rfl) ?_
  refine lv_bipush (v := 10) hx hb d_M_init_34 (by decide) ?_
  refine wz_newa (atype := .int) (a0 := (10, .inl (fun _ => 0))) (N' := 10) hx hb (ht _ kw_121) rfl 0 rfl ra_int hK hP hD hS hA (fun _ => rfl) (by decide) (by decide) (by decide) (Nat.le_of_ble_eq_true rfl) (Nat.le_of_ble_eq_true rfl) d_M_init_36 (fun q5 H hP hD hS => ?_)
  have hP : va_P D cl_all [(h0, .inr (5, [.ref q1, .ref q2, .ref q3, .ref q4, .null, .null, .int 0, .null, .null, .null, .null, .int 0, .null, .int 0, .null, .int 0, .null, .null, .null, .long 0, .long 0])), (q1, .inl (cy 1, 5, .inl (fun _ => 0))), (q2, .inl (cy 0, 5, .inl (fun _ => 0))), (q3, .inl (cy 0, 5, .inl (fun _ => 0))), (q4, .inl (cy 0, 10, .inl (fun _ => 0))), (q5, .inl (cy 0, 10, .inl (fun _ => 0)))] H := hP
  have hD : va_D A [(h0, .inr (5, [.ref q1, .ref q2, .ref q3, .ref q4, .null, .null, .int 0, .null, .null, .null, .null, .int 0, .null, .int 0, .null, .int 0, .null, .null, .null, .long 0, .long 0])), (q1, .inl (cy 1, 5, .inl (fun _ => 0))), (q2, .inl (cy 0, 5, .inl (fun _ => 0))), (q3, .inl (cy 0, 5, .inl (fun _ => 0))), (q4, .inl (cy 0, 10, .inl (fun _ => 0))), (q5, .inl (cy 0, 10, .inl (fun _ => 0)))] := hD
  refine W.widen (k := 5) (n := 35) (by omega) (by omega) ?_
  refine va_putF (D := D) (ci := 5) (v := .ref q5) (ty := .array .int) (C := RQ_M) (T := FQ_M) (N := 21) hx hb ht IQ_M TQ_M TQ_M_ok NQ_M hown hK hP hD hS 0 rfl rfl 4 (by decide) (ht _ kw_532) (fun _ h9 => h9) rfl hin rfl (by decide +kernel) rfl rfl (Nat.le_of_ble_eq_true rfl) d_M_init_38 (fun H locs hP hD hS => ?_)
  have hP : va_P D cl_all [(h0, .inr (5, [.ref q1, .ref q2, .ref q3, .ref q4, .ref q5, .null, .int 0, .null, .null, .null, .null, .int 0, .null, .int 0, .null, .int 0, .null, .null, .null, .long 0, .long 0])), (q1, .inl (cy 1, 5, .inl (fun _ => 0))), (q2, .inl (cy 0, 5, .inl (fun _ => 0))), (q3, .inl (cy 0, 5, .inl (fun _ => 0))), (q4, .inl (cy 0, 10, .inl (fun _ => 0))), (q5, .inl (cy 0, 10, .inl (fun _ => 0)))] H := hP
  have hD : va_D A [(h0, .inr (5, [.ref q1, .ref q2, .ref q3, .ref q4, .ref q5, .null, .int 0, .null, .null, .null, .null, .int 0, .null, .int 0, .null, .int 0, .null, .null, .null, .long 0, .long 0])), (q1, .inl (cy 1, 5, .inl (fun _ => 0))), (q2, .inl (cy 0, 5, .inl (fun _ => 0))), (q3, .inl (cy 0, 5, .inl (fun _ => 0))), (q4, .inl (cy 0, 10, .inl (fun _ => 0))), (q5, .inl (cy 0, 10, .inl (fun _ => 0)))] := hD
  refine lv_aload_n hx hb d_M_init_41 rfl (lv_at hl 0 rfl) ?_
  refine lv_bipush (v := 10) hx hb d_M_init_42 (by decide) ?_
  refine wz_newa (atype := .int) (a0 := (10, .inl (fun _ => 0))) (N' := 10) hx hb (ht _ kw_121) rfl 0 rfl ra_int hK hP hD hS hA (fun _ => rfl) (by decide) (by decide) (by decide) (Nat.le_of_ble_eq_true rfl) (Nat.le_of_ble_eq_true rfl) d_M_init_44 (fun q6 H hP hD hS => ?_)
  have hP : va_P D cl_all [(h0, .inr (5, [.ref q1, .ref q2, .ref q3, .ref q4, .ref q5, .null, .int 0, .null, .null, .null, .null, .int 0, .null, .int 0, .null, .int 0, .null, .null, .null, .long 0, .long 0])), (q1, .inl (cy 1, 5, .inl (fun _ => 0))), (q2, .inl (cy 0, 5, .inl (fun _ => 0))), (q3, .inl (cy 0, 5, .inl (fun _ => 0))), (q4, .inl (cy 0, 10, .inl (fun _ => 0))), (q5, .inl (cy 0, 10, .inl (fun _ => 0))), (q6, .inl (cy 0, 10, .inl (fun _ => 0)))] H := hP
  have hD : va_D A [(h0, .inr (5, [.ref q1, .ref q2, .ref q3, .ref q4, .ref q5, .null, .int 0, .null, .null, .null, .null, .int 0, .null, .int 0, .null, .int 0, .null, .null, .null, .long 0, .long 0])), (q1, .inl (cy 1, 5, .inl (fun _ => 0))), (q2, .inl (cy 0, 5, .inl (fun _ => 0))), (q3, .inl (cy 0, 5, .inl (fun _ => 0))), (q4, .inl (cy 0, 10, .inl (fun _ => 0))), (q5, .inl (cy 0, 10, .inl (fun _ => 0))), (q6, .inl (cy 0, 10, .inl (fun _ => 0)))] := hD
  refine W.widen (k := 6) (n := 45) (by omega) (by omega) ?_
  refine va_putF (D := D) (ci := 5) (v := .ref q6) (ty := .array .int) (C := RQ_M) (T := FQ_M) (N := 21) hx hb ht IQ_M TQ_M TQ_M_ok NQ_M hown hK hP hD hS 0 rfl rfl 5 (by decide) (ht _ kw_533) (fun _ h9 => h9) rfl hin rfl (by decide +kernel) rfl rfl (Nat.le_of_ble_eq_true rfl) d_M_init_46 (fun H locs hP hD hS => ?_)
  have hP : va_P D cl_all [(h0, .inr (5, [.ref q1, .ref q2, .ref q3, .ref q4, .ref q5, .ref q6, .int 0, .null, .null, .null, .null, .int 0, .null, .int 0, .null, .int 0, .null, .null, .null, .long 0, .long 0])), (q1, .inl (cy 1, 5, .inl (fun _ => 0))), (q2, .inl (cy 0, 5, .inl (fun _ => 0))), (q3, .inl (cy 0, 5, .inl (fun _ => 0))), (q4, .inl (cy 0, 10, .inl (fun _ => 0))), (q5, .inl (cy 0, 10, .inl (fun _ => 0))), (q6, .inl (cy 0, 10, .inl (fun _ => 0)))] H := hP
  have hD : va_D A [(h0, .inr (5, [.ref q1, .ref q2, .ref q3, .ref q4, .ref q5, .ref q6, .int 0, .null, .null, .null, .null, .int 0, .null, .int 0, .null, .int 0, .null, .null, .null, .long 0, .long 0])), (q1, .inl (cy 1, 5, .inl (fun _ => 0))), (q2, .inl (cy 0, 5, .inl (fun _ => 0))), (q3, .inl (cy 0, 5, .inl (fun _ => 0))), (q4, .inl (cy 0, 10, .inl (fun _ => 0))), (q5, .inl (cy 0, 10, .inl (fun _ => 0))), (q6, .inl (cy 0, 10, .inl (fun _ => 0)))] := hD
  refine lv_aload_n hx hb d_M_init_49 rfl (lv_at hl 0 rfl) ?_
  refine lv_bipush (v := 10) hx hb d_M_init_50 (by decide) ?_
  refine wz_newa (atype := .boolean) (a0 := (10, .inl (fun _ => 0))) (N' := 10) hx hb (ht _ kw_122) rfl 1 rfl ra_bool hK hP hD hS hA (fun _ => rfl) (by decide) (by decide) (by decide) (Nat.le_of_ble_eq_true rfl) (Nat.le_of_ble_eq_true rfl) d_M_init_52 (fun q7 H hP hD hS => ?_)
  have hP : va_P D cl_all [(h0, .inr (5, [.ref q1, .ref q2, .ref q3, .ref q4, .ref q5, .ref q6, .int 0, .null, .null, .null, .null, .int 0, .null, .int 0, .null, .int 0, .null, .null, .null, .long 0, .long 0])), (q1, .inl (cy 1, 5, .inl (fun _ => 0))), (q2, .inl (cy 0, 5, .inl (fun _ => 0))), (q3, .inl (cy 0, 5, .inl (fun _ => 0))), (q4, .inl (cy 0, 10, .inl (fun _ => 0))), (q5, .inl (cy 0, 10, .inl (fun _ => 0))), (q6, .inl (cy 0, 10, .inl (fun _ => 0))), (q7, .inl (cy 1, 10, .inl (fun _ => 0)))] H := hP
  have hD : va_D A [(h0, .inr (5, [.ref q1, .ref q2, .ref q3, .ref q4, .ref q5, .ref q6, .int 0, .null, .null, .null, .null, .int 0, .null, .int 0, .null, .int 0, .null, .null, .null, .long 0, .long 0])), (q1, .inl (cy 1, 5, .inl (fun _ => 0))), (q2, .inl (cy 0, 5, .inl (fun _ => 0))), (q3, .inl (cy 0, 5, .inl (fun _ => 0))), (q4, .inl (cy 0, 10, .inl (fun _ => 0))), (q5, .inl (cy 0, 10, .inl (fun _ => 0))), (q6, .inl (cy 0, 10, .inl (fun _ => 0))), (q7, .inl (cy 1, 10, .inl (fun _ => 0)))] := hD
  refine W.widen (k := 7) (n := 55) (by omega) (by omega) ?_
  refine va_putF (D := D) (ci := 5) (v := .ref q7) (ty := .array .boolean) (C := RQ_M) (T := FQ_M) (N := 21) hx hb ht IQ_M TQ_M TQ_M_ok NQ_M hown hK hP hD hS 0 rfl rfl 7 (by decide) (ht _ kw_535) (fun _ h9 => h9) rfl hin rfl (by decide +kernel) rfl rfl (Nat.le_of_ble_eq_true rfl) d_M_init_54 (fun H locs hP hD hS => ?_)
  have hP : va_P D cl_all [(h0, .inr (5, [.ref q1, .ref q2, .ref q3, .ref q4, .ref q5, .ref q6, .int 0, .ref q7, .null, .null, .null, .int 0, .null, .int 0, .null, .int 0, .null, .null, .null, .long 0, .long 0])), (q1, .inl (cy 1, 5, .inl (fun _ => 0))), (q2, .inl (cy 0, 5, .inl (fun _ => 0))), (q3, .inl (cy 0, 5, .inl (fun _ => 0))), (q4, .inl (cy 0, 10, .inl (fun _ => 0))), (q5, .inl (cy 0, 10, .inl (fun _ => 0))), (q6, .inl (cy 0, 10, .inl (fun _ => 0))), (q7, .inl (cy 1, 10, .inl (fun _ => 0)))] H := hP
  have hD : va_D A [(h0, .inr (5, [.ref q1, .ref q2, .ref q3, .ref q4, .ref q5, .ref q6, .int 0, .ref q7, .null, .null, .null, .int 0, .null, .int 0, .null, .int 0, .null, .null, .null, .long 0, .long 0])), (q1, .inl (cy 1, 5, .inl (fun _ => 0))), (q2, .inl (cy 0, 5, .inl (fun _ => 0))), (q3, .inl (cy 0, 5, .inl (fun _ => 0))), (q4, .inl (cy 0, 10, .inl (fun _ => 0))), (q5, .inl (cy 0, 10, .inl (fun _ => 0))), (q6, .inl (cy 0, 10, .inl (fun _ => 0))), (q7, .inl (cy 1, 10, .inl (fun _ => 0)))] := hD
  refine lv_aload_n hx hb d_M_init_57 rfl (lv_at hl 0 rfl) ?_
  refine lv_bipush (v := 10) hx hb d_M_init_58 (by decide) ?_
  refine wz_newa (atype := .int) (a0 := (10, .inl (fun _ => 0))) (N' := 10) hx hb (ht _ kw_121) rfl 0 rfl ra_int hK hP hD hS hA (fun _ => rfl) (by decide) (by decide) (by decide) (Nat.le_of_ble_eq_true rfl) (Nat.le_of_ble_eq_true rfl) d_M_init_60 (fun q8 H hP hD hS => ?_)
  have hP : va_P D cl_all [(h0, .inr (5, [.ref q1, .ref q2, .ref q3, .ref q4, .ref q5, .ref q6, .int 0, .ref q7, .null, .null, .null, .int 0, .null, .int 0, .null, .int 0, .null, .null, .null, .long 0, .long 0])), (q1, .inl (cy 1, 5, .inl (fun _ => 0))), (q2, .inl (cy 0, 5, .inl (fun _ => 0))), (q3, .inl (cy 0, 5, .inl (fun _ => 0))), (q4, .inl (cy 0, 10, .inl (fun _ => 0))), (q5, .inl (cy 0, 10, .inl (fun _ => 0))), (q6, .inl (cy 0, 10, .inl (fun _ => 0))), (q7, .inl (cy 1, 10, .inl (fun _ => 0))), (q8, .inl (cy 0, 10, .inl (fun _ => 0)))] H := hP
  have hD : va_D A [(h0, .inr (5, [.ref q1, .ref q2, .ref q3, .ref q4, .ref q5, .ref q6, .int 0, .ref q7, .null, .null, .null, .int 0, .null, .int 0, .null, .int 0, .null, .null, .null, .long 0, .long 0])), (q1, .inl (cy 1, 5, .inl (fun _ => 0))), (q2, .inl (cy 0, 5, .inl (fun _ => 0))), (q3, .inl (cy 0, 5, .inl (fun _ => 0))), (q4, .inl (cy 0, 10, .inl (fun _ => 0))), (q5, .inl (cy 0, 10, .inl (fun _ => 0))), (q6, .inl (cy 0, 10, .inl (fun _ => 0))), (q7, .inl (cy 1, 10, .inl (fun _ => 0))), (q8, .inl (cy 0, 10, .inl (fun _ => 0)))] := hD
  refine W.widen (k := 8) (n := 65) (by omega) (by omega) ?_
  refine va_putF (D := D) (ci := 5) (v := .ref q8) (ty := .array .int) (C := RQ_M) (T := FQ_M) (N := 21) hx hb ht IQ_M TQ_M TQ_M_ok NQ_M hown hK hP hD hS 0 rfl rfl 8 (by decide) (ht _ kw_536) (fun _ h9 => h9) rfl hin rfl (by decide +kernel) rfl rfl (Nat.le_of_ble_eq_true rfl) d_M_init_62 (fun H locs hP hD hS => ?_)
  have hP : va_P D cl_all [(h0, .inr (5, [.ref q1, .ref q2, .ref q3, .ref q4, .ref q5, .ref q6, .int 0, .ref q7, .ref q8, .null, .null, .int 0, .null, .int 0, .null, .int 0, .null, .null, .null, .long 0, .long 0])), (q1, .inl (cy 1, 5, .inl (fun _ => 0))), (q2, .inl (cy 0, 5, .inl (fun _ => 0))), (q3, .inl (cy 0, 5, .inl (fun _ => 0))), (q4, .inl (cy 0, 10, .inl (fun _ => 0))), (q5, .inl (cy 0, 10, .inl (fun _ => 0))), (q6, .inl (cy 0, 10, .inl (fun _ => 0))), (q7, .inl (cy 1, 10, .inl (fun _ => 0))), (q8, .inl (cy 0, 10, .inl (fun _ => 0)))] H := hP
  have hD : va_D A [(h0, .inr (5, [.ref q1, .ref q2, .ref q3, .ref q4, .ref q5, .ref q6, .int 0, .ref q7, .ref q8, .null, .null, .int 0, .null, .int 0, .null, .int 0, .null, .null, .null, .long 0, .long 0])), (q1, .inl (cy 1, 5, .inl (fun _ => 0))), (q2, .inl (cy 0, 5, .inl (fun _ => 0))), (q3, .inl (cy 0, 5, .inl (fun _ => 0))), (q4, .inl (cy 0, 10, .inl (fun _ => 0))), (q5, .inl (cy 0, 10, .inl (fun _ => 0))), (q6, .inl (cy 0, 10, .inl (fun _ => 0))), (q7, .inl (cy 1, 10, .inl (fun _ => 0))), (q8, .inl (cy 0, 10, .inl (fun _ => 0)))] := hD
  refine lv_aload_n hx hb d_M_init_65 rfl (lv_at hl 0 rfl) ?_
  refine lv_bipush (v := 10) hx hb d_M_init_66 (by decide) ?_
  refine wz_newa (atype := .int) (a0 := (10, .inl (fun _ => 0))) (N' := 10) hx hb (ht _ kw_121) rfl 0 rfl ra_int hK hP hD hS hA (fun _ => rfl) (by decide) (by decide) (by decide) (Nat.le_of_ble_eq_true rfl) (Nat.le_of_ble_eq_true rfl) d_M_init_68 (fun q9 H hP hD hS => ?_)
  have hP : va_P D cl_all [(h0, .inr (5, [.ref q1, .ref q2, .ref q3, .ref q4, .ref q5, .ref q6, .int 0, .ref q7, .ref q8, .null, .null, .int 0, .null, .int 0, .null, .int 0, .null, .null, .null, .long 0, .long 0])), (q1, .inl (cy 1, 5, .inl (fun _ => 0))), (q2, .inl (cy 0, 5, .inl (fun _ => 0))), (q3, .inl (cy 0, 5, .inl (fun _ => 0))), (q4, .inl (cy 0, 10, .inl (fun _ => 0))), (q5, .inl (cy 0, 10, .inl (fun _ => 0))), (q6, .inl (cy 0, 10, .inl (fun _ => 0))), (q7, .inl (cy 1, 10, .inl (fun _ => 0))), (q8, .inl (cy 0, 10, .inl (fun _ => 0))), (q9, .inl (cy 0, 10, .inl (fun _ => 0)))] H := hP
  have hD : va_D A [(h0, .inr (5, [.ref q1, .ref q2, .ref q3, .ref q4, .ref q5, .ref q6, .int 0, .ref q7, .ref q8, .null, .null, .int 0, .null, .int 0, .null, .int 0, .null, .null, .null, .long 0, .long 0])), (q1, .inl (cy 1, 5, .inl (fun _ => 0))), (q2, .inl (cy 0, 5, .inl (fun _ => 0))), (q3, .inl (cy 0, 5, .inl (fun _ => 0))), (q4, .inl (cy 0, 10, .inl (fun _ => 0))), (q5, .inl (cy 0, 10, .inl (fun _ => 0))), (q6, .inl (cy 0, 10, .inl (fun _ => 0))), (q7, .inl (cy 1, 10, .inl (fun _ => 0))), (q8, .inl (cy 0, 10, .inl (fun _ => 0))), (q9, .inl (cy 0, 10, .inl (fun _ => 0)))] := hD
  refine W.widen (k := 9) (n := 75) (by omega) (by omega) ?_
  refine va_putF (D := D) (ci := 5) (v := .ref q9) (ty := .array .int) (C := RQ_M) (T := FQ_M) (N := 21) hx hb ht IQ_M TQ_M TQ_M_ok NQ_M hown hK hP hD hS 0 rfl rfl 9 (by decide) (ht _ kw_537) (fun _ h9 => h9) rfl hin rfl (by decide +kernel) rfl rfl (Nat.le_of_ble_eq_true rfl) d_M_init_70 (fun H locs hP hD hS => ?_)
  have hP : va_P D cl_all [(h0, .inr (5, [.ref q1, .ref q2, .ref q3, .ref q4, .ref q5, .ref q6, .int 0, .ref q7, .ref q8, .ref q9, .null, .int 0, .null, .int 0, .null, .int 0, .null, .null, .null, .long 0, .long 0])), (q1, .inl (cy 1, 5, .inl (fun _ => 0))), (q2, .inl (cy 0, 5, .inl (fun _ => 0))), (q3, .inl (cy 0, 5, .inl (fun _ => 0))), (q4, .inl (cy 0, 10, .inl (fun _ => 0))), (q5, .inl (cy 0, 10, .inl (fun _ => 0))), (q6, .inl (cy 0, 10, .inl (fun _ => 0))), (q7, .inl (cy 1, 10, .inl (fun _ => 0))), (q8, .inl (cy 0, 10, .inl (fun _ => 0))), (q9, .inl (cy 0, 10, .inl (fun _ => 0)))] H := hP
  have hD : va_D A [(h0, .inr (5, [.ref q1, .ref q2, .ref q3, .ref q4, .ref q5, .ref q6, .int 0, .ref q7, .ref q8, .ref q9, .null, .int 0, .null, .int 0, .null, .int 0, .null, .null, .null, .long 0, .long 0])), (q1, .inl (cy 1, 5, .inl (fun _ => 0))), (q2, .inl (cy 0, 5, .inl (fun _ => 0))), (q3, .inl (cy 0, 5, .inl (fun _ => 0))), (q4, .inl (cy 0, 10, .inl (fun _ => 0))), (q5, .inl (cy 0, 10, .inl (fun _ => 0))), (q6, .inl (cy 0, 10, .inl (fun _ => 0))), (q7, .inl (cy 1, 10, .inl (fun _ => 0))), (q8, .inl (cy 0, 10, .inl (fun _ => 0))), (q9, .inl (cy 0, 10, .inl (fun _ => 0)))] := hD
  refine lv_aload_n hx hb d_M_init_73 rfl (lv_at hl 0 rfl) ?_
  refine lv_bipush (v := 40) hx hb d_M_init_74 (by decide) ?_
  refine wz_newa (atype := .int) (a0 := (40, .inl (fun _ => 0))) (N' := 40) hx hb (ht _ kw_121) rfl 0 rfl ra_int hK hP hD hS hA (fun _ => rfl) (by decide) (by decide) (by decide) (Nat.le_of_ble_eq_true rfl) (Nat.le_of_ble_eq_true rfl) d_M_init_76 (fun q10 H hP hD hS => ?_)
  have hP : va_P D cl_all [(h0, .inr (5, [.ref q1, .ref q2, .ref q3, .ref q4, .ref q5, .ref q6, .int 0, .ref q7, .ref q8, .ref q9, .null, .int 0, .null, .int 0, .null, .int 0, .null, .null, .null, .long 0, .long 0])), (q1, .inl (cy 1, 5, .inl (fun _ => 0))), (q2, .inl (cy 0, 5, .inl (fun _ => 0))), (q3, .inl (cy 0, 5, .inl (fun _ => 0))), (q4, .inl (cy 0, 10, .inl (fun _ => 0))), (q5, .inl (cy 0, 10, .inl (fun _ => 0))), (q6, .inl (cy 0, 10, .inl (fun _ => 0))), (q7, .inl (cy 1, 10, .inl (fun _ => 0))), (q8, .inl (cy 0, 10, .inl (fun _ => 0))), (q9, .inl (cy 0, 10, .inl (fun _ => 0))), (q10, .inl (cy 0, 40, .inl (fun _ => 0)))] H := hP
  have hD : va_D A [(h0, .inr (5, [.ref q1, .ref q2, .ref q3, .ref q4, .ref q5, .ref q6, .int 0, .ref q7, .ref q8, .ref q9, .null, .int 0, .null, .int 0, .null, .int 0, .null, .null, .null, .long 0, .long 0])), (q1, .inl (cy 1, 5, .inl (fun _ => 0))), (q2, .inl (cy 0, 5, .inl (fun _ => 0))), (q3, .inl (cy 0, 5, .inl (fun _ => 0))), (q4, .inl (cy 0, 10, .inl (fun _ => 0))), (q5, .inl (cy 0, 10, .inl (fun _ => 0))), (q6, .inl (cy 0, 10, .inl (fun _ => 0))), (q7, .inl (cy 1, 10, .inl (fun _ => 0))), (q8, .inl (cy 0, 10, .inl (fun _ => 0))), (q9, .inl (cy 0, 10, .inl (fun _ => 0))), (q10, .inl (cy 0, 40, .inl (fun _ => 0)))] := hD
  refine W.widen (k := 10) (n := 115) (by omega) (by omega) ?_
  refine va_putF (D := D) (ci := 5) (v := .ref q10) (ty := .array .int) (C := RQ_M) (T := FQ_M) (N := 21) hx hb ht IQ_M TQ_M TQ_M_ok NQ_M hown hK hP hD hS 0 rfl rfl 10 (by decide) (ht _ kw_538) (fun _ h9 => h9) rfl hin rfl (by decide +kernel) rfl rfl (Nat.le_of_ble_eq_true rfl) d_M_init_78 (fun H locs hP hD hS => ?_)
  have hP : va_P D cl_all [(h0, .inr (5, [.ref q1, .ref q2, .ref q3, .ref q4, .ref q5, .ref q6, .int 0, .ref q7, .ref q8, .ref q9, .ref q10, .int 0, .null, .int 0, .null, .int 0, .null, .null, .null, .long 0, .long 0])), (q1, .inl (cy 1, 5, .inl (fun _ => 0))), (q2, .inl (cy 0, 5, .inl (fun _ => 0))), (q3, .inl (cy 0, 5, .inl (fun _ => 0))), (q4, .inl (cy 0, 10, .inl (fun _ => 0))), (q5, .inl (cy 0, 10, .inl (fun _ => 0))), (q6, .inl (cy 0, 10, .inl (fun _ => 0))), (q7, .inl (cy 1, 10, .inl (fun _ => 0))), (q8, .inl (cy 0, 10, .inl (fun _ => 0))), (q9, .inl (cy 0, 10, .inl (fun _ => 0))), (q10, .inl (cy 0, 40, .inl (fun _ => 0)))] H := hP
  have hD : va_D A [(h0, .inr (5, [.ref q1, .ref q2, .ref q3, .ref q4, .ref q5, .ref q6, .int 0, .ref q7, .ref q8, .ref q9, .ref q10, .int 0, .null, .int 0, .null, .int 0, .null, .null, .null, .long 0, .long 0])), (q1, .inl (cy 1, 5, .inl (fun _ => 0))), (q2, .inl (cy 0, 5, .inl (fun _ => 0))), (q3, .inl (cy 0, 5, .inl (fun _ => 0))), (q4, .inl (cy 0, 10, .inl (fun _ => 0))), (q5, .inl (cy 0, 10, .inl (fun _ => 0))), (q6, .inl (cy 0, 10, .inl (fun _ => 0))), (q7, .inl (cy 1, 10, .inl (fun _ => 0))), (q8, .inl (cy 0, 10, .inl (fun _ => 0))), (q9, .inl (cy 0, 10, .inl (fun _ => 0))), (q10, .inl (cy 0, 40, .inl (fun _ => 0)))] := hD
  refine lv_aload_n hx hb d_M_init_81 rfl (lv_at hl 0 rfl) ?_
  refine lv_iconst (v := 5) hx hb d_M_init_82 (by decide) ?_
  refine wz_newa (atype := .int) (a0 := (5, .inl (fun _ => 0))) (N' := 5) hx hb (ht _ kw_121) rfl 0 rfl ra_int hK hP hD hS hA (fun _ => rfl) (by decide) (by decide) (by decide) (Nat.le_of_ble_eq_true rfl) (Nat.le_of_ble_eq_true rfl) d_M_init_83 (fun q11 H hP hD hS => ?_)
  have hP : va_P D cl_all [(h0, .inr (5, [.ref q1, .ref q2, .ref q3, .ref q4, .ref q5, .ref q6, .int 0, .ref q7, .ref q8, .ref q9, .ref q10, .int 0, .null, .int 0, .null, .int 0, .null, .null, .null, .long 0, .long 0])), (q1, .inl (cy 1, 5, .inl (fun _ => 0))), (q2, .inl (cy 0, 5, .inl (fun _ => 0))), (q3, .inl (cy 0, 5, .inl (fun _ => 0))), (q4, .inl (cy 0, 10, .inl (fun _ => 0))), (q5, .inl (cy 0, 10, .inl (fun _ => 0))), (q6, .inl (cy 0, 10, .inl (fun _ => 0))), (q7, .inl (cy 1, 10, .inl (fun _ => 0))), (q8, .inl (cy 0, 10, .inl (fun _ => 0))), (q9, .inl (cy 0, 10, .inl (fun _ => 0))), (q10, .inl (cy 0, 40, .inl (fun _ => 0))), (q11, .inl (cy 0, 5, .inl (fun _ => 0)))] H := hP
  have hD : va_D A [(h0, .inr (5, [.ref q1, .ref q2, .ref q3, .ref q4, .ref q5, .ref q6, .int 0, .ref q7, .ref q8, .ref q9, .ref q10, .int 0, .null, .int 0, .null, .int 0, .null, .null, .null, .long 0, .long 0])), (q1, .inl (cy 1, 5, .inl (fun _ => 0))), (q2, .inl (cy 0, 5, .inl (fun _ => 0))), (q3, .inl (cy 0, 5, .inl (fun _ => 0))), (q4, .inl (cy 0, 10, .inl (fun _ => 0))), (q5, .inl (cy 0, 10, .inl (fun _ => 0))), (q6, .inl (cy 0, 10, .inl (fun _ => 0))), (q7, .inl (cy 1, 10, .inl (fun _ => 0))), (q8, .inl (cy 0, 10, .inl (fun _ => 0))), (q9, .inl (cy 0, 10, .inl (fun _ => 0))), (q10, .inl (cy 0, 40, .inl (fun _ => 0))), (q11, .inl (cy 0, 5, .inl (fun _ => 0)))] := hD
  refine W.widen (k := 11) (n := 120) (by omega) (by omega) ?_
  refine va_putF (D := D) (ci := 5) (v := .ref q11) (ty := .array .int) (C := RQ_M) (T := FQ_M) (N := 21) hx hb ht IQ_M TQ_M TQ_M_ok NQ_M hown hK hP hD hS 0 rfl rfl 12 (by decide) (ht _ kw_540) (fun _ h9 => h9) rfl hin rfl (by decide +kernel) rfl rfl (Nat.le_of_ble_eq_true rfl) d_M_init_85 (fun H locs hP hD hS => ?_)
  have hP : va_P D cl_all [(h0, .inr (5, [.ref q1, .ref q2, .ref q3, .ref q4, .ref q5, .ref q6, .int 0, .ref q7, .ref q8, .ref q9, .ref q10, .int 0, .ref q11, .int 0, .null, .int 0, .null, .null, .null, .long 0, .long 0])), (q1, .inl (cy 1, 5, .inl (fun _ => 0))), (q2, .inl (cy 0, 5, .inl (fun _ => 0))), (q3, .inl (cy 0, 5, .inl (fun _ => 0))), (q4, .inl (cy 0, 10, .inl (fun _ => 0))), (q5, .inl (cy 0, 10, .inl (fun _ => 0))), (q6, .inl (cy 0, 10, .inl (fun _ => 0))), (q7, .inl (cy 1, 10, .inl (fun _ => 0))), (q8, .inl (cy 0, 10, .inl (fun _ => 0))), (q9, .inl (cy 0, 10, .inl (fun _ => 0))), (q10, .inl (cy 0, 40, .inl (fun _ => 0))), (q11, .inl (cy 0, 5, .inl (fun _ => 0)))] H := hP
  have hD : va_D A [(h0, .inr (5, [.ref q1, .ref q2, .ref q3, .ref q4, .ref q5, .ref q6, .int 0, .ref q7, .ref q8, .ref q9, .ref q10, .int 0, .ref q11, .int 0, .null, .int 0, .null, .null, .null, .long 0, .long 0])), (q1, .inl (cy 1, 5, .inl (fun _ => 0))), (q2, .inl (cy 0, 5, .inl (fun _ => 0))), (q3, .inl (cy 0, 5, .inl (fun _ => 0))), (q4, .inl (cy 0, 10, .inl (fun _ => 0))), (q5, .inl (cy 0, 10, .inl (fun _ => 0))), (q6, .inl (cy 0, 10, .inl (fun _ => 0))), (q7, .inl (cy 1, 10, .inl (fun _ => 0))), (q8, .inl (cy 0, 10, .inl (fun _ => 0))), (q9, .inl (cy 0, 10, .inl (fun _ => 0))), (q10, .inl (cy 0, 40, .inl (fun _ => 0))), (q11, .inl (cy 0, 5, .inl (fun _ => 0)))] := hD
  refine lv_aload_n hx hb d_M_init_88 rfl (lv_at hl 0 rfl) ?_
  refine lv_bipush (v := 10) hx hb d_M_init_89 (by decide) ?_
  refine wz_newa (atype := .int) (a0 := (10, .inl (fun _ => 0))) (N' := 10) hx hb (ht _ kw_121) rfl 0 rfl ra_int hK hP hD hS hA (fun _ => rfl) (by decide) (by decide) (by decide) (Nat.le_of_ble_eq_true rfl) (Nat.le_of_ble_eq_true rfl) d_M_init_91 (fun q12 H hP hD hS => ?_)
  have hP : va_P D cl_all [(h0, .inr (5, [.ref q1, .ref q2, .ref q3, .ref q4, .ref q5, .ref q6, .int 0, .ref q7, .ref q8, .ref q9, .ref q10, .int 0, .ref q11, .int 0, .null, .int 0, .null, .null, .null, .long 0, .long 0])), (q1, .inl (cy 1, 5, .inl (fun _ => 0))), (q2, .inl (cy 0, 5, .inl (fun _ => 0))), (q3, .inl (cy 0, 5, .inl (fun _ => 0))), (q4, .inl (cy 0, 10, .inl (fun _ => 0))), (q5, .inl (cy 0, 10, .inl (fun _ => 0))), (q6, .inl (cy 0, 10, .inl (fun _ => 0))), (q7, .inl (cy 1, 10, .inl (fun _ => 0))), (q8, .inl (cy 0, 10, .inl (fun _ => 0))), (q9, .inl (cy 0, 10, .inl (fun _ => 0))), (q10, .inl (cy 0, 40, .inl (fun _ => 0))), (q11, .inl (cy 0, 5, .inl (fun _ => 0))), (q12, .inl (cy 0, 10, .inl (fun _ => 0)))] H := hP
  have hD : va_D A [(h0, .inr (5, [.ref q1, .ref q2, .ref q3, .ref q4, .ref q5, .ref q6, .int 0, .ref q7, .ref q8, .ref q9, .ref q10, .int 0, .ref q11, .int 0, .null, .int 0, .null, .null, .null, .long 0, .long 0])), (q1, .inl (cy 1, 5, .inl (fun _ => 0))), (q2, .inl (cy 0, 5, .inl (fun _ => 0))), (q3, .inl (cy 0, 5, .inl (fun _ => 0))), (q4, .inl (cy 0, 10, .inl (fun _ => 0))), (q5, .inl (cy 0, 10, .inl (fun _ => 0))), (q6, .inl (cy 0, 10, .inl (fun _ => 0))), (q7, .inl (cy 1, 10, .inl (fun _ => 0))), (q8, .inl (cy 0, 10, .inl (fun _ => 0))), (q9, .inl (cy 0, 10, .inl (fun _ => 0))), (q10, .inl (cy 0, 40, .inl (fun _ => 0))), (q11, .inl (cy 0, 5, .inl (fun _ => 0))), (q12, .inl (cy 0, 10, .inl (fun _ => 0)))] := hD
  refine W.widen (k := 12) (n := 130) (by omega) (by omega) ?_
  refine va_putF (D := D) (ci := 5) (v := .ref q12) (ty := .array .int) (C := RQ_M) (T := FQ_M) (N := 21) hx hb ht IQ_M TQ_M TQ_M_ok NQ_M hown hK hP hD hS 0 rfl rfl 14 (by decide) (ht _ kw_542) (fun _ h9 => h9) rfl hin rfl (by decide +kernel) rfl rfl (Nat.le_of_ble_eq_true rfl) d_M_init_93 (fun H locs hP hD hS => ?_)
  have hP : va_P D cl_all [(h0, .inr (5, [.ref q1, .ref q2, .ref q3, .ref q4, .ref q5, .ref q6, .int 0, .ref q7, .ref q8, .ref q9, .ref q10, .int 0, .ref q11, .int 0, .ref q12, .int 0, .null, .null, .null, .long 0, .long 0])), (q1, .inl (cy 1, 5, .inl (fun _ => 0))), (q2, .inl (cy 0, 5, .inl (fun _ => 0))), (q3, .inl (cy 0, 5, .inl (fun _ => 0))), (q4, .inl (cy 0, 10, .inl (fun _ => 0))), (q5, .inl (cy 0, 10, .inl (fun _ => 0))), (q6, .inl (cy 0, 10, .inl (fun _ => 0))), (q7, .inl (cy 1, 10, .inl (fun _ => 0))), (q8, .inl (cy 0, 10, .inl (fun _ => 0))), (q9, .inl (cy 0, 10, .inl (fun _ => 0))), (q10, .inl (cy 0, 40, .inl (fun _ => 0))), (q11, .inl (cy 0, 5, .inl (fun _ => 0))), (q12, .inl (cy 0, 10, .inl (fun _ => 0)))] H := hP
  have hD : va_D A [(h0, .inr (5, [.ref q1, .ref q2, .ref q3, .ref q4, .ref q5, .ref q6, .int 0, .ref q7, .ref q8, .ref q9, .ref q10, .int 0, .ref q11, .int 0, .ref q12, .int 0, .null, .null, .null, .long 0, .long 0])), (q1, .inl (cy 1, 5, .inl (fun _ => 0))), (q2, .inl (cy 0, 5, .inl (fun _ => 0))), (q3, .inl (cy 0, 5, .inl (fun _ => 0))), (q4, .inl (cy 0, 10, .inl (fun _ => 0))), (q5, .inl (cy 0, 10, .inl (fun _ => 0))), (q6, .inl (cy 0, 10, .inl (fun _ => 0))), (q7, .inl (cy 1, 10, .inl (fun _ => 0))), (q8, .inl (cy 0, 10, .inl (fun _ => 0))), (q9, .inl (cy 0, 10, .inl (fun _ => 0))), (q10, .inl (cy 0, 40, .inl (fun _ => 0))), (q11, .inl (cy 0, 5, .inl (fun _ => 0))), (q12, .inl (cy 0, 10, .inl (fun _ => 0)))] := hD
  refine lv_aload_n hx hb d_M_init_96 rfl (lv_at hl 0 rfl) ?_
  refine lv_bipush (v := 100) hx hb d_M_init_97 (by decide) ?_
  refine wz_newa (atype := .int) (a0 := (100, .inl (fun _ => 0))) (N' := 100) hx hb (ht _ kw_121) rfl 0 rfl ra_int hK hP hD hS hA (fun _ => rfl) (by decide) (by decide) (by decide) (Nat.le_of_ble_eq_true rfl) (Nat.le_of_ble_eq_true rfl) d_M_init_99 (fun q13 H hP hD hS => ?_)
  have hP : va_P D cl_all [(h0, .inr (5, [.ref q1, .ref q2, .ref q3, .ref q4, .ref q5, .ref q6, .int 0, .ref q7, .ref q8, .ref q9, .ref q10, .int 0, .ref q11, .int 0, .ref q12, .int 0, .null, .null, .null, .long 0, .long 0])), (q1, .inl (cy 1, 5, .inl (fun _ => 0))), (q2, .inl (cy 0, 5, .inl (fun _ => 0))), (q3, .inl (cy 0, 5, .inl (fun _ => 0))), (q4, .inl (cy 0, 10, .inl (fun _ => 0))), (q5, .inl (cy 0, 10, .inl (fun _ => 0))), (q6, .inl (cy 0, 10, .inl (fun _ => 0))), (q7, .inl (cy 1, 10, .inl (fun _ => 0))), (q8, .inl (cy 0, 10, .inl (fun _ => 0))), (q9, .inl (cy 0, 10, .inl (fun _ => 0))), (q10, .inl (cy 0, 40, .inl (fun _ => 0))), (q11, .inl (cy 0, 5, .inl (fun _ => 0))), (q12, .inl (cy 0, 10, .inl (fun _ => 0))), (q13, .inl (cy 0, 100, .inl (fun _ => 0)))] H := hP
  have hD : va_D A [(h0, .inr (5, [.ref q1, .ref q2, .ref q3, .ref q4, .ref q5, .ref q6, .int 0, .ref q7, .ref q8, .ref q9, .ref q10, .int 0, .ref q11, .int 0, .ref q12, .int 0, .null, .null, .null, .long 0, .long 0])), (q1, .inl (cy 1, 5, .inl (fun _ => 0))), (q2, .inl (cy 0, 5, .inl (fun _ => 0))), (q3, .inl (cy 0, 5, .inl (fun _ => 0))), (q4, .inl (cy 0, 10, .inl (fun _ => 0))), (q5, .inl (cy 0, 10, .inl (fun _ => 0))), (q6, .inl (cy 0, 10, .inl (fun _ => 0))), (q7, .inl (cy 1, 10, .inl (fun _ => 0))), (q8, .inl (cy 0, 10, .inl (fun _ => 0))), (q9, .inl (cy 0, 10, .inl (fun _ => 0))), (q10, .inl (cy 0, 40, .inl (fun _ => 0))), (q11, .inl (cy 0, 5, .inl (fun _ => 0))), (q12, .inl (cy 0, 10, .inl (fun _ => 0))), (q13, .inl (cy 0, 100, .inl (fun _ => 0)))] := hD
  refine W.widen (k := 13) (n := 230) (by omega) (by omega) ?_
  refine va_putF (D := D) (ci := 5) (v := .ref q13) (ty := .array .int) (C := RQ_M) (T := FQ_M) (N := 21) hx hb ht IQ_M TQ_M TQ_M_ok NQ_M hown hK hP hD hS 0 rfl rfl 16 (by decide) (ht _ kw_544) (fun _ h9 => h9) rfl hin rfl (by decide +kernel) rfl rfl (Nat.le_of_ble_eq_true rfl) d_M_init_101 (fun H locs hP hD hS => ?_)
  have hP : va_P D cl_all [(h0, .inr (5, [.ref q1, .ref q2, .ref q3, .ref q4, .ref q5, .ref q6, .int 0, .ref q7, .ref q8, .ref q9, .ref q10, .int 0, .ref q11, .int 0, .ref q12, .int 0, .ref q13, .null, .null, .long 0, .long 0])), (q1, .inl (cy 1, 5, .inl (fun _ => 0))), (q2, .inl (cy 0, 5, .inl (fun _ => 0))), (q3, .inl (cy 0, 5, .inl (fun _ => 0))), (q4, .inl (cy 0, 10, .inl (fun _ => 0))), (q5, .inl (cy 0, 10, .inl (fun _ => 0))), (q6, .inl (cy 0, 10, .inl (fun _ => 0))), (q7, .inl (cy 1, 10, .inl (fun _ => 0))), (q8, .inl (cy 0, 10, .inl (fun _ => 0))), (q9, .inl (cy 0, 10, .inl (fun _ => 0))), (q10, .inl (cy 0, 40, .inl (fun _ => 0))), (q11, .inl (cy 0, 5, .inl (fun _ => 0))), (q12, .inl (cy 0, 10, .inl (fun _ => 0))), (q13, .inl (cy 0, 100, .inl (fun _ => 0)))] H := hP
  have hD : va_D A [(h0, .inr (5, [.ref q1, .ref q2, .ref q3, .ref q4, .ref q5, .ref q6, .int 0, .ref q7, .ref q8, .ref q9, .ref q10, .int 0, .ref q11, .int 0, .ref q12, .int 0, .ref q13, .null, .null, .long 0, .long 0])), (q1, .inl (cy 1, 5, .inl (fun _ => 0))), (q2, .inl (cy 0, 5, .inl (fun _ => 0))), (q3, .inl (cy 0, 5, .inl (fun _ => 0))), (q4, .inl (cy 0, 10, .inl (fun _ => 0))), (q5, .inl (cy 0, 10, .inl (fun _ => 0))), (q6, .inl (cy 0, 10, .inl (fun _ => 0))), (q7, .inl (cy 1, 10, .inl (fun _ => 0))), (q8, .inl (cy 0, 10, .inl (fun _ => 0))), (q9, .inl (cy 0, 10, .inl (fun _ => 0))), (q10, .inl (cy 0, 40, .inl (fun _ => 0))), (q11, .inl (cy 0, 5, .inl (fun _ => 0))), (q12, .inl (cy 0, 10, .inl (fun _ => 0))), (q13, .inl (cy 0, 100, .inl (fun _ => 0)))] := hD
  refine lv_aload_n hx hb d_M_init_104 rfl (lv_at hl 0 rfl) ?_
  refine lv_bipush (v := 10) hx hb d_M_init_105 (by decide) ?_
  refine wz_newa (atype := .long) (a0 := (10, .inr (.inl (fun _ => 0)))) (N' := 10) hx hb (ht _ kw_190) rfl 2 rfl ra_long hK hP hD hS hA (fun _ => rfl) (by decide) (by decide) (by decide) (Nat.le_of_ble_eq_true rfl) (Nat.le_of_ble_eq_true rfl) d_M_init_107 (fun q14 H hP hD hS => ?_)
  have hP : va_P D cl_all [(h0, .inr (5, [.ref q1, .ref q2, .ref q3, .ref q4, .ref q5, .ref q6, .int 0, .ref q7, .ref q8, .ref q9, .ref q10, .int 0, .ref q11, .int 0, .ref q12, .int 0, .ref q13, .null, .null, .long 0, .long 0])), (q1, .inl (cy 1, 5, .inl (fun _ => 0))), (q2, .inl (cy 0, 5, .inl (fun _ => 0))), (q3, .inl (cy 0, 5, .inl (fun _ => 0))), (q4, .inl (cy 0, 10, .inl (fun _ => 0))), (q5, .inl (cy 0, 10, .inl (fun _ => 0))), (q6, .inl (cy 0, 10, .inl (fun _ => 0))), (q7, .inl (cy 1, 10, .inl (fun _ => 0))), (q8, .inl (cy 0, 10, .inl (fun _ => 0))), (q9, .inl (cy 0, 10, .inl (fun _ => 0))), (q10, .inl (cy 0, 40, .inl (fun _ => 0))), (q11, .inl (cy 0, 5, .inl (fun _ => 0))), (q12, .inl (cy 0, 10, .inl (fun _ => 0))), (q13, .inl (cy 0, 100, .inl (fun _ => 0))), (q14, .inl (cy 2, 10, .inr (.inl (fun _ => 0))))] H := hP
  have hD : va_D A [(h0, .inr (5, [.ref q1, .ref q2, .ref q3, .ref q4, .ref q5, .ref q6, .int 0, .ref q7, .ref q8, .ref q9, .ref q10, .int 0, .ref q11, .int 0, .ref q12, .int 0, .ref q13, .null, .null, .long 0, .long 0])), (q1, .inl (cy 1, 5, .inl (fun _ => 0))), (q2, .inl (cy 0, 5, .inl (fun _ => 0))), (q3, .inl (cy 0, 5, .inl (fun _ => 0))), (q4, .inl (cy 0, 10, .inl (fun _ => 0))), (q5, .inl (cy 0, 10, .inl (fun _ => 0))), (q6, .inl (cy 0, 10, .inl (fun _ => 0))), (q7, .inl (cy 1, 10, .inl (fun _ => 0))), (q8, .inl (cy 0, 10, .inl (fun _ => 0))), (q9, .inl (cy 0, 10, .inl (fun _ => 0))), (q10, .inl (cy 0, 40, .inl (fun _ => 0))), (q11, .inl (cy 0, 5, .inl (fun _ => 0))), (q12, .inl (cy 0, 10, .inl (fun _ => 0))), (q13, .inl (cy 0, 100, .inl (fun _ => 0))), (q14, .inl (cy 2, 10, .inr (.inl (fun _ => 0))))] := hD
  refine W.widen (k := 14) (n := 240) (by omega) (by omega) ?_
  refine va_putF (D := D) (ci := 5) (v := .ref q14) (ty := .array .long) (C := RQ_M) (T := FQ_M) (N := 21) hx hb ht IQ_M TQ_M TQ_M_ok NQ_M hown hK hP hD hS 0 rfl rfl 17 (by decide) (ht _ kw_545) (fun _ h9 => h9) rfl hin rfl (by decide +kernel) rfl rfl (Nat.le_of_ble_eq_true rfl) d_M_init_109 (fun H locs hP hD hS => ?_)
  have hP : va_P D cl_all [(h0, .inr (5, [.ref q1, .ref q2, .ref q3, .ref q4, .ref q5, .ref q6, .int 0, .ref q7, .ref q8, .ref q9, .ref q10, .int 0, .ref q11, .int 0, .ref q12, .int 0, .ref q13, .ref q14, .null, .long 0, .long 0])), (q1, .inl (cy 1, 5, .inl (fun _ => 0))), (q2, .inl (cy 0, 5, .inl (fun _ => 0))), (q3, .inl (cy 0, 5, .inl (fun _ => 0))), (q4, .inl (cy 0, 10, .inl (fun _ => 0))), (q5, .inl (cy 0, 10, .inl (fun _ => 0))), (q6, .inl (cy 0, 10, .inl (fun _ => 0))), (q7, .inl (cy 1, 10, .inl (fun _ => 0))), (q8, .inl (cy 0, 10, .inl (fun _ => 0))), (q9, .inl (cy 0, 10, .inl (fun _ => 0))), (q10, .inl (cy 0, 40, .inl (fun _ => 0))), (q11, .inl (cy 0, 5, .inl (fun _ => 0))), (q12, .inl (cy 0, 10, .inl (fun _ => 0))), (q13, .inl (cy 0, 100, .inl (fun _ => 0))), (q14, .inl (cy 2, 10, .inr (.inl (fun _ => 0))))] H := hP
  have hD : va_D A [(h0, .inr (5, [.ref q1, .ref q2, .ref q3, .ref q4, .ref q5, .ref q6, .int 0, .ref q7, .ref q8, .ref q9, .ref q10, .int 0, .ref q11, .int 0, .ref q12, .int 0, .ref q13, .ref q14, .null, .long 0, .long 0])), (q1, .inl (cy 1, 5, .inl (fun _ => 0))), (q2, .inl (cy 0, 5, .inl (fun _ => 0))), (q3, .inl (cy 0, 5, .inl (fun _ => 0))), (q4, .inl (cy 0, 10, .inl (fun _ => 0))), (q5, .inl (cy 0, 10, .inl (fun _ => 0))), (q6, .inl (cy 0, 10, .inl (fun _ => 0))), (q7, .inl (cy 1, 10, .inl (fun _ => 0))), (q8, .inl (cy 0, 10, .inl (fun _ => 0))), (q9, .inl (cy 0, 10, .inl (fun _ => 0))), (q10, .inl (cy 0, 40, .inl (fun _ => 0))), (q11, .inl (cy 0, 5, .inl (fun _ => 0))), (q12, .inl (cy 0, 10, .inl (fun _ => 0))), (q13, .inl (cy 0, 100, .inl (fun _ => 0))), (q14, .inl (cy 2, 10, .inr (.inl (fun _ => 0))))] := hD
  refine lv_aload_n hx hb d_M_init_112 rfl (lv_at hl 0 rfl) ?_
  refine lv_bipush (v := 100) hx hb d_M_init_113 (by decide) ?_
  refine wz_newa (atype := .long) (a0 := (100, .inr (.inl (fun _ => 0)))) (N' := 100) hx hb (ht _ kw_190) rfl 2 rfl ra_long hK hP hD hS hA (fun _ => rfl) (by decide) (by decide) (by decide) (Nat.le_of_ble_eq_true rfl) (Nat.le_of_ble_eq_true rfl) d_M_init_115 (fun q15 H hP hD hS => ?_)
  have hP : va_P D cl_all [(h0, .inr (5, [.ref q1, .ref q2, .ref q3, .ref q4, .ref q5, .ref q6, .int 0, .ref q7, .ref q8, .ref q9, .ref q10, .int 0, .ref q11, .int 0, .ref q12, .int 0, .ref q13, .ref q14, .null, .long 0, .long 0])), (q1, .inl (cy 1, 5, .inl (fun _ => 0))), (q2, .inl (cy 0, 5, .inl (fun _ => 0))), (q3, .inl (cy 0, 5, .inl (fun _ => 0))), (q4, .inl (cy 0, 10, .inl (fun _ => 0))), (q5, .inl (cy 0, 10, .inl (fun _ => 0))), (q6, .inl (cy 0, 10, .inl (fun _ => 0))), (q7, .inl (cy 1, 10, .inl (fun _ => 0))), (q8, .inl (cy 0, 10, .inl (fun _ => 0))), (q9, .inl (cy 0, 10, .inl (fun _ => 0))), (q10, .inl (cy 0, 40, .inl (fun _ => 0))), (q11, .inl (cy 0, 5, .inl (fun _ => 0))), (q12, .inl (cy 0, 10, .inl (fun _ => 0))), (q13, .inl (cy 0, 100, .inl (fun _ => 0))), (q14, .inl (cy 2, 10, .inr (.inl (fun _ => 0)))), (q15, .inl (cy 2, 100, .inr (.inl (fun _ => 0))))] H := hP
  have hD : va_D A [(h0, .inr (5, [.ref q1, .ref q2, .ref q3, .ref q4, .ref q5, .ref q6, .int 0, .ref q7, .ref q8, .ref q9, .ref q10, .int 0, .ref q11, .int 0, .ref q12, .int 0, .ref q13, .ref q14, .null, .long 0, .long 0])), (q1, .inl (cy 1, 5, .inl (fun _ => 0))), (q2, .inl (cy 0, 5, .inl (fun _ => 0))), (q3, .inl (cy 0, 5, .inl (fun _ => 0))), (q4, .inl (cy 0, 10, .inl (fun _ => 0))), (q5, .inl (cy 0, 10, .inl (fun _ => 0))), (q6, .inl (cy 0, 10, .inl (fun _ => 0))), (q7, .inl (cy 1, 10, .inl (fun _ => 0))), (q8, .inl (cy 0, 10, .inl (fun _ => 0))), (q9, .inl (cy 0, 10, .inl (fun _ => 0))), (q10, .inl (cy 0, 40, .inl (fun _ => 0))), (q11, .inl (cy 0, 5, .inl (fun _ => 0))), (q12, .inl (cy 0, 10, .inl (fun _ => 0))), (q13, .inl (cy 0, 100, .inl (fun _ => 0))), (q14, .inl (cy 2, 10, .inr (.inl (fun _ => 0)))), (q15, .inl (cy 2, 100, .inr (.inl (fun _ => 0))))] := hD
  refine W.widen (k := 15) (n := 340) (by omega) (by omega) ?_
  refine va_putF (D := D) (ci := 5) (v := .ref q15) (ty := .array .long) (C := RQ_M) (T := FQ_M) (N := 21) hx hb ht IQ_M TQ_M TQ_M_ok NQ_M hown hK hP hD hS 0 rfl rfl 18 (by decide) (ht _ kw_546) (fun _ h9 => h9) rfl hin rfl (by decide +kernel) rfl rfl (Nat.le_of_ble_eq_true rfl) d_M_init_117 (fun H locs hP hD hS => ?_)
  have hP : va_P D cl_all [(h0, .inr (5, [.ref q1, .ref q2, .ref q3, .ref q4, .ref q5, .ref q6, .int 0, .ref q7, .ref q8, .ref q9, .ref q10, .int 0, .ref q11, .int 0, .ref q12, .int 0, .ref q13, .ref q14, .ref q15, .long 0, .long 0])), (q1, .inl (cy 1, 5, .inl (fun _ => 0))), (q2, .inl (cy 0, 5, .inl (fun _ => 0))), (q3, .inl (cy 0, 5, .inl (fun _ => 0))), (q4, .inl (cy 0, 10, .inl (fun _ => 0))), (q5, .inl (cy 0, 10, .inl (fun _ => 0))), (q6, .inl (cy 0, 10, .inl (fun _ => 0))), (q7, .inl (cy 1, 10, .inl (fun _ => 0))), (q8, .inl (cy 0, 10, .inl (fun _ => 0))), (q9, .inl (cy 0, 10, .inl (fun _ => 0))), (q10, .inl (cy 0, 40, .inl (fun _ => 0))), (q11, .inl (cy 0, 5, .inl (fun _ => 0))), (q12, .inl (cy 0, 10, .inl (fun _ => 0))), (q13, .inl (cy 0, 100, .inl (fun _ => 0))), (q14, .inl (cy 2, 10, .inr (.inl (fun _ => 0)))), (q15, .inl (cy 2, 100, .inr (.inl (fun _ => 0))))] H := hP
  have hD : va_D A [(h0, .inr (5, [.ref q1, .ref q2, .ref q3, .ref q4, .ref q5, .ref q6, .int 0, .ref q7, .ref q8, .ref q9, .ref q10, .int 0, .ref q11, .int 0, .ref q12, .int 0, .ref q13, .ref q14, .ref q15, .long 0, .long 0])), (q1, .inl (cy 1, 5, .inl (fun _ => 0))), (q2, .inl (cy 0, 5, .inl (fun _ => 0))), (q3, .inl (cy 0, 5, .inl (fun _ => 0))), (q4, .inl (cy 0, 10, .inl (fun _ => 0))), (q5, .inl (cy 0, 10, .inl (fun _ => 0))), (q6, .inl (cy 0, 10, .inl (fun _ => 0))), (q7, .inl (cy 1, 10, .inl (fun _ => 0))), (q8, .inl (cy 0, 10, .inl (fun _ => 0))), (q9, .inl (cy 0, 10, .inl (fun _ => 0))), (q10, .inl (cy 0, 40, .inl (fun _ => 0))), (q11, .inl (cy 0, 5, .inl (fun _ => 0))), (q12, .inl (cy 0, 10, .inl (fun _ => 0))), (q13, .inl (cy 0, 100, .inl (fun _ => 0))), (q14, .inl (cy 2, 10, .inr (.inl (fun _ => 0)))), (q15, .inl (cy 2, 100, .inr (.inl (fun _ => 0))))] := hD
  exact W.vret hx hb hr (fun t ht9 hW => ⟨⟨(q1, q2, q3, q4, q5, q6, q7, q8, q9, q10, q11, q12, q13, q14, q15), rfl, trivial, by show va_P D cl_all (nw_M cy h0 q1 q2 q3 q4 q5 q6 q7 q8 q9 q10 q11 q12 q13 q14 q15) t.heap; rw [ht9]; exact hP, by rw [hAe] at hD; exact hD⟩, by rw [hAe] at hS; exact hS.F ht9⟩) (by rw [hAe] at hS; exact hS.2.2) d_M_init_120
end
section
theorem kw_62 : Cond.methodLink RQ_S 3 Lib.objectInit ∈ gt_ws := gt_of 62 (by decide +kernel) (by decide +kernel)
theorem kw_65 : Cond.classLink RQ_S 9 RQ_T ∈ gt_ws := gt_of 65 (by decide +kernel) (by decide +kernel)
theorem kw_66 : Cond.instantiable RQ_T 10 ∈ gt_ws := gt_of 66 (by decide +kernel) (by decide +kernel)
theorem kw_68 : Cond.instanceMethod y_T_init ∈ gt_ws := gt_of 68 (by decide +kernel) (by decide +kernel)
theorem kw_69 : Cond.code y_T_init c_T_init 1 none ∈ gt_ws := gt_of 69 (by decide +kernel) (by decide +kernel)
theorem kw_123 : Cond.classLink RQ_S 16 RQ_N ∈ gt_ws := gt_of 123 (by decide +kernel) (by decide +kernel)
theorem kw_124 : Cond.instantiable RQ_N 7 ∈ gt_ws := gt_of 124 (by decide +kernel) (by decide +kernel)
theorem kw_126 : Cond.instanceMethod y_N_init ∈ gt_ws := gt_of 126 (by decide +kernel) (by decide +kernel)
theorem kw_127 : Cond.code y_N_init c_N_init 1 none ∈ gt_ws := gt_of 127 (by decide +kernel) (by decide +kernel)
theorem kw_159 : Cond.classLink RQ_S 23 RQ_E ∈ gt_ws := gt_of 159 (by decide +kernel) (by decide +kernel)
theorem kw_160 : Cond.instantiable RQ_E 7 ∈ gt_ws := gt_of 160 (by decide +kernel) (by decide +kernel)
theorem kw_162 : Cond.instanceMethod y_E_init ∈ gt_ws := gt_of 162 (by decide +kernel) (by decide +kernel)
theorem kw_163 : Cond.code y_E_init c_E_init 1 none ∈ gt_ws := gt_of 163 (by decide +kernel) (by decide +kernel)
theorem kw_191 : Cond.classLink RQ_S 30 RQ_R ∈ gt_ws := gt_of 191 (by decide +kernel) (by decide +kernel)
theorem kw_192 : Cond.instantiable RQ_R 6 ∈ gt_ws := gt_of 192 (by decide +kernel) (by decide +kernel)
theorem kw_194 : Cond.instanceMethod y_R_init ∈ gt_ws := gt_of 194 (by decide +kernel) (by decide +kernel)
theorem kw_195 : Cond.code y_R_init c_R_init 1 none ∈ gt_ws := gt_of 195 (by decide +kernel) (by decide +kernel)
/-! the maker of the whole object: its four parts, one after the other; then all cells as a store -/
theorem fr_l {D : va_G} {cl : List vw_C} {w c : va_W} {H : Heap} (h : va_P D cl (w ++ c) H) : va_P D cl w H := fun k q hk => h k q (by rw [List.getElem?_append_left (List.getElem?_eq_some_iff.mp hk).1]; exact hk)
theorem fr_r {D : va_G} {cl : List vw_C} {w c : va_W} {H : Heap} (h : va_P D cl (w ++ c) H) : va_P D cl c H := fun k q hk => h (w.length + k) q (by rw [List.getElem?_append_right (by omega), Nat.add_sub_cancel_left]; exact hk)
theorem fr_lD {A : Nat → Prop} {w c : va_W} (h : va_D A (w ++ c)) : va_D A w := by
  have e : ∀ (k : Nat) (q : Nat × va_E), w[k]? = some q → (w ++ c)[k]? = some q := fun k q hk => by rw [List.getElem?_append_left (List.getElem?_eq_some_iff.mp hk).1]; exact hk
  exact ⟨fun i j p q hp hq => h.1 i j p q (e i p hp) (e j q hq), fun k q hk => h.2 k q (e k q hk)⟩
theorem fr_rD {A : Nat → Prop} {w c : va_W} (h : va_D A (w ++ c)) : va_D A c := by
  have e : ∀ (k : Nat) (q : Nat × va_E), c[k]? = some q → (w ++ c)[w.length + k]? = some q := fun k q hk => by rw [List.getElem?_append_right (by omega), Nat.add_sub_cancel_left]; exact hk
  exact ⟨fun i j p q hp hq hh => by have := h.1 _ _ p q (e i p hp) (e j q hq) hh; omega, fun k q hk => h.2 _ q (e k q hk)⟩
theorem fr_A {A : Nat → Prop} {w c : va_W} {H0 H : Heap} {locs : List Loc} (hD : va_D A (w ++ c)) (hS : va_S A H0 H locs) (hA : ∀ q, H0.size ≤ q → A q) : ∀ q, va_A c H.size q → A q := by
  intro q hq
  rcases hq with ⟨k, x, hk⟩ | hq
  · exact (fr_rD hD).2 k (q, x) hk
  · exact hA q (Nat.le_trans hS.1 hq)
theorem fr_off {A : Nat → Prop} {D : va_G} {cl : List vw_C} {w c : va_W} {H : Heap} (hP : va_P D cl (w ++ c) H) (hD : va_D A (w ++ c)) {k : Nat} {q : Nat × va_E} (hk : w[k]? = some q) : q.1 < H.size ∧ ¬ va_A c H.size q.1 := by
  have h1 := ((fr_l hP) k q hk).lt
  refine ⟨h1, fun h => ?_⟩
  rcases h with ⟨j, x, hj⟩ | h
  · have a1 : (w ++ c)[k]? = some q := by rw [List.getElem?_append_left (List.getElem?_eq_some_iff.mp hk).1]; exact hk
    have a2 : (w ++ c)[w.length + j]? = some (q.1, x) := by rw [List.getElem?_append_right (by omega), Nat.add_sub_cancel_left]; exact hj
    have := hD.1 _ _ _ _ a1 a2 rfl
    have := (List.getElem?_eq_some_iff.mp hk).1
    omega
  · omega
theorem fr_join {A : Nat → Prop} {D : va_G} {cl : List vw_C} {w c c1 : va_W} {H H1 : Heap} (hP : va_P D cl (w ++ c) H) (hD : va_D A (w ++ c)) (hk : ∀ q : Nat, q < H.size → ¬ va_A c H.size q → H1[q]? = H[q]?) (hF : ∀ q, va_A c H.size q → A q) (hP1 : va_P D cl c1 H1) (hD1 : va_D (va_A c H.size) c1) : va_P D cl (w ++ c1) H1 ∧ va_D A (w ++ c1) := by
  refine ⟨((fr_l hP).kept (fun k q hq => hk q.1 (fr_off hP hD hq).1 (fr_off hP hD hq).2)).app hP1, (fr_lD hD).app (hD1.weaken (fun _ _ _ h => hF _ h)) (fun i j p q hp hq e => ?_)⟩
  exact (fr_off hP hD hp).2 (e ▸ hD1.2 j q hq)
/-- the numbers of a new object -/
def zI : gS := (fun _ => 0, fun _ => 1, fun _ _ => 0, fun _ _ => 0)
/-- the numbers of a new reference -/
def zJ : gS := (fun _ => 0, fun _ => 0, fun _ _ => 0, fun _ _ => 0)
def nwS (U : State) : Prop := nwI U ∧ va_Nw (.methodLinkNest RQ_S 11 y_T_init RQ_S) U ∧ va_Nw (.methodLinkNest RQ_S 18 y_N_init RQ_S) U ∧ va_Nw (.methodLinkNest RQ_S 25 y_E_init RQ_S) U ∧ va_Nw (.methodLinkNest RQ_S 32 y_R_init RQ_S) U
theorem nwS_ok : nwOk nwS := ⟨fun s U hW h => ⟨nwI_ok.1 s U hW h.1, va_Nw.warmM hW h.2.1, va_Nw.warmM hW h.2.2.1, va_Nw.warmM hW h.2.2.2.1, va_Nw.warmM hW h.2.2.2.2⟩, fun s U hv h => ⟨nwI_ok.2 s U hv h.1, va_Nw.same rfl hv h.2.1, va_Nw.same rfl hv h.2.2.1, va_Nw.same rfl hv h.2.2.2.1, va_Nw.same rfl hv h.2.2.2.2⟩⟩
def ad_S (h0 qT a1 a2 a3 a4 a5 a6 a7 a8 qN b1 b2 b3 b4 qE c1 c2 c3 c4 c5 c6 qR d1 d2 d3 d4 d5 : Nat) : Nat → Nat := fun k => match k with
  | 0 => h0
  | 1 => qT
  | 2 => qN
  | 3 => qE
  | 4 => qR
  | 5 => a1
  | 6 => a2
  | 7 => a3
  | 8 => a4
  | 9 => a5
  | 10 => a6
  | 11 => a7
  | 12 => b1
  | 13 => b2
  | 14 => b3
  | 15 => b4
  | 16 => d1
  | 17 => a8
  | 18 => c1
  | 19 => c2
  | 20 => c3
  | 21 => c4
  | 22 => c5
  | 23 => c6
  | 24 => d2
  | 25 => d3
  | 26 => d4
  | 27 => d5
  | k + 28 => if k < 4 then a8 + 1 + k else if k < 14 then c1 + 1 + (k - 4) else c2 + 1 + (k - 14)
theorem ad_28 (h0 qT a1 a2 a3 a4 a5 a6 a7 a8 qN b1 b2 b3 b4 qE c1 c2 c3 c4 c5 c6 qR d1 d2 d3 d4 d5 : Nat) {i : Nat} (h : i < 4) : ad_S h0 qT a1 a2 a3 a4 a5 a6 a7 a8 qN b1 b2 b3 b4 qE c1 c2 c3 c4 c5 c6 qR d1 d2 d3 d4 d5 (i + 28) = a8 + 1 + i := by
  show (if i < 4 then a8 + 1 + i else if i < 14 then c1 + 1 + (i - 4) else c2 + 1 + (i - 14)) = _
  rw [if_pos h]
theorem ad_32 (h0 qT a1 a2 a3 a4 a5 a6 a7 a8 qN b1 b2 b3 b4 qE c1 c2 c3 c4 c5 c6 qR d1 d2 d3 d4 d5 : Nat) {i : Nat} (h : i < 10) : ad_S h0 qT a1 a2 a3 a4 a5 a6 a7 a8 qN b1 b2 b3 b4 qE c1 c2 c3 c4 c5 c6 qR d1 d2 d3 d4 d5 (i + 32) = c1 + 1 + i := by
  show (if i + 4 < 4 then a8 + 1 + (i + 4) else if i + 4 < 14 then c1 + 1 + (i + 4 - 4) else c2 + 1 + (i + 4 - 14)) = _
  rw [if_neg (by omega), if_pos (by omega)]
  omega
theorem ad_42 (h0 qT a1 a2 a3 a4 a5 a6 a7 a8 qN b1 b2 b3 b4 qE c1 c2 c3 c4 c5 c6 qR d1 d2 d3 d4 d5 : Nat) {i : Nat} (h : i < 10) : ad_S h0 qT a1 a2 a3 a4 a5 a6 a7 a8 qN b1 b2 b3 b4 qE c1 c2 c3 c4 c5 c6 qR d1 d2 d3 d4 d5 (i + 42) = c2 + 1 + i := by
  show (if i + 14 < 4 then a8 + 1 + (i + 14) else if i + 14 < 14 then c1 + 1 + (i + 14 - 4) else c2 + 1 + (i + 14 - 14)) = _
  rw [if_neg (by omega), if_neg (by omega)]
  omega
def gm_S : List Nat := [0, 1, 14, 19, 46, 2, 3, 4, 5, 6, 7, 8, 15, 16, 17, 18, 47, 9, 20, 31, 42, 43, 44, 45, 48, 49, 50, 51, 10, 11, 12, 13, 21, 22, 23, 24, 25, 26, 27, 28, 29, 30, 32, 33, 34, 35, 36, 37, 38, 39, 40, 41]
set_option maxHeartbeats 4000000 in
set_option maxRecDepth 100000 in
theorem gm_at (cy : Nat → ClassId) (h0 qT a1 a2 a3 a4 a5 a6 a7 a8 qN b1 b2 b3 b4 qE c1 c2 c3 c4 c5 c6 qR d1 d2 d3 d4 d5 : Nat) : ∀ k, k < 52 → (((h0, .inr (4, [.ref qT, .ref qN, .ref qE, .ref qR, .int 0])) :: (((nw_T cy qT a1 a2 a3 a4 a5 a6 a7 a8 ++ nw_N cy qN b1 b2 b3 b4) ++ nw_E cy qE c1 c2 c3 c4 c5 c6) ++ nw_R cy qR d1 d2 d3 d4 d5)) : va_W)[gm_S.getD k 0]? = some (ad_S h0 qT a1 a2 a3 a4 a5 a6 a7 a8 qN b1 b2 b3 b4 qE c1 c2 c3 c4 c5 c6 qR d1 d2 d3 d4 d5 k, g1 cy (ad_S h0 qT a1 a2 a3 a4 a5 a6 a7 a8 qN b1 b2 b3 b4 qE c1 c2 c3 c4 c5 c6 qR d1 d2 d3 d4 d5) zI k) := by
  intro k hk
  match k, hk with
  | 0, _ => rfl
  | 1, _ => rfl
  | 2, _ => rfl
  | 3, _ => rfl
  | 4, _ => rfl
  | 5, _ => rfl
  | 6, _ => rfl
  | 7, _ => rfl
  | 8, _ => rfl
  | 9, _ => rfl
  | 10, _ => rfl
  | 11, _ => rfl
  | 12, _ => rfl
  | 13, _ => rfl
  | 14, _ => rfl
  | 15, _ => rfl
  | 16, _ => rfl
  | 17, _ =>
    rw [e_g1_17]
    have e9 : (fun i => if i < 4 then some (ad_S h0 qT a1 a2 a3 a4 a5 a6 a7 a8 qN b1 b2 b3 b4 qE c1 c2 c3 c4 c5 c6 qR d1 d2 d3 d4 d5 (i + 28)) else none) = (fun i => if i < 4 then some (a8 + 1 + i) else none) := funext fun i => by
      by_cases h : i < 4
      · rw [if_pos h, if_pos h, ad_28 h0 qT a1 a2 a3 a4 a5 a6 a7 a8 qN b1 b2 b3 b4 qE c1 c2 c3 c4 c5 c6 qR d1 d2 d3 d4 d5 h]
      · rw [if_neg h, if_neg h]
    rw [e9]
    rfl
  | 18, _ =>
    rw [e_g1_18]
    have e9 : (fun i => if i < 10 then some (ad_S h0 qT a1 a2 a3 a4 a5 a6 a7 a8 qN b1 b2 b3 b4 qE c1 c2 c3 c4 c5 c6 qR d1 d2 d3 d4 d5 (i + 32)) else none) = (fun i => if i < 10 then some (c1 + 1 + i) else none) := funext fun i => by
      by_cases h : i < 10
      · rw [if_pos h, if_pos h, ad_32 h0 qT a1 a2 a3 a4 a5 a6 a7 a8 qN b1 b2 b3 b4 qE c1 c2 c3 c4 c5 c6 qR d1 d2 d3 d4 d5 h]
      · rw [if_neg h, if_neg h]
    rw [e9]
    rfl
  | 19, _ =>
    rw [e_g1_19]
    have e9 : (fun i => if i < 10 then some (ad_S h0 qT a1 a2 a3 a4 a5 a6 a7 a8 qN b1 b2 b3 b4 qE c1 c2 c3 c4 c5 c6 qR d1 d2 d3 d4 d5 (i + 42)) else none) = (fun i => if i < 10 then some (c2 + 1 + i) else none) := funext fun i => by
      by_cases h : i < 10
      · rw [if_pos h, if_pos h, ad_42 h0 qT a1 a2 a3 a4 a5 a6 a7 a8 qN b1 b2 b3 b4 qE c1 c2 c3 c4 c5 c6 qR d1 d2 d3 d4 d5 h]
      · rw [if_neg h, if_neg h]
    rw [e9]
    rfl
  | 20, _ => rfl
  | 21, _ => rfl
  | 22, _ => rfl
  | 23, _ => rfl
  | 24, _ => rfl
  | 25, _ => rfl
  | 26, _ => rfl
  | 27, _ => rfl
  | 28, _ => rfl
  | 29, _ => rfl
  | 30, _ => rfl
  | 31, _ => rfl
  | 32, _ => rfl
  | 33, _ => rfl
  | 34, _ => rfl
  | 35, _ => rfl
  | 36, _ => rfl
  | 37, _ => rfl
  | 38, _ => rfl
  | 39, _ => rfl
  | 40, _ => rfl
  | 41, _ => rfl
  | 42, _ => rfl
  | 43, _ => rfl
  | 44, _ => rfl
  | 45, _ => rfl
  | 46, _ => rfl
  | 47, _ => rfl
  | 48, _ => rfl
  | 49, _ => rfl
  | 50, _ => rfl
  | 51, _ => rfl
  | k + 52, h => exact absurd h (by omega)
theorem gm_inj : ∀ i, i < 52 → ∀ j, j < 52 → gm_S.getD i 0 = gm_S.getD j 0 → i = j := by decide +kernel
theorem st_S {D : va_G} {cy : Nat → ClassId} {h0 qT a1 a2 a3 a4 a5 a6 a7 a8 qN b1 b2 b3 b4 qE c1 c2 c3 c4 c5 c6 qR d1 d2 d3 d4 d5 : Nat} {A : Nat → Prop} {H : Heap} (hP : va_P D cl_all ((h0, .inr (4, [.ref qT, .ref qN, .ref qE, .ref qR, .int 0])) :: (((nw_T cy qT a1 a2 a3 a4 a5 a6 a7 a8 ++ nw_N cy qN b1 b2 b3 b4) ++ nw_E cy qE c1 c2 c3 c4 c5 c6) ++ nw_R cy qR d1 d2 d3 d4 d5)) H) (hD : va_D A ((h0, .inr (4, [.ref qT, .ref qN, .ref qE, .ref qR, .int 0])) :: (((nw_T cy qT a1 a2 a3 a4 a5 a6 a7 a8 ++ nw_N cy qN b1 b2 b3 b4) ++ nw_E cy qE c1 c2 c3 c4 c5 c6) ++ nw_R cy qR d1 d2 d3 d4 d5))) : va_P D cl_all (wl 52 (ad_S h0 qT a1 a2 a3 a4 a5 a6 a7 a8 qN b1 b2 b3 b4 qE c1 c2 c3 c4 c5 c6 qR d1 d2 d3 d4 d5) (g1 cy (ad_S h0 qT a1 a2 a3 a4 a5 a6 a7 a8 qN b1 b2 b3 b4 qE c1 c2 c3 c4 c5 c6 qR d1 d2 d3 d4 d5) zI)) H ∧ va_D A (wl 52 (ad_S h0 qT a1 a2 a3 a4 a5 a6 a7 a8 qN b1 b2 b3 b4 qE c1 c2 c3 c4 c5 c6 qR d1 d2 d3 d4 d5) (g1 cy (ad_S h0 qT a1 a2 a3 a4 a5 a6 a7 a8 qN b1 b2 b3 b4 qE c1 c2 c3 c4 c5 c6 qR d1 d2 d3 d4 d5) zI)) := by
  have hg : ∀ (k : Nat) (q : Nat × va_E), (wl 52 (ad_S h0 qT a1 a2 a3 a4 a5 a6 a7 a8 qN b1 b2 b3 b4 qE c1 c2 c3 c4 c5 c6 qR d1 d2 d3 d4 d5) (g1 cy (ad_S h0 qT a1 a2 a3 a4 a5 a6 a7 a8 qN b1 b2 b3 b4 qE c1 c2 c3 c4 c5 c6 qR d1 d2 d3 d4 d5) zI))[k]? = some q → (((h0, .inr (4, [.ref qT, .ref qN, .ref qE, .ref qR, .int 0])) :: (((nw_T cy qT a1 a2 a3 a4 a5 a6 a7 a8 ++ nw_N cy qN b1 b2 b3 b4) ++ nw_E cy qE c1 c2 c3 c4 c5 c6) ++ nw_R cy qR d1 d2 d3 d4 d5)) : va_W)[gm_S.getD k 0]? = some q := by
    intro k q h
    obtain ⟨hk, rfl⟩ := wl_at h
    exact gm_at cy h0 qT a1 a2 a3 a4 a5 a6 a7 a8 qN b1 b2 b3 b4 qE c1 c2 c3 c4 c5 c6 qR d1 d2 d3 d4 d5 k hk
  exact ⟨hP.by _ hg, hD.by _ hg (fun i j hi hj h => gm_inj i (by rw [wl_len] at hi; exact hi) j (by rw [wl_len] at hj; exact hj) h)⟩
set_option maxHeartbeats 4000000 in
set_option maxRecDepth 100000 in
theorem m_S_init (l : Launch) (D : va_G) (cy : Nat → ClassId) (h0 sz : Nat) : Met l y_S_init (Cond.code y_S_init c_S_init 1 none :: gt_ws) ({ frames := 2, cells := 51, slots := 480, locals := 90 }) (va_Pc [.ref h0] (fun U => U.heap.size = sz ∧ va_P D cl_all [(h0, .inr (4, [.null, .null, .null, .null, .int 0]))] U.heap ∧ va_K D cl_all (gTy cy) U ∧ nwS U ∧ va_D (fun _ => True) [(h0, .inr (4, [.null, .null, .null, .null, .int 0]))])) (va_Qv (fun (ad : Nat → Nat) => ad 0 = h0) (fun ad t => va_P D cl_all (wl 52 ad (g1 cy ad zI)) t.heap ∧ va_D (va_A [(h0, .inr (4, [.null, .null, .null, .null, .int 0]))] sz) (wl 52 ad (g1 cy ad zI))) (va_A [(h0, .inr (4, [.null, .null, .null, .null, .int 0]))] sz)) 51 480 (va_A [(h0, .inr (4, [.null, .null, .null, .null, .int 0]))] sz) := by
  refine Met.ofW (cc := c_S_init) (maxL := 1) (ret := none) (by decide) rfl ?_
  intro p e s m args below meth c s₁ B hml hv
  obtain ⟨rfl, hsz, hP, hK, hN, hD0⟩ := hv
  have hx := B.exec
  have hb := B.bytes
  have hr := B.returns
  have hts := atoms_spec (ws := (Cond.code y_S_init c_S_init 1 none :: gt_ws)) B.pre
  have ht : ∀ w ∈ gt_ws, w.before _ s = true := fun w h => hts w (List.mem_cons_of_mem _ h)
  have hown : s.vm.findClass RQ_S = some m.cls := findClass_of_methodNamed B.named
  have hlocks := B.notSynchronized
  have hin : meth.name = "<init>" := (name_of_methodNamed B.named B.method).1
  subst hsz
  have hD := hD0.self (sz := s.heap.size)
  obtain ⟨A, hAe⟩ : ∃ A, A = va_A [(h0, .inr (4, [.null, .null, .null, .null, .int 0]))] s.heap.size := ⟨_, rfl⟩
  rw [← hAe] at hD
  have hA : ∀ q : Nat, s.heap.size ≤ q → A q := fun q h => by rw [hAe]; exact Or.inr h
  have hS : va_S A s.heap s.heap [] := va_S.rf
  have hl := lv_entry ([.ref h0]) (n := 1) (Nat.le_of_ble_eq_true rfl)
  rw [lg_entry_eq]
  generalize (lg_sl ([.ref h0]) ++ List.replicate (1 - (lg_sl ([.ref h0])).length) Slot.unset).toArray = ls at hl ⊢
  have hl : lv_has ls 1 [(0, .ref h0)] := hl
  refine lv_aload_n hx hb d_S_init_0 rfl (lv_at hl 0 rfl) ?_
  refine W.objInit hx hb hown (ht _ kw_62) (ht _ kw_63) (ht _ kw_64) rfl (by rw [hml]; exact hl.1) rfl d_S_init_1 (Nat.le_of_ble_eq_true rfl) (Nat.le_of_ble_eq_true rfl) ?_
  refine W.eq (g2 := F0 m 4 ls []) rfl ?_
  refine lv_aload_n hx hb d_S_init_4 rfl (lv_at hl 0 rfl) ?_
  refine va_new (ci := 3) (fs := [.int 0, .null, .null, .null, .null, .int 0, .null, .null, .null, .null]) (C := RQ_T) (T := FQ_T) (N := 10) hx hb ht IQ_T TQ_T TQ_T_ok hown (ht _ kw_65) (ht _ kw_66) (ht _ kw_48) hK hP hD hS hA rfl (fun j hj => by match j, hj with | 0, _ => rfl | 1, _ => rfl | 2, _ => rfl | 3, _ => rfl | 4, _ => rfl | 5, _ => rfl | 6, _ => rfl | 7, _ => rfl | 8, _ => rfl | 9, _ => rfl) (Nat.le_of_ble_eq_true rfl) (Nat.le_of_ble_eq_true rfl) d_S_init_5 (fun qT H hP hD hS => ?_)
  have hP : va_P D cl_all (((h0, .inr (4, [.null, .null, .null, .null, .int 0])) :: ([] : va_W)) ++ [(qT, .inr (3, [.int 0, .null, .null, .null, .null, .int 0, .null, .null, .null, .null]))]) H := hP
  have hD : va_D A (((h0, .inr (4, [.null, .null, .null, .null, .int 0])) :: ([] : va_W)) ++ [(qT, .inr (3, [.int 0, .null, .null, .null, .null, .int 0, .null, .null, .null, .null]))]) := hD
  refine W.widen (k := 1) (n := 10) (by omega) (by omega) ?_
  refine lv_dup hx hb d_S_init_8 rfl ?_
  have hFc := fr_A hD hS hA
  refine va_callv (va_runIN (As := []) (rest := [.ref qT, .ref h0]) ⟨hx, hb, hml, hown, ht⟩ (m_T_init l D cy qT H.size) ⟨va_cnB 0 ht (gt_in (fun _ h9 => h9) kw_69) rfl rfl rfl hN.2.1 (ht _ kw_48) (by decide +kernel) ⟨Nat.le_of_ble_eq_true rfl, Nat.le_of_ble_eq_true rfl⟩, rfl, ht _ kw_68⟩ ⟨fun a U g mk q => by obtain ⟨q0, q1, qP, qK, qN, qD⟩ := q; exact ⟨q0, q1, qP, va_K.moved (u := U) (U := U.calling g mk a) (Vm.Alike.refl U.vm) qK, nwI_ok.2 U _ rfl qN, qD⟩, fun U hU hW => ⟨rfl, by rw [hU], by rw [hU]; exact fr_r hP, va_K.moved hW.alike hK, nwI_ok.1 s U hW hN.1, (fr_rD hD).weaken (fun _ _ _ _ => trivial)⟩⟩ rfl rfl hl.1 rfl (lv_room (Nat.le_of_ble_eq_true rfl)) d_S_init_9 ⟨Nat.le_of_ble_eq_true rfl, Nat.le_of_ble_eq_true rfl⟩) hS (fun q _ h => hFc q h) hFc (fun u t H1 locs ht9 hvm hw hB hz1 hk1 hS => ?_)
  obtain ⟨a1, a2, a3, a4, a5, a6, a7, a8⟩ := u
  obtain ⟨hP1, hD1⟩ := hB
  rw [ht9] at hP1
  obtain ⟨hP, hD⟩ := fr_join hP hD hk1 hFc hP1 hD1
  generalize H1 = H at hP hS ⊢
  have hP : va_P D cl_all ((h0, .inr (4, [.null, .null, .null, .null, .int 0])) :: nw_T cy qT a1 a2 a3 a4 a5 a6 a7 a8) H := hP
  have hD : va_D A ((h0, .inr (4, [.null, .null, .null, .null, .int 0])) :: nw_T cy qT a1 a2 a3 a4 a5 a6 a7 a8) := hD
  refine W.widen (k := 13) (n := 124) (by omega) (by omega) ?_
  refine va_putF (D := D) (ci := 4) (v := .ref qT) (ty := .object "TrussSolver$Truss") (C := RQ_S) (T := FQ_S) (N := 5) hx hb ht IQ_S TQ_S TQ_S_ok NQ_S hown hK hP hD hS 0 rfl rfl 0 (by decide) (ht _ kw_217) (fun _ h9 => h9) rfl hin rfl (by decide +kernel) rfl rfl (Nat.le_of_ble_eq_true rfl) d_S_init_12 (fun H locs hP hD hS => ?_)
  have hP : va_P D cl_all ((h0, .inr (4, [.ref qT, .null, .null, .null, .int 0])) :: nw_T cy qT a1 a2 a3 a4 a5 a6 a7 a8) H := hP
  have hD : va_D A ((h0, .inr (4, [.ref qT, .null, .null, .null, .int 0])) :: nw_T cy qT a1 a2 a3 a4 a5 a6 a7 a8) := hD
  refine lv_aload_n hx hb d_S_init_15 rfl (lv_at hl 0 rfl) ?_
  refine va_new (ci := 1) (fs := [.null, .int 0, .int 0, .null, .null, .null, .int 0]) (C := RQ_N) (T := FQ_N) (N := 7) hx hb ht IQ_N TQ_N TQ_N_ok hown (ht _ kw_123) (ht _ kw_124) (ht _ kw_49) hK hP hD hS hA rfl (fun j hj => by match j, hj with | 0, _ => rfl | 1, _ => rfl | 2, _ => rfl | 3, _ => rfl | 4, _ => rfl | 5, _ => rfl | 6, _ => rfl) (Nat.le_of_ble_eq_true rfl) (Nat.le_of_ble_eq_true rfl) d_S_init_16 (fun qN H hP hD hS => ?_)
  have hP : va_P D cl_all (((h0, .inr (4, [.ref qT, .null, .null, .null, .int 0])) :: nw_T cy qT a1 a2 a3 a4 a5 a6 a7 a8) ++ [(qN, .inr (1, [.null, .int 0, .int 0, .null, .null, .null, .int 0]))]) H := hP
  have hD : va_D A (((h0, .inr (4, [.ref qT, .null, .null, .null, .int 0])) :: nw_T cy qT a1 a2 a3 a4 a5 a6 a7 a8) ++ [(qN, .inr (1, [.null, .int 0, .int 0, .null, .null, .null, .int 0]))]) := hD
  refine W.widen (k := 14) (n := 131) (by omega) (by omega) ?_
  refine lv_dup hx hb d_S_init_19 rfl ?_
  have hFc := fr_A hD hS hA
  refine va_callv (va_runIN (As := []) (rest := [.ref qN, .ref h0]) ⟨hx, hb, hml, hown, ht⟩ (m_N_init l D cy qN H.size) ⟨va_cnB 0 ht (gt_in (fun _ h9 => h9) kw_127) rfl rfl rfl hN.2.2.1 (ht _ kw_49) (by decide +kernel) ⟨Nat.le_of_ble_eq_true rfl, Nat.le_of_ble_eq_true rfl⟩, rfl, ht _ kw_126⟩ ⟨fun a U g mk q => by obtain ⟨q0, q1, qP, qK, qN, qD⟩ := q; exact ⟨q0, q1, qP, va_K.moved (u := U) (U := U.calling g mk a) (Vm.Alike.refl U.vm) qK, nwI_ok.2 U _ rfl qN, qD⟩, fun U hU hW => ⟨rfl, by rw [hU], by rw [hU]; exact fr_r hP, va_K.moved hW.alike hK, nwI_ok.1 s U hW hN.1, (fr_rD hD).weaken (fun _ _ _ _ => trivial)⟩⟩ rfl rfl hl.1 rfl (lv_room (Nat.le_of_ble_eq_true rfl)) d_S_init_20 ⟨Nat.le_of_ble_eq_true rfl, Nat.le_of_ble_eq_true rfl⟩) hS (fun q _ h => hFc q h) hFc (fun u t H1 locs ht9 hvm hw hB hz1 hk1 hS => ?_)
  obtain ⟨b1, b2, b3, b4⟩ := u
  obtain ⟨hP1, hD1⟩ := hB
  rw [ht9] at hP1
  obtain ⟨hP, hD⟩ := fr_join hP hD hk1 hFc hP1 hD1
  generalize H1 = H at hP hS ⊢
  have hP : va_P D cl_all ((h0, .inr (4, [.ref qT, .null, .null, .null, .int 0])) :: (nw_T cy qT a1 a2 a3 a4 a5 a6 a7 a8 ++ nw_N cy qN b1 b2 b3 b4)) H := hP
  have hD : va_D A ((h0, .inr (4, [.ref qT, .null, .null, .null, .int 0])) :: (nw_T cy qT a1 a2 a3 a4 a5 a6 a7 a8 ++ nw_N cy qN b1 b2 b3 b4)) := hD
  refine W.widen (k := 18) (n := 161) (by omega) (by omega) ?_
  refine va_putF (D := D) (ci := 4) (v := .ref qN) (ty := .object "TrussSolver$Numbering") (C := RQ_S) (T := FQ_S) (N := 5) hx hb ht IQ_S TQ_S TQ_S_ok NQ_S hown hK hP hD hS 0 rfl rfl 1 (by decide) (ht _ kw_218) (fun _ h9 => h9) rfl hin rfl (by decide +kernel) rfl rfl (Nat.le_of_ble_eq_true rfl) d_S_init_23 (fun H locs hP hD hS => ?_)
  have hP : va_P D cl_all ((h0, .inr (4, [.ref qT, .ref qN, .null, .null, .int 0])) :: (nw_T cy qT a1 a2 a3 a4 a5 a6 a7 a8 ++ nw_N cy qN b1 b2 b3 b4)) H := hP
  have hD : va_D A ((h0, .inr (4, [.ref qT, .ref qN, .null, .null, .int 0])) :: (nw_T cy qT a1 a2 a3 a4 a5 a6 a7 a8 ++ nw_N cy qN b1 b2 b3 b4)) := hD
  refine lv_aload_n hx hb d_S_init_26 rfl (lv_at hl 0 rfl) ?_
  refine va_new (ci := 0) (fs := [.null, .null, .int 0, .null, .null, .null, .null]) (C := RQ_E) (T := FQ_E) (N := 7) hx hb ht IQ_E TQ_E TQ_E_ok hown (ht _ kw_159) (ht _ kw_160) (ht _ kw_50) hK hP hD hS hA rfl (fun j hj => by match j, hj with | 0, _ => rfl | 1, _ => rfl | 2, _ => rfl | 3, _ => rfl | 4, _ => rfl | 5, _ => rfl | 6, _ => rfl) (Nat.le_of_ble_eq_true rfl) (Nat.le_of_ble_eq_true rfl) d_S_init_27 (fun qE H hP hD hS => ?_)
  have hP : va_P D cl_all (((h0, .inr (4, [.ref qT, .ref qN, .null, .null, .int 0])) :: (nw_T cy qT a1 a2 a3 a4 a5 a6 a7 a8 ++ nw_N cy qN b1 b2 b3 b4)) ++ [(qE, .inr (0, [.null, .null, .int 0, .null, .null, .null, .null]))]) H := hP
  have hD : va_D A (((h0, .inr (4, [.ref qT, .ref qN, .null, .null, .int 0])) :: (nw_T cy qT a1 a2 a3 a4 a5 a6 a7 a8 ++ nw_N cy qN b1 b2 b3 b4)) ++ [(qE, .inr (0, [.null, .null, .int 0, .null, .null, .null, .null]))]) := hD
  refine W.widen (k := 19) (n := 168) (by omega) (by omega) ?_
  refine lv_dup hx hb d_S_init_30 rfl ?_
  have hFc := fr_A hD hS hA
  refine va_callv (va_runIN (As := []) (rest := [.ref qE, .ref h0]) ⟨hx, hb, hml, hown, ht⟩ (m_E_init l D cy qE H.size) ⟨va_cnB 0 ht (gt_in (fun _ h9 => h9) kw_163) rfl rfl rfl hN.2.2.2.1 (ht _ kw_50) (by decide +kernel) ⟨Nat.le_of_ble_eq_true rfl, Nat.le_of_ble_eq_true rfl⟩, rfl, ht _ kw_162⟩ ⟨fun a U g mk q => by obtain ⟨q0, q1, qP, qK, qN, qD⟩ := q; exact ⟨q0, q1, qP, va_K.moved (u := U) (U := U.calling g mk a) (Vm.Alike.refl U.vm) qK, nwI_ok.2 U _ rfl qN, qD⟩, fun U hU hW => ⟨rfl, by rw [hU], by rw [hU]; exact fr_r hP, va_K.moved hW.alike hK, nwI_ok.1 s U hW hN.1, (fr_rD hD).weaken (fun _ _ _ _ => trivial)⟩⟩ rfl rfl hl.1 rfl (lv_room (Nat.le_of_ble_eq_true rfl)) d_S_init_31 ⟨Nat.le_of_ble_eq_true rfl, Nat.le_of_ble_eq_true rfl⟩) hS (fun q _ h => hFc q h) hFc (fun u t H1 locs ht9 hvm hw hB hz1 hk1 hS => ?_)
  obtain ⟨c1, c2, c3, c4, c5, c6⟩ := u
  obtain ⟨hP1, hD1⟩ := hB
  rw [ht9] at hP1
  obtain ⟨hP, hD⟩ := fr_join hP hD hk1 hFc hP1 hD1
  generalize H1 = H at hP hS ⊢
  have hP : va_P D cl_all ((h0, .inr (4, [.ref qT, .ref qN, .null, .null, .int 0])) :: ((nw_T cy qT a1 a2 a3 a4 a5 a6 a7 a8 ++ nw_N cy qN b1 b2 b3 b4) ++ nw_E cy qE c1 c2 c3 c4 c5 c6)) H := hP
  have hD : va_D A ((h0, .inr (4, [.ref qT, .ref qN, .null, .null, .int 0])) :: ((nw_T cy qT a1 a2 a3 a4 a5 a6 a7 a8 ++ nw_N cy qN b1 b2 b3 b4) ++ nw_E cy qE c1 c2 c3 c4 c5 c6)) := hD
  refine W.widen (k := 45) (n := 430) (by omega) (by omega) ?_
  refine va_putF (D := D) (ci := 4) (v := .ref qE) (ty := .object "TrussSolver$Equations") (C := RQ_S) (T := FQ_S) (N := 5) hx hb ht IQ_S TQ_S TQ_S_ok NQ_S hown hK hP hD hS 0 rfl rfl 2 (by decide) (ht _ kw_219) (fun _ h9 => h9) rfl hin rfl (by decide +kernel) rfl rfl (Nat.le_of_ble_eq_true rfl) d_S_init_34 (fun H locs hP hD hS => ?_)
  have hP : va_P D cl_all ((h0, .inr (4, [.ref qT, .ref qN, .ref qE, .null, .int 0])) :: ((nw_T cy qT a1 a2 a3 a4 a5 a6 a7 a8 ++ nw_N cy qN b1 b2 b3 b4) ++ nw_E cy qE c1 c2 c3 c4 c5 c6)) H := hP
  have hD : va_D A ((h0, .inr (4, [.ref qT, .ref qN, .ref qE, .null, .int 0])) :: ((nw_T cy qT a1 a2 a3 a4 a5 a6 a7 a8 ++ nw_N cy qN b1 b2 b3 b4) ++ nw_E cy qE c1 c2 c3 c4 c5 c6)) := hD
  refine lv_aload_n hx hb d_S_init_37 rfl (lv_at hl 0 rfl) ?_
  refine va_new (ci := 2) (fs := [.null, .null, .null, .null, .null, .long 0]) (C := RQ_R) (T := FQ_R) (N := 6) hx hb ht IQ_R TQ_R TQ_R_ok hown (ht _ kw_191) (ht _ kw_192) (ht _ kw_51) hK hP hD hS hA rfl (fun j hj => by match j, hj with | 0, _ => rfl | 1, _ => rfl | 2, _ => rfl | 3, _ => rfl | 4, _ => rfl | 5, _ => rfl) (Nat.le_of_ble_eq_true rfl) (Nat.le_of_ble_eq_true rfl) d_S_init_38 (fun qR H hP hD hS => ?_)
  have hP : va_P D cl_all (((h0, .inr (4, [.ref qT, .ref qN, .ref qE, .null, .int 0])) :: ((nw_T cy qT a1 a2 a3 a4 a5 a6 a7 a8 ++ nw_N cy qN b1 b2 b3 b4) ++ nw_E cy qE c1 c2 c3 c4 c5 c6)) ++ [(qR, .inr (2, [.null, .null, .null, .null, .null, .long 0]))]) H := hP
  have hD : va_D A (((h0, .inr (4, [.ref qT, .ref qN, .ref qE, .null, .int 0])) :: ((nw_T cy qT a1 a2 a3 a4 a5 a6 a7 a8 ++ nw_N cy qN b1 b2 b3 b4) ++ nw_E cy qE c1 c2 c3 c4 c5 c6)) ++ [(qR, .inr (2, [.null, .null, .null, .null, .null, .long 0]))]) := hD
  refine W.widen (k := 46) (n := 436) (by omega) (by omega) ?_
  refine lv_dup hx hb d_S_init_41 rfl ?_
  have hFc := fr_A hD hS hA
  refine va_callv (va_runIN (As := []) (rest := [.ref qR, .ref h0]) ⟨hx, hb, hml, hown, ht⟩ (m_R_init l D cy qR H.size) ⟨va_cnB 0 ht (gt_in (fun _ h9 => h9) kw_195) rfl rfl rfl hN.2.2.2.2 (ht _ kw_51) (by decide +kernel) ⟨Nat.le_of_ble_eq_true rfl, Nat.le_of_ble_eq_true rfl⟩, rfl, ht _ kw_194⟩ ⟨fun a U g mk q => by obtain ⟨q0, q1, qP, qK, qN, qD⟩ := q; exact ⟨q0, q1, qP, va_K.moved (u := U) (U := U.calling g mk a) (Vm.Alike.refl U.vm) qK, nwI_ok.2 U _ rfl qN, qD⟩, fun U hU hW => ⟨rfl, by rw [hU], by rw [hU]; exact fr_r hP, va_K.moved hW.alike hK, nwI_ok.1 s U hW hN.1, (fr_rD hD).weaken (fun _ _ _ _ => trivial)⟩⟩ rfl rfl hl.1 rfl (lv_room (Nat.le_of_ble_eq_true rfl)) d_S_init_42 ⟨Nat.le_of_ble_eq_true rfl, Nat.le_of_ble_eq_true rfl⟩) hS (fun q _ h => hFc q h) hFc (fun u t H1 locs ht9 hvm hw hB hz1 hk1 hS => ?_)
  obtain ⟨d1, d2, d3, d4, d5⟩ := u
  obtain ⟨hP1, hD1⟩ := hB
  rw [ht9] at hP1
  obtain ⟨hP, hD⟩ := fr_join hP hD hk1 hFc hP1 hD1
  generalize H1 = H at hP hS ⊢
  have hP : va_P D cl_all ((h0, .inr (4, [.ref qT, .ref qN, .ref qE, .null, .int 0])) :: (((nw_T cy qT a1 a2 a3 a4 a5 a6 a7 a8 ++ nw_N cy qN b1 b2 b3 b4) ++ nw_E cy qE c1 c2 c3 c4 c5 c6) ++ nw_R cy qR d1 d2 d3 d4 d5)) H := hP
  have hD : va_D A ((h0, .inr (4, [.ref qT, .ref qN, .ref qE, .null, .int 0])) :: (((nw_T cy qT a1 a2 a3 a4 a5 a6 a7 a8 ++ nw_N cy qN b1 b2 b3 b4) ++ nw_E cy qE c1 c2 c3 c4 c5 c6) ++ nw_R cy qR d1 d2 d3 d4 d5)) := hD
  refine W.widen (k := 51) (n := 480) (by omega) (by omega) ?_
  refine va_putF (D := D) (ci := 4) (v := .ref qR) (ty := .object "TrussSolver$Response") (C := RQ_S) (T := FQ_S) (N := 5) hx hb ht IQ_S TQ_S TQ_S_ok NQ_S hown hK hP hD hS 0 rfl rfl 3 (by decide) (ht _ kw_220) (fun _ h9 => h9) rfl hin rfl (by decide +kernel) rfl rfl (Nat.le_of_ble_eq_true rfl) d_S_init_45 (fun H locs hP hD hS => ?_)
  have hP : va_P D cl_all ((h0, .inr (4, [.ref qT, .ref qN, .ref qE, .ref qR, .int 0])) :: (((nw_T cy qT a1 a2 a3 a4 a5 a6 a7 a8 ++ nw_N cy qN b1 b2 b3 b4) ++ nw_E cy qE c1 c2 c3 c4 c5 c6) ++ nw_R cy qR d1 d2 d3 d4 d5)) H := hP
  have hD : va_D A ((h0, .inr (4, [.ref qT, .ref qN, .ref qE, .ref qR, .int 0])) :: (((nw_T cy qT a1 a2 a3 a4 a5 a6 a7 a8 ++ nw_N cy qN b1 b2 b3 b4) ++ nw_E cy qE c1 c2 c3 c4 c5 c6) ++ nw_R cy qR d1 d2 d3 d4 d5)) := hD
  refine lv_aload_n hx hb d_S_init_48 rfl (lv_at hl 0 rfl) ?_
  refine lv_iconst (v := 0) hx hb d_S_init_49 (by decide) ?_
  refine va_put (D := D) (ci := 4) (v := .int 0) (ty := .boolean) (C := RQ_S) (T := FQ_S) (N := 5) hx hb ht IQ_S TQ_S TQ_S_ok NQ_S hown hK hP hD hS 0 rfl rfl 4 (by decide) (ht _ kw_221) (fun _ h9 => h9) rfl (by decide +kernel) rfl rfl (Nat.le_of_ble_eq_true rfl) d_S_init_50 (fun H locs hP hD hS => ?_)
  have hP : va_P D cl_all ((h0, .inr (4, [.ref qT, .ref qN, .ref qE, .ref qR, .int 0])) :: (((nw_T cy qT a1 a2 a3 a4 a5 a6 a7 a8 ++ nw_N cy qN b1 b2 b3 b4) ++ nw_E cy qE c1 c2 c3 c4 c5 c6) ++ nw_R cy qR d1 d2 d3 d4 d5)) H := hP
  have hD : va_D A ((h0, .inr (4, [.ref qT, .ref qN, .ref qE, .ref qR, .int 0])) :: (((nw_T cy qT a1 a2 a3 a4 a5 a6 a7 a8 ++ nw_N cy qN b1 b2 b3 b4) ++ nw_E cy qE c1 c2 c3 c4 c5 c6) ++ nw_R cy qR d1 d2 d3 d4 d5)) := hD
  obtain ⟨hPf, hDf⟩ := st_S hP hD
  exact W.vret hx hb hr (fun t ht9 hW => ⟨⟨ad_S h0 qT a1 a2 a3 a4 a5 a6 a7 a8 qN b1 b2 b3 b4 qE c1 c2 c3 c4 c5 c6 qR d1 d2 d3 d4 d5, rfl, rfl, by show va_P D cl_all (wl 52 (ad_S h0 qT a1 a2 a3 a4 a5 a6 a7 a8 qN b1 b2 b3 b4 qE c1 c2 c3 c4 c5 c6 qR d1 d2 d3 d4 d5) (g1 cy (ad_S h0 qT a1 a2 a3 a4 a5 a6 a7 a8 qN b1 b2 b3 b4 qE c1 c2 c3 c4 c5 c6 qR d1 d2 d3 d4 d5) zI)) t.heap; rw [ht9]; exact hPf, by rw [hAe] at hDf; exact hDf⟩, by rw [hAe] at hS; exact hS.F ht9⟩) (by rw [hAe] at hS; exact hS.2.2) d_S_init_53
def ad_M (h0 q1 q2 q3 q4 q5 q6 q7 q8 q9 q10 q11 q12 q13 q14 q15 : Nat) : Nat → Nat := fun k => match k with
  | 0 => h0
  | 1 => q1
  | 2 => q2
  | 3 => q3
  | 4 => q4
  | 5 => q5
  | 6 => q6
  | 7 => q7
  | 8 => q8
  | 9 => q9
  | 10 => q10
  | 11 => q11
  | 12 => q12
  | 13 => q13
  | 14 => q14
  | _ => q15
set_option maxHeartbeats 4000000 in
set_option maxRecDepth 100000 in
theorem st_M {D : va_G} {cy : Nat → ClassId} {h0 q1 q2 q3 q4 q5 q6 q7 q8 q9 q10 q11 q12 q13 q14 q15 : Nat} {A : Nat → Prop} {H : Heap} (hP : va_P D cl_all (nw_M cy h0 q1 q2 q3 q4 q5 q6 q7 q8 q9 q10 q11 q12 q13 q14 q15) H) (hD : va_D A (nw_M cy h0 q1 q2 q3 q4 q5 q6 q7 q8 q9 q10 q11 q12 q13 q14 q15)) : va_P D cl_all (wl 16 (ad_M h0 q1 q2 q3 q4 q5 q6 q7 q8 q9 q10 q11 q12 q13 q14 q15) (g2 cy (ad_M h0 q1 q2 q3 q4 q5 q6 q7 q8 q9 q10 q11 q12 q13 q14 q15) zJ)) H ∧ va_D A (wl 16 (ad_M h0 q1 q2 q3 q4 q5 q6 q7 q8 q9 q10 q11 q12 q13 q14 q15) (g2 cy (ad_M h0 q1 q2 q3 q4 q5 q6 q7 q8 q9 q10 q11 q12 q13 q14 q15) zJ)) := by
  have e : wl 16 (ad_M h0 q1 q2 q3 q4 q5 q6 q7 q8 q9 q10 q11 q12 q13 q14 q15) (g2 cy (ad_M h0 q1 q2 q3 q4 q5 q6 q7 q8 q9 q10 q11 q12 q13 q14 q15) zJ) = nw_M cy h0 q1 q2 q3 q4 q5 q6 q7 q8 q9 q10 q11 q12 q13 q14 q15 := rfl
  rw [e]
  exact ⟨hP, hD⟩
end
