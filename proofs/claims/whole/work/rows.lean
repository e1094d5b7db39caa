section
-- ===== PART A: goes FIRST, ahead of the names: the tables' words, and 'selects' of the private methods out of them =====
/-- a private method of a class that the tables say can be made, by its rows of tables_1 -/
def lw_okq (q : MethodName × Nat) : Prop := (q.1.cls ≠ "java/lang/invoke/MethodHandle" ∧ q.1.cls ≠ "java/lang/invoke/VarHandle") ∧ Cond.instantiable q.1.cls q.2 ∈ tables_1 ∧ Cond.privateMethod q.1 ∈ tables_1 ∧ Cond.instanceMethod q.1 ∈ tables_1
theorem lw_p0 : lw_okq (⟨"TrussSolver", "isBarThere", "(I)Z"⟩, 5) := ⟨⟨by decide +kernel, by decide +kernel⟩, List.mem_of_getElem? (i := 12) (by decide +kernel), List.mem_of_getElem? (i := 225) (by decide +kernel), List.mem_of_getElem? (i := 226) (by decide +kernel)⟩
theorem lw_p1 : lw_okq (⟨"TrussSolver$Truss", "isGood", "(I)Z"⟩, 10) := ⟨⟨by decide +kernel, by decide +kernel⟩, List.mem_of_getElem? (i := 20) (by decide +kernel), List.mem_of_getElem? (i := 270) (by decide +kernel), List.mem_of_getElem? (i := 271) (by decide +kernel)⟩
theorem lw_p2 : lw_okq (⟨"TrussSolver$Truss", "reach", "(II)I"⟩, 10) := ⟨⟨by decide +kernel, by decide +kernel⟩, List.mem_of_getElem? (i := 20) (by decide +kernel), List.mem_of_getElem? (i := 274) (by decide +kernel), List.mem_of_getElem? (i := 275) (by decide +kernel)⟩
theorem lw_p3 : lw_okq (⟨"TrussSolver$Numbering", "findNeighbours", "(LTrussSolver$Truss;)V"⟩, 7) := ⟨⟨by decide +kernel, by decide +kernel⟩, List.mem_of_getElem? (i := 78) (by decide +kernel), List.mem_of_getElem? (i := 285) (by decide +kernel), List.mem_of_getElem? (i := 286) (by decide +kernel)⟩
theorem lw_p4 : lw_okq (⟨"TrussSolver$Numbering", "placeNodes", "(LTrussSolver$Truss;)V"⟩, 7) := ⟨⟨by decide +kernel, by decide +kernel⟩, List.mem_of_getElem? (i := 78) (by decide +kernel), List.mem_of_getElem? (i := 292) (by decide +kernel), List.mem_of_getElem? (i := 293) (by decide +kernel)⟩
theorem lw_p5 : lw_okq (⟨"TrussSolver$Numbering", "leastJoined", "(I)I"⟩, 7) := ⟨⟨by decide +kernel, by decide +kernel⟩, List.mem_of_getElem? (i := 78) (by decide +kernel), List.mem_of_getElem? (i := 297) (by decide +kernel), List.mem_of_getElem? (i := 298) (by decide +kernel)⟩
theorem lw_p6 : lw_okq (⟨"TrussSolver$Numbering", "append", "(I)V"⟩, 7) := ⟨⟨by decide +kernel, by decide +kernel⟩, List.mem_of_getElem? (i := 78) (by decide +kernel), List.mem_of_getElem? (i := 302) (by decide +kernel), List.mem_of_getElem? (i := 303) (by decide +kernel)⟩
theorem lw_p7 : lw_okq (⟨"TrussSolver$Numbering", "appendNeighboursOf", "(I)V"⟩, 7) := ⟨⟨by decide +kernel, by decide +kernel⟩, List.mem_of_getElem? (i := 78) (by decide +kernel), List.mem_of_getElem? (i := 306) (by decide +kernel), List.mem_of_getElem? (i := 307) (by decide +kernel)⟩
theorem lw_p8 : lw_okq (⟨"TrussSolver$Numbering", "turnRound", "()V"⟩, 7) := ⟨⟨by decide +kernel, by decide +kernel⟩, List.mem_of_getElem? (i := 78) (by decide +kernel), List.mem_of_getElem? (i := 310) (by decide +kernel), List.mem_of_getElem? (i := 311) (by decide +kernel)⟩
theorem lw_p9 : lw_okq (⟨"TrussSolver$Numbering", "numberSlots", "(LTrussSolver$Truss;)V"⟩, 7) := ⟨⟨by decide +kernel, by decide +kernel⟩, List.mem_of_getElem? (i := 78) (by decide +kernel), List.mem_of_getElem? (i := 314) (by decide +kernel), List.mem_of_getElem? (i := 315) (by decide +kernel)⟩
theorem lw_p10 : lw_okq (⟨"TrussSolver$Numbering", "numberSlot", "(ILTrussSolver$Truss;)V"⟩, 7) := ⟨⟨by decide +kernel, by decide +kernel⟩, List.mem_of_getElem? (i := 78) (by decide +kernel), List.mem_of_getElem? (i := 319) (by decide +kernel), List.mem_of_getElem? (i := 320) (by decide +kernel)⟩
theorem lw_p11 : lw_okq (⟨"TrussSolver$Equations", "sumUpStiffness", "(LTrussSolver$Truss;)V"⟩, 7) := ⟨⟨by decide +kernel, by decide +kernel⟩, List.mem_of_getElem? (i := 114) (by decide +kernel), List.mem_of_getElem? (i := 327) (by decide +kernel), List.mem_of_getElem? (i := 328) (by decide +kernel)⟩
theorem lw_p12 : lw_okq (⟨"TrussSolver$Equations", "addStiffnessOfBar", "(LTrussSolver$Truss;I)V"⟩, 7) := ⟨⟨by decide +kernel, by decide +kernel⟩, List.mem_of_getElem? (i := 114) (by decide +kernel), List.mem_of_getElem? (i := 334) (by decide +kernel), List.mem_of_getElem? (i := 335) (by decide +kernel)⟩
theorem lw_p13 : lw_okq (⟨"TrussSolver$Equations", "growPolynomial", "(I)V"⟩, 7) := ⟨⟨by decide +kernel, by decide +kernel⟩, List.mem_of_getElem? (i := 114) (by decide +kernel), List.mem_of_getElem? (i := 349) (by decide +kernel), List.mem_of_getElem? (i := 350) (by decide +kernel)⟩
theorem lw_p14 : lw_okq (⟨"TrussSolver$Equations", "findGrowth", "(I)V"⟩, 7) := ⟨⟨by decide +kernel, by decide +kernel⟩, List.mem_of_getElem? (i := 114) (by decide +kernel), List.mem_of_getElem? (i := 353) (by decide +kernel), List.mem_of_getElem? (i := 354) (by decide +kernel)⟩
theorem lw_p15 : lw_okq (⟨"TrussSolver$Equations", "rowTimes", "(I[JI)J"⟩, 7) := ⟨⟨by decide +kernel, by decide +kernel⟩, List.mem_of_getElem? (i := 114) (by decide +kernel), List.mem_of_getElem? (i := 357) (by decide +kernel), List.mem_of_getElem? (i := 358) (by decide +kernel)⟩
def lw_privs_1 : List (MethodName × Nat) := [(⟨"TrussSolver", "isBarThere", "(I)Z"⟩, 5), (⟨"TrussSolver$Truss", "isGood", "(I)Z"⟩, 10), (⟨"TrussSolver$Truss", "reach", "(II)I"⟩, 10), (⟨"TrussSolver$Numbering", "findNeighbours", "(LTrussSolver$Truss;)V"⟩, 7), (⟨"TrussSolver$Numbering", "placeNodes", "(LTrussSolver$Truss;)V"⟩, 7), (⟨"TrussSolver$Numbering", "leastJoined", "(I)I"⟩, 7), (⟨"TrussSolver$Numbering", "append", "(I)V"⟩, 7), (⟨"TrussSolver$Numbering", "appendNeighboursOf", "(I)V"⟩, 7), (⟨"TrussSolver$Numbering", "turnRound", "()V"⟩, 7), (⟨"TrussSolver$Numbering", "numberSlots", "(LTrussSolver$Truss;)V"⟩, 7), (⟨"TrussSolver$Numbering", "numberSlot", "(ILTrussSolver$Truss;)V"⟩, 7), (⟨"TrussSolver$Equations", "sumUpStiffness", "(LTrussSolver$Truss;)V"⟩, 7), (⟨"TrussSolver$Equations", "addStiffnessOfBar", "(LTrussSolver$Truss;I)V"⟩, 7), (⟨"TrussSolver$Equations", "growPolynomial", "(I)V"⟩, 7), (⟨"TrussSolver$Equations", "findGrowth", "(I)V"⟩, 7), (⟨"TrussSolver$Equations", "rowTimes", "(I[JI)J"⟩, 7)]
theorem lw_r1 : ∀ q ∈ lw_privs_1, lw_okq q := List.forall_mem_cons.mpr ⟨lw_p0, List.forall_mem_cons.mpr ⟨lw_p1, List.forall_mem_cons.mpr ⟨lw_p2, List.forall_mem_cons.mpr ⟨lw_p3, List.forall_mem_cons.mpr ⟨lw_p4, List.forall_mem_cons.mpr ⟨lw_p5, List.forall_mem_cons.mpr ⟨lw_p6, List.forall_mem_cons.mpr ⟨lw_p7, List.forall_mem_cons.mpr ⟨lw_p8, List.forall_mem_cons.mpr ⟨lw_p9, List.forall_mem_cons.mpr ⟨lw_p10, List.forall_mem_cons.mpr ⟨lw_p11, List.forall_mem_cons.mpr ⟨lw_p12, List.forall_mem_cons.mpr ⟨lw_p13, List.forall_mem_cons.mpr ⟨lw_p14, List.forall_mem_cons.mpr ⟨lw_p15, fun _ h => absurd h List.not_mem_nil⟩⟩⟩⟩⟩⟩⟩⟩⟩⟩⟩⟩⟩⟩⟩⟩
theorem lw_p16 : lw_okq (⟨"TrussSolver$Equations", "multiply", "([JI)V"⟩, 7) := ⟨⟨by decide +kernel, by decide +kernel⟩, List.mem_of_getElem? (i := 114) (by decide +kernel), List.mem_of_getElem? (i := 361) (by decide +kernel), List.mem_of_getElem? (i := 362) (by decide +kernel)⟩
theorem lw_p17 : lw_okq (⟨"TrussSolver", "isAnswerable", "(III)Z"⟩, 5) := ⟨⟨by decide +kernel, by decide +kernel⟩, List.mem_of_getElem? (i := 12) (by decide +kernel), List.mem_of_getElem? (i := 376) (by decide +kernel), List.mem_of_getElem? (i := 377) (by decide +kernel)⟩
theorem lw_p18 : lw_okq (⟨"TrussSolver", "isNodeThere", "(I)Z"⟩, 5) := ⟨⟨by decide +kernel, by decide +kernel⟩, List.mem_of_getElem? (i := 12) (by decide +kernel), List.mem_of_getElem? (i := 380) (by decide +kernel), List.mem_of_getElem? (i := 381) (by decide +kernel)⟩
theorem lw_p19 : lw_okq (⟨"TrussSolver$Response", "sumUpLoads", "(LTrussSolver$Truss;)V"⟩, 6) := ⟨⟨by decide +kernel, by decide +kernel⟩, List.mem_of_getElem? (i := 146) (by decide +kernel), List.mem_of_getElem? (i := 401) (by decide +kernel), List.mem_of_getElem? (i := 402) (by decide +kernel)⟩
theorem lw_p20 : lw_okq (⟨"TrussSolver$Response", "moveHeldSlots", "(LTrussSolver$Truss;)V"⟩, 6) := ⟨⟨by decide +kernel, by decide +kernel⟩, List.mem_of_getElem? (i := 146) (by decide +kernel), List.mem_of_getElem? (i := 405) (by decide +kernel), List.mem_of_getElem? (i := 406) (by decide +kernel)⟩
theorem lw_p21 : lw_okq (⟨"TrussSolver$Response", "heldDisplacement", "(LTrussSolver$Truss;I)J"⟩, 6) := ⟨⟨by decide +kernel, by decide +kernel⟩, List.mem_of_getElem? (i := 146) (by decide +kernel), List.mem_of_getElem? (i := 409) (by decide +kernel), List.mem_of_getElem? (i := 410) (by decide +kernel)⟩
theorem lw_p22 : lw_okq (⟨"TrussSolver$Response", "findRightSide", "(LTrussSolver$Truss;LTrussSolver$Numbering;LTrussSolver$Equations;)V"⟩, 6) := ⟨⟨by decide +kernel, by decide +kernel⟩, List.mem_of_getElem? (i := 146) (by decide +kernel), List.mem_of_getElem? (i := 413) (by decide +kernel), List.mem_of_getElem? (i := 414) (by decide +kernel)⟩
theorem lw_p23 : lw_okq (⟨"TrussSolver", "partOfFraction", "(JI)J"⟩, 5) := ⟨⟨by decide +kernel, by decide +kernel⟩, List.mem_of_getElem? (i := 12) (by decide +kernel), List.mem_of_getElem? (i := 421) (by decide +kernel), List.mem_of_getElem? (i := 422) (by decide +kernel)⟩
theorem lw_p24 : lw_okq (⟨"TrussSolverModel", "off", "(II)Z"⟩, 21) := ⟨⟨by decide +kernel, by decide +kernel⟩, List.mem_of_getElem? (i := 477) (by decide +kernel), List.mem_of_getElem? (i := 551) (by decide +kernel), List.mem_of_getElem? (i := 552) (by decide +kernel)⟩
theorem lw_p25 : lw_okq (⟨"TrussSolverModel", "makeOrder", "()V"⟩, 21) := ⟨⟨by decide +kernel, by decide +kernel⟩, List.mem_of_getElem? (i := 477) (by decide +kernel), List.mem_of_getElem? (i := 579) (by decide +kernel), List.mem_of_getElem? (i := 580) (by decide +kernel)⟩
theorem lw_p26 : lw_okq (⟨"TrussSolverModel", "candidate", "(I)I"⟩, 21) := ⟨⟨by decide +kernel, by decide +kernel⟩, List.mem_of_getElem? (i := 477) (by decide +kernel), List.mem_of_getElem? (i := 583) (by decide +kernel), List.mem_of_getElem? (i := 584) (by decide +kernel)⟩
theorem lw_p27 : lw_okq (⟨"TrussSolverModel", "inOrder", "(I)Z"⟩, 21) := ⟨⟨by decide +kernel, by decide +kernel⟩, List.mem_of_getElem? (i := 477) (by decide +kernel), List.mem_of_getElem? (i := 587) (by decide +kernel), List.mem_of_getElem? (i := 588) (by decide +kernel)⟩
theorem lw_p28 : lw_okq (⟨"TrussSolverModel", "joined", "(II)Z"⟩, 21) := ⟨⟨by decide +kernel, by decide +kernel⟩, List.mem_of_getElem? (i := 477) (by decide +kernel), List.mem_of_getElem? (i := 591) (by decide +kernel), List.mem_of_getElem? (i := 592) (by decide +kernel)⟩
theorem lw_p29 : lw_okq (⟨"TrussSolverModel", "neighbours", "(I)I"⟩, 21) := ⟨⟨by decide +kernel, by decide +kernel⟩, List.mem_of_getElem? (i := 477) (by decide +kernel), List.mem_of_getElem? (i := 595) (by decide +kernel), List.mem_of_getElem? (i := 596) (by decide +kernel)⟩
theorem lw_p30 : lw_okq (⟨"TrussSolverModel", "append", "(I)V"⟩, 21) := ⟨⟨by decide +kernel, by decide +kernel⟩, List.mem_of_getElem? (i := 477) (by decide +kernel), List.mem_of_getElem? (i := 599) (by decide +kernel), List.mem_of_getElem? (i := 600) (by decide +kernel)⟩
theorem lw_p31 : lw_okq (⟨"TrussSolverModel", "good", "(I)Z"⟩, 21) := ⟨⟨by decide +kernel, by decide +kernel⟩, List.mem_of_getElem? (i := 477) (by decide +kernel), List.mem_of_getElem? (i := 603) (by decide +kernel), List.mem_of_getElem? (i := 604) (by decide +kernel)⟩
def lw_privs_2 : List (MethodName × Nat) := [(⟨"TrussSolver$Equations", "multiply", "([JI)V"⟩, 7), (⟨"TrussSolver", "isAnswerable", "(III)Z"⟩, 5), (⟨"TrussSolver", "isNodeThere", "(I)Z"⟩, 5), (⟨"TrussSolver$Response", "sumUpLoads", "(LTrussSolver$Truss;)V"⟩, 6), (⟨"TrussSolver$Response", "moveHeldSlots", "(LTrussSolver$Truss;)V"⟩, 6), (⟨"TrussSolver$Response", "heldDisplacement", "(LTrussSolver$Truss;I)J"⟩, 6), (⟨"TrussSolver$Response", "findRightSide", "(LTrussSolver$Truss;LTrussSolver$Numbering;LTrussSolver$Equations;)V"⟩, 6), (⟨"TrussSolver", "partOfFraction", "(JI)J"⟩, 5), (⟨"TrussSolverModel", "off", "(II)Z"⟩, 21), (⟨"TrussSolverModel", "makeOrder", "()V"⟩, 21), (⟨"TrussSolverModel", "candidate", "(I)I"⟩, 21), (⟨"TrussSolverModel", "inOrder", "(I)Z"⟩, 21), (⟨"TrussSolverModel", "joined", "(II)Z"⟩, 21), (⟨"TrussSolverModel", "neighbours", "(I)I"⟩, 21), (⟨"TrussSolverModel", "append", "(I)V"⟩, 21), (⟨"TrussSolverModel", "good", "(I)Z"⟩, 21)]
theorem lw_r2 : ∀ q ∈ lw_privs_2, lw_okq q := List.forall_mem_cons.mpr ⟨lw_p16, List.forall_mem_cons.mpr ⟨lw_p17, List.forall_mem_cons.mpr ⟨lw_p18, List.forall_mem_cons.mpr ⟨lw_p19, List.forall_mem_cons.mpr ⟨lw_p20, List.forall_mem_cons.mpr ⟨lw_p21, List.forall_mem_cons.mpr ⟨lw_p22, List.forall_mem_cons.mpr ⟨lw_p23, List.forall_mem_cons.mpr ⟨lw_p24, List.forall_mem_cons.mpr ⟨lw_p25, List.forall_mem_cons.mpr ⟨lw_p26, List.forall_mem_cons.mpr ⟨lw_p27, List.forall_mem_cons.mpr ⟨lw_p28, List.forall_mem_cons.mpr ⟨lw_p29, List.forall_mem_cons.mpr ⟨lw_p30, List.forall_mem_cons.mpr ⟨lw_p31, fun _ h => absurd h List.not_mem_nil⟩⟩⟩⟩⟩⟩⟩⟩⟩⟩⟩⟩⟩⟩⟩⟩
theorem lw_p32 : lw_okq (⟨"TrussSolverModel", "makeMatrix", "()V"⟩, 21) := ⟨⟨by decide +kernel, by decide +kernel⟩, List.mem_of_getElem? (i := 477) (by decide +kernel), List.mem_of_getElem? (i := 607) (by decide +kernel), List.mem_of_getElem? (i := 608) (by decide +kernel)⟩
theorem lw_p33 : lw_okq (⟨"TrussSolverModel", "way", "(II)I"⟩, 21) := ⟨⟨by decide +kernel, by decide +kernel⟩, List.mem_of_getElem? (i := 477) (by decide +kernel), List.mem_of_getElem? (i := 611) (by decide +kernel), List.mem_of_getElem? (i := 612) (by decide +kernel)⟩
theorem lw_p34 : lw_okq (⟨"TrussSolverModel", "sign", "(I)I"⟩, 21) := ⟨⟨by decide +kernel, by decide +kernel⟩, List.mem_of_getElem? (i := 477) (by decide +kernel), List.mem_of_getElem? (i := 615) (by decide +kernel), List.mem_of_getElem? (i := 616) (by decide +kernel)⟩
theorem lw_p35 : lw_okq (⟨"TrussSolverModel", "det", "(II)J"⟩, 21) := ⟨⟨by decide +kernel, by decide +kernel⟩, List.mem_of_getElem? (i := 477) (by decide +kernel), List.mem_of_getElem? (i := 619) (by decide +kernel), List.mem_of_getElem? (i := 620) (by decide +kernel)⟩
theorem lw_p36 : lw_okq (⟨"TrussSolverModel", "modulo", "(IIJ)J"⟩, 21) := ⟨⟨by decide +kernel, by decide +kernel⟩, List.mem_of_getElem? (i := 477) (by decide +kernel), List.mem_of_getElem? (i := 625) (by decide +kernel), List.mem_of_getElem? (i := 626) (by decide +kernel)⟩
theorem lw_p37 : lw_okq (⟨"TrussSolverModel", "exchange", "(II)V"⟩, 21) := ⟨⟨by decide +kernel, by decide +kernel⟩, List.mem_of_getElem? (i := 477) (by decide +kernel), List.mem_of_getElem? (i := 629) (by decide +kernel), List.mem_of_getElem? (i := 630) (by decide +kernel)⟩
theorem lw_p38 : lw_okq (⟨"TrussSolverModel", "clear", "(IIJ)V"⟩, 21) := ⟨⟨by decide +kernel, by decide +kernel⟩, List.mem_of_getElem? (i := 477) (by decide +kernel), List.mem_of_getElem? (i := 633) (by decide +kernel), List.mem_of_getElem? (i := 634) (by decide +kernel)⟩
theorem lw_p39 : lw_okq (⟨"TrussSolverModel", "powered", "(JJJ)J"⟩, 21) := ⟨⟨by decide +kernel, by decide +kernel⟩, List.mem_of_getElem? (i := 477) (by decide +kernel), List.mem_of_getElem? (i := 638) (by decide +kernel), List.mem_of_getElem? (i := 639) (by decide +kernel)⟩
theorem lw_p40 : lw_okq (⟨"TrussSolverModel", "moved", "(II)J"⟩, 21) := ⟨⟨by decide +kernel, by decide +kernel⟩, List.mem_of_getElem? (i := 477) (by decide +kernel), List.mem_of_getElem? (i := 655) (by decide +kernel), List.mem_of_getElem? (i := 656) (by decide +kernel)⟩
theorem lw_p41 : lw_okq (⟨"TrussSolverModel", "loadOf", "(II)J"⟩, 21) := ⟨⟨by decide +kernel, by decide +kernel⟩, List.mem_of_getElem? (i := 477) (by decide +kernel), List.mem_of_getElem? (i := 659) (by decide +kernel), List.mem_of_getElem? (i := 660) (by decide +kernel)⟩
theorem lw_p42 : lw_okq (⟨"TrussSolverModel", "fixedOf", "(II)J"⟩, 21) := ⟨⟨by decide +kernel, by decide +kernel⟩, List.mem_of_getElem? (i := 477) (by decide +kernel), List.mem_of_getElem? (i := 663) (by decide +kernel), List.mem_of_getElem? (i := 664) (by decide +kernel)⟩
theorem lw_p43 : lw_okq (⟨"TrussSolverModel", "fraction", "(JJI)J"⟩, 21) := ⟨⟨by decide +kernel, by decide +kernel⟩, List.mem_of_getElem? (i := 477) (by decide +kernel), List.mem_of_getElem? (i := 671) (by decide +kernel), List.mem_of_getElem? (i := 672) (by decide +kernel)⟩
theorem lw_p44 : lw_okq (⟨"TrussSolverModel", "pull", "(II)J"⟩, 21) := ⟨⟨by decide +kernel, by decide +kernel⟩, List.mem_of_getElem? (i := 477) (by decide +kernel), List.mem_of_getElem? (i := 680) (by decide +kernel), List.mem_of_getElem? (i := 681) (by decide +kernel)⟩
theorem lw_p45 : lw_okq (⟨"TrussSolverModel", "profile", "()I"⟩, 21) := ⟨⟨by decide +kernel, by decide +kernel⟩, List.mem_of_getElem? (i := 477) (by decide +kernel), List.mem_of_getElem? (i := 701) (by decide +kernel), List.mem_of_getElem? (i := 702) (by decide +kernel)⟩
def lw_privs_3 : List (MethodName × Nat) := [(⟨"TrussSolverModel", "makeMatrix", "()V"⟩, 21), (⟨"TrussSolverModel", "way", "(II)I"⟩, 21), (⟨"TrussSolverModel", "sign", "(I)I"⟩, 21), (⟨"TrussSolverModel", "det", "(II)J"⟩, 21), (⟨"TrussSolverModel", "modulo", "(IIJ)J"⟩, 21), (⟨"TrussSolverModel", "exchange", "(II)V"⟩, 21), (⟨"TrussSolverModel", "clear", "(IIJ)V"⟩, 21), (⟨"TrussSolverModel", "powered", "(JJJ)J"⟩, 21), (⟨"TrussSolverModel", "moved", "(II)J"⟩, 21), (⟨"TrussSolverModel", "loadOf", "(II)J"⟩, 21), (⟨"TrussSolverModel", "fixedOf", "(II)J"⟩, 21), (⟨"TrussSolverModel", "fraction", "(JJI)J"⟩, 21), (⟨"TrussSolverModel", "pull", "(II)J"⟩, 21), (⟨"TrussSolverModel", "profile", "()I"⟩, 21)]
theorem lw_r3 : ∀ q ∈ lw_privs_3, lw_okq q := List.forall_mem_cons.mpr ⟨lw_p32, List.forall_mem_cons.mpr ⟨lw_p33, List.forall_mem_cons.mpr ⟨lw_p34, List.forall_mem_cons.mpr ⟨lw_p35, List.forall_mem_cons.mpr ⟨lw_p36, List.forall_mem_cons.mpr ⟨lw_p37, List.forall_mem_cons.mpr ⟨lw_p38, List.forall_mem_cons.mpr ⟨lw_p39, List.forall_mem_cons.mpr ⟨lw_p40, List.forall_mem_cons.mpr ⟨lw_p41, List.forall_mem_cons.mpr ⟨lw_p42, List.forall_mem_cons.mpr ⟨lw_p43, List.forall_mem_cons.mpr ⟨lw_p44, List.forall_mem_cons.mpr ⟨lw_p45, fun _ h => absurd h List.not_mem_nil⟩⟩⟩⟩⟩⟩⟩⟩⟩⟩⟩⟩⟩⟩
def lw_privs : List (MethodName × Nat) := lw_privs_1 ++ (lw_privs_2 ++ (lw_privs_3))
def lw_tbl : List Cond := k2_sels lw_privs ++ tables_1
theorem lw_privs_ok : ∀ q ∈ lw_privs, lw_okq q := by
  show ∀ q ∈ lw_privs_1 ++ (lw_privs_2 ++ (lw_privs_3)), lw_okq q
  exact List.forall_mem_append.mpr ⟨lw_r1, List.forall_mem_append.mpr ⟨lw_r2, lw_r3⟩⟩
-- ===== end of PART A =====
theorem tb_len_1 : True := trivial
/-- the words of the table that last -/
def gt_ws : List Cond := lw_tbl.filter goodWord
theorem gt_of {w : Cond} (i : Nat) (h : lw_tbl[i]? = some w) (hg : goodWord w = true) : w ∈ gt_ws := List.mem_filter.mpr ⟨List.mem_of_getElem? h, hg⟩
theorem gt_lw {w : Cond} (h : w ∈ gt_ws) : w ∈ lw_tbl := (List.mem_filter.mp h).1
theorem gt_good {w : Cond} (h : w ∈ gt_ws) : (w.onTables && w.keeps) = true ∨ ∃ ty, w = .arrayClass ty := good_of_word (List.mem_filter.mp h).2
theorem gt_in {big : List Cond} {c : Cond} (hb : ∀ w ∈ gt_ws, w ∈ big) (hc : c ∈ gt_ws) : GoodIn big (c :: gt_ws) := fun w h => (List.mem_cons.mp h).elim (fun e => by subst e; exact ⟨hb _ hc, gt_good hc⟩) (fun h => ⟨hb _ h, gt_good h⟩)
end
section
def RQ_E : String := "TrussSolver$Equations"
def FQ_E : u_T := fun k => match k with
  | 0 => ("TrussSolver$Equations", "stiffness", "[[J", true)
  | 1 => ("TrussSolver$Equations", "matrix", "[[J", true)
  | 2 => ("TrussSolver$Equations", "size", "I", false)
  | 3 => ("TrussSolver$Equations", "polynomial", "[J", true)
  | 4 => ("TrussSolver$Equations", "growth", "[J", true)
  | 5 => ("TrussSolver$Equations", "column", "[J", true)
  | _ => ("TrussSolver$Equations", "image", "[J", true)
def TQ_E : Nat → FieldType := fun k => match k with
  | 0 => .array (.array .long)
  | 1 => .array (.array .long)
  | 2 => .int
  | 3 => .array .long
  | 4 => .array .long
  | 5 => .array .long
  | _ => .array .long
theorem NQ_E : ∀ a, a < 7 → ∀ b, b < 7 → a ≠ b → (FQ_E a).2.1 ≠ (FQ_E b).2.1 := by decide +kernel
theorem TQ_E_ok : ∀ k, k < 7 → parseFieldDescriptor (FQ_E k).2.2.1 = some (TQ_E k) := by decide +kernel
theorem IQ_E : ∀ w ∈ u_ws RQ_E FQ_E 7, w ∈ gt_ws := by decide +kernel
def RQ_N : String := "TrussSolver$Numbering"
def FQ_N : u_T := fun k => match k with
  | 0 => ("TrussSolver$Numbering", "nodes", "[I", true)
  | 1 => ("TrussSolver$Numbering", "placed", "I", false)
  | 2 => ("TrussSolver$Numbering", "taken", "I", false)
  | 3 => ("TrussSolver$Numbering", "neighbours", "[I", true)
  | 4 => ("TrussSolver$Numbering", "unknownAt", "[I", true)
  | 5 => ("TrussSolver$Numbering", "slotOfUnknown", "[I", true)
  | _ => ("TrussSolver$Numbering", "unknowns", "I", false)
def TQ_N : Nat → FieldType := fun k => match k with
  | 0 => .array .int
  | 1 => .int
  | 2 => .int
  | 3 => .array .int
  | 4 => .array .int
  | 5 => .array .int
  | _ => .int
theorem NQ_N : ∀ a, a < 7 → ∀ b, b < 7 → a ≠ b → (FQ_N a).2.1 ≠ (FQ_N b).2.1 := by decide +kernel
theorem TQ_N_ok : ∀ k, k < 7 → parseFieldDescriptor (FQ_N k).2.2.1 = some (TQ_N k) := by decide +kernel
theorem IQ_N : ∀ w ∈ u_ws RQ_N FQ_N 7, w ∈ gt_ws := by decide +kernel
def RQ_R : String := "TrussSolver$Response"
def FQ_R : u_T := fun k => match k with
  | 0 => ("TrussSolver$Response", "factors", "[I", true)
  | 1 => ("TrussSolver$Response", "loads", "[J", true)
  | 2 => ("TrussSolver$Response", "numerators", "[J", true)
  | 3 => ("TrussSolver$Response", "rightSide", "[J", true)
  | 4 => ("TrussSolver$Response", "scaled", "[J", true)
  | _ => ("TrussSolver$Response", "scale", "J", false)
def TQ_R : Nat → FieldType := fun k => match k with
  | 0 => .array .int
  | 1 => .array .long
  | 2 => .array .long
  | 3 => .array .long
  | 4 => .array .long
  | _ => .long
theorem NQ_R : ∀ a, a < 6 → ∀ b, b < 6 → a ≠ b → (FQ_R a).2.1 ≠ (FQ_R b).2.1 := by decide +kernel
theorem TQ_R_ok : ∀ k, k < 6 → parseFieldDescriptor (FQ_R k).2.2.1 = some (TQ_R k) := by decide +kernel
theorem IQ_R : ∀ w ∈ u_ws RQ_R FQ_R 6, w ∈ gt_ws := by decide +kernel
def RQ_T : String := "TrussSolver$Truss"
def FQ_T : u_T := fun k => match k with
  | 0 => ("TrussSolver$Truss", "there", "I", false)
  | 1 => ("TrussSolver$Truss", "points", "[I", true)
  | 2 => ("TrussSolver$Truss", "firstNodes", "[I", true)
  | 3 => ("TrussSolver$Truss", "secondNodes", "[I", true)
  | 4 => ("TrussSolver$Truss", "stiffnesses", "[I", true)
  | 5 => ("TrussSolver$Truss", "barCount", "I", false)
  | 6 => ("TrussSolver$Truss", "held", "[Z", true)
  | 7 => ("TrussSolver$Truss", "heldAt", "[I", true)
  | 8 => ("TrussSolver$Truss", "springs", "[I", true)
  | _ => ("TrussSolver$Truss", "loads", "[[I", true)
def TQ_T : Nat → FieldType := fun k => match k with
  | 0 => .int
  | 1 => .array .int
  | 2 => .array .int
  | 3 => .array .int
  | 4 => .array .int
  | 5 => .int
  | 6 => .array .boolean
  | 7 => .array .int
  | 8 => .array .int
  | _ => .array (.array .int)
theorem NQ_T : ∀ a, a < 10 → ∀ b, b < 10 → a ≠ b → (FQ_T a).2.1 ≠ (FQ_T b).2.1 := by decide +kernel
theorem TQ_T_ok : ∀ k, k < 10 → parseFieldDescriptor (FQ_T k).2.2.1 = some (TQ_T k) := by decide +kernel
theorem IQ_T : ∀ w ∈ u_ws RQ_T FQ_T 10, w ∈ gt_ws := by decide +kernel
def RQ_S : String := "TrussSolver"
def FQ_S : u_T := fun k => match k with
  | 0 => ("TrussSolver", "truss", "LTrussSolver$Truss;", true)
  | 1 => ("TrussSolver", "numbering", "LTrussSolver$Numbering;", true)
  | 2 => ("TrussSolver", "equations", "LTrussSolver$Equations;", true)
  | 3 => ("TrussSolver", "response", "LTrussSolver$Response;", true)
  | _ => ("TrussSolver", "isSealed", "Z", false)
def TQ_S : Nat → FieldType := fun k => match k with
  | 0 => .object "TrussSolver$Truss"
  | 1 => .object "TrussSolver$Numbering"
  | 2 => .object "TrussSolver$Equations"
  | 3 => .object "TrussSolver$Response"
  | _ => .boolean
theorem NQ_S : ∀ a, a < 5 → ∀ b, b < 5 → a ≠ b → (FQ_S a).2.1 ≠ (FQ_S b).2.1 := by decide +kernel
theorem TQ_S_ok : ∀ k, k < 5 → parseFieldDescriptor (FQ_S k).2.2.1 = some (TQ_S k) := by decide +kernel
theorem IQ_S : ∀ w ∈ u_ws RQ_S FQ_S 5, w ∈ gt_ws := by decide +kernel
def RQ_M : String := "TrussSolverModel"
def FQ_M : u_T := fun k => match k with
  | 0 => ("TrussSolverModel", "there", "[Z", true)
  | 1 => ("TrussSolverModel", "px", "[I", true)
  | 2 => ("TrussSolverModel", "py", "[I", true)
  | 3 => ("TrussSolverModel", "first", "[I", true)
  | 4 => ("TrussSolverModel", "second", "[I", true)
  | 5 => ("TrussSolverModel", "stiff", "[I", true)
  | 6 => ("TrussSolverModel", "bars", "I", false)
  | 7 => ("TrussSolverModel", "held", "[Z", true)
  | 8 => ("TrussSolverModel", "fixed", "[I", true)
  | 9 => ("TrussSolverModel", "spring", "[I", true)
  | 10 => ("TrussSolverModel", "loads", "[I", true)
  | 11 => ("TrussSolverModel", "sealed", "Z", false)
  | 12 => ("TrussSolverModel", "order", "[I", true)
  | 13 => ("TrussSolverModel", "ordered", "I", false)
  | 14 => ("TrussSolverModel", "place", "[I", true)
  | 15 => ("TrussSolverModel", "unknowns", "I", false)
  | 16 => ("TrussSolverModel", "full", "[I", true)
  | 17 => ("TrussSolverModel", "right", "[J", true)
  | 18 => ("TrussSolverModel", "work", "[J", true)
  | 19 => ("TrussSolverModel", "top", "J", false)
  | _ => ("TrussSolverModel", "below", "J", false)
def TQ_M : Nat → FieldType := fun k => match k with
  | 0 => .array .boolean
  | 1 => .array .int
  | 2 => .array .int
  | 3 => .array .int
  | 4 => .array .int
  | 5 => .array .int
  | 6 => .int
  | 7 => .array .boolean
  | 8 => .array .int
  | 9 => .array .int
  | 10 => .array .int
  | 11 => .boolean
  | 12 => .array .int
  | 13 => .int
  | 14 => .array .int
  | 15 => .int
  | 16 => .array .int
  | 17 => .array .long
  | 18 => .array .long
  | 19 => .long
  | _ => .long
theorem NQ_M : ∀ a, a < 21 → ∀ b, b < 21 → a ≠ b → (FQ_M a).2.1 ≠ (FQ_M b).2.1 := by decide +kernel
theorem TQ_M_ok : ∀ k, k < 21 → parseFieldDescriptor (FQ_M k).2.2.1 = some (TQ_M k) := by decide +kernel
theorem IQ_M : ∀ w ∈ u_ws RQ_M FQ_M 21, w ∈ gt_ws := by decide +kernel
def RQ_L : String := "TrussSolverLaw"
def RQ_JI : String := "java/lang/Integer"
def RQ_JM : String := "java/lang/Math"
def RQ_JA : String := "java/util/Arrays"
def RQ_JS : String := "java/lang/System"
abbrev cl_all : List vw_C := [(RQ_E, FQ_E, 7), (RQ_N, FQ_N, 7), (RQ_R, FQ_R, 6), (RQ_T, FQ_T, 10), (RQ_S, FQ_S, 5), (RQ_M, FQ_M, 21)]
abbrev c_S_init : ByteArray := prog_1_method_1_code
def y_S_init : MethodName := ⟨RQ_S, "<init>", "()V"⟩
abbrev c_T_init : ByteArray := prog_5_method_1_code
def y_T_init : MethodName := ⟨RQ_T, "<init>", "()V"⟩
abbrev c_N_init : ByteArray := prog_3_method_1_code
def y_N_init : MethodName := ⟨RQ_N, "<init>", "()V"⟩
abbrev c_E_init : ByteArray := prog_2_method_1_code
def y_E_init : MethodName := ⟨RQ_E, "<init>", "()V"⟩
abbrev c_R_init : ByteArray := prog_4_method_1_code
def y_R_init : MethodName := ⟨RQ_R, "<init>", "()V"⟩
abbrev c_S_node : ByteArray := prog_1_method_2_code
def y_S_node : MethodName := ⟨RQ_S, "node", "(III)I"⟩
abbrev c_S_isNode : ByteArray := prog_1_method_23_code
def y_S_isNode : MethodName := ⟨RQ_S, "isNode", "(I)Z"⟩
abbrev c_S_isOnGrid : ByteArray := prog_1_method_24_code
def y_S_isOnGrid : MethodName := ⟨RQ_S, "isOnGrid", "(I)Z"⟩
abbrev c_T_hasOtherAt : ByteArray := prog_5_method_4_code
def y_T_hasOtherAt : MethodName := ⟨RQ_T, "hasOtherAt", "(III)Z"⟩
abbrev c_T_isThere : ByteArray := prog_5_method_2_code
def y_T_isThere : MethodName := ⟨RQ_T, "isThere", "(I)Z"⟩
abbrev c_S_slotOf : ByteArray := prog_1_method_28_code
def y_S_slotOf : MethodName := ⟨RQ_S, "slotOf", "(II)I"⟩
abbrev c_T_putNode : ByteArray := prog_5_method_5_code
def y_T_putNode : MethodName := ⟨RQ_T, "putNode", "(III)V"⟩
abbrev c_S_bar : ByteArray := prog_1_method_3_code
def y_S_bar : MethodName := ⟨RQ_S, "bar", "(III)I"⟩
abbrev c_T_addBar : ByteArray := prog_5_method_6_code
def y_T_addBar : MethodName := ⟨RQ_T, "addBar", "(III)I"⟩
abbrev c_S_unbar : ByteArray := prog_1_method_4_code
def y_S_unbar : MethodName := ⟨RQ_S, "unbar", "(I)I"⟩
abbrev c_S_isBarThere : ByteArray := prog_1_method_20_code
def y_S_isBarThere : MethodName := ⟨RQ_S, "isBarThere", "(I)Z"⟩
abbrev c_T_removeBar : ByteArray := prog_5_method_7_code
def y_T_removeBar : MethodName := ⟨RQ_T, "removeBar", "(I)V"⟩
abbrev c_S_hold : ByteArray := prog_1_method_5_code
def y_S_hold : MethodName := ⟨RQ_S, "hold", "(IIZI)I"⟩
abbrev c_S_isDirection : ByteArray := prog_1_method_25_code
def y_S_isDirection : MethodName := ⟨RQ_S, "isDirection", "(I)Z"⟩
abbrev c_S_spring : ByteArray := prog_1_method_6_code
def y_S_spring : MethodName := ⟨RQ_S, "spring", "(III)I"⟩
abbrev c_S_load : ByteArray := prog_1_method_7_code
def y_S_load : MethodName := ⟨RQ_S, "load", "(IIII)I"⟩
abbrev c_S_isCase : ByteArray := prog_1_method_26_code
def y_S_isCase : MethodName := ⟨RQ_S, "isCase", "(I)Z"⟩
abbrev c_S_solve : ByteArray := prog_1_method_8_code
def y_S_solve : MethodName := ⟨RQ_S, "solve", "()I"⟩
abbrev c_T_nodeCount : ByteArray := prog_5_method_3_code
def y_T_nodeCount : MethodName := ⟨RQ_T, "nodeCount", "()I"⟩
abbrev c_J_bitCount : ByteArray := prog_8_method_49_code
def y_J_bitCount : MethodName := ⟨RQ_JI, "bitCount", "(I)I"⟩
abbrev c_T_firstBadBar : ByteArray := prog_5_method_8_code
def y_T_firstBadBar : MethodName := ⟨RQ_T, "firstBadBar", "()I"⟩
abbrev c_T_isGood : ByteArray := prog_5_method_9_code
def y_T_isGood : MethodName := ⟨RQ_T, "isGood", "(I)Z"⟩
abbrev c_T_reach : ByteArray := prog_5_method_10_code
def y_T_reach : MethodName := ⟨RQ_T, "reach", "(II)I"⟩
abbrev c_N_make : ByteArray := prog_3_method_2_code
def y_N_make : MethodName := ⟨RQ_N, "make", "(LTrussSolver$Truss;)V"⟩
abbrev c_N_findNeighbours : ByteArray := prog_3_method_3_code
def y_N_findNeighbours : MethodName := ⟨RQ_N, "findNeighbours", "(LTrussSolver$Truss;)V"⟩
abbrev c_J_fillI : ByteArray := prog_11_method_103_code
def y_J_fillI : MethodName := ⟨RQ_JA, "fill", "([II)V"⟩
abbrev c_N_placeNodes : ByteArray := prog_3_method_4_code
def y_N_placeNodes : MethodName := ⟨RQ_N, "placeNodes", "(LTrussSolver$Truss;)V"⟩
abbrev c_N_leastJoined : ByteArray := prog_3_method_7_code
def y_N_leastJoined : MethodName := ⟨RQ_N, "leastJoined", "(I)I"⟩
abbrev c_N_append : ByteArray := prog_3_method_6_code
def y_N_append : MethodName := ⟨RQ_N, "append", "(I)V"⟩
abbrev c_N_appendNeighboursOf : ByteArray := prog_3_method_5_code
def y_N_appendNeighboursOf : MethodName := ⟨RQ_N, "appendNeighboursOf", "(I)V"⟩
abbrev c_N_turnRound : ByteArray := prog_3_method_8_code
def y_N_turnRound : MethodName := ⟨RQ_N, "turnRound", "()V"⟩
abbrev c_N_numberSlots : ByteArray := prog_3_method_9_code
def y_N_numberSlots : MethodName := ⟨RQ_N, "numberSlots", "(LTrussSolver$Truss;)V"⟩
abbrev c_N_numberSlot : ByteArray := prog_3_method_10_code
def y_N_numberSlot : MethodName := ⟨RQ_N, "numberSlot", "(ILTrussSolver$Truss;)V"⟩
abbrev c_E_make : ByteArray := prog_2_method_2_code
def y_E_make : MethodName := ⟨RQ_E, "make", "(LTrussSolver$Truss;LTrussSolver$Numbering;)V"⟩
abbrev c_E_sumUpStiffness : ByteArray := prog_2_method_3_code
def y_E_sumUpStiffness : MethodName := ⟨RQ_E, "sumUpStiffness", "(LTrussSolver$Truss;)V"⟩
abbrev c_J_fillL : ByteArray := prog_11_method_101_code
def y_J_fillL : MethodName := ⟨RQ_JA, "fill", "([JJ)V"⟩
abbrev c_E_addStiffnessOfBar : ByteArray := prog_2_method_4_code
def y_E_addStiffnessOfBar : MethodName := ⟨RQ_E, "addStiffnessOfBar", "(LTrussSolver$Truss;I)V"⟩
abbrev c_T_stretchBy : ByteArray := prog_5_method_11_code
def y_T_stretchBy : MethodName := ⟨RQ_T, "stretchBy", "(II)I"⟩
abbrev c_T_signOf : ByteArray := prog_5_method_12_code
def y_T_signOf : MethodName := ⟨RQ_T, "signOf", "(I)I"⟩
abbrev c_E_findWeakUnknown : ByteArray := prog_2_method_5_code
def y_E_findWeakUnknown : MethodName := ⟨RQ_E, "findWeakUnknown", "()I"⟩
abbrev c_E_growPolynomial : ByteArray := prog_2_method_6_code
def y_E_growPolynomial : MethodName := ⟨RQ_E, "growPolynomial", "(I)V"⟩
abbrev c_E_findGrowth : ByteArray := prog_2_method_7_code
def y_E_findGrowth : MethodName := ⟨RQ_E, "findGrowth", "(I)V"⟩
abbrev c_E_rowTimes : ByteArray := prog_2_method_8_code
def y_E_rowTimes : MethodName := ⟨RQ_E, "rowTimes", "(I[JI)J"⟩
abbrev c_E_multiply : ByteArray := prog_2_method_9_code
def y_E_multiply : MethodName := ⟨RQ_E, "multiply", "([JI)V"⟩
abbrev c_S_open : ByteArray := prog_1_method_9_code
def y_S_open : MethodName := ⟨RQ_S, "open", "()I"⟩
abbrev c_S_displacement : ByteArray := prog_1_method_10_code
def y_S_displacement : MethodName := ⟨RQ_S, "displacement", "(IIII)J"⟩
abbrev c_S_isAnswerable : ByteArray := prog_1_method_18_code
def y_S_isAnswerable : MethodName := ⟨RQ_S, "isAnswerable", "(III)Z"⟩
abbrev c_S_isNodeThere : ByteArray := prog_1_method_19_code
def y_S_isNodeThere : MethodName := ⟨RQ_S, "isNodeThere", "(I)Z"⟩
abbrev c_S_isPart : ByteArray := prog_1_method_27_code
def y_S_isPart : MethodName := ⟨RQ_S, "isPart", "(I)Z"⟩
abbrev c_R_chooseCase : ByteArray := prog_4_method_2_code
def y_R_chooseCase : MethodName := ⟨RQ_R, "chooseCase", "(I)V"⟩
abbrev c_R_respond : ByteArray := prog_4_method_4_code
def y_R_respond : MethodName := ⟨RQ_R, "respond", "(LTrussSolver$Truss;LTrussSolver$Numbering;LTrussSolver$Equations;)V"⟩
abbrev c_E_wholeMinor : ByteArray := prog_2_method_10_code
def y_E_wholeMinor : MethodName := ⟨RQ_E, "wholeMinor", "()J"⟩
abbrev c_R_sumUpLoads : ByteArray := prog_4_method_5_code
def y_R_sumUpLoads : MethodName := ⟨RQ_R, "sumUpLoads", "(LTrussSolver$Truss;)V"⟩
abbrev c_R_moveHeldSlots : ByteArray := prog_4_method_6_code
def y_R_moveHeldSlots : MethodName := ⟨RQ_R, "moveHeldSlots", "(LTrussSolver$Truss;)V"⟩
abbrev c_R_heldDisplacement : ByteArray := prog_4_method_7_code
def y_R_heldDisplacement : MethodName := ⟨RQ_R, "heldDisplacement", "(LTrussSolver$Truss;I)J"⟩
abbrev c_R_findRightSide : ByteArray := prog_4_method_8_code
def y_R_findRightSide : MethodName := ⟨RQ_R, "findRightSide", "(LTrussSolver$Truss;LTrussSolver$Numbering;LTrussSolver$Equations;)V"⟩
abbrev c_E_solveScaled : ByteArray := prog_2_method_11_code
def y_E_solveScaled : MethodName := ⟨RQ_E, "solveScaled", "([J[J)V"⟩
abbrev c_S_partOfFraction : ByteArray := prog_1_method_21_code
def y_S_partOfFraction : MethodName := ⟨RQ_S, "partOfFraction", "(JI)J"⟩
abbrev c_S_greatestDivisor : ByteArray := prog_1_method_22_code
def y_S_greatestDivisor : MethodName := ⟨RQ_S, "greatestDivisor", "(JJ)J"⟩
abbrev c_S_force : ByteArray := prog_1_method_11_code
def y_S_force : MethodName := ⟨RQ_S, "force", "(III)J"⟩
abbrev c_R_forceNumerator : ByteArray := prog_4_method_9_code
def y_R_forceNumerator : MethodName := ⟨RQ_R, "forceNumerator", "(LTrussSolver$Truss;I)J"⟩
abbrev c_S_reaction : ByteArray := prog_1_method_12_code
def y_S_reaction : MethodName := ⟨RQ_S, "reaction", "(IIII)J"⟩
abbrev c_R_reactionNumerator : ByteArray := prog_4_method_10_code
def y_R_reactionNumerator : MethodName := ⟨RQ_R, "reactionNumerator", "(LTrussSolver$Equations;I)J"⟩
abbrev c_S_combined : ByteArray := prog_1_method_13_code
def y_S_combined : MethodName := ⟨RQ_S, "combined", "(IIII)J"⟩
abbrev c_R_chooseFactors : ByteArray := prog_4_method_3_code
def y_R_chooseFactors : MethodName := ⟨RQ_R, "chooseFactors", "(I)V"⟩
abbrev c_S_determinant : ByteArray := prog_1_method_14_code
def y_S_determinant : MethodName := ⟨RQ_S, "determinant", "()J"⟩
abbrev c_S_order : ByteArray := prog_1_method_15_code
def y_S_order : MethodName := ⟨RQ_S, "order", "(I)I"⟩
abbrev c_S_unknown : ByteArray := prog_1_method_16_code
def y_S_unknown : MethodName := ⟨RQ_S, "unknown", "(II)I"⟩
abbrev c_S_count : ByteArray := prog_1_method_17_code
def y_S_count : MethodName := ⟨RQ_S, "count", "(I)I"⟩
abbrev c_E_profile : ByteArray := prog_2_method_12_code
def y_E_profile : MethodName := ⟨RQ_E, "profile", "()I"⟩
abbrev c_M_init : ByteArray := prog_7_method_1_code
def y_M_init : MethodName := ⟨RQ_M, "<init>", "()V"⟩
abbrev c_M_node : ByteArray := prog_7_method_3_code
def y_M_node : MethodName := ⟨RQ_M, "node", "(III)I"⟩
abbrev c_M_off : ByteArray := prog_7_method_2_code
def y_M_off : MethodName := ⟨RQ_M, "off", "(II)Z"⟩
abbrev c_M_bar : ByteArray := prog_7_method_4_code
def y_M_bar : MethodName := ⟨RQ_M, "bar", "(III)I"⟩
abbrev c_M_unbar : ByteArray := prog_7_method_5_code
def y_M_unbar : MethodName := ⟨RQ_M, "unbar", "(I)I"⟩
abbrev c_M_hold : ByteArray := prog_7_method_6_code
def y_M_hold : MethodName := ⟨RQ_M, "hold", "(IIZI)I"⟩
abbrev c_M_spring : ByteArray := prog_7_method_7_code
def y_M_spring : MethodName := ⟨RQ_M, "spring", "(III)I"⟩
abbrev c_M_load : ByteArray := prog_7_method_8_code
def y_M_load : MethodName := ⟨RQ_M, "load", "(IIII)I"⟩
abbrev c_M_solve : ByteArray := prog_7_method_24_code
def y_M_solve : MethodName := ⟨RQ_M, "solve", "()I"⟩
abbrev c_M_makeOrder : ByteArray := prog_7_method_17_code
def y_M_makeOrder : MethodName := ⟨RQ_M, "makeOrder", "()V"⟩
abbrev c_M_candidate : ByteArray := prog_7_method_15_code
def y_M_candidate : MethodName := ⟨RQ_M, "candidate", "(I)I"⟩
abbrev c_M_inOrder : ByteArray := prog_7_method_14_code
def y_M_inOrder : MethodName := ⟨RQ_M, "inOrder", "(I)Z"⟩
abbrev c_M_joined : ByteArray := prog_7_method_12_code
def y_M_joined : MethodName := ⟨RQ_M, "joined", "(II)Z"⟩
abbrev c_M_neighbours : ByteArray := prog_7_method_13_code
def y_M_neighbours : MethodName := ⟨RQ_M, "neighbours", "(I)I"⟩
abbrev c_M_append : ByteArray := prog_7_method_16_code
def y_M_append : MethodName := ⟨RQ_M, "append", "(I)V"⟩
abbrev c_M_good : ByteArray := prog_7_method_11_code
def y_M_good : MethodName := ⟨RQ_M, "good", "(I)Z"⟩
abbrev c_M_makeMatrix : ByteArray := prog_7_method_18_code
def y_M_makeMatrix : MethodName := ⟨RQ_M, "makeMatrix", "()V"⟩
abbrev c_M_way : ByteArray := prog_7_method_10_code
def y_M_way : MethodName := ⟨RQ_M, "way", "(II)I"⟩
abbrev c_M_sign : ByteArray := prog_7_method_9_code
def y_M_sign : MethodName := ⟨RQ_M, "sign", "(I)I"⟩
abbrev c_M_det : ByteArray := prog_7_method_23_code
def y_M_det : MethodName := ⟨RQ_M, "det", "(II)J"⟩
abbrev c_M_modulo : ByteArray := prog_7_method_20_code
def y_M_modulo : MethodName := ⟨RQ_M, "modulo", "(IIJ)J"⟩
abbrev c_M_exchange : ByteArray := prog_7_method_21_code
def y_M_exchange : MethodName := ⟨RQ_M, "exchange", "(II)V"⟩
abbrev c_M_clear : ByteArray := prog_7_method_22_code
def y_M_clear : MethodName := ⟨RQ_M, "clear", "(IIJ)V"⟩
abbrev c_M_powered : ByteArray := prog_7_method_19_code
def y_M_powered : MethodName := ⟨RQ_M, "powered", "(JJJ)J"⟩
abbrev c_M_open : ByteArray := prog_7_method_25_code
def y_M_open : MethodName := ⟨RQ_M, "open", "()I"⟩
abbrev c_M_displacement : ByteArray := prog_7_method_30_code
def y_M_displacement : MethodName := ⟨RQ_M, "displacement", "(IIII)J"⟩
abbrev c_M_combined : ByteArray := prog_7_method_31_code
def y_M_combined : MethodName := ⟨RQ_M, "combined", "(IIII)J"⟩
abbrev c_M_moved : ByteArray := prog_7_method_28_code
def y_M_moved : MethodName := ⟨RQ_M, "moved", "(II)J"⟩
abbrev c_M_loadOf : ByteArray := prog_7_method_26_code
def y_M_loadOf : MethodName := ⟨RQ_M, "loadOf", "(II)J"⟩
abbrev c_M_fixedOf : ByteArray := prog_7_method_27_code
def y_M_fixedOf : MethodName := ⟨RQ_M, "fixedOf", "(II)J"⟩
abbrev c_M_determinant : ByteArray := prog_7_method_35_code
def y_M_determinant : MethodName := ⟨RQ_M, "determinant", "()J"⟩
abbrev c_M_fraction : ByteArray := prog_7_method_29_code
def y_M_fraction : MethodName := ⟨RQ_M, "fraction", "(JJI)J"⟩
abbrev c_M_force : ByteArray := prog_7_method_33_code
def y_M_force : MethodName := ⟨RQ_M, "force", "(III)J"⟩
abbrev c_M_pull : ByteArray := prog_7_method_32_code
def y_M_pull : MethodName := ⟨RQ_M, "pull", "(II)J"⟩
abbrev c_M_reaction : ByteArray := prog_7_method_34_code
def y_M_reaction : MethodName := ⟨RQ_M, "reaction", "(IIII)J"⟩
abbrev c_M_order : ByteArray := prog_7_method_36_code
def y_M_order : MethodName := ⟨RQ_M, "order", "(I)I"⟩
abbrev c_M_unknown : ByteArray := prog_7_method_37_code
def y_M_unknown : MethodName := ⟨RQ_M, "unknown", "(II)I"⟩
abbrev c_M_count : ByteArray := prog_7_method_39_code
def y_M_count : MethodName := ⟨RQ_M, "count", "(I)I"⟩
abbrev c_M_profile : ByteArray := prog_7_method_38_code
def y_M_profile : MethodName := ⟨RQ_M, "profile", "()I"⟩
end
section
theorem d_S_init_0 : decode c_S_init 0 = .ok (.aload_n 0, 1) := by decide +kernel
theorem d_S_init_1 : decode c_S_init 1 = .ok (.invokespecial 3, 3) := by decide +kernel
theorem d_S_init_4 : decode c_S_init 4 = .ok (.aload_n 0, 1) := by decide +kernel
theorem d_S_init_5 : decode c_S_init 5 = .ok (.new 9, 3) := by decide +kernel
theorem d_S_init_8 : decode c_S_init 8 = .ok (.dup, 1) := by decide +kernel
theorem d_S_init_9 : decode c_S_init 9 = .ok (.invokespecial 11, 3) := by decide +kernel
theorem d_S_init_12 : decode c_S_init 12 = .ok (.putfield 12, 3) := by decide +kernel
theorem d_S_init_15 : decode c_S_init 15 = .ok (.aload_n 0, 1) := by decide +kernel
theorem d_S_init_16 : decode c_S_init 16 = .ok (.new 16, 3) := by decide +kernel
theorem d_S_init_19 : decode c_S_init 19 = .ok (.dup, 1) := by decide +kernel
theorem d_S_init_20 : decode c_S_init 20 = .ok (.invokespecial 18, 3) := by decide +kernel
theorem d_S_init_23 : decode c_S_init 23 = .ok (.putfield 19, 3) := by decide +kernel
theorem d_S_init_26 : decode c_S_init 26 = .ok (.aload_n 0, 1) := by decide +kernel
theorem d_S_init_27 : decode c_S_init 27 = .ok (.new 23, 3) := by decide +kernel
theorem d_S_init_30 : decode c_S_init 30 = .ok (.dup, 1) := by decide +kernel
theorem d_S_init_31 : decode c_S_init 31 = .ok (.invokespecial 25, 3) := by decide +kernel
theorem d_S_init_34 : decode c_S_init 34 = .ok (.putfield 26, 3) := by decide +kernel
theorem d_S_init_37 : decode c_S_init 37 = .ok (.aload_n 0, 1) := by decide +kernel
theorem d_S_init_38 : decode c_S_init 38 = .ok (.new 30, 3) := by decide +kernel
theorem d_S_init_41 : decode c_S_init 41 = .ok (.dup, 1) := by decide +kernel
theorem d_S_init_42 : decode c_S_init 42 = .ok (.invokespecial 32, 3) := by decide +kernel
theorem d_S_init_45 : decode c_S_init 45 = .ok (.putfield 33, 3) := by decide +kernel
theorem d_S_init_48 : decode c_S_init 48 = .ok (.aload_n 0, 1) := by decide +kernel
theorem d_S_init_49 : decode c_S_init 49 = .ok (.iconst 0, 1) := by decide +kernel
theorem d_S_init_50 : decode c_S_init 50 = .ok (.putfield 37, 3) := by decide +kernel
theorem d_S_init_53 : decode c_S_init 53 = .ok (.return_, 1) := by decide +kernel
theorem d_T_init_0 : decode c_T_init 0 = .ok (.aload_n 0, 1) := by decide +kernel
theorem d_T_init_1 : decode c_T_init 1 = .ok (.invokespecial 3, 3) := by decide +kernel
theorem d_T_init_4 : decode c_T_init 4 = .ok (.aload_n 0, 1) := by decide +kernel
theorem d_T_init_5 : decode c_T_init 5 = .ok (.iconst 0, 1) := by decide +kernel
theorem d_T_init_6 : decode c_T_init 6 = .ok (.putfield 9, 3) := by decide +kernel
theorem d_T_init_9 : decode c_T_init 9 = .ok (.aload_n 0, 1) := by decide +kernel
theorem d_T_init_10 : decode c_T_init 10 = .ok (.bipush 10, 2) := by decide +kernel
theorem d_T_init_12 : decode c_T_init 12 = .ok (.newarray .int, 2) := by decide +kernel
theorem d_T_init_14 : decode c_T_init 14 = .ok (.putfield 15, 3) := by decide +kernel
theorem d_T_init_17 : decode c_T_init 17 = .ok (.aload_n 0, 1) := by decide +kernel
theorem d_T_init_18 : decode c_T_init 18 = .ok (.bipush 10, 2) := by decide +kernel
theorem d_T_init_20 : decode c_T_init 20 = .ok (.newarray .int, 2) := by decide +kernel
theorem d_T_init_22 : decode c_T_init 22 = .ok (.putfield 19, 3) := by decide +kernel
theorem d_T_init_25 : decode c_T_init 25 = .ok (.aload_n 0, 1) := by decide +kernel
theorem d_T_init_26 : decode c_T_init 26 = .ok (.bipush 10, 2) := by decide +kernel
theorem d_T_init_28 : decode c_T_init 28 = .ok (.newarray .int, 2) := by decide +kernel
theorem d_T_init_30 : decode c_T_init 30 = .ok (.putfield 22, 3) := by decide +kernel
theorem d_T_init_33 : decode c_T_init 33 = .ok (.aload_n 0, 1) := by decide +kernel
theorem d_T_init_34 : decode c_T_init 34 = .ok (.bipush 10, 2) := by decide +kernel
theorem d_T_init_36 : decode c_T_init 36 = .ok (.newarray .int, 2) := by decide +kernel
theorem d_T_init_38 : decode c_T_init 38 = .ok (.putfield 25, 3) := by decide +kernel
theorem d_T_init_41 : decode c_T_init 41 = .ok (.aload_n 0, 1) := by decide +kernel
theorem d_T_init_42 : decode c_T_init 42 = .ok (.iconst 0, 1) := by decide +kernel
theorem d_T_init_43 : decode c_T_init 43 = .ok (.putfield 28, 3) := by decide +kernel
theorem d_T_init_46 : decode c_T_init 46 = .ok (.aload_n 0, 1) := by decide +kernel
theorem d_T_init_47 : decode c_T_init 47 = .ok (.bipush 10, 2) := by decide +kernel
theorem d_T_init_49 : decode c_T_init 49 = .ok (.newarray .boolean, 2) := by decide +kernel
theorem d_T_init_51 : decode c_T_init 51 = .ok (.putfield 31, 3) := by decide +kernel
theorem d_T_init_54 : decode c_T_init 54 = .ok (.aload_n 0, 1) := by decide +kernel
theorem d_T_init_55 : decode c_T_init 55 = .ok (.bipush 10, 2) := by decide +kernel
theorem d_T_init_57 : decode c_T_init 57 = .ok (.newarray .int, 2) := by decide +kernel
theorem d_T_init_59 : decode c_T_init 59 = .ok (.putfield 35, 3) := by decide +kernel
theorem d_T_init_62 : decode c_T_init 62 = .ok (.aload_n 0, 1) := by decide +kernel
theorem d_T_init_63 : decode c_T_init 63 = .ok (.bipush 10, 2) := by decide +kernel
theorem d_T_init_65 : decode c_T_init 65 = .ok (.newarray .int, 2) := by decide +kernel
theorem d_T_init_67 : decode c_T_init 67 = .ok (.putfield 38, 3) := by decide +kernel
theorem d_T_init_70 : decode c_T_init 70 = .ok (.aload_n 0, 1) := by decide +kernel
theorem d_T_init_71 : decode c_T_init 71 = .ok (.iconst 4, 1) := by decide +kernel
theorem d_T_init_72 : decode c_T_init 72 = .ok (.bipush 10, 2) := by decide +kernel
theorem d_T_init_74 : decode c_T_init 74 = .ok (.multianewarray 41 2, 4) := by decide +kernel
theorem d_T_init_78 : decode c_T_init 78 = .ok (.putfield 43, 3) := by decide +kernel
theorem d_T_init_81 : decode c_T_init 81 = .ok (.return_, 1) := by decide +kernel
theorem d_N_init_0 : decode c_N_init 0 = .ok (.aload_n 0, 1) := by decide +kernel
theorem d_N_init_1 : decode c_N_init 1 = .ok (.invokespecial 3, 3) := by decide +kernel
theorem d_N_init_4 : decode c_N_init 4 = .ok (.aload_n 0, 1) := by decide +kernel
theorem d_N_init_5 : decode c_N_init 5 = .ok (.iconst 5, 1) := by decide +kernel
theorem d_N_init_6 : decode c_N_init 6 = .ok (.newarray .int, 2) := by decide +kernel
theorem d_N_init_8 : decode c_N_init 8 = .ok (.putfield 9, 3) := by decide +kernel
theorem d_N_init_11 : decode c_N_init 11 = .ok (.aload_n 0, 1) := by decide +kernel
theorem d_N_init_12 : decode c_N_init 12 = .ok (.iconst 0, 1) := by decide +kernel
theorem d_N_init_13 : decode c_N_init 13 = .ok (.putfield 15, 3) := by decide +kernel
theorem d_N_init_16 : decode c_N_init 16 = .ok (.aload_n 0, 1) := by decide +kernel
theorem d_N_init_17 : decode c_N_init 17 = .ok (.iconst 0, 1) := by decide +kernel
theorem d_N_init_18 : decode c_N_init 18 = .ok (.putfield 19, 3) := by decide +kernel
theorem d_N_init_21 : decode c_N_init 21 = .ok (.aload_n 0, 1) := by decide +kernel
theorem d_N_init_22 : decode c_N_init 22 = .ok (.iconst 5, 1) := by decide +kernel
theorem d_N_init_23 : decode c_N_init 23 = .ok (.newarray .int, 2) := by decide +kernel
theorem d_N_init_25 : decode c_N_init 25 = .ok (.putfield 22, 3) := by decide +kernel
theorem d_N_init_28 : decode c_N_init 28 = .ok (.aload_n 0, 1) := by decide +kernel
theorem d_N_init_29 : decode c_N_init 29 = .ok (.bipush 10, 2) := by decide +kernel
theorem d_N_init_31 : decode c_N_init 31 = .ok (.newarray .int, 2) := by decide +kernel
theorem d_N_init_33 : decode c_N_init 33 = .ok (.putfield 25, 3) := by decide +kernel
theorem d_N_init_36 : decode c_N_init 36 = .ok (.aload_n 0, 1) := by decide +kernel
theorem d_N_init_37 : decode c_N_init 37 = .ok (.bipush 10, 2) := by decide +kernel
theorem d_N_init_39 : decode c_N_init 39 = .ok (.newarray .int, 2) := by decide +kernel
theorem d_N_init_41 : decode c_N_init 41 = .ok (.putfield 28, 3) := by decide +kernel
theorem d_N_init_44 : decode c_N_init 44 = .ok (.aload_n 0, 1) := by decide +kernel
theorem d_N_init_45 : decode c_N_init 45 = .ok (.iconst 0, 1) := by decide +kernel
theorem d_N_init_46 : decode c_N_init 46 = .ok (.putfield 31, 3) := by decide +kernel
theorem d_N_init_49 : decode c_N_init 49 = .ok (.return_, 1) := by decide +kernel
theorem d_E_init_0 : decode c_E_init 0 = .ok (.aload_n 0, 1) := by decide +kernel
theorem d_E_init_1 : decode c_E_init 1 = .ok (.invokespecial 3, 3) := by decide +kernel
theorem d_E_init_4 : decode c_E_init 4 = .ok (.aload_n 0, 1) := by decide +kernel
theorem d_E_init_5 : decode c_E_init 5 = .ok (.bipush 10, 2) := by decide +kernel
theorem d_E_init_7 : decode c_E_init 7 = .ok (.bipush 10, 2) := by decide +kernel
theorem d_E_init_9 : decode c_E_init 9 = .ok (.multianewarray 9 2, 4) := by decide +kernel
theorem d_E_init_13 : decode c_E_init 13 = .ok (.putfield 11, 3) := by decide +kernel
theorem d_E_init_16 : decode c_E_init 16 = .ok (.aload_n 0, 1) := by decide +kernel
theorem d_E_init_17 : decode c_E_init 17 = .ok (.bipush 10, 2) := by decide +kernel
theorem d_E_init_19 : decode c_E_init 19 = .ok (.bipush 10, 2) := by decide +kernel
theorem d_E_init_21 : decode c_E_init 21 = .ok (.multianewarray 9 2, 4) := by decide +kernel
theorem d_E_init_25 : decode c_E_init 25 = .ok (.putfield 16, 3) := by decide +kernel
theorem d_E_init_28 : decode c_E_init 28 = .ok (.aload_n 0, 1) := by decide +kernel
theorem d_E_init_29 : decode c_E_init 29 = .ok (.iconst 0, 1) := by decide +kernel
theorem d_E_init_30 : decode c_E_init 30 = .ok (.putfield 19, 3) := by decide +kernel
theorem d_E_init_33 : decode c_E_init 33 = .ok (.aload_n 0, 1) := by decide +kernel
theorem d_E_init_34 : decode c_E_init 34 = .ok (.bipush 11, 2) := by decide +kernel
theorem d_E_init_36 : decode c_E_init 36 = .ok (.newarray .long, 2) := by decide +kernel
theorem d_E_init_38 : decode c_E_init 38 = .ok (.putfield 23, 3) := by decide +kernel
theorem d_E_init_41 : decode c_E_init 41 = .ok (.aload_n 0, 1) := by decide +kernel
theorem d_E_init_42 : decode c_E_init 42 = .ok (.bipush 11, 2) := by decide +kernel
theorem d_E_init_44 : decode c_E_init 44 = .ok (.newarray .long, 2) := by decide +kernel
theorem d_E_init_46 : decode c_E_init 46 = .ok (.putfield 27, 3) := by decide +kernel
theorem d_E_init_49 : decode c_E_init 49 = .ok (.aload_n 0, 1) := by decide +kernel
theorem d_E_init_50 : decode c_E_init 50 = .ok (.bipush 10, 2) := by decide +kernel
theorem d_E_init_52 : decode c_E_init 52 = .ok (.newarray .long, 2) := by decide +kernel
theorem d_E_init_54 : decode c_E_init 54 = .ok (.putfield 30, 3) := by decide +kernel
theorem d_E_init_57 : decode c_E_init 57 = .ok (.aload_n 0, 1) := by decide +kernel
theorem d_E_init_58 : decode c_E_init 58 = .ok (.bipush 10, 2) := by decide +kernel
theorem d_E_init_60 : decode c_E_init 60 = .ok (.newarray .long, 2) := by decide +kernel
theorem d_E_init_62 : decode c_E_init 62 = .ok (.putfield 33, 3) := by decide +kernel
theorem d_E_init_65 : decode c_E_init 65 = .ok (.return_, 1) := by decide +kernel
theorem d_R_init_0 : decode c_R_init 0 = .ok (.aload_n 0, 1) := by decide +kernel
theorem d_R_init_1 : decode c_R_init 1 = .ok (.invokespecial 3, 3) := by decide +kernel
theorem d_R_init_4 : decode c_R_init 4 = .ok (.aload_n 0, 1) := by decide +kernel
theorem d_R_init_5 : decode c_R_init 5 = .ok (.iconst 4, 1) := by decide +kernel
theorem d_R_init_6 : decode c_R_init 6 = .ok (.newarray .int, 2) := by decide +kernel
theorem d_R_init_8 : decode c_R_init 8 = .ok (.putfield 9, 3) := by decide +kernel
theorem d_R_init_11 : decode c_R_init 11 = .ok (.aload_n 0, 1) := by decide +kernel
theorem d_R_init_12 : decode c_R_init 12 = .ok (.bipush 10, 2) := by decide +kernel
theorem d_R_init_14 : decode c_R_init 14 = .ok (.newarray .long, 2) := by decide +kernel
theorem d_R_init_16 : decode c_R_init 16 = .ok (.putfield 15, 3) := by decide +kernel
theorem d_R_init_19 : decode c_R_init 19 = .ok (.aload_n 0, 1) := by decide +kernel
theorem d_R_init_20 : decode c_R_init 20 = .ok (.bipush 10, 2) := by decide +kernel
theorem d_R_init_22 : decode c_R_init 22 = .ok (.newarray .long, 2) := by decide +kernel
theorem d_R_init_24 : decode c_R_init 24 = .ok (.putfield 19, 3) := by decide +kernel
theorem d_R_init_27 : decode c_R_init 27 = .ok (.aload_n 0, 1) := by decide +kernel
theorem d_R_init_28 : decode c_R_init 28 = .ok (.bipush 10, 2) := by decide +kernel
theorem d_R_init_30 : decode c_R_init 30 = .ok (.newarray .long, 2) := by decide +kernel
theorem d_R_init_32 : decode c_R_init 32 = .ok (.putfield 22, 3) := by decide +kernel
theorem d_R_init_35 : decode c_R_init 35 = .ok (.aload_n 0, 1) := by decide +kernel
theorem d_R_init_36 : decode c_R_init 36 = .ok (.bipush 10, 2) := by decide +kernel
theorem d_R_init_38 : decode c_R_init 38 = .ok (.newarray .long, 2) := by decide +kernel
theorem d_R_init_40 : decode c_R_init 40 = .ok (.putfield 25, 3) := by decide +kernel
theorem d_R_init_43 : decode c_R_init 43 = .ok (.aload_n 0, 1) := by decide +kernel
theorem d_R_init_44 : decode c_R_init 44 = .ok (.lconst 1, 1) := by decide +kernel
theorem d_R_init_45 : decode c_R_init 45 = .ok (.putfield 28, 3) := by decide +kernel
theorem d_R_init_48 : decode c_R_init 48 = .ok (.return_, 1) := by decide +kernel
theorem d_S_node_0 : decode c_S_node 0 = .ok (.iload_n 1, 1) := by decide +kernel
theorem d_S_node_1 : decode c_S_node 1 = .ok (.invokestatic 41, 3) := by decide +kernel
theorem d_S_node_4 : decode c_S_node 4 = .ok (.ifCond .eq 17, 3) := by decide +kernel
theorem d_S_node_7 : decode c_S_node 7 = .ok (.iload_n 2, 1) := by decide +kernel
theorem d_S_node_8 : decode c_S_node 8 = .ok (.invokestatic 45, 3) := by decide +kernel
theorem d_S_node_11 : decode c_S_node 11 = .ok (.ifCond .eq 10, 3) := by decide +kernel
theorem d_S_node_14 : decode c_S_node 14 = .ok (.iload_n 3, 1) := by decide +kernel
theorem d_S_node_15 : decode c_S_node 15 = .ok (.invokestatic 45, 3) := by decide +kernel
theorem d_S_node_18 : decode c_S_node 18 = .ok (.ifCond .ne 5, 3) := by decide +kernel
theorem d_S_node_21 : decode c_S_node 21 = .ok (.iconst (-1), 1) := by decide +kernel
theorem d_S_node_22 : decode c_S_node 22 = .ok (.ireturn, 1) := by decide +kernel
theorem d_S_node_23 : decode c_S_node 23 = .ok (.aload_n 0, 1) := by decide +kernel
theorem d_S_node_24 : decode c_S_node 24 = .ok (.getfield 37, 3) := by decide +kernel
theorem d_S_node_27 : decode c_S_node 27 = .ok (.ifCond .eq 6, 3) := by decide +kernel
theorem d_S_node_30 : decode c_S_node 30 = .ok (.bipush (-4), 2) := by decide +kernel
theorem d_S_node_32 : decode c_S_node 32 = .ok (.ireturn, 1) := by decide +kernel
theorem d_S_node_33 : decode c_S_node 33 = .ok (.aload_n 0, 1) := by decide +kernel
theorem d_S_node_34 : decode c_S_node 34 = .ok (.getfield 12, 3) := by decide +kernel
theorem d_S_node_37 : decode c_S_node 37 = .ok (.iload_n 1, 1) := by decide +kernel
theorem d_S_node_38 : decode c_S_node 38 = .ok (.iload_n 2, 1) := by decide +kernel
theorem d_S_node_39 : decode c_S_node 39 = .ok (.iload_n 3, 1) := by decide +kernel
theorem d_S_node_40 : decode c_S_node 40 = .ok (.invokevirtual 48, 3) := by decide +kernel
theorem d_S_node_43 : decode c_S_node 43 = .ok (.ifCond .eq 6, 3) := by decide +kernel
theorem d_S_node_46 : decode c_S_node 46 = .ok (.bipush (-2), 2) := by decide +kernel
theorem d_S_node_48 : decode c_S_node 48 = .ok (.ireturn, 1) := by decide +kernel
theorem d_S_node_49 : decode c_S_node 49 = .ok (.aload_n 0, 1) := by decide +kernel
theorem d_S_node_50 : decode c_S_node 50 = .ok (.getfield 12, 3) := by decide +kernel
theorem d_S_node_53 : decode c_S_node 53 = .ok (.iload_n 1, 1) := by decide +kernel
theorem d_S_node_54 : decode c_S_node 54 = .ok (.iload_n 2, 1) := by decide +kernel
theorem d_S_node_55 : decode c_S_node 55 = .ok (.iload_n 3, 1) := by decide +kernel
theorem d_S_node_56 : decode c_S_node 56 = .ok (.invokevirtual 52, 3) := by decide +kernel
theorem d_S_node_59 : decode c_S_node 59 = .ok (.iconst 0, 1) := by decide +kernel
theorem d_S_node_60 : decode c_S_node 60 = .ok (.ireturn, 1) := by decide +kernel
theorem d_S_isNode_0 : decode c_S_isNode 0 = .ok (.iload_n 0, 1) := by decide +kernel
theorem d_S_isNode_1 : decode c_S_isNode 1 = .ok (.ifCond .lt 12, 3) := by decide +kernel
theorem d_S_isNode_4 : decode c_S_isNode 4 = .ok (.iload_n 0, 1) := by decide +kernel
theorem d_S_isNode_5 : decode c_S_isNode 5 = .ok (.iconst 5, 1) := by decide +kernel
theorem d_S_isNode_6 : decode c_S_isNode 6 = .ok (.if_icmp .ge 7, 3) := by decide +kernel
theorem d_S_isNode_9 : decode c_S_isNode 9 = .ok (.iconst 1, 1) := by decide +kernel
theorem d_S_isNode_10 : decode c_S_isNode 10 = .ok (.goto 4, 3) := by decide +kernel
theorem d_S_isNode_13 : decode c_S_isNode 13 = .ok (.iconst 0, 1) := by decide +kernel
theorem d_S_isNode_14 : decode c_S_isNode 14 = .ok (.ireturn, 1) := by decide +kernel
theorem d_S_isOnGrid_0 : decode c_S_isOnGrid 0 = .ok (.iload_n 0, 1) := by decide +kernel
theorem d_S_isOnGrid_1 : decode c_S_isOnGrid 1 = .ok (.ifCond .lt 12, 3) := by decide +kernel
theorem d_S_isOnGrid_4 : decode c_S_isOnGrid 4 = .ok (.iload_n 0, 1) := by decide +kernel
theorem d_S_isOnGrid_5 : decode c_S_isOnGrid 5 = .ok (.iconst 5, 1) := by decide +kernel
theorem d_S_isOnGrid_6 : decode c_S_isOnGrid 6 = .ok (.if_icmp .ge 7, 3) := by decide +kernel
theorem d_S_isOnGrid_9 : decode c_S_isOnGrid 9 = .ok (.iconst 1, 1) := by decide +kernel
theorem d_S_isOnGrid_10 : decode c_S_isOnGrid 10 = .ok (.goto 4, 3) := by decide +kernel
theorem d_S_isOnGrid_13 : decode c_S_isOnGrid 13 = .ok (.iconst 0, 1) := by decide +kernel
theorem d_S_isOnGrid_14 : decode c_S_isOnGrid 14 = .ok (.ireturn, 1) := by decide +kernel
theorem d_T_hasOtherAt_0 : decode c_T_hasOtherAt 0 = .ok (.iconst 0, 1) := by decide +kernel
theorem d_T_hasOtherAt_1 : decode c_T_hasOtherAt 1 = .ok (.istore 4, 2) := by decide +kernel
theorem d_T_hasOtherAt_3 : decode c_T_hasOtherAt 3 = .ok (.iload 4, 2) := by decide +kernel
theorem d_T_hasOtherAt_5 : decode c_T_hasOtherAt 5 = .ok (.iconst 5, 1) := by decide +kernel
theorem d_T_hasOtherAt_6 : decode c_T_hasOtherAt 6 = .ok (.if_icmp .ge 56, 3) := by decide +kernel
theorem d_T_hasOtherAt_9 : decode c_T_hasOtherAt 9 = .ok (.iload 4, 2) := by decide +kernel
theorem d_T_hasOtherAt_11 : decode c_T_hasOtherAt 11 = .ok (.iload_n 1, 1) := by decide +kernel
theorem d_T_hasOtherAt_12 : decode c_T_hasOtherAt 12 = .ok (.if_icmp .eq 44, 3) := by decide +kernel
theorem d_T_hasOtherAt_15 : decode c_T_hasOtherAt 15 = .ok (.aload_n 0, 1) := by decide +kernel
theorem d_T_hasOtherAt_16 : decode c_T_hasOtherAt 16 = .ok (.iload 4, 2) := by decide +kernel
theorem d_T_hasOtherAt_18 : decode c_T_hasOtherAt 18 = .ok (.invokevirtual 52, 3) := by decide +kernel
theorem d_T_hasOtherAt_21 : decode c_T_hasOtherAt 21 = .ok (.ifCond .eq 35, 3) := by decide +kernel
theorem d_T_hasOtherAt_24 : decode c_T_hasOtherAt 24 = .ok (.aload_n 0, 1) := by decide +kernel
theorem d_T_hasOtherAt_25 : decode c_T_hasOtherAt 25 = .ok (.getfield 15, 3) := by decide +kernel
theorem d_T_hasOtherAt_28 : decode c_T_hasOtherAt 28 = .ok (.iload 4, 2) := by decide +kernel
theorem d_T_hasOtherAt_30 : decode c_T_hasOtherAt 30 = .ok (.iconst 0, 1) := by decide +kernel
theorem d_T_hasOtherAt_31 : decode c_T_hasOtherAt 31 = .ok (.invokestatic 56, 3) := by decide +kernel
theorem d_T_hasOtherAt_34 : decode c_T_hasOtherAt 34 = .ok (.iaload, 1) := by decide +kernel
theorem d_T_hasOtherAt_35 : decode c_T_hasOtherAt 35 = .ok (.iload_n 2, 1) := by decide +kernel
theorem d_T_hasOtherAt_36 : decode c_T_hasOtherAt 36 = .ok (.if_icmp .ne 20, 3) := by decide +kernel
theorem d_T_hasOtherAt_39 : decode c_T_hasOtherAt 39 = .ok (.aload_n 0, 1) := by decide +kernel
theorem d_T_hasOtherAt_40 : decode c_T_hasOtherAt 40 = .ok (.getfield 15, 3) := by decide +kernel
theorem d_T_hasOtherAt_43 : decode c_T_hasOtherAt 43 = .ok (.iload 4, 2) := by decide +kernel
theorem d_T_hasOtherAt_45 : decode c_T_hasOtherAt 45 = .ok (.iconst 1, 1) := by decide +kernel
theorem d_T_hasOtherAt_46 : decode c_T_hasOtherAt 46 = .ok (.invokestatic 56, 3) := by decide +kernel
theorem d_T_hasOtherAt_49 : decode c_T_hasOtherAt 49 = .ok (.iaload, 1) := by decide +kernel
theorem d_T_hasOtherAt_50 : decode c_T_hasOtherAt 50 = .ok (.iload_n 3, 1) := by decide +kernel
theorem d_T_hasOtherAt_51 : decode c_T_hasOtherAt 51 = .ok (.if_icmp .ne 5, 3) := by decide +kernel
theorem d_T_hasOtherAt_54 : decode c_T_hasOtherAt 54 = .ok (.iconst 1, 1) := by decide +kernel
theorem d_T_hasOtherAt_55 : decode c_T_hasOtherAt 55 = .ok (.ireturn, 1) := by decide +kernel
theorem d_T_hasOtherAt_56 : decode c_T_hasOtherAt 56 = .ok (.iinc 4 1, 3) := by decide +kernel
theorem d_T_hasOtherAt_59 : decode c_T_hasOtherAt 59 = .ok (.goto (-56), 3) := by decide +kernel
theorem d_T_hasOtherAt_62 : decode c_T_hasOtherAt 62 = .ok (.iconst 0, 1) := by decide +kernel
theorem d_T_hasOtherAt_63 : decode c_T_hasOtherAt 63 = .ok (.ireturn, 1) := by decide +kernel
theorem d_T_isThere_0 : decode c_T_isThere 0 = .ok (.aload_n 0, 1) := by decide +kernel
theorem d_T_isThere_1 : decode c_T_isThere 1 = .ok (.getfield 9, 3) := by decide +kernel
theorem d_T_isThere_4 : decode c_T_isThere 4 = .ok (.iload_n 1, 1) := by decide +kernel
theorem d_T_isThere_5 : decode c_T_isThere 5 = .ok (.ishr, 1) := by decide +kernel
theorem d_T_isThere_6 : decode c_T_isThere 6 = .ok (.iconst 1, 1) := by decide +kernel
theorem d_T_isThere_7 : decode c_T_isThere 7 = .ok (.iand, 1) := by decide +kernel
theorem d_T_isThere_8 : decode c_T_isThere 8 = .ok (.ifCond .eq 7, 3) := by decide +kernel
theorem d_T_isThere_11 : decode c_T_isThere 11 = .ok (.iconst 1, 1) := by decide +kernel
theorem d_T_isThere_12 : decode c_T_isThere 12 = .ok (.goto 4, 3) := by decide +kernel
theorem d_T_isThere_15 : decode c_T_isThere 15 = .ok (.iconst 0, 1) := by decide +kernel
theorem d_T_isThere_16 : decode c_T_isThere 16 = .ok (.ireturn, 1) := by decide +kernel
theorem d_S_slotOf_0 : decode c_S_slotOf 0 = .ok (.iload_n 0, 1) := by decide +kernel
theorem d_S_slotOf_1 : decode c_S_slotOf 1 = .ok (.iconst 2, 1) := by decide +kernel
theorem d_S_slotOf_2 : decode c_S_slotOf 2 = .ok (.imul, 1) := by decide +kernel
theorem d_S_slotOf_3 : decode c_S_slotOf 3 = .ok (.iload_n 1, 1) := by decide +kernel
theorem d_S_slotOf_4 : decode c_S_slotOf 4 = .ok (.iadd, 1) := by decide +kernel
theorem d_S_slotOf_5 : decode c_S_slotOf 5 = .ok (.ireturn, 1) := by decide +kernel
theorem d_T_putNode_0 : decode c_T_putNode 0 = .ok (.aload_n 0, 1) := by decide +kernel
theorem d_T_putNode_1 : decode c_T_putNode 1 = .ok (.dup, 1) := by decide +kernel
theorem d_T_putNode_2 : decode c_T_putNode 2 = .ok (.getfield 9, 3) := by decide +kernel
theorem d_T_putNode_5 : decode c_T_putNode 5 = .ok (.iconst 1, 1) := by decide +kernel
theorem d_T_putNode_6 : decode c_T_putNode 6 = .ok (.iload_n 1, 1) := by decide +kernel
theorem d_T_putNode_7 : decode c_T_putNode 7 = .ok (.ishl, 1) := by decide +kernel
theorem d_T_putNode_8 : decode c_T_putNode 8 = .ok (.ior, 1) := by decide +kernel
theorem d_T_putNode_9 : decode c_T_putNode 9 = .ok (.putfield 9, 3) := by decide +kernel
theorem d_T_putNode_12 : decode c_T_putNode 12 = .ok (.aload_n 0, 1) := by decide +kernel
theorem d_T_putNode_13 : decode c_T_putNode 13 = .ok (.getfield 15, 3) := by decide +kernel
theorem d_T_putNode_16 : decode c_T_putNode 16 = .ok (.iload_n 1, 1) := by decide +kernel
theorem d_T_putNode_17 : decode c_T_putNode 17 = .ok (.iconst 0, 1) := by decide +kernel
theorem d_T_putNode_18 : decode c_T_putNode 18 = .ok (.invokestatic 56, 3) := by decide +kernel
theorem d_T_putNode_21 : decode c_T_putNode 21 = .ok (.iload_n 2, 1) := by decide +kernel
theorem d_T_putNode_22 : decode c_T_putNode 22 = .ok (.iastore, 1) := by decide +kernel
theorem d_T_putNode_23 : decode c_T_putNode 23 = .ok (.aload_n 0, 1) := by decide +kernel
theorem d_T_putNode_24 : decode c_T_putNode 24 = .ok (.getfield 15, 3) := by decide +kernel
theorem d_T_putNode_27 : decode c_T_putNode 27 = .ok (.iload_n 1, 1) := by decide +kernel
theorem d_T_putNode_28 : decode c_T_putNode 28 = .ok (.iconst 1, 1) := by decide +kernel
theorem d_T_putNode_29 : decode c_T_putNode 29 = .ok (.invokestatic 56, 3) := by decide +kernel
theorem d_T_putNode_32 : decode c_T_putNode 32 = .ok (.iload_n 3, 1) := by decide +kernel
theorem d_T_putNode_33 : decode c_T_putNode 33 = .ok (.iastore, 1) := by decide +kernel
theorem d_T_putNode_34 : decode c_T_putNode 34 = .ok (.return_, 1) := by decide +kernel
theorem d_S_bar_0 : decode c_S_bar 0 = .ok (.iload_n 1, 1) := by decide +kernel
theorem d_S_bar_1 : decode c_S_bar 1 = .ok (.invokestatic 41, 3) := by decide +kernel
theorem d_S_bar_4 : decode c_S_bar 4 = .ok (.ifCond .eq 25, 3) := by decide +kernel
theorem d_S_bar_7 : decode c_S_bar 7 = .ok (.iload_n 2, 1) := by decide +kernel
theorem d_S_bar_8 : decode c_S_bar 8 = .ok (.invokestatic 41, 3) := by decide +kernel
theorem d_S_bar_11 : decode c_S_bar 11 = .ok (.ifCond .eq 18, 3) := by decide +kernel
theorem d_S_bar_14 : decode c_S_bar 14 = .ok (.iload_n 3, 1) := by decide +kernel
theorem d_S_bar_15 : decode c_S_bar 15 = .ok (.iconst 1, 1) := by decide +kernel
theorem d_S_bar_16 : decode c_S_bar 16 = .ok (.if_icmp .lt 13, 3) := by decide +kernel
theorem d_S_bar_19 : decode c_S_bar 19 = .ok (.iload_n 3, 1) := by decide +kernel
theorem d_S_bar_20 : decode c_S_bar 20 = .ok (.iconst 3, 1) := by decide +kernel
theorem d_S_bar_21 : decode c_S_bar 21 = .ok (.if_icmp .gt 8, 3) := by decide +kernel
theorem d_S_bar_24 : decode c_S_bar 24 = .ok (.iload_n 1, 1) := by decide +kernel
theorem d_S_bar_25 : decode c_S_bar 25 = .ok (.iload_n 2, 1) := by decide +kernel
theorem d_S_bar_26 : decode c_S_bar 26 = .ok (.if_icmp .ne 5, 3) := by decide +kernel
theorem d_S_bar_29 : decode c_S_bar 29 = .ok (.iconst (-1), 1) := by decide +kernel
theorem d_S_bar_30 : decode c_S_bar 30 = .ok (.ireturn, 1) := by decide +kernel
theorem d_S_bar_31 : decode c_S_bar 31 = .ok (.aload_n 0, 1) := by decide +kernel
theorem d_S_bar_32 : decode c_S_bar 32 = .ok (.getfield 37, 3) := by decide +kernel
theorem d_S_bar_35 : decode c_S_bar 35 = .ok (.ifCond .eq 6, 3) := by decide +kernel
theorem d_S_bar_38 : decode c_S_bar 38 = .ok (.bipush (-4), 2) := by decide +kernel
theorem d_S_bar_40 : decode c_S_bar 40 = .ok (.ireturn, 1) := by decide +kernel
theorem d_S_bar_41 : decode c_S_bar 41 = .ok (.aload_n 0, 1) := by decide +kernel
theorem d_S_bar_42 : decode c_S_bar 42 = .ok (.getfield 12, 3) := by decide +kernel
theorem d_S_bar_45 : decode c_S_bar 45 = .ok (.getfield 56, 3) := by decide +kernel
theorem d_S_bar_48 : decode c_S_bar 48 = .ok (.bipush 10, 2) := by decide +kernel
theorem d_S_bar_50 : decode c_S_bar 50 = .ok (.if_icmp .lt 6, 3) := by decide +kernel
theorem d_S_bar_53 : decode c_S_bar 53 = .ok (.bipush (-3), 2) := by decide +kernel
theorem d_S_bar_55 : decode c_S_bar 55 = .ok (.ireturn, 1) := by decide +kernel
theorem d_S_bar_56 : decode c_S_bar 56 = .ok (.aload_n 0, 1) := by decide +kernel
theorem d_S_bar_57 : decode c_S_bar 57 = .ok (.getfield 12, 3) := by decide +kernel
theorem d_S_bar_60 : decode c_S_bar 60 = .ok (.iload_n 1, 1) := by decide +kernel
theorem d_S_bar_61 : decode c_S_bar 61 = .ok (.iload_n 2, 1) := by decide +kernel
theorem d_S_bar_62 : decode c_S_bar 62 = .ok (.iload_n 3, 1) := by decide +kernel
theorem d_S_bar_63 : decode c_S_bar 63 = .ok (.invokevirtual 60, 3) := by decide +kernel
theorem d_S_bar_66 : decode c_S_bar 66 = .ok (.ireturn, 1) := by decide +kernel
theorem d_T_addBar_0 : decode c_T_addBar 0 = .ok (.aload_n 0, 1) := by decide +kernel
theorem d_T_addBar_1 : decode c_T_addBar 1 = .ok (.getfield 28, 3) := by decide +kernel
theorem d_T_addBar_4 : decode c_T_addBar 4 = .ok (.istore 4, 2) := by decide +kernel
theorem d_T_addBar_6 : decode c_T_addBar 6 = .ok (.aload_n 0, 1) := by decide +kernel
theorem d_T_addBar_7 : decode c_T_addBar 7 = .ok (.getfield 19, 3) := by decide +kernel
theorem d_T_addBar_10 : decode c_T_addBar 10 = .ok (.iload 4, 2) := by decide +kernel
theorem d_T_addBar_12 : decode c_T_addBar 12 = .ok (.iload_n 1, 1) := by decide +kernel
theorem d_T_addBar_13 : decode c_T_addBar 13 = .ok (.iastore, 1) := by decide +kernel
theorem d_T_addBar_14 : decode c_T_addBar 14 = .ok (.aload_n 0, 1) := by decide +kernel
theorem d_T_addBar_15 : decode c_T_addBar 15 = .ok (.getfield 22, 3) := by decide +kernel
theorem d_T_addBar_18 : decode c_T_addBar 18 = .ok (.iload 4, 2) := by decide +kernel
theorem d_T_addBar_20 : decode c_T_addBar 20 = .ok (.iload_n 2, 1) := by decide +kernel
theorem d_T_addBar_21 : decode c_T_addBar 21 = .ok (.iastore, 1) := by decide +kernel
theorem d_T_addBar_22 : decode c_T_addBar 22 = .ok (.aload_n 0, 1) := by decide +kernel
theorem d_T_addBar_23 : decode c_T_addBar 23 = .ok (.getfield 25, 3) := by decide +kernel
theorem d_T_addBar_26 : decode c_T_addBar 26 = .ok (.iload 4, 2) := by decide +kernel
theorem d_T_addBar_28 : decode c_T_addBar 28 = .ok (.iload_n 3, 1) := by decide +kernel
theorem d_T_addBar_29 : decode c_T_addBar 29 = .ok (.iastore, 1) := by decide +kernel
theorem d_T_addBar_30 : decode c_T_addBar 30 = .ok (.aload_n 0, 1) := by decide +kernel
theorem d_T_addBar_31 : decode c_T_addBar 31 = .ok (.dup, 1) := by decide +kernel
theorem d_T_addBar_32 : decode c_T_addBar 32 = .ok (.getfield 28, 3) := by decide +kernel
theorem d_T_addBar_35 : decode c_T_addBar 35 = .ok (.iconst 1, 1) := by decide +kernel
theorem d_T_addBar_36 : decode c_T_addBar 36 = .ok (.iadd, 1) := by decide +kernel
theorem d_T_addBar_37 : decode c_T_addBar 37 = .ok (.putfield 28, 3) := by decide +kernel
theorem d_T_addBar_40 : decode c_T_addBar 40 = .ok (.iload 4, 2) := by decide +kernel
theorem d_T_addBar_42 : decode c_T_addBar 42 = .ok (.ireturn, 1) := by decide +kernel
theorem d_S_unbar_0 : decode c_S_unbar 0 = .ok (.aload_n 0, 1) := by decide +kernel
theorem d_S_unbar_1 : decode c_S_unbar 1 = .ok (.iload_n 1, 1) := by decide +kernel
theorem d_S_unbar_2 : decode c_S_unbar 2 = .ok (.invokevirtual 64, 3) := by decide +kernel
theorem d_S_unbar_5 : decode c_S_unbar 5 = .ok (.ifCond .ne 5, 3) := by decide +kernel
theorem d_S_unbar_8 : decode c_S_unbar 8 = .ok (.iconst (-1), 1) := by decide +kernel
theorem d_S_unbar_9 : decode c_S_unbar 9 = .ok (.ireturn, 1) := by decide +kernel
theorem d_S_unbar_10 : decode c_S_unbar 10 = .ok (.aload_n 0, 1) := by decide +kernel
theorem d_S_unbar_11 : decode c_S_unbar 11 = .ok (.getfield 37, 3) := by decide +kernel
theorem d_S_unbar_14 : decode c_S_unbar 14 = .ok (.ifCond .eq 6, 3) := by decide +kernel
theorem d_S_unbar_17 : decode c_S_unbar 17 = .ok (.bipush (-4), 2) := by decide +kernel
theorem d_S_unbar_19 : decode c_S_unbar 19 = .ok (.ireturn, 1) := by decide +kernel
theorem d_S_unbar_20 : decode c_S_unbar 20 = .ok (.aload_n 0, 1) := by decide +kernel
theorem d_S_unbar_21 : decode c_S_unbar 21 = .ok (.getfield 12, 3) := by decide +kernel
theorem d_S_unbar_24 : decode c_S_unbar 24 = .ok (.iload_n 1, 1) := by decide +kernel
theorem d_S_unbar_25 : decode c_S_unbar 25 = .ok (.invokevirtual 67, 3) := by decide +kernel
theorem d_S_unbar_28 : decode c_S_unbar 28 = .ok (.aload_n 0, 1) := by decide +kernel
theorem d_S_unbar_29 : decode c_S_unbar 29 = .ok (.getfield 12, 3) := by decide +kernel
theorem d_S_unbar_32 : decode c_S_unbar 32 = .ok (.getfield 56, 3) := by decide +kernel
theorem d_S_unbar_35 : decode c_S_unbar 35 = .ok (.ireturn, 1) := by decide +kernel
theorem d_S_isBarThere_0 : decode c_S_isBarThere 0 = .ok (.iload_n 1, 1) := by decide +kernel
theorem d_S_isBarThere_1 : decode c_S_isBarThere 1 = .ok (.ifCond .lt 18, 3) := by decide +kernel
theorem d_S_isBarThere_4 : decode c_S_isBarThere 4 = .ok (.iload_n 1, 1) := by decide +kernel
theorem d_S_isBarThere_5 : decode c_S_isBarThere 5 = .ok (.aload_n 0, 1) := by decide +kernel
theorem d_S_isBarThere_6 : decode c_S_isBarThere 6 = .ok (.getfield 12, 3) := by decide +kernel
theorem d_S_isBarThere_9 : decode c_S_isBarThere 9 = .ok (.getfield 56, 3) := by decide +kernel
theorem d_S_isBarThere_12 : decode c_S_isBarThere 12 = .ok (.if_icmp .ge 7, 3) := by decide +kernel
theorem d_S_isBarThere_15 : decode c_S_isBarThere 15 = .ok (.iconst 1, 1) := by decide +kernel
theorem d_S_isBarThere_16 : decode c_S_isBarThere 16 = .ok (.goto 4, 3) := by decide +kernel
theorem d_S_isBarThere_19 : decode c_S_isBarThere 19 = .ok (.iconst 0, 1) := by decide +kernel
theorem d_S_isBarThere_20 : decode c_S_isBarThere 20 = .ok (.ireturn, 1) := by decide +kernel
theorem d_T_removeBar_0 : decode c_T_removeBar 0 = .ok (.iload_n 1, 1) := by decide +kernel
theorem d_T_removeBar_1 : decode c_T_removeBar 1 = .ok (.iconst 1, 1) := by decide +kernel
theorem d_T_removeBar_2 : decode c_T_removeBar 2 = .ok (.iadd, 1) := by decide +kernel
theorem d_T_removeBar_3 : decode c_T_removeBar 3 = .ok (.istore_n 2, 1) := by decide +kernel
theorem d_T_removeBar_4 : decode c_T_removeBar 4 = .ok (.iload_n 2, 1) := by decide +kernel
theorem d_T_removeBar_5 : decode c_T_removeBar 5 = .ok (.aload_n 0, 1) := by decide +kernel
theorem d_T_removeBar_6 : decode c_T_removeBar 6 = .ok (.getfield 28, 3) := by decide +kernel
theorem d_T_removeBar_9 : decode c_T_removeBar 9 = .ok (.if_icmp .ge 51, 3) := by decide +kernel
theorem d_T_removeBar_12 : decode c_T_removeBar 12 = .ok (.aload_n 0, 1) := by decide +kernel
theorem d_T_removeBar_13 : decode c_T_removeBar 13 = .ok (.getfield 19, 3) := by decide +kernel
theorem d_T_removeBar_16 : decode c_T_removeBar 16 = .ok (.iload_n 2, 1) := by decide +kernel
theorem d_T_removeBar_17 : decode c_T_removeBar 17 = .ok (.iconst 1, 1) := by decide +kernel
theorem d_T_removeBar_18 : decode c_T_removeBar 18 = .ok (.isub, 1) := by decide +kernel
theorem d_T_removeBar_19 : decode c_T_removeBar 19 = .ok (.aload_n 0, 1) := by decide +kernel
theorem d_T_removeBar_20 : decode c_T_removeBar 20 = .ok (.getfield 19, 3) := by decide +kernel
theorem d_T_removeBar_23 : decode c_T_removeBar 23 = .ok (.iload_n 2, 1) := by decide +kernel
theorem d_T_removeBar_24 : decode c_T_removeBar 24 = .ok (.iaload, 1) := by decide +kernel
theorem d_T_removeBar_25 : decode c_T_removeBar 25 = .ok (.iastore, 1) := by decide +kernel
theorem d_T_removeBar_26 : decode c_T_removeBar 26 = .ok (.aload_n 0, 1) := by decide +kernel
theorem d_T_removeBar_27 : decode c_T_removeBar 27 = .ok (.getfield 22, 3) := by decide +kernel
theorem d_T_removeBar_30 : decode c_T_removeBar 30 = .ok (.iload_n 2, 1) := by decide +kernel
theorem d_T_removeBar_31 : decode c_T_removeBar 31 = .ok (.iconst 1, 1) := by decide +kernel
theorem d_T_removeBar_32 : decode c_T_removeBar 32 = .ok (.isub, 1) := by decide +kernel
theorem d_T_removeBar_33 : decode c_T_removeBar 33 = .ok (.aload_n 0, 1) := by decide +kernel
theorem d_T_removeBar_34 : decode c_T_removeBar 34 = .ok (.getfield 22, 3) := by decide +kernel
theorem d_T_removeBar_37 : decode c_T_removeBar 37 = .ok (.iload_n 2, 1) := by decide +kernel
theorem d_T_removeBar_38 : decode c_T_removeBar 38 = .ok (.iaload, 1) := by decide +kernel
theorem d_T_removeBar_39 : decode c_T_removeBar 39 = .ok (.iastore, 1) := by decide +kernel
theorem d_T_removeBar_40 : decode c_T_removeBar 40 = .ok (.aload_n 0, 1) := by decide +kernel
theorem d_T_removeBar_41 : decode c_T_removeBar 41 = .ok (.getfield 25, 3) := by decide +kernel
theorem d_T_removeBar_44 : decode c_T_removeBar 44 = .ok (.iload_n 2, 1) := by decide +kernel
theorem d_T_removeBar_45 : decode c_T_removeBar 45 = .ok (.iconst 1, 1) := by decide +kernel
theorem d_T_removeBar_46 : decode c_T_removeBar 46 = .ok (.isub, 1) := by decide +kernel
theorem d_T_removeBar_47 : decode c_T_removeBar 47 = .ok (.aload_n 0, 1) := by decide +kernel
theorem d_T_removeBar_48 : decode c_T_removeBar 48 = .ok (.getfield 25, 3) := by decide +kernel
theorem d_T_removeBar_51 : decode c_T_removeBar 51 = .ok (.iload_n 2, 1) := by decide +kernel
theorem d_T_removeBar_52 : decode c_T_removeBar 52 = .ok (.iaload, 1) := by decide +kernel
theorem d_T_removeBar_53 : decode c_T_removeBar 53 = .ok (.iastore, 1) := by decide +kernel
theorem d_T_removeBar_54 : decode c_T_removeBar 54 = .ok (.iinc 2 1, 3) := by decide +kernel
theorem d_T_removeBar_57 : decode c_T_removeBar 57 = .ok (.goto (-53), 3) := by decide +kernel
theorem d_T_removeBar_60 : decode c_T_removeBar 60 = .ok (.aload_n 0, 1) := by decide +kernel
theorem d_T_removeBar_61 : decode c_T_removeBar 61 = .ok (.dup, 1) := by decide +kernel
theorem d_T_removeBar_62 : decode c_T_removeBar 62 = .ok (.getfield 28, 3) := by decide +kernel
theorem d_T_removeBar_65 : decode c_T_removeBar 65 = .ok (.iconst 1, 1) := by decide +kernel
theorem d_T_removeBar_66 : decode c_T_removeBar 66 = .ok (.isub, 1) := by decide +kernel
theorem d_T_removeBar_67 : decode c_T_removeBar 67 = .ok (.putfield 28, 3) := by decide +kernel
theorem d_T_removeBar_70 : decode c_T_removeBar 70 = .ok (.return_, 1) := by decide +kernel
theorem d_S_hold_0 : decode c_S_hold 0 = .ok (.iload_n 1, 1) := by decide +kernel
theorem d_S_hold_1 : decode c_S_hold 1 = .ok (.invokestatic 41, 3) := by decide +kernel
theorem d_S_hold_4 : decode c_S_hold 4 = .ok (.ifCond .eq 24, 3) := by decide +kernel
theorem d_S_hold_7 : decode c_S_hold 7 = .ok (.iload_n 2, 1) := by decide +kernel
theorem d_S_hold_8 : decode c_S_hold 8 = .ok (.invokestatic 71, 3) := by decide +kernel
theorem d_S_hold_11 : decode c_S_hold 11 = .ok (.ifCond .eq 17, 3) := by decide +kernel
theorem d_S_hold_14 : decode c_S_hold 14 = .ok (.iload 4, 2) := by decide +kernel
theorem d_S_hold_16 : decode c_S_hold 16 = .ok (.bipush (-9), 2) := by decide +kernel
theorem d_S_hold_18 : decode c_S_hold 18 = .ok (.if_icmp .lt 10, 3) := by decide +kernel
theorem d_S_hold_21 : decode c_S_hold 21 = .ok (.iload 4, 2) := by decide +kernel
theorem d_S_hold_23 : decode c_S_hold 23 = .ok (.bipush 9, 2) := by decide +kernel
theorem d_S_hold_25 : decode c_S_hold 25 = .ok (.if_icmp .le 5, 3) := by decide +kernel
theorem d_S_hold_28 : decode c_S_hold 28 = .ok (.iconst (-1), 1) := by decide +kernel
theorem d_S_hold_29 : decode c_S_hold 29 = .ok (.ireturn, 1) := by decide +kernel
theorem d_S_hold_30 : decode c_S_hold 30 = .ok (.aload_n 0, 1) := by decide +kernel
theorem d_S_hold_31 : decode c_S_hold 31 = .ok (.getfield 37, 3) := by decide +kernel
theorem d_S_hold_34 : decode c_S_hold 34 = .ok (.ifCond .eq 6, 3) := by decide +kernel
theorem d_S_hold_37 : decode c_S_hold 37 = .ok (.bipush (-4), 2) := by decide +kernel
theorem d_S_hold_39 : decode c_S_hold 39 = .ok (.ireturn, 1) := by decide +kernel
theorem d_S_hold_40 : decode c_S_hold 40 = .ok (.iload_n 1, 1) := by decide +kernel
theorem d_S_hold_41 : decode c_S_hold 41 = .ok (.iload_n 2, 1) := by decide +kernel
theorem d_S_hold_42 : decode c_S_hold 42 = .ok (.invokestatic 74, 3) := by decide +kernel
theorem d_S_hold_45 : decode c_S_hold 45 = .ok (.istore 5, 2) := by decide +kernel
theorem d_S_hold_47 : decode c_S_hold 47 = .ok (.aload_n 0, 1) := by decide +kernel
theorem d_S_hold_48 : decode c_S_hold 48 = .ok (.getfield 12, 3) := by decide +kernel
theorem d_S_hold_51 : decode c_S_hold 51 = .ok (.getfield 78, 3) := by decide +kernel
theorem d_S_hold_54 : decode c_S_hold 54 = .ok (.iload 5, 2) := by decide +kernel
theorem d_S_hold_56 : decode c_S_hold 56 = .ok (.iload_n 3, 1) := by decide +kernel
theorem d_S_hold_57 : decode c_S_hold 57 = .ok (.bastore, 1) := by decide +kernel
theorem d_S_hold_58 : decode c_S_hold 58 = .ok (.aload_n 0, 1) := by decide +kernel
theorem d_S_hold_59 : decode c_S_hold 59 = .ok (.getfield 12, 3) := by decide +kernel
theorem d_S_hold_62 : decode c_S_hold 62 = .ok (.getfield 82, 3) := by decide +kernel
theorem d_S_hold_65 : decode c_S_hold 65 = .ok (.iload 5, 2) := by decide +kernel
theorem d_S_hold_67 : decode c_S_hold 67 = .ok (.iload 4, 2) := by decide +kernel
theorem d_S_hold_69 : decode c_S_hold 69 = .ok (.iastore, 1) := by decide +kernel
theorem d_S_hold_70 : decode c_S_hold 70 = .ok (.iconst 0, 1) := by decide +kernel
theorem d_S_hold_71 : decode c_S_hold 71 = .ok (.ireturn, 1) := by decide +kernel
end
section
theorem d_S_isDirection_0 : decode c_S_isDirection 0 = .ok (.iload_n 0, 1) := by decide +kernel
theorem d_S_isDirection_1 : decode c_S_isDirection 1 = .ok (.ifCond .lt 12, 3) := by decide +kernel
theorem d_S_isDirection_4 : decode c_S_isDirection 4 = .ok (.iload_n 0, 1) := by decide +kernel
theorem d_S_isDirection_5 : decode c_S_isDirection 5 = .ok (.iconst 2, 1) := by decide +kernel
theorem d_S_isDirection_6 : decode c_S_isDirection 6 = .ok (.if_icmp .ge 7, 3) := by decide +kernel
theorem d_S_isDirection_9 : decode c_S_isDirection 9 = .ok (.iconst 1, 1) := by decide +kernel
theorem d_S_isDirection_10 : decode c_S_isDirection 10 = .ok (.goto 4, 3) := by decide +kernel
theorem d_S_isDirection_13 : decode c_S_isDirection 13 = .ok (.iconst 0, 1) := by decide +kernel
theorem d_S_isDirection_14 : decode c_S_isDirection 14 = .ok (.ireturn, 1) := by decide +kernel
theorem d_S_spring_0 : decode c_S_spring 0 = .ok (.iload_n 1, 1) := by decide +kernel
theorem d_S_spring_1 : decode c_S_spring 1 = .ok (.invokestatic 41, 3) := by decide +kernel
theorem d_S_spring_4 : decode c_S_spring 4 = .ok (.ifCond .eq 19, 3) := by decide +kernel
theorem d_S_spring_7 : decode c_S_spring 7 = .ok (.iload_n 2, 1) := by decide +kernel
theorem d_S_spring_8 : decode c_S_spring 8 = .ok (.invokestatic 71, 3) := by decide +kernel
theorem d_S_spring_11 : decode c_S_spring 11 = .ok (.ifCond .eq 12, 3) := by decide +kernel
theorem d_S_spring_14 : decode c_S_spring 14 = .ok (.iload_n 3, 1) := by decide +kernel
theorem d_S_spring_15 : decode c_S_spring 15 = .ok (.ifCond .lt 8, 3) := by decide +kernel
theorem d_S_spring_18 : decode c_S_spring 18 = .ok (.iload_n 3, 1) := by decide +kernel
theorem d_S_spring_19 : decode c_S_spring 19 = .ok (.iconst 3, 1) := by decide +kernel
theorem d_S_spring_20 : decode c_S_spring 20 = .ok (.if_icmp .le 5, 3) := by decide +kernel
theorem d_S_spring_23 : decode c_S_spring 23 = .ok (.iconst (-1), 1) := by decide +kernel
theorem d_S_spring_24 : decode c_S_spring 24 = .ok (.ireturn, 1) := by decide +kernel
theorem d_S_spring_25 : decode c_S_spring 25 = .ok (.aload_n 0, 1) := by decide +kernel
theorem d_S_spring_26 : decode c_S_spring 26 = .ok (.getfield 37, 3) := by decide +kernel
theorem d_S_spring_29 : decode c_S_spring 29 = .ok (.ifCond .eq 6, 3) := by decide +kernel
theorem d_S_spring_32 : decode c_S_spring 32 = .ok (.bipush (-4), 2) := by decide +kernel
theorem d_S_spring_34 : decode c_S_spring 34 = .ok (.ireturn, 1) := by decide +kernel
theorem d_S_spring_35 : decode c_S_spring 35 = .ok (.aload_n 0, 1) := by decide +kernel
theorem d_S_spring_36 : decode c_S_spring 36 = .ok (.getfield 12, 3) := by decide +kernel
theorem d_S_spring_39 : decode c_S_spring 39 = .ok (.getfield 86, 3) := by decide +kernel
theorem d_S_spring_42 : decode c_S_spring 42 = .ok (.iload_n 1, 1) := by decide +kernel
theorem d_S_spring_43 : decode c_S_spring 43 = .ok (.iload_n 2, 1) := by decide +kernel
theorem d_S_spring_44 : decode c_S_spring 44 = .ok (.invokestatic 74, 3) := by decide +kernel
theorem d_S_spring_47 : decode c_S_spring 47 = .ok (.iload_n 3, 1) := by decide +kernel
theorem d_S_spring_48 : decode c_S_spring 48 = .ok (.iastore, 1) := by decide +kernel
theorem d_S_spring_49 : decode c_S_spring 49 = .ok (.iconst 0, 1) := by decide +kernel
theorem d_S_spring_50 : decode c_S_spring 50 = .ok (.ireturn, 1) := by decide +kernel
theorem d_S_load_0 : decode c_S_load 0 = .ok (.iload_n 1, 1) := by decide +kernel
theorem d_S_load_1 : decode c_S_load 1 = .ok (.invokestatic 89, 3) := by decide +kernel
theorem d_S_load_4 : decode c_S_load 4 = .ok (.ifCond .eq 31, 3) := by decide +kernel
theorem d_S_load_7 : decode c_S_load 7 = .ok (.iload_n 2, 1) := by decide +kernel
theorem d_S_load_8 : decode c_S_load 8 = .ok (.invokestatic 41, 3) := by decide +kernel
theorem d_S_load_11 : decode c_S_load 11 = .ok (.ifCond .eq 24, 3) := by decide +kernel
theorem d_S_load_14 : decode c_S_load 14 = .ok (.iload_n 3, 1) := by decide +kernel
theorem d_S_load_15 : decode c_S_load 15 = .ok (.invokestatic 71, 3) := by decide +kernel
theorem d_S_load_18 : decode c_S_load 18 = .ok (.ifCond .eq 17, 3) := by decide +kernel
theorem d_S_load_21 : decode c_S_load 21 = .ok (.iload 4, 2) := by decide +kernel
theorem d_S_load_23 : decode c_S_load 23 = .ok (.bipush (-99), 2) := by decide +kernel
theorem d_S_load_25 : decode c_S_load 25 = .ok (.if_icmp .lt 10, 3) := by decide +kernel
theorem d_S_load_28 : decode c_S_load 28 = .ok (.iload 4, 2) := by decide +kernel
theorem d_S_load_30 : decode c_S_load 30 = .ok (.bipush 99, 2) := by decide +kernel
theorem d_S_load_32 : decode c_S_load 32 = .ok (.if_icmp .le 5, 3) := by decide +kernel
theorem d_S_load_35 : decode c_S_load 35 = .ok (.iconst (-1), 1) := by decide +kernel
theorem d_S_load_36 : decode c_S_load 36 = .ok (.ireturn, 1) := by decide +kernel
theorem d_S_load_37 : decode c_S_load 37 = .ok (.aload_n 0, 1) := by decide +kernel
theorem d_S_load_38 : decode c_S_load 38 = .ok (.getfield 12, 3) := by decide +kernel
theorem d_S_load_41 : decode c_S_load 41 = .ok (.getfield 92, 3) := by decide +kernel
theorem d_S_load_44 : decode c_S_load 44 = .ok (.iload_n 1, 1) := by decide +kernel
theorem d_S_load_45 : decode c_S_load 45 = .ok (.aaload, 1) := by decide +kernel
theorem d_S_load_46 : decode c_S_load 46 = .ok (.iload_n 2, 1) := by decide +kernel
theorem d_S_load_47 : decode c_S_load 47 = .ok (.iload_n 3, 1) := by decide +kernel
theorem d_S_load_48 : decode c_S_load 48 = .ok (.invokestatic 74, 3) := by decide +kernel
theorem d_S_load_51 : decode c_S_load 51 = .ok (.iload 4, 2) := by decide +kernel
theorem d_S_load_53 : decode c_S_load 53 = .ok (.iastore, 1) := by decide +kernel
theorem d_S_load_54 : decode c_S_load 54 = .ok (.iconst 0, 1) := by decide +kernel
theorem d_S_load_55 : decode c_S_load 55 = .ok (.ireturn, 1) := by decide +kernel
theorem d_S_isCase_0 : decode c_S_isCase 0 = .ok (.iload_n 0, 1) := by decide +kernel
theorem d_S_isCase_1 : decode c_S_isCase 1 = .ok (.ifCond .lt 12, 3) := by decide +kernel
theorem d_S_isCase_4 : decode c_S_isCase 4 = .ok (.iload_n 0, 1) := by decide +kernel
theorem d_S_isCase_5 : decode c_S_isCase 5 = .ok (.iconst 4, 1) := by decide +kernel
theorem d_S_isCase_6 : decode c_S_isCase 6 = .ok (.if_icmp .ge 7, 3) := by decide +kernel
theorem d_S_isCase_9 : decode c_S_isCase 9 = .ok (.iconst 1, 1) := by decide +kernel
theorem d_S_isCase_10 : decode c_S_isCase 10 = .ok (.goto 4, 3) := by decide +kernel
theorem d_S_isCase_13 : decode c_S_isCase 13 = .ok (.iconst 0, 1) := by decide +kernel
theorem d_S_isCase_14 : decode c_S_isCase 14 = .ok (.ireturn, 1) := by decide +kernel
theorem d_S_solve_0 : decode c_S_solve 0 = .ok (.aload_n 0, 1) := by decide +kernel
theorem d_S_solve_1 : decode c_S_solve 1 = .ok (.getfield 37, 3) := by decide +kernel
theorem d_S_solve_4 : decode c_S_solve 4 = .ok (.ifCond .eq 6, 3) := by decide +kernel
theorem d_S_solve_7 : decode c_S_solve 7 = .ok (.bipush (-4), 2) := by decide +kernel
theorem d_S_solve_9 : decode c_S_solve 9 = .ok (.ireturn, 1) := by decide +kernel
theorem d_S_solve_10 : decode c_S_solve 10 = .ok (.aload_n 0, 1) := by decide +kernel
theorem d_S_solve_11 : decode c_S_solve 11 = .ok (.getfield 12, 3) := by decide +kernel
theorem d_S_solve_14 : decode c_S_solve 14 = .ok (.invokevirtual 96, 3) := by decide +kernel
theorem d_S_solve_17 : decode c_S_solve 17 = .ok (.ifCond .ne 6, 3) := by decide +kernel
theorem d_S_solve_20 : decode c_S_solve 20 = .ok (.bipush (-100), 2) := by decide +kernel
theorem d_S_solve_22 : decode c_S_solve 22 = .ok (.ireturn, 1) := by decide +kernel
theorem d_S_solve_23 : decode c_S_solve 23 = .ok (.aload_n 0, 1) := by decide +kernel
theorem d_S_solve_24 : decode c_S_solve 24 = .ok (.getfield 12, 3) := by decide +kernel
theorem d_S_solve_27 : decode c_S_solve 27 = .ok (.invokevirtual 100, 3) := by decide +kernel
theorem d_S_solve_30 : decode c_S_solve 30 = .ok (.istore_n 1, 1) := by decide +kernel
theorem d_S_solve_31 : decode c_S_solve 31 = .ok (.iload_n 1, 1) := by decide +kernel
theorem d_S_solve_32 : decode c_S_solve 32 = .ok (.ifCond .lt 9, 3) := by decide +kernel
theorem d_S_solve_35 : decode c_S_solve 35 = .ok (.sipush (-200), 3) := by decide +kernel
theorem d_S_solve_38 : decode c_S_solve 38 = .ok (.iload_n 1, 1) := by decide +kernel
theorem d_S_solve_39 : decode c_S_solve 39 = .ok (.isub, 1) := by decide +kernel
theorem d_S_solve_40 : decode c_S_solve 40 = .ok (.ireturn, 1) := by decide +kernel
theorem d_S_solve_41 : decode c_S_solve 41 = .ok (.aload_n 0, 1) := by decide +kernel
theorem d_S_solve_42 : decode c_S_solve 42 = .ok (.getfield 19, 3) := by decide +kernel
theorem d_S_solve_45 : decode c_S_solve 45 = .ok (.aload_n 0, 1) := by decide +kernel
theorem d_S_solve_46 : decode c_S_solve 46 = .ok (.getfield 12, 3) := by decide +kernel
theorem d_S_solve_49 : decode c_S_solve 49 = .ok (.invokevirtual 103, 3) := by decide +kernel
theorem d_S_solve_52 : decode c_S_solve 52 = .ok (.aload_n 0, 1) := by decide +kernel
theorem d_S_solve_53 : decode c_S_solve 53 = .ok (.getfield 26, 3) := by decide +kernel
theorem d_S_solve_56 : decode c_S_solve 56 = .ok (.aload_n 0, 1) := by decide +kernel
theorem d_S_solve_57 : decode c_S_solve 57 = .ok (.getfield 12, 3) := by decide +kernel
theorem d_S_solve_60 : decode c_S_solve 60 = .ok (.aload_n 0, 1) := by decide +kernel
theorem d_S_solve_61 : decode c_S_solve 61 = .ok (.getfield 19, 3) := by decide +kernel
theorem d_S_solve_64 : decode c_S_solve 64 = .ok (.invokevirtual 107, 3) := by decide +kernel
theorem d_S_solve_67 : decode c_S_solve 67 = .ok (.aload_n 0, 1) := by decide +kernel
theorem d_S_solve_68 : decode c_S_solve 68 = .ok (.getfield 26, 3) := by decide +kernel
theorem d_S_solve_71 : decode c_S_solve 71 = .ok (.invokevirtual 110, 3) := by decide +kernel
theorem d_S_solve_74 : decode c_S_solve 74 = .ok (.istore_n 2, 1) := by decide +kernel
theorem d_S_solve_75 : decode c_S_solve 75 = .ok (.iload_n 2, 1) := by decide +kernel
theorem d_S_solve_76 : decode c_S_solve 76 = .ok (.ifCond .lt 9, 3) := by decide +kernel
theorem d_S_solve_79 : decode c_S_solve 79 = .ok (.sipush (-300), 3) := by decide +kernel
theorem d_S_solve_82 : decode c_S_solve 82 = .ok (.iload_n 2, 1) := by decide +kernel
theorem d_S_solve_83 : decode c_S_solve 83 = .ok (.isub, 1) := by decide +kernel
theorem d_S_solve_84 : decode c_S_solve 84 = .ok (.ireturn, 1) := by decide +kernel
theorem d_S_solve_85 : decode c_S_solve 85 = .ok (.aload_n 0, 1) := by decide +kernel
theorem d_S_solve_86 : decode c_S_solve 86 = .ok (.iconst 1, 1) := by decide +kernel
theorem d_S_solve_87 : decode c_S_solve 87 = .ok (.putfield 37, 3) := by decide +kernel
theorem d_S_solve_90 : decode c_S_solve 90 = .ok (.aload_n 0, 1) := by decide +kernel
theorem d_S_solve_91 : decode c_S_solve 91 = .ok (.getfield 19, 3) := by decide +kernel
theorem d_S_solve_94 : decode c_S_solve 94 = .ok (.getfield 113, 3) := by decide +kernel
theorem d_S_solve_97 : decode c_S_solve 97 = .ok (.ireturn, 1) := by decide +kernel
theorem d_T_nodeCount_0 : decode c_T_nodeCount 0 = .ok (.aload_n 0, 1) := by decide +kernel
theorem d_T_nodeCount_1 : decode c_T_nodeCount 1 = .ok (.getfield 9, 3) := by decide +kernel
theorem d_T_nodeCount_4 : decode c_T_nodeCount 4 = .ok (.invokestatic 46, 3) := by decide +kernel
theorem d_T_nodeCount_7 : decode c_T_nodeCount 7 = .ok (.ireturn, 1) := by decide +kernel
theorem d_J_bitCount_0 : decode c_J_bitCount 0 = .ok (.iload_n 0, 1) := by decide +kernel
theorem d_J_bitCount_1 : decode c_J_bitCount 1 = .ok (.iload_n 0, 1) := by decide +kernel
theorem d_J_bitCount_2 : decode c_J_bitCount 2 = .ok (.iconst 1, 1) := by decide +kernel
theorem d_J_bitCount_3 : decode c_J_bitCount 3 = .ok (.iushr, 1) := by decide +kernel
theorem d_J_bitCount_4 : decode c_J_bitCount 4 = .ok (.ldc_w 265, 3) := by decide +kernel
theorem d_J_bitCount_7 : decode c_J_bitCount 7 = .ok (.iand, 1) := by decide +kernel
theorem d_J_bitCount_8 : decode c_J_bitCount 8 = .ok (.isub, 1) := by decide +kernel
theorem d_J_bitCount_9 : decode c_J_bitCount 9 = .ok (.istore_n 0, 1) := by decide +kernel
theorem d_J_bitCount_10 : decode c_J_bitCount 10 = .ok (.iload_n 0, 1) := by decide +kernel
theorem d_J_bitCount_11 : decode c_J_bitCount 11 = .ok (.ldc_w 266, 3) := by decide +kernel
theorem d_J_bitCount_14 : decode c_J_bitCount 14 = .ok (.iand, 1) := by decide +kernel
theorem d_J_bitCount_15 : decode c_J_bitCount 15 = .ok (.iload_n 0, 1) := by decide +kernel
theorem d_J_bitCount_16 : decode c_J_bitCount 16 = .ok (.iconst 2, 1) := by decide +kernel
theorem d_J_bitCount_17 : decode c_J_bitCount 17 = .ok (.iushr, 1) := by decide +kernel
theorem d_J_bitCount_18 : decode c_J_bitCount 18 = .ok (.ldc_w 266, 3) := by decide +kernel
theorem d_J_bitCount_21 : decode c_J_bitCount 21 = .ok (.iand, 1) := by decide +kernel
theorem d_J_bitCount_22 : decode c_J_bitCount 22 = .ok (.iadd, 1) := by decide +kernel
theorem d_J_bitCount_23 : decode c_J_bitCount 23 = .ok (.istore_n 0, 1) := by decide +kernel
theorem d_J_bitCount_24 : decode c_J_bitCount 24 = .ok (.iload_n 0, 1) := by decide +kernel
theorem d_J_bitCount_25 : decode c_J_bitCount 25 = .ok (.iload_n 0, 1) := by decide +kernel
theorem d_J_bitCount_26 : decode c_J_bitCount 26 = .ok (.iconst 4, 1) := by decide +kernel
theorem d_J_bitCount_27 : decode c_J_bitCount 27 = .ok (.iushr, 1) := by decide +kernel
theorem d_J_bitCount_28 : decode c_J_bitCount 28 = .ok (.iadd, 1) := by decide +kernel
theorem d_J_bitCount_29 : decode c_J_bitCount 29 = .ok (.ldc_w 267, 3) := by decide +kernel
theorem d_J_bitCount_32 : decode c_J_bitCount 32 = .ok (.iand, 1) := by decide +kernel
theorem d_J_bitCount_33 : decode c_J_bitCount 33 = .ok (.istore_n 0, 1) := by decide +kernel
theorem d_J_bitCount_34 : decode c_J_bitCount 34 = .ok (.iload_n 0, 1) := by decide +kernel
theorem d_J_bitCount_35 : decode c_J_bitCount 35 = .ok (.iload_n 0, 1) := by decide +kernel
theorem d_J_bitCount_36 : decode c_J_bitCount 36 = .ok (.bipush 8, 2) := by decide +kernel
theorem d_J_bitCount_38 : decode c_J_bitCount 38 = .ok (.iushr, 1) := by decide +kernel
theorem d_J_bitCount_39 : decode c_J_bitCount 39 = .ok (.iadd, 1) := by decide +kernel
theorem d_J_bitCount_40 : decode c_J_bitCount 40 = .ok (.istore_n 0, 1) := by decide +kernel
theorem d_J_bitCount_41 : decode c_J_bitCount 41 = .ok (.iload_n 0, 1) := by decide +kernel
theorem d_J_bitCount_42 : decode c_J_bitCount 42 = .ok (.iload_n 0, 1) := by decide +kernel
theorem d_J_bitCount_43 : decode c_J_bitCount 43 = .ok (.bipush 16, 2) := by decide +kernel
theorem d_J_bitCount_45 : decode c_J_bitCount 45 = .ok (.iushr, 1) := by decide +kernel
theorem d_J_bitCount_46 : decode c_J_bitCount 46 = .ok (.iadd, 1) := by decide +kernel
theorem d_J_bitCount_47 : decode c_J_bitCount 47 = .ok (.istore_n 0, 1) := by decide +kernel
theorem d_J_bitCount_48 : decode c_J_bitCount 48 = .ok (.iload_n 0, 1) := by decide +kernel
theorem d_J_bitCount_49 : decode c_J_bitCount 49 = .ok (.bipush 63, 2) := by decide +kernel
theorem d_J_bitCount_51 : decode c_J_bitCount 51 = .ok (.iand, 1) := by decide +kernel
theorem d_J_bitCount_52 : decode c_J_bitCount 52 = .ok (.ireturn, 1) := by decide +kernel
theorem d_T_firstBadBar_0 : decode c_T_firstBadBar 0 = .ok (.iconst 0, 1) := by decide +kernel
theorem d_T_firstBadBar_1 : decode c_T_firstBadBar 1 = .ok (.istore_n 1, 1) := by decide +kernel
theorem d_T_firstBadBar_2 : decode c_T_firstBadBar 2 = .ok (.iload_n 1, 1) := by decide +kernel
theorem d_T_firstBadBar_3 : decode c_T_firstBadBar 3 = .ok (.aload_n 0, 1) := by decide +kernel
theorem d_T_firstBadBar_4 : decode c_T_firstBadBar 4 = .ok (.getfield 28, 3) := by decide +kernel
theorem d_T_firstBadBar_7 : decode c_T_firstBadBar 7 = .ok (.if_icmp .ge 45, 3) := by decide +kernel
theorem d_T_firstBadBar_10 : decode c_T_firstBadBar 10 = .ok (.aload_n 0, 1) := by decide +kernel
theorem d_T_firstBadBar_11 : decode c_T_firstBadBar 11 = .ok (.aload_n 0, 1) := by decide +kernel
theorem d_T_firstBadBar_12 : decode c_T_firstBadBar 12 = .ok (.getfield 19, 3) := by decide +kernel
theorem d_T_firstBadBar_15 : decode c_T_firstBadBar 15 = .ok (.iload_n 1, 1) := by decide +kernel
theorem d_T_firstBadBar_16 : decode c_T_firstBadBar 16 = .ok (.iaload, 1) := by decide +kernel
theorem d_T_firstBadBar_17 : decode c_T_firstBadBar 17 = .ok (.invokevirtual 52, 3) := by decide +kernel
theorem d_T_firstBadBar_20 : decode c_T_firstBadBar 20 = .ok (.ifCond .eq 24, 3) := by decide +kernel
theorem d_T_firstBadBar_23 : decode c_T_firstBadBar 23 = .ok (.aload_n 0, 1) := by decide +kernel
theorem d_T_firstBadBar_24 : decode c_T_firstBadBar 24 = .ok (.aload_n 0, 1) := by decide +kernel
theorem d_T_firstBadBar_25 : decode c_T_firstBadBar 25 = .ok (.getfield 22, 3) := by decide +kernel
theorem d_T_firstBadBar_28 : decode c_T_firstBadBar 28 = .ok (.iload_n 1, 1) := by decide +kernel
theorem d_T_firstBadBar_29 : decode c_T_firstBadBar 29 = .ok (.iaload, 1) := by decide +kernel
theorem d_T_firstBadBar_30 : decode c_T_firstBadBar 30 = .ok (.invokevirtual 52, 3) := by decide +kernel
theorem d_T_firstBadBar_33 : decode c_T_firstBadBar 33 = .ok (.ifCond .eq 11, 3) := by decide +kernel
theorem d_T_firstBadBar_36 : decode c_T_firstBadBar 36 = .ok (.aload_n 0, 1) := by decide +kernel
theorem d_T_firstBadBar_37 : decode c_T_firstBadBar 37 = .ok (.iload_n 1, 1) := by decide +kernel
theorem d_T_firstBadBar_38 : decode c_T_firstBadBar 38 = .ok (.invokevirtual 60, 3) := by decide +kernel
theorem d_T_firstBadBar_41 : decode c_T_firstBadBar 41 = .ok (.ifCond .ne 5, 3) := by decide +kernel
theorem d_T_firstBadBar_44 : decode c_T_firstBadBar 44 = .ok (.iload_n 1, 1) := by decide +kernel
theorem d_T_firstBadBar_45 : decode c_T_firstBadBar 45 = .ok (.ireturn, 1) := by decide +kernel
theorem d_T_firstBadBar_46 : decode c_T_firstBadBar 46 = .ok (.iinc 1 1, 3) := by decide +kernel
theorem d_T_firstBadBar_49 : decode c_T_firstBadBar 49 = .ok (.goto (-47), 3) := by decide +kernel
theorem d_T_firstBadBar_52 : decode c_T_firstBadBar 52 = .ok (.iconst (-1), 1) := by decide +kernel
theorem d_T_firstBadBar_53 : decode c_T_firstBadBar 53 = .ok (.ireturn, 1) := by decide +kernel
theorem d_T_isGood_0 : decode c_T_isGood 0 = .ok (.aload_n 0, 1) := by decide +kernel
theorem d_T_isGood_1 : decode c_T_isGood 1 = .ok (.iload_n 1, 1) := by decide +kernel
theorem d_T_isGood_2 : decode c_T_isGood 2 = .ok (.iconst 0, 1) := by decide +kernel
theorem d_T_isGood_3 : decode c_T_isGood 3 = .ok (.invokevirtual 63, 3) := by decide +kernel
theorem d_T_isGood_6 : decode c_T_isGood 6 = .ok (.istore_n 2, 1) := by decide +kernel
theorem d_T_isGood_7 : decode c_T_isGood 7 = .ok (.aload_n 0, 1) := by decide +kernel
theorem d_T_isGood_8 : decode c_T_isGood 8 = .ok (.iload_n 1, 1) := by decide +kernel
theorem d_T_isGood_9 : decode c_T_isGood 9 = .ok (.iconst 1, 1) := by decide +kernel
theorem d_T_isGood_10 : decode c_T_isGood 10 = .ok (.invokevirtual 63, 3) := by decide +kernel
theorem d_T_isGood_13 : decode c_T_isGood 13 = .ok (.istore_n 3, 1) := by decide +kernel
theorem d_T_isGood_14 : decode c_T_isGood 14 = .ok (.iload_n 2, 1) := by decide +kernel
theorem d_T_isGood_15 : decode c_T_isGood 15 = .ok (.ifCond .eq 18, 3) := by decide +kernel
theorem d_T_isGood_18 : decode c_T_isGood 18 = .ok (.iload_n 3, 1) := by decide +kernel
theorem d_T_isGood_19 : decode c_T_isGood 19 = .ok (.ifCond .eq 14, 3) := by decide +kernel
theorem d_T_isGood_22 : decode c_T_isGood 22 = .ok (.iload_n 2, 1) := by decide +kernel
theorem d_T_isGood_23 : decode c_T_isGood 23 = .ok (.invokestatic 66, 3) := by decide +kernel
theorem d_T_isGood_26 : decode c_T_isGood 26 = .ok (.iload_n 3, 1) := by decide +kernel
theorem d_T_isGood_27 : decode c_T_isGood 27 = .ok (.invokestatic 66, 3) := by decide +kernel
theorem d_T_isGood_30 : decode c_T_isGood 30 = .ok (.if_icmp .ne 7, 3) := by decide +kernel
theorem d_T_isGood_33 : decode c_T_isGood 33 = .ok (.iconst 1, 1) := by decide +kernel
theorem d_T_isGood_34 : decode c_T_isGood 34 = .ok (.goto 4, 3) := by decide +kernel
theorem d_T_isGood_37 : decode c_T_isGood 37 = .ok (.iconst 0, 1) := by decide +kernel
theorem d_T_isGood_38 : decode c_T_isGood 38 = .ok (.ireturn, 1) := by decide +kernel
theorem d_T_reach_0 : decode c_T_reach 0 = .ok (.aload_n 0, 1) := by decide +kernel
theorem d_T_reach_1 : decode c_T_reach 1 = .ok (.getfield 15, 3) := by decide +kernel
theorem d_T_reach_4 : decode c_T_reach 4 = .ok (.aload_n 0, 1) := by decide +kernel
theorem d_T_reach_5 : decode c_T_reach 5 = .ok (.getfield 22, 3) := by decide +kernel
theorem d_T_reach_8 : decode c_T_reach 8 = .ok (.iload_n 1, 1) := by decide +kernel
theorem d_T_reach_9 : decode c_T_reach 9 = .ok (.iaload, 1) := by decide +kernel
theorem d_T_reach_10 : decode c_T_reach 10 = .ok (.iload_n 2, 1) := by decide +kernel
theorem d_T_reach_11 : decode c_T_reach 11 = .ok (.invokestatic 56, 3) := by decide +kernel
theorem d_T_reach_14 : decode c_T_reach 14 = .ok (.iaload, 1) := by decide +kernel
theorem d_T_reach_15 : decode c_T_reach 15 = .ok (.aload_n 0, 1) := by decide +kernel
theorem d_T_reach_16 : decode c_T_reach 16 = .ok (.getfield 15, 3) := by decide +kernel
theorem d_T_reach_19 : decode c_T_reach 19 = .ok (.aload_n 0, 1) := by decide +kernel
theorem d_T_reach_20 : decode c_T_reach 20 = .ok (.getfield 19, 3) := by decide +kernel
theorem d_T_reach_23 : decode c_T_reach 23 = .ok (.iload_n 1, 1) := by decide +kernel
theorem d_T_reach_24 : decode c_T_reach 24 = .ok (.iaload, 1) := by decide +kernel
theorem d_T_reach_25 : decode c_T_reach 25 = .ok (.iload_n 2, 1) := by decide +kernel
theorem d_T_reach_26 : decode c_T_reach 26 = .ok (.invokestatic 56, 3) := by decide +kernel
theorem d_T_reach_29 : decode c_T_reach 29 = .ok (.iaload, 1) := by decide +kernel
theorem d_T_reach_30 : decode c_T_reach 30 = .ok (.isub, 1) := by decide +kernel
theorem d_T_reach_31 : decode c_T_reach 31 = .ok (.ireturn, 1) := by decide +kernel
theorem d_N_make_0 : decode c_N_make 0 = .ok (.aload_n 0, 1) := by decide +kernel
theorem d_N_make_1 : decode c_N_make 1 = .ok (.aload_n 1, 1) := by decide +kernel
theorem d_N_make_2 : decode c_N_make 2 = .ok (.invokevirtual 34, 3) := by decide +kernel
theorem d_N_make_5 : decode c_N_make 5 = .ok (.aload_n 0, 1) := by decide +kernel
theorem d_N_make_6 : decode c_N_make 6 = .ok (.aload_n 1, 1) := by decide +kernel
theorem d_N_make_7 : decode c_N_make 7 = .ok (.invokevirtual 38, 3) := by decide +kernel
theorem d_N_make_10 : decode c_N_make 10 = .ok (.aload_n 0, 1) := by decide +kernel
theorem d_N_make_11 : decode c_N_make 11 = .ok (.invokevirtual 41, 3) := by decide +kernel
theorem d_N_make_14 : decode c_N_make 14 = .ok (.aload_n 0, 1) := by decide +kernel
theorem d_N_make_15 : decode c_N_make 15 = .ok (.aload_n 1, 1) := by decide +kernel
theorem d_N_make_16 : decode c_N_make 16 = .ok (.invokevirtual 44, 3) := by decide +kernel
theorem d_N_make_19 : decode c_N_make 19 = .ok (.return_, 1) := by decide +kernel
theorem d_N_findNeighbours_0 : decode c_N_findNeighbours 0 = .ok (.aload_n 0, 1) := by decide +kernel
theorem d_N_findNeighbours_1 : decode c_N_findNeighbours 1 = .ok (.getfield 22, 3) := by decide +kernel
theorem d_N_findNeighbours_4 : decode c_N_findNeighbours 4 = .ok (.iconst 0, 1) := by decide +kernel
theorem d_N_findNeighbours_5 : decode c_N_findNeighbours 5 = .ok (.invokestatic 47, 3) := by decide +kernel
theorem d_N_findNeighbours_8 : decode c_N_findNeighbours 8 = .ok (.iconst 0, 1) := by decide +kernel
theorem d_N_findNeighbours_9 : decode c_N_findNeighbours 9 = .ok (.istore_n 2, 1) := by decide +kernel
theorem d_N_findNeighbours_10 : decode c_N_findNeighbours 10 = .ok (.iload_n 2, 1) := by decide +kernel
theorem d_N_findNeighbours_11 : decode c_N_findNeighbours 11 = .ok (.aload_n 1, 1) := by decide +kernel
theorem d_N_findNeighbours_12 : decode c_N_findNeighbours 12 = .ok (.getfield 53, 3) := by decide +kernel
theorem d_N_findNeighbours_15 : decode c_N_findNeighbours 15 = .ok (.if_icmp .ge 50, 3) := by decide +kernel
theorem d_N_findNeighbours_18 : decode c_N_findNeighbours 18 = .ok (.aload_n 1, 1) := by decide +kernel
theorem d_N_findNeighbours_19 : decode c_N_findNeighbours 19 = .ok (.getfield 58, 3) := by decide +kernel
theorem d_N_findNeighbours_22 : decode c_N_findNeighbours 22 = .ok (.iload_n 2, 1) := by decide +kernel
theorem d_N_findNeighbours_23 : decode c_N_findNeighbours 23 = .ok (.iaload, 1) := by decide +kernel
theorem d_N_findNeighbours_24 : decode c_N_findNeighbours 24 = .ok (.istore_n 3, 1) := by decide +kernel
theorem d_N_findNeighbours_25 : decode c_N_findNeighbours 25 = .ok (.aload_n 1, 1) := by decide +kernel
theorem d_N_findNeighbours_26 : decode c_N_findNeighbours 26 = .ok (.getfield 61, 3) := by decide +kernel
theorem d_N_findNeighbours_29 : decode c_N_findNeighbours 29 = .ok (.iload_n 2, 1) := by decide +kernel
theorem d_N_findNeighbours_30 : decode c_N_findNeighbours 30 = .ok (.iaload, 1) := by decide +kernel
theorem d_N_findNeighbours_31 : decode c_N_findNeighbours 31 = .ok (.istore 4, 2) := by decide +kernel
theorem d_N_findNeighbours_33 : decode c_N_findNeighbours 33 = .ok (.aload_n 0, 1) := by decide +kernel
theorem d_N_findNeighbours_34 : decode c_N_findNeighbours 34 = .ok (.getfield 22, 3) := by decide +kernel
theorem d_N_findNeighbours_37 : decode c_N_findNeighbours 37 = .ok (.iload_n 3, 1) := by decide +kernel
theorem d_N_findNeighbours_38 : decode c_N_findNeighbours 38 = .ok (.dup2, 1) := by decide +kernel
theorem d_N_findNeighbours_39 : decode c_N_findNeighbours 39 = .ok (.iaload, 1) := by decide +kernel
theorem d_N_findNeighbours_40 : decode c_N_findNeighbours 40 = .ok (.iconst 1, 1) := by decide +kernel
theorem d_N_findNeighbours_41 : decode c_N_findNeighbours 41 = .ok (.iload 4, 2) := by decide +kernel
theorem d_N_findNeighbours_43 : decode c_N_findNeighbours 43 = .ok (.ishl, 1) := by decide +kernel
theorem d_N_findNeighbours_44 : decode c_N_findNeighbours 44 = .ok (.ior, 1) := by decide +kernel
theorem d_N_findNeighbours_45 : decode c_N_findNeighbours 45 = .ok (.iastore, 1) := by decide +kernel
theorem d_N_findNeighbours_46 : decode c_N_findNeighbours 46 = .ok (.aload_n 0, 1) := by decide +kernel
theorem d_N_findNeighbours_47 : decode c_N_findNeighbours 47 = .ok (.getfield 22, 3) := by decide +kernel
theorem d_N_findNeighbours_50 : decode c_N_findNeighbours 50 = .ok (.iload 4, 2) := by decide +kernel
theorem d_N_findNeighbours_52 : decode c_N_findNeighbours 52 = .ok (.dup2, 1) := by decide +kernel
theorem d_N_findNeighbours_53 : decode c_N_findNeighbours 53 = .ok (.iaload, 1) := by decide +kernel
theorem d_N_findNeighbours_54 : decode c_N_findNeighbours 54 = .ok (.iconst 1, 1) := by decide +kernel
theorem d_N_findNeighbours_55 : decode c_N_findNeighbours 55 = .ok (.iload_n 3, 1) := by decide +kernel
theorem d_N_findNeighbours_56 : decode c_N_findNeighbours 56 = .ok (.ishl, 1) := by decide +kernel
theorem d_N_findNeighbours_57 : decode c_N_findNeighbours 57 = .ok (.ior, 1) := by decide +kernel
theorem d_N_findNeighbours_58 : decode c_N_findNeighbours 58 = .ok (.iastore, 1) := by decide +kernel
theorem d_N_findNeighbours_59 : decode c_N_findNeighbours 59 = .ok (.iinc 2 1, 3) := by decide +kernel
theorem d_N_findNeighbours_62 : decode c_N_findNeighbours 62 = .ok (.goto (-52), 3) := by decide +kernel
theorem d_N_findNeighbours_65 : decode c_N_findNeighbours 65 = .ok (.return_, 1) := by decide +kernel
theorem d_J_fillI_0 : decode c_J_fillI 0 = .ok (.iconst 0, 1) := by decide +kernel
theorem d_J_fillI_1 : decode c_J_fillI 1 = .ok (.istore_n 2, 1) := by decide +kernel
theorem d_J_fillI_2 : decode c_J_fillI 2 = .ok (.aload_n 0, 1) := by decide +kernel
theorem d_J_fillI_3 : decode c_J_fillI 3 = .ok (.arraylength, 1) := by decide +kernel
theorem d_J_fillI_4 : decode c_J_fillI 4 = .ok (.istore_n 3, 1) := by decide +kernel
theorem d_J_fillI_5 : decode c_J_fillI 5 = .ok (.iload_n 2, 1) := by decide +kernel
theorem d_J_fillI_6 : decode c_J_fillI 6 = .ok (.iload_n 3, 1) := by decide +kernel
theorem d_J_fillI_7 : decode c_J_fillI 7 = .ok (.if_icmp .ge 13, 3) := by decide +kernel
theorem d_J_fillI_10 : decode c_J_fillI 10 = .ok (.aload_n 0, 1) := by decide +kernel
theorem d_J_fillI_11 : decode c_J_fillI 11 = .ok (.iload_n 2, 1) := by decide +kernel
theorem d_J_fillI_12 : decode c_J_fillI 12 = .ok (.iload_n 1, 1) := by decide +kernel
theorem d_J_fillI_13 : decode c_J_fillI 13 = .ok (.iastore, 1) := by decide +kernel
theorem d_J_fillI_14 : decode c_J_fillI 14 = .ok (.iinc 2 1, 3) := by decide +kernel
theorem d_J_fillI_17 : decode c_J_fillI 17 = .ok (.goto (-12), 3) := by decide +kernel
theorem d_J_fillI_20 : decode c_J_fillI 20 = .ok (.return_, 1) := by decide +kernel
theorem d_N_placeNodes_0 : decode c_N_placeNodes 0 = .ok (.aload_n 0, 1) := by decide +kernel
theorem d_N_placeNodes_1 : decode c_N_placeNodes 1 = .ok (.iconst 0, 1) := by decide +kernel
theorem d_N_placeNodes_2 : decode c_N_placeNodes 2 = .ok (.putfield 15, 3) := by decide +kernel
theorem d_N_placeNodes_5 : decode c_N_placeNodes 5 = .ok (.aload_n 0, 1) := by decide +kernel
theorem d_N_placeNodes_6 : decode c_N_placeNodes 6 = .ok (.iconst 0, 1) := by decide +kernel
theorem d_N_placeNodes_7 : decode c_N_placeNodes 7 = .ok (.putfield 19, 3) := by decide +kernel
theorem d_N_placeNodes_10 : decode c_N_placeNodes 10 = .ok (.aload_n 1, 1) := by decide +kernel
theorem d_N_placeNodes_11 : decode c_N_placeNodes 11 = .ok (.invokevirtual 64, 3) := by decide +kernel
theorem d_N_placeNodes_14 : decode c_N_placeNodes 14 = .ok (.istore_n 2, 1) := by decide +kernel
theorem d_N_placeNodes_15 : decode c_N_placeNodes 15 = .ok (.iconst 0, 1) := by decide +kernel
theorem d_N_placeNodes_16 : decode c_N_placeNodes 16 = .ok (.istore_n 3, 1) := by decide +kernel
theorem d_N_placeNodes_17 : decode c_N_placeNodes 17 = .ok (.iload_n 3, 1) := by decide +kernel
theorem d_N_placeNodes_18 : decode c_N_placeNodes 18 = .ok (.iload_n 2, 1) := by decide +kernel
theorem d_N_placeNodes_19 : decode c_N_placeNodes 19 = .ok (.if_icmp .ge 46, 3) := by decide +kernel
theorem d_N_placeNodes_22 : decode c_N_placeNodes 22 = .ok (.iload_n 3, 1) := by decide +kernel
theorem d_N_placeNodes_23 : decode c_N_placeNodes 23 = .ok (.aload_n 0, 1) := by decide +kernel
theorem d_N_placeNodes_24 : decode c_N_placeNodes 24 = .ok (.getfield 15, 3) := by decide +kernel
theorem d_N_placeNodes_27 : decode c_N_placeNodes 27 = .ok (.if_icmp .ne 22, 3) := by decide +kernel
theorem d_N_placeNodes_30 : decode c_N_placeNodes 30 = .ok (.aload_n 0, 1) := by decide +kernel
theorem d_N_placeNodes_31 : decode c_N_placeNodes 31 = .ok (.aload_n 0, 1) := by decide +kernel
theorem d_N_placeNodes_32 : decode c_N_placeNodes 32 = .ok (.aload_n 1, 1) := by decide +kernel
theorem d_N_placeNodes_33 : decode c_N_placeNodes 33 = .ok (.getfield 68, 3) := by decide +kernel
theorem d_N_placeNodes_36 : decode c_N_placeNodes 36 = .ok (.aload_n 0, 1) := by decide +kernel
theorem d_N_placeNodes_37 : decode c_N_placeNodes 37 = .ok (.getfield 19, 3) := by decide +kernel
theorem d_N_placeNodes_40 : decode c_N_placeNodes 40 = .ok (.iconst (-1), 1) := by decide +kernel
theorem d_N_placeNodes_41 : decode c_N_placeNodes 41 = .ok (.ixor, 1) := by decide +kernel
theorem d_N_placeNodes_42 : decode c_N_placeNodes 42 = .ok (.iand, 1) := by decide +kernel
theorem d_N_placeNodes_43 : decode c_N_placeNodes 43 = .ok (.invokevirtual 71, 3) := by decide +kernel
theorem d_N_placeNodes_46 : decode c_N_placeNodes 46 = .ok (.invokevirtual 75, 3) := by decide +kernel
theorem d_N_placeNodes_49 : decode c_N_placeNodes 49 = .ok (.aload_n 0, 1) := by decide +kernel
theorem d_N_placeNodes_50 : decode c_N_placeNodes 50 = .ok (.aload_n 0, 1) := by decide +kernel
theorem d_N_placeNodes_51 : decode c_N_placeNodes 51 = .ok (.getfield 9, 3) := by decide +kernel
theorem d_N_placeNodes_54 : decode c_N_placeNodes 54 = .ok (.iload_n 3, 1) := by decide +kernel
theorem d_N_placeNodes_55 : decode c_N_placeNodes 55 = .ok (.iaload, 1) := by decide +kernel
theorem d_N_placeNodes_56 : decode c_N_placeNodes 56 = .ok (.invokevirtual 79, 3) := by decide +kernel
theorem d_N_placeNodes_59 : decode c_N_placeNodes 59 = .ok (.iinc 3 1, 3) := by decide +kernel
theorem d_N_placeNodes_62 : decode c_N_placeNodes 62 = .ok (.goto (-45), 3) := by decide +kernel
theorem d_N_placeNodes_65 : decode c_N_placeNodes 65 = .ok (.return_, 1) := by decide +kernel
theorem d_N_leastJoined_0 : decode c_N_leastJoined 0 = .ok (.iconst (-1), 1) := by decide +kernel
theorem d_N_leastJoined_1 : decode c_N_leastJoined 1 = .ok (.istore_n 2, 1) := by decide +kernel
theorem d_N_leastJoined_2 : decode c_N_leastJoined 2 = .ok (.iconst 5, 1) := by decide +kernel
theorem d_N_leastJoined_3 : decode c_N_leastJoined 3 = .ok (.istore_n 3, 1) := by decide +kernel
theorem d_N_leastJoined_4 : decode c_N_leastJoined 4 = .ok (.iconst 0, 1) := by decide +kernel
theorem d_N_leastJoined_5 : decode c_N_leastJoined 5 = .ok (.istore 4, 2) := by decide +kernel
theorem d_N_leastJoined_7 : decode c_N_leastJoined 7 = .ok (.iload 4, 2) := by decide +kernel
theorem d_N_leastJoined_9 : decode c_N_leastJoined 9 = .ok (.iconst 5, 1) := by decide +kernel
theorem d_N_leastJoined_10 : decode c_N_leastJoined 10 = .ok (.if_icmp .ge 42, 3) := by decide +kernel
theorem d_N_leastJoined_13 : decode c_N_leastJoined 13 = .ok (.aload_n 0, 1) := by decide +kernel
theorem d_N_leastJoined_14 : decode c_N_leastJoined 14 = .ok (.getfield 22, 3) := by decide +kernel
theorem d_N_leastJoined_17 : decode c_N_leastJoined 17 = .ok (.iload 4, 2) := by decide +kernel
theorem d_N_leastJoined_19 : decode c_N_leastJoined 19 = .ok (.iaload, 1) := by decide +kernel
theorem d_N_leastJoined_20 : decode c_N_leastJoined 20 = .ok (.invokestatic 82, 3) := by decide +kernel
theorem d_N_leastJoined_23 : decode c_N_leastJoined 23 = .ok (.istore 5, 2) := by decide +kernel
theorem d_N_leastJoined_25 : decode c_N_leastJoined 25 = .ok (.iload_n 1, 1) := by decide +kernel
theorem d_N_leastJoined_26 : decode c_N_leastJoined 26 = .ok (.iload 4, 2) := by decide +kernel
theorem d_N_leastJoined_28 : decode c_N_leastJoined 28 = .ok (.ishr, 1) := by decide +kernel
theorem d_N_leastJoined_29 : decode c_N_leastJoined 29 = .ok (.iconst 1, 1) := by decide +kernel
theorem d_N_leastJoined_30 : decode c_N_leastJoined 30 = .ok (.iand, 1) := by decide +kernel
theorem d_N_leastJoined_31 : decode c_N_leastJoined 31 = .ok (.ifCond .eq 15, 3) := by decide +kernel
theorem d_N_leastJoined_34 : decode c_N_leastJoined 34 = .ok (.iload 5, 2) := by decide +kernel
theorem d_N_leastJoined_36 : decode c_N_leastJoined 36 = .ok (.iload_n 3, 1) := by decide +kernel
theorem d_N_leastJoined_37 : decode c_N_leastJoined 37 = .ok (.if_icmp .ge 9, 3) := by decide +kernel
theorem d_N_leastJoined_40 : decode c_N_leastJoined 40 = .ok (.iload 4, 2) := by decide +kernel
theorem d_N_leastJoined_42 : decode c_N_leastJoined 42 = .ok (.istore_n 2, 1) := by decide +kernel
theorem d_N_leastJoined_43 : decode c_N_leastJoined 43 = .ok (.iload 5, 2) := by decide +kernel
theorem d_N_leastJoined_45 : decode c_N_leastJoined 45 = .ok (.istore_n 3, 1) := by decide +kernel
theorem d_N_leastJoined_46 : decode c_N_leastJoined 46 = .ok (.iinc 4 1, 3) := by decide +kernel
theorem d_N_leastJoined_49 : decode c_N_leastJoined 49 = .ok (.goto (-42), 3) := by decide +kernel
theorem d_N_leastJoined_52 : decode c_N_leastJoined 52 = .ok (.iload_n 2, 1) := by decide +kernel
theorem d_N_leastJoined_53 : decode c_N_leastJoined 53 = .ok (.ireturn, 1) := by decide +kernel
theorem d_N_append_0 : decode c_N_append 0 = .ok (.iload_n 1, 1) := by decide +kernel
theorem d_N_append_1 : decode c_N_append 1 = .ok (.ifCond .lt 11, 3) := by decide +kernel
theorem d_N_append_4 : decode c_N_append 4 = .ok (.aload_n 0, 1) := by decide +kernel
theorem d_N_append_5 : decode c_N_append 5 = .ok (.getfield 15, 3) := by decide +kernel
theorem d_N_append_8 : decode c_N_append 8 = .ok (.iconst 5, 1) := by decide +kernel
theorem d_N_append_9 : decode c_N_append 9 = .ok (.if_icmp .lt 4, 3) := by decide +kernel
theorem d_N_append_12 : decode c_N_append 12 = .ok (.return_, 1) := by decide +kernel
theorem d_N_append_13 : decode c_N_append 13 = .ok (.aload_n 0, 1) := by decide +kernel
theorem d_N_append_14 : decode c_N_append 14 = .ok (.getfield 9, 3) := by decide +kernel
theorem d_N_append_17 : decode c_N_append 17 = .ok (.aload_n 0, 1) := by decide +kernel
theorem d_N_append_18 : decode c_N_append 18 = .ok (.getfield 15, 3) := by decide +kernel
theorem d_N_append_21 : decode c_N_append 21 = .ok (.iload_n 1, 1) := by decide +kernel
theorem d_N_append_22 : decode c_N_append 22 = .ok (.iastore, 1) := by decide +kernel
theorem d_N_append_23 : decode c_N_append 23 = .ok (.aload_n 0, 1) := by decide +kernel
theorem d_N_append_24 : decode c_N_append 24 = .ok (.dup, 1) := by decide +kernel
theorem d_N_append_25 : decode c_N_append 25 = .ok (.getfield 15, 3) := by decide +kernel
theorem d_N_append_28 : decode c_N_append 28 = .ok (.iconst 1, 1) := by decide +kernel
theorem d_N_append_29 : decode c_N_append 29 = .ok (.iadd, 1) := by decide +kernel
theorem d_N_append_30 : decode c_N_append 30 = .ok (.putfield 15, 3) := by decide +kernel
theorem d_N_append_33 : decode c_N_append 33 = .ok (.aload_n 0, 1) := by decide +kernel
theorem d_N_append_34 : decode c_N_append 34 = .ok (.dup, 1) := by decide +kernel
theorem d_N_append_35 : decode c_N_append 35 = .ok (.getfield 19, 3) := by decide +kernel
theorem d_N_append_38 : decode c_N_append 38 = .ok (.iconst 1, 1) := by decide +kernel
theorem d_N_append_39 : decode c_N_append 39 = .ok (.iload_n 1, 1) := by decide +kernel
theorem d_N_append_40 : decode c_N_append 40 = .ok (.ishl, 1) := by decide +kernel
theorem d_N_append_41 : decode c_N_append 41 = .ok (.ior, 1) := by decide +kernel
theorem d_N_append_42 : decode c_N_append 42 = .ok (.putfield 19, 3) := by decide +kernel
theorem d_N_append_45 : decode c_N_append 45 = .ok (.return_, 1) := by decide +kernel
theorem d_N_appendNeighboursOf_0 : decode c_N_appendNeighboursOf 0 = .ok (.aload_n 0, 1) := by decide +kernel
theorem d_N_appendNeighboursOf_1 : decode c_N_appendNeighboursOf 1 = .ok (.getfield 22, 3) := by decide +kernel
theorem d_N_appendNeighboursOf_4 : decode c_N_appendNeighboursOf 4 = .ok (.iload_n 1, 1) := by decide +kernel
theorem d_N_appendNeighboursOf_5 : decode c_N_appendNeighboursOf 5 = .ok (.iaload, 1) := by decide +kernel
theorem d_N_appendNeighboursOf_6 : decode c_N_appendNeighboursOf 6 = .ok (.aload_n 0, 1) := by decide +kernel
theorem d_N_appendNeighboursOf_7 : decode c_N_appendNeighboursOf 7 = .ok (.getfield 19, 3) := by decide +kernel
theorem d_N_appendNeighboursOf_10 : decode c_N_appendNeighboursOf 10 = .ok (.iconst (-1), 1) := by decide +kernel
theorem d_N_appendNeighboursOf_11 : decode c_N_appendNeighboursOf 11 = .ok (.ixor, 1) := by decide +kernel
theorem d_N_appendNeighboursOf_12 : decode c_N_appendNeighboursOf 12 = .ok (.iand, 1) := by decide +kernel
theorem d_N_appendNeighboursOf_13 : decode c_N_appendNeighboursOf 13 = .ok (.invokestatic 82, 3) := by decide +kernel
theorem d_N_appendNeighboursOf_16 : decode c_N_appendNeighboursOf 16 = .ok (.istore_n 2, 1) := by decide +kernel
theorem d_N_appendNeighboursOf_17 : decode c_N_appendNeighboursOf 17 = .ok (.iconst 0, 1) := by decide +kernel
theorem d_N_appendNeighboursOf_18 : decode c_N_appendNeighboursOf 18 = .ok (.istore_n 3, 1) := by decide +kernel
theorem d_N_appendNeighboursOf_19 : decode c_N_appendNeighboursOf 19 = .ok (.iload_n 3, 1) := by decide +kernel
theorem d_N_appendNeighboursOf_20 : decode c_N_appendNeighboursOf 20 = .ok (.iload_n 2, 1) := by decide +kernel
theorem d_N_appendNeighboursOf_21 : decode c_N_appendNeighboursOf 21 = .ok (.if_icmp .ge 30, 3) := by decide +kernel
theorem d_N_appendNeighboursOf_24 : decode c_N_appendNeighboursOf 24 = .ok (.aload_n 0, 1) := by decide +kernel
theorem d_N_appendNeighboursOf_25 : decode c_N_appendNeighboursOf 25 = .ok (.aload_n 0, 1) := by decide +kernel
theorem d_N_appendNeighboursOf_26 : decode c_N_appendNeighboursOf 26 = .ok (.aload_n 0, 1) := by decide +kernel
theorem d_N_appendNeighboursOf_27 : decode c_N_appendNeighboursOf 27 = .ok (.getfield 22, 3) := by decide +kernel
theorem d_N_appendNeighboursOf_30 : decode c_N_appendNeighboursOf 30 = .ok (.iload_n 1, 1) := by decide +kernel
theorem d_N_appendNeighboursOf_31 : decode c_N_appendNeighboursOf 31 = .ok (.iaload, 1) := by decide +kernel
theorem d_N_appendNeighboursOf_32 : decode c_N_appendNeighboursOf 32 = .ok (.aload_n 0, 1) := by decide +kernel
theorem d_N_appendNeighboursOf_33 : decode c_N_appendNeighboursOf 33 = .ok (.getfield 19, 3) := by decide +kernel
theorem d_N_appendNeighboursOf_36 : decode c_N_appendNeighboursOf 36 = .ok (.iconst (-1), 1) := by decide +kernel
theorem d_N_appendNeighboursOf_37 : decode c_N_appendNeighboursOf 37 = .ok (.ixor, 1) := by decide +kernel
theorem d_N_appendNeighboursOf_38 : decode c_N_appendNeighboursOf 38 = .ok (.iand, 1) := by decide +kernel
theorem d_N_appendNeighboursOf_39 : decode c_N_appendNeighboursOf 39 = .ok (.invokevirtual 71, 3) := by decide +kernel
theorem d_N_appendNeighboursOf_42 : decode c_N_appendNeighboursOf 42 = .ok (.invokevirtual 75, 3) := by decide +kernel
theorem d_N_appendNeighboursOf_45 : decode c_N_appendNeighboursOf 45 = .ok (.iinc 3 1, 3) := by decide +kernel
theorem d_N_appendNeighboursOf_48 : decode c_N_appendNeighboursOf 48 = .ok (.goto (-29), 3) := by decide +kernel
theorem d_N_appendNeighboursOf_51 : decode c_N_appendNeighboursOf 51 = .ok (.return_, 1) := by decide +kernel
theorem d_N_turnRound_0 : decode c_N_turnRound 0 = .ok (.iconst 0, 1) := by decide +kernel
theorem d_N_turnRound_1 : decode c_N_turnRound 1 = .ok (.istore_n 1, 1) := by decide +kernel
theorem d_N_turnRound_2 : decode c_N_turnRound 2 = .ok (.aload_n 0, 1) := by decide +kernel
theorem d_N_turnRound_3 : decode c_N_turnRound 3 = .ok (.getfield 15, 3) := by decide +kernel
theorem d_N_turnRound_6 : decode c_N_turnRound 6 = .ok (.iconst 1, 1) := by decide +kernel
theorem d_N_turnRound_7 : decode c_N_turnRound 7 = .ok (.isub, 1) := by decide +kernel
theorem d_N_turnRound_8 : decode c_N_turnRound 8 = .ok (.istore_n 2, 1) := by decide +kernel
theorem d_N_turnRound_9 : decode c_N_turnRound 9 = .ok (.iload_n 1, 1) := by decide +kernel
theorem d_N_turnRound_10 : decode c_N_turnRound 10 = .ok (.iload_n 2, 1) := by decide +kernel
theorem d_N_turnRound_11 : decode c_N_turnRound 11 = .ok (.if_icmp .ge 38, 3) := by decide +kernel
theorem d_N_turnRound_14 : decode c_N_turnRound 14 = .ok (.aload_n 0, 1) := by decide +kernel
theorem d_N_turnRound_15 : decode c_N_turnRound 15 = .ok (.getfield 9, 3) := by decide +kernel
theorem d_N_turnRound_18 : decode c_N_turnRound 18 = .ok (.iload_n 1, 1) := by decide +kernel
theorem d_N_turnRound_19 : decode c_N_turnRound 19 = .ok (.iaload, 1) := by decide +kernel
theorem d_N_turnRound_20 : decode c_N_turnRound 20 = .ok (.istore_n 3, 1) := by decide +kernel
theorem d_N_turnRound_21 : decode c_N_turnRound 21 = .ok (.aload_n 0, 1) := by decide +kernel
theorem d_N_turnRound_22 : decode c_N_turnRound 22 = .ok (.getfield 9, 3) := by decide +kernel
theorem d_N_turnRound_25 : decode c_N_turnRound 25 = .ok (.iload_n 1, 1) := by decide +kernel
theorem d_N_turnRound_26 : decode c_N_turnRound 26 = .ok (.aload_n 0, 1) := by decide +kernel
theorem d_N_turnRound_27 : decode c_N_turnRound 27 = .ok (.getfield 9, 3) := by decide +kernel
theorem d_N_turnRound_30 : decode c_N_turnRound 30 = .ok (.iload_n 2, 1) := by decide +kernel
theorem d_N_turnRound_31 : decode c_N_turnRound 31 = .ok (.iaload, 1) := by decide +kernel
theorem d_N_turnRound_32 : decode c_N_turnRound 32 = .ok (.iastore, 1) := by decide +kernel
theorem d_N_turnRound_33 : decode c_N_turnRound 33 = .ok (.aload_n 0, 1) := by decide +kernel
theorem d_N_turnRound_34 : decode c_N_turnRound 34 = .ok (.getfield 9, 3) := by decide +kernel
theorem d_N_turnRound_37 : decode c_N_turnRound 37 = .ok (.iload_n 2, 1) := by decide +kernel
theorem d_N_turnRound_38 : decode c_N_turnRound 38 = .ok (.iload_n 3, 1) := by decide +kernel
theorem d_N_turnRound_39 : decode c_N_turnRound 39 = .ok (.iastore, 1) := by decide +kernel
theorem d_N_turnRound_40 : decode c_N_turnRound 40 = .ok (.iinc 1 1, 3) := by decide +kernel
theorem d_N_turnRound_43 : decode c_N_turnRound 43 = .ok (.iinc 2 (-1), 3) := by decide +kernel
theorem d_N_turnRound_46 : decode c_N_turnRound 46 = .ok (.goto (-37), 3) := by decide +kernel
theorem d_N_turnRound_49 : decode c_N_turnRound 49 = .ok (.return_, 1) := by decide +kernel
end
section
theorem d_N_numberSlots_0 : decode c_N_numberSlots 0 = .ok (.aload_n 0, 1) := by decide +kernel
theorem d_N_numberSlots_1 : decode c_N_numberSlots 1 = .ok (.iconst 0, 1) := by decide +kernel
theorem d_N_numberSlots_2 : decode c_N_numberSlots 2 = .ok (.putfield 31, 3) := by decide +kernel
theorem d_N_numberSlots_5 : decode c_N_numberSlots 5 = .ok (.iconst 0, 1) := by decide +kernel
theorem d_N_numberSlots_6 : decode c_N_numberSlots 6 = .ok (.istore_n 2, 1) := by decide +kernel
theorem d_N_numberSlots_7 : decode c_N_numberSlots 7 = .ok (.iload_n 2, 1) := by decide +kernel
theorem d_N_numberSlots_8 : decode c_N_numberSlots 8 = .ok (.aload_n 0, 1) := by decide +kernel
theorem d_N_numberSlots_9 : decode c_N_numberSlots 9 = .ok (.getfield 15, 3) := by decide +kernel
theorem d_N_numberSlots_12 : decode c_N_numberSlots 12 = .ok (.if_icmp .ge 37, 3) := by decide +kernel
theorem d_N_numberSlots_15 : decode c_N_numberSlots 15 = .ok (.iconst 0, 1) := by decide +kernel
theorem d_N_numberSlots_16 : decode c_N_numberSlots 16 = .ok (.istore_n 3, 1) := by decide +kernel
theorem d_N_numberSlots_17 : decode c_N_numberSlots 17 = .ok (.iload_n 3, 1) := by decide +kernel
theorem d_N_numberSlots_18 : decode c_N_numberSlots 18 = .ok (.iconst 2, 1) := by decide +kernel
theorem d_N_numberSlots_19 : decode c_N_numberSlots 19 = .ok (.if_icmp .ge 24, 3) := by decide +kernel
theorem d_N_numberSlots_22 : decode c_N_numberSlots 22 = .ok (.aload_n 0, 1) := by decide +kernel
theorem d_N_numberSlots_23 : decode c_N_numberSlots 23 = .ok (.aload_n 0, 1) := by decide +kernel
theorem d_N_numberSlots_24 : decode c_N_numberSlots 24 = .ok (.getfield 9, 3) := by decide +kernel
theorem d_N_numberSlots_27 : decode c_N_numberSlots 27 = .ok (.iload_n 2, 1) := by decide +kernel
theorem d_N_numberSlots_28 : decode c_N_numberSlots 28 = .ok (.iaload, 1) := by decide +kernel
theorem d_N_numberSlots_29 : decode c_N_numberSlots 29 = .ok (.iload_n 3, 1) := by decide +kernel
theorem d_N_numberSlots_30 : decode c_N_numberSlots 30 = .ok (.invokestatic 87, 3) := by decide +kernel
theorem d_N_numberSlots_33 : decode c_N_numberSlots 33 = .ok (.aload_n 1, 1) := by decide +kernel
theorem d_N_numberSlots_34 : decode c_N_numberSlots 34 = .ok (.invokevirtual 91, 3) := by decide +kernel
theorem d_N_numberSlots_37 : decode c_N_numberSlots 37 = .ok (.iinc 3 1, 3) := by decide +kernel
theorem d_N_numberSlots_40 : decode c_N_numberSlots 40 = .ok (.goto (-23), 3) := by decide +kernel
theorem d_N_numberSlots_43 : decode c_N_numberSlots 43 = .ok (.iinc 2 1, 3) := by decide +kernel
theorem d_N_numberSlots_46 : decode c_N_numberSlots 46 = .ok (.goto (-39), 3) := by decide +kernel
theorem d_N_numberSlots_49 : decode c_N_numberSlots 49 = .ok (.return_, 1) := by decide +kernel
theorem d_N_numberSlot_0 : decode c_N_numberSlot 0 = .ok (.aload_n 2, 1) := by decide +kernel
theorem d_N_numberSlot_1 : decode c_N_numberSlot 1 = .ok (.getfield 95, 3) := by decide +kernel
theorem d_N_numberSlot_4 : decode c_N_numberSlot 4 = .ok (.iload_n 1, 1) := by decide +kernel
theorem d_N_numberSlot_5 : decode c_N_numberSlot 5 = .ok (.baload, 1) := by decide +kernel
theorem d_N_numberSlot_6 : decode c_N_numberSlot 6 = .ok (.ifCond .eq 12, 3) := by decide +kernel
theorem d_N_numberSlot_9 : decode c_N_numberSlot 9 = .ok (.aload_n 0, 1) := by decide +kernel
theorem d_N_numberSlot_10 : decode c_N_numberSlot 10 = .ok (.getfield 25, 3) := by decide +kernel
theorem d_N_numberSlot_13 : decode c_N_numberSlot 13 = .ok (.iload_n 1, 1) := by decide +kernel
theorem d_N_numberSlot_14 : decode c_N_numberSlot 14 = .ok (.bipush (-2), 2) := by decide +kernel
theorem d_N_numberSlot_16 : decode c_N_numberSlot 16 = .ok (.iastore, 1) := by decide +kernel
theorem d_N_numberSlot_17 : decode c_N_numberSlot 17 = .ok (.return_, 1) := by decide +kernel
theorem d_N_numberSlot_18 : decode c_N_numberSlot 18 = .ok (.aload_n 0, 1) := by decide +kernel
theorem d_N_numberSlot_19 : decode c_N_numberSlot 19 = .ok (.getfield 25, 3) := by decide +kernel
theorem d_N_numberSlot_22 : decode c_N_numberSlot 22 = .ok (.iload_n 1, 1) := by decide +kernel
theorem d_N_numberSlot_23 : decode c_N_numberSlot 23 = .ok (.aload_n 0, 1) := by decide +kernel
theorem d_N_numberSlot_24 : decode c_N_numberSlot 24 = .ok (.getfield 31, 3) := by decide +kernel
theorem d_N_numberSlot_27 : decode c_N_numberSlot 27 = .ok (.iastore, 1) := by decide +kernel
theorem d_N_numberSlot_28 : decode c_N_numberSlot 28 = .ok (.aload_n 0, 1) := by decide +kernel
theorem d_N_numberSlot_29 : decode c_N_numberSlot 29 = .ok (.getfield 28, 3) := by decide +kernel
theorem d_N_numberSlot_32 : decode c_N_numberSlot 32 = .ok (.aload_n 0, 1) := by decide +kernel
theorem d_N_numberSlot_33 : decode c_N_numberSlot 33 = .ok (.getfield 31, 3) := by decide +kernel
theorem d_N_numberSlot_36 : decode c_N_numberSlot 36 = .ok (.iload_n 1, 1) := by decide +kernel
theorem d_N_numberSlot_37 : decode c_N_numberSlot 37 = .ok (.iastore, 1) := by decide +kernel
theorem d_N_numberSlot_38 : decode c_N_numberSlot 38 = .ok (.aload_n 0, 1) := by decide +kernel
theorem d_N_numberSlot_39 : decode c_N_numberSlot 39 = .ok (.dup, 1) := by decide +kernel
theorem d_N_numberSlot_40 : decode c_N_numberSlot 40 = .ok (.getfield 31, 3) := by decide +kernel
theorem d_N_numberSlot_43 : decode c_N_numberSlot 43 = .ok (.iconst 1, 1) := by decide +kernel
theorem d_N_numberSlot_44 : decode c_N_numberSlot 44 = .ok (.iadd, 1) := by decide +kernel
theorem d_N_numberSlot_45 : decode c_N_numberSlot 45 = .ok (.putfield 31, 3) := by decide +kernel
theorem d_N_numberSlot_48 : decode c_N_numberSlot 48 = .ok (.return_, 1) := by decide +kernel
theorem d_E_make_0 : decode c_E_make 0 = .ok (.aload_n 0, 1) := by decide +kernel
theorem d_E_make_1 : decode c_E_make 1 = .ok (.aload_n 1, 1) := by decide +kernel
theorem d_E_make_2 : decode c_E_make 2 = .ok (.invokevirtual 36, 3) := by decide +kernel
theorem d_E_make_5 : decode c_E_make 5 = .ok (.aload_n 0, 1) := by decide +kernel
theorem d_E_make_6 : decode c_E_make 6 = .ok (.aload_n 2, 1) := by decide +kernel
theorem d_E_make_7 : decode c_E_make 7 = .ok (.getfield 40, 3) := by decide +kernel
theorem d_E_make_10 : decode c_E_make 10 = .ok (.putfield 19, 3) := by decide +kernel
theorem d_E_make_13 : decode c_E_make 13 = .ok (.iconst 0, 1) := by decide +kernel
theorem d_E_make_14 : decode c_E_make 14 = .ok (.istore_n 3, 1) := by decide +kernel
theorem d_E_make_15 : decode c_E_make 15 = .ok (.iload_n 3, 1) := by decide +kernel
theorem d_E_make_16 : decode c_E_make 16 = .ok (.aload_n 0, 1) := by decide +kernel
theorem d_E_make_17 : decode c_E_make 17 = .ok (.getfield 19, 3) := by decide +kernel
theorem d_E_make_20 : decode c_E_make 20 = .ok (.if_icmp .ge 55, 3) := by decide +kernel
theorem d_E_make_23 : decode c_E_make 23 = .ok (.iconst 0, 1) := by decide +kernel
theorem d_E_make_24 : decode c_E_make 24 = .ok (.istore 4, 2) := by decide +kernel
theorem d_E_make_26 : decode c_E_make 26 = .ok (.iload 4, 2) := by decide +kernel
theorem d_E_make_28 : decode c_E_make 28 = .ok (.aload_n 0, 1) := by decide +kernel
theorem d_E_make_29 : decode c_E_make 29 = .ok (.getfield 19, 3) := by decide +kernel
theorem d_E_make_32 : decode c_E_make 32 = .ok (.if_icmp .ge 37, 3) := by decide +kernel
theorem d_E_make_35 : decode c_E_make 35 = .ok (.aload_n 0, 1) := by decide +kernel
theorem d_E_make_36 : decode c_E_make 36 = .ok (.getfield 16, 3) := by decide +kernel
theorem d_E_make_39 : decode c_E_make 39 = .ok (.iload_n 3, 1) := by decide +kernel
theorem d_E_make_40 : decode c_E_make 40 = .ok (.aaload, 1) := by decide +kernel
theorem d_E_make_41 : decode c_E_make 41 = .ok (.iload 4, 2) := by decide +kernel
theorem d_E_make_43 : decode c_E_make 43 = .ok (.aload_n 0, 1) := by decide +kernel
theorem d_E_make_44 : decode c_E_make 44 = .ok (.getfield 11, 3) := by decide +kernel
theorem d_E_make_47 : decode c_E_make 47 = .ok (.aload_n 2, 1) := by decide +kernel
theorem d_E_make_48 : decode c_E_make 48 = .ok (.getfield 45, 3) := by decide +kernel
theorem d_E_make_51 : decode c_E_make 51 = .ok (.iload_n 3, 1) := by decide +kernel
theorem d_E_make_52 : decode c_E_make 52 = .ok (.iaload, 1) := by decide +kernel
theorem d_E_make_53 : decode c_E_make 53 = .ok (.aaload, 1) := by decide +kernel
theorem d_E_make_54 : decode c_E_make 54 = .ok (.aload_n 2, 1) := by decide +kernel
theorem d_E_make_55 : decode c_E_make 55 = .ok (.getfield 45, 3) := by decide +kernel
theorem d_E_make_58 : decode c_E_make 58 = .ok (.iload 4, 2) := by decide +kernel
theorem d_E_make_60 : decode c_E_make 60 = .ok (.iaload, 1) := by decide +kernel
theorem d_E_make_61 : decode c_E_make 61 = .ok (.laload, 1) := by decide +kernel
theorem d_E_make_62 : decode c_E_make 62 = .ok (.lastore, 1) := by decide +kernel
theorem d_E_make_63 : decode c_E_make 63 = .ok (.iinc 4 1, 3) := by decide +kernel
theorem d_E_make_66 : decode c_E_make 66 = .ok (.goto (-40), 3) := by decide +kernel
theorem d_E_make_69 : decode c_E_make 69 = .ok (.iinc 3 1, 3) := by decide +kernel
theorem d_E_make_72 : decode c_E_make 72 = .ok (.goto (-57), 3) := by decide +kernel
theorem d_E_make_75 : decode c_E_make 75 = .ok (.return_, 1) := by decide +kernel
theorem d_E_sumUpStiffness_0 : decode c_E_sumUpStiffness 0 = .ok (.iconst 0, 1) := by decide +kernel
theorem d_E_sumUpStiffness_1 : decode c_E_sumUpStiffness 1 = .ok (.istore_n 2, 1) := by decide +kernel
theorem d_E_sumUpStiffness_2 : decode c_E_sumUpStiffness 2 = .ok (.iload_n 2, 1) := by decide +kernel
theorem d_E_sumUpStiffness_3 : decode c_E_sumUpStiffness 3 = .ok (.bipush 10, 2) := by decide +kernel
theorem d_E_sumUpStiffness_5 : decode c_E_sumUpStiffness 5 = .ok (.if_icmp .ge 34, 3) := by decide +kernel
theorem d_E_sumUpStiffness_8 : decode c_E_sumUpStiffness 8 = .ok (.aload_n 0, 1) := by decide +kernel
theorem d_E_sumUpStiffness_9 : decode c_E_sumUpStiffness 9 = .ok (.getfield 11, 3) := by decide +kernel
theorem d_E_sumUpStiffness_12 : decode c_E_sumUpStiffness 12 = .ok (.iload_n 2, 1) := by decide +kernel
theorem d_E_sumUpStiffness_13 : decode c_E_sumUpStiffness 13 = .ok (.aaload, 1) := by decide +kernel
theorem d_E_sumUpStiffness_14 : decode c_E_sumUpStiffness 14 = .ok (.lconst 0, 1) := by decide +kernel
theorem d_E_sumUpStiffness_15 : decode c_E_sumUpStiffness 15 = .ok (.invokestatic 49, 3) := by decide +kernel
theorem d_E_sumUpStiffness_18 : decode c_E_sumUpStiffness 18 = .ok (.aload_n 0, 1) := by decide +kernel
theorem d_E_sumUpStiffness_19 : decode c_E_sumUpStiffness 19 = .ok (.getfield 11, 3) := by decide +kernel
theorem d_E_sumUpStiffness_22 : decode c_E_sumUpStiffness 22 = .ok (.iload_n 2, 1) := by decide +kernel
theorem d_E_sumUpStiffness_23 : decode c_E_sumUpStiffness 23 = .ok (.aaload, 1) := by decide +kernel
theorem d_E_sumUpStiffness_24 : decode c_E_sumUpStiffness 24 = .ok (.iload_n 2, 1) := by decide +kernel
theorem d_E_sumUpStiffness_25 : decode c_E_sumUpStiffness 25 = .ok (.aload_n 1, 1) := by decide +kernel
theorem d_E_sumUpStiffness_26 : decode c_E_sumUpStiffness 26 = .ok (.getfield 55, 3) := by decide +kernel
theorem d_E_sumUpStiffness_29 : decode c_E_sumUpStiffness 29 = .ok (.iload_n 2, 1) := by decide +kernel
theorem d_E_sumUpStiffness_30 : decode c_E_sumUpStiffness 30 = .ok (.iaload, 1) := by decide +kernel
theorem d_E_sumUpStiffness_31 : decode c_E_sumUpStiffness 31 = .ok (.i2l, 1) := by decide +kernel
theorem d_E_sumUpStiffness_32 : decode c_E_sumUpStiffness 32 = .ok (.lastore, 1) := by decide +kernel
theorem d_E_sumUpStiffness_33 : decode c_E_sumUpStiffness 33 = .ok (.iinc 2 1, 3) := by decide +kernel
theorem d_E_sumUpStiffness_36 : decode c_E_sumUpStiffness 36 = .ok (.goto (-34), 3) := by decide +kernel
theorem d_E_sumUpStiffness_39 : decode c_E_sumUpStiffness 39 = .ok (.iconst 0, 1) := by decide +kernel
theorem d_E_sumUpStiffness_40 : decode c_E_sumUpStiffness 40 = .ok (.istore_n 2, 1) := by decide +kernel
theorem d_E_sumUpStiffness_41 : decode c_E_sumUpStiffness 41 = .ok (.iload_n 2, 1) := by decide +kernel
theorem d_E_sumUpStiffness_42 : decode c_E_sumUpStiffness 42 = .ok (.aload_n 1, 1) := by decide +kernel
theorem d_E_sumUpStiffness_43 : decode c_E_sumUpStiffness 43 = .ok (.getfield 60, 3) := by decide +kernel
theorem d_E_sumUpStiffness_46 : decode c_E_sumUpStiffness 46 = .ok (.if_icmp .ge 15, 3) := by decide +kernel
theorem d_E_sumUpStiffness_49 : decode c_E_sumUpStiffness 49 = .ok (.aload_n 0, 1) := by decide +kernel
theorem d_E_sumUpStiffness_50 : decode c_E_sumUpStiffness 50 = .ok (.aload_n 1, 1) := by decide +kernel
theorem d_E_sumUpStiffness_51 : decode c_E_sumUpStiffness 51 = .ok (.iload_n 2, 1) := by decide +kernel
theorem d_E_sumUpStiffness_52 : decode c_E_sumUpStiffness 52 = .ok (.invokevirtual 63, 3) := by decide +kernel
theorem d_E_sumUpStiffness_55 : decode c_E_sumUpStiffness 55 = .ok (.iinc 2 1, 3) := by decide +kernel
theorem d_E_sumUpStiffness_58 : decode c_E_sumUpStiffness 58 = .ok (.goto (-17), 3) := by decide +kernel
theorem d_E_sumUpStiffness_61 : decode c_E_sumUpStiffness 61 = .ok (.return_, 1) := by decide +kernel
theorem d_J_fillL_0 : decode c_J_fillL 0 = .ok (.iconst 0, 1) := by decide +kernel
theorem d_J_fillL_1 : decode c_J_fillL 1 = .ok (.istore_n 3, 1) := by decide +kernel
theorem d_J_fillL_2 : decode c_J_fillL 2 = .ok (.aload_n 0, 1) := by decide +kernel
theorem d_J_fillL_3 : decode c_J_fillL 3 = .ok (.arraylength, 1) := by decide +kernel
theorem d_J_fillL_4 : decode c_J_fillL 4 = .ok (.istore 4, 2) := by decide +kernel
theorem d_J_fillL_6 : decode c_J_fillL 6 = .ok (.iload_n 3, 1) := by decide +kernel
theorem d_J_fillL_7 : decode c_J_fillL 7 = .ok (.iload 4, 2) := by decide +kernel
theorem d_J_fillL_9 : decode c_J_fillL 9 = .ok (.if_icmp .ge 13, 3) := by decide +kernel
theorem d_J_fillL_12 : decode c_J_fillL 12 = .ok (.aload_n 0, 1) := by decide +kernel
theorem d_J_fillL_13 : decode c_J_fillL 13 = .ok (.iload_n 3, 1) := by decide +kernel
theorem d_J_fillL_14 : decode c_J_fillL 14 = .ok (.lload_n 1, 1) := by decide +kernel
theorem d_J_fillL_15 : decode c_J_fillL 15 = .ok (.lastore, 1) := by decide +kernel
theorem d_J_fillL_16 : decode c_J_fillL 16 = .ok (.iinc 3 1, 3) := by decide +kernel
theorem d_J_fillL_19 : decode c_J_fillL 19 = .ok (.goto (-13), 3) := by decide +kernel
theorem d_J_fillL_22 : decode c_J_fillL 22 = .ok (.return_, 1) := by decide +kernel
theorem d_E_addStiffnessOfBar_0 : decode c_E_addStiffnessOfBar 0 = .ok (.iconst 0, 1) := by decide +kernel
theorem d_E_addStiffnessOfBar_1 : decode c_E_addStiffnessOfBar 1 = .ok (.istore_n 3, 1) := by decide +kernel
theorem d_E_addStiffnessOfBar_2 : decode c_E_addStiffnessOfBar 2 = .ok (.iload_n 3, 1) := by decide +kernel
theorem d_E_addStiffnessOfBar_3 : decode c_E_addStiffnessOfBar 3 = .ok (.bipush 10, 2) := by decide +kernel
theorem d_E_addStiffnessOfBar_5 : decode c_E_addStiffnessOfBar 5 = .ok (.if_icmp .ge 68, 3) := by decide +kernel
theorem d_E_addStiffnessOfBar_8 : decode c_E_addStiffnessOfBar 8 = .ok (.aload_n 1, 1) := by decide +kernel
theorem d_E_addStiffnessOfBar_9 : decode c_E_addStiffnessOfBar 9 = .ok (.getfield 67, 3) := by decide +kernel
theorem d_E_addStiffnessOfBar_12 : decode c_E_addStiffnessOfBar 12 = .ok (.iload_n 2, 1) := by decide +kernel
theorem d_E_addStiffnessOfBar_13 : decode c_E_addStiffnessOfBar 13 = .ok (.iaload, 1) := by decide +kernel
theorem d_E_addStiffnessOfBar_14 : decode c_E_addStiffnessOfBar 14 = .ok (.aload_n 1, 1) := by decide +kernel
theorem d_E_addStiffnessOfBar_15 : decode c_E_addStiffnessOfBar 15 = .ok (.iload_n 2, 1) := by decide +kernel
theorem d_E_addStiffnessOfBar_16 : decode c_E_addStiffnessOfBar 16 = .ok (.iload_n 3, 1) := by decide +kernel
theorem d_E_addStiffnessOfBar_17 : decode c_E_addStiffnessOfBar 17 = .ok (.invokevirtual 70, 3) := by decide +kernel
theorem d_E_addStiffnessOfBar_20 : decode c_E_addStiffnessOfBar 20 = .ok (.imul, 1) := by decide +kernel
theorem d_E_addStiffnessOfBar_21 : decode c_E_addStiffnessOfBar 21 = .ok (.istore 4, 2) := by decide +kernel
theorem d_E_addStiffnessOfBar_23 : decode c_E_addStiffnessOfBar 23 = .ok (.iload 4, 2) := by decide +kernel
theorem d_E_addStiffnessOfBar_25 : decode c_E_addStiffnessOfBar 25 = .ok (.ifCond .eq 42, 3) := by decide +kernel
theorem d_E_addStiffnessOfBar_28 : decode c_E_addStiffnessOfBar 28 = .ok (.iconst 0, 1) := by decide +kernel
theorem d_E_addStiffnessOfBar_29 : decode c_E_addStiffnessOfBar 29 = .ok (.istore 5, 2) := by decide +kernel
theorem d_E_addStiffnessOfBar_31 : decode c_E_addStiffnessOfBar 31 = .ok (.iload 5, 2) := by decide +kernel
theorem d_E_addStiffnessOfBar_33 : decode c_E_addStiffnessOfBar 33 = .ok (.bipush 10, 2) := by decide +kernel
theorem d_E_addStiffnessOfBar_35 : decode c_E_addStiffnessOfBar 35 = .ok (.if_icmp .ge 32, 3) := by decide +kernel
theorem d_E_addStiffnessOfBar_38 : decode c_E_addStiffnessOfBar 38 = .ok (.aload_n 0, 1) := by decide +kernel
theorem d_E_addStiffnessOfBar_39 : decode c_E_addStiffnessOfBar 39 = .ok (.getfield 11, 3) := by decide +kernel
theorem d_E_addStiffnessOfBar_42 : decode c_E_addStiffnessOfBar 42 = .ok (.iload_n 3, 1) := by decide +kernel
theorem d_E_addStiffnessOfBar_43 : decode c_E_addStiffnessOfBar 43 = .ok (.aaload, 1) := by decide +kernel
theorem d_E_addStiffnessOfBar_44 : decode c_E_addStiffnessOfBar 44 = .ok (.iload 5, 2) := by decide +kernel
theorem d_E_addStiffnessOfBar_46 : decode c_E_addStiffnessOfBar 46 = .ok (.dup2, 1) := by decide +kernel
theorem d_E_addStiffnessOfBar_47 : decode c_E_addStiffnessOfBar 47 = .ok (.laload, 1) := by decide +kernel
theorem d_E_addStiffnessOfBar_48 : decode c_E_addStiffnessOfBar 48 = .ok (.iload 4, 2) := by decide +kernel
theorem d_E_addStiffnessOfBar_50 : decode c_E_addStiffnessOfBar 50 = .ok (.aload_n 1, 1) := by decide +kernel
theorem d_E_addStiffnessOfBar_51 : decode c_E_addStiffnessOfBar 51 = .ok (.iload_n 2, 1) := by decide +kernel
theorem d_E_addStiffnessOfBar_52 : decode c_E_addStiffnessOfBar 52 = .ok (.iload 5, 2) := by decide +kernel
theorem d_E_addStiffnessOfBar_54 : decode c_E_addStiffnessOfBar 54 = .ok (.invokevirtual 70, 3) := by decide +kernel
theorem d_E_addStiffnessOfBar_57 : decode c_E_addStiffnessOfBar 57 = .ok (.imul, 1) := by decide +kernel
theorem d_E_addStiffnessOfBar_58 : decode c_E_addStiffnessOfBar 58 = .ok (.i2l, 1) := by decide +kernel
theorem d_E_addStiffnessOfBar_59 : decode c_E_addStiffnessOfBar 59 = .ok (.ladd, 1) := by decide +kernel
theorem d_E_addStiffnessOfBar_60 : decode c_E_addStiffnessOfBar 60 = .ok (.lastore, 1) := by decide +kernel
theorem d_E_addStiffnessOfBar_61 : decode c_E_addStiffnessOfBar 61 = .ok (.iinc 5 1, 3) := by decide +kernel
theorem d_E_addStiffnessOfBar_64 : decode c_E_addStiffnessOfBar 64 = .ok (.goto (-33), 3) := by decide +kernel
theorem d_E_addStiffnessOfBar_67 : decode c_E_addStiffnessOfBar 67 = .ok (.iinc 3 1, 3) := by decide +kernel
theorem d_E_addStiffnessOfBar_70 : decode c_E_addStiffnessOfBar 70 = .ok (.goto (-68), 3) := by decide +kernel
theorem d_E_addStiffnessOfBar_73 : decode c_E_addStiffnessOfBar 73 = .ok (.return_, 1) := by decide +kernel
theorem d_T_stretchBy_0 : decode c_T_stretchBy 0 = .ok (.iload_n 2, 1) := by decide +kernel
theorem d_T_stretchBy_1 : decode c_T_stretchBy 1 = .ok (.iconst 2, 1) := by decide +kernel
theorem d_T_stretchBy_2 : decode c_T_stretchBy 2 = .ok (.idiv, 1) := by decide +kernel
theorem d_T_stretchBy_3 : decode c_T_stretchBy 3 = .ok (.istore_n 3, 1) := by decide +kernel
theorem d_T_stretchBy_4 : decode c_T_stretchBy 4 = .ok (.aload_n 0, 1) := by decide +kernel
theorem d_T_stretchBy_5 : decode c_T_stretchBy 5 = .ok (.iload_n 1, 1) := by decide +kernel
theorem d_T_stretchBy_6 : decode c_T_stretchBy 6 = .ok (.iload_n 2, 1) := by decide +kernel
theorem d_T_stretchBy_7 : decode c_T_stretchBy 7 = .ok (.iconst 2, 1) := by decide +kernel
theorem d_T_stretchBy_8 : decode c_T_stretchBy 8 = .ok (.irem, 1) := by decide +kernel
theorem d_T_stretchBy_9 : decode c_T_stretchBy 9 = .ok (.invokevirtual 63, 3) := by decide +kernel
theorem d_T_stretchBy_12 : decode c_T_stretchBy 12 = .ok (.invokestatic 71, 3) := by decide +kernel
theorem d_T_stretchBy_15 : decode c_T_stretchBy 15 = .ok (.istore 4, 2) := by decide +kernel
theorem d_T_stretchBy_17 : decode c_T_stretchBy 17 = .ok (.iload_n 3, 1) := by decide +kernel
theorem d_T_stretchBy_18 : decode c_T_stretchBy 18 = .ok (.aload_n 0, 1) := by decide +kernel
theorem d_T_stretchBy_19 : decode c_T_stretchBy 19 = .ok (.getfield 22, 3) := by decide +kernel
theorem d_T_stretchBy_22 : decode c_T_stretchBy 22 = .ok (.iload_n 1, 1) := by decide +kernel
theorem d_T_stretchBy_23 : decode c_T_stretchBy 23 = .ok (.iaload, 1) := by decide +kernel
theorem d_T_stretchBy_24 : decode c_T_stretchBy 24 = .ok (.if_icmp .ne 6, 3) := by decide +kernel
theorem d_T_stretchBy_27 : decode c_T_stretchBy 27 = .ok (.iload 4, 2) := by decide +kernel
theorem d_T_stretchBy_29 : decode c_T_stretchBy 29 = .ok (.ireturn, 1) := by decide +kernel
theorem d_T_stretchBy_30 : decode c_T_stretchBy 30 = .ok (.iload_n 3, 1) := by decide +kernel
theorem d_T_stretchBy_31 : decode c_T_stretchBy 31 = .ok (.aload_n 0, 1) := by decide +kernel
theorem d_T_stretchBy_32 : decode c_T_stretchBy 32 = .ok (.getfield 19, 3) := by decide +kernel
theorem d_T_stretchBy_35 : decode c_T_stretchBy 35 = .ok (.iload_n 1, 1) := by decide +kernel
theorem d_T_stretchBy_36 : decode c_T_stretchBy 36 = .ok (.iaload, 1) := by decide +kernel
theorem d_T_stretchBy_37 : decode c_T_stretchBy 37 = .ok (.if_icmp .ne 9, 3) := by decide +kernel
theorem d_T_stretchBy_40 : decode c_T_stretchBy 40 = .ok (.iload 4, 2) := by decide +kernel
theorem d_T_stretchBy_42 : decode c_T_stretchBy 42 = .ok (.ineg, 1) := by decide +kernel
theorem d_T_stretchBy_43 : decode c_T_stretchBy 43 = .ok (.goto 4, 3) := by decide +kernel
theorem d_T_stretchBy_46 : decode c_T_stretchBy 46 = .ok (.iconst 0, 1) := by decide +kernel
theorem d_T_stretchBy_47 : decode c_T_stretchBy 47 = .ok (.ireturn, 1) := by decide +kernel
theorem d_T_signOf_0 : decode c_T_signOf 0 = .ok (.iload_n 0, 1) := by decide +kernel
theorem d_T_signOf_1 : decode c_T_signOf 1 = .ok (.ifCond .ne 5, 3) := by decide +kernel
theorem d_T_signOf_4 : decode c_T_signOf 4 = .ok (.iconst 0, 1) := by decide +kernel
theorem d_T_signOf_5 : decode c_T_signOf 5 = .ok (.ireturn, 1) := by decide +kernel
theorem d_T_signOf_6 : decode c_T_signOf 6 = .ok (.iload_n 0, 1) := by decide +kernel
theorem d_T_signOf_7 : decode c_T_signOf 7 = .ok (.ifCond .le 7, 3) := by decide +kernel
theorem d_T_signOf_10 : decode c_T_signOf 10 = .ok (.iconst 1, 1) := by decide +kernel
theorem d_T_signOf_11 : decode c_T_signOf 11 = .ok (.goto 4, 3) := by decide +kernel
theorem d_T_signOf_14 : decode c_T_signOf 14 = .ok (.iconst (-1), 1) := by decide +kernel
theorem d_T_signOf_15 : decode c_T_signOf 15 = .ok (.ireturn, 1) := by decide +kernel
theorem d_E_findWeakUnknown_0 : decode c_E_findWeakUnknown 0 = .ok (.aload_n 0, 1) := by decide +kernel
theorem d_E_findWeakUnknown_1 : decode c_E_findWeakUnknown 1 = .ok (.getfield 23, 3) := by decide +kernel
theorem d_E_findWeakUnknown_4 : decode c_E_findWeakUnknown 4 = .ok (.iconst 0, 1) := by decide +kernel
theorem d_E_findWeakUnknown_5 : decode c_E_findWeakUnknown 5 = .ok (.lconst 1, 1) := by decide +kernel
theorem d_E_findWeakUnknown_6 : decode c_E_findWeakUnknown 6 = .ok (.lastore, 1) := by decide +kernel
theorem d_E_findWeakUnknown_7 : decode c_E_findWeakUnknown 7 = .ok (.iconst 0, 1) := by decide +kernel
theorem d_E_findWeakUnknown_8 : decode c_E_findWeakUnknown 8 = .ok (.istore_n 1, 1) := by decide +kernel
theorem d_E_findWeakUnknown_9 : decode c_E_findWeakUnknown 9 = .ok (.iload_n 1, 1) := by decide +kernel
theorem d_E_findWeakUnknown_10 : decode c_E_findWeakUnknown 10 = .ok (.aload_n 0, 1) := by decide +kernel
theorem d_E_findWeakUnknown_11 : decode c_E_findWeakUnknown 11 = .ok (.getfield 19, 3) := by decide +kernel
theorem d_E_findWeakUnknown_14 : decode c_E_findWeakUnknown 14 = .ok (.if_icmp .ge 29, 3) := by decide +kernel
theorem d_E_findWeakUnknown_17 : decode c_E_findWeakUnknown 17 = .ok (.aload_n 0, 1) := by decide +kernel
theorem d_E_findWeakUnknown_18 : decode c_E_findWeakUnknown 18 = .ok (.iload_n 1, 1) := by decide +kernel
theorem d_E_findWeakUnknown_19 : decode c_E_findWeakUnknown 19 = .ok (.invokevirtual 74, 3) := by decide +kernel
theorem d_E_findWeakUnknown_22 : decode c_E_findWeakUnknown 22 = .ok (.aload_n 0, 1) := by decide +kernel
theorem d_E_findWeakUnknown_23 : decode c_E_findWeakUnknown 23 = .ok (.getfield 23, 3) := by decide +kernel
theorem d_E_findWeakUnknown_26 : decode c_E_findWeakUnknown 26 = .ok (.iload_n 1, 1) := by decide +kernel
theorem d_E_findWeakUnknown_27 : decode c_E_findWeakUnknown 27 = .ok (.iconst 1, 1) := by decide +kernel
theorem d_E_findWeakUnknown_28 : decode c_E_findWeakUnknown 28 = .ok (.iadd, 1) := by decide +kernel
theorem d_E_findWeakUnknown_29 : decode c_E_findWeakUnknown 29 = .ok (.laload, 1) := by decide +kernel
theorem d_E_findWeakUnknown_30 : decode c_E_findWeakUnknown 30 = .ok (.lconst 0, 1) := by decide +kernel
theorem d_E_findWeakUnknown_31 : decode c_E_findWeakUnknown 31 = .ok (.lcmp, 1) := by decide +kernel
theorem d_E_findWeakUnknown_32 : decode c_E_findWeakUnknown 32 = .ok (.ifCond .ne 5, 3) := by decide +kernel
theorem d_E_findWeakUnknown_35 : decode c_E_findWeakUnknown 35 = .ok (.iload_n 1, 1) := by decide +kernel
theorem d_E_findWeakUnknown_36 : decode c_E_findWeakUnknown 36 = .ok (.ireturn, 1) := by decide +kernel
theorem d_E_findWeakUnknown_37 : decode c_E_findWeakUnknown 37 = .ok (.iinc 1 1, 3) := by decide +kernel
theorem d_E_findWeakUnknown_40 : decode c_E_findWeakUnknown 40 = .ok (.goto (-31), 3) := by decide +kernel
theorem d_E_findWeakUnknown_43 : decode c_E_findWeakUnknown 43 = .ok (.iconst (-1), 1) := by decide +kernel
theorem d_E_findWeakUnknown_44 : decode c_E_findWeakUnknown 44 = .ok (.ireturn, 1) := by decide +kernel
theorem d_E_growPolynomial_0 : decode c_E_growPolynomial 0 = .ok (.aload_n 0, 1) := by decide +kernel
theorem d_E_growPolynomial_1 : decode c_E_growPolynomial 1 = .ok (.iload_n 1, 1) := by decide +kernel
theorem d_E_growPolynomial_2 : decode c_E_growPolynomial 2 = .ok (.invokevirtual 78, 3) := by decide +kernel
theorem d_E_growPolynomial_5 : decode c_E_growPolynomial 5 = .ok (.aload_n 0, 1) := by decide +kernel
theorem d_E_growPolynomial_6 : decode c_E_growPolynomial 6 = .ok (.getfield 23, 3) := by decide +kernel
theorem d_E_growPolynomial_9 : decode c_E_growPolynomial 9 = .ok (.iload_n 1, 1) := by decide +kernel
theorem d_E_growPolynomial_10 : decode c_E_growPolynomial 10 = .ok (.iconst 1, 1) := by decide +kernel
theorem d_E_growPolynomial_11 : decode c_E_growPolynomial 11 = .ok (.iadd, 1) := by decide +kernel
theorem d_E_growPolynomial_12 : decode c_E_growPolynomial 12 = .ok (.lconst 0, 1) := by decide +kernel
theorem d_E_growPolynomial_13 : decode c_E_growPolynomial 13 = .ok (.lastore, 1) := by decide +kernel
theorem d_E_growPolynomial_14 : decode c_E_growPolynomial 14 = .ok (.iload_n 1, 1) := by decide +kernel
theorem d_E_growPolynomial_15 : decode c_E_growPolynomial 15 = .ok (.iconst 1, 1) := by decide +kernel
theorem d_E_growPolynomial_16 : decode c_E_growPolynomial 16 = .ok (.iadd, 1) := by decide +kernel
theorem d_E_growPolynomial_17 : decode c_E_growPolynomial 17 = .ok (.istore_n 2, 1) := by decide +kernel
theorem d_E_growPolynomial_18 : decode c_E_growPolynomial 18 = .ok (.iload_n 2, 1) := by decide +kernel
theorem d_E_growPolynomial_19 : decode c_E_growPolynomial 19 = .ok (.ifCond .lt 53, 3) := by decide +kernel
theorem d_E_growPolynomial_22 : decode c_E_growPolynomial 22 = .ok (.lconst 0, 1) := by decide +kernel
theorem d_E_growPolynomial_23 : decode c_E_growPolynomial 23 = .ok (.lstore_n 3, 1) := by decide +kernel
theorem d_E_growPolynomial_24 : decode c_E_growPolynomial 24 = .ok (.iconst 0, 1) := by decide +kernel
theorem d_E_growPolynomial_25 : decode c_E_growPolynomial 25 = .ok (.istore 5, 2) := by decide +kernel
theorem d_E_growPolynomial_27 : decode c_E_growPolynomial 27 = .ok (.iload 5, 2) := by decide +kernel
theorem d_E_growPolynomial_29 : decode c_E_growPolynomial 29 = .ok (.iload_n 2, 1) := by decide +kernel
theorem d_E_growPolynomial_30 : decode c_E_growPolynomial 30 = .ok (.if_icmp .gt 29, 3) := by decide +kernel
theorem d_E_growPolynomial_33 : decode c_E_growPolynomial 33 = .ok (.lload_n 3, 1) := by decide +kernel
theorem d_E_growPolynomial_34 : decode c_E_growPolynomial 34 = .ok (.aload_n 0, 1) := by decide +kernel
theorem d_E_growPolynomial_35 : decode c_E_growPolynomial 35 = .ok (.getfield 27, 3) := by decide +kernel
theorem d_E_growPolynomial_38 : decode c_E_growPolynomial 38 = .ok (.iload 5, 2) := by decide +kernel
theorem d_E_growPolynomial_40 : decode c_E_growPolynomial 40 = .ok (.laload, 1) := by decide +kernel
theorem d_E_growPolynomial_41 : decode c_E_growPolynomial 41 = .ok (.aload_n 0, 1) := by decide +kernel
theorem d_E_growPolynomial_42 : decode c_E_growPolynomial 42 = .ok (.getfield 23, 3) := by decide +kernel
theorem d_E_growPolynomial_45 : decode c_E_growPolynomial 45 = .ok (.iload_n 2, 1) := by decide +kernel
theorem d_E_growPolynomial_46 : decode c_E_growPolynomial 46 = .ok (.iload 5, 2) := by decide +kernel
theorem d_E_growPolynomial_48 : decode c_E_growPolynomial 48 = .ok (.isub, 1) := by decide +kernel
theorem d_E_growPolynomial_49 : decode c_E_growPolynomial 49 = .ok (.laload, 1) := by decide +kernel
theorem d_E_growPolynomial_50 : decode c_E_growPolynomial 50 = .ok (.lmul, 1) := by decide +kernel
theorem d_E_growPolynomial_51 : decode c_E_growPolynomial 51 = .ok (.ladd, 1) := by decide +kernel
theorem d_E_growPolynomial_52 : decode c_E_growPolynomial 52 = .ok (.lstore_n 3, 1) := by decide +kernel
theorem d_E_growPolynomial_53 : decode c_E_growPolynomial 53 = .ok (.iinc 5 1, 3) := by decide +kernel
theorem d_E_growPolynomial_56 : decode c_E_growPolynomial 56 = .ok (.goto (-29), 3) := by decide +kernel
theorem d_E_growPolynomial_59 : decode c_E_growPolynomial 59 = .ok (.aload_n 0, 1) := by decide +kernel
theorem d_E_growPolynomial_60 : decode c_E_growPolynomial 60 = .ok (.getfield 23, 3) := by decide +kernel
theorem d_E_growPolynomial_63 : decode c_E_growPolynomial 63 = .ok (.iload_n 2, 1) := by decide +kernel
theorem d_E_growPolynomial_64 : decode c_E_growPolynomial 64 = .ok (.lload_n 3, 1) := by decide +kernel
theorem d_E_growPolynomial_65 : decode c_E_growPolynomial 65 = .ok (.lastore, 1) := by decide +kernel
theorem d_E_growPolynomial_66 : decode c_E_growPolynomial 66 = .ok (.iinc 2 (-1), 3) := by decide +kernel
theorem d_E_growPolynomial_69 : decode c_E_growPolynomial 69 = .ok (.goto (-51), 3) := by decide +kernel
theorem d_E_growPolynomial_72 : decode c_E_growPolynomial 72 = .ok (.return_, 1) := by decide +kernel
theorem d_E_findGrowth_0 : decode c_E_findGrowth 0 = .ok (.aload_n 0, 1) := by decide +kernel
theorem d_E_findGrowth_1 : decode c_E_findGrowth 1 = .ok (.getfield 27, 3) := by decide +kernel
theorem d_E_findGrowth_4 : decode c_E_findGrowth 4 = .ok (.iconst 0, 1) := by decide +kernel
theorem d_E_findGrowth_5 : decode c_E_findGrowth 5 = .ok (.lconst 1, 1) := by decide +kernel
theorem d_E_findGrowth_6 : decode c_E_findGrowth 6 = .ok (.lastore, 1) := by decide +kernel
theorem d_E_findGrowth_7 : decode c_E_findGrowth 7 = .ok (.aload_n 0, 1) := by decide +kernel
theorem d_E_findGrowth_8 : decode c_E_findGrowth 8 = .ok (.getfield 27, 3) := by decide +kernel
theorem d_E_findGrowth_11 : decode c_E_findGrowth 11 = .ok (.iconst 1, 1) := by decide +kernel
theorem d_E_findGrowth_12 : decode c_E_findGrowth 12 = .ok (.aload_n 0, 1) := by decide +kernel
theorem d_E_findGrowth_13 : decode c_E_findGrowth 13 = .ok (.getfield 16, 3) := by decide +kernel
theorem d_E_findGrowth_16 : decode c_E_findGrowth 16 = .ok (.iload_n 1, 1) := by decide +kernel
theorem d_E_findGrowth_17 : decode c_E_findGrowth 17 = .ok (.aaload, 1) := by decide +kernel
theorem d_E_findGrowth_18 : decode c_E_findGrowth 18 = .ok (.iload_n 1, 1) := by decide +kernel
theorem d_E_findGrowth_19 : decode c_E_findGrowth 19 = .ok (.laload, 1) := by decide +kernel
theorem d_E_findGrowth_20 : decode c_E_findGrowth 20 = .ok (.lneg, 1) := by decide +kernel
theorem d_E_findGrowth_21 : decode c_E_findGrowth 21 = .ok (.lastore, 1) := by decide +kernel
theorem d_E_findGrowth_22 : decode c_E_findGrowth 22 = .ok (.iconst 0, 1) := by decide +kernel
theorem d_E_findGrowth_23 : decode c_E_findGrowth 23 = .ok (.istore_n 2, 1) := by decide +kernel
theorem d_E_findGrowth_24 : decode c_E_findGrowth 24 = .ok (.iload_n 2, 1) := by decide +kernel
theorem d_E_findGrowth_25 : decode c_E_findGrowth 25 = .ok (.iload_n 1, 1) := by decide +kernel
theorem d_E_findGrowth_26 : decode c_E_findGrowth 26 = .ok (.if_icmp .ge 23, 3) := by decide +kernel
theorem d_E_findGrowth_29 : decode c_E_findGrowth 29 = .ok (.aload_n 0, 1) := by decide +kernel
theorem d_E_findGrowth_30 : decode c_E_findGrowth 30 = .ok (.getfield 30, 3) := by decide +kernel
theorem d_E_findGrowth_33 : decode c_E_findGrowth 33 = .ok (.iload_n 2, 1) := by decide +kernel
theorem d_E_findGrowth_34 : decode c_E_findGrowth 34 = .ok (.aload_n 0, 1) := by decide +kernel
theorem d_E_findGrowth_35 : decode c_E_findGrowth 35 = .ok (.getfield 16, 3) := by decide +kernel
theorem d_E_findGrowth_38 : decode c_E_findGrowth 38 = .ok (.iload_n 2, 1) := by decide +kernel
theorem d_E_findGrowth_39 : decode c_E_findGrowth 39 = .ok (.aaload, 1) := by decide +kernel
theorem d_E_findGrowth_40 : decode c_E_findGrowth 40 = .ok (.iload_n 1, 1) := by decide +kernel
theorem d_E_findGrowth_41 : decode c_E_findGrowth 41 = .ok (.laload, 1) := by decide +kernel
theorem d_E_findGrowth_42 : decode c_E_findGrowth 42 = .ok (.lastore, 1) := by decide +kernel
theorem d_E_findGrowth_43 : decode c_E_findGrowth 43 = .ok (.iinc 2 1, 3) := by decide +kernel
theorem d_E_findGrowth_46 : decode c_E_findGrowth 46 = .ok (.goto (-22), 3) := by decide +kernel
theorem d_E_findGrowth_49 : decode c_E_findGrowth 49 = .ok (.iconst 2, 1) := by decide +kernel
theorem d_E_findGrowth_50 : decode c_E_findGrowth 50 = .ok (.istore_n 2, 1) := by decide +kernel
theorem d_E_findGrowth_51 : decode c_E_findGrowth 51 = .ok (.iload_n 2, 1) := by decide +kernel
theorem d_E_findGrowth_52 : decode c_E_findGrowth 52 = .ok (.iload_n 1, 1) := by decide +kernel
theorem d_E_findGrowth_53 : decode c_E_findGrowth 53 = .ok (.iconst 1, 1) := by decide +kernel
theorem d_E_findGrowth_54 : decode c_E_findGrowth 54 = .ok (.iadd, 1) := by decide +kernel
theorem d_E_findGrowth_55 : decode c_E_findGrowth 55 = .ok (.if_icmp .gt 35, 3) := by decide +kernel
theorem d_E_findGrowth_58 : decode c_E_findGrowth 58 = .ok (.aload_n 0, 1) := by decide +kernel
theorem d_E_findGrowth_59 : decode c_E_findGrowth 59 = .ok (.getfield 27, 3) := by decide +kernel
theorem d_E_findGrowth_62 : decode c_E_findGrowth 62 = .ok (.iload_n 2, 1) := by decide +kernel
theorem d_E_findGrowth_63 : decode c_E_findGrowth 63 = .ok (.aload_n 0, 1) := by decide +kernel
theorem d_E_findGrowth_64 : decode c_E_findGrowth 64 = .ok (.iload_n 1, 1) := by decide +kernel
theorem d_E_findGrowth_65 : decode c_E_findGrowth 65 = .ok (.aload_n 0, 1) := by decide +kernel
theorem d_E_findGrowth_66 : decode c_E_findGrowth 66 = .ok (.getfield 30, 3) := by decide +kernel
theorem d_E_findGrowth_69 : decode c_E_findGrowth 69 = .ok (.iload_n 1, 1) := by decide +kernel
theorem d_E_findGrowth_70 : decode c_E_findGrowth 70 = .ok (.invokevirtual 81, 3) := by decide +kernel
theorem d_E_findGrowth_73 : decode c_E_findGrowth 73 = .ok (.lneg, 1) := by decide +kernel
theorem d_E_findGrowth_74 : decode c_E_findGrowth 74 = .ok (.lastore, 1) := by decide +kernel
theorem d_E_findGrowth_75 : decode c_E_findGrowth 75 = .ok (.aload_n 0, 1) := by decide +kernel
theorem d_E_findGrowth_76 : decode c_E_findGrowth 76 = .ok (.aload_n 0, 1) := by decide +kernel
theorem d_E_findGrowth_77 : decode c_E_findGrowth 77 = .ok (.getfield 30, 3) := by decide +kernel
theorem d_E_findGrowth_80 : decode c_E_findGrowth 80 = .ok (.iload_n 1, 1) := by decide +kernel
theorem d_E_findGrowth_81 : decode c_E_findGrowth 81 = .ok (.invokevirtual 85, 3) := by decide +kernel
theorem d_E_findGrowth_84 : decode c_E_findGrowth 84 = .ok (.iinc 2 1, 3) := by decide +kernel
theorem d_E_findGrowth_87 : decode c_E_findGrowth 87 = .ok (.goto (-36), 3) := by decide +kernel
theorem d_E_findGrowth_90 : decode c_E_findGrowth 90 = .ok (.return_, 1) := by decide +kernel
theorem d_E_rowTimes_0 : decode c_E_rowTimes 0 = .ok (.lconst 0, 1) := by decide +kernel
theorem d_E_rowTimes_1 : decode c_E_rowTimes 1 = .ok (.lstore 4, 2) := by decide +kernel
theorem d_E_rowTimes_3 : decode c_E_rowTimes 3 = .ok (.iconst 0, 1) := by decide +kernel
theorem d_E_rowTimes_4 : decode c_E_rowTimes 4 = .ok (.istore 6, 2) := by decide +kernel
theorem d_E_rowTimes_6 : decode c_E_rowTimes 6 = .ok (.iload 6, 2) := by decide +kernel
theorem d_E_rowTimes_8 : decode c_E_rowTimes 8 = .ok (.iload_n 3, 1) := by decide +kernel
theorem d_E_rowTimes_9 : decode c_E_rowTimes 9 = .ok (.if_icmp .ge 28, 3) := by decide +kernel
theorem d_E_rowTimes_12 : decode c_E_rowTimes 12 = .ok (.lload 4, 2) := by decide +kernel
theorem d_E_rowTimes_14 : decode c_E_rowTimes 14 = .ok (.aload_n 0, 1) := by decide +kernel
theorem d_E_rowTimes_15 : decode c_E_rowTimes 15 = .ok (.getfield 16, 3) := by decide +kernel
theorem d_E_rowTimes_18 : decode c_E_rowTimes 18 = .ok (.iload_n 1, 1) := by decide +kernel
theorem d_E_rowTimes_19 : decode c_E_rowTimes 19 = .ok (.aaload, 1) := by decide +kernel
theorem d_E_rowTimes_20 : decode c_E_rowTimes 20 = .ok (.iload 6, 2) := by decide +kernel
theorem d_E_rowTimes_22 : decode c_E_rowTimes 22 = .ok (.laload, 1) := by decide +kernel
theorem d_E_rowTimes_23 : decode c_E_rowTimes 23 = .ok (.aload_n 2, 1) := by decide +kernel
theorem d_E_rowTimes_24 : decode c_E_rowTimes 24 = .ok (.iload 6, 2) := by decide +kernel
theorem d_E_rowTimes_26 : decode c_E_rowTimes 26 = .ok (.laload, 1) := by decide +kernel
theorem d_E_rowTimes_27 : decode c_E_rowTimes 27 = .ok (.lmul, 1) := by decide +kernel
theorem d_E_rowTimes_28 : decode c_E_rowTimes 28 = .ok (.ladd, 1) := by decide +kernel
theorem d_E_rowTimes_29 : decode c_E_rowTimes 29 = .ok (.lstore 4, 2) := by decide +kernel
theorem d_E_rowTimes_31 : decode c_E_rowTimes 31 = .ok (.iinc 6 1, 3) := by decide +kernel
theorem d_E_rowTimes_34 : decode c_E_rowTimes 34 = .ok (.goto (-28), 3) := by decide +kernel
theorem d_E_rowTimes_37 : decode c_E_rowTimes 37 = .ok (.lload 4, 2) := by decide +kernel
theorem d_E_rowTimes_39 : decode c_E_rowTimes 39 = .ok (.lreturn, 1) := by decide +kernel
theorem d_E_multiply_0 : decode c_E_multiply 0 = .ok (.iconst 0, 1) := by decide +kernel
theorem d_E_multiply_1 : decode c_E_multiply 1 = .ok (.istore_n 3, 1) := by decide +kernel
theorem d_E_multiply_2 : decode c_E_multiply 2 = .ok (.iload_n 3, 1) := by decide +kernel
theorem d_E_multiply_3 : decode c_E_multiply 3 = .ok (.iload_n 2, 1) := by decide +kernel
theorem d_E_multiply_4 : decode c_E_multiply 4 = .ok (.if_icmp .ge 22, 3) := by decide +kernel
theorem d_E_multiply_7 : decode c_E_multiply 7 = .ok (.aload_n 0, 1) := by decide +kernel
theorem d_E_multiply_8 : decode c_E_multiply 8 = .ok (.getfield 33, 3) := by decide +kernel
theorem d_E_multiply_11 : decode c_E_multiply 11 = .ok (.iload_n 3, 1) := by decide +kernel
theorem d_E_multiply_12 : decode c_E_multiply 12 = .ok (.aload_n 0, 1) := by decide +kernel
theorem d_E_multiply_13 : decode c_E_multiply 13 = .ok (.iload_n 3, 1) := by decide +kernel
theorem d_E_multiply_14 : decode c_E_multiply 14 = .ok (.aload_n 1, 1) := by decide +kernel
theorem d_E_multiply_15 : decode c_E_multiply 15 = .ok (.iload_n 2, 1) := by decide +kernel
theorem d_E_multiply_16 : decode c_E_multiply 16 = .ok (.invokevirtual 81, 3) := by decide +kernel
theorem d_E_multiply_19 : decode c_E_multiply 19 = .ok (.lastore, 1) := by decide +kernel
theorem d_E_multiply_20 : decode c_E_multiply 20 = .ok (.iinc 3 1, 3) := by decide +kernel
theorem d_E_multiply_23 : decode c_E_multiply 23 = .ok (.goto (-21), 3) := by decide +kernel
theorem d_E_multiply_26 : decode c_E_multiply 26 = .ok (.aload_n 0, 1) := by decide +kernel
theorem d_E_multiply_27 : decode c_E_multiply 27 = .ok (.getfield 33, 3) := by decide +kernel
theorem d_E_multiply_30 : decode c_E_multiply 30 = .ok (.iconst 0, 1) := by decide +kernel
theorem d_E_multiply_31 : decode c_E_multiply 31 = .ok (.aload_n 1, 1) := by decide +kernel
theorem d_E_multiply_32 : decode c_E_multiply 32 = .ok (.iconst 0, 1) := by decide +kernel
theorem d_E_multiply_33 : decode c_E_multiply 33 = .ok (.iload_n 2, 1) := by decide +kernel
theorem d_E_multiply_34 : decode c_E_multiply 34 = .ok (.invokestatic 89, 3) := by decide +kernel
theorem d_E_multiply_37 : decode c_E_multiply 37 = .ok (.return_, 1) := by decide +kernel
theorem d_S_open_0 : decode c_S_open 0 = .ok (.aload_n 0, 1) := by decide +kernel
theorem d_S_open_1 : decode c_S_open 1 = .ok (.getfield 37, 3) := by decide +kernel
theorem d_S_open_4 : decode c_S_open 4 = .ok (.ifCond .ne 5, 3) := by decide +kernel
theorem d_S_open_7 : decode c_S_open 7 = .ok (.iconst (-1), 1) := by decide +kernel
theorem d_S_open_8 : decode c_S_open 8 = .ok (.ireturn, 1) := by decide +kernel
theorem d_S_open_9 : decode c_S_open 9 = .ok (.aload_n 0, 1) := by decide +kernel
theorem d_S_open_10 : decode c_S_open 10 = .ok (.iconst 0, 1) := by decide +kernel
theorem d_S_open_11 : decode c_S_open 11 = .ok (.putfield 37, 3) := by decide +kernel
theorem d_S_open_14 : decode c_S_open 14 = .ok (.iconst 0, 1) := by decide +kernel
theorem d_S_open_15 : decode c_S_open 15 = .ok (.ireturn, 1) := by decide +kernel
theorem d_S_displacement_0 : decode c_S_displacement 0 = .ok (.iload_n 1, 1) := by decide +kernel
theorem d_S_displacement_1 : decode c_S_displacement 1 = .ok (.invokestatic 89, 3) := by decide +kernel
theorem d_S_displacement_4 : decode c_S_displacement 4 = .ok (.ifCond .eq 14, 3) := by decide +kernel
theorem d_S_displacement_7 : decode c_S_displacement 7 = .ok (.aload_n 0, 1) := by decide +kernel
theorem d_S_displacement_8 : decode c_S_displacement 8 = .ok (.iload_n 2, 1) := by decide +kernel
theorem d_S_displacement_9 : decode c_S_displacement 9 = .ok (.iload_n 3, 1) := by decide +kernel
theorem d_S_displacement_10 : decode c_S_displacement 10 = .ok (.iload 4, 2) := by decide +kernel
theorem d_S_displacement_12 : decode c_S_displacement 12 = .ok (.invokevirtual 116, 3) := by decide +kernel
theorem d_S_displacement_15 : decode c_S_displacement 15 = .ok (.ifCond .ne 7, 3) := by decide +kernel
theorem d_S_displacement_18 : decode c_S_displacement 18 = .ok (.ldc2_w 119, 3) := by decide +kernel
theorem d_S_displacement_21 : decode c_S_displacement 21 = .ok (.lreturn, 1) := by decide +kernel
theorem d_S_displacement_22 : decode c_S_displacement 22 = .ok (.aload_n 0, 1) := by decide +kernel
theorem d_S_displacement_23 : decode c_S_displacement 23 = .ok (.getfield 33, 3) := by decide +kernel
theorem d_S_displacement_26 : decode c_S_displacement 26 = .ok (.iload_n 1, 1) := by decide +kernel
theorem d_S_displacement_27 : decode c_S_displacement 27 = .ok (.invokevirtual 121, 3) := by decide +kernel
theorem d_S_displacement_30 : decode c_S_displacement 30 = .ok (.aload_n 0, 1) := by decide +kernel
theorem d_S_displacement_31 : decode c_S_displacement 31 = .ok (.getfield 33, 3) := by decide +kernel
theorem d_S_displacement_34 : decode c_S_displacement 34 = .ok (.aload_n 0, 1) := by decide +kernel
theorem d_S_displacement_35 : decode c_S_displacement 35 = .ok (.getfield 12, 3) := by decide +kernel
theorem d_S_displacement_38 : decode c_S_displacement 38 = .ok (.aload_n 0, 1) := by decide +kernel
theorem d_S_displacement_39 : decode c_S_displacement 39 = .ok (.getfield 19, 3) := by decide +kernel
theorem d_S_displacement_42 : decode c_S_displacement 42 = .ok (.aload_n 0, 1) := by decide +kernel
theorem d_S_displacement_43 : decode c_S_displacement 43 = .ok (.getfield 26, 3) := by decide +kernel
theorem d_S_displacement_46 : decode c_S_displacement 46 = .ok (.invokevirtual 124, 3) := by decide +kernel
theorem d_S_displacement_49 : decode c_S_displacement 49 = .ok (.aload_n 0, 1) := by decide +kernel
theorem d_S_displacement_50 : decode c_S_displacement 50 = .ok (.aload_n 0, 1) := by decide +kernel
theorem d_S_displacement_51 : decode c_S_displacement 51 = .ok (.getfield 33, 3) := by decide +kernel
theorem d_S_displacement_54 : decode c_S_displacement 54 = .ok (.getfield 128, 3) := by decide +kernel
theorem d_S_displacement_57 : decode c_S_displacement 57 = .ok (.iload_n 2, 1) := by decide +kernel
theorem d_S_displacement_58 : decode c_S_displacement 58 = .ok (.iload_n 3, 1) := by decide +kernel
theorem d_S_displacement_59 : decode c_S_displacement 59 = .ok (.invokestatic 74, 3) := by decide +kernel
theorem d_S_displacement_62 : decode c_S_displacement 62 = .ok (.laload, 1) := by decide +kernel
theorem d_S_displacement_63 : decode c_S_displacement 63 = .ok (.iload 4, 2) := by decide +kernel
theorem d_S_displacement_65 : decode c_S_displacement 65 = .ok (.invokevirtual 132, 3) := by decide +kernel
theorem d_S_displacement_68 : decode c_S_displacement 68 = .ok (.lreturn, 1) := by decide +kernel
end
section
theorem d_S_isAnswerable_0 : decode c_S_isAnswerable 0 = .ok (.aload_n 0, 1) := by decide +kernel
theorem d_S_isAnswerable_1 : decode c_S_isAnswerable 1 = .ok (.getfield 37, 3) := by decide +kernel
theorem d_S_isAnswerable_4 : decode c_S_isAnswerable 4 = .ok (.ifCond .eq 29, 3) := by decide +kernel
theorem d_S_isAnswerable_7 : decode c_S_isAnswerable 7 = .ok (.aload_n 0, 1) := by decide +kernel
theorem d_S_isAnswerable_8 : decode c_S_isAnswerable 8 = .ok (.iload_n 1, 1) := by decide +kernel
theorem d_S_isAnswerable_9 : decode c_S_isAnswerable 9 = .ok (.invokevirtual 160, 3) := by decide +kernel
theorem d_S_isAnswerable_12 : decode c_S_isAnswerable 12 = .ok (.ifCond .eq 21, 3) := by decide +kernel
theorem d_S_isAnswerable_15 : decode c_S_isAnswerable 15 = .ok (.iload_n 2, 1) := by decide +kernel
theorem d_S_isAnswerable_16 : decode c_S_isAnswerable 16 = .ok (.invokestatic 71, 3) := by decide +kernel
theorem d_S_isAnswerable_19 : decode c_S_isAnswerable 19 = .ok (.ifCond .eq 14, 3) := by decide +kernel
theorem d_S_isAnswerable_22 : decode c_S_isAnswerable 22 = .ok (.iload_n 3, 1) := by decide +kernel
theorem d_S_isAnswerable_23 : decode c_S_isAnswerable 23 = .ok (.invokestatic 136, 3) := by decide +kernel
theorem d_S_isAnswerable_26 : decode c_S_isAnswerable 26 = .ok (.ifCond .eq 7, 3) := by decide +kernel
theorem d_S_isAnswerable_29 : decode c_S_isAnswerable 29 = .ok (.iconst 1, 1) := by decide +kernel
theorem d_S_isAnswerable_30 : decode c_S_isAnswerable 30 = .ok (.goto 4, 3) := by decide +kernel
theorem d_S_isAnswerable_33 : decode c_S_isAnswerable 33 = .ok (.iconst 0, 1) := by decide +kernel
theorem d_S_isAnswerable_34 : decode c_S_isAnswerable 34 = .ok (.ireturn, 1) := by decide +kernel
theorem d_S_isNodeThere_0 : decode c_S_isNodeThere 0 = .ok (.iload_n 1, 1) := by decide +kernel
theorem d_S_isNodeThere_1 : decode c_S_isNodeThere 1 = .ok (.invokestatic 41, 3) := by decide +kernel
theorem d_S_isNodeThere_4 : decode c_S_isNodeThere 4 = .ok (.ifCond .eq 18, 3) := by decide +kernel
theorem d_S_isNodeThere_7 : decode c_S_isNodeThere 7 = .ok (.aload_n 0, 1) := by decide +kernel
theorem d_S_isNodeThere_8 : decode c_S_isNodeThere 8 = .ok (.getfield 12, 3) := by decide +kernel
theorem d_S_isNodeThere_11 : decode c_S_isNodeThere 11 = .ok (.iload_n 1, 1) := by decide +kernel
theorem d_S_isNodeThere_12 : decode c_S_isNodeThere 12 = .ok (.invokevirtual 169, 3) := by decide +kernel
theorem d_S_isNodeThere_15 : decode c_S_isNodeThere 15 = .ok (.ifCond .eq 7, 3) := by decide +kernel
theorem d_S_isNodeThere_18 : decode c_S_isNodeThere 18 = .ok (.iconst 1, 1) := by decide +kernel
theorem d_S_isNodeThere_19 : decode c_S_isNodeThere 19 = .ok (.goto 4, 3) := by decide +kernel
theorem d_S_isNodeThere_22 : decode c_S_isNodeThere 22 = .ok (.iconst 0, 1) := by decide +kernel
theorem d_S_isNodeThere_23 : decode c_S_isNodeThere 23 = .ok (.ireturn, 1) := by decide +kernel
theorem d_S_isPart_0 : decode c_S_isPart 0 = .ok (.iload_n 0, 1) := by decide +kernel
theorem d_S_isPart_1 : decode c_S_isPart 1 = .ok (.ifCond .eq 8, 3) := by decide +kernel
theorem d_S_isPart_4 : decode c_S_isPart 4 = .ok (.iload_n 0, 1) := by decide +kernel
theorem d_S_isPart_5 : decode c_S_isPart 5 = .ok (.iconst 1, 1) := by decide +kernel
theorem d_S_isPart_6 : decode c_S_isPart 6 = .ok (.if_icmp .ne 7, 3) := by decide +kernel
theorem d_S_isPart_9 : decode c_S_isPart 9 = .ok (.iconst 1, 1) := by decide +kernel
theorem d_S_isPart_10 : decode c_S_isPart 10 = .ok (.goto 4, 3) := by decide +kernel
theorem d_S_isPart_13 : decode c_S_isPart 13 = .ok (.iconst 0, 1) := by decide +kernel
theorem d_S_isPart_14 : decode c_S_isPart 14 = .ok (.ireturn, 1) := by decide +kernel
theorem d_R_chooseCase_0 : decode c_R_chooseCase 0 = .ok (.iconst 0, 1) := by decide +kernel
theorem d_R_chooseCase_1 : decode c_R_chooseCase 1 = .ok (.istore_n 2, 1) := by decide +kernel
theorem d_R_chooseCase_2 : decode c_R_chooseCase 2 = .ok (.iload_n 2, 1) := by decide +kernel
theorem d_R_chooseCase_3 : decode c_R_chooseCase 3 = .ok (.iconst 4, 1) := by decide +kernel
theorem d_R_chooseCase_4 : decode c_R_chooseCase 4 = .ok (.if_icmp .ge 25, 3) := by decide +kernel
theorem d_R_chooseCase_7 : decode c_R_chooseCase 7 = .ok (.aload_n 0, 1) := by decide +kernel
theorem d_R_chooseCase_8 : decode c_R_chooseCase 8 = .ok (.getfield 9, 3) := by decide +kernel
theorem d_R_chooseCase_11 : decode c_R_chooseCase 11 = .ok (.iload_n 2, 1) := by decide +kernel
theorem d_R_chooseCase_12 : decode c_R_chooseCase 12 = .ok (.iload_n 2, 1) := by decide +kernel
theorem d_R_chooseCase_13 : decode c_R_chooseCase 13 = .ok (.iload_n 1, 1) := by decide +kernel
theorem d_R_chooseCase_14 : decode c_R_chooseCase 14 = .ok (.if_icmp .ne 7, 3) := by decide +kernel
theorem d_R_chooseCase_17 : decode c_R_chooseCase 17 = .ok (.iconst 1, 1) := by decide +kernel
theorem d_R_chooseCase_18 : decode c_R_chooseCase 18 = .ok (.goto 4, 3) := by decide +kernel
theorem d_R_chooseCase_21 : decode c_R_chooseCase 21 = .ok (.iconst 0, 1) := by decide +kernel
theorem d_R_chooseCase_22 : decode c_R_chooseCase 22 = .ok (.iastore, 1) := by decide +kernel
theorem d_R_chooseCase_23 : decode c_R_chooseCase 23 = .ok (.iinc 2 1, 3) := by decide +kernel
theorem d_R_chooseCase_26 : decode c_R_chooseCase 26 = .ok (.goto (-24), 3) := by decide +kernel
theorem d_R_chooseCase_29 : decode c_R_chooseCase 29 = .ok (.return_, 1) := by decide +kernel
theorem d_R_respond_0 : decode c_R_respond 0 = .ok (.aload_n 0, 1) := by decide +kernel
theorem d_R_respond_1 : decode c_R_respond 1 = .ok (.aload_n 3, 1) := by decide +kernel
theorem d_R_respond_2 : decode c_R_respond 2 = .ok (.invokevirtual 32, 3) := by decide +kernel
theorem d_R_respond_5 : decode c_R_respond 5 = .ok (.putfield 28, 3) := by decide +kernel
theorem d_R_respond_8 : decode c_R_respond 8 = .ok (.aload_n 0, 1) := by decide +kernel
theorem d_R_respond_9 : decode c_R_respond 9 = .ok (.aload_n 1, 1) := by decide +kernel
theorem d_R_respond_10 : decode c_R_respond 10 = .ok (.invokevirtual 38, 3) := by decide +kernel
theorem d_R_respond_13 : decode c_R_respond 13 = .ok (.aload_n 0, 1) := by decide +kernel
theorem d_R_respond_14 : decode c_R_respond 14 = .ok (.aload_n 1, 1) := by decide +kernel
theorem d_R_respond_15 : decode c_R_respond 15 = .ok (.invokevirtual 42, 3) := by decide +kernel
theorem d_R_respond_18 : decode c_R_respond 18 = .ok (.aload_n 0, 1) := by decide +kernel
theorem d_R_respond_19 : decode c_R_respond 19 = .ok (.aload_n 1, 1) := by decide +kernel
theorem d_R_respond_20 : decode c_R_respond 20 = .ok (.aload_n 2, 1) := by decide +kernel
theorem d_R_respond_21 : decode c_R_respond 21 = .ok (.aload_n 3, 1) := by decide +kernel
theorem d_R_respond_22 : decode c_R_respond 22 = .ok (.invokevirtual 45, 3) := by decide +kernel
theorem d_R_respond_25 : decode c_R_respond 25 = .ok (.aload_n 3, 1) := by decide +kernel
theorem d_R_respond_26 : decode c_R_respond 26 = .ok (.aload_n 0, 1) := by decide +kernel
theorem d_R_respond_27 : decode c_R_respond 27 = .ok (.getfield 22, 3) := by decide +kernel
theorem d_R_respond_30 : decode c_R_respond 30 = .ok (.aload_n 0, 1) := by decide +kernel
theorem d_R_respond_31 : decode c_R_respond 31 = .ok (.getfield 25, 3) := by decide +kernel
theorem d_R_respond_34 : decode c_R_respond 34 = .ok (.invokevirtual 49, 3) := by decide +kernel
theorem d_R_respond_37 : decode c_R_respond 37 = .ok (.iconst 0, 1) := by decide +kernel
theorem d_R_respond_38 : decode c_R_respond 38 = .ok (.istore 4, 2) := by decide +kernel
theorem d_R_respond_40 : decode c_R_respond 40 = .ok (.iload 4, 2) := by decide +kernel
theorem d_R_respond_42 : decode c_R_respond 42 = .ok (.aload_n 2, 1) := by decide +kernel
theorem d_R_respond_43 : decode c_R_respond 43 = .ok (.getfield 53, 3) := by decide +kernel
theorem d_R_respond_46 : decode c_R_respond 46 = .ok (.if_icmp .ge 28, 3) := by decide +kernel
theorem d_R_respond_49 : decode c_R_respond 49 = .ok (.aload_n 0, 1) := by decide +kernel
theorem d_R_respond_50 : decode c_R_respond 50 = .ok (.getfield 19, 3) := by decide +kernel
theorem d_R_respond_53 : decode c_R_respond 53 = .ok (.aload_n 2, 1) := by decide +kernel
theorem d_R_respond_54 : decode c_R_respond 54 = .ok (.getfield 59, 3) := by decide +kernel
theorem d_R_respond_57 : decode c_R_respond 57 = .ok (.iload 4, 2) := by decide +kernel
theorem d_R_respond_59 : decode c_R_respond 59 = .ok (.iaload, 1) := by decide +kernel
theorem d_R_respond_60 : decode c_R_respond 60 = .ok (.aload_n 0, 1) := by decide +kernel
theorem d_R_respond_61 : decode c_R_respond 61 = .ok (.getfield 25, 3) := by decide +kernel
theorem d_R_respond_64 : decode c_R_respond 64 = .ok (.iload 4, 2) := by decide +kernel
theorem d_R_respond_66 : decode c_R_respond 66 = .ok (.laload, 1) := by decide +kernel
theorem d_R_respond_67 : decode c_R_respond 67 = .ok (.lastore, 1) := by decide +kernel
theorem d_R_respond_68 : decode c_R_respond 68 = .ok (.iinc 4 1, 3) := by decide +kernel
theorem d_R_respond_71 : decode c_R_respond 71 = .ok (.goto (-31), 3) := by decide +kernel
theorem d_R_respond_74 : decode c_R_respond 74 = .ok (.return_, 1) := by decide +kernel
theorem d_E_wholeMinor_0 : decode c_E_wholeMinor 0 = .ok (.aload_n 0, 1) := by decide +kernel
theorem d_E_wholeMinor_1 : decode c_E_wholeMinor 1 = .ok (.getfield 19, 3) := by decide +kernel
theorem d_E_wholeMinor_4 : decode c_E_wholeMinor 4 = .ok (.iconst 2, 1) := by decide +kernel
theorem d_E_wholeMinor_5 : decode c_E_wholeMinor 5 = .ok (.irem, 1) := by decide +kernel
theorem d_E_wholeMinor_6 : decode c_E_wholeMinor 6 = .ok (.ifCond .ne 15, 3) := by decide +kernel
theorem d_E_wholeMinor_9 : decode c_E_wholeMinor 9 = .ok (.aload_n 0, 1) := by decide +kernel
theorem d_E_wholeMinor_10 : decode c_E_wholeMinor 10 = .ok (.getfield 23, 3) := by decide +kernel
theorem d_E_wholeMinor_13 : decode c_E_wholeMinor 13 = .ok (.aload_n 0, 1) := by decide +kernel
theorem d_E_wholeMinor_14 : decode c_E_wholeMinor 14 = .ok (.getfield 19, 3) := by decide +kernel
theorem d_E_wholeMinor_17 : decode c_E_wholeMinor 17 = .ok (.laload, 1) := by decide +kernel
theorem d_E_wholeMinor_18 : decode c_E_wholeMinor 18 = .ok (.goto 13, 3) := by decide +kernel
theorem d_E_wholeMinor_21 : decode c_E_wholeMinor 21 = .ok (.aload_n 0, 1) := by decide +kernel
theorem d_E_wholeMinor_22 : decode c_E_wholeMinor 22 = .ok (.getfield 23, 3) := by decide +kernel
theorem d_E_wholeMinor_25 : decode c_E_wholeMinor 25 = .ok (.aload_n 0, 1) := by decide +kernel
theorem d_E_wholeMinor_26 : decode c_E_wholeMinor 26 = .ok (.getfield 19, 3) := by decide +kernel
theorem d_E_wholeMinor_29 : decode c_E_wholeMinor 29 = .ok (.laload, 1) := by decide +kernel
theorem d_E_wholeMinor_30 : decode c_E_wholeMinor 30 = .ok (.lneg, 1) := by decide +kernel
theorem d_E_wholeMinor_31 : decode c_E_wholeMinor 31 = .ok (.lreturn, 1) := by decide +kernel
theorem d_R_sumUpLoads_0 : decode c_R_sumUpLoads 0 = .ok (.iconst 0, 1) := by decide +kernel
theorem d_R_sumUpLoads_1 : decode c_R_sumUpLoads 1 = .ok (.istore_n 2, 1) := by decide +kernel
theorem d_R_sumUpLoads_2 : decode c_R_sumUpLoads 2 = .ok (.iload_n 2, 1) := by decide +kernel
theorem d_R_sumUpLoads_3 : decode c_R_sumUpLoads 3 = .ok (.bipush 10, 2) := by decide +kernel
theorem d_R_sumUpLoads_5 : decode c_R_sumUpLoads 5 = .ok (.if_icmp .ge 54, 3) := by decide +kernel
theorem d_R_sumUpLoads_8 : decode c_R_sumUpLoads 8 = .ok (.lconst 0, 1) := by decide +kernel
theorem d_R_sumUpLoads_9 : decode c_R_sumUpLoads 9 = .ok (.lstore_n 3, 1) := by decide +kernel
theorem d_R_sumUpLoads_10 : decode c_R_sumUpLoads 10 = .ok (.iconst 0, 1) := by decide +kernel
theorem d_R_sumUpLoads_11 : decode c_R_sumUpLoads 11 = .ok (.istore 5, 2) := by decide +kernel
theorem d_R_sumUpLoads_13 : decode c_R_sumUpLoads 13 = .ok (.iload 5, 2) := by decide +kernel
theorem d_R_sumUpLoads_15 : decode c_R_sumUpLoads 15 = .ok (.iconst 4, 1) := by decide +kernel
theorem d_R_sumUpLoads_16 : decode c_R_sumUpLoads 16 = .ok (.if_icmp .ge 30, 3) := by decide +kernel
theorem d_R_sumUpLoads_19 : decode c_R_sumUpLoads 19 = .ok (.lload_n 3, 1) := by decide +kernel
theorem d_R_sumUpLoads_20 : decode c_R_sumUpLoads 20 = .ok (.aload_n 0, 1) := by decide +kernel
theorem d_R_sumUpLoads_21 : decode c_R_sumUpLoads 21 = .ok (.getfield 9, 3) := by decide +kernel
theorem d_R_sumUpLoads_24 : decode c_R_sumUpLoads 24 = .ok (.iload 5, 2) := by decide +kernel
theorem d_R_sumUpLoads_26 : decode c_R_sumUpLoads 26 = .ok (.iaload, 1) := by decide +kernel
theorem d_R_sumUpLoads_27 : decode c_R_sumUpLoads 27 = .ok (.aload_n 1, 1) := by decide +kernel
theorem d_R_sumUpLoads_28 : decode c_R_sumUpLoads 28 = .ok (.getfield 62, 3) := by decide +kernel
theorem d_R_sumUpLoads_31 : decode c_R_sumUpLoads 31 = .ok (.iload 5, 2) := by decide +kernel
theorem d_R_sumUpLoads_33 : decode c_R_sumUpLoads 33 = .ok (.aaload, 1) := by decide +kernel
theorem d_R_sumUpLoads_34 : decode c_R_sumUpLoads 34 = .ok (.iload_n 2, 1) := by decide +kernel
theorem d_R_sumUpLoads_35 : decode c_R_sumUpLoads 35 = .ok (.iaload, 1) := by decide +kernel
theorem d_R_sumUpLoads_36 : decode c_R_sumUpLoads 36 = .ok (.imul, 1) := by decide +kernel
theorem d_R_sumUpLoads_37 : decode c_R_sumUpLoads 37 = .ok (.i2l, 1) := by decide +kernel
theorem d_R_sumUpLoads_38 : decode c_R_sumUpLoads 38 = .ok (.ladd, 1) := by decide +kernel
theorem d_R_sumUpLoads_39 : decode c_R_sumUpLoads 39 = .ok (.lstore_n 3, 1) := by decide +kernel
theorem d_R_sumUpLoads_40 : decode c_R_sumUpLoads 40 = .ok (.iinc 5 1, 3) := by decide +kernel
theorem d_R_sumUpLoads_43 : decode c_R_sumUpLoads 43 = .ok (.goto (-30), 3) := by decide +kernel
theorem d_R_sumUpLoads_46 : decode c_R_sumUpLoads 46 = .ok (.aload_n 0, 1) := by decide +kernel
theorem d_R_sumUpLoads_47 : decode c_R_sumUpLoads 47 = .ok (.getfield 15, 3) := by decide +kernel
theorem d_R_sumUpLoads_50 : decode c_R_sumUpLoads 50 = .ok (.iload_n 2, 1) := by decide +kernel
theorem d_R_sumUpLoads_51 : decode c_R_sumUpLoads 51 = .ok (.lload_n 3, 1) := by decide +kernel
theorem d_R_sumUpLoads_52 : decode c_R_sumUpLoads 52 = .ok (.lastore, 1) := by decide +kernel
theorem d_R_sumUpLoads_53 : decode c_R_sumUpLoads 53 = .ok (.iinc 2 1, 3) := by decide +kernel
theorem d_R_sumUpLoads_56 : decode c_R_sumUpLoads 56 = .ok (.goto (-54), 3) := by decide +kernel
theorem d_R_sumUpLoads_59 : decode c_R_sumUpLoads 59 = .ok (.return_, 1) := by decide +kernel
theorem d_R_moveHeldSlots_0 : decode c_R_moveHeldSlots 0 = .ok (.iconst 0, 1) := by decide +kernel
theorem d_R_moveHeldSlots_1 : decode c_R_moveHeldSlots 1 = .ok (.istore_n 2, 1) := by decide +kernel
theorem d_R_moveHeldSlots_2 : decode c_R_moveHeldSlots 2 = .ok (.iload_n 2, 1) := by decide +kernel
theorem d_R_moveHeldSlots_3 : decode c_R_moveHeldSlots 3 = .ok (.bipush 10, 2) := by decide +kernel
theorem d_R_moveHeldSlots_5 : decode c_R_moveHeldSlots 5 = .ok (.if_icmp .ge 39, 3) := by decide +kernel
theorem d_R_moveHeldSlots_8 : decode c_R_moveHeldSlots 8 = .ok (.aload_n 0, 1) := by decide +kernel
theorem d_R_moveHeldSlots_9 : decode c_R_moveHeldSlots 9 = .ok (.getfield 19, 3) := by decide +kernel
theorem d_R_moveHeldSlots_12 : decode c_R_moveHeldSlots 12 = .ok (.iload_n 2, 1) := by decide +kernel
theorem d_R_moveHeldSlots_13 : decode c_R_moveHeldSlots 13 = .ok (.aload_n 1, 1) := by decide +kernel
theorem d_R_moveHeldSlots_14 : decode c_R_moveHeldSlots 14 = .ok (.getfield 67, 3) := by decide +kernel
theorem d_R_moveHeldSlots_17 : decode c_R_moveHeldSlots 17 = .ok (.iload_n 2, 1) := by decide +kernel
theorem d_R_moveHeldSlots_18 : decode c_R_moveHeldSlots 18 = .ok (.baload, 1) := by decide +kernel
theorem d_R_moveHeldSlots_19 : decode c_R_moveHeldSlots 19 = .ok (.ifCond .eq 17, 3) := by decide +kernel
theorem d_R_moveHeldSlots_22 : decode c_R_moveHeldSlots 22 = .ok (.aload_n 0, 1) := by decide +kernel
theorem d_R_moveHeldSlots_23 : decode c_R_moveHeldSlots 23 = .ok (.aload_n 1, 1) := by decide +kernel
theorem d_R_moveHeldSlots_24 : decode c_R_moveHeldSlots 24 = .ok (.iload_n 2, 1) := by decide +kernel
theorem d_R_moveHeldSlots_25 : decode c_R_moveHeldSlots 25 = .ok (.invokevirtual 71, 3) := by decide +kernel
theorem d_R_moveHeldSlots_28 : decode c_R_moveHeldSlots 28 = .ok (.aload_n 0, 1) := by decide +kernel
theorem d_R_moveHeldSlots_29 : decode c_R_moveHeldSlots 29 = .ok (.getfield 28, 3) := by decide +kernel
theorem d_R_moveHeldSlots_32 : decode c_R_moveHeldSlots 32 = .ok (.lmul, 1) := by decide +kernel
theorem d_R_moveHeldSlots_33 : decode c_R_moveHeldSlots 33 = .ok (.goto 4, 3) := by decide +kernel
theorem d_R_moveHeldSlots_36 : decode c_R_moveHeldSlots 36 = .ok (.lconst 0, 1) := by decide +kernel
theorem d_R_moveHeldSlots_37 : decode c_R_moveHeldSlots 37 = .ok (.lastore, 1) := by decide +kernel
theorem d_R_moveHeldSlots_38 : decode c_R_moveHeldSlots 38 = .ok (.iinc 2 1, 3) := by decide +kernel
theorem d_R_moveHeldSlots_41 : decode c_R_moveHeldSlots 41 = .ok (.goto (-39), 3) := by decide +kernel
theorem d_R_moveHeldSlots_44 : decode c_R_moveHeldSlots 44 = .ok (.return_, 1) := by decide +kernel
theorem d_R_heldDisplacement_0 : decode c_R_heldDisplacement 0 = .ok (.lconst 0, 1) := by decide +kernel
theorem d_R_heldDisplacement_1 : decode c_R_heldDisplacement 1 = .ok (.lstore_n 3, 1) := by decide +kernel
theorem d_R_heldDisplacement_2 : decode c_R_heldDisplacement 2 = .ok (.iconst 0, 1) := by decide +kernel
theorem d_R_heldDisplacement_3 : decode c_R_heldDisplacement 3 = .ok (.istore 5, 2) := by decide +kernel
theorem d_R_heldDisplacement_5 : decode c_R_heldDisplacement 5 = .ok (.iload 5, 2) := by decide +kernel
theorem d_R_heldDisplacement_7 : decode c_R_heldDisplacement 7 = .ok (.iconst 4, 1) := by decide +kernel
theorem d_R_heldDisplacement_8 : decode c_R_heldDisplacement 8 = .ok (.if_icmp .ge 27, 3) := by decide +kernel
theorem d_R_heldDisplacement_11 : decode c_R_heldDisplacement 11 = .ok (.lload_n 3, 1) := by decide +kernel
theorem d_R_heldDisplacement_12 : decode c_R_heldDisplacement 12 = .ok (.aload_n 0, 1) := by decide +kernel
theorem d_R_heldDisplacement_13 : decode c_R_heldDisplacement 13 = .ok (.getfield 9, 3) := by decide +kernel
theorem d_R_heldDisplacement_16 : decode c_R_heldDisplacement 16 = .ok (.iload 5, 2) := by decide +kernel
theorem d_R_heldDisplacement_18 : decode c_R_heldDisplacement 18 = .ok (.iaload, 1) := by decide +kernel
theorem d_R_heldDisplacement_19 : decode c_R_heldDisplacement 19 = .ok (.aload_n 1, 1) := by decide +kernel
theorem d_R_heldDisplacement_20 : decode c_R_heldDisplacement 20 = .ok (.getfield 75, 3) := by decide +kernel
theorem d_R_heldDisplacement_23 : decode c_R_heldDisplacement 23 = .ok (.iload_n 2, 1) := by decide +kernel
theorem d_R_heldDisplacement_24 : decode c_R_heldDisplacement 24 = .ok (.iaload, 1) := by decide +kernel
theorem d_R_heldDisplacement_25 : decode c_R_heldDisplacement 25 = .ok (.imul, 1) := by decide +kernel
theorem d_R_heldDisplacement_26 : decode c_R_heldDisplacement 26 = .ok (.i2l, 1) := by decide +kernel
theorem d_R_heldDisplacement_27 : decode c_R_heldDisplacement 27 = .ok (.ladd, 1) := by decide +kernel
theorem d_R_heldDisplacement_28 : decode c_R_heldDisplacement 28 = .ok (.lstore_n 3, 1) := by decide +kernel
theorem d_R_heldDisplacement_29 : decode c_R_heldDisplacement 29 = .ok (.iinc 5 1, 3) := by decide +kernel
theorem d_R_heldDisplacement_32 : decode c_R_heldDisplacement 32 = .ok (.goto (-27), 3) := by decide +kernel
theorem d_R_heldDisplacement_35 : decode c_R_heldDisplacement 35 = .ok (.lload_n 3, 1) := by decide +kernel
theorem d_R_heldDisplacement_36 : decode c_R_heldDisplacement 36 = .ok (.lreturn, 1) := by decide +kernel
theorem d_R_findRightSide_0 : decode c_R_findRightSide 0 = .ok (.iconst 0, 1) := by decide +kernel
theorem d_R_findRightSide_1 : decode c_R_findRightSide 1 = .ok (.istore 4, 2) := by decide +kernel
theorem d_R_findRightSide_3 : decode c_R_findRightSide 3 = .ok (.iload 4, 2) := by decide +kernel
theorem d_R_findRightSide_5 : decode c_R_findRightSide 5 = .ok (.aload_n 2, 1) := by decide +kernel
theorem d_R_findRightSide_6 : decode c_R_findRightSide 6 = .ok (.getfield 53, 3) := by decide +kernel
theorem d_R_findRightSide_9 : decode c_R_findRightSide 9 = .ok (.if_icmp .ge 85, 3) := by decide +kernel
theorem d_R_findRightSide_12 : decode c_R_findRightSide 12 = .ok (.aload_n 2, 1) := by decide +kernel
theorem d_R_findRightSide_13 : decode c_R_findRightSide 13 = .ok (.getfield 59, 3) := by decide +kernel
theorem d_R_findRightSide_16 : decode c_R_findRightSide 16 = .ok (.iload 4, 2) := by decide +kernel
theorem d_R_findRightSide_18 : decode c_R_findRightSide 18 = .ok (.iaload, 1) := by decide +kernel
theorem d_R_findRightSide_19 : decode c_R_findRightSide 19 = .ok (.istore 5, 2) := by decide +kernel
theorem d_R_findRightSide_21 : decode c_R_findRightSide 21 = .ok (.aload_n 0, 1) := by decide +kernel
theorem d_R_findRightSide_22 : decode c_R_findRightSide 22 = .ok (.getfield 15, 3) := by decide +kernel
theorem d_R_findRightSide_25 : decode c_R_findRightSide 25 = .ok (.iload 5, 2) := by decide +kernel
theorem d_R_findRightSide_27 : decode c_R_findRightSide 27 = .ok (.laload, 1) := by decide +kernel
theorem d_R_findRightSide_28 : decode c_R_findRightSide 28 = .ok (.lstore 6, 2) := by decide +kernel
theorem d_R_findRightSide_30 : decode c_R_findRightSide 30 = .ok (.iconst 0, 1) := by decide +kernel
theorem d_R_findRightSide_31 : decode c_R_findRightSide 31 = .ok (.istore 8, 2) := by decide +kernel
theorem d_R_findRightSide_33 : decode c_R_findRightSide 33 = .ok (.iload 8, 2) := by decide +kernel
theorem d_R_findRightSide_35 : decode c_R_findRightSide 35 = .ok (.bipush 10, 2) := by decide +kernel
theorem d_R_findRightSide_37 : decode c_R_findRightSide 37 = .ok (.if_icmp .ge 42, 3) := by decide +kernel
theorem d_R_findRightSide_40 : decode c_R_findRightSide 40 = .ok (.aload_n 1, 1) := by decide +kernel
theorem d_R_findRightSide_41 : decode c_R_findRightSide 41 = .ok (.getfield 67, 3) := by decide +kernel
theorem d_R_findRightSide_44 : decode c_R_findRightSide 44 = .ok (.iload 8, 2) := by decide +kernel
theorem d_R_findRightSide_46 : decode c_R_findRightSide 46 = .ok (.baload, 1) := by decide +kernel
theorem d_R_findRightSide_47 : decode c_R_findRightSide 47 = .ok (.ifCond .eq 26, 3) := by decide +kernel
theorem d_R_findRightSide_50 : decode c_R_findRightSide 50 = .ok (.lload 6, 2) := by decide +kernel
theorem d_R_findRightSide_52 : decode c_R_findRightSide 52 = .ok (.aload_n 3, 1) := by decide +kernel
theorem d_R_findRightSide_53 : decode c_R_findRightSide 53 = .ok (.getfield 78, 3) := by decide +kernel
theorem d_R_findRightSide_56 : decode c_R_findRightSide 56 = .ok (.iload 5, 2) := by decide +kernel
theorem d_R_findRightSide_58 : decode c_R_findRightSide 58 = .ok (.aaload, 1) := by decide +kernel
theorem d_R_findRightSide_59 : decode c_R_findRightSide 59 = .ok (.iload 8, 2) := by decide +kernel
theorem d_R_findRightSide_61 : decode c_R_findRightSide 61 = .ok (.laload, 1) := by decide +kernel
theorem d_R_findRightSide_62 : decode c_R_findRightSide 62 = .ok (.aload_n 0, 1) := by decide +kernel
theorem d_R_findRightSide_63 : decode c_R_findRightSide 63 = .ok (.aload_n 1, 1) := by decide +kernel
theorem d_R_findRightSide_64 : decode c_R_findRightSide 64 = .ok (.iload 8, 2) := by decide +kernel
theorem d_R_findRightSide_66 : decode c_R_findRightSide 66 = .ok (.invokevirtual 71, 3) := by decide +kernel
theorem d_R_findRightSide_69 : decode c_R_findRightSide 69 = .ok (.lmul, 1) := by decide +kernel
theorem d_R_findRightSide_70 : decode c_R_findRightSide 70 = .ok (.lsub, 1) := by decide +kernel
theorem d_R_findRightSide_71 : decode c_R_findRightSide 71 = .ok (.lstore 6, 2) := by decide +kernel
theorem d_R_findRightSide_73 : decode c_R_findRightSide 73 = .ok (.iinc 8 1, 3) := by decide +kernel
theorem d_R_findRightSide_76 : decode c_R_findRightSide 76 = .ok (.goto (-43), 3) := by decide +kernel
theorem d_R_findRightSide_79 : decode c_R_findRightSide 79 = .ok (.aload_n 0, 1) := by decide +kernel
theorem d_R_findRightSide_80 : decode c_R_findRightSide 80 = .ok (.getfield 22, 3) := by decide +kernel
theorem d_R_findRightSide_83 : decode c_R_findRightSide 83 = .ok (.iload 4, 2) := by decide +kernel
theorem d_R_findRightSide_85 : decode c_R_findRightSide 85 = .ok (.lload 6, 2) := by decide +kernel
theorem d_R_findRightSide_87 : decode c_R_findRightSide 87 = .ok (.lastore, 1) := by decide +kernel
theorem d_R_findRightSide_88 : decode c_R_findRightSide 88 = .ok (.iinc 4 1, 3) := by decide +kernel
theorem d_R_findRightSide_91 : decode c_R_findRightSide 91 = .ok (.goto (-88), 3) := by decide +kernel
theorem d_R_findRightSide_94 : decode c_R_findRightSide 94 = .ok (.return_, 1) := by decide +kernel
theorem d_E_solveScaled_0 : decode c_E_solveScaled 0 = .ok (.aload_n 1, 1) := by decide +kernel
theorem d_E_solveScaled_1 : decode c_E_solveScaled 1 = .ok (.iconst 0, 1) := by decide +kernel
theorem d_E_solveScaled_2 : decode c_E_solveScaled 2 = .ok (.aload_n 2, 1) := by decide +kernel
theorem d_E_solveScaled_3 : decode c_E_solveScaled 3 = .ok (.iconst 0, 1) := by decide +kernel
theorem d_E_solveScaled_4 : decode c_E_solveScaled 4 = .ok (.aload_n 0, 1) := by decide +kernel
theorem d_E_solveScaled_5 : decode c_E_solveScaled 5 = .ok (.getfield 19, 3) := by decide +kernel
theorem d_E_solveScaled_8 : decode c_E_solveScaled 8 = .ok (.invokestatic 89, 3) := by decide +kernel
theorem d_E_solveScaled_11 : decode c_E_solveScaled 11 = .ok (.iconst 1, 1) := by decide +kernel
theorem d_E_solveScaled_12 : decode c_E_solveScaled 12 = .ok (.istore_n 3, 1) := by decide +kernel
theorem d_E_solveScaled_13 : decode c_E_solveScaled 13 = .ok (.iload_n 3, 1) := by decide +kernel
theorem d_E_solveScaled_14 : decode c_E_solveScaled 14 = .ok (.aload_n 0, 1) := by decide +kernel
theorem d_E_solveScaled_15 : decode c_E_solveScaled 15 = .ok (.getfield 19, 3) := by decide +kernel
theorem d_E_solveScaled_18 : decode c_E_solveScaled 18 = .ok (.if_icmp .ge 54, 3) := by decide +kernel
theorem d_E_solveScaled_21 : decode c_E_solveScaled 21 = .ok (.aload_n 0, 1) := by decide +kernel
theorem d_E_solveScaled_22 : decode c_E_solveScaled 22 = .ok (.aload_n 2, 1) := by decide +kernel
theorem d_E_solveScaled_23 : decode c_E_solveScaled 23 = .ok (.aload_n 0, 1) := by decide +kernel
theorem d_E_solveScaled_24 : decode c_E_solveScaled 24 = .ok (.getfield 19, 3) := by decide +kernel
theorem d_E_solveScaled_27 : decode c_E_solveScaled 27 = .ok (.invokevirtual 85, 3) := by decide +kernel
theorem d_E_solveScaled_30 : decode c_E_solveScaled 30 = .ok (.iconst 0, 1) := by decide +kernel
theorem d_E_solveScaled_31 : decode c_E_solveScaled 31 = .ok (.istore 4, 2) := by decide +kernel
theorem d_E_solveScaled_33 : decode c_E_solveScaled 33 = .ok (.iload 4, 2) := by decide +kernel
theorem d_E_solveScaled_35 : decode c_E_solveScaled 35 = .ok (.aload_n 0, 1) := by decide +kernel
theorem d_E_solveScaled_36 : decode c_E_solveScaled 36 = .ok (.getfield 19, 3) := by decide +kernel
theorem d_E_solveScaled_39 : decode c_E_solveScaled 39 = .ok (.if_icmp .ge 27, 3) := by decide +kernel
theorem d_E_solveScaled_42 : decode c_E_solveScaled 42 = .ok (.aload_n 2, 1) := by decide +kernel
theorem d_E_solveScaled_43 : decode c_E_solveScaled 43 = .ok (.iload 4, 2) := by decide +kernel
theorem d_E_solveScaled_45 : decode c_E_solveScaled 45 = .ok (.dup2, 1) := by decide +kernel
theorem d_E_solveScaled_46 : decode c_E_solveScaled 46 = .ok (.laload, 1) := by decide +kernel
theorem d_E_solveScaled_47 : decode c_E_solveScaled 47 = .ok (.aload_n 0, 1) := by decide +kernel
theorem d_E_solveScaled_48 : decode c_E_solveScaled 48 = .ok (.getfield 23, 3) := by decide +kernel
theorem d_E_solveScaled_51 : decode c_E_solveScaled 51 = .ok (.iload_n 3, 1) := by decide +kernel
theorem d_E_solveScaled_52 : decode c_E_solveScaled 52 = .ok (.laload, 1) := by decide +kernel
theorem d_E_solveScaled_53 : decode c_E_solveScaled 53 = .ok (.aload_n 1, 1) := by decide +kernel
theorem d_E_solveScaled_54 : decode c_E_solveScaled 54 = .ok (.iload 4, 2) := by decide +kernel
theorem d_E_solveScaled_56 : decode c_E_solveScaled 56 = .ok (.laload, 1) := by decide +kernel
theorem d_E_solveScaled_57 : decode c_E_solveScaled 57 = .ok (.lmul, 1) := by decide +kernel
theorem d_E_solveScaled_58 : decode c_E_solveScaled 58 = .ok (.ladd, 1) := by decide +kernel
theorem d_E_solveScaled_59 : decode c_E_solveScaled 59 = .ok (.lastore, 1) := by decide +kernel
theorem d_E_solveScaled_60 : decode c_E_solveScaled 60 = .ok (.iinc 4 1, 3) := by decide +kernel
theorem d_E_solveScaled_63 : decode c_E_solveScaled 63 = .ok (.goto (-30), 3) := by decide +kernel
theorem d_E_solveScaled_66 : decode c_E_solveScaled 66 = .ok (.iinc 3 1, 3) := by decide +kernel
theorem d_E_solveScaled_69 : decode c_E_solveScaled 69 = .ok (.goto (-56), 3) := by decide +kernel
theorem d_E_solveScaled_72 : decode c_E_solveScaled 72 = .ok (.aload_n 0, 1) := by decide +kernel
theorem d_E_solveScaled_73 : decode c_E_solveScaled 73 = .ok (.getfield 19, 3) := by decide +kernel
theorem d_E_solveScaled_76 : decode c_E_solveScaled 76 = .ok (.iconst 2, 1) := by decide +kernel
theorem d_E_solveScaled_77 : decode c_E_solveScaled 77 = .ok (.irem, 1) := by decide +kernel
theorem d_E_solveScaled_78 : decode c_E_solveScaled 78 = .ok (.ifCond .ne 26, 3) := by decide +kernel
theorem d_E_solveScaled_81 : decode c_E_solveScaled 81 = .ok (.iconst 0, 1) := by decide +kernel
theorem d_E_solveScaled_82 : decode c_E_solveScaled 82 = .ok (.istore_n 3, 1) := by decide +kernel
theorem d_E_solveScaled_83 : decode c_E_solveScaled 83 = .ok (.iload_n 3, 1) := by decide +kernel
theorem d_E_solveScaled_84 : decode c_E_solveScaled 84 = .ok (.aload_n 0, 1) := by decide +kernel
theorem d_E_solveScaled_85 : decode c_E_solveScaled 85 = .ok (.getfield 19, 3) := by decide +kernel
theorem d_E_solveScaled_88 : decode c_E_solveScaled 88 = .ok (.if_icmp .ge 16, 3) := by decide +kernel
theorem d_E_solveScaled_91 : decode c_E_solveScaled 91 = .ok (.aload_n 2, 1) := by decide +kernel
theorem d_E_solveScaled_92 : decode c_E_solveScaled 92 = .ok (.iload_n 3, 1) := by decide +kernel
theorem d_E_solveScaled_93 : decode c_E_solveScaled 93 = .ok (.aload_n 2, 1) := by decide +kernel
theorem d_E_solveScaled_94 : decode c_E_solveScaled 94 = .ok (.iload_n 3, 1) := by decide +kernel
theorem d_E_solveScaled_95 : decode c_E_solveScaled 95 = .ok (.laload, 1) := by decide +kernel
theorem d_E_solveScaled_96 : decode c_E_solveScaled 96 = .ok (.lneg, 1) := by decide +kernel
theorem d_E_solveScaled_97 : decode c_E_solveScaled 97 = .ok (.lastore, 1) := by decide +kernel
theorem d_E_solveScaled_98 : decode c_E_solveScaled 98 = .ok (.iinc 3 1, 3) := by decide +kernel
theorem d_E_solveScaled_101 : decode c_E_solveScaled 101 = .ok (.goto (-18), 3) := by decide +kernel
theorem d_E_solveScaled_104 : decode c_E_solveScaled 104 = .ok (.return_, 1) := by decide +kernel
theorem d_S_partOfFraction_0 : decode c_S_partOfFraction 0 = .ok (.aload_n 0, 1) := by decide +kernel
theorem d_S_partOfFraction_1 : decode c_S_partOfFraction 1 = .ok (.getfield 26, 3) := by decide +kernel
theorem d_S_partOfFraction_4 : decode c_S_partOfFraction 4 = .ok (.invokevirtual 150, 3) := by decide +kernel
theorem d_S_partOfFraction_7 : decode c_S_partOfFraction 7 = .ok (.lstore 4, 2) := by decide +kernel
theorem d_S_partOfFraction_9 : decode c_S_partOfFraction 9 = .ok (.lload_n 1, 1) := by decide +kernel
theorem d_S_partOfFraction_10 : decode c_S_partOfFraction 10 = .ok (.invokestatic 172, 3) := by decide +kernel
theorem d_S_partOfFraction_13 : decode c_S_partOfFraction 13 = .ok (.lload 4, 2) := by decide +kernel
theorem d_S_partOfFraction_15 : decode c_S_partOfFraction 15 = .ok (.invokestatic 178, 3) := by decide +kernel
theorem d_S_partOfFraction_18 : decode c_S_partOfFraction 18 = .ok (.lstore 6, 2) := by decide +kernel
theorem d_S_partOfFraction_20 : decode c_S_partOfFraction 20 = .ok (.lload 6, 2) := by decide +kernel
theorem d_S_partOfFraction_22 : decode c_S_partOfFraction 22 = .ok (.lconst 0, 1) := by decide +kernel
theorem d_S_partOfFraction_23 : decode c_S_partOfFraction 23 = .ok (.lcmp, 1) := by decide +kernel
theorem d_S_partOfFraction_24 : decode c_S_partOfFraction 24 = .ok (.ifCond .ne 7, 3) := by decide +kernel
theorem d_S_partOfFraction_27 : decode c_S_partOfFraction 27 = .ok (.ldc2_w 119, 3) := by decide +kernel
theorem d_S_partOfFraction_30 : decode c_S_partOfFraction 30 = .ok (.lreturn, 1) := by decide +kernel
theorem d_S_partOfFraction_31 : decode c_S_partOfFraction 31 = .ok (.iload_n 3, 1) := by decide +kernel
theorem d_S_partOfFraction_32 : decode c_S_partOfFraction 32 = .ok (.ifCond .ne 10, 3) := by decide +kernel
theorem d_S_partOfFraction_35 : decode c_S_partOfFraction 35 = .ok (.lload_n 1, 1) := by decide +kernel
theorem d_S_partOfFraction_36 : decode c_S_partOfFraction 36 = .ok (.lload 6, 2) := by decide +kernel
theorem d_S_partOfFraction_38 : decode c_S_partOfFraction 38 = .ok (.ldiv, 1) := by decide +kernel
theorem d_S_partOfFraction_39 : decode c_S_partOfFraction 39 = .ok (.goto 8, 3) := by decide +kernel
theorem d_S_partOfFraction_42 : decode c_S_partOfFraction 42 = .ok (.lload 4, 2) := by decide +kernel
theorem d_S_partOfFraction_44 : decode c_S_partOfFraction 44 = .ok (.lload 6, 2) := by decide +kernel
theorem d_S_partOfFraction_46 : decode c_S_partOfFraction 46 = .ok (.ldiv, 1) := by decide +kernel
theorem d_S_partOfFraction_47 : decode c_S_partOfFraction 47 = .ok (.lreturn, 1) := by decide +kernel
theorem d_S_greatestDivisor_0 : decode c_S_greatestDivisor 0 = .ok (.lload_n 0, 1) := by decide +kernel
theorem d_S_greatestDivisor_1 : decode c_S_greatestDivisor 1 = .ok (.lstore 4, 2) := by decide +kernel
theorem d_S_greatestDivisor_3 : decode c_S_greatestDivisor 3 = .ok (.lload_n 2, 1) := by decide +kernel
theorem d_S_greatestDivisor_4 : decode c_S_greatestDivisor 4 = .ok (.lstore 6, 2) := by decide +kernel
theorem d_S_greatestDivisor_6 : decode c_S_greatestDivisor 6 = .ok (.iconst 0, 1) := by decide +kernel
theorem d_S_greatestDivisor_7 : decode c_S_greatestDivisor 7 = .ok (.istore 8, 2) := by decide +kernel
theorem d_S_greatestDivisor_9 : decode c_S_greatestDivisor 9 = .ok (.iload 8, 2) := by decide +kernel
theorem d_S_greatestDivisor_11 : decode c_S_greatestDivisor 11 = .ok (.bipush 100, 2) := by decide +kernel
theorem d_S_greatestDivisor_13 : decode c_S_greatestDivisor 13 = .ok (.if_icmp .ge 31, 3) := by decide +kernel
theorem d_S_greatestDivisor_16 : decode c_S_greatestDivisor 16 = .ok (.lload 6, 2) := by decide +kernel
theorem d_S_greatestDivisor_18 : decode c_S_greatestDivisor 18 = .ok (.lconst 0, 1) := by decide +kernel
theorem d_S_greatestDivisor_19 : decode c_S_greatestDivisor 19 = .ok (.lcmp, 1) := by decide +kernel
theorem d_S_greatestDivisor_20 : decode c_S_greatestDivisor 20 = .ok (.ifCond .eq 24, 3) := by decide +kernel
theorem d_S_greatestDivisor_23 : decode c_S_greatestDivisor 23 = .ok (.lload 4, 2) := by decide +kernel
theorem d_S_greatestDivisor_25 : decode c_S_greatestDivisor 25 = .ok (.lload 6, 2) := by decide +kernel
theorem d_S_greatestDivisor_27 : decode c_S_greatestDivisor 27 = .ok (.lrem, 1) := by decide +kernel
theorem d_S_greatestDivisor_28 : decode c_S_greatestDivisor 28 = .ok (.lstore 9, 2) := by decide +kernel
theorem d_S_greatestDivisor_30 : decode c_S_greatestDivisor 30 = .ok (.lload 6, 2) := by decide +kernel
theorem d_S_greatestDivisor_32 : decode c_S_greatestDivisor 32 = .ok (.lstore 4, 2) := by decide +kernel
theorem d_S_greatestDivisor_34 : decode c_S_greatestDivisor 34 = .ok (.lload 9, 2) := by decide +kernel
theorem d_S_greatestDivisor_36 : decode c_S_greatestDivisor 36 = .ok (.lstore 6, 2) := by decide +kernel
theorem d_S_greatestDivisor_38 : decode c_S_greatestDivisor 38 = .ok (.iinc 8 1, 3) := by decide +kernel
theorem d_S_greatestDivisor_41 : decode c_S_greatestDivisor 41 = .ok (.goto (-32), 3) := by decide +kernel
theorem d_S_greatestDivisor_44 : decode c_S_greatestDivisor 44 = .ok (.lload 4, 2) := by decide +kernel
theorem d_S_greatestDivisor_46 : decode c_S_greatestDivisor 46 = .ok (.lreturn, 1) := by decide +kernel
theorem d_S_force_0 : decode c_S_force 0 = .ok (.aload_n 0, 1) := by decide +kernel
theorem d_S_force_1 : decode c_S_force 1 = .ok (.getfield 37, 3) := by decide +kernel
theorem d_S_force_4 : decode c_S_force 4 = .ok (.ifCond .eq 25, 3) := by decide +kernel
theorem d_S_force_7 : decode c_S_force 7 = .ok (.iload_n 1, 1) := by decide +kernel
theorem d_S_force_8 : decode c_S_force 8 = .ok (.invokestatic 89, 3) := by decide +kernel
theorem d_S_force_11 : decode c_S_force 11 = .ok (.ifCond .eq 18, 3) := by decide +kernel
theorem d_S_force_14 : decode c_S_force 14 = .ok (.aload_n 0, 1) := by decide +kernel
theorem d_S_force_15 : decode c_S_force 15 = .ok (.iload_n 2, 1) := by decide +kernel
theorem d_S_force_16 : decode c_S_force 16 = .ok (.invokevirtual 64, 3) := by decide +kernel
theorem d_S_force_19 : decode c_S_force 19 = .ok (.ifCond .eq 10, 3) := by decide +kernel
theorem d_S_force_22 : decode c_S_force 22 = .ok (.iload_n 3, 1) := by decide +kernel
theorem d_S_force_23 : decode c_S_force 23 = .ok (.invokestatic 136, 3) := by decide +kernel
theorem d_S_force_26 : decode c_S_force 26 = .ok (.ifCond .ne 7, 3) := by decide +kernel
theorem d_S_force_29 : decode c_S_force 29 = .ok (.ldc2_w 119, 3) := by decide +kernel
theorem d_S_force_32 : decode c_S_force 32 = .ok (.lreturn, 1) := by decide +kernel
theorem d_S_force_33 : decode c_S_force 33 = .ok (.aload_n 0, 1) := by decide +kernel
theorem d_S_force_34 : decode c_S_force 34 = .ok (.getfield 33, 3) := by decide +kernel
theorem d_S_force_37 : decode c_S_force 37 = .ok (.iload_n 1, 1) := by decide +kernel
theorem d_S_force_38 : decode c_S_force 38 = .ok (.invokevirtual 121, 3) := by decide +kernel
theorem d_S_force_41 : decode c_S_force 41 = .ok (.aload_n 0, 1) := by decide +kernel
theorem d_S_force_42 : decode c_S_force 42 = .ok (.getfield 33, 3) := by decide +kernel
theorem d_S_force_45 : decode c_S_force 45 = .ok (.aload_n 0, 1) := by decide +kernel
theorem d_S_force_46 : decode c_S_force 46 = .ok (.getfield 12, 3) := by decide +kernel
theorem d_S_force_49 : decode c_S_force 49 = .ok (.aload_n 0, 1) := by decide +kernel
theorem d_S_force_50 : decode c_S_force 50 = .ok (.getfield 19, 3) := by decide +kernel
theorem d_S_force_53 : decode c_S_force 53 = .ok (.aload_n 0, 1) := by decide +kernel
theorem d_S_force_54 : decode c_S_force 54 = .ok (.getfield 26, 3) := by decide +kernel
theorem d_S_force_57 : decode c_S_force 57 = .ok (.invokevirtual 124, 3) := by decide +kernel
theorem d_S_force_60 : decode c_S_force 60 = .ok (.aload_n 0, 1) := by decide +kernel
theorem d_S_force_61 : decode c_S_force 61 = .ok (.aload_n 0, 1) := by decide +kernel
theorem d_S_force_62 : decode c_S_force 62 = .ok (.getfield 33, 3) := by decide +kernel
theorem d_S_force_65 : decode c_S_force 65 = .ok (.aload_n 0, 1) := by decide +kernel
theorem d_S_force_66 : decode c_S_force 66 = .ok (.getfield 12, 3) := by decide +kernel
theorem d_S_force_69 : decode c_S_force 69 = .ok (.iload_n 2, 1) := by decide +kernel
theorem d_S_force_70 : decode c_S_force 70 = .ok (.invokevirtual 139, 3) := by decide +kernel
theorem d_S_force_73 : decode c_S_force 73 = .ok (.iload_n 3, 1) := by decide +kernel
theorem d_S_force_74 : decode c_S_force 74 = .ok (.invokevirtual 132, 3) := by decide +kernel
theorem d_S_force_77 : decode c_S_force 77 = .ok (.lreturn, 1) := by decide +kernel
theorem d_R_forceNumerator_0 : decode c_R_forceNumerator 0 = .ok (.lconst 0, 1) := by decide +kernel
theorem d_R_forceNumerator_1 : decode c_R_forceNumerator 1 = .ok (.lstore_n 3, 1) := by decide +kernel
theorem d_R_forceNumerator_2 : decode c_R_forceNumerator 2 = .ok (.iconst 0, 1) := by decide +kernel
theorem d_R_forceNumerator_3 : decode c_R_forceNumerator 3 = .ok (.istore 5, 2) := by decide +kernel
theorem d_R_forceNumerator_5 : decode c_R_forceNumerator 5 = .ok (.iload 5, 2) := by decide +kernel
theorem d_R_forceNumerator_7 : decode c_R_forceNumerator 7 = .ok (.bipush 10, 2) := by decide +kernel
theorem d_R_forceNumerator_9 : decode c_R_forceNumerator 9 = .ok (.if_icmp .ge 28, 3) := by decide +kernel
theorem d_R_forceNumerator_12 : decode c_R_forceNumerator 12 = .ok (.lload_n 3, 1) := by decide +kernel
theorem d_R_forceNumerator_13 : decode c_R_forceNumerator 13 = .ok (.aload_n 1, 1) := by decide +kernel
theorem d_R_forceNumerator_14 : decode c_R_forceNumerator 14 = .ok (.iload_n 2, 1) := by decide +kernel
theorem d_R_forceNumerator_15 : decode c_R_forceNumerator 15 = .ok (.iload 5, 2) := by decide +kernel
theorem d_R_forceNumerator_17 : decode c_R_forceNumerator 17 = .ok (.invokevirtual 82, 3) := by decide +kernel
theorem d_R_forceNumerator_20 : decode c_R_forceNumerator 20 = .ok (.i2l, 1) := by decide +kernel
theorem d_R_forceNumerator_21 : decode c_R_forceNumerator 21 = .ok (.aload_n 0, 1) := by decide +kernel
theorem d_R_forceNumerator_22 : decode c_R_forceNumerator 22 = .ok (.getfield 19, 3) := by decide +kernel
theorem d_R_forceNumerator_25 : decode c_R_forceNumerator 25 = .ok (.iload 5, 2) := by decide +kernel
theorem d_R_forceNumerator_27 : decode c_R_forceNumerator 27 = .ok (.laload, 1) := by decide +kernel
theorem d_R_forceNumerator_28 : decode c_R_forceNumerator 28 = .ok (.lmul, 1) := by decide +kernel
theorem d_R_forceNumerator_29 : decode c_R_forceNumerator 29 = .ok (.ladd, 1) := by decide +kernel
theorem d_R_forceNumerator_30 : decode c_R_forceNumerator 30 = .ok (.lstore_n 3, 1) := by decide +kernel
theorem d_R_forceNumerator_31 : decode c_R_forceNumerator 31 = .ok (.iinc 5 1, 3) := by decide +kernel
theorem d_R_forceNumerator_34 : decode c_R_forceNumerator 34 = .ok (.goto (-29), 3) := by decide +kernel
theorem d_R_forceNumerator_37 : decode c_R_forceNumerator 37 = .ok (.aload_n 1, 1) := by decide +kernel
theorem d_R_forceNumerator_38 : decode c_R_forceNumerator 38 = .ok (.getfield 86, 3) := by decide +kernel
theorem d_R_forceNumerator_41 : decode c_R_forceNumerator 41 = .ok (.iload_n 2, 1) := by decide +kernel
theorem d_R_forceNumerator_42 : decode c_R_forceNumerator 42 = .ok (.iaload, 1) := by decide +kernel
theorem d_R_forceNumerator_43 : decode c_R_forceNumerator 43 = .ok (.i2l, 1) := by decide +kernel
theorem d_R_forceNumerator_44 : decode c_R_forceNumerator 44 = .ok (.lload_n 3, 1) := by decide +kernel
theorem d_R_forceNumerator_45 : decode c_R_forceNumerator 45 = .ok (.lmul, 1) := by decide +kernel
theorem d_R_forceNumerator_46 : decode c_R_forceNumerator 46 = .ok (.lreturn, 1) := by decide +kernel
theorem d_S_reaction_0 : decode c_S_reaction 0 = .ok (.iload_n 1, 1) := by decide +kernel
theorem d_S_reaction_1 : decode c_S_reaction 1 = .ok (.invokestatic 89, 3) := by decide +kernel
theorem d_S_reaction_4 : decode c_S_reaction 4 = .ok (.ifCond .eq 14, 3) := by decide +kernel
theorem d_S_reaction_7 : decode c_S_reaction 7 = .ok (.aload_n 0, 1) := by decide +kernel
theorem d_S_reaction_8 : decode c_S_reaction 8 = .ok (.iload_n 2, 1) := by decide +kernel
theorem d_S_reaction_9 : decode c_S_reaction 9 = .ok (.iload_n 3, 1) := by decide +kernel
theorem d_S_reaction_10 : decode c_S_reaction 10 = .ok (.iload 4, 2) := by decide +kernel
theorem d_S_reaction_12 : decode c_S_reaction 12 = .ok (.invokevirtual 116, 3) := by decide +kernel
theorem d_S_reaction_15 : decode c_S_reaction 15 = .ok (.ifCond .ne 7, 3) := by decide +kernel
theorem d_S_reaction_18 : decode c_S_reaction 18 = .ok (.ldc2_w 119, 3) := by decide +kernel
theorem d_S_reaction_21 : decode c_S_reaction 21 = .ok (.lreturn, 1) := by decide +kernel
theorem d_S_reaction_22 : decode c_S_reaction 22 = .ok (.iload_n 2, 1) := by decide +kernel
theorem d_S_reaction_23 : decode c_S_reaction 23 = .ok (.iload_n 3, 1) := by decide +kernel
theorem d_S_reaction_24 : decode c_S_reaction 24 = .ok (.invokestatic 74, 3) := by decide +kernel
theorem d_S_reaction_27 : decode c_S_reaction 27 = .ok (.istore 5, 2) := by decide +kernel
theorem d_S_reaction_29 : decode c_S_reaction 29 = .ok (.aload_n 0, 1) := by decide +kernel
theorem d_S_reaction_30 : decode c_S_reaction 30 = .ok (.getfield 12, 3) := by decide +kernel
theorem d_S_reaction_33 : decode c_S_reaction 33 = .ok (.getfield 78, 3) := by decide +kernel
theorem d_S_reaction_36 : decode c_S_reaction 36 = .ok (.iload 5, 2) := by decide +kernel
theorem d_S_reaction_38 : decode c_S_reaction 38 = .ok (.baload, 1) := by decide +kernel
theorem d_S_reaction_39 : decode c_S_reaction 39 = .ok (.ifCond .ne 7, 3) := by decide +kernel
theorem d_S_reaction_42 : decode c_S_reaction 42 = .ok (.ldc2_w 119, 3) := by decide +kernel
theorem d_S_reaction_45 : decode c_S_reaction 45 = .ok (.lreturn, 1) := by decide +kernel
theorem d_S_reaction_46 : decode c_S_reaction 46 = .ok (.aload_n 0, 1) := by decide +kernel
theorem d_S_reaction_47 : decode c_S_reaction 47 = .ok (.getfield 33, 3) := by decide +kernel
theorem d_S_reaction_50 : decode c_S_reaction 50 = .ok (.iload_n 1, 1) := by decide +kernel
theorem d_S_reaction_51 : decode c_S_reaction 51 = .ok (.invokevirtual 121, 3) := by decide +kernel
theorem d_S_reaction_54 : decode c_S_reaction 54 = .ok (.aload_n 0, 1) := by decide +kernel
theorem d_S_reaction_55 : decode c_S_reaction 55 = .ok (.getfield 33, 3) := by decide +kernel
theorem d_S_reaction_58 : decode c_S_reaction 58 = .ok (.aload_n 0, 1) := by decide +kernel
theorem d_S_reaction_59 : decode c_S_reaction 59 = .ok (.getfield 12, 3) := by decide +kernel
theorem d_S_reaction_62 : decode c_S_reaction 62 = .ok (.aload_n 0, 1) := by decide +kernel
theorem d_S_reaction_63 : decode c_S_reaction 63 = .ok (.getfield 19, 3) := by decide +kernel
theorem d_S_reaction_66 : decode c_S_reaction 66 = .ok (.aload_n 0, 1) := by decide +kernel
theorem d_S_reaction_67 : decode c_S_reaction 67 = .ok (.getfield 26, 3) := by decide +kernel
theorem d_S_reaction_70 : decode c_S_reaction 70 = .ok (.invokevirtual 124, 3) := by decide +kernel
theorem d_S_reaction_73 : decode c_S_reaction 73 = .ok (.aload_n 0, 1) := by decide +kernel
theorem d_S_reaction_74 : decode c_S_reaction 74 = .ok (.aload_n 0, 1) := by decide +kernel
theorem d_S_reaction_75 : decode c_S_reaction 75 = .ok (.getfield 33, 3) := by decide +kernel
theorem d_S_reaction_78 : decode c_S_reaction 78 = .ok (.aload_n 0, 1) := by decide +kernel
theorem d_S_reaction_79 : decode c_S_reaction 79 = .ok (.getfield 26, 3) := by decide +kernel
theorem d_S_reaction_82 : decode c_S_reaction 82 = .ok (.iload 5, 2) := by decide +kernel
theorem d_S_reaction_84 : decode c_S_reaction 84 = .ok (.invokevirtual 143, 3) := by decide +kernel
theorem d_S_reaction_87 : decode c_S_reaction 87 = .ok (.iload 4, 2) := by decide +kernel
theorem d_S_reaction_89 : decode c_S_reaction 89 = .ok (.invokevirtual 132, 3) := by decide +kernel
theorem d_S_reaction_92 : decode c_S_reaction 92 = .ok (.lreturn, 1) := by decide +kernel
end
section
theorem d_R_reactionNumerator_0 : decode c_R_reactionNumerator 0 = .ok (.aload_n 0, 1) := by decide +kernel
theorem d_R_reactionNumerator_1 : decode c_R_reactionNumerator 1 = .ok (.getfield 15, 3) := by decide +kernel
theorem d_R_reactionNumerator_4 : decode c_R_reactionNumerator 4 = .ok (.iload_n 2, 1) := by decide +kernel
theorem d_R_reactionNumerator_5 : decode c_R_reactionNumerator 5 = .ok (.laload, 1) := by decide +kernel
theorem d_R_reactionNumerator_6 : decode c_R_reactionNumerator 6 = .ok (.lneg, 1) := by decide +kernel
theorem d_R_reactionNumerator_7 : decode c_R_reactionNumerator 7 = .ok (.aload_n 0, 1) := by decide +kernel
theorem d_R_reactionNumerator_8 : decode c_R_reactionNumerator 8 = .ok (.getfield 28, 3) := by decide +kernel
theorem d_R_reactionNumerator_11 : decode c_R_reactionNumerator 11 = .ok (.lmul, 1) := by decide +kernel
theorem d_R_reactionNumerator_12 : decode c_R_reactionNumerator 12 = .ok (.lstore_n 3, 1) := by decide +kernel
theorem d_R_reactionNumerator_13 : decode c_R_reactionNumerator 13 = .ok (.iconst 0, 1) := by decide +kernel
theorem d_R_reactionNumerator_14 : decode c_R_reactionNumerator 14 = .ok (.istore 5, 2) := by decide +kernel
theorem d_R_reactionNumerator_16 : decode c_R_reactionNumerator 16 = .ok (.iload 5, 2) := by decide +kernel
theorem d_R_reactionNumerator_18 : decode c_R_reactionNumerator 18 = .ok (.bipush 10, 2) := by decide +kernel
theorem d_R_reactionNumerator_20 : decode c_R_reactionNumerator 20 = .ok (.if_icmp .ge 29, 3) := by decide +kernel
theorem d_R_reactionNumerator_23 : decode c_R_reactionNumerator 23 = .ok (.lload_n 3, 1) := by decide +kernel
theorem d_R_reactionNumerator_24 : decode c_R_reactionNumerator 24 = .ok (.aload_n 1, 1) := by decide +kernel
theorem d_R_reactionNumerator_25 : decode c_R_reactionNumerator 25 = .ok (.getfield 78, 3) := by decide +kernel
theorem d_R_reactionNumerator_28 : decode c_R_reactionNumerator 28 = .ok (.iload_n 2, 1) := by decide +kernel
theorem d_R_reactionNumerator_29 : decode c_R_reactionNumerator 29 = .ok (.aaload, 1) := by decide +kernel
theorem d_R_reactionNumerator_30 : decode c_R_reactionNumerator 30 = .ok (.iload 5, 2) := by decide +kernel
theorem d_R_reactionNumerator_32 : decode c_R_reactionNumerator 32 = .ok (.laload, 1) := by decide +kernel
theorem d_R_reactionNumerator_33 : decode c_R_reactionNumerator 33 = .ok (.aload_n 0, 1) := by decide +kernel
theorem d_R_reactionNumerator_34 : decode c_R_reactionNumerator 34 = .ok (.getfield 19, 3) := by decide +kernel
theorem d_R_reactionNumerator_37 : decode c_R_reactionNumerator 37 = .ok (.iload 5, 2) := by decide +kernel
theorem d_R_reactionNumerator_39 : decode c_R_reactionNumerator 39 = .ok (.laload, 1) := by decide +kernel
theorem d_R_reactionNumerator_40 : decode c_R_reactionNumerator 40 = .ok (.lmul, 1) := by decide +kernel
theorem d_R_reactionNumerator_41 : decode c_R_reactionNumerator 41 = .ok (.ladd, 1) := by decide +kernel
theorem d_R_reactionNumerator_42 : decode c_R_reactionNumerator 42 = .ok (.lstore_n 3, 1) := by decide +kernel
theorem d_R_reactionNumerator_43 : decode c_R_reactionNumerator 43 = .ok (.iinc 5 1, 3) := by decide +kernel
theorem d_R_reactionNumerator_46 : decode c_R_reactionNumerator 46 = .ok (.goto (-30), 3) := by decide +kernel
theorem d_R_reactionNumerator_49 : decode c_R_reactionNumerator 49 = .ok (.lload_n 3, 1) := by decide +kernel
theorem d_R_reactionNumerator_50 : decode c_R_reactionNumerator 50 = .ok (.lreturn, 1) := by decide +kernel
theorem d_S_combined_0 : decode c_S_combined 0 = .ok (.aload_n 0, 1) := by decide +kernel
theorem d_S_combined_1 : decode c_S_combined 1 = .ok (.iload_n 2, 1) := by decide +kernel
theorem d_S_combined_2 : decode c_S_combined 2 = .ok (.iload_n 3, 1) := by decide +kernel
theorem d_S_combined_3 : decode c_S_combined 3 = .ok (.iload 4, 2) := by decide +kernel
theorem d_S_combined_5 : decode c_S_combined 5 = .ok (.invokevirtual 116, 3) := by decide +kernel
theorem d_S_combined_8 : decode c_S_combined 8 = .ok (.ifCond .ne 7, 3) := by decide +kernel
theorem d_S_combined_11 : decode c_S_combined 11 = .ok (.ldc2_w 119, 3) := by decide +kernel
theorem d_S_combined_14 : decode c_S_combined 14 = .ok (.lreturn, 1) := by decide +kernel
theorem d_S_combined_15 : decode c_S_combined 15 = .ok (.aload_n 0, 1) := by decide +kernel
theorem d_S_combined_16 : decode c_S_combined 16 = .ok (.getfield 33, 3) := by decide +kernel
theorem d_S_combined_19 : decode c_S_combined 19 = .ok (.iload_n 1, 1) := by decide +kernel
theorem d_S_combined_20 : decode c_S_combined 20 = .ok (.invokevirtual 147, 3) := by decide +kernel
theorem d_S_combined_23 : decode c_S_combined 23 = .ok (.aload_n 0, 1) := by decide +kernel
theorem d_S_combined_24 : decode c_S_combined 24 = .ok (.getfield 33, 3) := by decide +kernel
theorem d_S_combined_27 : decode c_S_combined 27 = .ok (.aload_n 0, 1) := by decide +kernel
theorem d_S_combined_28 : decode c_S_combined 28 = .ok (.getfield 12, 3) := by decide +kernel
theorem d_S_combined_31 : decode c_S_combined 31 = .ok (.aload_n 0, 1) := by decide +kernel
theorem d_S_combined_32 : decode c_S_combined 32 = .ok (.getfield 19, 3) := by decide +kernel
theorem d_S_combined_35 : decode c_S_combined 35 = .ok (.aload_n 0, 1) := by decide +kernel
theorem d_S_combined_36 : decode c_S_combined 36 = .ok (.getfield 26, 3) := by decide +kernel
theorem d_S_combined_39 : decode c_S_combined 39 = .ok (.invokevirtual 124, 3) := by decide +kernel
theorem d_S_combined_42 : decode c_S_combined 42 = .ok (.aload_n 0, 1) := by decide +kernel
theorem d_S_combined_43 : decode c_S_combined 43 = .ok (.aload_n 0, 1) := by decide +kernel
theorem d_S_combined_44 : decode c_S_combined 44 = .ok (.getfield 33, 3) := by decide +kernel
theorem d_S_combined_47 : decode c_S_combined 47 = .ok (.getfield 128, 3) := by decide +kernel
theorem d_S_combined_50 : decode c_S_combined 50 = .ok (.iload_n 2, 1) := by decide +kernel
theorem d_S_combined_51 : decode c_S_combined 51 = .ok (.iload_n 3, 1) := by decide +kernel
theorem d_S_combined_52 : decode c_S_combined 52 = .ok (.invokestatic 74, 3) := by decide +kernel
theorem d_S_combined_55 : decode c_S_combined 55 = .ok (.laload, 1) := by decide +kernel
theorem d_S_combined_56 : decode c_S_combined 56 = .ok (.iload 4, 2) := by decide +kernel
theorem d_S_combined_58 : decode c_S_combined 58 = .ok (.invokevirtual 132, 3) := by decide +kernel
theorem d_S_combined_61 : decode c_S_combined 61 = .ok (.lreturn, 1) := by decide +kernel
theorem d_R_chooseFactors_0 : decode c_R_chooseFactors 0 = .ok (.iconst 0, 1) := by decide +kernel
theorem d_R_chooseFactors_1 : decode c_R_chooseFactors 1 = .ok (.istore_n 2, 1) := by decide +kernel
theorem d_R_chooseFactors_2 : decode c_R_chooseFactors 2 = .ok (.iload_n 2, 1) := by decide +kernel
theorem d_R_chooseFactors_3 : decode c_R_chooseFactors 3 = .ok (.iconst 4, 1) := by decide +kernel
theorem d_R_chooseFactors_4 : decode c_R_chooseFactors 4 = .ok (.if_icmp .ge 22, 3) := by decide +kernel
theorem d_R_chooseFactors_7 : decode c_R_chooseFactors 7 = .ok (.aload_n 0, 1) := by decide +kernel
theorem d_R_chooseFactors_8 : decode c_R_chooseFactors 8 = .ok (.getfield 9, 3) := by decide +kernel
theorem d_R_chooseFactors_11 : decode c_R_chooseFactors 11 = .ok (.iload_n 2, 1) := by decide +kernel
theorem d_R_chooseFactors_12 : decode c_R_chooseFactors 12 = .ok (.iload_n 1, 1) := by decide +kernel
theorem d_R_chooseFactors_13 : decode c_R_chooseFactors 13 = .ok (.bipush 8, 2) := by decide +kernel
theorem d_R_chooseFactors_15 : decode c_R_chooseFactors 15 = .ok (.iload_n 2, 1) := by decide +kernel
theorem d_R_chooseFactors_16 : decode c_R_chooseFactors 16 = .ok (.imul, 1) := by decide +kernel
theorem d_R_chooseFactors_17 : decode c_R_chooseFactors 17 = .ok (.ishr, 1) := by decide +kernel
theorem d_R_chooseFactors_18 : decode c_R_chooseFactors 18 = .ok (.i2b, 1) := by decide +kernel
theorem d_R_chooseFactors_19 : decode c_R_chooseFactors 19 = .ok (.iastore, 1) := by decide +kernel
theorem d_R_chooseFactors_20 : decode c_R_chooseFactors 20 = .ok (.iinc 2 1, 3) := by decide +kernel
theorem d_R_chooseFactors_23 : decode c_R_chooseFactors 23 = .ok (.goto (-21), 3) := by decide +kernel
theorem d_R_chooseFactors_26 : decode c_R_chooseFactors 26 = .ok (.return_, 1) := by decide +kernel
theorem d_S_determinant_0 : decode c_S_determinant 0 = .ok (.aload_n 0, 1) := by decide +kernel
theorem d_S_determinant_1 : decode c_S_determinant 1 = .ok (.getfield 37, 3) := by decide +kernel
theorem d_S_determinant_4 : decode c_S_determinant 4 = .ok (.ifCond .eq 13, 3) := by decide +kernel
theorem d_S_determinant_7 : decode c_S_determinant 7 = .ok (.aload_n 0, 1) := by decide +kernel
theorem d_S_determinant_8 : decode c_S_determinant 8 = .ok (.getfield 26, 3) := by decide +kernel
theorem d_S_determinant_11 : decode c_S_determinant 11 = .ok (.invokevirtual 150, 3) := by decide +kernel
theorem d_S_determinant_14 : decode c_S_determinant 14 = .ok (.goto 6, 3) := by decide +kernel
theorem d_S_determinant_17 : decode c_S_determinant 17 = .ok (.ldc2_w 119, 3) := by decide +kernel
theorem d_S_determinant_20 : decode c_S_determinant 20 = .ok (.lreturn, 1) := by decide +kernel
theorem d_S_order_0 : decode c_S_order 0 = .ok (.aload_n 0, 1) := by decide +kernel
theorem d_S_order_1 : decode c_S_order 1 = .ok (.getfield 37, 3) := by decide +kernel
theorem d_S_order_4 : decode c_S_order 4 = .ok (.ifCond .eq 18, 3) := by decide +kernel
theorem d_S_order_7 : decode c_S_order 7 = .ok (.iload_n 1, 1) := by decide +kernel
theorem d_S_order_8 : decode c_S_order 8 = .ok (.ifCond .lt 14, 3) := by decide +kernel
theorem d_S_order_11 : decode c_S_order 11 = .ok (.iload_n 1, 1) := by decide +kernel
theorem d_S_order_12 : decode c_S_order 12 = .ok (.aload_n 0, 1) := by decide +kernel
theorem d_S_order_13 : decode c_S_order 13 = .ok (.getfield 19, 3) := by decide +kernel
theorem d_S_order_16 : decode c_S_order 16 = .ok (.getfield 154, 3) := by decide +kernel
theorem d_S_order_19 : decode c_S_order 19 = .ok (.if_icmp .lt 5, 3) := by decide +kernel
theorem d_S_order_22 : decode c_S_order 22 = .ok (.iconst (-1), 1) := by decide +kernel
theorem d_S_order_23 : decode c_S_order 23 = .ok (.ireturn, 1) := by decide +kernel
theorem d_S_order_24 : decode c_S_order 24 = .ok (.aload_n 0, 1) := by decide +kernel
theorem d_S_order_25 : decode c_S_order 25 = .ok (.getfield 19, 3) := by decide +kernel
theorem d_S_order_28 : decode c_S_order 28 = .ok (.getfield 157, 3) := by decide +kernel
theorem d_S_order_31 : decode c_S_order 31 = .ok (.iload_n 1, 1) := by decide +kernel
theorem d_S_order_32 : decode c_S_order 32 = .ok (.iaload, 1) := by decide +kernel
theorem d_S_order_33 : decode c_S_order 33 = .ok (.ireturn, 1) := by decide +kernel
theorem d_S_unknown_0 : decode c_S_unknown 0 = .ok (.aload_n 0, 1) := by decide +kernel
theorem d_S_unknown_1 : decode c_S_unknown 1 = .ok (.getfield 37, 3) := by decide +kernel
theorem d_S_unknown_4 : decode c_S_unknown 4 = .ok (.ifCond .eq 18, 3) := by decide +kernel
theorem d_S_unknown_7 : decode c_S_unknown 7 = .ok (.aload_n 0, 1) := by decide +kernel
theorem d_S_unknown_8 : decode c_S_unknown 8 = .ok (.iload_n 1, 1) := by decide +kernel
theorem d_S_unknown_9 : decode c_S_unknown 9 = .ok (.invokevirtual 160, 3) := by decide +kernel
theorem d_S_unknown_12 : decode c_S_unknown 12 = .ok (.ifCond .eq 10, 3) := by decide +kernel
theorem d_S_unknown_15 : decode c_S_unknown 15 = .ok (.iload_n 2, 1) := by decide +kernel
theorem d_S_unknown_16 : decode c_S_unknown 16 = .ok (.invokestatic 71, 3) := by decide +kernel
theorem d_S_unknown_19 : decode c_S_unknown 19 = .ok (.ifCond .ne 5, 3) := by decide +kernel
theorem d_S_unknown_22 : decode c_S_unknown 22 = .ok (.iconst (-1), 1) := by decide +kernel
theorem d_S_unknown_23 : decode c_S_unknown 23 = .ok (.ireturn, 1) := by decide +kernel
theorem d_S_unknown_24 : decode c_S_unknown 24 = .ok (.aload_n 0, 1) := by decide +kernel
theorem d_S_unknown_25 : decode c_S_unknown 25 = .ok (.getfield 19, 3) := by decide +kernel
theorem d_S_unknown_28 : decode c_S_unknown 28 = .ok (.getfield 163, 3) := by decide +kernel
theorem d_S_unknown_31 : decode c_S_unknown 31 = .ok (.iload_n 1, 1) := by decide +kernel
theorem d_S_unknown_32 : decode c_S_unknown 32 = .ok (.iload_n 2, 1) := by decide +kernel
theorem d_S_unknown_33 : decode c_S_unknown 33 = .ok (.invokestatic 74, 3) := by decide +kernel
theorem d_S_unknown_36 : decode c_S_unknown 36 = .ok (.iaload, 1) := by decide +kernel
theorem d_S_unknown_37 : decode c_S_unknown 37 = .ok (.ireturn, 1) := by decide +kernel
theorem d_S_count_0 : decode c_S_count 0 = .ok (.iload_n 1, 1) := by decide +kernel
theorem d_S_count_1 : decode c_S_count 1 = .ok (.tableswitch 102 0 4 #[35, 43, 51, 64, 83], 35) := by decide +kernel
theorem d_S_count_36 : decode c_S_count 36 = .ok (.aload_n 0, 1) := by decide +kernel
theorem d_S_count_37 : decode c_S_count 37 = .ok (.getfield 12, 3) := by decide +kernel
theorem d_S_count_40 : decode c_S_count 40 = .ok (.invokevirtual 96, 3) := by decide +kernel
theorem d_S_count_43 : decode c_S_count 43 = .ok (.ireturn, 1) := by decide +kernel
theorem d_S_count_44 : decode c_S_count 44 = .ok (.aload_n 0, 1) := by decide +kernel
theorem d_S_count_45 : decode c_S_count 45 = .ok (.getfield 12, 3) := by decide +kernel
theorem d_S_count_48 : decode c_S_count 48 = .ok (.getfield 56, 3) := by decide +kernel
theorem d_S_count_51 : decode c_S_count 51 = .ok (.ireturn, 1) := by decide +kernel
theorem d_S_count_52 : decode c_S_count 52 = .ok (.aload_n 0, 1) := by decide +kernel
theorem d_S_count_53 : decode c_S_count 53 = .ok (.getfield 37, 3) := by decide +kernel
theorem d_S_count_56 : decode c_S_count 56 = .ok (.ifCond .eq 7, 3) := by decide +kernel
theorem d_S_count_59 : decode c_S_count 59 = .ok (.iconst 1, 1) := by decide +kernel
theorem d_S_count_60 : decode c_S_count 60 = .ok (.goto 4, 3) := by decide +kernel
theorem d_S_count_63 : decode c_S_count 63 = .ok (.iconst 0, 1) := by decide +kernel
theorem d_S_count_64 : decode c_S_count 64 = .ok (.ireturn, 1) := by decide +kernel
theorem d_S_count_65 : decode c_S_count 65 = .ok (.aload_n 0, 1) := by decide +kernel
theorem d_S_count_66 : decode c_S_count 66 = .ok (.getfield 37, 3) := by decide +kernel
theorem d_S_count_69 : decode c_S_count 69 = .ok (.ifCond .eq 13, 3) := by decide +kernel
theorem d_S_count_72 : decode c_S_count 72 = .ok (.aload_n 0, 1) := by decide +kernel
theorem d_S_count_73 : decode c_S_count 73 = .ok (.getfield 19, 3) := by decide +kernel
theorem d_S_count_76 : decode c_S_count 76 = .ok (.getfield 113, 3) := by decide +kernel
theorem d_S_count_79 : decode c_S_count 79 = .ok (.goto 4, 3) := by decide +kernel
theorem d_S_count_82 : decode c_S_count 82 = .ok (.iconst 0, 1) := by decide +kernel
theorem d_S_count_83 : decode c_S_count 83 = .ok (.ireturn, 1) := by decide +kernel
theorem d_S_count_84 : decode c_S_count 84 = .ok (.aload_n 0, 1) := by decide +kernel
theorem d_S_count_85 : decode c_S_count 85 = .ok (.getfield 37, 3) := by decide +kernel
theorem d_S_count_88 : decode c_S_count 88 = .ok (.ifCond .eq 13, 3) := by decide +kernel
theorem d_S_count_91 : decode c_S_count 91 = .ok (.aload_n 0, 1) := by decide +kernel
theorem d_S_count_92 : decode c_S_count 92 = .ok (.getfield 26, 3) := by decide +kernel
theorem d_S_count_95 : decode c_S_count 95 = .ok (.invokevirtual 166, 3) := by decide +kernel
theorem d_S_count_98 : decode c_S_count 98 = .ok (.goto 4, 3) := by decide +kernel
theorem d_S_count_101 : decode c_S_count 101 = .ok (.iconst 0, 1) := by decide +kernel
theorem d_S_count_102 : decode c_S_count 102 = .ok (.ireturn, 1) := by decide +kernel
theorem d_S_count_103 : decode c_S_count 103 = .ok (.iconst (-1), 1) := by decide +kernel
theorem d_S_count_104 : decode c_S_count 104 = .ok (.ireturn, 1) := by decide +kernel
theorem d_E_profile_0 : decode c_E_profile 0 = .ok (.iconst 0, 1) := by decide +kernel
theorem d_E_profile_1 : decode c_E_profile 1 = .ok (.istore_n 1, 1) := by decide +kernel
theorem d_E_profile_2 : decode c_E_profile 2 = .ok (.iconst 0, 1) := by decide +kernel
theorem d_E_profile_3 : decode c_E_profile 3 = .ok (.istore_n 2, 1) := by decide +kernel
theorem d_E_profile_4 : decode c_E_profile 4 = .ok (.iload_n 2, 1) := by decide +kernel
theorem d_E_profile_5 : decode c_E_profile 5 = .ok (.aload_n 0, 1) := by decide +kernel
theorem d_E_profile_6 : decode c_E_profile 6 = .ok (.getfield 19, 3) := by decide +kernel
theorem d_E_profile_9 : decode c_E_profile 9 = .ok (.if_icmp .ge 41, 3) := by decide +kernel
theorem d_E_profile_12 : decode c_E_profile 12 = .ok (.iconst 0, 1) := by decide +kernel
theorem d_E_profile_13 : decode c_E_profile 13 = .ok (.istore_n 3, 1) := by decide +kernel
theorem d_E_profile_14 : decode c_E_profile 14 = .ok (.iload_n 3, 1) := by decide +kernel
theorem d_E_profile_15 : decode c_E_profile 15 = .ok (.iload_n 2, 1) := by decide +kernel
theorem d_E_profile_16 : decode c_E_profile 16 = .ok (.if_icmp .ge 22, 3) := by decide +kernel
theorem d_E_profile_19 : decode c_E_profile 19 = .ok (.aload_n 0, 1) := by decide +kernel
theorem d_E_profile_20 : decode c_E_profile 20 = .ok (.getfield 16, 3) := by decide +kernel
theorem d_E_profile_23 : decode c_E_profile 23 = .ok (.iload_n 2, 1) := by decide +kernel
theorem d_E_profile_24 : decode c_E_profile 24 = .ok (.aaload, 1) := by decide +kernel
theorem d_E_profile_25 : decode c_E_profile 25 = .ok (.iload_n 3, 1) := by decide +kernel
theorem d_E_profile_26 : decode c_E_profile 26 = .ok (.laload, 1) := by decide +kernel
theorem d_E_profile_27 : decode c_E_profile 27 = .ok (.lconst 0, 1) := by decide +kernel
theorem d_E_profile_28 : decode c_E_profile 28 = .ok (.lcmp, 1) := by decide +kernel
theorem d_E_profile_29 : decode c_E_profile 29 = .ok (.ifCond .ne 9, 3) := by decide +kernel
theorem d_E_profile_32 : decode c_E_profile 32 = .ok (.iinc 3 1, 3) := by decide +kernel
theorem d_E_profile_35 : decode c_E_profile 35 = .ok (.goto (-21), 3) := by decide +kernel
theorem d_E_profile_38 : decode c_E_profile 38 = .ok (.iload_n 1, 1) := by decide +kernel
theorem d_E_profile_39 : decode c_E_profile 39 = .ok (.iload_n 2, 1) := by decide +kernel
theorem d_E_profile_40 : decode c_E_profile 40 = .ok (.iload_n 3, 1) := by decide +kernel
theorem d_E_profile_41 : decode c_E_profile 41 = .ok (.isub, 1) := by decide +kernel
theorem d_E_profile_42 : decode c_E_profile 42 = .ok (.iadd, 1) := by decide +kernel
theorem d_E_profile_43 : decode c_E_profile 43 = .ok (.istore_n 1, 1) := by decide +kernel
theorem d_E_profile_44 : decode c_E_profile 44 = .ok (.iinc 2 1, 3) := by decide +kernel
theorem d_E_profile_47 : decode c_E_profile 47 = .ok (.goto (-43), 3) := by decide +kernel
theorem d_E_profile_50 : decode c_E_profile 50 = .ok (.iload_n 1, 1) := by decide +kernel
theorem d_E_profile_51 : decode c_E_profile 51 = .ok (.ireturn, 1) := by decide +kernel
end
section
theorem d_M_init_0 : decode c_M_init 0 = .ok (.aload_n 0, 1) := by decide +kernel
theorem d_M_init_1 : decode c_M_init 1 = .ok (.invokespecial 1, 3) := by decide +kernel
theorem d_M_init_4 : decode c_M_init 4 = .ok (.aload_n 0, 1) := by decide +kernel
theorem d_M_init_5 : decode c_M_init 5 = .ok (.iconst 5, 1) := by decide +kernel
theorem d_M_init_6 : decode c_M_init 6 = .ok (.newarray .boolean, 2) := by decide +kernel
theorem d_M_init_8 : decode c_M_init 8 = .ok (.putfield 7, 3) := by decide +kernel
theorem d_M_init_11 : decode c_M_init 11 = .ok (.aload_n 0, 1) := by decide +kernel
theorem d_M_init_12 : decode c_M_init 12 = .ok (.iconst 5, 1) := by decide +kernel
theorem d_M_init_13 : decode c_M_init 13 = .ok (.newarray .int, 2) := by decide +kernel
theorem d_M_init_15 : decode c_M_init 15 = .ok (.putfield 13, 3) := by decide +kernel
theorem d_M_init_18 : decode c_M_init 18 = .ok (.aload_n 0, 1) := by decide +kernel
theorem d_M_init_19 : decode c_M_init 19 = .ok (.iconst 5, 1) := by decide +kernel
theorem d_M_init_20 : decode c_M_init 20 = .ok (.newarray .int, 2) := by decide +kernel
theorem d_M_init_22 : decode c_M_init 22 = .ok (.putfield 17, 3) := by decide +kernel
theorem d_M_init_25 : decode c_M_init 25 = .ok (.aload_n 0, 1) := by decide +kernel
theorem d_M_init_26 : decode c_M_init 26 = .ok (.bipush 10, 2) := by decide +kernel
theorem d_M_init_28 : decode c_M_init 28 = .ok (.newarray .int, 2) := by decide +kernel
theorem d_M_init_30 : decode c_M_init 30 = .ok (.putfield 20, 3) := by decide +kernel
theorem d_M_init_33 : decode c_M_init 33 = .ok (.aload_n 0, 1) := by decide +kernel
theorem d_M_init_34 : decode c_M_init 34 = .ok (.bipush 10, 2) := by decide +kernel
theorem d_M_init_36 : decode c_M_init 36 = .ok (.newarray .int, 2) := by decide +kernel
theorem d_M_init_38 : decode c_M_init 38 = .ok (.putfield 23, 3) := by decide +kernel
theorem d_M_init_41 : decode c_M_init 41 = .ok (.aload_n 0, 1) := by decide +kernel
theorem d_M_init_42 : decode c_M_init 42 = .ok (.bipush 10, 2) := by decide +kernel
theorem d_M_init_44 : decode c_M_init 44 = .ok (.newarray .int, 2) := by decide +kernel
theorem d_M_init_46 : decode c_M_init 46 = .ok (.putfield 26, 3) := by decide +kernel
theorem d_M_init_49 : decode c_M_init 49 = .ok (.aload_n 0, 1) := by decide +kernel
theorem d_M_init_50 : decode c_M_init 50 = .ok (.bipush 10, 2) := by decide +kernel
theorem d_M_init_52 : decode c_M_init 52 = .ok (.newarray .boolean, 2) := by decide +kernel
theorem d_M_init_54 : decode c_M_init 54 = .ok (.putfield 29, 3) := by decide +kernel
theorem d_M_init_57 : decode c_M_init 57 = .ok (.aload_n 0, 1) := by decide +kernel
theorem d_M_init_58 : decode c_M_init 58 = .ok (.bipush 10, 2) := by decide +kernel
theorem d_M_init_60 : decode c_M_init 60 = .ok (.newarray .int, 2) := by decide +kernel
theorem d_M_init_62 : decode c_M_init 62 = .ok (.putfield 32, 3) := by decide +kernel
theorem d_M_init_65 : decode c_M_init 65 = .ok (.aload_n 0, 1) := by decide +kernel
theorem d_M_init_66 : decode c_M_init 66 = .ok (.bipush 10, 2) := by decide +kernel
theorem d_M_init_68 : decode c_M_init 68 = .ok (.newarray .int, 2) := by decide +kernel
theorem d_M_init_70 : decode c_M_init 70 = .ok (.putfield 35, 3) := by decide +kernel
theorem d_M_init_73 : decode c_M_init 73 = .ok (.aload_n 0, 1) := by decide +kernel
theorem d_M_init_74 : decode c_M_init 74 = .ok (.bipush 40, 2) := by decide +kernel
theorem d_M_init_76 : decode c_M_init 76 = .ok (.newarray .int, 2) := by decide +kernel
theorem d_M_init_78 : decode c_M_init 78 = .ok (.putfield 38, 3) := by decide +kernel
theorem d_M_init_81 : decode c_M_init 81 = .ok (.aload_n 0, 1) := by decide +kernel
theorem d_M_init_82 : decode c_M_init 82 = .ok (.iconst 5, 1) := by decide +kernel
theorem d_M_init_83 : decode c_M_init 83 = .ok (.newarray .int, 2) := by decide +kernel
theorem d_M_init_85 : decode c_M_init 85 = .ok (.putfield 41, 3) := by decide +kernel
theorem d_M_init_88 : decode c_M_init 88 = .ok (.aload_n 0, 1) := by decide +kernel
theorem d_M_init_89 : decode c_M_init 89 = .ok (.bipush 10, 2) := by decide +kernel
theorem d_M_init_91 : decode c_M_init 91 = .ok (.newarray .int, 2) := by decide +kernel
theorem d_M_init_93 : decode c_M_init 93 = .ok (.putfield 44, 3) := by decide +kernel
theorem d_M_init_96 : decode c_M_init 96 = .ok (.aload_n 0, 1) := by decide +kernel
theorem d_M_init_97 : decode c_M_init 97 = .ok (.bipush 100, 2) := by decide +kernel
theorem d_M_init_99 : decode c_M_init 99 = .ok (.newarray .int, 2) := by decide +kernel
theorem d_M_init_101 : decode c_M_init 101 = .ok (.putfield 47, 3) := by decide +kernel
theorem d_M_init_104 : decode c_M_init 104 = .ok (.aload_n 0, 1) := by decide +kernel
theorem d_M_init_105 : decode c_M_init 105 = .ok (.bipush 10, 2) := by decide +kernel
theorem d_M_init_107 : decode c_M_init 107 = .ok (.newarray .long, 2) := by decide +kernel
theorem d_M_init_109 : decode c_M_init 109 = .ok (.putfield 50, 3) := by decide +kernel
theorem d_M_init_112 : decode c_M_init 112 = .ok (.aload_n 0, 1) := by decide +kernel
theorem d_M_init_113 : decode c_M_init 113 = .ok (.bipush 100, 2) := by decide +kernel
theorem d_M_init_115 : decode c_M_init 115 = .ok (.newarray .long, 2) := by decide +kernel
theorem d_M_init_117 : decode c_M_init 117 = .ok (.putfield 54, 3) := by decide +kernel
theorem d_M_init_120 : decode c_M_init 120 = .ok (.return_, 1) := by decide +kernel
theorem d_M_node_0 : decode c_M_node 0 = .ok (.aload_n 0, 1) := by decide +kernel
theorem d_M_node_1 : decode c_M_node 1 = .ok (.iload_n 1, 1) := by decide +kernel
theorem d_M_node_2 : decode c_M_node 2 = .ok (.iconst 4, 1) := by decide +kernel
theorem d_M_node_3 : decode c_M_node 3 = .ok (.invokevirtual 57, 3) := by decide +kernel
theorem d_M_node_6 : decode c_M_node 6 = .ok (.ifCond .ne 21, 3) := by decide +kernel
theorem d_M_node_9 : decode c_M_node 9 = .ok (.aload_n 0, 1) := by decide +kernel
theorem d_M_node_10 : decode c_M_node 10 = .ok (.iload_n 2, 1) := by decide +kernel
theorem d_M_node_11 : decode c_M_node 11 = .ok (.iconst 4, 1) := by decide +kernel
theorem d_M_node_12 : decode c_M_node 12 = .ok (.invokevirtual 57, 3) := by decide +kernel
theorem d_M_node_15 : decode c_M_node 15 = .ok (.ifCond .ne 12, 3) := by decide +kernel
theorem d_M_node_18 : decode c_M_node 18 = .ok (.aload_n 0, 1) := by decide +kernel
theorem d_M_node_19 : decode c_M_node 19 = .ok (.iload_n 3, 1) := by decide +kernel
theorem d_M_node_20 : decode c_M_node 20 = .ok (.iconst 4, 1) := by decide +kernel
theorem d_M_node_21 : decode c_M_node 21 = .ok (.invokevirtual 57, 3) := by decide +kernel
theorem d_M_node_24 : decode c_M_node 24 = .ok (.ifCond .eq 5, 3) := by decide +kernel
theorem d_M_node_27 : decode c_M_node 27 = .ok (.iconst (-1), 1) := by decide +kernel
theorem d_M_node_28 : decode c_M_node 28 = .ok (.ireturn, 1) := by decide +kernel
theorem d_M_node_29 : decode c_M_node 29 = .ok (.aload_n 0, 1) := by decide +kernel
theorem d_M_node_30 : decode c_M_node 30 = .ok (.getfield 61, 3) := by decide +kernel
theorem d_M_node_33 : decode c_M_node 33 = .ok (.ifCond .eq 6, 3) := by decide +kernel
theorem d_M_node_36 : decode c_M_node 36 = .ok (.bipush (-4), 2) := by decide +kernel
theorem d_M_node_38 : decode c_M_node 38 = .ok (.ireturn, 1) := by decide +kernel
theorem d_M_node_39 : decode c_M_node 39 = .ok (.iconst 0, 1) := by decide +kernel
theorem d_M_node_40 : decode c_M_node 40 = .ok (.istore 4, 2) := by decide +kernel
theorem d_M_node_42 : decode c_M_node 42 = .ok (.iload 4, 2) := by decide +kernel
theorem d_M_node_44 : decode c_M_node 44 = .ok (.iconst 5, 1) := by decide +kernel
theorem d_M_node_45 : decode c_M_node 45 = .ok (.if_icmp .ge 50, 3) := by decide +kernel
theorem d_M_node_48 : decode c_M_node 48 = .ok (.iload 4, 2) := by decide +kernel
theorem d_M_node_50 : decode c_M_node 50 = .ok (.iload_n 1, 1) := by decide +kernel
theorem d_M_node_51 : decode c_M_node 51 = .ok (.if_icmp .eq 38, 3) := by decide +kernel
theorem d_M_node_54 : decode c_M_node 54 = .ok (.aload_n 0, 1) := by decide +kernel
theorem d_M_node_55 : decode c_M_node 55 = .ok (.getfield 7, 3) := by decide +kernel
theorem d_M_node_58 : decode c_M_node 58 = .ok (.iload 4, 2) := by decide +kernel
theorem d_M_node_60 : decode c_M_node 60 = .ok (.baload, 1) := by decide +kernel
theorem d_M_node_61 : decode c_M_node 61 = .ok (.ifCond .eq 28, 3) := by decide +kernel
theorem d_M_node_64 : decode c_M_node 64 = .ok (.aload_n 0, 1) := by decide +kernel
theorem d_M_node_65 : decode c_M_node 65 = .ok (.getfield 13, 3) := by decide +kernel
theorem d_M_node_68 : decode c_M_node 68 = .ok (.iload 4, 2) := by decide +kernel
theorem d_M_node_70 : decode c_M_node 70 = .ok (.iaload, 1) := by decide +kernel
theorem d_M_node_71 : decode c_M_node 71 = .ok (.iload_n 2, 1) := by decide +kernel
theorem d_M_node_72 : decode c_M_node 72 = .ok (.if_icmp .ne 17, 3) := by decide +kernel
theorem d_M_node_75 : decode c_M_node 75 = .ok (.aload_n 0, 1) := by decide +kernel
theorem d_M_node_76 : decode c_M_node 76 = .ok (.getfield 17, 3) := by decide +kernel
theorem d_M_node_79 : decode c_M_node 79 = .ok (.iload 4, 2) := by decide +kernel
theorem d_M_node_81 : decode c_M_node 81 = .ok (.iaload, 1) := by decide +kernel
theorem d_M_node_82 : decode c_M_node 82 = .ok (.iload_n 3, 1) := by decide +kernel
theorem d_M_node_83 : decode c_M_node 83 = .ok (.if_icmp .ne 6, 3) := by decide +kernel
theorem d_M_node_86 : decode c_M_node 86 = .ok (.bipush (-2), 2) := by decide +kernel
theorem d_M_node_88 : decode c_M_node 88 = .ok (.ireturn, 1) := by decide +kernel
theorem d_M_node_89 : decode c_M_node 89 = .ok (.iinc 4 1, 3) := by decide +kernel
theorem d_M_node_92 : decode c_M_node 92 = .ok (.goto (-50), 3) := by decide +kernel
theorem d_M_node_95 : decode c_M_node 95 = .ok (.aload_n 0, 1) := by decide +kernel
theorem d_M_node_96 : decode c_M_node 96 = .ok (.getfield 7, 3) := by decide +kernel
theorem d_M_node_99 : decode c_M_node 99 = .ok (.iload_n 1, 1) := by decide +kernel
theorem d_M_node_100 : decode c_M_node 100 = .ok (.iconst 1, 1) := by decide +kernel
theorem d_M_node_101 : decode c_M_node 101 = .ok (.bastore, 1) := by decide +kernel
theorem d_M_node_102 : decode c_M_node 102 = .ok (.aload_n 0, 1) := by decide +kernel
theorem d_M_node_103 : decode c_M_node 103 = .ok (.getfield 13, 3) := by decide +kernel
theorem d_M_node_106 : decode c_M_node 106 = .ok (.iload_n 1, 1) := by decide +kernel
theorem d_M_node_107 : decode c_M_node 107 = .ok (.iload_n 2, 1) := by decide +kernel
theorem d_M_node_108 : decode c_M_node 108 = .ok (.iastore, 1) := by decide +kernel
theorem d_M_node_109 : decode c_M_node 109 = .ok (.aload_n 0, 1) := by decide +kernel
theorem d_M_node_110 : decode c_M_node 110 = .ok (.getfield 17, 3) := by decide +kernel
theorem d_M_node_113 : decode c_M_node 113 = .ok (.iload_n 1, 1) := by decide +kernel
theorem d_M_node_114 : decode c_M_node 114 = .ok (.iload_n 3, 1) := by decide +kernel
theorem d_M_node_115 : decode c_M_node 115 = .ok (.iastore, 1) := by decide +kernel
theorem d_M_node_116 : decode c_M_node 116 = .ok (.iconst 0, 1) := by decide +kernel
theorem d_M_node_117 : decode c_M_node 117 = .ok (.ireturn, 1) := by decide +kernel
theorem d_M_off_0 : decode c_M_off 0 = .ok (.iload_n 1, 1) := by decide +kernel
theorem d_M_off_1 : decode c_M_off 1 = .ok (.ifCond .lt 8, 3) := by decide +kernel
theorem d_M_off_4 : decode c_M_off 4 = .ok (.iload_n 1, 1) := by decide +kernel
theorem d_M_off_5 : decode c_M_off 5 = .ok (.iload_n 2, 1) := by decide +kernel
theorem d_M_off_6 : decode c_M_off 6 = .ok (.if_icmp .le 7, 3) := by decide +kernel
theorem d_M_off_9 : decode c_M_off 9 = .ok (.iconst 1, 1) := by decide +kernel
theorem d_M_off_10 : decode c_M_off 10 = .ok (.goto 4, 3) := by decide +kernel
theorem d_M_off_13 : decode c_M_off 13 = .ok (.iconst 0, 1) := by decide +kernel
theorem d_M_off_14 : decode c_M_off 14 = .ok (.ireturn, 1) := by decide +kernel
theorem d_M_bar_0 : decode c_M_bar 0 = .ok (.aload_n 0, 1) := by decide +kernel
theorem d_M_bar_1 : decode c_M_bar 1 = .ok (.iload_n 1, 1) := by decide +kernel
theorem d_M_bar_2 : decode c_M_bar 2 = .ok (.iconst 4, 1) := by decide +kernel
theorem d_M_bar_3 : decode c_M_bar 3 = .ok (.invokevirtual 57, 3) := by decide +kernel
theorem d_M_bar_6 : decode c_M_bar 6 = .ok (.ifCond .ne 27, 3) := by decide +kernel
theorem d_M_bar_9 : decode c_M_bar 9 = .ok (.aload_n 0, 1) := by decide +kernel
theorem d_M_bar_10 : decode c_M_bar 10 = .ok (.iload_n 2, 1) := by decide +kernel
theorem d_M_bar_11 : decode c_M_bar 11 = .ok (.iconst 4, 1) := by decide +kernel
theorem d_M_bar_12 : decode c_M_bar 12 = .ok (.invokevirtual 57, 3) := by decide +kernel
theorem d_M_bar_15 : decode c_M_bar 15 = .ok (.ifCond .ne 18, 3) := by decide +kernel
theorem d_M_bar_18 : decode c_M_bar 18 = .ok (.iload_n 3, 1) := by decide +kernel
theorem d_M_bar_19 : decode c_M_bar 19 = .ok (.iconst 1, 1) := by decide +kernel
theorem d_M_bar_20 : decode c_M_bar 20 = .ok (.if_icmp .lt 13, 3) := by decide +kernel
theorem d_M_bar_23 : decode c_M_bar 23 = .ok (.iload_n 3, 1) := by decide +kernel
theorem d_M_bar_24 : decode c_M_bar 24 = .ok (.iconst 3, 1) := by decide +kernel
theorem d_M_bar_25 : decode c_M_bar 25 = .ok (.if_icmp .gt 8, 3) := by decide +kernel
theorem d_M_bar_28 : decode c_M_bar 28 = .ok (.iload_n 1, 1) := by decide +kernel
theorem d_M_bar_29 : decode c_M_bar 29 = .ok (.iload_n 2, 1) := by decide +kernel
theorem d_M_bar_30 : decode c_M_bar 30 = .ok (.if_icmp .ne 5, 3) := by decide +kernel
theorem d_M_bar_33 : decode c_M_bar 33 = .ok (.iconst (-1), 1) := by decide +kernel
theorem d_M_bar_34 : decode c_M_bar 34 = .ok (.ireturn, 1) := by decide +kernel
theorem d_M_bar_35 : decode c_M_bar 35 = .ok (.aload_n 0, 1) := by decide +kernel
theorem d_M_bar_36 : decode c_M_bar 36 = .ok (.getfield 61, 3) := by decide +kernel
theorem d_M_bar_39 : decode c_M_bar 39 = .ok (.ifCond .eq 6, 3) := by decide +kernel
theorem d_M_bar_42 : decode c_M_bar 42 = .ok (.bipush (-4), 2) := by decide +kernel
theorem d_M_bar_44 : decode c_M_bar 44 = .ok (.ireturn, 1) := by decide +kernel
theorem d_M_bar_45 : decode c_M_bar 45 = .ok (.aload_n 0, 1) := by decide +kernel
theorem d_M_bar_46 : decode c_M_bar 46 = .ok (.getfield 65, 3) := by decide +kernel
theorem d_M_bar_49 : decode c_M_bar 49 = .ok (.bipush 10, 2) := by decide +kernel
theorem d_M_bar_51 : decode c_M_bar 51 = .ok (.if_icmp .ne 6, 3) := by decide +kernel
theorem d_M_bar_54 : decode c_M_bar 54 = .ok (.bipush (-3), 2) := by decide +kernel
theorem d_M_bar_56 : decode c_M_bar 56 = .ok (.ireturn, 1) := by decide +kernel
theorem d_M_bar_57 : decode c_M_bar 57 = .ok (.aload_n 0, 1) := by decide +kernel
theorem d_M_bar_58 : decode c_M_bar 58 = .ok (.getfield 20, 3) := by decide +kernel
theorem d_M_bar_61 : decode c_M_bar 61 = .ok (.aload_n 0, 1) := by decide +kernel
theorem d_M_bar_62 : decode c_M_bar 62 = .ok (.getfield 65, 3) := by decide +kernel
theorem d_M_bar_65 : decode c_M_bar 65 = .ok (.iload_n 1, 1) := by decide +kernel
theorem d_M_bar_66 : decode c_M_bar 66 = .ok (.iastore, 1) := by decide +kernel
theorem d_M_bar_67 : decode c_M_bar 67 = .ok (.aload_n 0, 1) := by decide +kernel
theorem d_M_bar_68 : decode c_M_bar 68 = .ok (.getfield 23, 3) := by decide +kernel
theorem d_M_bar_71 : decode c_M_bar 71 = .ok (.aload_n 0, 1) := by decide +kernel
theorem d_M_bar_72 : decode c_M_bar 72 = .ok (.getfield 65, 3) := by decide +kernel
theorem d_M_bar_75 : decode c_M_bar 75 = .ok (.iload_n 2, 1) := by decide +kernel
theorem d_M_bar_76 : decode c_M_bar 76 = .ok (.iastore, 1) := by decide +kernel
theorem d_M_bar_77 : decode c_M_bar 77 = .ok (.aload_n 0, 1) := by decide +kernel
theorem d_M_bar_78 : decode c_M_bar 78 = .ok (.getfield 26, 3) := by decide +kernel
theorem d_M_bar_81 : decode c_M_bar 81 = .ok (.aload_n 0, 1) := by decide +kernel
theorem d_M_bar_82 : decode c_M_bar 82 = .ok (.getfield 65, 3) := by decide +kernel
theorem d_M_bar_85 : decode c_M_bar 85 = .ok (.iload_n 3, 1) := by decide +kernel
theorem d_M_bar_86 : decode c_M_bar 86 = .ok (.iastore, 1) := by decide +kernel
theorem d_M_bar_87 : decode c_M_bar 87 = .ok (.aload_n 0, 1) := by decide +kernel
theorem d_M_bar_88 : decode c_M_bar 88 = .ok (.dup, 1) := by decide +kernel
theorem d_M_bar_89 : decode c_M_bar 89 = .ok (.getfield 65, 3) := by decide +kernel
theorem d_M_bar_92 : decode c_M_bar 92 = .ok (.iconst 1, 1) := by decide +kernel
theorem d_M_bar_93 : decode c_M_bar 93 = .ok (.iadd, 1) := by decide +kernel
theorem d_M_bar_94 : decode c_M_bar 94 = .ok (.putfield 65, 3) := by decide +kernel
theorem d_M_bar_97 : decode c_M_bar 97 = .ok (.aload_n 0, 1) := by decide +kernel
theorem d_M_bar_98 : decode c_M_bar 98 = .ok (.getfield 65, 3) := by decide +kernel
theorem d_M_bar_101 : decode c_M_bar 101 = .ok (.iconst 1, 1) := by decide +kernel
theorem d_M_bar_102 : decode c_M_bar 102 = .ok (.isub, 1) := by decide +kernel
theorem d_M_bar_103 : decode c_M_bar 103 = .ok (.ireturn, 1) := by decide +kernel
theorem d_M_unbar_0 : decode c_M_unbar 0 = .ok (.iload_n 1, 1) := by decide +kernel
theorem d_M_unbar_1 : decode c_M_unbar 1 = .ok (.ifCond .lt 11, 3) := by decide +kernel
theorem d_M_unbar_4 : decode c_M_unbar 4 = .ok (.iload_n 1, 1) := by decide +kernel
theorem d_M_unbar_5 : decode c_M_unbar 5 = .ok (.aload_n 0, 1) := by decide +kernel
theorem d_M_unbar_6 : decode c_M_unbar 6 = .ok (.getfield 65, 3) := by decide +kernel
theorem d_M_unbar_9 : decode c_M_unbar 9 = .ok (.if_icmp .lt 5, 3) := by decide +kernel
theorem d_M_unbar_12 : decode c_M_unbar 12 = .ok (.iconst (-1), 1) := by decide +kernel
theorem d_M_unbar_13 : decode c_M_unbar 13 = .ok (.ireturn, 1) := by decide +kernel
theorem d_M_unbar_14 : decode c_M_unbar 14 = .ok (.aload_n 0, 1) := by decide +kernel
theorem d_M_unbar_15 : decode c_M_unbar 15 = .ok (.getfield 61, 3) := by decide +kernel
theorem d_M_unbar_18 : decode c_M_unbar 18 = .ok (.ifCond .eq 6, 3) := by decide +kernel
theorem d_M_unbar_21 : decode c_M_unbar 21 = .ok (.bipush (-4), 2) := by decide +kernel
theorem d_M_unbar_23 : decode c_M_unbar 23 = .ok (.ireturn, 1) := by decide +kernel
theorem d_M_unbar_24 : decode c_M_unbar 24 = .ok (.aload_n 0, 1) := by decide +kernel
theorem d_M_unbar_25 : decode c_M_unbar 25 = .ok (.dup, 1) := by decide +kernel
theorem d_M_unbar_26 : decode c_M_unbar 26 = .ok (.getfield 65, 3) := by decide +kernel
theorem d_M_unbar_29 : decode c_M_unbar 29 = .ok (.iconst 1, 1) := by decide +kernel
theorem d_M_unbar_30 : decode c_M_unbar 30 = .ok (.isub, 1) := by decide +kernel
theorem d_M_unbar_31 : decode c_M_unbar 31 = .ok (.putfield 65, 3) := by decide +kernel
theorem d_M_unbar_34 : decode c_M_unbar 34 = .ok (.iload_n 1, 1) := by decide +kernel
theorem d_M_unbar_35 : decode c_M_unbar 35 = .ok (.istore_n 2, 1) := by decide +kernel
theorem d_M_unbar_36 : decode c_M_unbar 36 = .ok (.iload_n 2, 1) := by decide +kernel
theorem d_M_unbar_37 : decode c_M_unbar 37 = .ok (.aload_n 0, 1) := by decide +kernel
theorem d_M_unbar_38 : decode c_M_unbar 38 = .ok (.getfield 65, 3) := by decide +kernel
theorem d_M_unbar_41 : decode c_M_unbar 41 = .ok (.if_icmp .ge 51, 3) := by decide +kernel
theorem d_M_unbar_44 : decode c_M_unbar 44 = .ok (.aload_n 0, 1) := by decide +kernel
theorem d_M_unbar_45 : decode c_M_unbar 45 = .ok (.getfield 20, 3) := by decide +kernel
theorem d_M_unbar_48 : decode c_M_unbar 48 = .ok (.iload_n 2, 1) := by decide +kernel
theorem d_M_unbar_49 : decode c_M_unbar 49 = .ok (.aload_n 0, 1) := by decide +kernel
theorem d_M_unbar_50 : decode c_M_unbar 50 = .ok (.getfield 20, 3) := by decide +kernel
theorem d_M_unbar_53 : decode c_M_unbar 53 = .ok (.iload_n 2, 1) := by decide +kernel
theorem d_M_unbar_54 : decode c_M_unbar 54 = .ok (.iconst 1, 1) := by decide +kernel
theorem d_M_unbar_55 : decode c_M_unbar 55 = .ok (.iadd, 1) := by decide +kernel
theorem d_M_unbar_56 : decode c_M_unbar 56 = .ok (.iaload, 1) := by decide +kernel
theorem d_M_unbar_57 : decode c_M_unbar 57 = .ok (.iastore, 1) := by decide +kernel
theorem d_M_unbar_58 : decode c_M_unbar 58 = .ok (.aload_n 0, 1) := by decide +kernel
theorem d_M_unbar_59 : decode c_M_unbar 59 = .ok (.getfield 23, 3) := by decide +kernel
theorem d_M_unbar_62 : decode c_M_unbar 62 = .ok (.iload_n 2, 1) := by decide +kernel
theorem d_M_unbar_63 : decode c_M_unbar 63 = .ok (.aload_n 0, 1) := by decide +kernel
theorem d_M_unbar_64 : decode c_M_unbar 64 = .ok (.getfield 23, 3) := by decide +kernel
theorem d_M_unbar_67 : decode c_M_unbar 67 = .ok (.iload_n 2, 1) := by decide +kernel
theorem d_M_unbar_68 : decode c_M_unbar 68 = .ok (.iconst 1, 1) := by decide +kernel
theorem d_M_unbar_69 : decode c_M_unbar 69 = .ok (.iadd, 1) := by decide +kernel
theorem d_M_unbar_70 : decode c_M_unbar 70 = .ok (.iaload, 1) := by decide +kernel
theorem d_M_unbar_71 : decode c_M_unbar 71 = .ok (.iastore, 1) := by decide +kernel
theorem d_M_unbar_72 : decode c_M_unbar 72 = .ok (.aload_n 0, 1) := by decide +kernel
theorem d_M_unbar_73 : decode c_M_unbar 73 = .ok (.getfield 26, 3) := by decide +kernel
theorem d_M_unbar_76 : decode c_M_unbar 76 = .ok (.iload_n 2, 1) := by decide +kernel
theorem d_M_unbar_77 : decode c_M_unbar 77 = .ok (.aload_n 0, 1) := by decide +kernel
theorem d_M_unbar_78 : decode c_M_unbar 78 = .ok (.getfield 26, 3) := by decide +kernel
theorem d_M_unbar_81 : decode c_M_unbar 81 = .ok (.iload_n 2, 1) := by decide +kernel
theorem d_M_unbar_82 : decode c_M_unbar 82 = .ok (.iconst 1, 1) := by decide +kernel
theorem d_M_unbar_83 : decode c_M_unbar 83 = .ok (.iadd, 1) := by decide +kernel
theorem d_M_unbar_84 : decode c_M_unbar 84 = .ok (.iaload, 1) := by decide +kernel
theorem d_M_unbar_85 : decode c_M_unbar 85 = .ok (.iastore, 1) := by decide +kernel
theorem d_M_unbar_86 : decode c_M_unbar 86 = .ok (.iinc 2 1, 3) := by decide +kernel
theorem d_M_unbar_89 : decode c_M_unbar 89 = .ok (.goto (-53), 3) := by decide +kernel
theorem d_M_unbar_92 : decode c_M_unbar 92 = .ok (.aload_n 0, 1) := by decide +kernel
theorem d_M_unbar_93 : decode c_M_unbar 93 = .ok (.getfield 65, 3) := by decide +kernel
theorem d_M_unbar_96 : decode c_M_unbar 96 = .ok (.ireturn, 1) := by decide +kernel
theorem d_M_hold_0 : decode c_M_hold 0 = .ok (.aload_n 0, 1) := by decide +kernel
theorem d_M_hold_1 : decode c_M_hold 1 = .ok (.iload_n 1, 1) := by decide +kernel
theorem d_M_hold_2 : decode c_M_hold 2 = .ok (.iconst 4, 1) := by decide +kernel
theorem d_M_hold_3 : decode c_M_hold 3 = .ok (.invokevirtual 57, 3) := by decide +kernel
theorem d_M_hold_6 : decode c_M_hold 6 = .ok (.ifCond .ne 26, 3) := by decide +kernel
theorem d_M_hold_9 : decode c_M_hold 9 = .ok (.aload_n 0, 1) := by decide +kernel
theorem d_M_hold_10 : decode c_M_hold 10 = .ok (.iload_n 2, 1) := by decide +kernel
theorem d_M_hold_11 : decode c_M_hold 11 = .ok (.iconst 1, 1) := by decide +kernel
theorem d_M_hold_12 : decode c_M_hold 12 = .ok (.invokevirtual 57, 3) := by decide +kernel
theorem d_M_hold_15 : decode c_M_hold 15 = .ok (.ifCond .ne 17, 3) := by decide +kernel
theorem d_M_hold_18 : decode c_M_hold 18 = .ok (.iload 4, 2) := by decide +kernel
theorem d_M_hold_20 : decode c_M_hold 20 = .ok (.bipush (-9), 2) := by decide +kernel
theorem d_M_hold_22 : decode c_M_hold 22 = .ok (.if_icmp .lt 10, 3) := by decide +kernel
theorem d_M_hold_25 : decode c_M_hold 25 = .ok (.iload 4, 2) := by decide +kernel
theorem d_M_hold_27 : decode c_M_hold 27 = .ok (.bipush 9, 2) := by decide +kernel
theorem d_M_hold_29 : decode c_M_hold 29 = .ok (.if_icmp .le 5, 3) := by decide +kernel
theorem d_M_hold_32 : decode c_M_hold 32 = .ok (.iconst (-1), 1) := by decide +kernel
theorem d_M_hold_33 : decode c_M_hold 33 = .ok (.ireturn, 1) := by decide +kernel
theorem d_M_hold_34 : decode c_M_hold 34 = .ok (.aload_n 0, 1) := by decide +kernel
theorem d_M_hold_35 : decode c_M_hold 35 = .ok (.getfield 61, 3) := by decide +kernel
theorem d_M_hold_38 : decode c_M_hold 38 = .ok (.ifCond .eq 6, 3) := by decide +kernel
theorem d_M_hold_41 : decode c_M_hold 41 = .ok (.bipush (-4), 2) := by decide +kernel
theorem d_M_hold_43 : decode c_M_hold 43 = .ok (.ireturn, 1) := by decide +kernel
theorem d_M_hold_44 : decode c_M_hold 44 = .ok (.aload_n 0, 1) := by decide +kernel
theorem d_M_hold_45 : decode c_M_hold 45 = .ok (.getfield 29, 3) := by decide +kernel
theorem d_M_hold_48 : decode c_M_hold 48 = .ok (.iload_n 1, 1) := by decide +kernel
theorem d_M_hold_49 : decode c_M_hold 49 = .ok (.iconst 2, 1) := by decide +kernel
theorem d_M_hold_50 : decode c_M_hold 50 = .ok (.imul, 1) := by decide +kernel
theorem d_M_hold_51 : decode c_M_hold 51 = .ok (.iload_n 2, 1) := by decide +kernel
theorem d_M_hold_52 : decode c_M_hold 52 = .ok (.iadd, 1) := by decide +kernel
theorem d_M_hold_53 : decode c_M_hold 53 = .ok (.iload_n 3, 1) := by decide +kernel
theorem d_M_hold_54 : decode c_M_hold 54 = .ok (.bastore, 1) := by decide +kernel
theorem d_M_hold_55 : decode c_M_hold 55 = .ok (.aload_n 0, 1) := by decide +kernel
theorem d_M_hold_56 : decode c_M_hold 56 = .ok (.getfield 32, 3) := by decide +kernel
theorem d_M_hold_59 : decode c_M_hold 59 = .ok (.iload_n 1, 1) := by decide +kernel
theorem d_M_hold_60 : decode c_M_hold 60 = .ok (.iconst 2, 1) := by decide +kernel
theorem d_M_hold_61 : decode c_M_hold 61 = .ok (.imul, 1) := by decide +kernel
theorem d_M_hold_62 : decode c_M_hold 62 = .ok (.iload_n 2, 1) := by decide +kernel
theorem d_M_hold_63 : decode c_M_hold 63 = .ok (.iadd, 1) := by decide +kernel
theorem d_M_hold_64 : decode c_M_hold 64 = .ok (.iload 4, 2) := by decide +kernel
theorem d_M_hold_66 : decode c_M_hold 66 = .ok (.iastore, 1) := by decide +kernel
theorem d_M_hold_67 : decode c_M_hold 67 = .ok (.iconst 0, 1) := by decide +kernel
theorem d_M_hold_68 : decode c_M_hold 68 = .ok (.ireturn, 1) := by decide +kernel
theorem d_M_spring_0 : decode c_M_spring 0 = .ok (.aload_n 0, 1) := by decide +kernel
theorem d_M_spring_1 : decode c_M_spring 1 = .ok (.iload_n 1, 1) := by decide +kernel
theorem d_M_spring_2 : decode c_M_spring 2 = .ok (.iconst 4, 1) := by decide +kernel
theorem d_M_spring_3 : decode c_M_spring 3 = .ok (.invokevirtual 57, 3) := by decide +kernel
theorem d_M_spring_6 : decode c_M_spring 6 = .ok (.ifCond .ne 21, 3) := by decide +kernel
theorem d_M_spring_9 : decode c_M_spring 9 = .ok (.aload_n 0, 1) := by decide +kernel
theorem d_M_spring_10 : decode c_M_spring 10 = .ok (.iload_n 2, 1) := by decide +kernel
theorem d_M_spring_11 : decode c_M_spring 11 = .ok (.iconst 1, 1) := by decide +kernel
theorem d_M_spring_12 : decode c_M_spring 12 = .ok (.invokevirtual 57, 3) := by decide +kernel
theorem d_M_spring_15 : decode c_M_spring 15 = .ok (.ifCond .ne 12, 3) := by decide +kernel
theorem d_M_spring_18 : decode c_M_spring 18 = .ok (.aload_n 0, 1) := by decide +kernel
theorem d_M_spring_19 : decode c_M_spring 19 = .ok (.iload_n 3, 1) := by decide +kernel
theorem d_M_spring_20 : decode c_M_spring 20 = .ok (.iconst 3, 1) := by decide +kernel
theorem d_M_spring_21 : decode c_M_spring 21 = .ok (.invokevirtual 57, 3) := by decide +kernel
theorem d_M_spring_24 : decode c_M_spring 24 = .ok (.ifCond .eq 5, 3) := by decide +kernel
theorem d_M_spring_27 : decode c_M_spring 27 = .ok (.iconst (-1), 1) := by decide +kernel
theorem d_M_spring_28 : decode c_M_spring 28 = .ok (.ireturn, 1) := by decide +kernel
theorem d_M_spring_29 : decode c_M_spring 29 = .ok (.aload_n 0, 1) := by decide +kernel
theorem d_M_spring_30 : decode c_M_spring 30 = .ok (.getfield 61, 3) := by decide +kernel
theorem d_M_spring_33 : decode c_M_spring 33 = .ok (.ifCond .eq 6, 3) := by decide +kernel
theorem d_M_spring_36 : decode c_M_spring 36 = .ok (.bipush (-4), 2) := by decide +kernel
theorem d_M_spring_38 : decode c_M_spring 38 = .ok (.ireturn, 1) := by decide +kernel
theorem d_M_spring_39 : decode c_M_spring 39 = .ok (.aload_n 0, 1) := by decide +kernel
theorem d_M_spring_40 : decode c_M_spring 40 = .ok (.getfield 35, 3) := by decide +kernel
theorem d_M_spring_43 : decode c_M_spring 43 = .ok (.iload_n 1, 1) := by decide +kernel
theorem d_M_spring_44 : decode c_M_spring 44 = .ok (.iconst 2, 1) := by decide +kernel
theorem d_M_spring_45 : decode c_M_spring 45 = .ok (.imul, 1) := by decide +kernel
theorem d_M_spring_46 : decode c_M_spring 46 = .ok (.iload_n 2, 1) := by decide +kernel
theorem d_M_spring_47 : decode c_M_spring 47 = .ok (.iadd, 1) := by decide +kernel
theorem d_M_spring_48 : decode c_M_spring 48 = .ok (.iload_n 3, 1) := by decide +kernel
theorem d_M_spring_49 : decode c_M_spring 49 = .ok (.iastore, 1) := by decide +kernel
theorem d_M_spring_50 : decode c_M_spring 50 = .ok (.iconst 0, 1) := by decide +kernel
theorem d_M_spring_51 : decode c_M_spring 51 = .ok (.ireturn, 1) := by decide +kernel
theorem d_M_load_0 : decode c_M_load 0 = .ok (.aload_n 0, 1) := by decide +kernel
theorem d_M_load_1 : decode c_M_load 1 = .ok (.iload_n 1, 1) := by decide +kernel
theorem d_M_load_2 : decode c_M_load 2 = .ok (.iconst 3, 1) := by decide +kernel
theorem d_M_load_3 : decode c_M_load 3 = .ok (.invokevirtual 57, 3) := by decide +kernel
theorem d_M_load_6 : decode c_M_load 6 = .ok (.ifCond .ne 35, 3) := by decide +kernel
theorem d_M_load_9 : decode c_M_load 9 = .ok (.aload_n 0, 1) := by decide +kernel
theorem d_M_load_10 : decode c_M_load 10 = .ok (.iload_n 2, 1) := by decide +kernel
theorem d_M_load_11 : decode c_M_load 11 = .ok (.iconst 4, 1) := by decide +kernel
theorem d_M_load_12 : decode c_M_load 12 = .ok (.invokevirtual 57, 3) := by decide +kernel
theorem d_M_load_15 : decode c_M_load 15 = .ok (.ifCond .ne 26, 3) := by decide +kernel
theorem d_M_load_18 : decode c_M_load 18 = .ok (.aload_n 0, 1) := by decide +kernel
theorem d_M_load_19 : decode c_M_load 19 = .ok (.iload_n 3, 1) := by decide +kernel
theorem d_M_load_20 : decode c_M_load 20 = .ok (.iconst 1, 1) := by decide +kernel
theorem d_M_load_21 : decode c_M_load 21 = .ok (.invokevirtual 57, 3) := by decide +kernel
theorem d_M_load_24 : decode c_M_load 24 = .ok (.ifCond .ne 17, 3) := by decide +kernel
theorem d_M_load_27 : decode c_M_load 27 = .ok (.iload 4, 2) := by decide +kernel
theorem d_M_load_29 : decode c_M_load 29 = .ok (.bipush (-99), 2) := by decide +kernel
theorem d_M_load_31 : decode c_M_load 31 = .ok (.if_icmp .lt 10, 3) := by decide +kernel
theorem d_M_load_34 : decode c_M_load 34 = .ok (.iload 4, 2) := by decide +kernel
theorem d_M_load_36 : decode c_M_load 36 = .ok (.bipush 99, 2) := by decide +kernel
theorem d_M_load_38 : decode c_M_load 38 = .ok (.if_icmp .le 5, 3) := by decide +kernel
theorem d_M_load_41 : decode c_M_load 41 = .ok (.iconst (-1), 1) := by decide +kernel
theorem d_M_load_42 : decode c_M_load 42 = .ok (.ireturn, 1) := by decide +kernel
theorem d_M_load_43 : decode c_M_load 43 = .ok (.aload_n 0, 1) := by decide +kernel
theorem d_M_load_44 : decode c_M_load 44 = .ok (.getfield 38, 3) := by decide +kernel
theorem d_M_load_47 : decode c_M_load 47 = .ok (.iload_n 1, 1) := by decide +kernel
theorem d_M_load_48 : decode c_M_load 48 = .ok (.bipush 10, 2) := by decide +kernel
theorem d_M_load_50 : decode c_M_load 50 = .ok (.imul, 1) := by decide +kernel
theorem d_M_load_51 : decode c_M_load 51 = .ok (.iload_n 2, 1) := by decide +kernel
theorem d_M_load_52 : decode c_M_load 52 = .ok (.iconst 2, 1) := by decide +kernel
theorem d_M_load_53 : decode c_M_load 53 = .ok (.imul, 1) := by decide +kernel
theorem d_M_load_54 : decode c_M_load 54 = .ok (.iadd, 1) := by decide +kernel
theorem d_M_load_55 : decode c_M_load 55 = .ok (.iload_n 3, 1) := by decide +kernel
theorem d_M_load_56 : decode c_M_load 56 = .ok (.iadd, 1) := by decide +kernel
theorem d_M_load_57 : decode c_M_load 57 = .ok (.iload 4, 2) := by decide +kernel
theorem d_M_load_59 : decode c_M_load 59 = .ok (.iastore, 1) := by decide +kernel
theorem d_M_load_60 : decode c_M_load 60 = .ok (.iconst 0, 1) := by decide +kernel
theorem d_M_load_61 : decode c_M_load 61 = .ok (.ireturn, 1) := by decide +kernel
theorem d_M_solve_0 : decode c_M_solve 0 = .ok (.aload_n 0, 1) := by decide +kernel
theorem d_M_solve_1 : decode c_M_solve 1 = .ok (.getfield 61, 3) := by decide +kernel
theorem d_M_solve_4 : decode c_M_solve 4 = .ok (.ifCond .eq 6, 3) := by decide +kernel
theorem d_M_solve_7 : decode c_M_solve 7 = .ok (.bipush (-4), 2) := by decide +kernel
theorem d_M_solve_9 : decode c_M_solve 9 = .ok (.ireturn, 1) := by decide +kernel
theorem d_M_solve_10 : decode c_M_solve 10 = .ok (.aload_n 0, 1) := by decide +kernel
theorem d_M_solve_11 : decode c_M_solve 11 = .ok (.invokevirtual 122, 3) := by decide +kernel
theorem d_M_solve_14 : decode c_M_solve 14 = .ok (.aload_n 0, 1) := by decide +kernel
theorem d_M_solve_15 : decode c_M_solve 15 = .ok (.getfield 76, 3) := by decide +kernel
theorem d_M_solve_18 : decode c_M_solve 18 = .ok (.ifCond .ne 6, 3) := by decide +kernel
theorem d_M_solve_21 : decode c_M_solve 21 = .ok (.bipush (-100), 2) := by decide +kernel
theorem d_M_solve_23 : decode c_M_solve 23 = .ok (.ireturn, 1) := by decide +kernel
theorem d_M_solve_24 : decode c_M_solve 24 = .ok (.iconst 0, 1) := by decide +kernel
theorem d_M_solve_25 : decode c_M_solve 25 = .ok (.istore_n 1, 1) := by decide +kernel
theorem d_M_solve_26 : decode c_M_solve 26 = .ok (.iload_n 1, 1) := by decide +kernel
theorem d_M_solve_27 : decode c_M_solve 27 = .ok (.aload_n 0, 1) := by decide +kernel
theorem d_M_solve_28 : decode c_M_solve 28 = .ok (.getfield 65, 3) := by decide +kernel
theorem d_M_solve_31 : decode c_M_solve 31 = .ok (.if_icmp .ge 23, 3) := by decide +kernel
theorem d_M_solve_34 : decode c_M_solve 34 = .ok (.aload_n 0, 1) := by decide +kernel
theorem d_M_solve_35 : decode c_M_solve 35 = .ok (.iload_n 1, 1) := by decide +kernel
theorem d_M_solve_36 : decode c_M_solve 36 = .ok (.invokevirtual 125, 3) := by decide +kernel
theorem d_M_solve_39 : decode c_M_solve 39 = .ok (.ifCond .ne 9, 3) := by decide +kernel
theorem d_M_solve_42 : decode c_M_solve 42 = .ok (.sipush (-200), 3) := by decide +kernel
theorem d_M_solve_45 : decode c_M_solve 45 = .ok (.iload_n 1, 1) := by decide +kernel
theorem d_M_solve_46 : decode c_M_solve 46 = .ok (.isub, 1) := by decide +kernel
theorem d_M_solve_47 : decode c_M_solve 47 = .ok (.ireturn, 1) := by decide +kernel
theorem d_M_solve_48 : decode c_M_solve 48 = .ok (.iinc 1 1, 3) := by decide +kernel
theorem d_M_solve_51 : decode c_M_solve 51 = .ok (.goto (-25), 3) := by decide +kernel
theorem d_M_solve_54 : decode c_M_solve 54 = .ok (.aload_n 0, 1) := by decide +kernel
theorem d_M_solve_55 : decode c_M_solve 55 = .ok (.invokevirtual 128, 3) := by decide +kernel
theorem d_M_solve_58 : decode c_M_solve 58 = .ok (.aload_n 0, 1) := by decide +kernel
theorem d_M_solve_59 : decode c_M_solve 59 = .ok (.aload_n 0, 1) := by decide +kernel
theorem d_M_solve_60 : decode c_M_solve 60 = .ok (.getfield 93, 3) := by decide +kernel
theorem d_M_solve_63 : decode c_M_solve 63 = .ok (.iconst (-1), 1) := by decide +kernel
theorem d_M_solve_64 : decode c_M_solve 64 = .ok (.invokevirtual 131, 3) := by decide +kernel
theorem d_M_solve_67 : decode c_M_solve 67 = .ok (.lconst 0, 1) := by decide +kernel
theorem d_M_solve_68 : decode c_M_solve 68 = .ok (.lcmp, 1) := by decide +kernel
theorem d_M_solve_69 : decode c_M_solve 69 = .ok (.ifCond .ne 36, 3) := by decide +kernel
theorem d_M_solve_72 : decode c_M_solve 72 = .ok (.iconst 1, 1) := by decide +kernel
theorem d_M_solve_73 : decode c_M_solve 73 = .ok (.istore_n 1, 1) := by decide +kernel
theorem d_M_solve_74 : decode c_M_solve 74 = .ok (.iload_n 1, 1) := by decide +kernel
theorem d_M_solve_75 : decode c_M_solve 75 = .ok (.aload_n 0, 1) := by decide +kernel
theorem d_M_solve_76 : decode c_M_solve 76 = .ok (.getfield 93, 3) := by decide +kernel
theorem d_M_solve_79 : decode c_M_solve 79 = .ok (.if_icmp .gt 26, 3) := by decide +kernel
theorem d_M_solve_82 : decode c_M_solve 82 = .ok (.aload_n 0, 1) := by decide +kernel
theorem d_M_solve_83 : decode c_M_solve 83 = .ok (.iload_n 1, 1) := by decide +kernel
theorem d_M_solve_84 : decode c_M_solve 84 = .ok (.iconst (-1), 1) := by decide +kernel
theorem d_M_solve_85 : decode c_M_solve 85 = .ok (.invokevirtual 131, 3) := by decide +kernel
theorem d_M_solve_88 : decode c_M_solve 88 = .ok (.lconst 0, 1) := by decide +kernel
theorem d_M_solve_89 : decode c_M_solve 89 = .ok (.lcmp, 1) := by decide +kernel
theorem d_M_solve_90 : decode c_M_solve 90 = .ok (.ifCond .ne 9, 3) := by decide +kernel
theorem d_M_solve_93 : decode c_M_solve 93 = .ok (.sipush (-299), 3) := by decide +kernel
theorem d_M_solve_96 : decode c_M_solve 96 = .ok (.iload_n 1, 1) := by decide +kernel
theorem d_M_solve_97 : decode c_M_solve 97 = .ok (.isub, 1) := by decide +kernel
theorem d_M_solve_98 : decode c_M_solve 98 = .ok (.ireturn, 1) := by decide +kernel
theorem d_M_solve_99 : decode c_M_solve 99 = .ok (.iinc 1 1, 3) := by decide +kernel
theorem d_M_solve_102 : decode c_M_solve 102 = .ok (.goto (-28), 3) := by decide +kernel
theorem d_M_solve_105 : decode c_M_solve 105 = .ok (.aload_n 0, 1) := by decide +kernel
theorem d_M_solve_106 : decode c_M_solve 106 = .ok (.iconst 1, 1) := by decide +kernel
theorem d_M_solve_107 : decode c_M_solve 107 = .ok (.putfield 61, 3) := by decide +kernel
theorem d_M_solve_110 : decode c_M_solve 110 = .ok (.aload_n 0, 1) := by decide +kernel
theorem d_M_solve_111 : decode c_M_solve 111 = .ok (.getfield 93, 3) := by decide +kernel
theorem d_M_solve_114 : decode c_M_solve 114 = .ok (.ireturn, 1) := by decide +kernel
theorem d_M_makeOrder_0 : decode c_M_makeOrder 0 = .ok (.aload_n 0, 1) := by decide +kernel
theorem d_M_makeOrder_1 : decode c_M_makeOrder 1 = .ok (.iconst 0, 1) := by decide +kernel
theorem d_M_makeOrder_2 : decode c_M_makeOrder 2 = .ok (.putfield 76, 3) := by decide +kernel
theorem d_M_makeOrder_5 : decode c_M_makeOrder 5 = .ok (.iconst 0, 1) := by decide +kernel
theorem d_M_makeOrder_6 : decode c_M_makeOrder 6 = .ok (.istore_n 1, 1) := by decide +kernel
theorem d_M_makeOrder_7 : decode c_M_makeOrder 7 = .ok (.iconst 0, 1) := by decide +kernel
theorem d_M_makeOrder_8 : decode c_M_makeOrder 8 = .ok (.istore_n 2, 1) := by decide +kernel
theorem d_M_makeOrder_9 : decode c_M_makeOrder 9 = .ok (.iload_n 2, 1) := by decide +kernel
theorem d_M_makeOrder_10 : decode c_M_makeOrder 10 = .ok (.bipush 20, 2) := by decide +kernel
theorem d_M_makeOrder_12 : decode c_M_makeOrder 12 = .ok (.if_icmp .ge 47, 3) := by decide +kernel
theorem d_M_makeOrder_15 : decode c_M_makeOrder 15 = .ok (.aload_n 0, 1) := by decide +kernel
theorem d_M_makeOrder_16 : decode c_M_makeOrder 16 = .ok (.iload_n 1, 1) := by decide +kernel
theorem d_M_makeOrder_17 : decode c_M_makeOrder 17 = .ok (.aload_n 0, 1) := by decide +kernel
theorem d_M_makeOrder_18 : decode c_M_makeOrder 18 = .ok (.getfield 76, 3) := by decide +kernel
theorem d_M_makeOrder_21 : decode c_M_makeOrder 21 = .ok (.if_icmp .ge 12, 3) := by decide +kernel
theorem d_M_makeOrder_24 : decode c_M_makeOrder 24 = .ok (.aload_n 0, 1) := by decide +kernel
theorem d_M_makeOrder_25 : decode c_M_makeOrder 25 = .ok (.getfield 41, 3) := by decide +kernel
theorem d_M_makeOrder_28 : decode c_M_makeOrder 28 = .ok (.iload_n 1, 1) := by decide +kernel
theorem d_M_makeOrder_29 : decode c_M_makeOrder 29 = .ok (.iaload, 1) := by decide +kernel
theorem d_M_makeOrder_30 : decode c_M_makeOrder 30 = .ok (.goto 4, 3) := by decide +kernel
theorem d_M_makeOrder_33 : decode c_M_makeOrder 33 = .ok (.iconst (-1), 1) := by decide +kernel
theorem d_M_makeOrder_34 : decode c_M_makeOrder 34 = .ok (.invokevirtual 86, 3) := by decide +kernel
theorem d_M_makeOrder_37 : decode c_M_makeOrder 37 = .ok (.istore_n 3, 1) := by decide +kernel
theorem d_M_makeOrder_38 : decode c_M_makeOrder 38 = .ok (.iload_n 3, 1) := by decide +kernel
theorem d_M_makeOrder_39 : decode c_M_makeOrder 39 = .ok (.ifCond .lt 11, 3) := by decide +kernel
theorem d_M_makeOrder_42 : decode c_M_makeOrder 42 = .ok (.aload_n 0, 1) := by decide +kernel
theorem d_M_makeOrder_43 : decode c_M_makeOrder 43 = .ok (.iload_n 3, 1) := by decide +kernel
theorem d_M_makeOrder_44 : decode c_M_makeOrder 44 = .ok (.invokevirtual 89, 3) := by decide +kernel
theorem d_M_makeOrder_47 : decode c_M_makeOrder 47 = .ok (.goto 6, 3) := by decide +kernel
theorem d_M_makeOrder_50 : decode c_M_makeOrder 50 = .ok (.iinc 1 1, 3) := by decide +kernel
theorem d_M_makeOrder_53 : decode c_M_makeOrder 53 = .ok (.iinc 2 1, 3) := by decide +kernel
theorem d_M_makeOrder_56 : decode c_M_makeOrder 56 = .ok (.goto (-47), 3) := by decide +kernel
theorem d_M_makeOrder_59 : decode c_M_makeOrder 59 = .ok (.iconst 0, 1) := by decide +kernel
theorem d_M_makeOrder_60 : decode c_M_makeOrder 60 = .ok (.istore_n 2, 1) := by decide +kernel
theorem d_M_makeOrder_61 : decode c_M_makeOrder 61 = .ok (.iload_n 2, 1) := by decide +kernel
theorem d_M_makeOrder_62 : decode c_M_makeOrder 62 = .ok (.aload_n 0, 1) := by decide +kernel
theorem d_M_makeOrder_63 : decode c_M_makeOrder 63 = .ok (.getfield 76, 3) := by decide +kernel
theorem d_M_makeOrder_66 : decode c_M_makeOrder 66 = .ok (.iconst 2, 1) := by decide +kernel
theorem d_M_makeOrder_67 : decode c_M_makeOrder 67 = .ok (.idiv, 1) := by decide +kernel
theorem d_M_makeOrder_68 : decode c_M_makeOrder 68 = .ok (.if_icmp .ge 49, 3) := by decide +kernel
theorem d_M_makeOrder_71 : decode c_M_makeOrder 71 = .ok (.aload_n 0, 1) := by decide +kernel
theorem d_M_makeOrder_72 : decode c_M_makeOrder 72 = .ok (.getfield 41, 3) := by decide +kernel
theorem d_M_makeOrder_75 : decode c_M_makeOrder 75 = .ok (.iload_n 2, 1) := by decide +kernel
theorem d_M_makeOrder_76 : decode c_M_makeOrder 76 = .ok (.iaload, 1) := by decide +kernel
theorem d_M_makeOrder_77 : decode c_M_makeOrder 77 = .ok (.istore_n 3, 1) := by decide +kernel
theorem d_M_makeOrder_78 : decode c_M_makeOrder 78 = .ok (.aload_n 0, 1) := by decide +kernel
theorem d_M_makeOrder_79 : decode c_M_makeOrder 79 = .ok (.getfield 41, 3) := by decide +kernel
theorem d_M_makeOrder_82 : decode c_M_makeOrder 82 = .ok (.iload_n 2, 1) := by decide +kernel
theorem d_M_makeOrder_83 : decode c_M_makeOrder 83 = .ok (.aload_n 0, 1) := by decide +kernel
theorem d_M_makeOrder_84 : decode c_M_makeOrder 84 = .ok (.getfield 41, 3) := by decide +kernel
theorem d_M_makeOrder_87 : decode c_M_makeOrder 87 = .ok (.aload_n 0, 1) := by decide +kernel
theorem d_M_makeOrder_88 : decode c_M_makeOrder 88 = .ok (.getfield 76, 3) := by decide +kernel
theorem d_M_makeOrder_91 : decode c_M_makeOrder 91 = .ok (.iconst 1, 1) := by decide +kernel
theorem d_M_makeOrder_92 : decode c_M_makeOrder 92 = .ok (.isub, 1) := by decide +kernel
theorem d_M_makeOrder_93 : decode c_M_makeOrder 93 = .ok (.iload_n 2, 1) := by decide +kernel
theorem d_M_makeOrder_94 : decode c_M_makeOrder 94 = .ok (.isub, 1) := by decide +kernel
theorem d_M_makeOrder_95 : decode c_M_makeOrder 95 = .ok (.iaload, 1) := by decide +kernel
theorem d_M_makeOrder_96 : decode c_M_makeOrder 96 = .ok (.iastore, 1) := by decide +kernel
theorem d_M_makeOrder_97 : decode c_M_makeOrder 97 = .ok (.aload_n 0, 1) := by decide +kernel
theorem d_M_makeOrder_98 : decode c_M_makeOrder 98 = .ok (.getfield 41, 3) := by decide +kernel
theorem d_M_makeOrder_101 : decode c_M_makeOrder 101 = .ok (.aload_n 0, 1) := by decide +kernel
theorem d_M_makeOrder_102 : decode c_M_makeOrder 102 = .ok (.getfield 76, 3) := by decide +kernel
theorem d_M_makeOrder_105 : decode c_M_makeOrder 105 = .ok (.iconst 1, 1) := by decide +kernel
theorem d_M_makeOrder_106 : decode c_M_makeOrder 106 = .ok (.isub, 1) := by decide +kernel
theorem d_M_makeOrder_107 : decode c_M_makeOrder 107 = .ok (.iload_n 2, 1) := by decide +kernel
theorem d_M_makeOrder_108 : decode c_M_makeOrder 108 = .ok (.isub, 1) := by decide +kernel
theorem d_M_makeOrder_109 : decode c_M_makeOrder 109 = .ok (.iload_n 3, 1) := by decide +kernel
theorem d_M_makeOrder_110 : decode c_M_makeOrder 110 = .ok (.iastore, 1) := by decide +kernel
theorem d_M_makeOrder_111 : decode c_M_makeOrder 111 = .ok (.iinc 2 1, 3) := by decide +kernel
theorem d_M_makeOrder_114 : decode c_M_makeOrder 114 = .ok (.goto (-53), 3) := by decide +kernel
theorem d_M_makeOrder_117 : decode c_M_makeOrder 117 = .ok (.aload_n 0, 1) := by decide +kernel
theorem d_M_makeOrder_118 : decode c_M_makeOrder 118 = .ok (.iconst 0, 1) := by decide +kernel
theorem d_M_makeOrder_119 : decode c_M_makeOrder 119 = .ok (.putfield 93, 3) := by decide +kernel
theorem d_M_makeOrder_122 : decode c_M_makeOrder 122 = .ok (.iconst 0, 1) := by decide +kernel
theorem d_M_makeOrder_123 : decode c_M_makeOrder 123 = .ok (.istore_n 2, 1) := by decide +kernel
theorem d_M_makeOrder_124 : decode c_M_makeOrder 124 = .ok (.iload_n 2, 1) := by decide +kernel
theorem d_M_makeOrder_125 : decode c_M_makeOrder 125 = .ok (.aload_n 0, 1) := by decide +kernel
theorem d_M_makeOrder_126 : decode c_M_makeOrder 126 = .ok (.getfield 76, 3) := by decide +kernel
theorem d_M_makeOrder_129 : decode c_M_makeOrder 129 = .ok (.iconst 2, 1) := by decide +kernel
theorem d_M_makeOrder_130 : decode c_M_makeOrder 130 = .ok (.imul, 1) := by decide +kernel
theorem d_M_makeOrder_131 : decode c_M_makeOrder 131 = .ok (.if_icmp .ge 53, 3) := by decide +kernel
theorem d_M_makeOrder_134 : decode c_M_makeOrder 134 = .ok (.aload_n 0, 1) := by decide +kernel
theorem d_M_makeOrder_135 : decode c_M_makeOrder 135 = .ok (.getfield 41, 3) := by decide +kernel
theorem d_M_makeOrder_138 : decode c_M_makeOrder 138 = .ok (.iload_n 2, 1) := by decide +kernel
theorem d_M_makeOrder_139 : decode c_M_makeOrder 139 = .ok (.iconst 2, 1) := by decide +kernel
theorem d_M_makeOrder_140 : decode c_M_makeOrder 140 = .ok (.idiv, 1) := by decide +kernel
theorem d_M_makeOrder_141 : decode c_M_makeOrder 141 = .ok (.iaload, 1) := by decide +kernel
theorem d_M_makeOrder_142 : decode c_M_makeOrder 142 = .ok (.iconst 2, 1) := by decide +kernel
theorem d_M_makeOrder_143 : decode c_M_makeOrder 143 = .ok (.imul, 1) := by decide +kernel
theorem d_M_makeOrder_144 : decode c_M_makeOrder 144 = .ok (.iload_n 2, 1) := by decide +kernel
theorem d_M_makeOrder_145 : decode c_M_makeOrder 145 = .ok (.iconst 2, 1) := by decide +kernel
theorem d_M_makeOrder_146 : decode c_M_makeOrder 146 = .ok (.irem, 1) := by decide +kernel
theorem d_M_makeOrder_147 : decode c_M_makeOrder 147 = .ok (.iadd, 1) := by decide +kernel
theorem d_M_makeOrder_148 : decode c_M_makeOrder 148 = .ok (.istore_n 3, 1) := by decide +kernel
theorem d_M_makeOrder_149 : decode c_M_makeOrder 149 = .ok (.aload_n 0, 1) := by decide +kernel
theorem d_M_makeOrder_150 : decode c_M_makeOrder 150 = .ok (.getfield 29, 3) := by decide +kernel
theorem d_M_makeOrder_153 : decode c_M_makeOrder 153 = .ok (.iload_n 3, 1) := by decide +kernel
theorem d_M_makeOrder_154 : decode c_M_makeOrder 154 = .ok (.baload, 1) := by decide +kernel
theorem d_M_makeOrder_155 : decode c_M_makeOrder 155 = .ok (.ifCond .ne 23, 3) := by decide +kernel
theorem d_M_makeOrder_158 : decode c_M_makeOrder 158 = .ok (.aload_n 0, 1) := by decide +kernel
theorem d_M_makeOrder_159 : decode c_M_makeOrder 159 = .ok (.getfield 44, 3) := by decide +kernel
theorem d_M_makeOrder_162 : decode c_M_makeOrder 162 = .ok (.aload_n 0, 1) := by decide +kernel
theorem d_M_makeOrder_163 : decode c_M_makeOrder 163 = .ok (.getfield 93, 3) := by decide +kernel
theorem d_M_makeOrder_166 : decode c_M_makeOrder 166 = .ok (.iload_n 3, 1) := by decide +kernel
theorem d_M_makeOrder_167 : decode c_M_makeOrder 167 = .ok (.iastore, 1) := by decide +kernel
theorem d_M_makeOrder_168 : decode c_M_makeOrder 168 = .ok (.aload_n 0, 1) := by decide +kernel
theorem d_M_makeOrder_169 : decode c_M_makeOrder 169 = .ok (.dup, 1) := by decide +kernel
theorem d_M_makeOrder_170 : decode c_M_makeOrder 170 = .ok (.getfield 93, 3) := by decide +kernel
theorem d_M_makeOrder_173 : decode c_M_makeOrder 173 = .ok (.iconst 1, 1) := by decide +kernel
theorem d_M_makeOrder_174 : decode c_M_makeOrder 174 = .ok (.iadd, 1) := by decide +kernel
theorem d_M_makeOrder_175 : decode c_M_makeOrder 175 = .ok (.putfield 93, 3) := by decide +kernel
theorem d_M_makeOrder_178 : decode c_M_makeOrder 178 = .ok (.iinc 2 1, 3) := by decide +kernel
theorem d_M_makeOrder_181 : decode c_M_makeOrder 181 = .ok (.goto (-57), 3) := by decide +kernel
theorem d_M_makeOrder_184 : decode c_M_makeOrder 184 = .ok (.return_, 1) := by decide +kernel
end
section
theorem d_M_candidate_0 : decode c_M_candidate 0 = .ok (.iconst (-1), 1) := by decide +kernel
theorem d_M_candidate_1 : decode c_M_candidate 1 = .ok (.istore_n 2, 1) := by decide +kernel
theorem d_M_candidate_2 : decode c_M_candidate 2 = .ok (.iconst 0, 1) := by decide +kernel
theorem d_M_candidate_3 : decode c_M_candidate 3 = .ok (.istore_n 3, 1) := by decide +kernel
theorem d_M_candidate_4 : decode c_M_candidate 4 = .ok (.iload_n 3, 1) := by decide +kernel
theorem d_M_candidate_5 : decode c_M_candidate 5 = .ok (.iconst 5, 1) := by decide +kernel
theorem d_M_candidate_6 : decode c_M_candidate 6 = .ok (.if_icmp .ge 70, 3) := by decide +kernel
theorem d_M_candidate_9 : decode c_M_candidate 9 = .ok (.aload_n 0, 1) := by decide +kernel
theorem d_M_candidate_10 : decode c_M_candidate 10 = .ok (.getfield 7, 3) := by decide +kernel
theorem d_M_candidate_13 : decode c_M_candidate 13 = .ok (.iload_n 3, 1) := by decide +kernel
theorem d_M_candidate_14 : decode c_M_candidate 14 = .ok (.baload, 1) := by decide +kernel
theorem d_M_candidate_15 : decode c_M_candidate 15 = .ok (.ifCond .eq 28, 3) := by decide +kernel
theorem d_M_candidate_18 : decode c_M_candidate 18 = .ok (.aload_n 0, 1) := by decide +kernel
theorem d_M_candidate_19 : decode c_M_candidate 19 = .ok (.iload_n 3, 1) := by decide +kernel
theorem d_M_candidate_20 : decode c_M_candidate 20 = .ok (.invokevirtual 79, 3) := by decide +kernel
theorem d_M_candidate_23 : decode c_M_candidate 23 = .ok (.ifCond .ne 20, 3) := by decide +kernel
theorem d_M_candidate_26 : decode c_M_candidate 26 = .ok (.iload_n 1, 1) := by decide +kernel
theorem d_M_candidate_27 : decode c_M_candidate 27 = .ok (.ifCond .lt 12, 3) := by decide +kernel
theorem d_M_candidate_30 : decode c_M_candidate 30 = .ok (.aload_n 0, 1) := by decide +kernel
theorem d_M_candidate_31 : decode c_M_candidate 31 = .ok (.iload_n 1, 1) := by decide +kernel
theorem d_M_candidate_32 : decode c_M_candidate 32 = .ok (.iload_n 3, 1) := by decide +kernel
theorem d_M_candidate_33 : decode c_M_candidate 33 = .ok (.invokevirtual 73, 3) := by decide +kernel
theorem d_M_candidate_36 : decode c_M_candidate 36 = .ok (.ifCond .eq 7, 3) := by decide +kernel
theorem d_M_candidate_39 : decode c_M_candidate 39 = .ok (.iconst 1, 1) := by decide +kernel
theorem d_M_candidate_40 : decode c_M_candidate 40 = .ok (.goto 4, 3) := by decide +kernel
theorem d_M_candidate_43 : decode c_M_candidate 43 = .ok (.iconst 0, 1) := by decide +kernel
theorem d_M_candidate_44 : decode c_M_candidate 44 = .ok (.istore 4, 2) := by decide +kernel
theorem d_M_candidate_46 : decode c_M_candidate 46 = .ok (.iload 4, 2) := by decide +kernel
theorem d_M_candidate_48 : decode c_M_candidate 48 = .ok (.ifCond .eq 22, 3) := by decide +kernel
theorem d_M_candidate_51 : decode c_M_candidate 51 = .ok (.iload_n 2, 1) := by decide +kernel
theorem d_M_candidate_52 : decode c_M_candidate 52 = .ok (.ifCond .lt 16, 3) := by decide +kernel
theorem d_M_candidate_55 : decode c_M_candidate 55 = .ok (.aload_n 0, 1) := by decide +kernel
theorem d_M_candidate_56 : decode c_M_candidate 56 = .ok (.iload_n 3, 1) := by decide +kernel
theorem d_M_candidate_57 : decode c_M_candidate 57 = .ok (.invokevirtual 83, 3) := by decide +kernel
theorem d_M_candidate_60 : decode c_M_candidate 60 = .ok (.aload_n 0, 1) := by decide +kernel
theorem d_M_candidate_61 : decode c_M_candidate 61 = .ok (.iload_n 2, 1) := by decide +kernel
theorem d_M_candidate_62 : decode c_M_candidate 62 = .ok (.invokevirtual 83, 3) := by decide +kernel
theorem d_M_candidate_65 : decode c_M_candidate 65 = .ok (.if_icmp .ge 5, 3) := by decide +kernel
theorem d_M_candidate_68 : decode c_M_candidate 68 = .ok (.iload_n 3, 1) := by decide +kernel
theorem d_M_candidate_69 : decode c_M_candidate 69 = .ok (.istore_n 2, 1) := by decide +kernel
theorem d_M_candidate_70 : decode c_M_candidate 70 = .ok (.iinc 3 1, 3) := by decide +kernel
theorem d_M_candidate_73 : decode c_M_candidate 73 = .ok (.goto (-69), 3) := by decide +kernel
theorem d_M_candidate_76 : decode c_M_candidate 76 = .ok (.iload_n 2, 1) := by decide +kernel
theorem d_M_candidate_77 : decode c_M_candidate 77 = .ok (.ireturn, 1) := by decide +kernel
theorem d_M_inOrder_0 : decode c_M_inOrder 0 = .ok (.iconst 0, 1) := by decide +kernel
theorem d_M_inOrder_1 : decode c_M_inOrder 1 = .ok (.istore_n 2, 1) := by decide +kernel
theorem d_M_inOrder_2 : decode c_M_inOrder 2 = .ok (.iload_n 2, 1) := by decide +kernel
theorem d_M_inOrder_3 : decode c_M_inOrder 3 = .ok (.aload_n 0, 1) := by decide +kernel
theorem d_M_inOrder_4 : decode c_M_inOrder 4 = .ok (.getfield 76, 3) := by decide +kernel
theorem d_M_inOrder_7 : decode c_M_inOrder 7 = .ok (.if_icmp .ge 21, 3) := by decide +kernel
theorem d_M_inOrder_10 : decode c_M_inOrder 10 = .ok (.aload_n 0, 1) := by decide +kernel
theorem d_M_inOrder_11 : decode c_M_inOrder 11 = .ok (.getfield 41, 3) := by decide +kernel
theorem d_M_inOrder_14 : decode c_M_inOrder 14 = .ok (.iload_n 2, 1) := by decide +kernel
theorem d_M_inOrder_15 : decode c_M_inOrder 15 = .ok (.iaload, 1) := by decide +kernel
theorem d_M_inOrder_16 : decode c_M_inOrder 16 = .ok (.iload_n 1, 1) := by decide +kernel
theorem d_M_inOrder_17 : decode c_M_inOrder 17 = .ok (.if_icmp .ne 5, 3) := by decide +kernel
theorem d_M_inOrder_20 : decode c_M_inOrder 20 = .ok (.iconst 1, 1) := by decide +kernel
theorem d_M_inOrder_21 : decode c_M_inOrder 21 = .ok (.ireturn, 1) := by decide +kernel
theorem d_M_inOrder_22 : decode c_M_inOrder 22 = .ok (.iinc 2 1, 3) := by decide +kernel
theorem d_M_inOrder_25 : decode c_M_inOrder 25 = .ok (.goto (-23), 3) := by decide +kernel
theorem d_M_inOrder_28 : decode c_M_inOrder 28 = .ok (.iconst 0, 1) := by decide +kernel
theorem d_M_inOrder_29 : decode c_M_inOrder 29 = .ok (.ireturn, 1) := by decide +kernel
theorem d_M_joined_0 : decode c_M_joined 0 = .ok (.iconst 0, 1) := by decide +kernel
theorem d_M_joined_1 : decode c_M_joined 1 = .ok (.istore_n 3, 1) := by decide +kernel
theorem d_M_joined_2 : decode c_M_joined 2 = .ok (.iload_n 3, 1) := by decide +kernel
theorem d_M_joined_3 : decode c_M_joined 3 = .ok (.aload_n 0, 1) := by decide +kernel
theorem d_M_joined_4 : decode c_M_joined 4 = .ok (.getfield 65, 3) := by decide +kernel
theorem d_M_joined_7 : decode c_M_joined 7 = .ok (.if_icmp .ge 51, 3) := by decide +kernel
theorem d_M_joined_10 : decode c_M_joined 10 = .ok (.aload_n 0, 1) := by decide +kernel
theorem d_M_joined_11 : decode c_M_joined 11 = .ok (.getfield 20, 3) := by decide +kernel
theorem d_M_joined_14 : decode c_M_joined 14 = .ok (.iload_n 3, 1) := by decide +kernel
theorem d_M_joined_15 : decode c_M_joined 15 = .ok (.iaload, 1) := by decide +kernel
theorem d_M_joined_16 : decode c_M_joined 16 = .ok (.iload_n 1, 1) := by decide +kernel
theorem d_M_joined_17 : decode c_M_joined 17 = .ok (.if_icmp .ne 13, 3) := by decide +kernel
theorem d_M_joined_20 : decode c_M_joined 20 = .ok (.aload_n 0, 1) := by decide +kernel
theorem d_M_joined_21 : decode c_M_joined 21 = .ok (.getfield 23, 3) := by decide +kernel
theorem d_M_joined_24 : decode c_M_joined 24 = .ok (.iload_n 3, 1) := by decide +kernel
theorem d_M_joined_25 : decode c_M_joined 25 = .ok (.iaload, 1) := by decide +kernel
theorem d_M_joined_26 : decode c_M_joined 26 = .ok (.iload_n 2, 1) := by decide +kernel
theorem d_M_joined_27 : decode c_M_joined 27 = .ok (.if_icmp .eq 23, 3) := by decide +kernel
theorem d_M_joined_30 : decode c_M_joined 30 = .ok (.aload_n 0, 1) := by decide +kernel
theorem d_M_joined_31 : decode c_M_joined 31 = .ok (.getfield 20, 3) := by decide +kernel
theorem d_M_joined_34 : decode c_M_joined 34 = .ok (.iload_n 3, 1) := by decide +kernel
theorem d_M_joined_35 : decode c_M_joined 35 = .ok (.iaload, 1) := by decide +kernel
theorem d_M_joined_36 : decode c_M_joined 36 = .ok (.iload_n 2, 1) := by decide +kernel
theorem d_M_joined_37 : decode c_M_joined 37 = .ok (.if_icmp .ne 15, 3) := by decide +kernel
theorem d_M_joined_40 : decode c_M_joined 40 = .ok (.aload_n 0, 1) := by decide +kernel
theorem d_M_joined_41 : decode c_M_joined 41 = .ok (.getfield 23, 3) := by decide +kernel
theorem d_M_joined_44 : decode c_M_joined 44 = .ok (.iload_n 3, 1) := by decide +kernel
theorem d_M_joined_45 : decode c_M_joined 45 = .ok (.iaload, 1) := by decide +kernel
theorem d_M_joined_46 : decode c_M_joined 46 = .ok (.iload_n 1, 1) := by decide +kernel
theorem d_M_joined_47 : decode c_M_joined 47 = .ok (.if_icmp .ne 5, 3) := by decide +kernel
theorem d_M_joined_50 : decode c_M_joined 50 = .ok (.iconst 1, 1) := by decide +kernel
theorem d_M_joined_51 : decode c_M_joined 51 = .ok (.ireturn, 1) := by decide +kernel
theorem d_M_joined_52 : decode c_M_joined 52 = .ok (.iinc 3 1, 3) := by decide +kernel
theorem d_M_joined_55 : decode c_M_joined 55 = .ok (.goto (-53), 3) := by decide +kernel
theorem d_M_joined_58 : decode c_M_joined 58 = .ok (.iconst 0, 1) := by decide +kernel
theorem d_M_joined_59 : decode c_M_joined 59 = .ok (.ireturn, 1) := by decide +kernel
theorem d_M_neighbours_0 : decode c_M_neighbours 0 = .ok (.iconst 0, 1) := by decide +kernel
theorem d_M_neighbours_1 : decode c_M_neighbours 1 = .ok (.istore_n 2, 1) := by decide +kernel
theorem d_M_neighbours_2 : decode c_M_neighbours 2 = .ok (.iconst 0, 1) := by decide +kernel
theorem d_M_neighbours_3 : decode c_M_neighbours 3 = .ok (.istore_n 3, 1) := by decide +kernel
theorem d_M_neighbours_4 : decode c_M_neighbours 4 = .ok (.iload_n 3, 1) := by decide +kernel
theorem d_M_neighbours_5 : decode c_M_neighbours 5 = .ok (.iconst 5, 1) := by decide +kernel
theorem d_M_neighbours_6 : decode c_M_neighbours 6 = .ok (.if_icmp .ge 21, 3) := by decide +kernel
theorem d_M_neighbours_9 : decode c_M_neighbours 9 = .ok (.aload_n 0, 1) := by decide +kernel
theorem d_M_neighbours_10 : decode c_M_neighbours 10 = .ok (.iload_n 1, 1) := by decide +kernel
theorem d_M_neighbours_11 : decode c_M_neighbours 11 = .ok (.iload_n 3, 1) := by decide +kernel
theorem d_M_neighbours_12 : decode c_M_neighbours 12 = .ok (.invokevirtual 73, 3) := by decide +kernel
theorem d_M_neighbours_15 : decode c_M_neighbours 15 = .ok (.ifCond .eq 6, 3) := by decide +kernel
theorem d_M_neighbours_18 : decode c_M_neighbours 18 = .ok (.iinc 2 1, 3) := by decide +kernel
theorem d_M_neighbours_21 : decode c_M_neighbours 21 = .ok (.iinc 3 1, 3) := by decide +kernel
theorem d_M_neighbours_24 : decode c_M_neighbours 24 = .ok (.goto (-20), 3) := by decide +kernel
theorem d_M_neighbours_27 : decode c_M_neighbours 27 = .ok (.iload_n 2, 1) := by decide +kernel
theorem d_M_neighbours_28 : decode c_M_neighbours 28 = .ok (.ireturn, 1) := by decide +kernel
theorem d_M_append_0 : decode c_M_append 0 = .ok (.aload_n 0, 1) := by decide +kernel
theorem d_M_append_1 : decode c_M_append 1 = .ok (.getfield 41, 3) := by decide +kernel
theorem d_M_append_4 : decode c_M_append 4 = .ok (.aload_n 0, 1) := by decide +kernel
theorem d_M_append_5 : decode c_M_append 5 = .ok (.getfield 76, 3) := by decide +kernel
theorem d_M_append_8 : decode c_M_append 8 = .ok (.iload_n 1, 1) := by decide +kernel
theorem d_M_append_9 : decode c_M_append 9 = .ok (.iastore, 1) := by decide +kernel
theorem d_M_append_10 : decode c_M_append 10 = .ok (.aload_n 0, 1) := by decide +kernel
theorem d_M_append_11 : decode c_M_append 11 = .ok (.dup, 1) := by decide +kernel
theorem d_M_append_12 : decode c_M_append 12 = .ok (.getfield 76, 3) := by decide +kernel
theorem d_M_append_15 : decode c_M_append 15 = .ok (.iconst 1, 1) := by decide +kernel
theorem d_M_append_16 : decode c_M_append 16 = .ok (.iadd, 1) := by decide +kernel
theorem d_M_append_17 : decode c_M_append 17 = .ok (.putfield 76, 3) := by decide +kernel
theorem d_M_append_20 : decode c_M_append 20 = .ok (.return_, 1) := by decide +kernel
theorem d_M_good_0 : decode c_M_good 0 = .ok (.aload_n 0, 1) := by decide +kernel
theorem d_M_good_1 : decode c_M_good 1 = .ok (.getfield 7, 3) := by decide +kernel
theorem d_M_good_4 : decode c_M_good 4 = .ok (.aload_n 0, 1) := by decide +kernel
theorem d_M_good_5 : decode c_M_good 5 = .ok (.getfield 20, 3) := by decide +kernel
theorem d_M_good_8 : decode c_M_good 8 = .ok (.iload_n 1, 1) := by decide +kernel
theorem d_M_good_9 : decode c_M_good 9 = .ok (.iaload, 1) := by decide +kernel
theorem d_M_good_10 : decode c_M_good 10 = .ok (.baload, 1) := by decide +kernel
theorem d_M_good_11 : decode c_M_good 11 = .ok (.ifCond .eq 17, 3) := by decide +kernel
theorem d_M_good_14 : decode c_M_good 14 = .ok (.aload_n 0, 1) := by decide +kernel
theorem d_M_good_15 : decode c_M_good 15 = .ok (.getfield 7, 3) := by decide +kernel
theorem d_M_good_18 : decode c_M_good 18 = .ok (.aload_n 0, 1) := by decide +kernel
theorem d_M_good_19 : decode c_M_good 19 = .ok (.getfield 23, 3) := by decide +kernel
theorem d_M_good_22 : decode c_M_good 22 = .ok (.iload_n 1, 1) := by decide +kernel
theorem d_M_good_23 : decode c_M_good 23 = .ok (.iaload, 1) := by decide +kernel
theorem d_M_good_24 : decode c_M_good 24 = .ok (.baload, 1) := by decide +kernel
theorem d_M_good_25 : decode c_M_good 25 = .ok (.ifCond .ne 5, 3) := by decide +kernel
theorem d_M_good_28 : decode c_M_good 28 = .ok (.iconst 0, 1) := by decide +kernel
theorem d_M_good_29 : decode c_M_good 29 = .ok (.ireturn, 1) := by decide +kernel
theorem d_M_good_30 : decode c_M_good 30 = .ok (.aload_n 0, 1) := by decide +kernel
theorem d_M_good_31 : decode c_M_good 31 = .ok (.getfield 13, 3) := by decide +kernel
theorem d_M_good_34 : decode c_M_good 34 = .ok (.aload_n 0, 1) := by decide +kernel
theorem d_M_good_35 : decode c_M_good 35 = .ok (.getfield 23, 3) := by decide +kernel
theorem d_M_good_38 : decode c_M_good 38 = .ok (.iload_n 1, 1) := by decide +kernel
theorem d_M_good_39 : decode c_M_good 39 = .ok (.iaload, 1) := by decide +kernel
theorem d_M_good_40 : decode c_M_good 40 = .ok (.iaload, 1) := by decide +kernel
theorem d_M_good_41 : decode c_M_good 41 = .ok (.aload_n 0, 1) := by decide +kernel
theorem d_M_good_42 : decode c_M_good 42 = .ok (.getfield 13, 3) := by decide +kernel
theorem d_M_good_45 : decode c_M_good 45 = .ok (.aload_n 0, 1) := by decide +kernel
theorem d_M_good_46 : decode c_M_good 46 = .ok (.getfield 20, 3) := by decide +kernel
theorem d_M_good_49 : decode c_M_good 49 = .ok (.iload_n 1, 1) := by decide +kernel
theorem d_M_good_50 : decode c_M_good 50 = .ok (.iaload, 1) := by decide +kernel
theorem d_M_good_51 : decode c_M_good 51 = .ok (.iaload, 1) := by decide +kernel
theorem d_M_good_52 : decode c_M_good 52 = .ok (.isub, 1) := by decide +kernel
theorem d_M_good_53 : decode c_M_good 53 = .ok (.istore_n 2, 1) := by decide +kernel
theorem d_M_good_54 : decode c_M_good 54 = .ok (.aload_n 0, 1) := by decide +kernel
theorem d_M_good_55 : decode c_M_good 55 = .ok (.getfield 17, 3) := by decide +kernel
theorem d_M_good_58 : decode c_M_good 58 = .ok (.aload_n 0, 1) := by decide +kernel
theorem d_M_good_59 : decode c_M_good 59 = .ok (.getfield 23, 3) := by decide +kernel
theorem d_M_good_62 : decode c_M_good 62 = .ok (.iload_n 1, 1) := by decide +kernel
theorem d_M_good_63 : decode c_M_good 63 = .ok (.iaload, 1) := by decide +kernel
theorem d_M_good_64 : decode c_M_good 64 = .ok (.iaload, 1) := by decide +kernel
theorem d_M_good_65 : decode c_M_good 65 = .ok (.aload_n 0, 1) := by decide +kernel
theorem d_M_good_66 : decode c_M_good 66 = .ok (.getfield 17, 3) := by decide +kernel
theorem d_M_good_69 : decode c_M_good 69 = .ok (.aload_n 0, 1) := by decide +kernel
theorem d_M_good_70 : decode c_M_good 70 = .ok (.getfield 20, 3) := by decide +kernel
theorem d_M_good_73 : decode c_M_good 73 = .ok (.iload_n 1, 1) := by decide +kernel
theorem d_M_good_74 : decode c_M_good 74 = .ok (.iaload, 1) := by decide +kernel
theorem d_M_good_75 : decode c_M_good 75 = .ok (.iaload, 1) := by decide +kernel
theorem d_M_good_76 : decode c_M_good 76 = .ok (.isub, 1) := by decide +kernel
theorem d_M_good_77 : decode c_M_good 77 = .ok (.istore_n 3, 1) := by decide +kernel
theorem d_M_good_78 : decode c_M_good 78 = .ok (.iload_n 2, 1) := by decide +kernel
theorem d_M_good_79 : decode c_M_good 79 = .ok (.ifCond .eq 18, 3) := by decide +kernel
theorem d_M_good_82 : decode c_M_good 82 = .ok (.iload_n 3, 1) := by decide +kernel
theorem d_M_good_83 : decode c_M_good 83 = .ok (.ifCond .eq 14, 3) := by decide +kernel
theorem d_M_good_86 : decode c_M_good 86 = .ok (.iload_n 2, 1) := by decide +kernel
theorem d_M_good_87 : decode c_M_good 87 = .ok (.iload_n 3, 1) := by decide +kernel
theorem d_M_good_88 : decode c_M_good 88 = .ok (.if_icmp .eq 9, 3) := by decide +kernel
theorem d_M_good_91 : decode c_M_good 91 = .ok (.iload_n 2, 1) := by decide +kernel
theorem d_M_good_92 : decode c_M_good 92 = .ok (.iload_n 3, 1) := by decide +kernel
theorem d_M_good_93 : decode c_M_good 93 = .ok (.ineg, 1) := by decide +kernel
theorem d_M_good_94 : decode c_M_good 94 = .ok (.if_icmp .ne 7, 3) := by decide +kernel
theorem d_M_good_97 : decode c_M_good 97 = .ok (.iconst 1, 1) := by decide +kernel
theorem d_M_good_98 : decode c_M_good 98 = .ok (.goto 4, 3) := by decide +kernel
theorem d_M_good_101 : decode c_M_good 101 = .ok (.iconst 0, 1) := by decide +kernel
theorem d_M_good_102 : decode c_M_good 102 = .ok (.ireturn, 1) := by decide +kernel
theorem d_M_makeMatrix_0 : decode c_M_makeMatrix 0 = .ok (.iconst 0, 1) := by decide +kernel
theorem d_M_makeMatrix_1 : decode c_M_makeMatrix 1 = .ok (.istore_n 1, 1) := by decide +kernel
theorem d_M_makeMatrix_2 : decode c_M_makeMatrix 2 = .ok (.iload_n 1, 1) := by decide +kernel
theorem d_M_makeMatrix_3 : decode c_M_makeMatrix 3 = .ok (.bipush 100, 2) := by decide +kernel
theorem d_M_makeMatrix_5 : decode c_M_makeMatrix 5 = .ok (.if_icmp .ge 39, 3) := by decide +kernel
theorem d_M_makeMatrix_8 : decode c_M_makeMatrix 8 = .ok (.aload_n 0, 1) := by decide +kernel
theorem d_M_makeMatrix_9 : decode c_M_makeMatrix 9 = .ok (.getfield 47, 3) := by decide +kernel
theorem d_M_makeMatrix_12 : decode c_M_makeMatrix 12 = .ok (.iload_n 1, 1) := by decide +kernel
theorem d_M_makeMatrix_13 : decode c_M_makeMatrix 13 = .ok (.iload_n 1, 1) := by decide +kernel
theorem d_M_makeMatrix_14 : decode c_M_makeMatrix 14 = .ok (.bipush 10, 2) := by decide +kernel
theorem d_M_makeMatrix_16 : decode c_M_makeMatrix 16 = .ok (.idiv, 1) := by decide +kernel
theorem d_M_makeMatrix_17 : decode c_M_makeMatrix 17 = .ok (.iload_n 1, 1) := by decide +kernel
theorem d_M_makeMatrix_18 : decode c_M_makeMatrix 18 = .ok (.bipush 10, 2) := by decide +kernel
theorem d_M_makeMatrix_20 : decode c_M_makeMatrix 20 = .ok (.irem, 1) := by decide +kernel
theorem d_M_makeMatrix_21 : decode c_M_makeMatrix 21 = .ok (.if_icmp .ne 15, 3) := by decide +kernel
theorem d_M_makeMatrix_24 : decode c_M_makeMatrix 24 = .ok (.aload_n 0, 1) := by decide +kernel
theorem d_M_makeMatrix_25 : decode c_M_makeMatrix 25 = .ok (.getfield 35, 3) := by decide +kernel
theorem d_M_makeMatrix_28 : decode c_M_makeMatrix 28 = .ok (.iload_n 1, 1) := by decide +kernel
theorem d_M_makeMatrix_29 : decode c_M_makeMatrix 29 = .ok (.bipush 10, 2) := by decide +kernel
theorem d_M_makeMatrix_31 : decode c_M_makeMatrix 31 = .ok (.idiv, 1) := by decide +kernel
theorem d_M_makeMatrix_32 : decode c_M_makeMatrix 32 = .ok (.iaload, 1) := by decide +kernel
theorem d_M_makeMatrix_33 : decode c_M_makeMatrix 33 = .ok (.goto 4, 3) := by decide +kernel
theorem d_M_makeMatrix_36 : decode c_M_makeMatrix 36 = .ok (.iconst 0, 1) := by decide +kernel
theorem d_M_makeMatrix_37 : decode c_M_makeMatrix 37 = .ok (.iastore, 1) := by decide +kernel
theorem d_M_makeMatrix_38 : decode c_M_makeMatrix 38 = .ok (.iinc 1 1, 3) := by decide +kernel
theorem d_M_makeMatrix_41 : decode c_M_makeMatrix 41 = .ok (.goto (-39), 3) := by decide +kernel
theorem d_M_makeMatrix_44 : decode c_M_makeMatrix 44 = .ok (.iconst 0, 1) := by decide +kernel
theorem d_M_makeMatrix_45 : decode c_M_makeMatrix 45 = .ok (.istore_n 1, 1) := by decide +kernel
theorem d_M_makeMatrix_46 : decode c_M_makeMatrix 46 = .ok (.iload_n 1, 1) := by decide +kernel
theorem d_M_makeMatrix_47 : decode c_M_makeMatrix 47 = .ok (.aload_n 0, 1) := by decide +kernel
theorem d_M_makeMatrix_48 : decode c_M_makeMatrix 48 = .ok (.getfield 65, 3) := by decide +kernel
theorem d_M_makeMatrix_51 : decode c_M_makeMatrix 51 = .ok (.if_icmp .ge 147, 3) := by decide +kernel
theorem d_M_makeMatrix_54 : decode c_M_makeMatrix 54 = .ok (.iconst 0, 1) := by decide +kernel
theorem d_M_makeMatrix_55 : decode c_M_makeMatrix 55 = .ok (.istore_n 2, 1) := by decide +kernel
theorem d_M_makeMatrix_56 : decode c_M_makeMatrix 56 = .ok (.iload_n 2, 1) := by decide +kernel
theorem d_M_makeMatrix_57 : decode c_M_makeMatrix 57 = .ok (.bipush 16, 2) := by decide +kernel
theorem d_M_makeMatrix_59 : decode c_M_makeMatrix 59 = .ok (.if_icmp .ge 133, 3) := by decide +kernel
theorem d_M_makeMatrix_62 : decode c_M_makeMatrix 62 = .ok (.iload_n 2, 1) := by decide +kernel
theorem d_M_makeMatrix_63 : decode c_M_makeMatrix 63 = .ok (.bipush 8, 2) := by decide +kernel
theorem d_M_makeMatrix_65 : decode c_M_makeMatrix 65 = .ok (.if_icmp .ge 12, 3) := by decide +kernel
theorem d_M_makeMatrix_68 : decode c_M_makeMatrix 68 = .ok (.aload_n 0, 1) := by decide +kernel
theorem d_M_makeMatrix_69 : decode c_M_makeMatrix 69 = .ok (.getfield 20, 3) := by decide +kernel
theorem d_M_makeMatrix_72 : decode c_M_makeMatrix 72 = .ok (.iload_n 1, 1) := by decide +kernel
theorem d_M_makeMatrix_73 : decode c_M_makeMatrix 73 = .ok (.iaload, 1) := by decide +kernel
theorem d_M_makeMatrix_74 : decode c_M_makeMatrix 74 = .ok (.goto 9, 3) := by decide +kernel
theorem d_M_makeMatrix_77 : decode c_M_makeMatrix 77 = .ok (.aload_n 0, 1) := by decide +kernel
theorem d_M_makeMatrix_78 : decode c_M_makeMatrix 78 = .ok (.getfield 23, 3) := by decide +kernel
theorem d_M_makeMatrix_81 : decode c_M_makeMatrix 81 = .ok (.iload_n 1, 1) := by decide +kernel
theorem d_M_makeMatrix_82 : decode c_M_makeMatrix 82 = .ok (.iaload, 1) := by decide +kernel
theorem d_M_makeMatrix_83 : decode c_M_makeMatrix 83 = .ok (.iconst 2, 1) := by decide +kernel
theorem d_M_makeMatrix_84 : decode c_M_makeMatrix 84 = .ok (.imul, 1) := by decide +kernel
theorem d_M_makeMatrix_85 : decode c_M_makeMatrix 85 = .ok (.iload_n 2, 1) := by decide +kernel
theorem d_M_makeMatrix_86 : decode c_M_makeMatrix 86 = .ok (.iconst 2, 1) := by decide +kernel
theorem d_M_makeMatrix_87 : decode c_M_makeMatrix 87 = .ok (.irem, 1) := by decide +kernel
theorem d_M_makeMatrix_88 : decode c_M_makeMatrix 88 = .ok (.iadd, 1) := by decide +kernel
theorem d_M_makeMatrix_89 : decode c_M_makeMatrix 89 = .ok (.istore_n 3, 1) := by decide +kernel
theorem d_M_makeMatrix_90 : decode c_M_makeMatrix 90 = .ok (.iload_n 2, 1) := by decide +kernel
theorem d_M_makeMatrix_91 : decode c_M_makeMatrix 91 = .ok (.iconst 4, 1) := by decide +kernel
theorem d_M_makeMatrix_92 : decode c_M_makeMatrix 92 = .ok (.idiv, 1) := by decide +kernel
theorem d_M_makeMatrix_93 : decode c_M_makeMatrix 93 = .ok (.iconst 2, 1) := by decide +kernel
theorem d_M_makeMatrix_94 : decode c_M_makeMatrix 94 = .ok (.irem, 1) := by decide +kernel
theorem d_M_makeMatrix_95 : decode c_M_makeMatrix 95 = .ok (.ifCond .ne 12, 3) := by decide +kernel
theorem d_M_makeMatrix_98 : decode c_M_makeMatrix 98 = .ok (.aload_n 0, 1) := by decide +kernel
theorem d_M_makeMatrix_99 : decode c_M_makeMatrix 99 = .ok (.getfield 20, 3) := by decide +kernel
theorem d_M_makeMatrix_102 : decode c_M_makeMatrix 102 = .ok (.iload_n 1, 1) := by decide +kernel
theorem d_M_makeMatrix_103 : decode c_M_makeMatrix 103 = .ok (.iaload, 1) := by decide +kernel
theorem d_M_makeMatrix_104 : decode c_M_makeMatrix 104 = .ok (.goto 9, 3) := by decide +kernel
theorem d_M_makeMatrix_107 : decode c_M_makeMatrix 107 = .ok (.aload_n 0, 1) := by decide +kernel
theorem d_M_makeMatrix_108 : decode c_M_makeMatrix 108 = .ok (.getfield 23, 3) := by decide +kernel
theorem d_M_makeMatrix_111 : decode c_M_makeMatrix 111 = .ok (.iload_n 1, 1) := by decide +kernel
theorem d_M_makeMatrix_112 : decode c_M_makeMatrix 112 = .ok (.iaload, 1) := by decide +kernel
theorem d_M_makeMatrix_113 : decode c_M_makeMatrix 113 = .ok (.iconst 2, 1) := by decide +kernel
theorem d_M_makeMatrix_114 : decode c_M_makeMatrix 114 = .ok (.imul, 1) := by decide +kernel
theorem d_M_makeMatrix_115 : decode c_M_makeMatrix 115 = .ok (.iload_n 2, 1) := by decide +kernel
theorem d_M_makeMatrix_116 : decode c_M_makeMatrix 116 = .ok (.iconst 2, 1) := by decide +kernel
theorem d_M_makeMatrix_117 : decode c_M_makeMatrix 117 = .ok (.idiv, 1) := by decide +kernel
theorem d_M_makeMatrix_118 : decode c_M_makeMatrix 118 = .ok (.iconst 2, 1) := by decide +kernel
theorem d_M_makeMatrix_119 : decode c_M_makeMatrix 119 = .ok (.irem, 1) := by decide +kernel
theorem d_M_makeMatrix_120 : decode c_M_makeMatrix 120 = .ok (.iadd, 1) := by decide +kernel
theorem d_M_makeMatrix_121 : decode c_M_makeMatrix 121 = .ok (.istore 4, 2) := by decide +kernel
theorem d_M_makeMatrix_123 : decode c_M_makeMatrix 123 = .ok (.aload_n 0, 1) := by decide +kernel
theorem d_M_makeMatrix_124 : decode c_M_makeMatrix 124 = .ok (.getfield 26, 3) := by decide +kernel
theorem d_M_makeMatrix_127 : decode c_M_makeMatrix 127 = .ok (.iload_n 1, 1) := by decide +kernel
theorem d_M_makeMatrix_128 : decode c_M_makeMatrix 128 = .ok (.iaload, 1) := by decide +kernel
theorem d_M_makeMatrix_129 : decode c_M_makeMatrix 129 = .ok (.aload_n 0, 1) := by decide +kernel
theorem d_M_makeMatrix_130 : decode c_M_makeMatrix 130 = .ok (.iload_n 1, 1) := by decide +kernel
theorem d_M_makeMatrix_131 : decode c_M_makeMatrix 131 = .ok (.iload_n 2, 1) := by decide +kernel
theorem d_M_makeMatrix_132 : decode c_M_makeMatrix 132 = .ok (.iconst 2, 1) := by decide +kernel
theorem d_M_makeMatrix_133 : decode c_M_makeMatrix 133 = .ok (.irem, 1) := by decide +kernel
theorem d_M_makeMatrix_134 : decode c_M_makeMatrix 134 = .ok (.invokevirtual 96, 3) := by decide +kernel
theorem d_M_makeMatrix_137 : decode c_M_makeMatrix 137 = .ok (.imul, 1) := by decide +kernel
theorem d_M_makeMatrix_138 : decode c_M_makeMatrix 138 = .ok (.aload_n 0, 1) := by decide +kernel
theorem d_M_makeMatrix_139 : decode c_M_makeMatrix 139 = .ok (.iload_n 1, 1) := by decide +kernel
theorem d_M_makeMatrix_140 : decode c_M_makeMatrix 140 = .ok (.iload_n 2, 1) := by decide +kernel
theorem d_M_makeMatrix_141 : decode c_M_makeMatrix 141 = .ok (.iconst 2, 1) := by decide +kernel
theorem d_M_makeMatrix_142 : decode c_M_makeMatrix 142 = .ok (.idiv, 1) := by decide +kernel
theorem d_M_makeMatrix_143 : decode c_M_makeMatrix 143 = .ok (.iconst 2, 1) := by decide +kernel
theorem d_M_makeMatrix_144 : decode c_M_makeMatrix 144 = .ok (.irem, 1) := by decide +kernel
theorem d_M_makeMatrix_145 : decode c_M_makeMatrix 145 = .ok (.invokevirtual 96, 3) := by decide +kernel
theorem d_M_makeMatrix_148 : decode c_M_makeMatrix 148 = .ok (.imul, 1) := by decide +kernel
theorem d_M_makeMatrix_149 : decode c_M_makeMatrix 149 = .ok (.istore 5, 2) := by decide +kernel
theorem d_M_makeMatrix_151 : decode c_M_makeMatrix 151 = .ok (.aload_n 0, 1) := by decide +kernel
theorem d_M_makeMatrix_152 : decode c_M_makeMatrix 152 = .ok (.getfield 47, 3) := by decide +kernel
theorem d_M_makeMatrix_155 : decode c_M_makeMatrix 155 = .ok (.iload_n 3, 1) := by decide +kernel
theorem d_M_makeMatrix_156 : decode c_M_makeMatrix 156 = .ok (.bipush 10, 2) := by decide +kernel
theorem d_M_makeMatrix_158 : decode c_M_makeMatrix 158 = .ok (.imul, 1) := by decide +kernel
theorem d_M_makeMatrix_159 : decode c_M_makeMatrix 159 = .ok (.iload 4, 2) := by decide +kernel
theorem d_M_makeMatrix_161 : decode c_M_makeMatrix 161 = .ok (.iadd, 1) := by decide +kernel
theorem d_M_makeMatrix_162 : decode c_M_makeMatrix 162 = .ok (.dup2, 1) := by decide +kernel
theorem d_M_makeMatrix_163 : decode c_M_makeMatrix 163 = .ok (.iaload, 1) := by decide +kernel
theorem d_M_makeMatrix_164 : decode c_M_makeMatrix 164 = .ok (.iload_n 2, 1) := by decide +kernel
theorem d_M_makeMatrix_165 : decode c_M_makeMatrix 165 = .ok (.bipush 8, 2) := by decide +kernel
theorem d_M_makeMatrix_167 : decode c_M_makeMatrix 167 = .ok (.idiv, 1) := by decide +kernel
theorem d_M_makeMatrix_168 : decode c_M_makeMatrix 168 = .ok (.iload_n 2, 1) := by decide +kernel
theorem d_M_makeMatrix_169 : decode c_M_makeMatrix 169 = .ok (.iconst 4, 1) := by decide +kernel
theorem d_M_makeMatrix_170 : decode c_M_makeMatrix 170 = .ok (.idiv, 1) := by decide +kernel
theorem d_M_makeMatrix_171 : decode c_M_makeMatrix 171 = .ok (.iconst 2, 1) := by decide +kernel
theorem d_M_makeMatrix_172 : decode c_M_makeMatrix 172 = .ok (.irem, 1) := by decide +kernel
theorem d_M_makeMatrix_173 : decode c_M_makeMatrix 173 = .ok (.if_icmp .ne 8, 3) := by decide +kernel
theorem d_M_makeMatrix_176 : decode c_M_makeMatrix 176 = .ok (.iload 5, 2) := by decide +kernel
theorem d_M_makeMatrix_178 : decode c_M_makeMatrix 178 = .ok (.goto 6, 3) := by decide +kernel
theorem d_M_makeMatrix_181 : decode c_M_makeMatrix 181 = .ok (.iload 5, 2) := by decide +kernel
theorem d_M_makeMatrix_183 : decode c_M_makeMatrix 183 = .ok (.ineg, 1) := by decide +kernel
theorem d_M_makeMatrix_184 : decode c_M_makeMatrix 184 = .ok (.iadd, 1) := by decide +kernel
theorem d_M_makeMatrix_185 : decode c_M_makeMatrix 185 = .ok (.iastore, 1) := by decide +kernel
theorem d_M_makeMatrix_186 : decode c_M_makeMatrix 186 = .ok (.iinc 2 1, 3) := by decide +kernel
theorem d_M_makeMatrix_189 : decode c_M_makeMatrix 189 = .ok (.goto (-133), 3) := by decide +kernel
theorem d_M_makeMatrix_192 : decode c_M_makeMatrix 192 = .ok (.iinc 1 1, 3) := by decide +kernel
theorem d_M_makeMatrix_195 : decode c_M_makeMatrix 195 = .ok (.goto (-149), 3) := by decide +kernel
theorem d_M_makeMatrix_198 : decode c_M_makeMatrix 198 = .ok (.return_, 1) := by decide +kernel
theorem d_M_way_0 : decode c_M_way 0 = .ok (.aload_n 0, 1) := by decide +kernel
theorem d_M_way_1 : decode c_M_way 1 = .ok (.getfield 13, 3) := by decide +kernel
theorem d_M_way_4 : decode c_M_way 4 = .ok (.aload_n 0, 1) := by decide +kernel
theorem d_M_way_5 : decode c_M_way 5 = .ok (.getfield 23, 3) := by decide +kernel
theorem d_M_way_8 : decode c_M_way 8 = .ok (.iload_n 1, 1) := by decide +kernel
theorem d_M_way_9 : decode c_M_way 9 = .ok (.iaload, 1) := by decide +kernel
theorem d_M_way_10 : decode c_M_way 10 = .ok (.iaload, 1) := by decide +kernel
theorem d_M_way_11 : decode c_M_way 11 = .ok (.aload_n 0, 1) := by decide +kernel
theorem d_M_way_12 : decode c_M_way 12 = .ok (.getfield 13, 3) := by decide +kernel
theorem d_M_way_15 : decode c_M_way 15 = .ok (.aload_n 0, 1) := by decide +kernel
theorem d_M_way_16 : decode c_M_way 16 = .ok (.getfield 20, 3) := by decide +kernel
theorem d_M_way_19 : decode c_M_way 19 = .ok (.iload_n 1, 1) := by decide +kernel
theorem d_M_way_20 : decode c_M_way 20 = .ok (.iaload, 1) := by decide +kernel
theorem d_M_way_21 : decode c_M_way 21 = .ok (.iaload, 1) := by decide +kernel
theorem d_M_way_22 : decode c_M_way 22 = .ok (.isub, 1) := by decide +kernel
theorem d_M_way_23 : decode c_M_way 23 = .ok (.istore_n 3, 1) := by decide +kernel
theorem d_M_way_24 : decode c_M_way 24 = .ok (.aload_n 0, 1) := by decide +kernel
theorem d_M_way_25 : decode c_M_way 25 = .ok (.getfield 17, 3) := by decide +kernel
theorem d_M_way_28 : decode c_M_way 28 = .ok (.aload_n 0, 1) := by decide +kernel
theorem d_M_way_29 : decode c_M_way 29 = .ok (.getfield 23, 3) := by decide +kernel
theorem d_M_way_32 : decode c_M_way 32 = .ok (.iload_n 1, 1) := by decide +kernel
theorem d_M_way_33 : decode c_M_way 33 = .ok (.iaload, 1) := by decide +kernel
theorem d_M_way_34 : decode c_M_way 34 = .ok (.iaload, 1) := by decide +kernel
theorem d_M_way_35 : decode c_M_way 35 = .ok (.aload_n 0, 1) := by decide +kernel
theorem d_M_way_36 : decode c_M_way 36 = .ok (.getfield 17, 3) := by decide +kernel
theorem d_M_way_39 : decode c_M_way 39 = .ok (.aload_n 0, 1) := by decide +kernel
theorem d_M_way_40 : decode c_M_way 40 = .ok (.getfield 20, 3) := by decide +kernel
theorem d_M_way_43 : decode c_M_way 43 = .ok (.iload_n 1, 1) := by decide +kernel
theorem d_M_way_44 : decode c_M_way 44 = .ok (.iaload, 1) := by decide +kernel
theorem d_M_way_45 : decode c_M_way 45 = .ok (.iaload, 1) := by decide +kernel
theorem d_M_way_46 : decode c_M_way 46 = .ok (.isub, 1) := by decide +kernel
theorem d_M_way_47 : decode c_M_way 47 = .ok (.istore 4, 2) := by decide +kernel
theorem d_M_way_49 : decode c_M_way 49 = .ok (.iload_n 2, 1) := by decide +kernel
theorem d_M_way_50 : decode c_M_way 50 = .ok (.ifCond .ne 11, 3) := by decide +kernel
theorem d_M_way_53 : decode c_M_way 53 = .ok (.aload_n 0, 1) := by decide +kernel
theorem d_M_way_54 : decode c_M_way 54 = .ok (.iload_n 3, 1) := by decide +kernel
theorem d_M_way_55 : decode c_M_way 55 = .ok (.invokevirtual 69, 3) := by decide +kernel
theorem d_M_way_58 : decode c_M_way 58 = .ok (.goto 9, 3) := by decide +kernel
theorem d_M_way_61 : decode c_M_way 61 = .ok (.aload_n 0, 1) := by decide +kernel
theorem d_M_way_62 : decode c_M_way 62 = .ok (.iload 4, 2) := by decide +kernel
theorem d_M_way_64 : decode c_M_way 64 = .ok (.invokevirtual 69, 3) := by decide +kernel
theorem d_M_way_67 : decode c_M_way 67 = .ok (.ireturn, 1) := by decide +kernel
theorem d_M_sign_0 : decode c_M_sign 0 = .ok (.iload_n 1, 1) := by decide +kernel
theorem d_M_sign_1 : decode c_M_sign 1 = .ok (.ifCond .ge 7, 3) := by decide +kernel
theorem d_M_sign_4 : decode c_M_sign 4 = .ok (.iconst (-1), 1) := by decide +kernel
theorem d_M_sign_5 : decode c_M_sign 5 = .ok (.goto 12, 3) := by decide +kernel
theorem d_M_sign_8 : decode c_M_sign 8 = .ok (.iload_n 1, 1) := by decide +kernel
theorem d_M_sign_9 : decode c_M_sign 9 = .ok (.ifCond .le 7, 3) := by decide +kernel
theorem d_M_sign_12 : decode c_M_sign 12 = .ok (.iconst 1, 1) := by decide +kernel
theorem d_M_sign_13 : decode c_M_sign 13 = .ok (.goto 4, 3) := by decide +kernel
theorem d_M_sign_16 : decode c_M_sign 16 = .ok (.iconst 0, 1) := by decide +kernel
theorem d_M_sign_17 : decode c_M_sign 17 = .ok (.ireturn, 1) := by decide +kernel
theorem d_M_det_0 : decode c_M_det 0 = .ok (.ldc2_w 114, 3) := by decide +kernel
theorem d_M_det_3 : decode c_M_det 3 = .ok (.lstore_n 3, 1) := by decide +kernel
theorem d_M_det_4 : decode c_M_det 4 = .ok (.ldc2_w 116, 3) := by decide +kernel
theorem d_M_det_7 : decode c_M_det 7 = .ok (.lstore 5, 2) := by decide +kernel
theorem d_M_det_9 : decode c_M_det 9 = .ok (.aload_n 0, 1) := by decide +kernel
theorem d_M_det_10 : decode c_M_det 10 = .ok (.iload_n 1, 1) := by decide +kernel
theorem d_M_det_11 : decode c_M_det 11 = .ok (.iload_n 2, 1) := by decide +kernel
theorem d_M_det_12 : decode c_M_det 12 = .ok (.lload_n 3, 1) := by decide +kernel
theorem d_M_det_13 : decode c_M_det 13 = .ok (.invokevirtual 118, 3) := by decide +kernel
theorem d_M_det_16 : decode c_M_det 16 = .ok (.lstore 7, 2) := by decide +kernel
theorem d_M_det_18 : decode c_M_det 18 = .ok (.aload_n 0, 1) := by decide +kernel
theorem d_M_det_19 : decode c_M_det 19 = .ok (.iload_n 1, 1) := by decide +kernel
theorem d_M_det_20 : decode c_M_det 20 = .ok (.iload_n 2, 1) := by decide +kernel
theorem d_M_det_21 : decode c_M_det 21 = .ok (.lload 5, 2) := by decide +kernel
theorem d_M_det_23 : decode c_M_det 23 = .ok (.invokevirtual 118, 3) := by decide +kernel
theorem d_M_det_26 : decode c_M_det 26 = .ok (.lstore 9, 2) := by decide +kernel
theorem d_M_det_28 : decode c_M_det 28 = .ok (.lload 9, 2) := by decide +kernel
theorem d_M_det_30 : decode c_M_det 30 = .ok (.lload 7, 2) := by decide +kernel
theorem d_M_det_32 : decode c_M_det 32 = .ok (.lsub, 1) := by decide +kernel
theorem d_M_det_33 : decode c_M_det 33 = .ok (.lload 5, 2) := by decide +kernel
theorem d_M_det_35 : decode c_M_det 35 = .ok (.lrem, 1) := by decide +kernel
theorem d_M_det_36 : decode c_M_det 36 = .ok (.lload 5, 2) := by decide +kernel
theorem d_M_det_38 : decode c_M_det 38 = .ok (.ladd, 1) := by decide +kernel
theorem d_M_det_39 : decode c_M_det 39 = .ok (.lload 5, 2) := by decide +kernel
theorem d_M_det_41 : decode c_M_det 41 = .ok (.lrem, 1) := by decide +kernel
theorem d_M_det_42 : decode c_M_det 42 = .ok (.aload_n 0, 1) := by decide +kernel
theorem d_M_det_43 : decode c_M_det 43 = .ok (.lload_n 3, 1) := by decide +kernel
theorem d_M_det_44 : decode c_M_det 44 = .ok (.lload 5, 2) := by decide +kernel
theorem d_M_det_46 : decode c_M_det 46 = .ok (.lrem, 1) := by decide +kernel
theorem d_M_det_47 : decode c_M_det 47 = .ok (.lload 5, 2) := by decide +kernel
theorem d_M_det_49 : decode c_M_det 49 = .ok (.ldc2_w 108, 3) := by decide +kernel
theorem d_M_det_52 : decode c_M_det 52 = .ok (.lsub, 1) := by decide +kernel
theorem d_M_det_53 : decode c_M_det 53 = .ok (.lload 5, 2) := by decide +kernel
theorem d_M_det_55 : decode c_M_det 55 = .ok (.invokevirtual 110, 3) := by decide +kernel
theorem d_M_det_58 : decode c_M_det 58 = .ok (.lmul, 1) := by decide +kernel
theorem d_M_det_59 : decode c_M_det 59 = .ok (.lload 5, 2) := by decide +kernel
theorem d_M_det_61 : decode c_M_det 61 = .ok (.lrem, 1) := by decide +kernel
theorem d_M_det_62 : decode c_M_det 62 = .ok (.lstore 11, 2) := by decide +kernel
theorem d_M_det_64 : decode c_M_det 64 = .ok (.lload 7, 2) := by decide +kernel
theorem d_M_det_66 : decode c_M_det 66 = .ok (.lload_n 3, 1) := by decide +kernel
theorem d_M_det_67 : decode c_M_det 67 = .ok (.lload 11, 2) := by decide +kernel
theorem d_M_det_69 : decode c_M_det 69 = .ok (.lmul, 1) := by decide +kernel
theorem d_M_det_70 : decode c_M_det 70 = .ok (.ladd, 1) := by decide +kernel
theorem d_M_det_71 : decode c_M_det 71 = .ok (.lstore 13, 2) := by decide +kernel
theorem d_M_det_73 : decode c_M_det 73 = .ok (.lload 13, 2) := by decide +kernel
theorem d_M_det_75 : decode c_M_det 75 = .ok (.lload_n 3, 1) := by decide +kernel
theorem d_M_det_76 : decode c_M_det 76 = .ok (.lload 5, 2) := by decide +kernel
theorem d_M_det_78 : decode c_M_det 78 = .ok (.lmul, 1) := by decide +kernel
theorem d_M_det_79 : decode c_M_det 79 = .ok (.ldc2_w 108, 3) := by decide +kernel
theorem d_M_det_82 : decode c_M_det 82 = .ok (.ldiv, 1) := by decide +kernel
theorem d_M_det_83 : decode c_M_det 83 = .ok (.lcmp, 1) := by decide +kernel
theorem d_M_det_84 : decode c_M_det 84 = .ok (.ifCond .le 13, 3) := by decide +kernel
theorem d_M_det_87 : decode c_M_det 87 = .ok (.lload 13, 2) := by decide +kernel
theorem d_M_det_89 : decode c_M_det 89 = .ok (.lload_n 3, 1) := by decide +kernel
theorem d_M_det_90 : decode c_M_det 90 = .ok (.lload 5, 2) := by decide +kernel
theorem d_M_det_92 : decode c_M_det 92 = .ok (.lmul, 1) := by decide +kernel
theorem d_M_det_93 : decode c_M_det 93 = .ok (.lsub, 1) := by decide +kernel
theorem d_M_det_94 : decode c_M_det 94 = .ok (.goto 5, 3) := by decide +kernel
theorem d_M_det_97 : decode c_M_det 97 = .ok (.lload 13, 2) := by decide +kernel
theorem d_M_det_99 : decode c_M_det 99 = .ok (.lreturn, 1) := by decide +kernel
theorem d_M_modulo_0 : decode c_M_modulo 0 = .ok (.iconst 0, 1) := by decide +kernel
theorem d_M_modulo_1 : decode c_M_modulo 1 = .ok (.istore 5, 2) := by decide +kernel
theorem d_M_modulo_3 : decode c_M_modulo 3 = .ok (.iload 5, 2) := by decide +kernel
theorem d_M_modulo_5 : decode c_M_modulo 5 = .ok (.iload_n 1, 1) := by decide +kernel
theorem d_M_modulo_6 : decode c_M_modulo 6 = .ok (.iload_n 1, 1) := by decide +kernel
theorem d_M_modulo_7 : decode c_M_modulo 7 = .ok (.imul, 1) := by decide +kernel
theorem d_M_modulo_8 : decode c_M_modulo 8 = .ok (.if_icmp .ge 84, 3) := by decide +kernel
theorem d_M_modulo_11 : decode c_M_modulo 11 = .ok (.iload 5, 2) := by decide +kernel
theorem d_M_modulo_13 : decode c_M_modulo 13 = .ok (.iload_n 1, 1) := by decide +kernel
theorem d_M_modulo_14 : decode c_M_modulo 14 = .ok (.idiv, 1) := by decide +kernel
theorem d_M_modulo_15 : decode c_M_modulo 15 = .ok (.istore 6, 2) := by decide +kernel
theorem d_M_modulo_17 : decode c_M_modulo 17 = .ok (.iload 5, 2) := by decide +kernel
theorem d_M_modulo_19 : decode c_M_modulo 19 = .ok (.iload_n 1, 1) := by decide +kernel
theorem d_M_modulo_20 : decode c_M_modulo 20 = .ok (.irem, 1) := by decide +kernel
theorem d_M_modulo_21 : decode c_M_modulo 21 = .ok (.istore 7, 2) := by decide +kernel
theorem d_M_modulo_23 : decode c_M_modulo 23 = .ok (.iload 7, 2) := by decide +kernel
theorem d_M_modulo_25 : decode c_M_modulo 25 = .ok (.iload_n 2, 1) := by decide +kernel
theorem d_M_modulo_26 : decode c_M_modulo 26 = .ok (.if_icmp .ne 13, 3) := by decide +kernel
theorem d_M_modulo_29 : decode c_M_modulo 29 = .ok (.aload_n 0, 1) := by decide +kernel
theorem d_M_modulo_30 : decode c_M_modulo 30 = .ok (.getfield 50, 3) := by decide +kernel
theorem d_M_modulo_33 : decode c_M_modulo 33 = .ok (.iload 6, 2) := by decide +kernel
theorem d_M_modulo_35 : decode c_M_modulo 35 = .ok (.laload, 1) := by decide +kernel
theorem d_M_modulo_36 : decode c_M_modulo 36 = .ok (.goto 27, 3) := by decide +kernel
theorem d_M_modulo_39 : decode c_M_modulo 39 = .ok (.aload_n 0, 1) := by decide +kernel
theorem d_M_modulo_40 : decode c_M_modulo 40 = .ok (.getfield 47, 3) := by decide +kernel
theorem d_M_modulo_43 : decode c_M_modulo 43 = .ok (.aload_n 0, 1) := by decide +kernel
theorem d_M_modulo_44 : decode c_M_modulo 44 = .ok (.getfield 44, 3) := by decide +kernel
theorem d_M_modulo_47 : decode c_M_modulo 47 = .ok (.iload 6, 2) := by decide +kernel
theorem d_M_modulo_49 : decode c_M_modulo 49 = .ok (.iaload, 1) := by decide +kernel
theorem d_M_modulo_50 : decode c_M_modulo 50 = .ok (.bipush 10, 2) := by decide +kernel
theorem d_M_modulo_52 : decode c_M_modulo 52 = .ok (.imul, 1) := by decide +kernel
theorem d_M_modulo_53 : decode c_M_modulo 53 = .ok (.aload_n 0, 1) := by decide +kernel
theorem d_M_modulo_54 : decode c_M_modulo 54 = .ok (.getfield 44, 3) := by decide +kernel
theorem d_M_modulo_57 : decode c_M_modulo 57 = .ok (.iload 7, 2) := by decide +kernel
theorem d_M_modulo_59 : decode c_M_modulo 59 = .ok (.iaload, 1) := by decide +kernel
theorem d_M_modulo_60 : decode c_M_modulo 60 = .ok (.iadd, 1) := by decide +kernel
theorem d_M_modulo_61 : decode c_M_modulo 61 = .ok (.iaload, 1) := by decide +kernel
theorem d_M_modulo_62 : decode c_M_modulo 62 = .ok (.i2l, 1) := by decide +kernel
theorem d_M_modulo_63 : decode c_M_modulo 63 = .ok (.lstore 8, 2) := by decide +kernel
theorem d_M_modulo_65 : decode c_M_modulo 65 = .ok (.aload_n 0, 1) := by decide +kernel
theorem d_M_modulo_66 : decode c_M_modulo 66 = .ok (.getfield 54, 3) := by decide +kernel
theorem d_M_modulo_69 : decode c_M_modulo 69 = .ok (.iload 6, 2) := by decide +kernel
theorem d_M_modulo_71 : decode c_M_modulo 71 = .ok (.bipush 10, 2) := by decide +kernel
theorem d_M_modulo_73 : decode c_M_modulo 73 = .ok (.imul, 1) := by decide +kernel
theorem d_M_modulo_74 : decode c_M_modulo 74 = .ok (.iload 7, 2) := by decide +kernel
theorem d_M_modulo_76 : decode c_M_modulo 76 = .ok (.iadd, 1) := by decide +kernel
theorem d_M_modulo_77 : decode c_M_modulo 77 = .ok (.lload 8, 2) := by decide +kernel
theorem d_M_modulo_79 : decode c_M_modulo 79 = .ok (.lload_n 3, 1) := by decide +kernel
theorem d_M_modulo_80 : decode c_M_modulo 80 = .ok (.lrem, 1) := by decide +kernel
theorem d_M_modulo_81 : decode c_M_modulo 81 = .ok (.lload_n 3, 1) := by decide +kernel
theorem d_M_modulo_82 : decode c_M_modulo 82 = .ok (.ladd, 1) := by decide +kernel
theorem d_M_modulo_83 : decode c_M_modulo 83 = .ok (.lload_n 3, 1) := by decide +kernel
theorem d_M_modulo_84 : decode c_M_modulo 84 = .ok (.lrem, 1) := by decide +kernel
theorem d_M_modulo_85 : decode c_M_modulo 85 = .ok (.lastore, 1) := by decide +kernel
theorem d_M_modulo_86 : decode c_M_modulo 86 = .ok (.iinc 5 1, 3) := by decide +kernel
theorem d_M_modulo_89 : decode c_M_modulo 89 = .ok (.goto (-86), 3) := by decide +kernel
theorem d_M_modulo_92 : decode c_M_modulo 92 = .ok (.lconst 1, 1) := by decide +kernel
theorem d_M_modulo_93 : decode c_M_modulo 93 = .ok (.lstore 5, 2) := by decide +kernel
theorem d_M_modulo_95 : decode c_M_modulo 95 = .ok (.iconst 0, 1) := by decide +kernel
theorem d_M_modulo_96 : decode c_M_modulo 96 = .ok (.istore 7, 2) := by decide +kernel
theorem d_M_modulo_98 : decode c_M_modulo 98 = .ok (.iload 7, 2) := by decide +kernel
theorem d_M_modulo_100 : decode c_M_modulo 100 = .ok (.iload_n 1, 1) := by decide +kernel
theorem d_M_modulo_101 : decode c_M_modulo 101 = .ok (.if_icmp .ge 100, 3) := by decide +kernel
theorem d_M_modulo_104 : decode c_M_modulo 104 = .ok (.iload 7, 2) := by decide +kernel
theorem d_M_modulo_106 : decode c_M_modulo 106 = .ok (.istore 8, 2) := by decide +kernel
theorem d_M_modulo_108 : decode c_M_modulo 108 = .ok (.iload 8, 2) := by decide +kernel
theorem d_M_modulo_110 : decode c_M_modulo 110 = .ok (.iload_n 1, 1) := by decide +kernel
theorem d_M_modulo_111 : decode c_M_modulo 111 = .ok (.if_icmp .ge 27, 3) := by decide +kernel
theorem d_M_modulo_114 : decode c_M_modulo 114 = .ok (.aload_n 0, 1) := by decide +kernel
theorem d_M_modulo_115 : decode c_M_modulo 115 = .ok (.getfield 54, 3) := by decide +kernel
theorem d_M_modulo_118 : decode c_M_modulo 118 = .ok (.iload 8, 2) := by decide +kernel
theorem d_M_modulo_120 : decode c_M_modulo 120 = .ok (.bipush 10, 2) := by decide +kernel
theorem d_M_modulo_122 : decode c_M_modulo 122 = .ok (.imul, 1) := by decide +kernel
theorem d_M_modulo_123 : decode c_M_modulo 123 = .ok (.iload 7, 2) := by decide +kernel
theorem d_M_modulo_125 : decode c_M_modulo 125 = .ok (.iadd, 1) := by decide +kernel
theorem d_M_modulo_126 : decode c_M_modulo 126 = .ok (.laload, 1) := by decide +kernel
theorem d_M_modulo_127 : decode c_M_modulo 127 = .ok (.lconst 0, 1) := by decide +kernel
theorem d_M_modulo_128 : decode c_M_modulo 128 = .ok (.lcmp, 1) := by decide +kernel
theorem d_M_modulo_129 : decode c_M_modulo 129 = .ok (.ifCond .ne 9, 3) := by decide +kernel
theorem d_M_modulo_132 : decode c_M_modulo 132 = .ok (.iinc 8 1, 3) := by decide +kernel
theorem d_M_modulo_135 : decode c_M_modulo 135 = .ok (.goto (-27), 3) := by decide +kernel
theorem d_M_modulo_138 : decode c_M_modulo 138 = .ok (.iload 8, 2) := by decide +kernel
theorem d_M_modulo_140 : decode c_M_modulo 140 = .ok (.iload_n 1, 1) := by decide +kernel
theorem d_M_modulo_141 : decode c_M_modulo 141 = .ok (.if_icmp .ne 5, 3) := by decide +kernel
theorem d_M_modulo_144 : decode c_M_modulo 144 = .ok (.lconst 0, 1) := by decide +kernel
theorem d_M_modulo_145 : decode c_M_modulo 145 = .ok (.lreturn, 1) := by decide +kernel
theorem d_M_modulo_146 : decode c_M_modulo 146 = .ok (.iload 8, 2) := by decide +kernel
theorem d_M_modulo_148 : decode c_M_modulo 148 = .ok (.iload 7, 2) := by decide +kernel
theorem d_M_modulo_150 : decode c_M_modulo 150 = .ok (.if_icmp .eq 9, 3) := by decide +kernel
theorem d_M_modulo_153 : decode c_M_modulo 153 = .ok (.lload_n 3, 1) := by decide +kernel
theorem d_M_modulo_154 : decode c_M_modulo 154 = .ok (.lload 5, 2) := by decide +kernel
theorem d_M_modulo_156 : decode c_M_modulo 156 = .ok (.lsub, 1) := by decide +kernel
theorem d_M_modulo_157 : decode c_M_modulo 157 = .ok (.lstore 5, 2) := by decide +kernel
theorem d_M_modulo_159 : decode c_M_modulo 159 = .ok (.aload_n 0, 1) := by decide +kernel
theorem d_M_modulo_160 : decode c_M_modulo 160 = .ok (.iload 8, 2) := by decide +kernel
theorem d_M_modulo_162 : decode c_M_modulo 162 = .ok (.iload 7, 2) := by decide +kernel
theorem d_M_modulo_164 : decode c_M_modulo 164 = .ok (.invokevirtual 100, 3) := by decide +kernel
theorem d_M_modulo_167 : decode c_M_modulo 167 = .ok (.lload 5, 2) := by decide +kernel
theorem d_M_modulo_169 : decode c_M_modulo 169 = .ok (.aload_n 0, 1) := by decide +kernel
theorem d_M_modulo_170 : decode c_M_modulo 170 = .ok (.getfield 54, 3) := by decide +kernel
theorem d_M_modulo_173 : decode c_M_modulo 173 = .ok (.iload 7, 2) := by decide +kernel
theorem d_M_modulo_175 : decode c_M_modulo 175 = .ok (.bipush 10, 2) := by decide +kernel
theorem d_M_modulo_177 : decode c_M_modulo 177 = .ok (.imul, 1) := by decide +kernel
theorem d_M_modulo_178 : decode c_M_modulo 178 = .ok (.iload 7, 2) := by decide +kernel
theorem d_M_modulo_180 : decode c_M_modulo 180 = .ok (.iadd, 1) := by decide +kernel
theorem d_M_modulo_181 : decode c_M_modulo 181 = .ok (.laload, 1) := by decide +kernel
theorem d_M_modulo_182 : decode c_M_modulo 182 = .ok (.lmul, 1) := by decide +kernel
theorem d_M_modulo_183 : decode c_M_modulo 183 = .ok (.lload_n 3, 1) := by decide +kernel
theorem d_M_modulo_184 : decode c_M_modulo 184 = .ok (.lrem, 1) := by decide +kernel
theorem d_M_modulo_185 : decode c_M_modulo 185 = .ok (.lstore 5, 2) := by decide +kernel
theorem d_M_modulo_187 : decode c_M_modulo 187 = .ok (.aload_n 0, 1) := by decide +kernel
theorem d_M_modulo_188 : decode c_M_modulo 188 = .ok (.iload 7, 2) := by decide +kernel
theorem d_M_modulo_190 : decode c_M_modulo 190 = .ok (.iload_n 1, 1) := by decide +kernel
theorem d_M_modulo_191 : decode c_M_modulo 191 = .ok (.lload_n 3, 1) := by decide +kernel
theorem d_M_modulo_192 : decode c_M_modulo 192 = .ok (.invokevirtual 104, 3) := by decide +kernel
theorem d_M_modulo_195 : decode c_M_modulo 195 = .ok (.iinc 7 1, 3) := by decide +kernel
theorem d_M_modulo_198 : decode c_M_modulo 198 = .ok (.goto (-100), 3) := by decide +kernel
theorem d_M_modulo_201 : decode c_M_modulo 201 = .ok (.lload 5, 2) := by decide +kernel
theorem d_M_modulo_203 : decode c_M_modulo 203 = .ok (.lload_n 3, 1) := by decide +kernel
theorem d_M_modulo_204 : decode c_M_modulo 204 = .ok (.lrem, 1) := by decide +kernel
theorem d_M_modulo_205 : decode c_M_modulo 205 = .ok (.lreturn, 1) := by decide +kernel
end
section
theorem d_M_exchange_0 : decode c_M_exchange 0 = .ok (.iconst 0, 1) := by decide +kernel
theorem d_M_exchange_1 : decode c_M_exchange 1 = .ok (.istore_n 3, 1) := by decide +kernel
theorem d_M_exchange_2 : decode c_M_exchange 2 = .ok (.iload_n 3, 1) := by decide +kernel
theorem d_M_exchange_3 : decode c_M_exchange 3 = .ok (.bipush 10, 2) := by decide +kernel
theorem d_M_exchange_5 : decode c_M_exchange 5 = .ok (.if_icmp .ge 57, 3) := by decide +kernel
theorem d_M_exchange_8 : decode c_M_exchange 8 = .ok (.aload_n 0, 1) := by decide +kernel
theorem d_M_exchange_9 : decode c_M_exchange 9 = .ok (.getfield 54, 3) := by decide +kernel
theorem d_M_exchange_12 : decode c_M_exchange 12 = .ok (.iload_n 1, 1) := by decide +kernel
theorem d_M_exchange_13 : decode c_M_exchange 13 = .ok (.bipush 10, 2) := by decide +kernel
theorem d_M_exchange_15 : decode c_M_exchange 15 = .ok (.imul, 1) := by decide +kernel
theorem d_M_exchange_16 : decode c_M_exchange 16 = .ok (.iload_n 3, 1) := by decide +kernel
theorem d_M_exchange_17 : decode c_M_exchange 17 = .ok (.iadd, 1) := by decide +kernel
theorem d_M_exchange_18 : decode c_M_exchange 18 = .ok (.laload, 1) := by decide +kernel
theorem d_M_exchange_19 : decode c_M_exchange 19 = .ok (.lstore 4, 2) := by decide +kernel
theorem d_M_exchange_21 : decode c_M_exchange 21 = .ok (.aload_n 0, 1) := by decide +kernel
theorem d_M_exchange_22 : decode c_M_exchange 22 = .ok (.getfield 54, 3) := by decide +kernel
theorem d_M_exchange_25 : decode c_M_exchange 25 = .ok (.iload_n 1, 1) := by decide +kernel
theorem d_M_exchange_26 : decode c_M_exchange 26 = .ok (.bipush 10, 2) := by decide +kernel
theorem d_M_exchange_28 : decode c_M_exchange 28 = .ok (.imul, 1) := by decide +kernel
theorem d_M_exchange_29 : decode c_M_exchange 29 = .ok (.iload_n 3, 1) := by decide +kernel
theorem d_M_exchange_30 : decode c_M_exchange 30 = .ok (.iadd, 1) := by decide +kernel
theorem d_M_exchange_31 : decode c_M_exchange 31 = .ok (.aload_n 0, 1) := by decide +kernel
theorem d_M_exchange_32 : decode c_M_exchange 32 = .ok (.getfield 54, 3) := by decide +kernel
theorem d_M_exchange_35 : decode c_M_exchange 35 = .ok (.iload_n 2, 1) := by decide +kernel
theorem d_M_exchange_36 : decode c_M_exchange 36 = .ok (.bipush 10, 2) := by decide +kernel
theorem d_M_exchange_38 : decode c_M_exchange 38 = .ok (.imul, 1) := by decide +kernel
theorem d_M_exchange_39 : decode c_M_exchange 39 = .ok (.iload_n 3, 1) := by decide +kernel
theorem d_M_exchange_40 : decode c_M_exchange 40 = .ok (.iadd, 1) := by decide +kernel
theorem d_M_exchange_41 : decode c_M_exchange 41 = .ok (.laload, 1) := by decide +kernel
theorem d_M_exchange_42 : decode c_M_exchange 42 = .ok (.lastore, 1) := by decide +kernel
theorem d_M_exchange_43 : decode c_M_exchange 43 = .ok (.aload_n 0, 1) := by decide +kernel
theorem d_M_exchange_44 : decode c_M_exchange 44 = .ok (.getfield 54, 3) := by decide +kernel
theorem d_M_exchange_47 : decode c_M_exchange 47 = .ok (.iload_n 2, 1) := by decide +kernel
theorem d_M_exchange_48 : decode c_M_exchange 48 = .ok (.bipush 10, 2) := by decide +kernel
theorem d_M_exchange_50 : decode c_M_exchange 50 = .ok (.imul, 1) := by decide +kernel
theorem d_M_exchange_51 : decode c_M_exchange 51 = .ok (.iload_n 3, 1) := by decide +kernel
theorem d_M_exchange_52 : decode c_M_exchange 52 = .ok (.iadd, 1) := by decide +kernel
theorem d_M_exchange_53 : decode c_M_exchange 53 = .ok (.lload 4, 2) := by decide +kernel
theorem d_M_exchange_55 : decode c_M_exchange 55 = .ok (.lastore, 1) := by decide +kernel
theorem d_M_exchange_56 : decode c_M_exchange 56 = .ok (.iinc 3 1, 3) := by decide +kernel
theorem d_M_exchange_59 : decode c_M_exchange 59 = .ok (.goto (-57), 3) := by decide +kernel
theorem d_M_exchange_62 : decode c_M_exchange 62 = .ok (.return_, 1) := by decide +kernel
theorem d_M_clear_0 : decode c_M_clear 0 = .ok (.aload_n 0, 1) := by decide +kernel
theorem d_M_clear_1 : decode c_M_clear 1 = .ok (.aload_n 0, 1) := by decide +kernel
theorem d_M_clear_2 : decode c_M_clear 2 = .ok (.getfield 54, 3) := by decide +kernel
theorem d_M_clear_5 : decode c_M_clear 5 = .ok (.iload_n 1, 1) := by decide +kernel
theorem d_M_clear_6 : decode c_M_clear 6 = .ok (.bipush 10, 2) := by decide +kernel
theorem d_M_clear_8 : decode c_M_clear 8 = .ok (.imul, 1) := by decide +kernel
theorem d_M_clear_9 : decode c_M_clear 9 = .ok (.iload_n 1, 1) := by decide +kernel
theorem d_M_clear_10 : decode c_M_clear 10 = .ok (.iadd, 1) := by decide +kernel
theorem d_M_clear_11 : decode c_M_clear 11 = .ok (.laload, 1) := by decide +kernel
theorem d_M_clear_12 : decode c_M_clear 12 = .ok (.lload_n 3, 1) := by decide +kernel
theorem d_M_clear_13 : decode c_M_clear 13 = .ok (.ldc2_w 108, 3) := by decide +kernel
theorem d_M_clear_16 : decode c_M_clear 16 = .ok (.lsub, 1) := by decide +kernel
theorem d_M_clear_17 : decode c_M_clear 17 = .ok (.lload_n 3, 1) := by decide +kernel
theorem d_M_clear_18 : decode c_M_clear 18 = .ok (.invokevirtual 110, 3) := by decide +kernel
theorem d_M_clear_21 : decode c_M_clear 21 = .ok (.lstore 5, 2) := by decide +kernel
theorem d_M_clear_23 : decode c_M_clear 23 = .ok (.iload_n 1, 1) := by decide +kernel
theorem d_M_clear_24 : decode c_M_clear 24 = .ok (.iconst 1, 1) := by decide +kernel
theorem d_M_clear_25 : decode c_M_clear 25 = .ok (.iadd, 1) := by decide +kernel
theorem d_M_clear_26 : decode c_M_clear 26 = .ok (.istore 7, 2) := by decide +kernel
theorem d_M_clear_28 : decode c_M_clear 28 = .ok (.iload 7, 2) := by decide +kernel
theorem d_M_clear_30 : decode c_M_clear 30 = .ok (.iload_n 2, 1) := by decide +kernel
theorem d_M_clear_31 : decode c_M_clear 31 = .ok (.if_icmp .ge 89, 3) := by decide +kernel
theorem d_M_clear_34 : decode c_M_clear 34 = .ok (.aload_n 0, 1) := by decide +kernel
theorem d_M_clear_35 : decode c_M_clear 35 = .ok (.getfield 54, 3) := by decide +kernel
theorem d_M_clear_38 : decode c_M_clear 38 = .ok (.iload 7, 2) := by decide +kernel
theorem d_M_clear_40 : decode c_M_clear 40 = .ok (.bipush 10, 2) := by decide +kernel
theorem d_M_clear_42 : decode c_M_clear 42 = .ok (.imul, 1) := by decide +kernel
theorem d_M_clear_43 : decode c_M_clear 43 = .ok (.iload_n 1, 1) := by decide +kernel
theorem d_M_clear_44 : decode c_M_clear 44 = .ok (.iadd, 1) := by decide +kernel
theorem d_M_clear_45 : decode c_M_clear 45 = .ok (.laload, 1) := by decide +kernel
theorem d_M_clear_46 : decode c_M_clear 46 = .ok (.lload 5, 2) := by decide +kernel
theorem d_M_clear_48 : decode c_M_clear 48 = .ok (.lmul, 1) := by decide +kernel
theorem d_M_clear_49 : decode c_M_clear 49 = .ok (.lload_n 3, 1) := by decide +kernel
theorem d_M_clear_50 : decode c_M_clear 50 = .ok (.lrem, 1) := by decide +kernel
theorem d_M_clear_51 : decode c_M_clear 51 = .ok (.lstore 8, 2) := by decide +kernel
theorem d_M_clear_53 : decode c_M_clear 53 = .ok (.iload_n 1, 1) := by decide +kernel
theorem d_M_clear_54 : decode c_M_clear 54 = .ok (.istore 10, 2) := by decide +kernel
theorem d_M_clear_56 : decode c_M_clear 56 = .ok (.iload 10, 2) := by decide +kernel
theorem d_M_clear_58 : decode c_M_clear 58 = .ok (.iload_n 2, 1) := by decide +kernel
theorem d_M_clear_59 : decode c_M_clear 59 = .ok (.if_icmp .ge 55, 3) := by decide +kernel
theorem d_M_clear_62 : decode c_M_clear 62 = .ok (.aload_n 0, 1) := by decide +kernel
theorem d_M_clear_63 : decode c_M_clear 63 = .ok (.getfield 54, 3) := by decide +kernel
theorem d_M_clear_66 : decode c_M_clear 66 = .ok (.iload 7, 2) := by decide +kernel
theorem d_M_clear_68 : decode c_M_clear 68 = .ok (.bipush 10, 2) := by decide +kernel
theorem d_M_clear_70 : decode c_M_clear 70 = .ok (.imul, 1) := by decide +kernel
theorem d_M_clear_71 : decode c_M_clear 71 = .ok (.iload 10, 2) := by decide +kernel
theorem d_M_clear_73 : decode c_M_clear 73 = .ok (.iadd, 1) := by decide +kernel
theorem d_M_clear_74 : decode c_M_clear 74 = .ok (.aload_n 0, 1) := by decide +kernel
theorem d_M_clear_75 : decode c_M_clear 75 = .ok (.getfield 54, 3) := by decide +kernel
theorem d_M_clear_78 : decode c_M_clear 78 = .ok (.iload 7, 2) := by decide +kernel
theorem d_M_clear_80 : decode c_M_clear 80 = .ok (.bipush 10, 2) := by decide +kernel
theorem d_M_clear_82 : decode c_M_clear 82 = .ok (.imul, 1) := by decide +kernel
theorem d_M_clear_83 : decode c_M_clear 83 = .ok (.iload 10, 2) := by decide +kernel
theorem d_M_clear_85 : decode c_M_clear 85 = .ok (.iadd, 1) := by decide +kernel
theorem d_M_clear_86 : decode c_M_clear 86 = .ok (.laload, 1) := by decide +kernel
theorem d_M_clear_87 : decode c_M_clear 87 = .ok (.lload_n 3, 1) := by decide +kernel
theorem d_M_clear_88 : decode c_M_clear 88 = .ok (.lload 8, 2) := by decide +kernel
theorem d_M_clear_90 : decode c_M_clear 90 = .ok (.lsub, 1) := by decide +kernel
theorem d_M_clear_91 : decode c_M_clear 91 = .ok (.aload_n 0, 1) := by decide +kernel
theorem d_M_clear_92 : decode c_M_clear 92 = .ok (.getfield 54, 3) := by decide +kernel
theorem d_M_clear_95 : decode c_M_clear 95 = .ok (.iload_n 1, 1) := by decide +kernel
theorem d_M_clear_96 : decode c_M_clear 96 = .ok (.bipush 10, 2) := by decide +kernel
theorem d_M_clear_98 : decode c_M_clear 98 = .ok (.imul, 1) := by decide +kernel
theorem d_M_clear_99 : decode c_M_clear 99 = .ok (.iload 10, 2) := by decide +kernel
theorem d_M_clear_101 : decode c_M_clear 101 = .ok (.iadd, 1) := by decide +kernel
theorem d_M_clear_102 : decode c_M_clear 102 = .ok (.laload, 1) := by decide +kernel
theorem d_M_clear_103 : decode c_M_clear 103 = .ok (.lmul, 1) := by decide +kernel
theorem d_M_clear_104 : decode c_M_clear 104 = .ok (.ladd, 1) := by decide +kernel
theorem d_M_clear_105 : decode c_M_clear 105 = .ok (.lload_n 3, 1) := by decide +kernel
theorem d_M_clear_106 : decode c_M_clear 106 = .ok (.lrem, 1) := by decide +kernel
theorem d_M_clear_107 : decode c_M_clear 107 = .ok (.lastore, 1) := by decide +kernel
theorem d_M_clear_108 : decode c_M_clear 108 = .ok (.iinc 10 1, 3) := by decide +kernel
theorem d_M_clear_111 : decode c_M_clear 111 = .ok (.goto (-55), 3) := by decide +kernel
theorem d_M_clear_114 : decode c_M_clear 114 = .ok (.iinc 7 1, 3) := by decide +kernel
theorem d_M_clear_117 : decode c_M_clear 117 = .ok (.goto (-89), 3) := by decide +kernel
theorem d_M_clear_120 : decode c_M_clear 120 = .ok (.return_, 1) := by decide +kernel
theorem d_M_powered_0 : decode c_M_powered 0 = .ok (.lconst 1, 1) := by decide +kernel
theorem d_M_powered_1 : decode c_M_powered 1 = .ok (.lstore 7, 2) := by decide +kernel
theorem d_M_powered_3 : decode c_M_powered 3 = .ok (.bipush 62, 2) := by decide +kernel
theorem d_M_powered_5 : decode c_M_powered 5 = .ok (.istore 9, 2) := by decide +kernel
theorem d_M_powered_7 : decode c_M_powered 7 = .ok (.iload 9, 2) := by decide +kernel
theorem d_M_powered_9 : decode c_M_powered 9 = .ok (.ifCond .lt 39, 3) := by decide +kernel
theorem d_M_powered_12 : decode c_M_powered 12 = .ok (.lload 7, 2) := by decide +kernel
theorem d_M_powered_14 : decode c_M_powered 14 = .ok (.lload 7, 2) := by decide +kernel
theorem d_M_powered_16 : decode c_M_powered 16 = .ok (.lmul, 1) := by decide +kernel
theorem d_M_powered_17 : decode c_M_powered 17 = .ok (.lload 5, 2) := by decide +kernel
theorem d_M_powered_19 : decode c_M_powered 19 = .ok (.lrem, 1) := by decide +kernel
theorem d_M_powered_20 : decode c_M_powered 20 = .ok (.lstore 7, 2) := by decide +kernel
theorem d_M_powered_22 : decode c_M_powered 22 = .ok (.lload_n 3, 1) := by decide +kernel
theorem d_M_powered_23 : decode c_M_powered 23 = .ok (.iload 9, 2) := by decide +kernel
theorem d_M_powered_25 : decode c_M_powered 25 = .ok (.lshr, 1) := by decide +kernel
theorem d_M_powered_26 : decode c_M_powered 26 = .ok (.lconst 1, 1) := by decide +kernel
theorem d_M_powered_27 : decode c_M_powered 27 = .ok (.land, 1) := by decide +kernel
theorem d_M_powered_28 : decode c_M_powered 28 = .ok (.lconst 0, 1) := by decide +kernel
theorem d_M_powered_29 : decode c_M_powered 29 = .ok (.lcmp, 1) := by decide +kernel
theorem d_M_powered_30 : decode c_M_powered 30 = .ok (.ifCond .eq 12, 3) := by decide +kernel
theorem d_M_powered_33 : decode c_M_powered 33 = .ok (.lload 7, 2) := by decide +kernel
theorem d_M_powered_35 : decode c_M_powered 35 = .ok (.lload_n 1, 1) := by decide +kernel
theorem d_M_powered_36 : decode c_M_powered 36 = .ok (.lmul, 1) := by decide +kernel
theorem d_M_powered_37 : decode c_M_powered 37 = .ok (.lload 5, 2) := by decide +kernel
theorem d_M_powered_39 : decode c_M_powered 39 = .ok (.lrem, 1) := by decide +kernel
theorem d_M_powered_40 : decode c_M_powered 40 = .ok (.lstore 7, 2) := by decide +kernel
theorem d_M_powered_42 : decode c_M_powered 42 = .ok (.iinc 9 (-1), 3) := by decide +kernel
theorem d_M_powered_45 : decode c_M_powered 45 = .ok (.goto (-38), 3) := by decide +kernel
theorem d_M_powered_48 : decode c_M_powered 48 = .ok (.lload 7, 2) := by decide +kernel
theorem d_M_powered_50 : decode c_M_powered 50 = .ok (.lreturn, 1) := by decide +kernel
theorem d_M_open_0 : decode c_M_open 0 = .ok (.aload_n 0, 1) := by decide +kernel
theorem d_M_open_1 : decode c_M_open 1 = .ok (.getfield 61, 3) := by decide +kernel
theorem d_M_open_4 : decode c_M_open 4 = .ok (.ifCond .ne 5, 3) := by decide +kernel
theorem d_M_open_7 : decode c_M_open 7 = .ok (.iconst (-1), 1) := by decide +kernel
theorem d_M_open_8 : decode c_M_open 8 = .ok (.ireturn, 1) := by decide +kernel
theorem d_M_open_9 : decode c_M_open 9 = .ok (.aload_n 0, 1) := by decide +kernel
theorem d_M_open_10 : decode c_M_open 10 = .ok (.iconst 0, 1) := by decide +kernel
theorem d_M_open_11 : decode c_M_open 11 = .ok (.putfield 61, 3) := by decide +kernel
theorem d_M_open_14 : decode c_M_open 14 = .ok (.iconst 0, 1) := by decide +kernel
theorem d_M_open_15 : decode c_M_open 15 = .ok (.ireturn, 1) := by decide +kernel
theorem d_M_displacement_0 : decode c_M_displacement 0 = .ok (.aload_n 0, 1) := by decide +kernel
theorem d_M_displacement_1 : decode c_M_displacement 1 = .ok (.iload_n 1, 1) := by decide +kernel
theorem d_M_displacement_2 : decode c_M_displacement 2 = .ok (.iconst 3, 1) := by decide +kernel
theorem d_M_displacement_3 : decode c_M_displacement 3 = .ok (.invokevirtual 57, 3) := by decide +kernel
theorem d_M_displacement_6 : decode c_M_displacement 6 = .ok (.ifCond .eq 7, 3) := by decide +kernel
theorem d_M_displacement_9 : decode c_M_displacement 9 = .ok (.ldc2_w 148, 3) := by decide +kernel
theorem d_M_displacement_12 : decode c_M_displacement 12 = .ok (.lreturn, 1) := by decide +kernel
theorem d_M_displacement_13 : decode c_M_displacement 13 = .ok (.aload_n 0, 1) := by decide +kernel
theorem d_M_displacement_14 : decode c_M_displacement 14 = .ok (.iconst 1, 1) := by decide +kernel
theorem d_M_displacement_15 : decode c_M_displacement 15 = .ok (.bipush 8, 2) := by decide +kernel
theorem d_M_displacement_17 : decode c_M_displacement 17 = .ok (.iload_n 1, 1) := by decide +kernel
theorem d_M_displacement_18 : decode c_M_displacement 18 = .ok (.imul, 1) := by decide +kernel
theorem d_M_displacement_19 : decode c_M_displacement 19 = .ok (.ishl, 1) := by decide +kernel
theorem d_M_displacement_20 : decode c_M_displacement 20 = .ok (.iload_n 2, 1) := by decide +kernel
theorem d_M_displacement_21 : decode c_M_displacement 21 = .ok (.iload_n 3, 1) := by decide +kernel
theorem d_M_displacement_22 : decode c_M_displacement 22 = .ok (.iload 4, 2) := by decide +kernel
theorem d_M_displacement_24 : decode c_M_displacement 24 = .ok (.invokevirtual 150, 3) := by decide +kernel
theorem d_M_displacement_27 : decode c_M_displacement 27 = .ok (.lreturn, 1) := by decide +kernel
theorem d_M_combined_0 : decode c_M_combined 0 = .ok (.aload_n 0, 1) := by decide +kernel
theorem d_M_combined_1 : decode c_M_combined 1 = .ok (.getfield 61, 3) := by decide +kernel
theorem d_M_combined_4 : decode c_M_combined 4 = .ok (.ifCond .eq 40, 3) := by decide +kernel
theorem d_M_combined_7 : decode c_M_combined 7 = .ok (.aload_n 0, 1) := by decide +kernel
theorem d_M_combined_8 : decode c_M_combined 8 = .ok (.iload_n 2, 1) := by decide +kernel
theorem d_M_combined_9 : decode c_M_combined 9 = .ok (.iconst 4, 1) := by decide +kernel
theorem d_M_combined_10 : decode c_M_combined 10 = .ok (.invokevirtual 57, 3) := by decide +kernel
theorem d_M_combined_13 : decode c_M_combined 13 = .ok (.ifCond .ne 31, 3) := by decide +kernel
theorem d_M_combined_16 : decode c_M_combined 16 = .ok (.aload_n 0, 1) := by decide +kernel
theorem d_M_combined_17 : decode c_M_combined 17 = .ok (.getfield 7, 3) := by decide +kernel
theorem d_M_combined_20 : decode c_M_combined 20 = .ok (.iload_n 2, 1) := by decide +kernel
theorem d_M_combined_21 : decode c_M_combined 21 = .ok (.baload, 1) := by decide +kernel
theorem d_M_combined_22 : decode c_M_combined 22 = .ok (.ifCond .eq 22, 3) := by decide +kernel
theorem d_M_combined_25 : decode c_M_combined 25 = .ok (.aload_n 0, 1) := by decide +kernel
theorem d_M_combined_26 : decode c_M_combined 26 = .ok (.iload_n 3, 1) := by decide +kernel
theorem d_M_combined_27 : decode c_M_combined 27 = .ok (.iconst 1, 1) := by decide +kernel
theorem d_M_combined_28 : decode c_M_combined 28 = .ok (.invokevirtual 57, 3) := by decide +kernel
theorem d_M_combined_31 : decode c_M_combined 31 = .ok (.ifCond .ne 13, 3) := by decide +kernel
theorem d_M_combined_34 : decode c_M_combined 34 = .ok (.aload_n 0, 1) := by decide +kernel
theorem d_M_combined_35 : decode c_M_combined 35 = .ok (.iload 4, 2) := by decide +kernel
theorem d_M_combined_37 : decode c_M_combined 37 = .ok (.iconst 1, 1) := by decide +kernel
theorem d_M_combined_38 : decode c_M_combined 38 = .ok (.invokevirtual 57, 3) := by decide +kernel
theorem d_M_combined_41 : decode c_M_combined 41 = .ok (.ifCond .eq 7, 3) := by decide +kernel
theorem d_M_combined_44 : decode c_M_combined 44 = .ok (.ldc2_w 148, 3) := by decide +kernel
theorem d_M_combined_47 : decode c_M_combined 47 = .ok (.lreturn, 1) := by decide +kernel
theorem d_M_combined_48 : decode c_M_combined 48 = .ok (.aload_n 0, 1) := by decide +kernel
theorem d_M_combined_49 : decode c_M_combined 49 = .ok (.aload_n 0, 1) := by decide +kernel
theorem d_M_combined_50 : decode c_M_combined 50 = .ok (.iload_n 1, 1) := by decide +kernel
theorem d_M_combined_51 : decode c_M_combined 51 = .ok (.iload_n 2, 1) := by decide +kernel
theorem d_M_combined_52 : decode c_M_combined 52 = .ok (.iconst 2, 1) := by decide +kernel
theorem d_M_combined_53 : decode c_M_combined 53 = .ok (.imul, 1) := by decide +kernel
theorem d_M_combined_54 : decode c_M_combined 54 = .ok (.iload_n 3, 1) := by decide +kernel
theorem d_M_combined_55 : decode c_M_combined 55 = .ok (.iadd, 1) := by decide +kernel
theorem d_M_combined_56 : decode c_M_combined 56 = .ok (.invokevirtual 154, 3) := by decide +kernel
theorem d_M_combined_59 : decode c_M_combined 59 = .ok (.aload_n 0, 1) := by decide +kernel
theorem d_M_combined_60 : decode c_M_combined 60 = .ok (.invokevirtual 157, 3) := by decide +kernel
theorem d_M_combined_63 : decode c_M_combined 63 = .ok (.iload 4, 2) := by decide +kernel
theorem d_M_combined_65 : decode c_M_combined 65 = .ok (.invokevirtual 161, 3) := by decide +kernel
theorem d_M_combined_68 : decode c_M_combined 68 = .ok (.lreturn, 1) := by decide +kernel
theorem d_M_moved_0 : decode c_M_moved 0 = .ok (.aload_n 0, 1) := by decide +kernel
theorem d_M_moved_1 : decode c_M_moved 1 = .ok (.invokevirtual 122, 3) := by decide +kernel
theorem d_M_moved_4 : decode c_M_moved 4 = .ok (.aload_n 0, 1) := by decide +kernel
theorem d_M_moved_5 : decode c_M_moved 5 = .ok (.invokevirtual 128, 3) := by decide +kernel
theorem d_M_moved_8 : decode c_M_moved 8 = .ok (.iconst (-1), 1) := by decide +kernel
theorem d_M_moved_9 : decode c_M_moved 9 = .ok (.istore_n 3, 1) := by decide +kernel
theorem d_M_moved_10 : decode c_M_moved 10 = .ok (.iconst 0, 1) := by decide +kernel
theorem d_M_moved_11 : decode c_M_moved 11 = .ok (.istore 4, 2) := by decide +kernel
theorem d_M_moved_13 : decode c_M_moved 13 = .ok (.iload 4, 2) := by decide +kernel
theorem d_M_moved_15 : decode c_M_moved 15 = .ok (.aload_n 0, 1) := by decide +kernel
theorem d_M_moved_16 : decode c_M_moved 16 = .ok (.getfield 93, 3) := by decide +kernel
theorem d_M_moved_19 : decode c_M_moved 19 = .ok (.if_icmp .ge 105, 3) := by decide +kernel
theorem d_M_moved_22 : decode c_M_moved 22 = .ok (.aload_n 0, 1) := by decide +kernel
theorem d_M_moved_23 : decode c_M_moved 23 = .ok (.getfield 50, 3) := by decide +kernel
theorem d_M_moved_26 : decode c_M_moved 26 = .ok (.iload 4, 2) := by decide +kernel
theorem d_M_moved_28 : decode c_M_moved 28 = .ok (.aload_n 0, 1) := by decide +kernel
theorem d_M_moved_29 : decode c_M_moved 29 = .ok (.iload_n 1, 1) := by decide +kernel
theorem d_M_moved_30 : decode c_M_moved 30 = .ok (.aload_n 0, 1) := by decide +kernel
theorem d_M_moved_31 : decode c_M_moved 31 = .ok (.getfield 44, 3) := by decide +kernel
theorem d_M_moved_34 : decode c_M_moved 34 = .ok (.iload 4, 2) := by decide +kernel
theorem d_M_moved_36 : decode c_M_moved 36 = .ok (.iaload, 1) := by decide +kernel
theorem d_M_moved_37 : decode c_M_moved 37 = .ok (.invokevirtual 135, 3) := by decide +kernel
theorem d_M_moved_40 : decode c_M_moved 40 = .ok (.lastore, 1) := by decide +kernel
theorem d_M_moved_41 : decode c_M_moved 41 = .ok (.iconst 0, 1) := by decide +kernel
theorem d_M_moved_42 : decode c_M_moved 42 = .ok (.istore 5, 2) := by decide +kernel
theorem d_M_moved_44 : decode c_M_moved 44 = .ok (.iload 5, 2) := by decide +kernel
theorem d_M_moved_46 : decode c_M_moved 46 = .ok (.bipush 10, 2) := by decide +kernel
theorem d_M_moved_48 : decode c_M_moved 48 = .ok (.if_icmp .ge 56, 3) := by decide +kernel
theorem d_M_moved_51 : decode c_M_moved 51 = .ok (.aload_n 0, 1) := by decide +kernel
theorem d_M_moved_52 : decode c_M_moved 52 = .ok (.getfield 29, 3) := by decide +kernel
theorem d_M_moved_55 : decode c_M_moved 55 = .ok (.iload 5, 2) := by decide +kernel
theorem d_M_moved_57 : decode c_M_moved 57 = .ok (.baload, 1) := by decide +kernel
theorem d_M_moved_58 : decode c_M_moved 58 = .ok (.ifCond .eq 40, 3) := by decide +kernel
theorem d_M_moved_61 : decode c_M_moved 61 = .ok (.aload_n 0, 1) := by decide +kernel
theorem d_M_moved_62 : decode c_M_moved 62 = .ok (.getfield 50, 3) := by decide +kernel
theorem d_M_moved_65 : decode c_M_moved 65 = .ok (.iload 4, 2) := by decide +kernel
theorem d_M_moved_67 : decode c_M_moved 67 = .ok (.dup2, 1) := by decide +kernel
theorem d_M_moved_68 : decode c_M_moved 68 = .ok (.laload, 1) := by decide +kernel
theorem d_M_moved_69 : decode c_M_moved 69 = .ok (.aload_n 0, 1) := by decide +kernel
theorem d_M_moved_70 : decode c_M_moved 70 = .ok (.getfield 47, 3) := by decide +kernel
theorem d_M_moved_73 : decode c_M_moved 73 = .ok (.aload_n 0, 1) := by decide +kernel
theorem d_M_moved_74 : decode c_M_moved 74 = .ok (.getfield 44, 3) := by decide +kernel
theorem d_M_moved_77 : decode c_M_moved 77 = .ok (.iload 4, 2) := by decide +kernel
theorem d_M_moved_79 : decode c_M_moved 79 = .ok (.iaload, 1) := by decide +kernel
theorem d_M_moved_80 : decode c_M_moved 80 = .ok (.bipush 10, 2) := by decide +kernel
theorem d_M_moved_82 : decode c_M_moved 82 = .ok (.imul, 1) := by decide +kernel
theorem d_M_moved_83 : decode c_M_moved 83 = .ok (.iload 5, 2) := by decide +kernel
theorem d_M_moved_85 : decode c_M_moved 85 = .ok (.iadd, 1) := by decide +kernel
theorem d_M_moved_86 : decode c_M_moved 86 = .ok (.iaload, 1) := by decide +kernel
theorem d_M_moved_87 : decode c_M_moved 87 = .ok (.i2l, 1) := by decide +kernel
theorem d_M_moved_88 : decode c_M_moved 88 = .ok (.aload_n 0, 1) := by decide +kernel
theorem d_M_moved_89 : decode c_M_moved 89 = .ok (.iload_n 1, 1) := by decide +kernel
theorem d_M_moved_90 : decode c_M_moved 90 = .ok (.iload 5, 2) := by decide +kernel
theorem d_M_moved_92 : decode c_M_moved 92 = .ok (.invokevirtual 138, 3) := by decide +kernel
theorem d_M_moved_95 : decode c_M_moved 95 = .ok (.lmul, 1) := by decide +kernel
theorem d_M_moved_96 : decode c_M_moved 96 = .ok (.lsub, 1) := by decide +kernel
theorem d_M_moved_97 : decode c_M_moved 97 = .ok (.lastore, 1) := by decide +kernel
theorem d_M_moved_98 : decode c_M_moved 98 = .ok (.iinc 5 1, 3) := by decide +kernel
theorem d_M_moved_101 : decode c_M_moved 101 = .ok (.goto (-57), 3) := by decide +kernel
theorem d_M_moved_104 : decode c_M_moved 104 = .ok (.aload_n 0, 1) := by decide +kernel
theorem d_M_moved_105 : decode c_M_moved 105 = .ok (.getfield 44, 3) := by decide +kernel
theorem d_M_moved_108 : decode c_M_moved 108 = .ok (.iload 4, 2) := by decide +kernel
theorem d_M_moved_110 : decode c_M_moved 110 = .ok (.iaload, 1) := by decide +kernel
theorem d_M_moved_111 : decode c_M_moved 111 = .ok (.iload_n 2, 1) := by decide +kernel
theorem d_M_moved_112 : decode c_M_moved 112 = .ok (.if_icmp .ne 6, 3) := by decide +kernel
theorem d_M_moved_115 : decode c_M_moved 115 = .ok (.iload 4, 2) := by decide +kernel
theorem d_M_moved_117 : decode c_M_moved 117 = .ok (.istore_n 3, 1) := by decide +kernel
theorem d_M_moved_118 : decode c_M_moved 118 = .ok (.iinc 4 1, 3) := by decide +kernel
theorem d_M_moved_121 : decode c_M_moved 121 = .ok (.goto (-108), 3) := by decide +kernel
theorem d_M_moved_124 : decode c_M_moved 124 = .ok (.iload_n 3, 1) := by decide +kernel
theorem d_M_moved_125 : decode c_M_moved 125 = .ok (.ifCond .ge 22, 3) := by decide +kernel
theorem d_M_moved_128 : decode c_M_moved 128 = .ok (.aload_n 0, 1) := by decide +kernel
theorem d_M_moved_129 : decode c_M_moved 129 = .ok (.iload_n 1, 1) := by decide +kernel
theorem d_M_moved_130 : decode c_M_moved 130 = .ok (.iload_n 2, 1) := by decide +kernel
theorem d_M_moved_131 : decode c_M_moved 131 = .ok (.invokevirtual 138, 3) := by decide +kernel
theorem d_M_moved_134 : decode c_M_moved 134 = .ok (.aload_n 0, 1) := by decide +kernel
theorem d_M_moved_135 : decode c_M_moved 135 = .ok (.aload_n 0, 1) := by decide +kernel
theorem d_M_moved_136 : decode c_M_moved 136 = .ok (.getfield 93, 3) := by decide +kernel
theorem d_M_moved_139 : decode c_M_moved 139 = .ok (.iconst (-1), 1) := by decide +kernel
theorem d_M_moved_140 : decode c_M_moved 140 = .ok (.invokevirtual 131, 3) := by decide +kernel
theorem d_M_moved_143 : decode c_M_moved 143 = .ok (.lmul, 1) := by decide +kernel
theorem d_M_moved_144 : decode c_M_moved 144 = .ok (.goto 12, 3) := by decide +kernel
theorem d_M_moved_147 : decode c_M_moved 147 = .ok (.aload_n 0, 1) := by decide +kernel
theorem d_M_moved_148 : decode c_M_moved 148 = .ok (.aload_n 0, 1) := by decide +kernel
theorem d_M_moved_149 : decode c_M_moved 149 = .ok (.getfield 93, 3) := by decide +kernel
theorem d_M_moved_152 : decode c_M_moved 152 = .ok (.iload_n 3, 1) := by decide +kernel
theorem d_M_moved_153 : decode c_M_moved 153 = .ok (.invokevirtual 131, 3) := by decide +kernel
theorem d_M_moved_156 : decode c_M_moved 156 = .ok (.lreturn, 1) := by decide +kernel
theorem d_M_loadOf_0 : decode c_M_loadOf 0 = .ok (.lconst 0, 1) := by decide +kernel
theorem d_M_loadOf_1 : decode c_M_loadOf 1 = .ok (.lstore_n 3, 1) := by decide +kernel
theorem d_M_loadOf_2 : decode c_M_loadOf 2 = .ok (.iconst 0, 1) := by decide +kernel
theorem d_M_loadOf_3 : decode c_M_loadOf 3 = .ok (.istore 5, 2) := by decide +kernel
theorem d_M_loadOf_5 : decode c_M_loadOf 5 = .ok (.iload 5, 2) := by decide +kernel
theorem d_M_loadOf_7 : decode c_M_loadOf 7 = .ok (.iconst 4, 1) := by decide +kernel
theorem d_M_loadOf_8 : decode c_M_loadOf 8 = .ok (.if_icmp .ge 35, 3) := by decide +kernel
theorem d_M_loadOf_11 : decode c_M_loadOf 11 = .ok (.lload_n 3, 1) := by decide +kernel
theorem d_M_loadOf_12 : decode c_M_loadOf 12 = .ok (.iload_n 1, 1) := by decide +kernel
theorem d_M_loadOf_13 : decode c_M_loadOf 13 = .ok (.bipush 8, 2) := by decide +kernel
theorem d_M_loadOf_15 : decode c_M_loadOf 15 = .ok (.iload 5, 2) := by decide +kernel
theorem d_M_loadOf_17 : decode c_M_loadOf 17 = .ok (.imul, 1) := by decide +kernel
theorem d_M_loadOf_18 : decode c_M_loadOf 18 = .ok (.ishr, 1) := by decide +kernel
theorem d_M_loadOf_19 : decode c_M_loadOf 19 = .ok (.i2b, 1) := by decide +kernel
theorem d_M_loadOf_20 : decode c_M_loadOf 20 = .ok (.i2l, 1) := by decide +kernel
theorem d_M_loadOf_21 : decode c_M_loadOf 21 = .ok (.aload_n 0, 1) := by decide +kernel
theorem d_M_loadOf_22 : decode c_M_loadOf 22 = .ok (.getfield 38, 3) := by decide +kernel
theorem d_M_loadOf_25 : decode c_M_loadOf 25 = .ok (.iload 5, 2) := by decide +kernel
theorem d_M_loadOf_27 : decode c_M_loadOf 27 = .ok (.bipush 10, 2) := by decide +kernel
theorem d_M_loadOf_29 : decode c_M_loadOf 29 = .ok (.imul, 1) := by decide +kernel
theorem d_M_loadOf_30 : decode c_M_loadOf 30 = .ok (.iload_n 2, 1) := by decide +kernel
theorem d_M_loadOf_31 : decode c_M_loadOf 31 = .ok (.iadd, 1) := by decide +kernel
theorem d_M_loadOf_32 : decode c_M_loadOf 32 = .ok (.iaload, 1) := by decide +kernel
theorem d_M_loadOf_33 : decode c_M_loadOf 33 = .ok (.i2l, 1) := by decide +kernel
theorem d_M_loadOf_34 : decode c_M_loadOf 34 = .ok (.lmul, 1) := by decide +kernel
theorem d_M_loadOf_35 : decode c_M_loadOf 35 = .ok (.ladd, 1) := by decide +kernel
theorem d_M_loadOf_36 : decode c_M_loadOf 36 = .ok (.lstore_n 3, 1) := by decide +kernel
theorem d_M_loadOf_37 : decode c_M_loadOf 37 = .ok (.iinc 5 1, 3) := by decide +kernel
theorem d_M_loadOf_40 : decode c_M_loadOf 40 = .ok (.goto (-35), 3) := by decide +kernel
theorem d_M_loadOf_43 : decode c_M_loadOf 43 = .ok (.lload_n 3, 1) := by decide +kernel
theorem d_M_loadOf_44 : decode c_M_loadOf 44 = .ok (.lreturn, 1) := by decide +kernel
theorem d_M_fixedOf_0 : decode c_M_fixedOf 0 = .ok (.lconst 0, 1) := by decide +kernel
theorem d_M_fixedOf_1 : decode c_M_fixedOf 1 = .ok (.lstore_n 3, 1) := by decide +kernel
theorem d_M_fixedOf_2 : decode c_M_fixedOf 2 = .ok (.iconst 0, 1) := by decide +kernel
theorem d_M_fixedOf_3 : decode c_M_fixedOf 3 = .ok (.istore 5, 2) := by decide +kernel
theorem d_M_fixedOf_5 : decode c_M_fixedOf 5 = .ok (.iload 5, 2) := by decide +kernel
theorem d_M_fixedOf_7 : decode c_M_fixedOf 7 = .ok (.iconst 4, 1) := by decide +kernel
theorem d_M_fixedOf_8 : decode c_M_fixedOf 8 = .ok (.if_icmp .ge 29, 3) := by decide +kernel
theorem d_M_fixedOf_11 : decode c_M_fixedOf 11 = .ok (.lload_n 3, 1) := by decide +kernel
theorem d_M_fixedOf_12 : decode c_M_fixedOf 12 = .ok (.iload_n 1, 1) := by decide +kernel
theorem d_M_fixedOf_13 : decode c_M_fixedOf 13 = .ok (.bipush 8, 2) := by decide +kernel
theorem d_M_fixedOf_15 : decode c_M_fixedOf 15 = .ok (.iload 5, 2) := by decide +kernel
theorem d_M_fixedOf_17 : decode c_M_fixedOf 17 = .ok (.imul, 1) := by decide +kernel
theorem d_M_fixedOf_18 : decode c_M_fixedOf 18 = .ok (.ishr, 1) := by decide +kernel
theorem d_M_fixedOf_19 : decode c_M_fixedOf 19 = .ok (.i2b, 1) := by decide +kernel
theorem d_M_fixedOf_20 : decode c_M_fixedOf 20 = .ok (.i2l, 1) := by decide +kernel
theorem d_M_fixedOf_21 : decode c_M_fixedOf 21 = .ok (.aload_n 0, 1) := by decide +kernel
theorem d_M_fixedOf_22 : decode c_M_fixedOf 22 = .ok (.getfield 32, 3) := by decide +kernel
theorem d_M_fixedOf_25 : decode c_M_fixedOf 25 = .ok (.iload_n 2, 1) := by decide +kernel
theorem d_M_fixedOf_26 : decode c_M_fixedOf 26 = .ok (.iaload, 1) := by decide +kernel
theorem d_M_fixedOf_27 : decode c_M_fixedOf 27 = .ok (.i2l, 1) := by decide +kernel
theorem d_M_fixedOf_28 : decode c_M_fixedOf 28 = .ok (.lmul, 1) := by decide +kernel
theorem d_M_fixedOf_29 : decode c_M_fixedOf 29 = .ok (.ladd, 1) := by decide +kernel
theorem d_M_fixedOf_30 : decode c_M_fixedOf 30 = .ok (.lstore_n 3, 1) := by decide +kernel
theorem d_M_fixedOf_31 : decode c_M_fixedOf 31 = .ok (.iinc 5 1, 3) := by decide +kernel
theorem d_M_fixedOf_34 : decode c_M_fixedOf 34 = .ok (.goto (-29), 3) := by decide +kernel
theorem d_M_fixedOf_37 : decode c_M_fixedOf 37 = .ok (.lload_n 3, 1) := by decide +kernel
theorem d_M_fixedOf_38 : decode c_M_fixedOf 38 = .ok (.lreturn, 1) := by decide +kernel
theorem d_M_determinant_0 : decode c_M_determinant 0 = .ok (.aload_n 0, 1) := by decide +kernel
theorem d_M_determinant_1 : decode c_M_determinant 1 = .ok (.getfield 61, 3) := by decide +kernel
theorem d_M_determinant_4 : decode c_M_determinant 4 = .ok (.ifCond .ne 7, 3) := by decide +kernel
theorem d_M_determinant_7 : decode c_M_determinant 7 = .ok (.ldc2_w 148, 3) := by decide +kernel
theorem d_M_determinant_10 : decode c_M_determinant 10 = .ok (.lreturn, 1) := by decide +kernel
theorem d_M_determinant_11 : decode c_M_determinant 11 = .ok (.aload_n 0, 1) := by decide +kernel
theorem d_M_determinant_12 : decode c_M_determinant 12 = .ok (.invokevirtual 122, 3) := by decide +kernel
theorem d_M_determinant_15 : decode c_M_determinant 15 = .ok (.aload_n 0, 1) := by decide +kernel
theorem d_M_determinant_16 : decode c_M_determinant 16 = .ok (.invokevirtual 128, 3) := by decide +kernel
theorem d_M_determinant_19 : decode c_M_determinant 19 = .ok (.aload_n 0, 1) := by decide +kernel
theorem d_M_determinant_20 : decode c_M_determinant 20 = .ok (.aload_n 0, 1) := by decide +kernel
theorem d_M_determinant_21 : decode c_M_determinant 21 = .ok (.getfield 93, 3) := by decide +kernel
theorem d_M_determinant_24 : decode c_M_determinant 24 = .ok (.iconst (-1), 1) := by decide +kernel
theorem d_M_determinant_25 : decode c_M_determinant 25 = .ok (.invokevirtual 131, 3) := by decide +kernel
theorem d_M_determinant_28 : decode c_M_determinant 28 = .ok (.lreturn, 1) := by decide +kernel
theorem d_M_fraction_0 : decode c_M_fraction 0 = .ok (.aload_n 0, 1) := by decide +kernel
theorem d_M_fraction_1 : decode c_M_fraction 1 = .ok (.lload_n 1, 1) := by decide +kernel
theorem d_M_fraction_2 : decode c_M_fraction 2 = .ok (.lconst 0, 1) := by decide +kernel
theorem d_M_fraction_3 : decode c_M_fraction 3 = .ok (.lcmp, 1) := by decide +kernel
theorem d_M_fraction_4 : decode c_M_fraction 4 = .ok (.ifCond .ge 8, 3) := by decide +kernel
theorem d_M_fraction_7 : decode c_M_fraction 7 = .ok (.lload_n 1, 1) := by decide +kernel
theorem d_M_fraction_8 : decode c_M_fraction 8 = .ok (.lneg, 1) := by decide +kernel
theorem d_M_fraction_9 : decode c_M_fraction 9 = .ok (.goto 4, 3) := by decide +kernel
theorem d_M_fraction_12 : decode c_M_fraction 12 = .ok (.lload_n 1, 1) := by decide +kernel
theorem d_M_fraction_13 : decode c_M_fraction 13 = .ok (.putfield 141, 3) := by decide +kernel
theorem d_M_fraction_16 : decode c_M_fraction 16 = .ok (.aload_n 0, 1) := by decide +kernel
theorem d_M_fraction_17 : decode c_M_fraction 17 = .ok (.lload_n 3, 1) := by decide +kernel
theorem d_M_fraction_18 : decode c_M_fraction 18 = .ok (.putfield 145, 3) := by decide +kernel
theorem d_M_fraction_21 : decode c_M_fraction 21 = .ok (.aload_n 0, 1) := by decide +kernel
theorem d_M_fraction_22 : decode c_M_fraction 22 = .ok (.getfield 145, 3) := by decide +kernel
theorem d_M_fraction_25 : decode c_M_fraction 25 = .ok (.lconst 0, 1) := by decide +kernel
theorem d_M_fraction_26 : decode c_M_fraction 26 = .ok (.lcmp, 1) := by decide +kernel
theorem d_M_fraction_27 : decode c_M_fraction 27 = .ok (.ifCond .eq 31, 3) := by decide +kernel
theorem d_M_fraction_30 : decode c_M_fraction 30 = .ok (.aload_n 0, 1) := by decide +kernel
theorem d_M_fraction_31 : decode c_M_fraction 31 = .ok (.getfield 141, 3) := by decide +kernel
theorem d_M_fraction_34 : decode c_M_fraction 34 = .ok (.aload_n 0, 1) := by decide +kernel
theorem d_M_fraction_35 : decode c_M_fraction 35 = .ok (.getfield 145, 3) := by decide +kernel
theorem d_M_fraction_38 : decode c_M_fraction 38 = .ok (.lrem, 1) := by decide +kernel
theorem d_M_fraction_39 : decode c_M_fraction 39 = .ok (.lstore 6, 2) := by decide +kernel
theorem d_M_fraction_41 : decode c_M_fraction 41 = .ok (.aload_n 0, 1) := by decide +kernel
theorem d_M_fraction_42 : decode c_M_fraction 42 = .ok (.aload_n 0, 1) := by decide +kernel
theorem d_M_fraction_43 : decode c_M_fraction 43 = .ok (.getfield 145, 3) := by decide +kernel
theorem d_M_fraction_46 : decode c_M_fraction 46 = .ok (.putfield 141, 3) := by decide +kernel
theorem d_M_fraction_49 : decode c_M_fraction 49 = .ok (.aload_n 0, 1) := by decide +kernel
theorem d_M_fraction_50 : decode c_M_fraction 50 = .ok (.lload 6, 2) := by decide +kernel
theorem d_M_fraction_52 : decode c_M_fraction 52 = .ok (.putfield 145, 3) := by decide +kernel
theorem d_M_fraction_55 : decode c_M_fraction 55 = .ok (.goto (-34), 3) := by decide +kernel
theorem d_M_fraction_58 : decode c_M_fraction 58 = .ok (.iload 5, 2) := by decide +kernel
theorem d_M_fraction_60 : decode c_M_fraction 60 = .ok (.ifCond .ne 12, 3) := by decide +kernel
theorem d_M_fraction_63 : decode c_M_fraction 63 = .ok (.lload_n 1, 1) := by decide +kernel
theorem d_M_fraction_64 : decode c_M_fraction 64 = .ok (.aload_n 0, 1) := by decide +kernel
theorem d_M_fraction_65 : decode c_M_fraction 65 = .ok (.getfield 141, 3) := by decide +kernel
theorem d_M_fraction_68 : decode c_M_fraction 68 = .ok (.ldiv, 1) := by decide +kernel
theorem d_M_fraction_69 : decode c_M_fraction 69 = .ok (.goto 9, 3) := by decide +kernel
theorem d_M_fraction_72 : decode c_M_fraction 72 = .ok (.lload_n 3, 1) := by decide +kernel
theorem d_M_fraction_73 : decode c_M_fraction 73 = .ok (.aload_n 0, 1) := by decide +kernel
theorem d_M_fraction_74 : decode c_M_fraction 74 = .ok (.getfield 141, 3) := by decide +kernel
theorem d_M_fraction_77 : decode c_M_fraction 77 = .ok (.ldiv, 1) := by decide +kernel
theorem d_M_fraction_78 : decode c_M_fraction 78 = .ok (.lreturn, 1) := by decide +kernel
theorem d_M_force_0 : decode c_M_force 0 = .ok (.aload_n 0, 1) := by decide +kernel
theorem d_M_force_1 : decode c_M_force 1 = .ok (.getfield 61, 3) := by decide +kernel
theorem d_M_force_4 : decode c_M_force 4 = .ok (.ifCond .eq 33, 3) := by decide +kernel
theorem d_M_force_7 : decode c_M_force 7 = .ok (.aload_n 0, 1) := by decide +kernel
theorem d_M_force_8 : decode c_M_force 8 = .ok (.iload_n 1, 1) := by decide +kernel
theorem d_M_force_9 : decode c_M_force 9 = .ok (.iconst 3, 1) := by decide +kernel
theorem d_M_force_10 : decode c_M_force 10 = .ok (.invokevirtual 57, 3) := by decide +kernel
theorem d_M_force_13 : decode c_M_force 13 = .ok (.ifCond .ne 24, 3) := by decide +kernel
theorem d_M_force_16 : decode c_M_force 16 = .ok (.iload_n 2, 1) := by decide +kernel
theorem d_M_force_17 : decode c_M_force 17 = .ok (.ifCond .lt 20, 3) := by decide +kernel
theorem d_M_force_20 : decode c_M_force 20 = .ok (.iload_n 2, 1) := by decide +kernel
theorem d_M_force_21 : decode c_M_force 21 = .ok (.aload_n 0, 1) := by decide +kernel
theorem d_M_force_22 : decode c_M_force 22 = .ok (.getfield 65, 3) := by decide +kernel
theorem d_M_force_25 : decode c_M_force 25 = .ok (.if_icmp .ge 12, 3) := by decide +kernel
theorem d_M_force_28 : decode c_M_force 28 = .ok (.aload_n 0, 1) := by decide +kernel
theorem d_M_force_29 : decode c_M_force 29 = .ok (.iload_n 3, 1) := by decide +kernel
theorem d_M_force_30 : decode c_M_force 30 = .ok (.iconst 1, 1) := by decide +kernel
theorem d_M_force_31 : decode c_M_force 31 = .ok (.invokevirtual 57, 3) := by decide +kernel
theorem d_M_force_34 : decode c_M_force 34 = .ok (.ifCond .eq 7, 3) := by decide +kernel
theorem d_M_force_37 : decode c_M_force 37 = .ok (.ldc2_w 148, 3) := by decide +kernel
theorem d_M_force_40 : decode c_M_force 40 = .ok (.lreturn, 1) := by decide +kernel
theorem d_M_force_41 : decode c_M_force 41 = .ok (.aload_n 0, 1) := by decide +kernel
theorem d_M_force_42 : decode c_M_force 42 = .ok (.aload_n 0, 1) := by decide +kernel
theorem d_M_force_43 : decode c_M_force 43 = .ok (.iconst 1, 1) := by decide +kernel
theorem d_M_force_44 : decode c_M_force 44 = .ok (.bipush 8, 2) := by decide +kernel
theorem d_M_force_46 : decode c_M_force 46 = .ok (.iload_n 1, 1) := by decide +kernel
theorem d_M_force_47 : decode c_M_force 47 = .ok (.imul, 1) := by decide +kernel
theorem d_M_force_48 : decode c_M_force 48 = .ok (.ishl, 1) := by decide +kernel
theorem d_M_force_49 : decode c_M_force 49 = .ok (.iload_n 2, 1) := by decide +kernel
theorem d_M_force_50 : decode c_M_force 50 = .ok (.invokevirtual 165, 3) := by decide +kernel
theorem d_M_force_53 : decode c_M_force 53 = .ok (.aload_n 0, 1) := by decide +kernel
theorem d_M_force_54 : decode c_M_force 54 = .ok (.invokevirtual 157, 3) := by decide +kernel
theorem d_M_force_57 : decode c_M_force 57 = .ok (.iload_n 3, 1) := by decide +kernel
theorem d_M_force_58 : decode c_M_force 58 = .ok (.invokevirtual 161, 3) := by decide +kernel
theorem d_M_force_61 : decode c_M_force 61 = .ok (.lreturn, 1) := by decide +kernel
end
section
theorem d_M_pull_0 : decode c_M_pull 0 = .ok (.lconst 0, 1) := by decide +kernel
theorem d_M_pull_1 : decode c_M_pull 1 = .ok (.lstore_n 3, 1) := by decide +kernel
theorem d_M_pull_2 : decode c_M_pull 2 = .ok (.iconst 0, 1) := by decide +kernel
theorem d_M_pull_3 : decode c_M_pull 3 = .ok (.istore 5, 2) := by decide +kernel
theorem d_M_pull_5 : decode c_M_pull 5 = .ok (.iload 5, 2) := by decide +kernel
theorem d_M_pull_7 : decode c_M_pull 7 = .ok (.iconst 2, 1) := by decide +kernel
theorem d_M_pull_8 : decode c_M_pull 8 = .ok (.if_icmp .ge 54, 3) := by decide +kernel
theorem d_M_pull_11 : decode c_M_pull 11 = .ok (.lload_n 3, 1) := by decide +kernel
theorem d_M_pull_12 : decode c_M_pull 12 = .ok (.aload_n 0, 1) := by decide +kernel
theorem d_M_pull_13 : decode c_M_pull 13 = .ok (.iload_n 2, 1) := by decide +kernel
theorem d_M_pull_14 : decode c_M_pull 14 = .ok (.iload 5, 2) := by decide +kernel
theorem d_M_pull_16 : decode c_M_pull 16 = .ok (.invokevirtual 96, 3) := by decide +kernel
theorem d_M_pull_19 : decode c_M_pull 19 = .ok (.i2l, 1) := by decide +kernel
theorem d_M_pull_20 : decode c_M_pull 20 = .ok (.aload_n 0, 1) := by decide +kernel
theorem d_M_pull_21 : decode c_M_pull 21 = .ok (.iload_n 1, 1) := by decide +kernel
theorem d_M_pull_22 : decode c_M_pull 22 = .ok (.aload_n 0, 1) := by decide +kernel
theorem d_M_pull_23 : decode c_M_pull 23 = .ok (.getfield 23, 3) := by decide +kernel
theorem d_M_pull_26 : decode c_M_pull 26 = .ok (.iload_n 2, 1) := by decide +kernel
theorem d_M_pull_27 : decode c_M_pull 27 = .ok (.iaload, 1) := by decide +kernel
theorem d_M_pull_28 : decode c_M_pull 28 = .ok (.iconst 2, 1) := by decide +kernel
theorem d_M_pull_29 : decode c_M_pull 29 = .ok (.imul, 1) := by decide +kernel
theorem d_M_pull_30 : decode c_M_pull 30 = .ok (.iload 5, 2) := by decide +kernel
theorem d_M_pull_32 : decode c_M_pull 32 = .ok (.iadd, 1) := by decide +kernel
theorem d_M_pull_33 : decode c_M_pull 33 = .ok (.invokevirtual 154, 3) := by decide +kernel
theorem d_M_pull_36 : decode c_M_pull 36 = .ok (.aload_n 0, 1) := by decide +kernel
theorem d_M_pull_37 : decode c_M_pull 37 = .ok (.iload_n 1, 1) := by decide +kernel
theorem d_M_pull_38 : decode c_M_pull 38 = .ok (.aload_n 0, 1) := by decide +kernel
theorem d_M_pull_39 : decode c_M_pull 39 = .ok (.getfield 20, 3) := by decide +kernel
theorem d_M_pull_42 : decode c_M_pull 42 = .ok (.iload_n 2, 1) := by decide +kernel
theorem d_M_pull_43 : decode c_M_pull 43 = .ok (.iaload, 1) := by decide +kernel
theorem d_M_pull_44 : decode c_M_pull 44 = .ok (.iconst 2, 1) := by decide +kernel
theorem d_M_pull_45 : decode c_M_pull 45 = .ok (.imul, 1) := by decide +kernel
theorem d_M_pull_46 : decode c_M_pull 46 = .ok (.iload 5, 2) := by decide +kernel
theorem d_M_pull_48 : decode c_M_pull 48 = .ok (.iadd, 1) := by decide +kernel
theorem d_M_pull_49 : decode c_M_pull 49 = .ok (.invokevirtual 154, 3) := by decide +kernel
theorem d_M_pull_52 : decode c_M_pull 52 = .ok (.lsub, 1) := by decide +kernel
theorem d_M_pull_53 : decode c_M_pull 53 = .ok (.lmul, 1) := by decide +kernel
theorem d_M_pull_54 : decode c_M_pull 54 = .ok (.ladd, 1) := by decide +kernel
theorem d_M_pull_55 : decode c_M_pull 55 = .ok (.lstore_n 3, 1) := by decide +kernel
theorem d_M_pull_56 : decode c_M_pull 56 = .ok (.iinc 5 1, 3) := by decide +kernel
theorem d_M_pull_59 : decode c_M_pull 59 = .ok (.goto (-54), 3) := by decide +kernel
theorem d_M_pull_62 : decode c_M_pull 62 = .ok (.lload_n 3, 1) := by decide +kernel
theorem d_M_pull_63 : decode c_M_pull 63 = .ok (.aload_n 0, 1) := by decide +kernel
theorem d_M_pull_64 : decode c_M_pull 64 = .ok (.getfield 26, 3) := by decide +kernel
theorem d_M_pull_67 : decode c_M_pull 67 = .ok (.iload_n 2, 1) := by decide +kernel
theorem d_M_pull_68 : decode c_M_pull 68 = .ok (.iaload, 1) := by decide +kernel
theorem d_M_pull_69 : decode c_M_pull 69 = .ok (.i2l, 1) := by decide +kernel
theorem d_M_pull_70 : decode c_M_pull 70 = .ok (.lmul, 1) := by decide +kernel
theorem d_M_pull_71 : decode c_M_pull 71 = .ok (.lreturn, 1) := by decide +kernel
theorem d_M_reaction_0 : decode c_M_reaction 0 = .ok (.aload_n 0, 1) := by decide +kernel
theorem d_M_reaction_1 : decode c_M_reaction 1 = .ok (.getfield 61, 3) := by decide +kernel
theorem d_M_reaction_4 : decode c_M_reaction 4 = .ok (.ifCond .eq 49, 3) := by decide +kernel
theorem d_M_reaction_7 : decode c_M_reaction 7 = .ok (.aload_n 0, 1) := by decide +kernel
theorem d_M_reaction_8 : decode c_M_reaction 8 = .ok (.iload_n 1, 1) := by decide +kernel
theorem d_M_reaction_9 : decode c_M_reaction 9 = .ok (.iconst 3, 1) := by decide +kernel
theorem d_M_reaction_10 : decode c_M_reaction 10 = .ok (.invokevirtual 57, 3) := by decide +kernel
theorem d_M_reaction_13 : decode c_M_reaction 13 = .ok (.ifCond .ne 40, 3) := by decide +kernel
theorem d_M_reaction_16 : decode c_M_reaction 16 = .ok (.aload_n 0, 1) := by decide +kernel
theorem d_M_reaction_17 : decode c_M_reaction 17 = .ok (.iload_n 2, 1) := by decide +kernel
theorem d_M_reaction_18 : decode c_M_reaction 18 = .ok (.iconst 4, 1) := by decide +kernel
theorem d_M_reaction_19 : decode c_M_reaction 19 = .ok (.invokevirtual 57, 3) := by decide +kernel
theorem d_M_reaction_22 : decode c_M_reaction 22 = .ok (.ifCond .ne 31, 3) := by decide +kernel
theorem d_M_reaction_25 : decode c_M_reaction 25 = .ok (.aload_n 0, 1) := by decide +kernel
theorem d_M_reaction_26 : decode c_M_reaction 26 = .ok (.getfield 7, 3) := by decide +kernel
theorem d_M_reaction_29 : decode c_M_reaction 29 = .ok (.iload_n 2, 1) := by decide +kernel
theorem d_M_reaction_30 : decode c_M_reaction 30 = .ok (.baload, 1) := by decide +kernel
theorem d_M_reaction_31 : decode c_M_reaction 31 = .ok (.ifCond .eq 22, 3) := by decide +kernel
theorem d_M_reaction_34 : decode c_M_reaction 34 = .ok (.aload_n 0, 1) := by decide +kernel
theorem d_M_reaction_35 : decode c_M_reaction 35 = .ok (.iload_n 3, 1) := by decide +kernel
theorem d_M_reaction_36 : decode c_M_reaction 36 = .ok (.iconst 1, 1) := by decide +kernel
theorem d_M_reaction_37 : decode c_M_reaction 37 = .ok (.invokevirtual 57, 3) := by decide +kernel
theorem d_M_reaction_40 : decode c_M_reaction 40 = .ok (.ifCond .ne 13, 3) := by decide +kernel
theorem d_M_reaction_43 : decode c_M_reaction 43 = .ok (.aload_n 0, 1) := by decide +kernel
theorem d_M_reaction_44 : decode c_M_reaction 44 = .ok (.iload 4, 2) := by decide +kernel
theorem d_M_reaction_46 : decode c_M_reaction 46 = .ok (.iconst 1, 1) := by decide +kernel
theorem d_M_reaction_47 : decode c_M_reaction 47 = .ok (.invokevirtual 57, 3) := by decide +kernel
theorem d_M_reaction_50 : decode c_M_reaction 50 = .ok (.ifCond .eq 7, 3) := by decide +kernel
theorem d_M_reaction_53 : decode c_M_reaction 53 = .ok (.ldc2_w 148, 3) := by decide +kernel
theorem d_M_reaction_56 : decode c_M_reaction 56 = .ok (.lreturn, 1) := by decide +kernel
theorem d_M_reaction_57 : decode c_M_reaction 57 = .ok (.iload_n 2, 1) := by decide +kernel
theorem d_M_reaction_58 : decode c_M_reaction 58 = .ok (.iconst 2, 1) := by decide +kernel
theorem d_M_reaction_59 : decode c_M_reaction 59 = .ok (.imul, 1) := by decide +kernel
theorem d_M_reaction_60 : decode c_M_reaction 60 = .ok (.iload_n 3, 1) := by decide +kernel
theorem d_M_reaction_61 : decode c_M_reaction 61 = .ok (.iadd, 1) := by decide +kernel
theorem d_M_reaction_62 : decode c_M_reaction 62 = .ok (.istore 5, 2) := by decide +kernel
theorem d_M_reaction_64 : decode c_M_reaction 64 = .ok (.aload_n 0, 1) := by decide +kernel
theorem d_M_reaction_65 : decode c_M_reaction 65 = .ok (.getfield 29, 3) := by decide +kernel
theorem d_M_reaction_68 : decode c_M_reaction 68 = .ok (.iload 5, 2) := by decide +kernel
theorem d_M_reaction_70 : decode c_M_reaction 70 = .ok (.baload, 1) := by decide +kernel
theorem d_M_reaction_71 : decode c_M_reaction 71 = .ok (.ifCond .ne 7, 3) := by decide +kernel
theorem d_M_reaction_74 : decode c_M_reaction 74 = .ok (.ldc2_w 148, 3) := by decide +kernel
theorem d_M_reaction_77 : decode c_M_reaction 77 = .ok (.lreturn, 1) := by decide +kernel
theorem d_M_reaction_78 : decode c_M_reaction 78 = .ok (.aload_n 0, 1) := by decide +kernel
theorem d_M_reaction_79 : decode c_M_reaction 79 = .ok (.getfield 35, 3) := by decide +kernel
theorem d_M_reaction_82 : decode c_M_reaction 82 = .ok (.iload 5, 2) := by decide +kernel
theorem d_M_reaction_84 : decode c_M_reaction 84 = .ok (.iaload, 1) := by decide +kernel
theorem d_M_reaction_85 : decode c_M_reaction 85 = .ok (.i2l, 1) := by decide +kernel
theorem d_M_reaction_86 : decode c_M_reaction 86 = .ok (.aload_n 0, 1) := by decide +kernel
theorem d_M_reaction_87 : decode c_M_reaction 87 = .ok (.getfield 32, 3) := by decide +kernel
theorem d_M_reaction_90 : decode c_M_reaction 90 = .ok (.iload 5, 2) := by decide +kernel
theorem d_M_reaction_92 : decode c_M_reaction 92 = .ok (.iaload, 1) := by decide +kernel
theorem d_M_reaction_93 : decode c_M_reaction 93 = .ok (.i2l, 1) := by decide +kernel
theorem d_M_reaction_94 : decode c_M_reaction 94 = .ok (.lmul, 1) := by decide +kernel
theorem d_M_reaction_95 : decode c_M_reaction 95 = .ok (.aload_n 0, 1) := by decide +kernel
theorem d_M_reaction_96 : decode c_M_reaction 96 = .ok (.getfield 38, 3) := by decide +kernel
theorem d_M_reaction_99 : decode c_M_reaction 99 = .ok (.iload_n 1, 1) := by decide +kernel
theorem d_M_reaction_100 : decode c_M_reaction 100 = .ok (.bipush 10, 2) := by decide +kernel
theorem d_M_reaction_102 : decode c_M_reaction 102 = .ok (.imul, 1) := by decide +kernel
theorem d_M_reaction_103 : decode c_M_reaction 103 = .ok (.iload 5, 2) := by decide +kernel
theorem d_M_reaction_105 : decode c_M_reaction 105 = .ok (.iadd, 1) := by decide +kernel
theorem d_M_reaction_106 : decode c_M_reaction 106 = .ok (.iaload, 1) := by decide +kernel
theorem d_M_reaction_107 : decode c_M_reaction 107 = .ok (.i2l, 1) := by decide +kernel
theorem d_M_reaction_108 : decode c_M_reaction 108 = .ok (.lsub, 1) := by decide +kernel
theorem d_M_reaction_109 : decode c_M_reaction 109 = .ok (.aload_n 0, 1) := by decide +kernel
theorem d_M_reaction_110 : decode c_M_reaction 110 = .ok (.invokevirtual 157, 3) := by decide +kernel
theorem d_M_reaction_113 : decode c_M_reaction 113 = .ok (.lmul, 1) := by decide +kernel
theorem d_M_reaction_114 : decode c_M_reaction 114 = .ok (.lstore 6, 2) := by decide +kernel
theorem d_M_reaction_116 : decode c_M_reaction 116 = .ok (.iconst 0, 1) := by decide +kernel
theorem d_M_reaction_117 : decode c_M_reaction 117 = .ok (.istore 8, 2) := by decide +kernel
theorem d_M_reaction_119 : decode c_M_reaction 119 = .ok (.iload 8, 2) := by decide +kernel
theorem d_M_reaction_121 : decode c_M_reaction 121 = .ok (.aload_n 0, 1) := by decide +kernel
theorem d_M_reaction_122 : decode c_M_reaction 122 = .ok (.getfield 65, 3) := by decide +kernel
theorem d_M_reaction_125 : decode c_M_reaction 125 = .ok (.if_icmp .ge 83, 3) := by decide +kernel
theorem d_M_reaction_128 : decode c_M_reaction 128 = .ok (.aload_n 0, 1) := by decide +kernel
theorem d_M_reaction_129 : decode c_M_reaction 129 = .ok (.getfield 20, 3) := by decide +kernel
theorem d_M_reaction_132 : decode c_M_reaction 132 = .ok (.iload 8, 2) := by decide +kernel
theorem d_M_reaction_134 : decode c_M_reaction 134 = .ok (.iaload, 1) := by decide +kernel
theorem d_M_reaction_135 : decode c_M_reaction 135 = .ok (.iload_n 2, 1) := by decide +kernel
theorem d_M_reaction_136 : decode c_M_reaction 136 = .ok (.if_icmp .ne 29, 3) := by decide +kernel
theorem d_M_reaction_139 : decode c_M_reaction 139 = .ok (.lload 6, 2) := by decide +kernel
theorem d_M_reaction_141 : decode c_M_reaction 141 = .ok (.aload_n 0, 1) := by decide +kernel
theorem d_M_reaction_142 : decode c_M_reaction 142 = .ok (.iload 8, 2) := by decide +kernel
theorem d_M_reaction_144 : decode c_M_reaction 144 = .ok (.iload_n 3, 1) := by decide +kernel
theorem d_M_reaction_145 : decode c_M_reaction 145 = .ok (.invokevirtual 96, 3) := by decide +kernel
theorem d_M_reaction_148 : decode c_M_reaction 148 = .ok (.i2l, 1) := by decide +kernel
theorem d_M_reaction_149 : decode c_M_reaction 149 = .ok (.aload_n 0, 1) := by decide +kernel
theorem d_M_reaction_150 : decode c_M_reaction 150 = .ok (.iconst 1, 1) := by decide +kernel
theorem d_M_reaction_151 : decode c_M_reaction 151 = .ok (.bipush 8, 2) := by decide +kernel
theorem d_M_reaction_153 : decode c_M_reaction 153 = .ok (.iload_n 1, 1) := by decide +kernel
theorem d_M_reaction_154 : decode c_M_reaction 154 = .ok (.imul, 1) := by decide +kernel
theorem d_M_reaction_155 : decode c_M_reaction 155 = .ok (.ishl, 1) := by decide +kernel
theorem d_M_reaction_156 : decode c_M_reaction 156 = .ok (.iload 8, 2) := by decide +kernel
theorem d_M_reaction_158 : decode c_M_reaction 158 = .ok (.invokevirtual 165, 3) := by decide +kernel
theorem d_M_reaction_161 : decode c_M_reaction 161 = .ok (.lmul, 1) := by decide +kernel
theorem d_M_reaction_162 : decode c_M_reaction 162 = .ok (.lsub, 1) := by decide +kernel
theorem d_M_reaction_163 : decode c_M_reaction 163 = .ok (.lstore 6, 2) := by decide +kernel
theorem d_M_reaction_165 : decode c_M_reaction 165 = .ok (.aload_n 0, 1) := by decide +kernel
theorem d_M_reaction_166 : decode c_M_reaction 166 = .ok (.getfield 23, 3) := by decide +kernel
theorem d_M_reaction_169 : decode c_M_reaction 169 = .ok (.iload 8, 2) := by decide +kernel
theorem d_M_reaction_171 : decode c_M_reaction 171 = .ok (.iaload, 1) := by decide +kernel
theorem d_M_reaction_172 : decode c_M_reaction 172 = .ok (.iload_n 2, 1) := by decide +kernel
theorem d_M_reaction_173 : decode c_M_reaction 173 = .ok (.if_icmp .ne 29, 3) := by decide +kernel
theorem d_M_reaction_176 : decode c_M_reaction 176 = .ok (.lload 6, 2) := by decide +kernel
theorem d_M_reaction_178 : decode c_M_reaction 178 = .ok (.aload_n 0, 1) := by decide +kernel
theorem d_M_reaction_179 : decode c_M_reaction 179 = .ok (.iload 8, 2) := by decide +kernel
theorem d_M_reaction_181 : decode c_M_reaction 181 = .ok (.iload_n 3, 1) := by decide +kernel
theorem d_M_reaction_182 : decode c_M_reaction 182 = .ok (.invokevirtual 96, 3) := by decide +kernel
theorem d_M_reaction_185 : decode c_M_reaction 185 = .ok (.i2l, 1) := by decide +kernel
theorem d_M_reaction_186 : decode c_M_reaction 186 = .ok (.aload_n 0, 1) := by decide +kernel
theorem d_M_reaction_187 : decode c_M_reaction 187 = .ok (.iconst 1, 1) := by decide +kernel
theorem d_M_reaction_188 : decode c_M_reaction 188 = .ok (.bipush 8, 2) := by decide +kernel
theorem d_M_reaction_190 : decode c_M_reaction 190 = .ok (.iload_n 1, 1) := by decide +kernel
theorem d_M_reaction_191 : decode c_M_reaction 191 = .ok (.imul, 1) := by decide +kernel
theorem d_M_reaction_192 : decode c_M_reaction 192 = .ok (.ishl, 1) := by decide +kernel
theorem d_M_reaction_193 : decode c_M_reaction 193 = .ok (.iload 8, 2) := by decide +kernel
theorem d_M_reaction_195 : decode c_M_reaction 195 = .ok (.invokevirtual 165, 3) := by decide +kernel
theorem d_M_reaction_198 : decode c_M_reaction 198 = .ok (.lmul, 1) := by decide +kernel
theorem d_M_reaction_199 : decode c_M_reaction 199 = .ok (.ladd, 1) := by decide +kernel
theorem d_M_reaction_200 : decode c_M_reaction 200 = .ok (.lstore 6, 2) := by decide +kernel
theorem d_M_reaction_202 : decode c_M_reaction 202 = .ok (.iinc 8 1, 3) := by decide +kernel
theorem d_M_reaction_205 : decode c_M_reaction 205 = .ok (.goto (-86), 3) := by decide +kernel
theorem d_M_reaction_208 : decode c_M_reaction 208 = .ok (.aload_n 0, 1) := by decide +kernel
theorem d_M_reaction_209 : decode c_M_reaction 209 = .ok (.lload 6, 2) := by decide +kernel
theorem d_M_reaction_211 : decode c_M_reaction 211 = .ok (.aload_n 0, 1) := by decide +kernel
theorem d_M_reaction_212 : decode c_M_reaction 212 = .ok (.invokevirtual 157, 3) := by decide +kernel
theorem d_M_reaction_215 : decode c_M_reaction 215 = .ok (.iload 4, 2) := by decide +kernel
theorem d_M_reaction_217 : decode c_M_reaction 217 = .ok (.invokevirtual 161, 3) := by decide +kernel
theorem d_M_reaction_220 : decode c_M_reaction 220 = .ok (.lreturn, 1) := by decide +kernel
theorem d_M_order_0 : decode c_M_order 0 = .ok (.aload_n 0, 1) := by decide +kernel
theorem d_M_order_1 : decode c_M_order 1 = .ok (.getfield 61, 3) := by decide +kernel
theorem d_M_order_4 : decode c_M_order 4 = .ok (.ifCond .eq 7, 3) := by decide +kernel
theorem d_M_order_7 : decode c_M_order 7 = .ok (.iload_n 1, 1) := by decide +kernel
theorem d_M_order_8 : decode c_M_order 8 = .ok (.ifCond .ge 5, 3) := by decide +kernel
theorem d_M_order_11 : decode c_M_order 11 = .ok (.iconst (-1), 1) := by decide +kernel
theorem d_M_order_12 : decode c_M_order 12 = .ok (.ireturn, 1) := by decide +kernel
theorem d_M_order_13 : decode c_M_order 13 = .ok (.aload_n 0, 1) := by decide +kernel
theorem d_M_order_14 : decode c_M_order 14 = .ok (.invokevirtual 122, 3) := by decide +kernel
theorem d_M_order_17 : decode c_M_order 17 = .ok (.iload_n 1, 1) := by decide +kernel
theorem d_M_order_18 : decode c_M_order 18 = .ok (.aload_n 0, 1) := by decide +kernel
theorem d_M_order_19 : decode c_M_order 19 = .ok (.getfield 76, 3) := by decide +kernel
theorem d_M_order_22 : decode c_M_order 22 = .ok (.if_icmp .ge 12, 3) := by decide +kernel
theorem d_M_order_25 : decode c_M_order 25 = .ok (.aload_n 0, 1) := by decide +kernel
theorem d_M_order_26 : decode c_M_order 26 = .ok (.getfield 41, 3) := by decide +kernel
theorem d_M_order_29 : decode c_M_order 29 = .ok (.iload_n 1, 1) := by decide +kernel
theorem d_M_order_30 : decode c_M_order 30 = .ok (.iaload, 1) := by decide +kernel
theorem d_M_order_31 : decode c_M_order 31 = .ok (.goto 4, 3) := by decide +kernel
theorem d_M_order_34 : decode c_M_order 34 = .ok (.iconst (-1), 1) := by decide +kernel
theorem d_M_order_35 : decode c_M_order 35 = .ok (.ireturn, 1) := by decide +kernel
theorem d_M_unknown_0 : decode c_M_unknown 0 = .ok (.aload_n 0, 1) := by decide +kernel
theorem d_M_unknown_1 : decode c_M_unknown 1 = .ok (.getfield 61, 3) := by decide +kernel
theorem d_M_unknown_4 : decode c_M_unknown 4 = .ok (.ifCond .eq 30, 3) := by decide +kernel
theorem d_M_unknown_7 : decode c_M_unknown 7 = .ok (.aload_n 0, 1) := by decide +kernel
theorem d_M_unknown_8 : decode c_M_unknown 8 = .ok (.iload_n 1, 1) := by decide +kernel
theorem d_M_unknown_9 : decode c_M_unknown 9 = .ok (.iconst 4, 1) := by decide +kernel
theorem d_M_unknown_10 : decode c_M_unknown 10 = .ok (.invokevirtual 57, 3) := by decide +kernel
theorem d_M_unknown_13 : decode c_M_unknown 13 = .ok (.ifCond .ne 21, 3) := by decide +kernel
theorem d_M_unknown_16 : decode c_M_unknown 16 = .ok (.aload_n 0, 1) := by decide +kernel
theorem d_M_unknown_17 : decode c_M_unknown 17 = .ok (.getfield 7, 3) := by decide +kernel
theorem d_M_unknown_20 : decode c_M_unknown 20 = .ok (.iload_n 1, 1) := by decide +kernel
theorem d_M_unknown_21 : decode c_M_unknown 21 = .ok (.baload, 1) := by decide +kernel
theorem d_M_unknown_22 : decode c_M_unknown 22 = .ok (.ifCond .eq 12, 3) := by decide +kernel
theorem d_M_unknown_25 : decode c_M_unknown 25 = .ok (.aload_n 0, 1) := by decide +kernel
theorem d_M_unknown_26 : decode c_M_unknown 26 = .ok (.iload_n 2, 1) := by decide +kernel
theorem d_M_unknown_27 : decode c_M_unknown 27 = .ok (.iconst 1, 1) := by decide +kernel
theorem d_M_unknown_28 : decode c_M_unknown 28 = .ok (.invokevirtual 57, 3) := by decide +kernel
theorem d_M_unknown_31 : decode c_M_unknown 31 = .ok (.ifCond .eq 5, 3) := by decide +kernel
theorem d_M_unknown_34 : decode c_M_unknown 34 = .ok (.iconst (-1), 1) := by decide +kernel
theorem d_M_unknown_35 : decode c_M_unknown 35 = .ok (.ireturn, 1) := by decide +kernel
theorem d_M_unknown_36 : decode c_M_unknown 36 = .ok (.aload_n 0, 1) := by decide +kernel
theorem d_M_unknown_37 : decode c_M_unknown 37 = .ok (.invokevirtual 122, 3) := by decide +kernel
theorem d_M_unknown_40 : decode c_M_unknown 40 = .ok (.iconst 0, 1) := by decide +kernel
theorem d_M_unknown_41 : decode c_M_unknown 41 = .ok (.istore_n 3, 1) := by decide +kernel
theorem d_M_unknown_42 : decode c_M_unknown 42 = .ok (.iload_n 3, 1) := by decide +kernel
theorem d_M_unknown_43 : decode c_M_unknown 43 = .ok (.aload_n 0, 1) := by decide +kernel
theorem d_M_unknown_44 : decode c_M_unknown 44 = .ok (.getfield 93, 3) := by decide +kernel
theorem d_M_unknown_47 : decode c_M_unknown 47 = .ok (.if_icmp .ge 25, 3) := by decide +kernel
theorem d_M_unknown_50 : decode c_M_unknown 50 = .ok (.aload_n 0, 1) := by decide +kernel
theorem d_M_unknown_51 : decode c_M_unknown 51 = .ok (.getfield 44, 3) := by decide +kernel
theorem d_M_unknown_54 : decode c_M_unknown 54 = .ok (.iload_n 3, 1) := by decide +kernel
theorem d_M_unknown_55 : decode c_M_unknown 55 = .ok (.iaload, 1) := by decide +kernel
theorem d_M_unknown_56 : decode c_M_unknown 56 = .ok (.iload_n 1, 1) := by decide +kernel
theorem d_M_unknown_57 : decode c_M_unknown 57 = .ok (.iconst 2, 1) := by decide +kernel
theorem d_M_unknown_58 : decode c_M_unknown 58 = .ok (.imul, 1) := by decide +kernel
theorem d_M_unknown_59 : decode c_M_unknown 59 = .ok (.iload_n 2, 1) := by decide +kernel
theorem d_M_unknown_60 : decode c_M_unknown 60 = .ok (.iadd, 1) := by decide +kernel
theorem d_M_unknown_61 : decode c_M_unknown 61 = .ok (.if_icmp .ne 5, 3) := by decide +kernel
theorem d_M_unknown_64 : decode c_M_unknown 64 = .ok (.iload_n 3, 1) := by decide +kernel
theorem d_M_unknown_65 : decode c_M_unknown 65 = .ok (.ireturn, 1) := by decide +kernel
theorem d_M_unknown_66 : decode c_M_unknown 66 = .ok (.iinc 3 1, 3) := by decide +kernel
theorem d_M_unknown_69 : decode c_M_unknown 69 = .ok (.goto (-27), 3) := by decide +kernel
theorem d_M_unknown_72 : decode c_M_unknown 72 = .ok (.bipush (-2), 2) := by decide +kernel
theorem d_M_unknown_74 : decode c_M_unknown 74 = .ok (.ireturn, 1) := by decide +kernel
theorem d_M_count_0 : decode c_M_count 0 = .ok (.aload_n 0, 1) := by decide +kernel
theorem d_M_count_1 : decode c_M_count 1 = .ok (.iload_n 1, 1) := by decide +kernel
theorem d_M_count_2 : decode c_M_count 2 = .ok (.iconst 4, 1) := by decide +kernel
theorem d_M_count_3 : decode c_M_count 3 = .ok (.invokevirtual 57, 3) := by decide +kernel
theorem d_M_count_6 : decode c_M_count 6 = .ok (.ifCond .eq 5, 3) := by decide +kernel
theorem d_M_count_9 : decode c_M_count 9 = .ok (.iconst (-1), 1) := by decide +kernel
theorem d_M_count_10 : decode c_M_count 10 = .ok (.ireturn, 1) := by decide +kernel
theorem d_M_count_11 : decode c_M_count 11 = .ok (.iload_n 1, 1) := by decide +kernel
theorem d_M_count_12 : decode c_M_count 12 = .ok (.iconst 1, 1) := by decide +kernel
theorem d_M_count_13 : decode c_M_count 13 = .ok (.if_icmp .ne 8, 3) := by decide +kernel
theorem d_M_count_16 : decode c_M_count 16 = .ok (.aload_n 0, 1) := by decide +kernel
theorem d_M_count_17 : decode c_M_count 17 = .ok (.getfield 65, 3) := by decide +kernel
theorem d_M_count_20 : decode c_M_count 20 = .ok (.ireturn, 1) := by decide +kernel
theorem d_M_count_21 : decode c_M_count 21 = .ok (.iload_n 1, 1) := by decide +kernel
theorem d_M_count_22 : decode c_M_count 22 = .ok (.iconst 2, 1) := by decide +kernel
theorem d_M_count_23 : decode c_M_count 23 = .ok (.if_icmp .ne 16, 3) := by decide +kernel
theorem d_M_count_26 : decode c_M_count 26 = .ok (.aload_n 0, 1) := by decide +kernel
theorem d_M_count_27 : decode c_M_count 27 = .ok (.getfield 61, 3) := by decide +kernel
theorem d_M_count_30 : decode c_M_count 30 = .ok (.ifCond .eq 7, 3) := by decide +kernel
theorem d_M_count_33 : decode c_M_count 33 = .ok (.iconst 1, 1) := by decide +kernel
theorem d_M_count_34 : decode c_M_count 34 = .ok (.goto 4, 3) := by decide +kernel
theorem d_M_count_37 : decode c_M_count 37 = .ok (.iconst 0, 1) := by decide +kernel
theorem d_M_count_38 : decode c_M_count 38 = .ok (.ireturn, 1) := by decide +kernel
theorem d_M_count_39 : decode c_M_count 39 = .ok (.iload_n 1, 1) := by decide +kernel
theorem d_M_count_40 : decode c_M_count 40 = .ok (.ifCond .ne 32, 3) := by decide +kernel
theorem d_M_count_43 : decode c_M_count 43 = .ok (.iconst 0, 1) := by decide +kernel
theorem d_M_count_44 : decode c_M_count 44 = .ok (.istore_n 2, 1) := by decide +kernel
theorem d_M_count_45 : decode c_M_count 45 = .ok (.iconst 0, 1) := by decide +kernel
theorem d_M_count_46 : decode c_M_count 46 = .ok (.istore_n 3, 1) := by decide +kernel
theorem d_M_count_47 : decode c_M_count 47 = .ok (.iload_n 3, 1) := by decide +kernel
theorem d_M_count_48 : decode c_M_count 48 = .ok (.iconst 5, 1) := by decide +kernel
theorem d_M_count_49 : decode c_M_count 49 = .ok (.if_icmp .ge 21, 3) := by decide +kernel
theorem d_M_count_52 : decode c_M_count 52 = .ok (.aload_n 0, 1) := by decide +kernel
theorem d_M_count_53 : decode c_M_count 53 = .ok (.getfield 7, 3) := by decide +kernel
theorem d_M_count_56 : decode c_M_count 56 = .ok (.iload_n 3, 1) := by decide +kernel
theorem d_M_count_57 : decode c_M_count 57 = .ok (.baload, 1) := by decide +kernel
theorem d_M_count_58 : decode c_M_count 58 = .ok (.ifCond .eq 6, 3) := by decide +kernel
theorem d_M_count_61 : decode c_M_count 61 = .ok (.iinc 2 1, 3) := by decide +kernel
theorem d_M_count_64 : decode c_M_count 64 = .ok (.iinc 3 1, 3) := by decide +kernel
theorem d_M_count_67 : decode c_M_count 67 = .ok (.goto (-20), 3) := by decide +kernel
theorem d_M_count_70 : decode c_M_count 70 = .ok (.iload_n 2, 1) := by decide +kernel
theorem d_M_count_71 : decode c_M_count 71 = .ok (.ireturn, 1) := by decide +kernel
theorem d_M_count_72 : decode c_M_count 72 = .ok (.aload_n 0, 1) := by decide +kernel
theorem d_M_count_73 : decode c_M_count 73 = .ok (.getfield 61, 3) := by decide +kernel
theorem d_M_count_76 : decode c_M_count 76 = .ok (.ifCond .ne 5, 3) := by decide +kernel
theorem d_M_count_79 : decode c_M_count 79 = .ok (.iconst 0, 1) := by decide +kernel
theorem d_M_count_80 : decode c_M_count 80 = .ok (.ireturn, 1) := by decide +kernel
theorem d_M_count_81 : decode c_M_count 81 = .ok (.aload_n 0, 1) := by decide +kernel
theorem d_M_count_82 : decode c_M_count 82 = .ok (.invokevirtual 122, 3) := by decide +kernel
theorem d_M_count_85 : decode c_M_count 85 = .ok (.iload_n 1, 1) := by decide +kernel
theorem d_M_count_86 : decode c_M_count 86 = .ok (.iconst 3, 1) := by decide +kernel
theorem d_M_count_87 : decode c_M_count 87 = .ok (.if_icmp .ne 10, 3) := by decide +kernel
theorem d_M_count_90 : decode c_M_count 90 = .ok (.aload_n 0, 1) := by decide +kernel
theorem d_M_count_91 : decode c_M_count 91 = .ok (.getfield 93, 3) := by decide +kernel
theorem d_M_count_94 : decode c_M_count 94 = .ok (.goto 7, 3) := by decide +kernel
theorem d_M_count_97 : decode c_M_count 97 = .ok (.aload_n 0, 1) := by decide +kernel
theorem d_M_count_98 : decode c_M_count 98 = .ok (.invokevirtual 168, 3) := by decide +kernel
theorem d_M_count_101 : decode c_M_count 101 = .ok (.ireturn, 1) := by decide +kernel
theorem d_M_profile_0 : decode c_M_profile 0 = .ok (.aload_n 0, 1) := by decide +kernel
theorem d_M_profile_1 : decode c_M_profile 1 = .ok (.invokevirtual 128, 3) := by decide +kernel
theorem d_M_profile_4 : decode c_M_profile 4 = .ok (.iconst 0, 1) := by decide +kernel
theorem d_M_profile_5 : decode c_M_profile 5 = .ok (.istore_n 1, 1) := by decide +kernel
theorem d_M_profile_6 : decode c_M_profile 6 = .ok (.iconst 0, 1) := by decide +kernel
theorem d_M_profile_7 : decode c_M_profile 7 = .ok (.istore_n 2, 1) := by decide +kernel
theorem d_M_profile_8 : decode c_M_profile 8 = .ok (.iload_n 2, 1) := by decide +kernel
theorem d_M_profile_9 : decode c_M_profile 9 = .ok (.aload_n 0, 1) := by decide +kernel
theorem d_M_profile_10 : decode c_M_profile 10 = .ok (.getfield 93, 3) := by decide +kernel
theorem d_M_profile_13 : decode c_M_profile 13 = .ok (.if_icmp .ge 59, 3) := by decide +kernel
theorem d_M_profile_16 : decode c_M_profile 16 = .ok (.iload_n 2, 1) := by decide +kernel
theorem d_M_profile_17 : decode c_M_profile 17 = .ok (.istore_n 3, 1) := by decide +kernel
theorem d_M_profile_18 : decode c_M_profile 18 = .ok (.iload_n 2, 1) := by decide +kernel
theorem d_M_profile_19 : decode c_M_profile 19 = .ok (.istore 4, 2) := by decide +kernel
theorem d_M_profile_21 : decode c_M_profile 21 = .ok (.iload 4, 2) := by decide +kernel
theorem d_M_profile_23 : decode c_M_profile 23 = .ok (.ifCond .lt 37, 3) := by decide +kernel
theorem d_M_profile_26 : decode c_M_profile 26 = .ok (.aload_n 0, 1) := by decide +kernel
theorem d_M_profile_27 : decode c_M_profile 27 = .ok (.getfield 47, 3) := by decide +kernel
theorem d_M_profile_30 : decode c_M_profile 30 = .ok (.aload_n 0, 1) := by decide +kernel
theorem d_M_profile_31 : decode c_M_profile 31 = .ok (.getfield 44, 3) := by decide +kernel
theorem d_M_profile_34 : decode c_M_profile 34 = .ok (.iload_n 2, 1) := by decide +kernel
theorem d_M_profile_35 : decode c_M_profile 35 = .ok (.iaload, 1) := by decide +kernel
theorem d_M_profile_36 : decode c_M_profile 36 = .ok (.bipush 10, 2) := by decide +kernel
theorem d_M_profile_38 : decode c_M_profile 38 = .ok (.imul, 1) := by decide +kernel
theorem d_M_profile_39 : decode c_M_profile 39 = .ok (.aload_n 0, 1) := by decide +kernel
theorem d_M_profile_40 : decode c_M_profile 40 = .ok (.getfield 44, 3) := by decide +kernel
theorem d_M_profile_43 : decode c_M_profile 43 = .ok (.iload 4, 2) := by decide +kernel
theorem d_M_profile_45 : decode c_M_profile 45 = .ok (.iaload, 1) := by decide +kernel
theorem d_M_profile_46 : decode c_M_profile 46 = .ok (.iadd, 1) := by decide +kernel
theorem d_M_profile_47 : decode c_M_profile 47 = .ok (.iaload, 1) := by decide +kernel
theorem d_M_profile_48 : decode c_M_profile 48 = .ok (.ifCond .eq 6, 3) := by decide +kernel
theorem d_M_profile_51 : decode c_M_profile 51 = .ok (.iload 4, 2) := by decide +kernel
theorem d_M_profile_53 : decode c_M_profile 53 = .ok (.istore_n 3, 1) := by decide +kernel
theorem d_M_profile_54 : decode c_M_profile 54 = .ok (.iinc 4 (-1), 3) := by decide +kernel
theorem d_M_profile_57 : decode c_M_profile 57 = .ok (.goto (-36), 3) := by decide +kernel
theorem d_M_profile_60 : decode c_M_profile 60 = .ok (.iload_n 1, 1) := by decide +kernel
theorem d_M_profile_61 : decode c_M_profile 61 = .ok (.iload_n 2, 1) := by decide +kernel
theorem d_M_profile_62 : decode c_M_profile 62 = .ok (.iload_n 3, 1) := by decide +kernel
theorem d_M_profile_63 : decode c_M_profile 63 = .ok (.isub, 1) := by decide +kernel
theorem d_M_profile_64 : decode c_M_profile 64 = .ok (.iadd, 1) := by decide +kernel
theorem d_M_profile_65 : decode c_M_profile 65 = .ok (.istore_n 1, 1) := by decide +kernel
theorem d_M_profile_66 : decode c_M_profile 66 = .ok (.iinc 2 1, 3) := by decide +kernel
theorem d_M_profile_69 : decode c_M_profile 69 = .ok (.goto (-61), 3) := by decide +kernel
theorem d_M_profile_72 : decode c_M_profile 72 = .ok (.iload_n 1, 1) := by decide +kernel
theorem d_M_profile_73 : decode c_M_profile 73 = .ok (.ireturn, 1) := by decide +kernel
end
section
/-! Rows over a store: the cells of a thing whose shape is fixed, by number; ad: their addresses, g: what they hold -/
def wl (n : Nat) (ad : Nat → Nat) (g : Nat → va_E) : va_W := (List.range n).map (fun k => (ad k, g k))
theorem wl_get {n : Nat} {ad : Nat → Nat} {g : Nat → va_E} {k : Nat} (h : k < n) : (wl n ad g)[k]? = some (ad k, g k) := by
  simp [wl, h]
theorem wl_at {n : Nat} {ad : Nat → Nat} {g : Nat → va_E} {k : Nat} {q : Nat × va_E} (h : (wl n ad g)[k]? = some q) : k < n ∧ q = (ad k, g k) := by
  by_cases hk : k < n
  · rw [wl_get hk] at h
    exact ⟨hk, (Option.some.inj h).symm⟩
  · have : (wl n ad g)[k]? = none := by simp [wl]; omega
    rw [this] at h
    cases h
theorem wl_len (n : Nat) (ad : Nat → Nat) (g : Nat → va_E) : (wl n ad g).length = n := by simp [wl]
theorem wl_none {n : Nat} {ad : Nat → Nat} {g : Nat → va_E} {k : Nat} (h : ¬ k < n) : (wl n ad g)[k]? = none := List.getElem?_eq_none (by rw [wl_len]; omega)
theorem wl_set {n : Nat} {ad : Nat → Nat} {g : Nat → va_E} {k : Nat} {x : va_E} (hk : k < n) : (wl n ad g).set k (ad k, x) = wl n ad (va_up g k x) := by
  apply List.ext_getElem?
  intro i
  rw [List.getElem?_set, wl_len]
  by_cases hi : i < n
  · rw [wl_get (g := va_up g k x) hi]
    by_cases hki : k = i
    · subst hki
      rw [if_pos rfl, if_pos hk]
      simp [va_up]
    · rw [if_neg hki, wl_get hi]
      simp [va_up, Ne.symm hki]
  · rw [wl_none hi, if_neg (by omega), wl_none hi]
theorem wl_congr {n : Nat} {ad : Nat → Nat} {g h : Nat → va_E} (q : ∀ k, k < n → g k = h k) : wl n ad g = wl n ad h := by
  apply List.ext_getElem?
  intro i
  by_cases hi : i < n
  · rw [wl_get hi, wl_get hi, q i hi]
  · rw [wl_none hi, wl_none hi]
theorem wl_D {A : Nat → Prop} {n : Nat} {ad : Nat → Nat} {g h : Nat → va_E} (hD : va_D A (wl n ad g)) : va_D A (wl n ad h) := by
  refine ⟨fun i j p q hp hq e => ?_, fun k q hk => ?_⟩
  · obtain ⟨hi, rfl⟩ := wl_at hp
    obtain ⟨hj, rfl⟩ := wl_at hq
    exact hD.1 i j (ad i, g i) (ad j, g j) (wl_get hi) (wl_get hj) e
  · obtain ⟨hi, rfl⟩ := wl_at hk
    exact hD.2 k (ad k, g k) (wl_get hi)
theorem wl_A {A : Nat → Prop} {n : Nat} {ad : Nat → Nat} {g h : Nat → va_E} {H0 H : Heap} {locs : List Loc} (hD : va_D A (wl n ad g)) (hS : va_S A H0 H locs) (hA : ∀ q, H0.size ≤ q → A q) : ∀ q, va_A (wl n ad h) H.size q → A q := by
  intro q hq
  rcases hq with ⟨k, x, hk⟩ | hq
  · obtain ⟨hi, e⟩ := wl_at hk
    have : q = ad k := congrArg Prod.fst e
    subst this
    exact hD.2 k (ad k, g k) (wl_get hi)
  · exact hA q (Nat.le_trans hS.1 hq)
/-- the numbers of a store: whole numbers, long ones, rows of them -/
abbrev gS : Type := (Nat → Int32) × (Nat → Int64) × (Nat → Nat → Int32) × (Nat → Nat → Int64)
def s_i (z : gS) (k : Nat) (x : Int32) : gS := (va_up z.1 k x, z.2)
def s_l (z : gS) (k : Nat) (x : Int64) : gS := (z.1, va_up z.2.1 k x, z.2.2)
def s_I (z : gS) (k : Nat) (h : Nat → Int32) : gS := (z.1, z.2.1, va_up z.2.2.1 k h, z.2.2.2)
def s_J (z : gS) (k : Nat) (h : Nat → Int64) : gS := (z.1, z.2.1, z.2.2.1, va_up z.2.2.2 k h)
/-- the cells out of the numbers: kd their kinds (1 int, 2 boolean, 3 long; else as ob says), ln their lengths -/
def gE (kd ln : Nat → Nat) (cy : Nat → ClassId) (ob : (Nat → Int32) → (Nat → Int64) → Nat → va_E) (z : gS) (k : Nat) : va_E := if kd k = 1 then .inl (cy 0, ln k, .inl (z.2.2.1 k)) else if kd k = 2 then .inl (cy 1, ln k, .inl (z.2.2.1 k)) else if kd k = 3 then .inl (cy 2, ln k, .inr (.inl (z.2.2.2 k))) else ob z.1 z.2.1 k
abbrev gTy (cy : Nat → ClassId) : List (ClassId × FieldType) := [(cy 0, .int), (cy 1, .boolean), (cy 2, .long), (cy 3, .array .int), (cy 4, .array .long)]
section GE
variable {kd ln : Nat → Nat} {cy : Nat → ClassId} {ob : (Nat → Int32) → (Nat → Int64) → Nat → va_E} {z : gS} {k : Nat}
theorem gE_1 (h : kd k = 1) : gE kd ln cy ob z k = .inl (cy 0, ln k, .inl (z.2.2.1 k)) := by unfold gE; rw [if_pos h]
theorem gE_2 (h : kd k = 2) : gE kd ln cy ob z k = .inl (cy 1, ln k, .inl (z.2.2.1 k)) := by unfold gE; rw [if_neg (by omega), if_pos h]
theorem gE_3 (h : kd k = 3) : gE kd ln cy ob z k = .inl (cy 2, ln k, .inr (.inl (z.2.2.2 k))) := by unfold gE; rw [if_neg (by omega), if_neg (by omega), if_pos h]
theorem gE_0 (h : kd k = 0) : gE kd ln cy ob z k = ob z.1 z.2.1 k := by unfold gE; rw [if_neg (by omega), if_neg (by omega), if_neg (by omega)]
theorem gE_u1 (h : kd k = 1) {f : Nat → Int32} : va_up (gE kd ln cy ob z) k (.inl (cy 0, ln k, .inl f)) = gE kd ln cy ob (s_I z k f) := by
  funext j
  by_cases e : j = k
  · subst e
    rw [gE_1 h]
    simp [va_up, s_I]
  · unfold gE
    simp [va_up, e, s_I]
theorem gE_u2 (h : kd k = 2) {f : Nat → Int32} : va_up (gE kd ln cy ob z) k (.inl (cy 1, ln k, .inl f)) = gE kd ln cy ob (s_I z k f) := by
  funext j
  by_cases e : j = k
  · subst e
    rw [gE_2 h]
    simp [va_up, s_I]
  · unfold gE
    simp [va_up, e, s_I]
theorem gE_u3 (h : kd k = 3) {f : Nat → Int64} : va_up (gE kd ln cy ob z) k (.inl (cy 2, ln k, .inr (.inl f))) = gE kd ln cy ob (s_J z k f) := by
  funext j
  by_cases e : j = k
  · subst e
    rw [gE_3 h]
    simp [va_up, s_J]
  · unfold gE
    simp [va_up, e, s_J]
theorem gE_ui (h : kd k = 0) {v : va_E} {j0 : Nat} {x : Int32} (hob : ∀ j, va_up (ob z.1 z.2.1) k v j = ob (va_up z.1 j0 x) z.2.1 j) : va_up (gE kd ln cy ob z) k v = gE kd ln cy ob (s_i z j0 x) := by
  funext j
  have q := hob j
  by_cases e : j = k
  · subst e
    rw [gE_0 h]
    simpa [va_up, s_i] using q
  · unfold gE
    simp only [va_up, e, if_false, s_i] at q ⊢
    rw [q]
theorem gE_ul (h : kd k = 0) {v : va_E} {j0 : Nat} {x : Int64} (hob : ∀ j, va_up (ob z.1 z.2.1) k v j = ob z.1 (va_up z.2.1 j0 x) j) : va_up (gE kd ln cy ob z) k v = gE kd ln cy ob (s_l z j0 x) := by
  funext j
  have q := hob j
  by_cases e : j = k
  · subst e
    rw [gE_0 h]
    simpa [va_up, s_l] using q
  · unfold gE
    simp only [va_up, e, if_false, s_l] at q ⊢
    rw [q]
end GE
/-! checks of a mirror: what it tells where it answers -/
theorem op_chk {α : Type} {c : Prop} [Decidable c] {x : Option α} {y : α} (h : (if c then none else x) = some y) : ¬ c ∧ x = some y := by
  by_cases hc : c
  · rw [if_pos hc] at h; cases h
  · rw [if_neg hc] at h; exact ⟨hc, h⟩
theorem op_bnd {α β : Type} {x : Option α} {f : α → Option β} {y : β} (h : x.bind f = some y) : ∃ a, x = some a ∧ f a = some y := Option.bind_eq_some_iff.mp h
theorem op_pos {α : Type} {c : Prop} [Decidable c] {x y : Option α} {z : α} (h : (if c then x else y) = some z) (hc : c) : x = some z := by rw [if_pos hc] at h; exact h
theorem op_neg {α : Type} {c : Prop} [Decidable c] {x y : Option α} {z : α} (h : (if c then x else y) = some z) (hc : ¬ c) : y = some z := by rw [if_neg hc] at h; exact h
/-! a method's start and end over a store -/
abbrev sPc (D : va_G) (cl : List vw_C) (tys : List (ClassId × FieldType)) (nw : State → Prop) (n : Nat) (ad : Nat → Nat) (g : Nat → va_E) (sz : Nat) (av : List Value) : Array Value → State → Prop := va_Pc av (fun U => U.heap.size = sz ∧ va_P D cl (wl n ad g) U.heap ∧ va_K D cl tys U ∧ nw U ∧ va_D (fun _ => True) (wl n ad g))
abbrev sQi (D : va_G) (cl : List vw_C) (n : Nat) (ad : Nat → Nat) (g : Nat → va_E) (sz : Nat) (r : Int32) (g' : Nat → va_E) : Array Value → State → Outcome → State → Prop := va_Qi (fun x (_ : Unit) => x = r) (fun _ t => va_P D cl (wl n ad g') t.heap) (va_A (wl n ad g) sz)
abbrev sQl (D : va_G) (cl : List vw_C) (n : Nat) (ad : Nat → Nat) (g : Nat → va_E) (sz : Nat) (r : Int64) (g' : Nat → va_E) : Array Value → State → Outcome → State → Prop := va_Ql (fun x (_ : Unit) => x = r) (fun _ t => va_P D cl (wl n ad g') t.heap) (va_A (wl n ad g) sz)
abbrev sQv (D : va_G) (cl : List vw_C) (n : Nat) (ad : Nat → Nat) (g : Nat → va_E) (sz : Nat) (g' : Nat → va_E) : Array Value → State → Outcome → State → Prop := va_Qv (fun (_ : Unit) => True) (fun _ t => va_P D cl (wl n ad g') t.heap) (va_A (wl n ad g) sz)
/-- what of the start lasts: words of nest mates -/
def nwOk (nw : State → Prop) : Prop := (∀ s U : State, s.WarmedH U.vm → nw s → nw U) ∧ ∀ s U : State, s.vm = U.vm → nw s → nw U
section WX
variable {p : Program} {l : Launch} {e : Env} {R : Room} {s : State} {m : MethodId} {args : Array Value} {below : List Frame} {meth : Method} {c : Code} {H : Heap} {locs : List Loc} {cells slots : Nat} {Q : State → Prop}
variable {cc : ByteArray} {pc : Nat} {ls : Array Slot} {rest : List Value} {D : va_G} {cl : List vw_C} {A : Nat → Prop} {tys : List (ClassId × FieldType)} {H0 : Heap} {n : Nat} {ad : Nat → Nat} {g : Nat → va_E}
theorem wx_get (hexec : p.tables.exec = Jvm.exec) (hb : c.code = cc) {own ref C : String} {T : u_T} {N ci index : Nat} {Ts : List Cond} (hts : ∀ w ∈ Ts, w.before args s = true) (hin : ∀ w ∈ u_ws C T N, w ∈ Ts) (hown : s.vm.findClass own = some m.cls) (hK : va_K D cl tys s) (hP : va_P D cl (wl n ad g) H) (q : Nat) (hq : q < n) {fs : List Value} (he : g q = .inr (ci, fs)) (hc : cl[ci]? = some (C, T, N)) (k : Nat) (hk : k < N) (hlink : (Cond.fieldLink own index ref (T k).2.1 (T k).2.2.1).before args s = true) (hsame : ∀ x, s.fieldFound? (T k).1 (T k).2.1 (T k).2.2.1 = some x → s.fieldFound? ref (T k).2.1 (T k).2.2.1 = some x) {v : Value} (hv : fs[k]? = some v) (hdg : decode cc pc = .ok (.getfield index, 3))
    (kk : W p l e R s m args below meth c H locs cells slots Q (F0 m (pc + 3) ls (v :: rest))) : W p l e R s m args below meth c H locs cells slots Q (F0 m pc ls (.ref (ad q) :: rest)) := va_get hexec hb hts hin hown hK hP q (by rw [wl_get hq, he]) hc k hk hlink hsame hv hdg kk
theorem wx_put (hexec : p.tables.exec = Jvm.exec) (hb : c.code = cc) {own ref C : String} {T : u_T} {N ci index : Nat} {Ts : List Cond} (hts : ∀ w ∈ Ts, w.before args s = true) (hin : ∀ w ∈ u_ws C T N, w ∈ Ts) (ty0 : Nat → FieldType) (hty : ∀ k, k < N → parseFieldDescriptor (T k).2.2.1 = some (ty0 k)) (hnm : ∀ a, a < N → ∀ b, b < N → a ≠ b → (T a).2.1 ≠ (T b).2.1) (hown : s.vm.findClass own = some m.cls) (hK : va_K D cl tys s) (hP : va_P D cl (wl n ad g) H) (hD : va_D A (wl n ad g)) (hS0 : va_S A H0 H locs) (q : Nat) (hq : q < n) {fs : List Value} (he : g q = .inr (ci, fs)) (hc : cl[ci]? = some (C, T, N)) (k : Nat) (hk : k < N) (hlink : (Cond.fieldLink own index ref (T k).2.1 (T k).2.2.1).before args s = true) (hsame : ∀ x, s.fieldFound? (T k).1 (T k).2.1 (T k).2.2.1 = some x → s.fieldFound? ref (T k).2.1 (T k).2.2.1 = some x) (hfin : (T k).2.2.2 = false) {ty : FieldType} {v : Value} (hd : parseFieldDescriptor (T k).2.2.1 = some ty) (hn : narrow ty v = v) (hfit : fits ty v = true) (hl : k < fs.length) (hdg : decode cc pc = .ok (.putfield index, 3)) {g' : Nat → va_E} (hg' : va_up g q (.inr (ci, fs.set k v)) = g')
    (kk : ∀ (H1 : Heap) (locs1 : List Loc), va_P D cl (wl n ad g') H1 → va_S A H0 H1 locs1 → W p l e R s m args below meth c H1 locs1 cells slots Q (F0 m (pc + 3) ls rest)) : W p l e R s m args below meth c H locs cells slots Q (F0 m pc ls (v :: .ref (ad q) :: rest)) := by
  subst hg'
  refine va_put hexec hb hts hin ty0 hty hnm hown hK hP hD hS0 q (by rw [wl_get hq, he]) hc k hk hlink hsame hfin hd hn hfit hl hdg (fun H1 locs1 h1 _ h3 => ?_)
  rw [wl_set hq] at h1
  exact kk H1 locs1 h1 h3
variable {kd ln : Nat → Nat} {cy : Nat → ClassId} {ob : (Nat → Int32) → (Nat → Int64) → Nat → va_E} {z : gS}
theorem wx_iald (hexec : p.tables.exec = Jvm.exec) (hb : c.code = cc) (hK : va_K D cl (gTy cy) s) (hP : va_P D cl (wl n ad (gE kd ln cy ob z)) H) (k : Nat) (hk : k < n) (hkd : kd k = 1) (N : Nat) (hN : ln k = N) {i : Int32} (hin : vp_in i N) (hdg : decode cc pc = .ok (.iaload, 1))
    (kk : W p l e R s m args below meth c H locs cells slots Q (F0 m (pc + 1) ls (.int (z.2.2.1 k i.toNatClampNeg) :: rest))) : W p l e R s m args below meth c H locs cells slots Q (F0 m pc ls (.int i :: .ref (ad k) :: rest)) := va_iald hexec hb hK hP k 0 (by rw [wl_get hk, gE_1 hkd, hN]) rfl hin hdg kk
theorem wx_zald (hexec : p.tables.exec = Jvm.exec) (hb : c.code = cc) (hK : va_K D cl (gTy cy) s) (hP : va_P D cl (wl n ad (gE kd ln cy ob z)) H) (k : Nat) (hk : k < n) (hkd : kd k = 2) (N : Nat) (hN : ln k = N) {i : Int32} (hin : vp_in i N) (hdg : decode cc pc = .ok (.baload, 1))
    (kk : W p l e R s m args below meth c H locs cells slots Q (F0 m (pc + 1) ls (.int (z.2.2.1 k i.toNatClampNeg) :: rest))) : W p l e R s m args below meth c H locs cells slots Q (F0 m pc ls (.int i :: .ref (ad k) :: rest)) := va_zald hexec hb hK hP k 1 (by rw [wl_get hk, gE_2 hkd, hN]) rfl hin hdg kk
theorem wx_lald (hexec : p.tables.exec = Jvm.exec) (hb : c.code = cc) (hK : va_K D cl (gTy cy) s) (hP : va_P D cl (wl n ad (gE kd ln cy ob z)) H) (k : Nat) (hk : k < n) (hkd : kd k = 3) (N : Nat) (hN : ln k = N) {i : Int32} (hin : vp_in i N) (hdg : decode cc pc = .ok (.laload, 1))
    (kk : W p l e R s m args below meth c H locs cells slots Q (F0 m (pc + 1) ls (.long (z.2.2.2 k i.toNatClampNeg) :: rest))) : W p l e R s m args below meth c H locs cells slots Q (F0 m pc ls (.int i :: .ref (ad k) :: rest)) := va_lald hexec hb hK hP k 2 (by rw [wl_get hk, gE_3 hkd, hN]) rfl hin hdg kk
theorem wx_iast (hexec : p.tables.exec = Jvm.exec) (hb : c.code = cc) (hK : va_K D cl (gTy cy) s) (hP : va_P D cl (wl n ad (gE kd ln cy ob z)) H) (hD : va_D A (wl n ad (gE kd ln cy ob z))) (hS : va_S A H0 H locs) (k : Nat) (hk : k < n) (hkd : kd k = 1) (N : Nat) (hN : ln k = N) {i x : Int32} (hin : vp_in i N) (hdg : decode cc pc = .ok (.iastore, 1))
    (kk : ∀ (H1 : Heap) (locs1 : List Loc), va_P D cl (wl n ad (gE kd ln cy ob (s_I z k (upd (z.2.2.1 k) i.toNatClampNeg x)))) H1 → va_S A H0 H1 locs1 → W p l e R s m args below meth c H1 locs1 cells slots Q (F0 m (pc + 1) ls rest)) : W p l e R s m args below meth c H locs cells slots Q (F0 m pc ls (.int x :: .int i :: .ref (ad k) :: rest)) := by
  refine va_iast hexec hb hK hP hD hS k 0 (by rw [wl_get hk, gE_1 hkd]) rfl (by rw [hN]; exact hin) hdg (fun H1 locs1 h1 _ h3 => ?_)
  rw [wl_set hk, gE_u1 hkd] at h1
  exact kk H1 locs1 h1 h3
theorem wx_zast (hexec : p.tables.exec = Jvm.exec) (hb : c.code = cc) (hK : va_K D cl (gTy cy) s) (hP : va_P D cl (wl n ad (gE kd ln cy ob z)) H) (hD : va_D A (wl n ad (gE kd ln cy ob z))) (hS : va_S A H0 H locs) (k : Nat) (hk : k < n) (hkd : kd k = 2) (N : Nat) (hN : ln k = N) {i x : Int32} (hin : vp_in i N) (hdg : decode cc pc = .ok (.bastore, 1))
    (kk : ∀ (H1 : Heap) (locs1 : List Loc), va_P D cl (wl n ad (gE kd ln cy ob (s_I z k (upd (z.2.2.1 k) i.toNatClampNeg (vp_nar .boolean x))))) H1 → va_S A H0 H1 locs1 → W p l e R s m args below meth c H1 locs1 cells slots Q (F0 m (pc + 1) ls rest)) : W p l e R s m args below meth c H locs cells slots Q (F0 m pc ls (.int x :: .int i :: .ref (ad k) :: rest)) := by
  refine va_zast hexec hb hK hP hD hS k 1 (by rw [wl_get hk, gE_2 hkd]) rfl (by rw [hN]; exact hin) hdg (fun H1 locs1 h1 _ h3 => ?_)
  rw [wl_set hk, gE_u2 hkd] at h1
  exact kk H1 locs1 h1 h3
theorem wx_last (hexec : p.tables.exec = Jvm.exec) (hb : c.code = cc) (hK : va_K D cl (gTy cy) s) (hP : va_P D cl (wl n ad (gE kd ln cy ob z)) H) (hD : va_D A (wl n ad (gE kd ln cy ob z))) (hS : va_S A H0 H locs) (k : Nat) (hk : k < n) (hkd : kd k = 3) (N : Nat) (hN : ln k = N) {i : Int32} {x : Int64} (hin : vp_in i N) (hdg : decode cc pc = .ok (.lastore, 1))
    (kk : ∀ (H1 : Heap) (locs1 : List Loc), va_P D cl (wl n ad (gE kd ln cy ob (s_J z k (vp_updL (z.2.2.2 k) i.toNatClampNeg x)))) H1 → va_S A H0 H1 locs1 → W p l e R s m args below meth c H1 locs1 cells slots Q (F0 m (pc + 1) ls rest)) : W p l e R s m args below meth c H locs cells slots Q (F0 m pc ls (.long x :: .int i :: .ref (ad k) :: rest)) := by
  refine va_last hexec hb hK hP hD hS k 2 (by rw [wl_get hk, gE_3 hkd]) rfl (by rw [hN]; exact hin) hdg (fun H1 locs1 h1 _ h3 => ?_)
  rw [wl_set hk, gE_u3 hkd] at h1
  exact kk H1 locs1 h1 h3
/-- the length of a row of ints, of longs -/
theorem wx_leni (hexec : p.tables.exec = Jvm.exec) (hb : c.code = cc) (hK : va_K D cl (gTy cy) s) (hP : va_P D cl (wl n ad (gE kd ln cy ob z)) H) (k : Nat) (hk : k < n) (hkd : kd k = 1) {v : Int32} (hv : Int32.ofNat (ln k) = v) (hdg : decode cc pc = .ok (.arraylength, 1))
    (kk : W p l e R s m args below meth c H locs cells slots Q (F0 m (pc + 1) ls (.int v :: rest))) : W p l e R s m args below meth c H locs cells slots Q (F0 m pc ls (.ref (ad k) :: rest)) := va_alen hexec hb hK hP k 0 (by rw [wl_get hk, gE_1 hkd]) rfl hv hdg kk
theorem wx_lenl (hexec : p.tables.exec = Jvm.exec) (hb : c.code = cc) (hK : va_K D cl (gTy cy) s) (hP : va_P D cl (wl n ad (gE kd ln cy ob z)) H) (k : Nat) (hk : k < n) (hkd : kd k = 3) {v : Int32} (hv : Int32.ofNat (ln k) = v) (hdg : decode cc pc = .ok (.arraylength, 1))
    (kk : W p l e R s m args below meth c H locs cells slots Q (F0 m (pc + 1) ls (.int v :: rest))) : W p l e R s m args below meth c H locs cells slots Q (F0 m pc ls (.ref (ad k) :: rest)) := va_alen hexec hb hK hP k 2 (by rw [wl_get hk, gE_3 hkd]) rfl hv hdg kk
/-- a row out of an array of rows -/
theorem wx_aald (hexec : p.tables.exec = Jvm.exec) (hb : c.code = cc) (hK : va_K D cl tys s) (hP : va_P D cl (wl n ad g) H) (k t0 : Nat) (hk : k < n) {cA : ClassId} {ty : FieldType} {N : Nat} {f : Nat → Option Nat} (hg : g k = .inl (cA, N, .inr (.inr (.inr (.inr f))))) (ht : tys[t0]? = some (cA, .array ty)) {i : Int32} (hin : vp_in i N) {b : Nat} (hf : f i.toNatClampNeg = some b) (hdg : decode cc pc = .ok (.aaload, 1))
    (kk : W p l e R s m args below meth c H locs cells slots Q (F0 m (pc + 1) ls (.ref b :: rest))) : W p l e R s m args below meth c H locs cells slots Q (F0 m pc ls (.int i :: .ref (ad k) :: rest)) := by
  have hlt : i.toNatClampNeg < N := Nat.not_le.mp fun q => hin (Or.inr q)
  have ha : (wl n ad g)[k]? = some (ad k, .inl (cA, N, .inr (.inr (.inr (.inr f))))) := by rw [wl_get hk, hg]
  refine W.aald (v := va_rf (f i.toNatClampNeg)) (ty := .array ty) hexec hb (hP k _ ha) ((hK.2 t0 _ ht).1 N (fun j => va_rf (f j))) rfl (fun q => by cases q) (by show ¬ (i < 0 ∨ (arrV _ _ _).slots.size ≤ _); rw [arrV_size]; exact hin) (by show (arrV _ _ _).slots[_]? = _; rw [arrV_read _ _ hlt]) rfl rfl hdg ?_
  rw [hf]
  exact kk
end WX
end
section
/-! Calls and returns over a store -/
def bd2 {a b c : Type} (x : Option (a × b)) (f : a → b → Option c) : Option c := match x with | some (p, q) => f p q | none => none
theorem op_let {a b : Type} {x : a} {f : a → Option b} {y : b} (h : (some x).bind f = some y) : ∃ w, x = w ∧ f w = some y := ⟨x, rfl, h⟩
theorem op_b2 {a b c : Type} {x : Option (a × b)} {f : a → b → Option c} {y : c} (h : bd2 x f = some y) : ∃ p q, x = some (p, q) ∧ f p q = some y := by
  match x, h with
  | some (p, q), h => exact ⟨p, q, rfl, h⟩
section WC
variable {p : Program} {l : Launch} {e : Env} {R : Room} {s : State} {m : MethodId} {args : Array Value} {below : List Frame} {meth : Method} {c : Code} {H : Heap} {locs : List Loc} {cells slots : Nat} {Q : State → Prop}
variable {cc : ByteArray} {pc : Nat} {ls : Array Slot} {rest : List Value} {D : va_G} {cl : List vw_C} {A : Nat → Prop} {tys : List (ClassId × FieldType)} {H0 : Heap} {n : Nat} {ad : Nat → Nat} {g g' : Nat → va_E} {nw : State → Prop}
theorem sw_i {x y : Int32} (h : x = y) (k : W p l e R s m args below meth c H locs cells slots Q (F0 m pc ls (.int y :: rest))) : W p l e R s m args below meth c H locs cells slots Q (F0 m pc ls (.int x :: rest)) := h ▸ k
theorem sw_l {x y : Int64} (h : x = y) (k : W p l e R s m args below meth c H locs cells slots Q (F0 m pc ls (.long y :: rest))) : W p l e R s m args below meth c H locs cells slots Q (F0 m pc ls (.long x :: rest)) := h ▸ k
theorem s_blind (hn : nwOk nw) {sz : Nat} {av : List Value} : FrameBlind (sPc D cl tys nw n ad g sz av) := fun a U g mk q => by
  obtain ⟨q0, q1, qP, qK, qN, qD⟩ := q
  exact ⟨q0, q1, qP, va_K.moved (u := U) (U := U.calling g mk a) (Vm.Alike.refl U.vm) qK, hn.2 U _ rfl qN, qD⟩
theorem s_pre (hn : nwOk nw) (hN : nw s) (hK : va_K D cl tys s) (hP : va_P D cl (wl n ad g) H) (hD : va_D A (wl n ad g)) {av : List Value} : ∀ U : State, U.heap = H → s.WarmedH U.vm → sPc D cl tys nw n ad g H.size av av.toArray U := fun U hU hW => ⟨rfl, by rw [hU], by rw [hU]; exact hP, va_K.moved hW.alike hK, hn.1 s U hW hN, hD.weaken (fun _ _ _ _ => trivial)⟩
variable {y : MethodName} {bytes : ByteArray} {maxL nL nA index : Nat} {ret : Option FieldType} {ws Ts : List Cond} {rm : Room} {own C host : String} {As : List Value} {Qc : Array Value → State → Outcome → State → Prop} {free : Addr → Prop} {st : List Value}
theorem wx_rV (S : CallFix p m c cc nL s args Ts own) {q : Nat} (hM : Met l y ws rm (sPc D cl tys nw n ad g H.size (.ref (ad q) :: As)) Qc 0 0 free) (cw : CallW R s args own C index y bytes maxL ret ws rm 0 0 nA) (hn : nwOk nw) (hN : nw s) (hK : va_K D cl tys s) (hP : va_P D cl (wl n ad g) H) (hD : va_D A (wl n ad g)) (hq : q < n) {ci : Nat} {fs : List Value} (he : g q = .inr (ci, fs)) {T : u_T} {N : Nat} (hc : cl[ci]? = some (C, T, N))
    (hA : As.length = nA) (hsize : ls.size = nL) (hstack : st = As.reverse ++ .ref (ad q) :: rest) (hroom : (rest.map fun v => v.category).sum ≤ 8) (hdg : decode cc pc = .ok (.invokevirtual index, 3)) (hf : cells + 0 ≤ R.cells ∧ slots + 0 ≤ R.slots) :
    va_Run p l e R s m args below meth c H locs cells slots 0 0 (F0 m pc ls st) rest (Qc (Value.ref (ad q) :: As).toArray) free :=
  va_runV S hM cw ⟨s_blind hn, va_recv hK hP hc (by rw [wl_get hq, he]), s_pre hn hN hK hP hD⟩ rfl hA hsize hstack (lv_room hroom) hdg hf
theorem wx_rS (S : CallFix p m c cc nL s args Ts own) (hM : Met l y ws rm (sPc D cl tys nw n ad g H.size As) Qc 0 0 free) (cw : CallB R s args own index y bytes maxL ret ws rm 0 0 nA ∧ (Cond.static y).before args s = true) (hn : nwOk nw) (hN : nw s) (hK : va_K D cl tys s) (hP : va_P D cl (wl n ad g) H) (hD : va_D A (wl n ad g))
    (hA : As.length = nA) (hsize : ls.size = nL) (hstack : st = As.reverse ++ rest) (hroom : (rest.map fun v => v.category).sum ≤ 8) (hdg : decode cc pc = .ok (.invokestatic index, 3)) (hf : cells + 0 ≤ R.cells ∧ slots + 0 ≤ R.slots) :
    va_Run p l e R s m args below meth c H locs cells slots 0 0 (F0 m pc ls st) rest (Qc As.toArray) free :=
  va_runS S hM cw ⟨s_blind hn, s_pre hn hN hK hP hD⟩ rfl hA hsize hstack (lv_room hroom) hdg hf
theorem wx_rSN (S : CallFix p m c cc nL s args Ts own) (hM : Met l y ws rm (sPc D cl tys nw n ad g H.size As) Qc 0 0 free) (cw : va_CN R s args own index y host bytes maxL ret ws rm 0 0 nA ∧ (Cond.static y).before args s = true ∧ True) (hn : nwOk nw) (hN : nw s) (hK : va_K D cl tys s) (hP : va_P D cl (wl n ad g) H) (hD : va_D A (wl n ad g))
    (hA : As.length = nA) (hsize : ls.size = nL) (hstack : st = As.reverse ++ rest) (hroom : (rest.map fun v => v.category).sum ≤ 8) (hdg : decode cc pc = .ok (.invokestatic index, 3)) (hf : cells + 0 ≤ R.cells ∧ slots + 0 ≤ R.slots) :
    va_Run p l e R s m args below meth c H locs cells slots 0 0 (F0 m pc ls st) rest (Qc As.toArray) free :=
  va_runSN S hM cw ⟨s_blind hn, s_pre hn hN hK hP hD⟩ rfl hA hsize hstack (lv_room hroom) hdg hf
variable {a : Array Value}
theorem wx_fi {r : Int32} (hr : va_Run p l e R s m args below meth c H locs cells slots 0 0 (F0 m pc ls st) rest (sQi D cl n ad g H.size r g' a) (va_A (wl n ad g) H.size)) (hD : va_D A (wl n ad g)) (hS : va_S A H0 H locs) (hA : ∀ q, H0.size ≤ q → A q)
    (kk : ∀ (H1 : Heap) (locs1 : List Loc), va_P D cl (wl n ad g') H1 → va_S A H0 H1 locs1 → W p l e R s m args below meth c H1 locs1 cells slots Q (F0 m (pc + 3) ls (.int r :: rest))) : W p l e R s m args below meth c H locs cells slots Q (F0 m pc ls st) :=
  va_calli hr hS (fun q _ h => wl_A hD hS hA q h) (wl_A hD hS hA) (fun r' u t H1 locs1 ht hvm hp hB hz hk hS1 => by
    subst hp
    rw [ht] at hB
    exact kk H1 locs1 hB hS1)
theorem wx_fl {r : Int64} (hr : va_Run p l e R s m args below meth c H locs cells slots 0 0 (F0 m pc ls st) rest (sQl D cl n ad g H.size r g' a) (va_A (wl n ad g) H.size)) (hD : va_D A (wl n ad g)) (hS : va_S A H0 H locs) (hA : ∀ q, H0.size ≤ q → A q)
    (kk : ∀ (H1 : Heap) (locs1 : List Loc), va_P D cl (wl n ad g') H1 → va_S A H0 H1 locs1 → W p l e R s m args below meth c H1 locs1 cells slots Q (F0 m (pc + 3) ls (.long r :: rest))) : W p l e R s m args below meth c H locs cells slots Q (F0 m pc ls st) :=
  va_calll hr hS (fun q _ h => wl_A hD hS hA q h) (wl_A hD hS hA) (fun r' u t H1 locs1 ht hvm hp hB hz hk hS1 => by
    subst hp
    rw [ht] at hB
    exact kk H1 locs1 hB hS1)
theorem wx_fv (hr : va_Run p l e R s m args below meth c H locs cells slots 0 0 (F0 m pc ls st) rest (sQv D cl n ad g H.size g' a) (va_A (wl n ad g) H.size)) (hD : va_D A (wl n ad g)) (hS : va_S A H0 H locs) (hA : ∀ q, H0.size ≤ q → A q)
    (kk : ∀ (H1 : Heap) (locs1 : List Loc), va_P D cl (wl n ad g') H1 → va_S A H0 H1 locs1 → W p l e R s m args below meth c H1 locs1 cells slots Q (F0 m (pc + 3) ls rest)) : W p l e R s m args below meth c H locs cells slots Q (F0 m pc ls st) :=
  va_callv hr hS (fun q _ h => wl_A hD hS hA q h) (wl_A hD hS hA) (fun u t H1 locs1 ht hvm hp hB hz hk hS1 => by
    rw [ht] at hB
    exact kk H1 locs1 hB hS1)
theorem wx_iret {v r : Int32} (hexec : p.tables.exec = Jvm.exec) (hb : c.code = cc) (hr : meth.sig.returnType = some .int) (hlocks : meth.locks = false) (hAe : A = va_A (wl n ad g) s.heap.size) (hP : va_P D cl (wl n ad g') H) (hS : va_S A s.heap H locs) (hv : v = r) (hdg : decode cc pc = .ok (.ireturn, 1)) :
    W p l e R s m args below meth c H locs 0 0 (MQ below (sQi D cl n ad g s.heap.size r g') args s 0 0 (va_A (wl n ad g) s.heap.size)) (F0 m pc ls [.int v]) := by
  subst hAe
  subst hv
  exact W.iret hexec hb hr (fun t ht hW => ⟨⟨_, (), rfl, rfl, by show va_P D cl (wl n ad g') t.heap; rw [ht]; exact hP⟩, hS.F ht⟩) hS.2.2 hdg hlocks
theorem wx_zret {v r : Int32} (hexec : p.tables.exec = Jvm.exec) (hb : c.code = cc) (hr : meth.sig.returnType = some .boolean) (hlocks : meth.locks = false) (hn : narrow .boolean (.int v) = .int v) (hAe : A = va_A (wl n ad g) s.heap.size) (hP : va_P D cl (wl n ad g') H) (hS : va_S A s.heap H locs) (hv : v = r) (hdg : decode cc pc = .ok (.ireturn, 1)) :
    W p l e R s m args below meth c H locs 0 0 (MQ below (sQi D cl n ad g s.heap.size r g') args s 0 0 (va_A (wl n ad g) s.heap.size)) (F0 m pc ls [.int v]) := by
  subst hAe
  subst hv
  exact W.zret hexec hb hr hn (fun t ht hW => ⟨⟨_, (), rfl, rfl, by show va_P D cl (wl n ad g') t.heap; rw [ht]; exact hP⟩, hS.F ht⟩) hS.2.2 hdg hlocks
theorem wx_lret {v r : Int64} (hexec : p.tables.exec = Jvm.exec) (hb : c.code = cc) (hr : meth.sig.returnType = some .long) (hlocks : meth.locks = false) (hAe : A = va_A (wl n ad g) s.heap.size) (hP : va_P D cl (wl n ad g') H) (hS : va_S A s.heap H locs) (hv : v = r) (hdg : decode cc pc = .ok (.lreturn, 1)) :
    W p l e R s m args below meth c H locs 0 0 (MQ below (sQl D cl n ad g s.heap.size r g') args s 0 0 (va_A (wl n ad g) s.heap.size)) (F0 m pc ls [.long v]) := by
  subst hAe
  subst hv
  exact W.lret hexec hb hr (fun t ht hW => ⟨⟨_, (), rfl, rfl, by show va_P D cl (wl n ad g') t.heap; rw [ht]; exact hP⟩, hS.F ht⟩) hS.2.2 hdg hlocks
theorem wx_vret (hexec : p.tables.exec = Jvm.exec) (hb : c.code = cc) (hr : meth.sig.returnType = none) (hlocks : meth.locks = false) (hAe : A = va_A (wl n ad g) s.heap.size) (hP : va_P D cl (wl n ad g') H) (hS : va_S A s.heap H locs) (hdg : decode cc pc = .ok (.return_, 1)) :
    W p l e R s m args below meth c H locs 0 0 (MQ below (sQv D cl n ad g s.heap.size g') args s 0 0 (va_A (wl n ad g) s.heap.size)) (F0 m pc ls []) := by
  subst hAe
  exact W.vret hexec hb hr (fun t ht hW => ⟨⟨(), rfl, trivial, by show va_P D cl (wl n ad g') t.heap; rw [ht]; exact hP⟩, hS.F ht⟩) hS.2.2 hdg hlocks
end WC
end
section
/-! Pure rows: sums over a list in a commutative ring, elimination, its pivots in any order -/
def mx_sum {R : Type} [Lean.Grind.CommRing R] : List Nat → (Nat → R) → R
  | [], _ => 0
  | a :: t, f => f a + mx_sum t f
theorem mx_sum_add {R : Type} [Lean.Grind.CommRing R] (l : List Nat) (f g : Nat → R) : mx_sum l (fun i => f i + g i) = mx_sum l f + mx_sum l g := by
  induction l with
  | nil => simp only [mx_sum]; grind
  | cons a t ih => simp only [mx_sum, ih]; grind
theorem mx_sum_sub {R : Type} [Lean.Grind.CommRing R] (l : List Nat) (f g : Nat → R) : mx_sum l (fun i => f i - g i) = mx_sum l f - mx_sum l g := by
  induction l with
  | nil => simp only [mx_sum]; grind
  | cons a t ih => simp only [mx_sum, ih]; grind
theorem mx_sum_mul {R : Type} [Lean.Grind.CommRing R] (l : List Nat) (c : R) (f : Nat → R) : mx_sum l (fun i => c * f i) = c * mx_sum l f := by
  induction l with
  | nil => simp only [mx_sum]; grind
  | cons a t ih => simp only [mx_sum, ih]; grind
theorem mx_sum_mulr {R : Type} [Lean.Grind.CommRing R] (l : List Nat) (c : R) (f : Nat → R) : mx_sum l (fun i => f i * c) = mx_sum l f * c := by
  induction l with
  | nil => simp only [mx_sum]; grind
  | cons a t ih => simp only [mx_sum, ih]; grind
theorem mx_sum_zero {R : Type} [Lean.Grind.CommRing R] (l : List Nat) : mx_sum l (fun _ => (0 : R)) = 0 := by
  induction l with
  | nil => simp only [mx_sum]
  | cons a t ih => simp only [mx_sum, ih]; grind
theorem mx_sum_congr {R : Type} [Lean.Grind.CommRing R] {l : List Nat} {f g : Nat → R} (h : ∀ a ∈ l, f a = g a) : mx_sum l f = mx_sum l g := by
  induction l with
  | nil => rfl
  | cons a t ih => simp only [mx_sum]; rw [h a List.mem_cons_self, ih (fun b hb => h b (List.mem_cons_of_mem _ hb))]
theorem mx_sum_app {R : Type} [Lean.Grind.CommRing R] (l k : List Nat) (f : Nat → R) : mx_sum (l ++ k) f = mx_sum l f + mx_sum k f := by
  induction l with
  | nil => simp only [List.nil_append, mx_sum]; grind
  | cons a t ih => simp only [List.cons_append, mx_sum, ih]; grind
theorem mx_sum_perm {R : Type} [Lean.Grind.CommRing R] {l k : List Nat} (h : l.Perm k) (f : Nat → R) : mx_sum l f = mx_sum k f := by
  induction h with
  | nil => rfl
  | cons x _ ih => simp only [mx_sum, ih]
  | swap x y l => simp only [mx_sum]; grind
  | trans _ _ ih1 ih2 => exact ih1.trans ih2
theorem mx_sum_swap {R : Type} [Lean.Grind.CommRing R] (l k : List Nat) (f : Nat → Nat → R) : mx_sum l (fun i => mx_sum k (fun j => f i j)) = mx_sum k (fun j => mx_sum l (fun i => f i j)) := by
  induction l with
  | nil => simp only [mx_sum]; exact (mx_sum_zero k).symm
  | cons a t ih => simp only [mx_sum, ih]; exact (mx_sum_add k _ _).symm
theorem mx_sum_delta {R : Type} [Lean.Grind.CommRing R] {l : List Nat} (hn : l.Nodup) {p : Nat} (hp : p ∈ l) (f : Nat → R) : mx_sum l (fun u => if p = u then f u else 0) = f p := by
  induction l with
  | nil => exact absurd hp List.not_mem_nil
  | cons a t ih =>
    obtain ⟨ha, ht⟩ := List.nodup_cons.mp hn
    simp only [mx_sum]
    rcases List.mem_cons.mp hp with h | hp
    · subst h
      have hz : mx_sum t (fun u => if p = u then f u else 0) = mx_sum t (fun _ => (0 : R)) := mx_sum_congr (fun b hb => if_neg (fun (e : p = b) => ha (by rw [e]; exact hb)))
      rw [if_pos rfl, hz, mx_sum_zero]; grind
    · rw [if_neg (fun (e : p = a) => ha (by rw [← e]; exact hp)), ih ht hp]; grind
/-- one step of the elimination: pivot v -/
def mx_el {R : Type} [Lean.Grind.CommRing R] (inv : R → R) (S : Nat → Nat → R) (v : Nat) : Nat → Nat → R := fun i j => S i j - S i v * inv (S v v) * S v j
def mx_els {R : Type} [Lean.Grind.CommRing R] (inv : R → R) : List Nat → (Nat → Nat → R) → Nat → Nat → R
  | [], S => S
  | v :: t, S => mx_els inv t (mx_el inv S v)
def mx_piv {R : Type} [Lean.Grind.CommRing R] (inv : R → R) : List Nat → (Nat → Nat → R) → R
  | [], _ => 1
  | v :: t, S => S v v * mx_piv inv t (mx_el inv S v)
/-- what is asked of the ring: an augmentation and inverses of what it sends to 1 -/
def mx_H {R : Type} [Lean.Grind.CommRing R] (ε : R → Int) (inv : R → R) : Prop := (∀ a b : R, ε (a - b) = ε a - ε b) ∧ (∀ a b : R, ε (a * b) = ε a * ε b) ∧ ε 1 = 1 ∧ ∀ a : R, ε a = 1 → a * inv a = 1
def mx_ok {R : Type} (ε : R → Int) (l : List Nat) (S : Nat → Nat → R) : Prop := ∀ i ∈ l, ∀ j ∈ l, ε (S i j) = if i = j then 1 else 0
theorem mx_einv {R : Type} [Lean.Grind.CommRing R] {ε : R → Int} {inv : R → R} (H : mx_H ε inv) {a : R} (h : ε a = 1) : ε (inv a) = 1 := by
  have q := congrArg ε (H.2.2.2 a h)
  rw [H.2.1, h, H.2.2.1] at q
  omega
theorem mx_ok_el {R : Type} [Lean.Grind.CommRing R] {ε : R → Int} {inv : R → R} (H : mx_H ε inv) {v : Nat} {t : List Nat} {S : Nat → Nat → R} (hv : v ∉ t) (h : mx_ok ε (v :: t) S) : mx_ok ε t (mx_el inv S v) := by
  intro i hi j hj
  have hiv : i ≠ v := fun e => hv (e ▸ hi)
  have h1 := h i (List.mem_cons_of_mem _ hi) j (List.mem_cons_of_mem _ hj)
  have h2 := h i (List.mem_cons_of_mem _ hi) v List.mem_cons_self
  rw [if_neg hiv] at h2
  show ε (S i j - S i v * inv (S v v) * S v j) = _
  rw [H.1, H.2.1, H.2.1, h1, h2, Int.zero_mul, Int.zero_mul, Int.sub_zero]
theorem mx_ok_sub {R : Type} {ε : R → Int} {l k : List Nat} {S : Nat → Nat → R} (h : mx_ok ε l S) (hk : ∀ a ∈ k, a ∈ l) : mx_ok ε k S := fun i hi j hj => h i (hk i hi) j (hk j hj)
theorem mx_two {R : Type} [Lean.Grind.CommRing R] (a a' b c d e' p q r t : R) (h1 : a * a' = 1) (h2 : (d - c * a' * b) * e' = 1) : p * a' * r + (q - p * a' * b) * e' * (t - c * a' * r) = (e' * a') * (p * r * d + q * a * t - p * b * t - q * c * r) := by
  have h3 : p * a' * r = p * a' * r * ((d - c * a' * b) * e') := by rw [h2]; grind
  rw [h3]
  have h4 : (e' * a') * (q * a * t) = e' * q * t := by
    have : (e' * a') * (q * a * t) = e' * q * t * (a * a') := by grind
    rw [this, h1]; grind
  have h5 : (e' * a') * (p * r * d + q * a * t - p * b * t - q * c * r) = (e' * a') * (q * a * t) + (e' * a') * (p * r * d - p * b * t - q * c * r) := by grind
  rw [h5, h4]
  grind
theorem mx_uniq {R : Type} [Lean.Grind.CommRing R] {z x y : R} (h1 : z * x = 1) (h2 : z * y = 1) : x = y := by
  have : x * (z * y) = y * (z * x) := by grind
  rw [h1, h2] at this
  grind
theorem mx_swap {R : Type} [Lean.Grind.CommRing R] {ε : R → Int} {inv : R → R} (H : mx_H ε inv) {u v : Nat} {S : Nat → Nat → R} (huv : u ≠ v) (h : mx_ok ε [u, v] S) : mx_el inv (mx_el inv S u) v = mx_el inv (mx_el inv S v) u ∧ S u u * mx_el inv S u v v = S v v * mx_el inv S v u u := by
  have hu : u ∈ [u, v] := List.mem_cons_self
  have hv : v ∈ [u, v] := List.mem_cons_of_mem _ List.mem_cons_self
  have e1 := h u hu u hu
  have e2 := h v hv v hv
  have e3 := h u hu v hv
  rw [if_pos rfl] at e1 e2
  rw [if_neg huv] at e3
  have k1 := H.2.2.2 _ e1
  have k2 := H.2.2.2 _ e2
  have e4 : ε (S v v - S v u * inv (S u u) * S u v) = 1 := by rw [H.1, H.2.1, H.2.1, e2, e3, Int.mul_zero, Int.sub_zero]
  have e5 : ε (S u u - S u v * inv (S v v) * S v u) = 1 := by rw [H.1, H.2.1, H.2.1, e1, e3, Int.zero_mul, Int.zero_mul, Int.sub_zero]
  have k4 := H.2.2.2 _ e4
  have k5 := H.2.2.2 _ e5
  refine ⟨?_, ?_⟩
  · funext i j
    show (S i j - S i u * inv (S u u) * S u j) - (S i v - S i u * inv (S u u) * S u v) * inv (S v v - S v u * inv (S u u) * S u v) * (S v j - S v u * inv (S u u) * S u j) = (S i j - S i v * inv (S v v) * S v j) - (S i u - S i v * inv (S v v) * S v u) * inv (S u u - S u v * inv (S v v) * S v u) * (S u j - S u v * inv (S v v) * S v j)
    generalize inv (S v v - S v u * inv (S u u) * S u v) = e' at k4 ⊢
    generalize inv (S u u - S u v * inv (S v v) * S v u) = f' at k5 ⊢
    generalize inv (S u u) = a' at k1 k4 k5 ⊢
    generalize inv (S v v) = d' at k2 k4 k5 ⊢
    generalize S u u = a at *
    generalize S v v = d at *
    generalize S u v = b at *
    generalize S v u = c at *
    generalize S i j = x
    generalize S i u = p
    generalize S i v = q
    generalize S u j = r
    generalize S v j = t
    have A := mx_two a a' b c d e' p q r t k1 k4
    have B := mx_two d d' c b a f' q p t r k2 k5
    have E : e' * a' = f' * d' := by
      refine mx_uniq (z := a * d - b * c) ?_ ?_
      · have w1 : (a * d - b * c) * (e' * a') = (a * a') * (d * e') - (c * a' * b) * e' := by grind
        have w2 : (d - c * a' * b) * e' = d * e' - (c * a' * b) * e' := by grind
        rw [w1, k1, ← k4, w2]; grind
      · have w1 : (a * d - b * c) * (f' * d') = (d * d') * (a * f') - (b * d' * c) * f' := by grind
        have w2 : (a - b * d' * c) * f' = a * f' - (b * d' * c) * f' := by grind
        rw [w1, k2, ← k5, w2]; grind
    have A2 : x - p * a' * r - (q - p * a' * b) * e' * (t - c * a' * r) = x - (p * a' * r + (q - p * a' * b) * e' * (t - c * a' * r)) := by grind
    have B2 : x - q * d' * t - (p - q * d' * c) * f' * (r - b * d' * t) = x - (q * d' * t + (p - q * d' * c) * f' * (r - b * d' * t)) := by grind
    rw [A2, B2, A, B, E]
    grind
  · show S u u * (S v v - S v u * inv (S u u) * S u v) = S v v * (S u u - S u v * inv (S v v) * S v u)
    have w1 : S u u * (S v v - S v u * inv (S u u) * S u v) = S u u * S v v - (S u u * inv (S u u)) * (S v u * S u v) := by grind
    have w2 : S v v * (S u u - S u v * inv (S v v) * S v u) = S v v * S u u - (S v v * inv (S v v)) * (S u v * S v u) := by grind
    rw [w1, w2, k1, k2]; grind
theorem mx_piv_perm {R : Type} [Lean.Grind.CommRing R] {ε : R → Int} {inv : R → R} (H : mx_H ε inv) {l k : List Nat} (h : l.Perm k) : ∀ (S : Nat → Nat → R), l.Nodup → mx_ok ε l S → mx_piv inv l S = mx_piv inv k S := by
  induction h with
  | nil => intro S _ _; rfl
  | cons x _ ih =>
    intro S hn ho
    obtain ⟨ha, ht⟩ := List.nodup_cons.mp hn
    simp only [mx_piv]
    rw [ih _ ht (mx_ok_el H ha ho)]
  | swap x y l =>
    intro S hn ho
    simp only [mx_piv]
    have hxy : y ≠ x := fun e => (List.nodup_cons.mp hn).1 (e ▸ List.mem_cons_self)
    obtain ⟨q1, q2⟩ := mx_swap H hxy (mx_ok_sub ho (k := [y, x]) (fun a ha => by
      rcases List.mem_cons.mp ha with rfl | ha
      · exact List.mem_cons_self
      · rcases List.mem_cons.mp ha with rfl | ha
        · exact List.mem_cons_of_mem _ List.mem_cons_self
        · exact absurd ha List.not_mem_nil))
    rw [q1]
    have w1 : S y y * (mx_el inv S y x x * mx_piv inv l (mx_el inv (mx_el inv S x) y)) = (S y y * mx_el inv S y x x) * mx_piv inv l (mx_el inv (mx_el inv S x) y) := by grind
    have w2 : S x x * (mx_el inv S x y y * mx_piv inv l (mx_el inv (mx_el inv S x) y)) = (S x x * mx_el inv S x y y) * mx_piv inv l (mx_el inv (mx_el inv S x) y) := by grind
    rw [w1, w2, q2]
  | trans h1 h2 ih1 ih2 =>
    intro S hn ho
    rw [ih1 S hn ho, ih2 S (h1.nodup_iff.mp hn) (mx_ok_sub ho (fun a ha => h1.mem_iff.mpr ha))]
theorem mx_piv_app {R : Type} [Lean.Grind.CommRing R] (inv : R → R) (v : Nat) : ∀ (l : List Nat) (S : Nat → Nat → R), mx_piv inv (l ++ [v]) S = mx_piv inv l S * mx_els inv l S v v
  | [], S => by simp only [List.nil_append, mx_piv, mx_els]; grind
  | a :: t, S => by simp only [List.cons_append, mx_piv, mx_els, mx_piv_app inv v t]; grind
theorem mx_col {R : Type} [Lean.Grind.CommRing R] {ε : R → Int} {inv : R → R} (H : mx_H ε inv) (x : Nat → R) (j : Nat) : ∀ (l : List Nat) (S : Nat → Nat → R), l.Nodup → mx_ok ε l S → (∀ p ∈ l, S p j = mx_sum l (fun q => S p q * x q)) → ∀ i, mx_els inv l S i j = S i j - mx_sum l (fun q => S i q * x q)
  | [], S, _, _, _, i => by simp only [mx_els, mx_sum]; grind
  | v :: t, S, hn, ho, hs, i => by
    obtain ⟨ha, ht⟩ := List.nodup_cons.mp hn
    have e1 := ho v List.mem_cons_self v List.mem_cons_self
    rw [if_pos rfl] at e1
    have k1 := H.2.2.2 _ e1
    have hv := hs v List.mem_cons_self
    simp only [mx_sum] at hv
    have row : ∀ p, mx_sum t (fun q => mx_el inv S v p q * x q) = mx_sum t (fun q => S p q * x q) - S p v * inv (S v v) * mx_sum t (fun q => S v q * x q) := by
      intro p
      rw [← mx_sum_mul, ← mx_sum_sub]
      refine mx_sum_congr (fun q _ => ?_)
      show (S p q - S p v * inv (S v v) * S v q) * x q = _
      grind
    have key : ∀ p, S p v * inv (S v v) * S v j = S p v * x v + S p v * inv (S v v) * mx_sum t (fun q => S v q * x q) := by
      intro p
      rw [hv]
      have : S p v * inv (S v v) * (S v v * x v + mx_sum t (fun q => S v q * x q)) = S p v * x v * (S v v * inv (S v v)) + S p v * inv (S v v) * mx_sum t (fun q => S v q * x q) := by grind
      rw [this, k1]; grind
    simp only [mx_els]
    rw [mx_col H x j t (mx_el inv S v) ht (mx_ok_el H ha ho) ?_ i, row i]
    · show S i j - S i v * inv (S v v) * S v j - _ = _
      rw [key i]
      simp only [mx_sum]
      grind
    · intro p hp
      rw [row p]
      show S p j - S p v * inv (S v v) * S v j = _
      rw [key p, hs p (List.mem_cons_of_mem _ hp)]
      simp only [mx_sum]
      grind
end
section
/-! Pure rows: the adjugate of 1 - s A has a degree below the size: Cayley and Hamilton, in any ring with a degree -/
/-- what is asked of 'degree below n' -/
def mx_G {R : Type} [Lean.Grind.CommRing R] (io : Int → R) (s : R) (dl : R → Nat → Prop) : Prop := (∀ n, dl 0 n) ∧ (∀ n, dl 1 (n + 1)) ∧ (∀ f g n, dl f n → dl g n → dl (f + g) n) ∧ (∀ f g n, dl f n → dl g n → dl (f - g) n) ∧ (∀ c f n, dl f n → dl (io c * f) n) ∧ (∀ f n, dl f n → dl (s * f) (n + 1)) ∧ (∀ f n, dl f n → dl f (n + 1))
def mx_M {R : Type} [Lean.Grind.CommRing R] (io : Int → R) (s : R) (A : Nat → Nat → Int) : Nat → Nat → R := fun p q => (if p = q then 1 else 0) - s * io (A p q)
theorem mx_dsum {R : Type} [Lean.Grind.CommRing R] {io : Int → R} {s : R} {dl : R → Nat → Prop} (G : mx_G io s dl) {n : Nat} (l : List Nat) (f : Nat → R) (h : ∀ q ∈ l, dl (f q) n) : dl (mx_sum l f) n := by
  induction l with
  | nil => exact G.1 n
  | cons a t ih => exact G.2.2.1 _ _ _ (h a List.mem_cons_self) (ih (fun q hq => h q (List.mem_cons_of_mem _ hq)))
theorem mx_ok_M {R : Type} [Lean.Grind.CommRing R] {ε : R → Int} {inv : R → R} (H : mx_H ε inv) {io : Int → R} {s : R} (hs : ε s = 0) (A : Nat → Nat → Int) (l : List Nat) : mx_ok ε l (mx_M io s A) := by
  intro i _ j _
  show ε ((if i = j then 1 else 0) - s * io (A i j)) = _
  rw [H.1, H.2.1, hs, Int.zero_mul, Int.sub_zero]
  by_cases h : i = j
  · rw [if_pos h, if_pos h, H.2.2.1]
  · rw [if_neg h, if_neg h]
    have q := H.1 0 0
    rw [show (0 : R) - 0 = 0 from by grind] at q
    omega
theorem mx_epiv {R : Type} [Lean.Grind.CommRing R] {ε : R → Int} {inv : R → R} (H : mx_H ε inv) : ∀ (l : List Nat) (S : Nat → Nat → R), l.Nodup → mx_ok ε l S → ε (mx_piv inv l S) = 1
  | [], _, _, _ => H.2.2.1
  | v :: t, S, hn, ho => by
    obtain ⟨ha, ht⟩ := List.nodup_cons.mp hn
    have e1 := ho v List.mem_cons_self v List.mem_cons_self
    rw [if_pos rfl] at e1
    simp only [mx_piv]
    rw [H.2.1, e1, mx_epiv H t _ ht (mx_ok_el H ha ho)]
    rfl
theorem mx_ne {v p : Nat} {t : List Nat} (hv : v ∉ t) (hp : p ∈ t) : p ≠ v := fun e => hv (by rw [← e]; exact hp)
/-- the last one's column: from the adjugate of the rest -/
theorem mx_adj_last {R : Type} [Lean.Grind.CommRing R] {ε : R → Int} {inv : R → R} (H : mx_H ε inv) {io : Int → R} {s : R} {dl : R → Nat → Prop} (G : mx_G io s dl) (hs : ε s = 0) (A : Nat → Nat → Int) {t : List Nat} {v : Nat} (hn : (v :: t).Nodup) (hP : dl (mx_piv inv t (mx_M io s A)) (t.length + 1))
    (ih : ∀ u ∈ t, ∃ w : Nat → R, (∀ p, dl (w p) t.length) ∧ ∀ p ∈ t, mx_sum t (fun q => mx_M io s A p q * w q) = if p = u then mx_piv inv t (mx_M io s A) else 0) :
    ∃ w : Nat → R, (∀ p, dl (w p) (t.length + 1)) ∧ w v = mx_piv inv t (mx_M io s A) ∧ ∀ p ∈ v :: t, mx_sum (v :: t) (fun q => mx_M io s A p q * w q) = if p = v then mx_piv inv (v :: t) (mx_M io s A) else 0 := by
  obtain ⟨hv, ht⟩ := List.nodup_cons.mp hn
  have hch : ∀ u, ∃ w : Nat → R, u ∈ t → ((∀ p, dl (w p) t.length) ∧ ∀ p ∈ t, mx_sum t (fun q => mx_M io s A p q * w q) = if p = u then mx_piv inv t (mx_M io s A) else 0) := by
    intro u
    by_cases hu : u ∈ t
    · obtain ⟨w, hw⟩ := ih u hu
      exact ⟨w, fun _ => hw⟩
    · exact ⟨fun _ => 0, fun h => absurd h hu⟩
  obtain ⟨W, hW⟩ := Classical.axiomOfChoice hch
  have hoT := mx_ok_M (io := io) H hs A t
  have hePv := mx_epiv H t _ ht hoT
  have hPi := H.2.2.2 _ hePv
  have hperm : (v :: t).Perm (t ++ [v]) := (List.perm_append_singleton v t).symm
  have hPv : mx_piv inv (v :: t) (mx_M io s A) = mx_piv inv t (mx_M io s A) * mx_els inv t (mx_M io s A) v v := by
    rw [mx_piv_perm H hperm _ hn (mx_ok_M H hs A _), mx_piv_app]
  generalize hPe : mx_piv inv t (mx_M io s A) = P at *
  have hdc : ∀ q, dl (mx_sum t (fun u => io (A u v) * W u q)) t.length := fun q => mx_dsum G t _ (fun u hu => G.2.2.2.2.1 _ _ _ ((hW u hu).1 q))
  have hcol : ∀ p ∈ t, mx_sum t (fun q => mx_M io s A p q * mx_sum t (fun u => io (A u v) * W u q)) = P * io (A p v) := by
    intro p hp
    have e1 : mx_sum t (fun q => mx_M io s A p q * mx_sum t (fun u => io (A u v) * W u q)) = mx_sum t (fun q => mx_sum t (fun u => mx_M io s A p q * (io (A u v) * W u q))) := mx_sum_congr (fun q _ => (mx_sum_mul _ _ _).symm)
    rw [e1, mx_sum_swap]
    have e2 : mx_sum t (fun u => mx_sum t (fun q => mx_M io s A p q * (io (A u v) * W u q))) = mx_sum t (fun u => if p = u then P * io (A u v) else 0) := by
      refine mx_sum_congr (fun u hu => ?_)
      have e3 : mx_sum t (fun q => mx_M io s A p q * (io (A u v) * W u q)) = mx_sum t (fun q => io (A u v) * (mx_M io s A p q * W u q)) := mx_sum_congr (fun q _ => by grind)
      rw [e3, mx_sum_mul, (hW u hu).2 p hp]
      by_cases hpu : p = u
      · rw [if_pos hpu, if_pos hpu]; grind
      · rw [if_neg hpu, if_neg hpu]; grind
    rw [e2, mx_sum_delta ht hp]
  generalize hwc : (fun q => mx_sum t (fun u => io (A u v) * W u q)) = wc at *
  have hwq : ∀ q, mx_sum t (fun u => io (A u v) * W u q) = wc q := fun q => by rw [← hwc]
  simp only [hwq] at hdc hcol
  have hMv : ∀ p ∈ t, mx_M io s A p v = - (s * io (A p v)) := by
    intro p hp
    show (if p = v then (1 : R) else 0) - s * io (A p v) = _
    rw [if_neg (mx_ne hv hp)]; grind
  have hzt : ∀ p, mx_sum t (fun q => mx_M io s A p q * (if q = v then P else s * wc q)) = s * mx_sum t (fun q => mx_M io s A p q * wc q) := by
    intro p
    rw [← mx_sum_mul]
    refine mx_sum_congr (fun q hq => ?_)
    rw [if_neg (mx_ne hv hq)]; grind
  have hels := mx_col H (fun q => - (s * wc q * inv P)) v t (mx_M io s A) ht hoT (by
    intro p hp
    have e1 : mx_sum t (fun q => mx_M io s A p q * - (s * wc q * inv P)) = mx_sum t (fun q => - (s * inv P) * (mx_M io s A p q * wc q)) := mx_sum_congr (fun q _ => by grind)
    rw [e1, mx_sum_mul, hcol p hp, hMv p hp]
    have e2 : - (s * inv P) * (P * io (A p v)) = - (s * io (A p v)) * (P * inv P) := by grind
    rw [e2, hPi]; grind) v
  refine ⟨fun q => if q = v then P else s * wc q, ?_, if_pos rfl, ?_⟩
  · intro p
    show dl (if p = v then P else s * wc p) _
    by_cases hp : p = v
    · rw [if_pos hp]; exact hP
    · rw [if_neg hp]; exact G.2.2.2.2.2.1 _ _ (hdc p)
  · intro p hp
    show mx_M io s A p v * (if v = v then P else s * wc v) + mx_sum t (fun q => mx_M io s A p q * (if q = v then P else s * wc q)) = _
    rw [if_pos rfl, hzt p]
    rcases List.mem_cons.mp hp with rfl | hp
    · rw [if_pos rfl, hPv, hels]
      have e1 : mx_sum t (fun q => mx_M io s A p q * - (s * wc q * inv P)) = - (s * inv P) * mx_sum t (fun q => mx_M io s A p q * wc q) := by
        rw [← mx_sum_mul]
        exact mx_sum_congr (fun q _ => by grind)
      rw [e1]
      generalize mx_sum t (fun q => mx_M io s A p q * wc q) = z
      have e2 : P * (mx_M io s A p p - - (s * inv P) * z) = P * mx_M io s A p p + (P * inv P) * (s * z) := by grind
      rw [e2, hPi]; grind
    · rw [if_neg (mx_ne hv hp), hcol p hp, hMv p hp]; grind
theorem mx_adj {R : Type} [Lean.Grind.CommRing R] {ε : R → Int} {inv : R → R} (H : mx_H ε inv) {io : Int → R} {s : R} {dl : R → Nat → Prop} (G : mx_G io s dl) (hs : ε s = 0) (A : Nat → Nat → Int) : ∀ (n : Nat) (l : List Nat), l.length = n → l.Nodup → dl (mx_piv inv l (mx_M io s A)) (n + 1) ∧ ∀ v ∈ l, ∃ w : Nat → R, (∀ p, dl (w p) n) ∧ w v = mx_piv inv (l.erase v) (mx_M io s A) ∧ ∀ p ∈ l, mx_sum l (fun q => mx_M io s A p q * w q) = if p = v then mx_piv inv l (mx_M io s A) else 0
  | 0, l, hl, _ => by
    have : l = [] := List.length_eq_zero_iff.mp hl
    subst this
    exact ⟨G.2.1 0, fun v hv => absurd hv List.not_mem_nil⟩
  | n + 1, l, hl, hn => by
    have all : ∀ v ∈ l, ∃ w : Nat → R, (∀ p, dl (w p) (n + 1)) ∧ w v = mx_piv inv (l.erase v) (mx_M io s A) ∧ ∀ p ∈ l, mx_sum l (fun q => mx_M io s A p q * w q) = if p = v then mx_piv inv l (mx_M io s A) else 0 := by
      intro v hv
      have hperm : l.Perm (v :: l.erase v) := List.perm_cons_erase hv
      have hn2 : (v :: l.erase v).Nodup := hperm.nodup_iff.mp hn
      have hlen : (l.erase v).length = n := by
        have := hperm.length_eq
        rw [List.length_cons] at this
        omega
      obtain ⟨h1, h2⟩ := mx_adj H G hs A n (l.erase v) hlen (List.nodup_cons.mp hn2).2
      obtain ⟨w, a1, a2, a3⟩ := mx_adj_last H G hs A hn2 (by rw [hlen]; exact h1) (fun u hu => by
        obtain ⟨w, b1, _, b3⟩ := h2 u hu
        exact ⟨w, by rw [hlen]; exact b1, b3⟩)
      rw [hlen] at a1
      refine ⟨w, a1, a2, fun p hp => ?_⟩
      rw [mx_sum_perm hperm, a3 p (hperm.mem_iff.mp hp), mx_piv_perm H hperm _ hn (mx_ok_M H hs A _)]
    refine ⟨?_, all⟩
    match l, hl with
    | v :: t, hl =>
      obtain ⟨w, a1, _, a3⟩ := all v List.mem_cons_self
      have e := a3 v List.mem_cons_self
      rw [if_pos rfl] at e
      rw [← e]
      refine mx_dsum G _ _ (fun q _ => ?_)
      show dl (((if v = q then 1 else 0) - s * io (A v q)) * w q) _
      have e1 : ((if v = q then (1 : R) else 0) - s * io (A v q)) * w q = (if v = q then w q else 0) - s * (io (A v q) * w q) := by
        by_cases h : v = q
        · rw [if_pos h, if_pos h]; grind
        · rw [if_neg h, if_neg h]; grind
      rw [e1]
      refine G.2.2.2.1 _ _ _ ?_ (G.2.2.2.2.2.1 _ _ (G.2.2.2.2.1 _ _ _ (a1 q)))
      by_cases h : v = q
      · rw [if_pos h]; exact G.2.2.2.2.2.2 _ _ (a1 q)
      · rw [if_neg h]; exact G.1 _
end
section
/-! Pure rows: power series over the whole numbers are such a ring -/
abbrev ps_T : Type := Nat → Int
def ps_mul : (Nat → Int) → (Nat → Int) → Nat → Int
  | f, g, 0 => f 0 * g 0
  | f, g, m + 1 => f 0 * g (m + 1) + ps_mul (fun k => f (k + 1)) g m
def ps_c (c : Int) : Nat → Int := fun m => if m = 0 then c else 0
def ps_s : Nat → Int := fun m => if m = 1 then 1 else 0
theorem ps_mul_0l (g : Nat → Int) : ∀ m, ps_mul (fun _ => 0) g m = 0
  | 0 => by simp only [ps_mul]; exact Int.zero_mul _
  | m + 1 => by simp only [ps_mul]; rw [ps_mul_0l g m, Int.zero_mul]; rfl
theorem ps_c_tail (c : Int) : (fun k => ps_c c (k + 1)) = fun _ => 0 := by
  funext k
  show (if k + 1 = 0 then c else 0) = 0
  rw [if_neg (Nat.succ_ne_zero k)]
theorem ps_s_tail : (fun k => ps_s (k + 1)) = ps_c 1 := by
  funext k
  show (if k + 1 = 1 then (1 : Int) else 0) = if k = 0 then 1 else 0
  by_cases h : k = 0
  · rw [if_pos h, if_pos (by omega)]
  · rw [if_neg h, if_neg (by omega)]
theorem ps_mul_c (c : Int) (g : Nat → Int) : ∀ m, ps_mul (ps_c c) g m = c * g m
  | 0 => by simp only [ps_mul]; rfl
  | m + 1 => by
    simp only [ps_mul]
    rw [ps_c_tail, ps_mul_0l, Int.add_zero]; rfl
theorem ps_mul_s0 (g : Nat → Int) : ps_mul ps_s g 0 = 0 := by
  simp only [ps_mul]
  exact Int.zero_mul _
theorem ps_mul_s (g : Nat → Int) (m : Nat) : ps_mul ps_s g (m + 1) = g m := by
  simp only [ps_mul]
  rw [ps_s_tail, ps_mul_c, Int.one_mul]
  show (0 : Int) * _ + _ = _
  rw [Int.zero_mul, Int.zero_add]
theorem ps_mul_r : ∀ (m : Nat) (f g : Nat → Int), ps_mul f g (m + 1) = f (m + 1) * g 0 + ps_mul f (fun k => g (k + 1)) m
  | 0, f, g => by simp only [ps_mul]; exact Int.add_comm _ _
  | m + 1, f, g => by
    have h := ps_mul_r m (fun k => f (k + 1)) g
    have e1 : ps_mul f g (m + 1 + 1) = f 0 * g (m + 1 + 1) + ps_mul (fun k => f (k + 1)) g (m + 1) := rfl
    have e2 : ps_mul f (fun k => g (k + 1)) (m + 1) = f 0 * g (m + 1 + 1) + ps_mul (fun k => f (k + 1)) (fun k => g (k + 1)) m := rfl
    rw [e1, e2, h]
    omega
theorem ps_comm : ∀ (m : Nat) (f g : Nat → Int), ps_mul f g m = ps_mul g f m
  | 0, f, g => by simp only [ps_mul]; exact Int.mul_comm _ _
  | m + 1, f, g => by
    rw [ps_mul_r m g f, ps_comm m g]
    simp only [ps_mul]
    rw [Int.mul_comm]
theorem ps_lin (c : Int) (h : Nat → Int) : ∀ (m : Nat) (f g : Nat → Int), ps_mul (fun k => c * f k + g k) h m = c * ps_mul f h m + ps_mul g h m
  | 0, f, g => by simp only [ps_mul]; grind
  | m + 1, f, g => by
    have q := ps_lin c h m (fun k => f (k + 1)) (fun k => g (k + 1))
    simp only [ps_mul]
    rw [q]
    grind
theorem ps_assoc (g h : Nat → Int) : ∀ (m : Nat) (f : Nat → Int), ps_mul (ps_mul f g) h m = ps_mul f (ps_mul g h) m
  | 0, f => by simp only [ps_mul]; exact Int.mul_assoc _ _ _
  | m + 1, f => by
    have q := ps_assoc g h m (fun k => f (k + 1))
    have e1 : ps_mul (ps_mul f g) h (m + 1) = f 0 * g 0 * h (m + 1) + ps_mul (fun k => f 0 * g (k + 1) + ps_mul (fun k => f (k + 1)) g k) h m := rfl
    have e2 : ps_mul f (ps_mul g h) (m + 1) = f 0 * (g 0 * h (m + 1) + ps_mul (fun k => g (k + 1)) h m) + ps_mul (fun k => f (k + 1)) (ps_mul g h) m := rfl
    rw [e1, e2, ps_lin (f 0) h m (fun k => g (k + 1)) (ps_mul (fun k => f (k + 1)) g), q]
    grind
theorem ps_dist (f : Nat → Int) (g h : Nat → Int) (m : Nat) : ps_mul f (fun k => g k + h k) m = ps_mul f g m + ps_mul f h m := by
  rw [ps_comm m f, ps_comm m f g, ps_comm m f h]
  have := ps_lin 1 f m g h
  simp only [Int.one_mul] at this
  exact this
def ps_pow (f : Nat → Int) : Nat → Nat → Int
  | 0 => ps_c 1
  | n + 1 => ps_mul (ps_pow f n) f
theorem ps_c_add (a b : Int) : ps_c (a + b) = fun m => ps_c a m + ps_c b m := by
  funext m
  show (if m = 0 then a + b else 0) = (if m = 0 then a else 0) + if m = 0 then b else 0
  by_cases h : m = 0
  · rw [if_pos h, if_pos h, if_pos h]
  · rw [if_neg h, if_neg h, if_neg h]; rfl
theorem ps_c_neg (a : Int) : ps_c (-a) = fun m => - ps_c a m := by
  funext m
  show (if m = 0 then -a else 0) = - (if m = 0 then a else 0)
  by_cases h : m = 0
  · rw [if_pos h, if_pos h]
  · rw [if_neg h, if_neg h]; rfl
theorem ps_c_0 : ps_c 0 = fun _ => 0 := by
  funext m
  show (if m = 0 then (0 : Int) else 0) = 0
  by_cases h : m = 0
  · rw [if_pos h]
  · rw [if_neg h]
def ps_ring : Lean.Grind.CommRing ps_T :=
  { add := fun f g => fun m => f m + g m
    mul := fun f g => ps_mul f g
    natCast := ⟨fun n => ps_c (n : Int)⟩
    ofNat := fun n => ⟨ps_c (n : Int)⟩
    nsmul := ⟨fun n f => ps_mul (ps_c (n : Int)) f⟩
    npow := ⟨fun f n => ps_pow f n⟩
    neg := fun f => fun m => - f m
    sub := fun f g => fun m => f m - g m
    intCast := ⟨fun i => ps_c i⟩
    zsmul := ⟨fun i f => ps_mul (ps_c i) f⟩
    add_zero := fun f => by
      funext m
      show f m + ps_c 0 m = f m
      rw [ps_c_0]; exact Int.add_zero _
    add_comm := fun f g => funext fun m => Int.add_comm (f m) (g m)
    add_assoc := fun f g h => funext fun m => Int.add_assoc (f m) (g m) (h m)
    mul_assoc := fun f g h => funext fun m => ps_assoc g h m f
    mul_comm := fun f g => funext fun m => ps_comm m f g
    mul_one := fun f => funext fun m => by
      show ps_mul f (ps_c 1) m = f m
      rw [ps_comm, ps_mul_c, Int.one_mul]
    one_mul := fun f => funext fun m => by
      show ps_mul (ps_c 1) f m = f m
      rw [ps_mul_c, Int.one_mul]
    left_distrib := fun f g h => funext fun m => ps_dist f g h m
    right_distrib := fun f g h => funext fun m => by
      show ps_mul (fun k => f k + g k) h m = ps_mul f h m + ps_mul g h m
      rw [ps_comm, ps_dist, ps_comm m h f, ps_comm m h g]
    zero_mul := fun f => funext fun m => by
      show ps_mul (ps_c 0) f m = ps_c 0 m
      rw [ps_mul_c, ps_c_0, Int.zero_mul]
    mul_zero := fun f => funext fun m => by
      show ps_mul f (ps_c 0) m = ps_c 0 m
      rw [ps_comm, ps_mul_c, ps_c_0, Int.zero_mul]
    pow_zero := fun _ => rfl
    pow_succ := fun _ _ => rfl
    ofNat_succ := fun a => by
      show ps_c ((a + 1 : Nat) : Int) = fun m => ps_c (a : Int) m + ps_c ((1 : Nat) : Int) m
      rw [← ps_c_add]; rfl
    ofNat_eq_natCast := fun _ => rfl
    nsmul_eq_natCast_mul := fun _ _ => rfl
    neg_add_cancel := fun f => funext fun m => by
      show - f m + f m = ps_c 0 m
      rw [ps_c_0]; exact Int.add_left_neg _
    sub_eq_add_neg := fun f g => funext fun m => Int.sub_eq_add_neg
    neg_zsmul := fun i f => funext fun m => by
      show ps_mul (ps_c (-i)) f m = - ps_mul (ps_c i) f m
      rw [ps_mul_c, ps_mul_c, Int.neg_mul]
    zsmul_natCast_eq_nsmul := fun _ _ => rfl
    intCast_ofNat := fun _ => rfl
    intCast_neg := fun i => ps_c_neg i }
def ps_ia (f : Nat → Int) : Nat → Nat → Int
  | 0 => ps_c 1
  | n + 1 => fun k => if k ≤ n then ps_ia f n k else if k = n + 1 then - ps_mul (fun j => f (j + 1)) (ps_ia f n) n else 0
def ps_inv (f : Nat → Int) : Nat → Int := fun k => ps_ia f k k
theorem ps_ia_st (f : Nat → Int) : ∀ (n k : Nat), k ≤ n → ps_ia f n k = ps_inv f k
  | 0, k, h => by
    have : k = 0 := by omega
    subst this; rfl
  | n + 1, k, h => by
    by_cases hk : k ≤ n
    · have e : ps_ia f (n + 1) k = ps_ia f n k := by
        show (if k ≤ n then _ else _) = _
        rw [if_pos hk]
      rw [e, ps_ia_st f n k hk]
    · have : k = n + 1 := by omega
      subst this; rfl
theorem ps_mul_congr {g h : Nat → Int} : ∀ (m : Nat) (f : Nat → Int), (∀ k, k ≤ m → g k = h k) → ps_mul f g m = ps_mul f h m
  | 0, f, q => by simp only [ps_mul]; rw [q 0 (Nat.le_refl 0)]
  | m + 1, f, q => by
    simp only [ps_mul]
    rw [q (m + 1) (Nat.le_refl _), ps_mul_congr m _ (fun k hk => q k (by omega))]
theorem ps_inv_ok {f : Nat → Int} (h0 : f 0 = 1) : ps_mul f (ps_inv f) = ps_c 1 := by
  funext m
  match m with
  | 0 =>
    simp only [ps_mul]
    rw [h0]; rfl
  | m + 1 =>
    have e1 : ps_inv f (m + 1) = - ps_mul (fun j => f (j + 1)) (ps_ia f m) m := by
      show (if m + 1 ≤ m then _ else if m + 1 = m + 1 then _ else _) = _
      rw [if_neg (by omega), if_pos rfl]
    have e2 : ps_mul (fun j => f (j + 1)) (ps_inv f) m = ps_mul (fun j => f (j + 1)) (ps_ia f m) m := ps_mul_congr m _ (fun k hk => (ps_ia_st f m k hk).symm)
    simp only [ps_mul]
    rw [e1, e2, h0]
    show 1 * - _ + _ = (if m + 1 = 0 then (1 : Int) else 0)
    rw [if_neg (Nat.succ_ne_zero m)]
    omega
def ps_dl (f : Nat → Int) (n : Nat) : Prop := ∀ m, n ≤ m → f m = 0
theorem ps_H : @mx_H ps_T ps_ring (fun f => f 0) ps_inv := ⟨fun _ _ => rfl, fun _ _ => rfl, rfl, fun f h => ps_inv_ok h⟩
theorem ps_G : @mx_G ps_T ps_ring ps_c ps_s ps_dl := by
  refine ⟨fun n m _ => ?_, fun n m h => ?_, fun f g n hf hg m h => ?_, fun f g n hf hg m h => ?_, fun c f n hf m h => ?_, fun f n hf m h => ?_, fun f n hf m h => hf m (by omega)⟩
  · show ps_c 0 m = 0
    rw [ps_c_0]
  · show (if m = 0 then (1 : Int) else 0) = 0
    rw [if_neg (by omega)]
  · show f m + g m = 0
    rw [hf m h, hg m h]; rfl
  · show f m - g m = 0
    rw [hf m h, hg m h]; rfl
  · show ps_mul (ps_c c) f m = 0
    rw [ps_mul_c, hf m h, Int.mul_zero]
  · show ps_mul ps_s f m = 0
    match m, h with
    | m + 1, h => rw [ps_mul_s]; exact hf m (by omega)
theorem ps_sum_at (l : List Nat) (f : Nat → ps_T) (m : Nat) : (@mx_sum ps_T ps_ring l f) m = mx_sum l (fun q => f q m) := by
  induction l with
  | nil => show ps_c 0 m = 0; rw [ps_c_0]
  | cons a t ih =>
    show f a m + (@mx_sum ps_T ps_ring t f) m = f a m + mx_sum t (fun q => f q m)
    rw [ih]
/-- the characteristic polynomial of the rows and columns l, that of the highest power first -/
def ch_P (A : Nat → Nat → Int) (l : List Nat) : Nat → Int := @mx_piv ps_T ps_ring ps_inv l (@mx_M ps_T ps_ring ps_c ps_s A)
theorem ps_M_mul (A : Nat → Nat → Int) (p q : Nat) (w : Nat → Int) (m : Nat) : ps_mul (@mx_M ps_T ps_ring ps_c ps_s A p q) w m = (if p = q then w m else 0) - (if m = 0 then 0 else A p q * w (m - 1)) := by
  have e : @mx_M ps_T ps_ring ps_c ps_s A p q = fun k => (-1) * ps_mul ps_s (ps_c (A p q)) k + (if p = q then ps_c 1 else ps_c 0) k := by
    funext k
    show (if p = q then ps_c 1 else ps_c 0) k - ps_mul ps_s (ps_c (A p q)) k = _
    omega
  rw [e, ps_lin, ps_assoc]
  have e1 : ps_mul ps_s (ps_mul (ps_c (A p q)) w) m = if m = 0 then 0 else A p q * w (m - 1) := by
    match m with
    | 0 => rw [if_pos rfl, ps_mul_s0]
    | m + 1 => rw [if_neg (Nat.succ_ne_zero m), ps_mul_s, ps_mul_c, Nat.add_sub_cancel]
  have e2 : ps_mul (if p = q then ps_c 1 else ps_c 0) w m = if p = q then w m else 0 := by
    by_cases h : p = q
    · rw [if_pos h, if_pos h, ps_mul_c, Int.one_mul]
    · rw [if_neg h, if_neg h, ps_mul_c, Int.zero_mul]
  rw [e1, e2]
  omega
/-- Cayley and Hamilton, a column: Horner's vectors over the right side e_v end in 0 -/
theorem ch_col (A : Nat → Nat → Int) {l : List Nat} (hn : l.Nodup) : (∀ m, l.length < m → ch_P A l m = 0) ∧ ∀ v ∈ l, ∃ w : Nat → Nat → Int, (∀ p m, l.length ≤ m → w p m = 0) ∧ (∀ m, w v m = ch_P A (l.erase v) m) ∧ (∀ p ∈ l, w p 0 = if p = v then ch_P A l 0 else 0) ∧ ∀ p ∈ l, ∀ m, w p (m + 1) = mx_sum l (fun q => A p q * w q m) + if p = v then ch_P A l (m + 1) else 0 := by
  obtain ⟨h1, h2⟩ := @mx_adj ps_T ps_ring _ _ ps_H _ _ _ ps_G rfl A l.length l rfl hn
  refine ⟨fun m hm => h1 m hm, fun v hv => ?_⟩
  obtain ⟨w, a1, a2, a3⟩ := h2 v hv
  have key : ∀ p ∈ l, ∀ m, w p m - (if m = 0 then 0 else mx_sum l (fun q => A p q * w q (m - 1))) = if p = v then ch_P A l m else 0 := by
    intro p hp m
    have e := congrFun (a3 p hp) m
    rw [ps_sum_at] at e
    have e2 : mx_sum l (fun q => ps_mul (@mx_M ps_T ps_ring ps_c ps_s A p q) (w q) m) = (if p = v then @mx_piv ps_T ps_ring ps_inv l (@mx_M ps_T ps_ring ps_c ps_s A) else ps_c 0) m := e
    rw [mx_sum_congr (fun q _ => ps_M_mul A p q (w q) m), mx_sum_sub, mx_sum_delta hn hp (fun q => w q m)] at e2
    by_cases hm : m = 0
    · simp only [if_pos hm] at e2 ⊢
      rw [mx_sum_zero] at e2
      rw [e2]
      by_cases hpv : p = v
      · rw [if_pos hpv, if_pos hpv]; rfl
      · rw [if_neg hpv, if_neg hpv]; show ps_c 0 m = 0; rw [ps_c_0]
    · simp only [if_neg hm] at e2 ⊢
      rw [e2]
      by_cases hpv : p = v
      · rw [if_pos hpv, if_pos hpv]; rfl
      · rw [if_neg hpv, if_neg hpv]; show ps_c 0 m = 0; rw [ps_c_0]
  refine ⟨fun p m => w p m, fun p m hm => a1 p m hm, fun m => congrFun a2 m, fun p hp => ?_, fun p hp m => ?_⟩
  · have := key p hp 0
    rw [if_pos rfl] at this
    show w p 0 = _
    omega
  · have := key p hp (m + 1)
    rw [if_neg (Nat.succ_ne_zero m), Nat.add_sub_cancel] at this
    show w p (m + 1) = mx_sum l (fun q => A p q * w q m) + _
    omega
/-- Horner's vectors over the right side b -/
def ch_ho (A : Nat → Nat → Int) (l : List Nat) (P : Nat → Int) (b : Nat → Int) : Nat → Nat → Int
  | 0 => fun p => P 0 * b p
  | m + 1 => fun p => mx_sum l (fun q => A p q * ch_ho A l P b m q) + P (m + 1) * b p
theorem ch_end (A : Nat → Nat → Int) {l : List Nat} (hn : l.Nodup) (b : Nat → Int) : ∀ p ∈ l, ∀ m, l.length ≤ m → ch_ho A l (ch_P A l) b m p = 0 := by
  obtain ⟨_, h2⟩ := ch_col A hn
  have hch : ∀ v, ∃ w : Nat → Nat → Int, v ∈ l → ((∀ p m, l.length ≤ m → w p m = 0) ∧ (∀ p ∈ l, w p 0 = if p = v then ch_P A l 0 else 0) ∧ ∀ p ∈ l, ∀ m, w p (m + 1) = mx_sum l (fun q => A p q * w q m) + if p = v then ch_P A l (m + 1) else 0) := by
    intro v
    by_cases hv : v ∈ l
    · obtain ⟨w, a, _, b, c⟩ := h2 v hv
      exact ⟨w, fun _ => ⟨a, b, c⟩⟩
    · exact ⟨fun _ _ => 0, fun h => absurd h hv⟩
  obtain ⟨W, hW⟩ := Classical.axiomOfChoice hch
  have key : ∀ m, ∀ p ∈ l, ch_ho A l (ch_P A l) b m p = mx_sum l (fun v => b v * W v p m) := by
    intro m
    induction m with
    | zero =>
      intro p hp
      have e : mx_sum l (fun v => b v * W v p 0) = mx_sum l (fun v => if p = v then ch_P A l 0 * b v else 0) := by
        refine mx_sum_congr (fun v hv => ?_)
        rw [(hW v hv).2.1 p hp]
        by_cases h : p = v
        · rw [if_pos h, if_pos h, Int.mul_comm]
        · rw [if_neg h, if_neg h, Int.mul_zero]
      rw [e, mx_sum_delta hn hp]; rfl
    | succ m ih =>
      intro p hp
      have e : mx_sum l (fun v => b v * W v p (m + 1)) = mx_sum l (fun v => b v * mx_sum l (fun q => A p q * W v q m) + if p = v then ch_P A l (m + 1) * b v else 0) := by
        refine mx_sum_congr (fun v hv => ?_)
        rw [(hW v hv).2.2 p hp m]
        by_cases h : p = v
        · rw [if_pos h, if_pos h]; grind
        · rw [if_neg h, if_neg h]; grind
      rw [e, mx_sum_add, mx_sum_delta hn hp]
      show mx_sum l (fun q => A p q * ch_ho A l (ch_P A l) b m q) + ch_P A l (m + 1) * b p = _
      have e2 : mx_sum l (fun q => A p q * ch_ho A l (ch_P A l) b m q) = mx_sum l (fun q => mx_sum l (fun v => b v * (A p q * W v q m))) := by
        refine mx_sum_congr (fun q hq => ?_)
        rw [ih q hq, ← mx_sum_mul]
        exact mx_sum_congr (fun v _ => by grind)
      have e3 : mx_sum l (fun v => b v * mx_sum l (fun q => A p q * W v q m)) = mx_sum l (fun v => mx_sum l (fun q => b v * (A p q * W v q m))) := mx_sum_congr (fun v _ => (mx_sum_mul _ _ _).symm)
      rw [e2, e3, mx_sum_swap]
  intro p hp m hm
  rw [key m p hp, mx_sum_congr (g := fun _ => 0) (fun v hv => by rw [(hW v hv).1 p m hm, Int.mul_zero]), mx_sum_zero]
/-- powers of A on a column, inside l -/
def ch_pw (A : Nat → Nat → Int) (l : List Nat) (c : Nat → Int) : Nat → Nat → Int
  | 0 => c
  | k + 1 => fun p => mx_sum l (fun q => A p q * ch_pw A l c k q)
/-- what one more row and column multiplies the polynomial by -/
def ch_g (A : Nat → Nat → Int) (l : List Nat) (i : Nat) : Nat → Int
  | 0 => 1
  | 1 => - A i i
  | k + 2 => - mx_sum l (fun q => A i q * ch_pw A l (fun p => A p i) k q)
theorem ch_grow (A : Nat → Nat → Int) {l : List Nat} (hn : l.Nodup) {i : Nat} (hi : i ∉ l) : ch_P A (l ++ [i]) = ps_mul (ch_P A l) (ch_g A l i) := by
  have hX : ∀ p ∈ l, @mx_M ps_T ps_ring ps_c ps_s A p i = @mx_sum ps_T ps_ring l (fun q => (ps_ring.toRing.toSemiring.toMul.mul (@mx_M ps_T ps_ring ps_c ps_s A p q) (fun m => if m = 0 then 0 else - ch_pw A l (fun p => A p i) (m - 1) q))) := by
    intro p hp
    funext m
    rw [ps_sum_at]
    have e0 : @mx_M ps_T ps_ring ps_c ps_s A p i m = if m = 1 then - A p i else 0 := by
      show (if p = i then ps_c 1 else ps_c 0) m - ps_mul ps_s (ps_c (A p i)) m = _
      rw [if_neg (mx_ne hi hp), ps_c_0]
      match m with
      | 0 => rw [ps_mul_s0]; rfl
      | 1 => rw [ps_mul_s, if_pos rfl]; show (0 : Int) - A p i = _; omega
      | m + 2 => rw [ps_mul_s, if_neg (by omega)]; show (0 : Int) - 0 = 0; rfl
    have e1 : mx_sum l (fun q => ps_mul (@mx_M ps_T ps_ring ps_c ps_s A p q) (fun m => if m = 0 then 0 else - ch_pw A l (fun p => A p i) (m - 1) q) m) = mx_sum l (fun q => (if p = q then (if m = 0 then 0 else - ch_pw A l (fun p => A p i) (m - 1) q) else 0) - (if m = 0 then 0 else A p q * (if m - 1 = 0 then 0 else - ch_pw A l (fun p => A p i) (m - 1 - 1) q))) := mx_sum_congr (fun q _ => ps_M_mul A p q _ m)
    refine Eq.trans e0 (Eq.trans ?_ e1.symm)
    rw [mx_sum_sub, mx_sum_delta hn hp (fun q => if m = 0 then 0 else - ch_pw A l (fun p => A p i) (m - 1) q)]
    match m with
    | 0 =>
      have : mx_sum l (fun q => if 0 = 0 then 0 else A p q * (if 0 - 1 = 0 then 0 else - ch_pw A l (fun p => A p i) (0 - 1 - 1) q)) = 0 := by
        rw [mx_sum_congr (g := fun _ => 0) (fun q _ => if_pos rfl), mx_sum_zero]
      rw [this, if_neg (by omega), if_pos rfl]; rfl
    | 1 =>
      have : mx_sum l (fun q => if 1 = 0 then 0 else A p q * (if 1 - 1 = 0 then 0 else - ch_pw A l (fun p => A p i) (1 - 1 - 1) q)) = 0 := by
        rw [mx_sum_congr (g := fun _ => 0) (fun q _ => by rw [if_neg (by omega), if_pos rfl, Int.mul_zero]), mx_sum_zero]
      rw [this, if_pos rfl, if_neg (by omega)]
      show - A p i = - A p i - 0
      omega
    | m + 2 =>
      have : mx_sum l (fun q => if m + 2 = 0 then 0 else A p q * (if m + 2 - 1 = 0 then 0 else - ch_pw A l (fun p => A p i) (m + 2 - 1 - 1) q)) = - ch_pw A l (fun p => A p i) (m + 1) p := by
        show _ = - mx_sum l (fun q => A p q * ch_pw A l (fun p => A p i) m q)
        have e9 : - mx_sum l (fun q => A p q * ch_pw A l (fun p => A p i) m q) = (-1) * mx_sum l (fun q => A p q * ch_pw A l (fun p => A p i) m q) := by omega
        rw [e9, ← mx_sum_mul]
        refine mx_sum_congr (fun q _ => ?_)
        rw [if_neg (by omega), if_neg (by omega)]
        show A p q * - ch_pw A l (fun p => A p i) m q = _
        grind
      rw [this, if_neg (by omega), if_neg (by omega)]
      show (0 : Int) = - ch_pw A l (fun p => A p i) (m + 1) p - - ch_pw A l (fun p => A p i) (m + 1) p
      omega
  have hE := @mx_col ps_T ps_ring _ _ ps_H (fun q => fun m => if m = 0 then 0 else - ch_pw A l (fun p => A p i) (m - 1) q) i l (@mx_M ps_T ps_ring ps_c ps_s A) hn (@mx_ok_M ps_T ps_ring _ _ ps_H ps_c ps_s rfl A l) hX i
  have hg : @mx_els ps_T ps_ring ps_inv l (@mx_M ps_T ps_ring ps_c ps_s A) i i = ch_g A l i := by
    refine hE.trans (funext fun m => ?_)
    show @mx_M ps_T ps_ring ps_c ps_s A i i m - (@mx_sum ps_T ps_ring l _) m = _
    rw [ps_sum_at]
    have e0 : @mx_M ps_T ps_ring ps_c ps_s A i i m = (if m = 0 then 1 else 0) - if m = 1 then A i i else 0 := by
      show (if i = i then ps_c 1 else ps_c 0) m - ps_mul ps_s (ps_c (A i i)) m = _
      rw [if_pos rfl]
      match m with
      | 0 => rw [ps_mul_s0]; rfl
      | 1 => rw [ps_mul_s]; rfl
      | m + 2 => rw [ps_mul_s]; rfl
    have e1 : mx_sum l (fun q => ps_mul (@mx_M ps_T ps_ring ps_c ps_s A i q) (fun m => if m = 0 then 0 else - ch_pw A l (fun p => A p i) (m - 1) q) m) = mx_sum l (fun q => - (if m = 0 then 0 else A i q * (if m - 1 = 0 then 0 else - ch_pw A l (fun p => A p i) (m - 1 - 1) q))) := by
      refine mx_sum_congr (fun q hq => ?_)
      rw [ps_M_mul, if_neg (mx_ne hi hq).symm]
      omega
    rw [e0]
    refine Eq.trans (congrArg (fun z => _ - z) e1) ?_
    match m with
    | 0 =>
      rw [mx_sum_congr (g := fun _ => 0) (fun q _ => by rw [if_pos rfl]; rfl), mx_sum_zero]; rfl
    | 1 =>
      rw [mx_sum_congr (g := fun _ => 0) (fun q _ => by rw [if_neg (by omega), if_pos rfl, Int.mul_zero]; rfl), mx_sum_zero]
      show (0 : Int) - A i i - 0 = - A i i
      omega
    | m + 2 =>
      rw [mx_sum_congr (g := fun q => A i q * ch_pw A l (fun p => A p i) m q) (fun q _ => by
        rw [if_neg (by omega), if_neg (by omega)]
        show - (A i q * - ch_pw A l (fun p => A p i) m q) = _
        grind)]
      show (0 : Int) - 0 - _ = - _
      omega
  show @mx_piv ps_T ps_ring ps_inv (l ++ [i]) (@mx_M ps_T ps_ring ps_c ps_s A) = _
  refine (@mx_piv_app ps_T ps_ring ps_inv i l _).trans ?_
  show ps_mul (ch_P A l) (@mx_els ps_T ps_ring ps_inv l (@mx_M ps_T ps_ring ps_c ps_s A) i i) = _
  rw [hg]
end
section
/-! Pure rows: a symmetric matrix whose form is never below 0: its minors, and the adjugate's entries -/
def pd_sg (n : Nat) : Int := if n % 2 = 0 then 1 else -1
theorem pd_sg_s (n : Nat) : pd_sg (n + 1) = - pd_sg n := by
  unfold pd_sg
  by_cases h : n % 2 = 0
  · rw [if_pos h, if_neg (by omega)]
  · rw [if_neg h, if_pos (by omega)]; rfl
theorem pd_sg_sq (n : Nat) : pd_sg n * pd_sg n = 1 := by
  unfold pd_sg
  by_cases h : n % 2 = 0
  · rw [if_pos h]; rfl
  · rw [if_neg h]; rfl
/-- the determinant of the rows and columns l -/
def pd_D (A : Nat → Nat → Int) (l : List Nat) : Int := pd_sg l.length * ch_P A l l.length
theorem pd_D_nil (A : Nat → Nat → Int) : pd_D A [] = 1 := rfl
theorem pd_adj (A : Nat → Nat → Int) {l : List Nat} (hn : l.Nodup) {v : Nat} (hv : v ∈ l) : ∃ a : Nat → Int, (∀ p ∈ l, mx_sum l (fun q => A p q * a q) = if p = v then pd_D A l else 0) ∧ a v = pd_D A (l.erase v) := by
  obtain ⟨w, h1, h2, h3, h4⟩ := (ch_col A hn).2 v hv
  have hpos : 0 < l.length := List.length_pos_of_mem hv
  obtain ⟨n, hl⟩ : ∃ n, l.length = n + 1 := ⟨l.length - 1, by omega⟩
  have hle : (l.erase v).length = n := by
    have := List.length_erase_of_mem hv
    omega
  refine ⟨fun p => pd_sg n * w p n, fun p hp => ?_, ?_⟩
  · have e1 : mx_sum l (fun q => A p q * (pd_sg n * w q n)) = pd_sg n * mx_sum l (fun q => A p q * w q n) := by
      rw [← mx_sum_mul]
      exact mx_sum_congr (fun q _ => by grind)
    have e2 := h4 p hp n
    rw [h1 p (n + 1) (by omega)] at e2
    rw [e1]
    unfold pd_D
    rw [hl, pd_sg_s]
    by_cases hpv : p = v
    · rw [if_pos hpv] at e2 ⊢
      have : mx_sum l (fun q => A p q * w q n) = - ch_P A l (n + 1) := by omega
      rw [this]; grind
    · rw [if_neg hpv] at e2 ⊢
      have : mx_sum l (fun q => A p q * w q n) = 0 := by omega
      rw [this]; grind
  · show pd_sg n * w v n = _
    unfold pd_D
    rw [hle, h2]
def pd_q (A : Nat → Nat → Int) (l : List Nat) (x y : Nat → Int) : Int := mx_sum l (fun p => x p * mx_sum l (fun q => A p q * y q))
def pd_sym (A : Nat → Nat → Int) (l : List Nat) : Prop := ∀ p ∈ l, ∀ q ∈ l, A p q = A q p
def pd_pos (A : Nat → Nat → Int) (l : List Nat) : Prop := ∀ x : Nat → Int, 0 ≤ pd_q A l x x
theorem pd_q_sym {A : Nat → Nat → Int} {l : List Nat} (h : pd_sym A l) (x y : Nat → Int) : pd_q A l x y = pd_q A l y x := by
  unfold pd_q
  have e1 : mx_sum l (fun p => x p * mx_sum l (fun q => A p q * y q)) = mx_sum l (fun p => mx_sum l (fun q => x p * (A p q * y q))) := mx_sum_congr (fun p _ => (mx_sum_mul _ _ _).symm)
  have e2 : mx_sum l (fun p => y p * mx_sum l (fun q => A p q * x q)) = mx_sum l (fun p => mx_sum l (fun q => y p * (A p q * x q))) := mx_sum_congr (fun p _ => (mx_sum_mul _ _ _).symm)
  rw [e1, e2, mx_sum_swap]
  refine mx_sum_congr (fun p hp => mx_sum_congr (fun q hq => ?_))
  rw [h q hq p hp]; grind
theorem pd_q_addl (A : Nat → Nat → Int) (l : List Nat) (x y z : Nat → Int) (c : Int) : pd_q A l (fun p => x p + c * y p) z = pd_q A l x z + c * pd_q A l y z := by
  unfold pd_q
  rw [← mx_sum_mul, ← mx_sum_add]
  exact mx_sum_congr (fun p _ => by grind)
theorem pd_q_lin {A : Nat → Nat → Int} {l : List Nat} (h : pd_sym A l) (x y : Nat → Int) (c : Int) : pd_q A l (fun p => x p + c * y p) (fun p => x p + c * y p) = pd_q A l x x + 2 * c * pd_q A l x y + c * c * pd_q A l y y := by
  rw [pd_q_addl, pd_q_sym h x (fun p => x p + c * y p), pd_q_sym h y (fun p => x p + c * y p), pd_q_addl, pd_q_addl, pd_q_sym h y x]
  grind
/-- where the form is 0, the matrix answers 0 -/
theorem pd_null {A : Nat → Nat → Int} {l : List Nat} (h : pd_sym A l) (hp : pd_pos A l) {x : Nat → Int} (h0 : pd_q A l x x = 0) (y : Nat → Int) : pd_q A l y x = 0 := by
  have k : ∀ c : Int, 0 ≤ pd_q A l y y + 2 * c * pd_q A l y x := by
    intro c
    have := hp (fun p => y p + c * x p)
    rw [pd_q_lin h, h0] at this
    omega
  generalize pd_q A l y x = z at k ⊢
  have hy := hp y
  generalize pd_q A l y y = w at k hy
  rcases Int.lt_trichotomy z 0 with hz | hz | hz
  · have k1 := k (w + 1)
    have : 2 * (w + 1) * z ≤ 2 * (w + 1) * (-1) := Int.mul_le_mul_of_nonneg_left (by omega) (by omega)
    omega
  · exact hz
  · have k1 := k (-(w + 1))
    have : 2 * (w + 1) * 1 ≤ 2 * (w + 1) * z := Int.mul_le_mul_of_nonneg_left (by omega) (by omega)
    have e : 2 * -(w + 1) * z = - (2 * (w + 1) * z) := by grind
    omega
theorem pd_row {A : Nat → Nat → Int} {l : List Nat} (hn : l.Nodup) {v : Nat} (hv : v ∈ l) (x : Nat → Int) : pd_q A l (fun p => if v = p then 1 else 0) x = mx_sum l (fun q => A v q * x q) := by
  unfold pd_q
  have e : mx_sum l (fun p => (if v = p then 1 else 0) * mx_sum l (fun q => A p q * x q)) = mx_sum l (fun p => if v = p then mx_sum l (fun q => A p q * x q) else 0) := by
    refine mx_sum_congr (fun p _ => ?_)
    by_cases h : v = p
    · rw [if_pos h, if_pos h, Int.one_mul]
    · rw [if_neg h, if_neg h, Int.zero_mul]
  rw [e, mx_sum_delta hn hv (fun p => mx_sum l (fun q => A p q * x q))]
/-- the form at x, where A x = d e_v -/
theorem pd_at {A : Nat → Nat → Int} {l : List Nat} (hn : l.Nodup) {v : Nat} (hv : v ∈ l) {x : Nat → Int} {d : Int} (h : ∀ p ∈ l, mx_sum l (fun q => A p q * x q) = if p = v then d else 0) (y : Nat → Int) : pd_q A l y x = y v * d := by
  unfold pd_q
  have e : mx_sum l (fun p => y p * mx_sum l (fun q => A p q * x q)) = mx_sum l (fun p => if v = p then y p * d else 0) := by
    refine mx_sum_congr (fun p hp => ?_)
    rw [h p hp]
    by_cases hpv : p = v
    · rw [if_pos hpv, if_pos hpv.symm]
    · rw [if_neg hpv, if_neg (fun q => hpv q.symm), Int.mul_zero]
  rw [e, mx_sum_delta hn hv (fun p => y p * d)]
theorem pd_erase {A : Nat → Nat → Int} {l : List Nat} (hn : l.Nodup) {v : Nat} (hv : v ∈ l) (hp : pd_pos A l) : pd_pos A (l.erase v) := by
  intro x
  have hperm : l.Perm (v :: l.erase v) := List.perm_cons_erase hv
  have hve : v ∉ l.erase v := (List.nodup_cons.mp (hperm.nodup_iff.mp hn)).1
  have hx := hp (fun p => if p = v then 0 else x p)
  have inner : ∀ p, mx_sum l (fun q => A p q * (if q = v then 0 else x q)) = mx_sum (l.erase v) (fun q => A p q * x q) := by
    intro p
    rw [mx_sum_perm hperm]
    simp only [mx_sum]
    rw [if_pos trivial, Int.mul_zero, Int.zero_add]
    exact mx_sum_congr (fun q hq => by rw [if_neg (mx_ne hve hq)])
  have e : pd_q A l (fun p => if p = v then 0 else x p) (fun p => if p = v then 0 else x p) = pd_q A (l.erase v) x x := by
    unfold pd_q
    rw [mx_sum_perm hperm]
    simp only [mx_sum]
    rw [if_pos trivial, Int.zero_mul, Int.zero_add]
    exact mx_sum_congr (fun p hq => by rw [if_neg (mx_ne hve hq), inner p])
  rw [e] at hx
  exact hx
theorem pd_main {A : Nat → Nat → Int} : ∀ (n : Nat) (l : List Nat), l.length = n → l.Nodup → pd_sym A l → pd_pos A l → 0 ≤ pd_D A l ∧ ∀ v ∈ l, pd_D A l ≤ A v v * pd_D A (l.erase v) ∧ (pd_D A (l.erase v) = 0 → pd_D A l = 0)
  | 0, l, hl, _, _, _ => by
    have : l = [] := List.length_eq_zero_iff.mp hl
    subst this
    exact ⟨by rw [pd_D_nil]; decide, fun v hv => absurd hv List.not_mem_nil⟩
  | n + 1, l, hl, hn, hs, hp => by
    have all : ∀ v ∈ l, 0 ≤ pd_D A l ∧ pd_D A l ≤ A v v * pd_D A (l.erase v) ∧ (pd_D A (l.erase v) = 0 → pd_D A l = 0) := by
      intro v hv
      have hperm : l.Perm (v :: l.erase v) := List.perm_cons_erase hv
      have hn2 : (v :: l.erase v).Nodup := hperm.nodup_iff.mp hn
      obtain ⟨hve, hne⟩ := List.nodup_cons.mp hn2
      have hlen : (l.erase v).length = n := by
        have := hperm.length_eq
        rw [List.length_cons] at this
        omega
      have hin : ∀ p ∈ l.erase v, p ∈ l := fun p h => List.mem_of_mem_erase h
      have hpe := pd_erase hn hv hp
      obtain ⟨i0, -⟩ := pd_main n (l.erase v) hlen hne (fun p hp q hq => hs p (hin p hp) q (hin q hq)) hpe
      obtain ⟨a, ha, hav⟩ := pd_adj A hn hv
      have hq := pd_at hn hv ha a
      rw [hav] at hq
      have h0 := hp a
      by_cases hz : pd_D A (l.erase v) = 0
      · rw [hz, Int.zero_mul] at hq
        have h1 := pd_null hs hp hq (fun p => if v = p then 1 else 0)
        rw [pd_at hn hv ha, if_pos rfl, Int.one_mul] at h1
        rw [h1, hz, Int.mul_zero]
        exact ⟨Int.le_refl 0, Int.le_refl 0, fun _ => rfl⟩
      · have hpos : 0 < pd_D A (l.erase v) := by omega
        rw [hq] at h0
        have hD : 0 ≤ pd_D A l := by
          rcases Int.lt_or_le (pd_D A l) 0 with h | h
          · exact absurd (Int.mul_neg_of_pos_of_neg hpos h) (by omega)
          · exact h
        refine ⟨hD, ?_, fun h => absurd h hz⟩
        have row : ∀ p, mx_sum l (fun q => A p q * a q) = A p v * pd_D A (l.erase v) + mx_sum (l.erase v) (fun q => A p q * a q) := by
          intro p
          rw [mx_sum_perm hperm]
          simp only [mx_sum]
          rw [hav]
        have r1 : ∀ p ∈ l.erase v, mx_sum (l.erase v) (fun q => A p q * a q) = - (A p v * pd_D A (l.erase v)) := by
          intro p hpp
          have := ha p (hin p hpp)
          rw [row p, if_neg (mx_ne hve hpp)] at this
          omega
        have hf := hpe a
        have e1 : pd_q A (l.erase v) a a = - (pd_D A (l.erase v)) * mx_sum (l.erase v) (fun p => a p * A p v) := by
          unfold pd_q
          rw [← mx_sum_mul]
          refine mx_sum_congr (fun p hpp => ?_)
          rw [r1 p hpp]; grind
        rw [e1] at hf
        have hle : mx_sum (l.erase v) (fun p => a p * A p v) ≤ 0 := by
          rcases Int.lt_or_le 0 (mx_sum (l.erase v) (fun p => a p * A p v)) with h | h
          · have := Int.mul_pos hpos h
            have e9 : - (pd_D A (l.erase v)) * mx_sum (l.erase v) (fun p => a p * A p v) = - (pd_D A (l.erase v) * mx_sum (l.erase v) (fun p => a p * A p v)) := by grind
            omega
          · exact h
        have rv := ha v hv
        rw [if_pos rfl, row v] at rv
        have e2 : mx_sum (l.erase v) (fun q => A v q * a q) = mx_sum (l.erase v) (fun p => a p * A p v) := mx_sum_congr (fun q hq => by rw [hs v hv q (hin q hq)]; exact Int.mul_comm _ _)
        omega
    match l, hl with
    | v :: t, _ => exact ⟨(all v List.mem_cons_self).1, fun u hu => (all u hu).2⟩
/-- entries of the adjugate, out of its diagonal -/
theorem pd_entry {A : Nat → Nat → Int} {l : List Nat} (hn : l.Nodup) (hs : pd_sym A l) (hp : pd_pos A l) (hD : 0 < pd_D A l) {u v : Nat} (hu : u ∈ l) (hv : v ∈ l) {a b : Nat → Int} (ha : ∀ p ∈ l, mx_sum l (fun q => A p q * a q) = if p = v then pd_D A l else 0) (hb : ∀ p ∈ l, mx_sum l (fun q => A p q * b q) = if p = u then pd_D A l else 0) : 2 * a u ≤ a v + b u ∧ - (a v + b u) ≤ 2 * a u := by
  have e1 : pd_q A l b a = b v * pd_D A l := pd_at hn hv ha b
  have e2 : pd_q A l a b = a u * pd_D A l := pd_at hn hu hb a
  have e3 : pd_q A l a a = a v * pd_D A l := pd_at hn hv ha a
  have e4 : pd_q A l b b = b u * pd_D A l := pd_at hn hu hb b
  have k : ∀ c : Int, c * c = 1 → 0 ≤ a v + 2 * c * a u + b u := by
    intro c hc
    have := hp (fun p => a p + c * b p)
    rw [pd_q_lin hs, e2, e3, e4, hc] at this
    have e5 : a v * pd_D A l + 2 * c * (a u * pd_D A l) + 1 * (b u * pd_D A l) = pd_D A l * (a v + 2 * c * a u + b u) := by grind
    rw [e5] at this
    rcases Int.lt_or_le (a v + 2 * c * a u + b u) 0 with h | h
    · exact absurd (Int.mul_neg_of_pos_of_neg hD h) (by omega)
    · exact h
  have k1 := k 1 rfl
  have k2 := k (-1) rfl
  omega
/-- a solution's entries, out of the adjugate's -/
theorem pd_sol {A : Nat → Nat → Int} {l : List Nat} (hn : l.Nodup) (hs : pd_sym A l) (hD : 0 < pd_D A l) {v : Nat} (hv : v ∈ l) {a y b : Nat → Int} (ha : ∀ p ∈ l, mx_sum l (fun q => A p q * a q) = if p = v then pd_D A l else 0) (hy : ∀ p ∈ l, mx_sum l (fun q => A p q * y q) = pd_D A l * b p) : y v = mx_sum l (fun p => a p * b p) := by
  have e1 : pd_q A l y a = y v * pd_D A l := pd_at hn hv ha y
  have e2 : pd_q A l a y = pd_D A l * mx_sum l (fun p => a p * b p) := by
    unfold pd_q
    rw [← mx_sum_mul]
    refine mx_sum_congr (fun p hp => ?_)
    rw [hy p hp]; grind
  rw [pd_q_sym hs, e2] at e1
  have : pd_D A l * mx_sum l (fun p => a p * b p) = pd_D A l * y v := by rw [e1]; exact Int.mul_comm _ _
  exact (Int.eq_of_mul_eq_mul_left (Int.ne_of_gt hD) this).symm
end
