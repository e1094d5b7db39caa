theorem kw_233 : Cond.methodLink RQ_L 13 y_S_node ∈ gt_ws := gt_of 233 (by decide +kernel) (by decide +kernel)
theorem kw_234 : Cond.instanceMethod y_S_node ∈ gt_ws := gt_of 234 (by decide +kernel) (by decide +kernel)
theorem kw_235 : Cond.selects RQ_S y_S_node y_S_node ∈ gt_ws := gt_of 235 (by decide +kernel) (by decide +kernel)
theorem kw_236 : Cond.code y_S_node c_S_node 4 (some .int) ∈ gt_ws := gt_of 236 (by decide +kernel) (by decide +kernel)
theorem kw_258 : Cond.methodLink RQ_L 18 y_S_bar ∈ gt_ws := gt_of 258 (by decide +kernel) (by decide +kernel)
theorem kw_259 : Cond.instanceMethod y_S_bar ∈ gt_ws := gt_of 259 (by decide +kernel) (by decide +kernel)
theorem kw_260 : Cond.selects RQ_S y_S_bar y_S_bar ∈ gt_ws := gt_of 260 (by decide +kernel) (by decide +kernel)
theorem kw_261 : Cond.code y_S_bar c_S_bar 4 (some .int) ∈ gt_ws := gt_of 261 (by decide +kernel) (by decide +kernel)
theorem kw_266 : Cond.methodLink RQ_L 22 y_S_unbar ∈ gt_ws := gt_of 266 (by decide +kernel) (by decide +kernel)
theorem kw_267 : Cond.instanceMethod y_S_unbar ∈ gt_ws := gt_of 267 (by decide +kernel) (by decide +kernel)
theorem kw_268 : Cond.selects RQ_S y_S_unbar y_S_unbar ∈ gt_ws := gt_of 268 (by decide +kernel) (by decide +kernel)
theorem kw_269 : Cond.code y_S_unbar c_S_unbar 2 (some .int) ∈ gt_ws := gt_of 269 (by decide +kernel) (by decide +kernel)
theorem kw_278 : Cond.methodLink RQ_L 27 y_S_hold ∈ gt_ws := gt_of 278 (by decide +kernel) (by decide +kernel)
theorem kw_279 : Cond.instanceMethod y_S_hold ∈ gt_ws := gt_of 279 (by decide +kernel) (by decide +kernel)
theorem kw_280 : Cond.selects RQ_S y_S_hold y_S_hold ∈ gt_ws := gt_of 280 (by decide +kernel) (by decide +kernel)
theorem kw_281 : Cond.code y_S_hold c_S_hold 6 (some .int) ∈ gt_ws := gt_of 281 (by decide +kernel) (by decide +kernel)
theorem kw_286 : Cond.methodLink RQ_L 32 y_S_spring ∈ gt_ws := gt_of 286 (by decide +kernel) (by decide +kernel)
theorem kw_287 : Cond.instanceMethod y_S_spring ∈ gt_ws := gt_of 287 (by decide +kernel) (by decide +kernel)
theorem kw_288 : Cond.selects RQ_S y_S_spring y_S_spring ∈ gt_ws := gt_of 288 (by decide +kernel) (by decide +kernel)
theorem kw_289 : Cond.code y_S_spring c_S_spring 4 (some .int) ∈ gt_ws := gt_of 289 (by decide +kernel) (by decide +kernel)
theorem kw_290 : Cond.methodLink RQ_L 36 y_S_load ∈ gt_ws := gt_of 290 (by decide +kernel) (by decide +kernel)
theorem kw_291 : Cond.instanceMethod y_S_load ∈ gt_ws := gt_of 291 (by decide +kernel) (by decide +kernel)
theorem kw_292 : Cond.selects RQ_S y_S_load y_S_load ∈ gt_ws := gt_of 292 (by decide +kernel) (by decide +kernel)
theorem kw_293 : Cond.code y_S_load c_S_load 5 (some .int) ∈ gt_ws := gt_of 293 (by decide +kernel) (by decide +kernel)
theorem kw_297 : Cond.methodLink RQ_L 41 y_S_solve ∈ gt_ws := gt_of 297 (by decide +kernel) (by decide +kernel)
theorem kw_298 : Cond.instanceMethod y_S_solve ∈ gt_ws := gt_of 298 (by decide +kernel) (by decide +kernel)
theorem kw_299 : Cond.selects RQ_S y_S_solve y_S_solve ∈ gt_ws := gt_of 299 (by decide +kernel) (by decide +kernel)
theorem kw_300 : Cond.code y_S_solve c_S_solve 3 (some .int) ∈ gt_ws := gt_of 300 (by decide +kernel) (by decide +kernel)
theorem kw_413 : Cond.methodLink RQ_L 46 y_S_open ∈ gt_ws := gt_of 413 (by decide +kernel) (by decide +kernel)
theorem kw_414 : Cond.instanceMethod y_S_open ∈ gt_ws := gt_of 414 (by decide +kernel) (by decide +kernel)
theorem kw_415 : Cond.selects RQ_S y_S_open y_S_open ∈ gt_ws := gt_of 415 (by decide +kernel) (by decide +kernel)
theorem kw_416 : Cond.code y_S_open c_S_open 1 (some .int) ∈ gt_ws := gt_of 416 (by decide +kernel) (by decide +kernel)
theorem kw_417 : Cond.methodLink RQ_L 50 y_S_displacement ∈ gt_ws := gt_of 417 (by decide +kernel) (by decide +kernel)
theorem kw_418 : Cond.instanceMethod y_S_displacement ∈ gt_ws := gt_of 418 (by decide +kernel) (by decide +kernel)
theorem kw_419 : Cond.selects RQ_S y_S_displacement y_S_displacement ∈ gt_ws := gt_of 419 (by decide +kernel) (by decide +kernel)
theorem kw_420 : Cond.code y_S_displacement c_S_displacement 5 (some .long) ∈ gt_ws := gt_of 420 (by decide +kernel) (by decide +kernel)
theorem kw_477 : Cond.methodLink RQ_L 55 y_S_force ∈ gt_ws := gt_of 477 (by decide +kernel) (by decide +kernel)
theorem kw_478 : Cond.instanceMethod y_S_force ∈ gt_ws := gt_of 478 (by decide +kernel) (by decide +kernel)
theorem kw_479 : Cond.selects RQ_S y_S_force y_S_force ∈ gt_ws := gt_of 479 (by decide +kernel) (by decide +kernel)
theorem kw_480 : Cond.code y_S_force c_S_force 4 (some .long) ∈ gt_ws := gt_of 480 (by decide +kernel) (by decide +kernel)
theorem kw_486 : Cond.methodLink RQ_L 60 y_S_reaction ∈ gt_ws := gt_of 486 (by decide +kernel) (by decide +kernel)
theorem kw_487 : Cond.instanceMethod y_S_reaction ∈ gt_ws := gt_of 487 (by decide +kernel) (by decide +kernel)
theorem kw_488 : Cond.selects RQ_S y_S_reaction y_S_reaction ∈ gt_ws := gt_of 488 (by decide +kernel) (by decide +kernel)
theorem kw_489 : Cond.code y_S_reaction c_S_reaction 6 (some .long) ∈ gt_ws := gt_of 489 (by decide +kernel) (by decide +kernel)
theorem kw_494 : Cond.methodLink RQ_L 64 y_S_combined ∈ gt_ws := gt_of 494 (by decide +kernel) (by decide +kernel)
theorem kw_495 : Cond.instanceMethod y_S_combined ∈ gt_ws := gt_of 495 (by decide +kernel) (by decide +kernel)
theorem kw_496 : Cond.selects RQ_S y_S_combined y_S_combined ∈ gt_ws := gt_of 496 (by decide +kernel) (by decide +kernel)
theorem kw_497 : Cond.code y_S_combined c_S_combined 5 (some .long) ∈ gt_ws := gt_of 497 (by decide +kernel) (by decide +kernel)
theorem kw_502 : Cond.methodLink RQ_L 68 y_S_determinant ∈ gt_ws := gt_of 502 (by decide +kernel) (by decide +kernel)
theorem kw_503 : Cond.instanceMethod y_S_determinant ∈ gt_ws := gt_of 503 (by decide +kernel) (by decide +kernel)
theorem kw_504 : Cond.selects RQ_S y_S_determinant y_S_determinant ∈ gt_ws := gt_of 504 (by decide +kernel) (by decide +kernel)
theorem kw_505 : Cond.code y_S_determinant c_S_determinant 1 (some .long) ∈ gt_ws := gt_of 505 (by decide +kernel) (by decide +kernel)
theorem kw_506 : Cond.methodLink RQ_L 73 y_S_order ∈ gt_ws := gt_of 506 (by decide +kernel) (by decide +kernel)
theorem kw_507 : Cond.instanceMethod y_S_order ∈ gt_ws := gt_of 507 (by decide +kernel) (by decide +kernel)
theorem kw_508 : Cond.selects RQ_S y_S_order y_S_order ∈ gt_ws := gt_of 508 (by decide +kernel) (by decide +kernel)
theorem kw_509 : Cond.code y_S_order c_S_order 2 (some .int) ∈ gt_ws := gt_of 509 (by decide +kernel) (by decide +kernel)
theorem kw_510 : Cond.methodLink RQ_L 77 y_S_unknown ∈ gt_ws := gt_of 510 (by decide +kernel) (by decide +kernel)
theorem kw_511 : Cond.instanceMethod y_S_unknown ∈ gt_ws := gt_of 511 (by decide +kernel) (by decide +kernel)
theorem kw_512 : Cond.selects RQ_S y_S_unknown y_S_unknown ∈ gt_ws := gt_of 512 (by decide +kernel) (by decide +kernel)
theorem kw_513 : Cond.code y_S_unknown c_S_unknown 3 (some .int) ∈ gt_ws := gt_of 513 (by decide +kernel) (by decide +kernel)
theorem kw_514 : Cond.methodLink RQ_L 82 y_S_count ∈ gt_ws := gt_of 514 (by decide +kernel) (by decide +kernel)
theorem kw_515 : Cond.instanceMethod y_S_count ∈ gt_ws := gt_of 515 (by decide +kernel) (by decide +kernel)
theorem kw_516 : Cond.selects RQ_S y_S_count y_S_count ∈ gt_ws := gt_of 516 (by decide +kernel) (by decide +kernel)
theorem kw_517 : Cond.code y_S_count c_S_count 2 (some .int) ∈ gt_ws := gt_of 517 (by decide +kernel) (by decide +kernel)
theorem kw_592 : Cond.methodLink RQ_L 17 y_M_node ∈ gt_ws := gt_of 592 (by decide +kernel) (by decide +kernel)
theorem kw_593 : Cond.instanceMethod y_M_node ∈ gt_ws := gt_of 593 (by decide +kernel) (by decide +kernel)
theorem kw_594 : Cond.selects RQ_M y_M_node y_M_node ∈ gt_ws := gt_of 594 (by decide +kernel) (by decide +kernel)
theorem kw_595 : Cond.code y_M_node c_M_node 5 (some .int) ∈ gt_ws := gt_of 595 (by decide +kernel) (by decide +kernel)
theorem kw_600 : Cond.methodLink RQ_L 21 y_M_bar ∈ gt_ws := gt_of 600 (by decide +kernel) (by decide +kernel)
theorem kw_601 : Cond.instanceMethod y_M_bar ∈ gt_ws := gt_of 601 (by decide +kernel) (by decide +kernel)
theorem kw_602 : Cond.selects RQ_M y_M_bar y_M_bar ∈ gt_ws := gt_of 602 (by decide +kernel) (by decide +kernel)
theorem kw_603 : Cond.code y_M_bar c_M_bar 4 (some .int) ∈ gt_ws := gt_of 603 (by decide +kernel) (by decide +kernel)
theorem kw_604 : Cond.methodLink RQ_L 26 y_M_unbar ∈ gt_ws := gt_of 604 (by decide +kernel) (by decide +kernel)
theorem kw_605 : Cond.instanceMethod y_M_unbar ∈ gt_ws := gt_of 605 (by decide +kernel) (by decide +kernel)
theorem kw_606 : Cond.selects RQ_M y_M_unbar y_M_unbar ∈ gt_ws := gt_of 606 (by decide +kernel) (by decide +kernel)
theorem kw_607 : Cond.code y_M_unbar c_M_unbar 3 (some .int) ∈ gt_ws := gt_of 607 (by decide +kernel) (by decide +kernel)
theorem kw_608 : Cond.methodLink RQ_L 31 y_M_hold ∈ gt_ws := gt_of 608 (by decide +kernel) (by decide +kernel)
theorem kw_609 : Cond.instanceMethod y_M_hold ∈ gt_ws := gt_of 609 (by decide +kernel) (by decide +kernel)
theorem kw_610 : Cond.selects RQ_M y_M_hold y_M_hold ∈ gt_ws := gt_of 610 (by decide +kernel) (by decide +kernel)
theorem kw_611 : Cond.code y_M_hold c_M_hold 5 (some .int) ∈ gt_ws := gt_of 611 (by decide +kernel) (by decide +kernel)
theorem kw_612 : Cond.methodLink RQ_L 35 y_M_spring ∈ gt_ws := gt_of 612 (by decide +kernel) (by decide +kernel)
theorem kw_613 : Cond.instanceMethod y_M_spring ∈ gt_ws := gt_of 613 (by decide +kernel) (by decide +kernel)
theorem kw_614 : Cond.selects RQ_M y_M_spring y_M_spring ∈ gt_ws := gt_of 614 (by decide +kernel) (by decide +kernel)
theorem kw_615 : Cond.code y_M_spring c_M_spring 4 (some .int) ∈ gt_ws := gt_of 615 (by decide +kernel) (by decide +kernel)
theorem kw_616 : Cond.methodLink RQ_L 40 y_M_load ∈ gt_ws := gt_of 616 (by decide +kernel) (by decide +kernel)
theorem kw_617 : Cond.instanceMethod y_M_load ∈ gt_ws := gt_of 617 (by decide +kernel) (by decide +kernel)
theorem kw_618 : Cond.selects RQ_M y_M_load y_M_load ∈ gt_ws := gt_of 618 (by decide +kernel) (by decide +kernel)
theorem kw_619 : Cond.code y_M_load c_M_load 5 (some .int) ∈ gt_ws := gt_of 619 (by decide +kernel) (by decide +kernel)
theorem kw_620 : Cond.methodLink RQ_L 45 y_M_solve ∈ gt_ws := gt_of 620 (by decide +kernel) (by decide +kernel)
theorem kw_621 : Cond.instanceMethod y_M_solve ∈ gt_ws := gt_of 621 (by decide +kernel) (by decide +kernel)
theorem kw_622 : Cond.selects RQ_M y_M_solve y_M_solve ∈ gt_ws := gt_of 622 (by decide +kernel) (by decide +kernel)
theorem kw_623 : Cond.code y_M_solve c_M_solve 2 (some .int) ∈ gt_ws := gt_of 623 (by decide +kernel) (by decide +kernel)
theorem kw_687 : Cond.methodLink RQ_L 49 y_M_open ∈ gt_ws := gt_of 687 (by decide +kernel) (by decide +kernel)
theorem kw_688 : Cond.instanceMethod y_M_open ∈ gt_ws := gt_of 688 (by decide +kernel) (by decide +kernel)
theorem kw_689 : Cond.selects RQ_M y_M_open y_M_open ∈ gt_ws := gt_of 689 (by decide +kernel) (by decide +kernel)
theorem kw_690 : Cond.code y_M_open c_M_open 1 (some .int) ∈ gt_ws := gt_of 690 (by decide +kernel) (by decide +kernel)
theorem kw_691 : Cond.methodLink RQ_L 54 y_M_displacement ∈ gt_ws := gt_of 691 (by decide +kernel) (by decide +kernel)
theorem kw_692 : Cond.instanceMethod y_M_displacement ∈ gt_ws := gt_of 692 (by decide +kernel) (by decide +kernel)
theorem kw_693 : Cond.selects RQ_M y_M_displacement y_M_displacement ∈ gt_ws := gt_of 693 (by decide +kernel) (by decide +kernel)
theorem kw_694 : Cond.code y_M_displacement c_M_displacement 5 (some .long) ∈ gt_ws := gt_of 694 (by decide +kernel) (by decide +kernel)
theorem kw_720 : Cond.methodLink RQ_L 67 y_M_combined ∈ gt_ws := gt_of 720 (by decide +kernel) (by decide +kernel)
theorem kw_721 : Cond.methodLink RQ_L 59 y_M_force ∈ gt_ws := gt_of 721 (by decide +kernel) (by decide +kernel)
theorem kw_722 : Cond.instanceMethod y_M_force ∈ gt_ws := gt_of 722 (by decide +kernel) (by decide +kernel)
theorem kw_723 : Cond.selects RQ_M y_M_force y_M_force ∈ gt_ws := gt_of 723 (by decide +kernel) (by decide +kernel)
theorem kw_724 : Cond.code y_M_force c_M_force 4 (some .long) ∈ gt_ws := gt_of 724 (by decide +kernel) (by decide +kernel)
theorem kw_729 : Cond.methodLink RQ_L 63 y_M_reaction ∈ gt_ws := gt_of 729 (by decide +kernel) (by decide +kernel)
theorem kw_730 : Cond.instanceMethod y_M_reaction ∈ gt_ws := gt_of 730 (by decide +kernel) (by decide +kernel)
theorem kw_731 : Cond.selects RQ_M y_M_reaction y_M_reaction ∈ gt_ws := gt_of 731 (by decide +kernel) (by decide +kernel)
theorem kw_732 : Cond.code y_M_reaction c_M_reaction 9 (some .long) ∈ gt_ws := gt_of 732 (by decide +kernel) (by decide +kernel)
theorem kw_733 : Cond.methodLink RQ_L 72 y_M_determinant ∈ gt_ws := gt_of 733 (by decide +kernel) (by decide +kernel)
theorem kw_734 : Cond.methodLink RQ_L 76 y_M_order ∈ gt_ws := gt_of 734 (by decide +kernel) (by decide +kernel)
theorem kw_735 : Cond.instanceMethod y_M_order ∈ gt_ws := gt_of 735 (by decide +kernel) (by decide +kernel)
theorem kw_736 : Cond.selects RQ_M y_M_order y_M_order ∈ gt_ws := gt_of 736 (by decide +kernel) (by decide +kernel)
theorem kw_737 : Cond.code y_M_order c_M_order 2 (some .int) ∈ gt_ws := gt_of 737 (by decide +kernel) (by decide +kernel)
theorem kw_738 : Cond.methodLink RQ_L 81 y_M_unknown ∈ gt_ws := gt_of 738 (by decide +kernel) (by decide +kernel)
theorem kw_739 : Cond.instanceMethod y_M_unknown ∈ gt_ws := gt_of 739 (by decide +kernel) (by decide +kernel)
theorem kw_740 : Cond.selects RQ_M y_M_unknown y_M_unknown ∈ gt_ws := gt_of 740 (by decide +kernel) (by decide +kernel)
theorem kw_741 : Cond.code y_M_unknown c_M_unknown 4 (some .int) ∈ gt_ws := gt_of 741 (by decide +kernel) (by decide +kernel)
theorem kw_742 : Cond.methodLink RQ_L 85 y_M_count ∈ gt_ws := gt_of 742 (by decide +kernel) (by decide +kernel)
theorem kw_743 : Cond.instanceMethod y_M_count ∈ gt_ws := gt_of 743 (by decide +kernel) (by decide +kernel)
theorem kw_744 : Cond.selects RQ_M y_M_count y_M_count ∈ gt_ws := gt_of 744 (by decide +kernel) (by decide +kernel)
theorem kw_745 : Cond.code y_M_count c_M_count 4 (some .int) ∈ gt_ws := gt_of 745 (by decide +kernel) (by decide +kernel)
/-- what is owed of the mirrors: program and reference answer, and alike, and stay so -/
def pu_ok (Inv : gS → gS → Prop) : Prop := (∀ (z1 z2 : gS) (a b c : Int32), Inv z1 z2 → ∃ r w1 w2, f_S_node z1 a b c = some (r, w1) ∧ f_M_node z2 a b c = some (r, w2) ∧ Inv w1 w2) ∧
  (∀ (z1 z2 : gS) (a b c : Int32), Inv z1 z2 → ∃ r w1 w2, f_S_bar z1 a b c = some (r, w1) ∧ f_M_bar z2 a b c = some (r, w2) ∧ Inv w1 w2) ∧
  (∀ (z1 z2 : gS) (a : Int32), Inv z1 z2 → ∃ r w1 w2, f_S_unbar z1 a = some (r, w1) ∧ f_M_unbar z2 a = some (r, w2) ∧ Inv w1 w2) ∧
  (∀ (z1 z2 : gS) (a b c d : Int32), Inv z1 z2 → (c = 0 ∨ c = 1) → ∃ r w1 w2, f_S_hold z1 a b c d = some (r, w1) ∧ f_M_hold z2 a b c d = some (r, w2) ∧ Inv w1 w2) ∧
  (∀ (z1 z2 : gS) (a b c : Int32), Inv z1 z2 → ∃ r w1 w2, f_S_spring z1 a b c = some (r, w1) ∧ f_M_spring z2 a b c = some (r, w2) ∧ Inv w1 w2) ∧
  (∀ (z1 z2 : gS) (a b c d : Int32), Inv z1 z2 → ∃ r w1 w2, f_S_load z1 a b c d = some (r, w1) ∧ f_M_load z2 a b c d = some (r, w2) ∧ Inv w1 w2) ∧
  (∀ (z1 z2 : gS), Inv z1 z2 → ∃ r w1 w2, f_S_solve z1  = some (r, w1) ∧ f_M_solve z2  = some (r, w2) ∧ Inv w1 w2) ∧
  (∀ (z1 z2 : gS), Inv z1 z2 → ∃ r w1 w2, f_S_open z1  = some (r, w1) ∧ f_M_open z2  = some (r, w2) ∧ Inv w1 w2) ∧
  (∀ (z1 z2 : gS) (a b c d : Int32), Inv z1 z2 → ∃ r w1 w2, f_S_displacement z1 a b c d = some (r, w1) ∧ f_M_displacement z2 a b c d = some (r, w2) ∧ Inv w1 w2) ∧
  (∀ (z1 z2 : gS) (a b c : Int32), Inv z1 z2 → ∃ r w1 w2, f_S_force z1 a b c = some (r, w1) ∧ f_M_force z2 a b c = some (r, w2) ∧ Inv w1 w2) ∧
  (∀ (z1 z2 : gS) (a b c d : Int32), Inv z1 z2 → ∃ r w1 w2, f_S_reaction z1 a b c d = some (r, w1) ∧ f_M_reaction z2 a b c d = some (r, w2) ∧ Inv w1 w2) ∧
  (∀ (z1 z2 : gS) (a b c d : Int32), Inv z1 z2 → ∃ r w1 w2, f_S_combined z1 a b c d = some (r, w1) ∧ f_M_combined z2 a b c d = some (r, w2) ∧ Inv w1 w2) ∧
  (∀ (z1 z2 : gS), Inv z1 z2 → ∃ r w1 w2, f_S_determinant z1  = some (r, w1) ∧ f_M_determinant z2  = some (r, w2) ∧ Inv w1 w2) ∧
  (∀ (z1 z2 : gS) (a : Int32), Inv z1 z2 → ∃ r w1 w2, f_S_order z1 a = some (r, w1) ∧ f_M_order z2 a = some (r, w2) ∧ Inv w1 w2) ∧
  (∀ (z1 z2 : gS) (a b : Int32), Inv z1 z2 → ∃ r w1 w2, f_S_unknown z1 a b = some (r, w1) ∧ f_M_unknown z2 a b = some (r, w2) ∧ Inv w1 w2) ∧
  (∀ (z1 z2 : gS) (a : Int32), Inv z1 z2 → ∃ r w1 w2, f_S_count z1 a = some (r, w1) ∧ f_M_count z2 a = some (r, w2) ∧ Inv w1 w2)
section WY
variable {p : Program} {l : Launch} {e : Env} {R : Room} {s : State} {m : MethodId} {args : Array Value} {below : List Frame} {meth : Method} {c : Code} {H : Heap} {locs : List Loc} {cells slots : Nat} {Q : State → Prop}
variable {pc : Nat} {ls : Array Slot} {rest st : List Value} {D : va_G} {cl : List vw_C} {A : Nat → Prop} {H0 : Heap} {n n2 : Nat} {ad ad2 : Nat → Nat} {g g' h : Nat → va_E} {a : Array Value}
/-- the other store is as it was -/
theorem wy_keep {H1 : Heap} (hQ : va_P D cl (wl n2 ad2 h) H) (hX : ∀ i j, i < n → j < n2 → ad i ≠ ad2 j) (hk : ∀ q : Nat, q < H.size → ¬ va_A (wl n ad g) H.size q → H1[q]? = H[q]?) : va_P D cl (wl n2 ad2 h) H1 := hQ.kept (fun k q hq => by
  have h1 := (hQ k q hq).lt
  obtain ⟨hk2, rfl⟩ := wl_at hq
  refine hk _ h1 (fun ha => ?_)
  rcases ha with ⟨i, x, hi⟩ | ha
  · obtain ⟨hi2, e9⟩ := wl_at hi
    exact hX i k hi2 hk2 (congrArg Prod.fst e9).symm
  · exact absurd h1 (Nat.not_lt.mpr ha))
theorem wy_fi {r : Int32} (hr : va_Run p l e R s m args below meth c H locs cells slots 0 0 (F0 m pc ls st) rest (sQi D cl n ad g H.size r g' a) (va_A (wl n ad g) H.size)) (hD : va_D A (wl n ad g)) (hS : va_S A H0 H locs) (hA : ∀ q, H0.size ≤ q → A q) (hQ : va_P D cl (wl n2 ad2 h) H) (hX : ∀ i j, i < n → j < n2 → ad i ≠ ad2 j)
    (kk : ∀ (H1 : Heap) (locs1 : List Loc), va_P D cl (wl n ad g') H1 → va_P D cl (wl n2 ad2 h) H1 → va_S A H0 H1 locs1 → W p l e R s m args below meth c H1 locs1 cells slots Q (F0 m (pc + 3) ls (.int r :: rest))) : W p l e R s m args below meth c H locs cells slots Q (F0 m pc ls st) :=
  va_calli hr hS (fun q _ h => wl_A hD hS hA q h) (wl_A hD hS hA) (fun r' u t H1 locs1 ht hvm hp hB hz hk hS1 => by
    subst hp
    rw [ht] at hB
    exact kk H1 locs1 hB (wy_keep hQ hX hk) hS1)
theorem wy_fl {r : Int64} (hr : va_Run p l e R s m args below meth c H locs cells slots 0 0 (F0 m pc ls st) rest (sQl D cl n ad g H.size r g' a) (va_A (wl n ad g) H.size)) (hD : va_D A (wl n ad g)) (hS : va_S A H0 H locs) (hA : ∀ q, H0.size ≤ q → A q) (hQ : va_P D cl (wl n2 ad2 h) H) (hX : ∀ i j, i < n → j < n2 → ad i ≠ ad2 j)
    (kk : ∀ (H1 : Heap) (locs1 : List Loc), va_P D cl (wl n ad g') H1 → va_P D cl (wl n2 ad2 h) H1 → va_S A H0 H1 locs1 → W p l e R s m args below meth c H1 locs1 cells slots Q (F0 m (pc + 3) ls (.long r :: rest))) : W p l e R s m args below meth c H locs cells slots Q (F0 m pc ls st) :=
  va_calll hr hS (fun q _ h => wl_A hD hS hA q h) (wl_A hD hS hA) (fun r' u t H1 locs1 ht hvm hp hB hz hk hS1 => by
    subst hp
    rw [ht] at hB
    exact kk H1 locs1 hB (wy_keep hQ hX hk) hS1)
end WY
theorem lg_cmp_self (x : Int64) : lg_cmp x x = 0 := by
  unfold lg_cmp
  rw [if_neg (by simp [Int64.lt_irrefl]), if_pos rfl]
/-- a place of the script -/
theorem lw_ix {x3 : Int32} {j L : Nat} (e : x3 = nI j) (h : j + 5 ≤ L) (hL : L ≤ 2560) (k : Int32) (kn : Nat) (hk : k = nI kn) (h5 : kn < 5) : vp_in (x3 + k) L := by
  rw [e, hk, nI_add]
  exact vp_in_nI (by omega) (by omega)
theorem lw_ix0 {x3 : Int32} {j L : Nat} (e : x3 = nI j) (h : j + 5 ≤ L) (hL : L ≤ 2560) : vp_in x3 L := by
  rw [e]
  exact vp_in_nI (by omega) (by omega)
theorem lw_go {j L : Nat} (hj : j ≤ L) (hL : L ≤ 2560) (h : ¬ (Int32.ofNat L - 5 < nI j)) : j + 5 ≤ L := by
  have e1 : Int32.ofNat L - 5 = nI L - nI 5 := rfl
  rw [e1, Int32.lt_iff_toInt_lt, pk_sub_toInt (by omega) (by omega), nI_toInt (by omega)] at h
  omega
set_option maxHeartbeats 8000000 in
set_option maxRecDepth 100000 in
/-- THE LAW'S LOOP: at its head, with j ints read, both stores hold what the invariant ties -/
theorem law_loop {p : Program} {l : Launch} {e : Env} {s : State} {m : MethodId} {below : List Frame} {meth : Method} {c : Code} {D : va_G} {cy : Nat → ClassId} {ad1 ad2 : Nat → Nat} {b L : Nat} {xs : Nat → Int32} {Inv : gS → gS → Prop} (hI : pu_ok Inv) (hL : L ≤ 2560) (C0 : lw_At p s m meth c b L xs) (hK : va_K D cl_all (gTy cy) s) (hNC : nwC s) (hD1 : ∀ g, va_D (fun q : Nat => s.heap.size ≤ q) (wl 52 ad1 g)) (hD2 : ∀ g, va_D (fun q : Nat => s.heap.size ≤ q) (wl 16 ad2 g)) (hX12 : ∀ i j, i < 52 → j < 16 → ad1 i ≠ ad2 j) :
    ∀ (n j : Nat) (x3 : Int32) (z1 z2 : gS), j ≤ L → L < j + n → x3 = nI j → Inv z1 z2 → ∀ (H : Heap) (locs : List Loc) (ls : Array Slot), va_P D cl_all (wl 52 ad1 (g1 cy ad1 z1)) H → va_P D cl_all (wl 16 ad2 (g2 cy ad2 z2)) H → va_S (fun q : Nat => s.heap.size ≤ q) s.heap H locs → lv_has ls 4 [(0, .ref b), (1, .ref (ad1 0)), (2, .ref (ad2 0)), (3, .int x3)] → W p l e room_1 s m #[Value.ref b] below meth c H locs 68 846 (lw_Z below #[Value.ref b] s) (F0 m 18 ls []) := by
  obtain ⟨hx, hb, hr, hml, hown, hts, hX, hbl, hlocks, hgv⟩ := C0
  have ht : ∀ w ∈ gt_ws, w.before #[Value.ref b] s = true := fun w h => hts w (gt_lw h)
  have hA : ∀ q : Nat, s.heap.size ≤ q → (fun q : Nat => s.heap.size ≤ q) q := fun _ h => h
  have hbA : ¬ (fun q : Nat => s.heap.size ≤ q) b := Nat.not_le.mpr hbl
  intro n
  induction n with
  | zero =>
    intro j x3 z1 z2 h1 h2
    exact absurd h2 (by omega)
  | succ n ih =>
    intro j x3 z1 z2 hj hn ex3 hv H locs ls hP1 hP2 hS hl
    refine lv_iload_n hx hb d_law_18 rfl (lv_at hl 3 rfl) ?_
    refine lv_aload_n hx hb d_law_19 rfl (lv_at hl 0 rfl) ?_
    refine va_slen hx hb hX hbl hbA hS d_law_20 ?_
    refine lv_iconst (v := 5) hx hb d_law_21 (by decide) ?_
    refine lv_isub hx hb d_law_22 ?_
    refine lv_icmp_gt (tgt := 717) hx hb d_law_23 (by decide) (fun c0 => ?_) (fun c0 => ?_)
    ·
      refine lv_iconst (v := 1) hx hb d_law_717 (by decide) ?_
      refine va_forget (fun q hq => hS.2.2 q hq) ?_
      refine W.widen (k := 600000) (n := 7302250) (Nat.le_of_ble_eq_true rfl) (Nat.le_of_ble_eq_true rfl) ?_
      exact lw_ret hx hb hr hlocks d_law_718
    ·
      have hjL : j + 5 ≤ L := lw_go hj hL (by rw [← ex3]; exact c0)
      refine lv_aload_n hx hb d_law_26 rfl (lv_at hl 0 rfl) ?_
      refine lv_iload_n hx hb d_law_27 rfl (lv_at hl 3 rfl) ?_
      refine va_sld hx hb hX hbl hbA hS (lw_ix0 ex3 hjL hL) d_law_28 ?_
      refine lv_bipush (v := 15) hx hb d_law_29 (by decide) ?_
      refine lv_iand hx hb d_law_31 ?_
      by_cases c1 : ((xs x3.toNatClampNeg) &&& (15 : Int32)) = (0 : Int32)
      ·
        refine lv_tableIn (off := 80) (tgt := 112) hx hb d_law_32 (by rw [c1]; decide) (by rw [c1]; decide) (by rw [c1]; rfl) (by decide) ?_
        refine lv_aload_n hx hb d_law_112 rfl (lv_at hl 1 rfl) ?_
        refine lv_aload_n hx hb d_law_113 rfl (lv_at hl 0 rfl) ?_
        refine lv_iload_n hx hb d_law_114 rfl (lv_at hl 3 rfl) ?_
        refine lv_iconst (v := 1) hx hb d_law_115 (by decide) ?_
        refine lv_iadd hx hb d_law_116 ?_
        refine va_sld hx hb hX hbl hbA hS (lw_ix ex3 hjL hL 1 1 rfl (by decide)) d_law_117 ?_
        refine lv_aload_n hx hb d_law_118 rfl (lv_at hl 0 rfl) ?_
        refine lv_iload_n hx hb d_law_119 rfl (lv_at hl 3 rfl) ?_
        refine lv_iconst (v := 2) hx hb d_law_120 (by decide) ?_
        refine lv_iadd hx hb d_law_121 ?_
        refine va_sld hx hb hX hbl hbA hS (lw_ix ex3 hjL hL 2 2 rfl (by decide)) d_law_122 ?_
        refine lv_aload_n hx hb d_law_123 rfl (lv_at hl 0 rfl) ?_
        refine lv_iload_n hx hb d_law_124 rfl (lv_at hl 3 rfl) ?_
        refine lv_iconst (v := 3) hx hb d_law_125 (by decide) ?_
        refine lv_iadd hx hb d_law_126 ?_
        refine va_sld hx hb hX hbl hbA hS (lw_ix ex3 hjL hL 3 3 rfl (by decide)) d_law_127 ?_
        obtain ⟨r2, w3, w4, hc5, hc6, hv7⟩ := hI.1 z1 z2 (xs (x3 + (1 : Int32)).toNatClampNeg) (xs (x3 + (2 : Int32)).toNatClampNeg) (xs (x3 + (3 : Int32)).toNatClampNeg) hv
        refine wy_fi (wx_rV (As := [.int (xs (x3 + (1 : Int32)).toNatClampNeg), .int (xs (x3 + (2 : Int32)).toNatClampNeg), .int (xs (x3 + (3 : Int32)).toNatClampNeg)]) (rest := []) ⟨hx, hb, hml, hown, ht⟩ (m_S_node l D cy ad1 _ z1 (xs (x3 + (1 : Int32)).toNatClampNeg) (xs (x3 + (2 : Int32)).toNatClampNeg) (xs (x3 + (3 : Int32)).toNatClampNeg) _ _ hc5) ⟨callB_of 3 ht (gt_in (fun _ h9 => h9) kw_236) rfl rfl rfl (ht _ kw_47) (ht _ kw_233) q_S_node ⟨Nat.le_of_ble_eq_true rfl, Nat.le_of_ble_eq_true rfl⟩, ht _ kw_234, ht _ kw_235⟩ nwC_ok hNC hK hP1 (hD1 _) (by decide) (e_g1_0 cy ad1 _) rfl rfl hl.1 rfl (Nat.le_of_ble_eq_true rfl) d_law_128 ⟨Nat.le_of_ble_eq_true rfl, Nat.le_of_ble_eq_true rfl⟩) (hD1 _) hS hA hP2 hX12 (fun H locs hP1 hP2 hS => ?_)
        refine lv_aload_n hx hb d_law_131 rfl (lv_at hl 2 rfl) ?_
        refine lv_aload_n hx hb d_law_132 rfl (lv_at hl 0 rfl) ?_
        refine lv_iload_n hx hb d_law_133 rfl (lv_at hl 3 rfl) ?_
        refine lv_iconst (v := 1) hx hb d_law_134 (by decide) ?_
        refine lv_iadd hx hb d_law_135 ?_
        refine va_sld hx hb hX hbl hbA hS (lw_ix ex3 hjL hL 1 1 rfl (by decide)) d_law_136 ?_
        refine lv_aload_n hx hb d_law_137 rfl (lv_at hl 0 rfl) ?_
        refine lv_iload_n hx hb d_law_138 rfl (lv_at hl 3 rfl) ?_
        refine lv_iconst (v := 2) hx hb d_law_139 (by decide) ?_
        refine lv_iadd hx hb d_law_140 ?_
        refine va_sld hx hb hX hbl hbA hS (lw_ix ex3 hjL hL 2 2 rfl (by decide)) d_law_141 ?_
        refine lv_aload_n hx hb d_law_142 rfl (lv_at hl 0 rfl) ?_
        refine lv_iload_n hx hb d_law_143 rfl (lv_at hl 3 rfl) ?_
        refine lv_iconst (v := 3) hx hb d_law_144 (by decide) ?_
        refine lv_iadd hx hb d_law_145 ?_
        refine va_sld hx hb hX hbl hbA hS (lw_ix ex3 hjL hL 3 3 rfl (by decide)) d_law_146 ?_
        refine wy_fi (wx_rV (As := [.int (xs (x3 + (1 : Int32)).toNatClampNeg), .int (xs (x3 + (2 : Int32)).toNatClampNeg), .int (xs (x3 + (3 : Int32)).toNatClampNeg)]) (rest := [.int r2]) ⟨hx, hb, hml, hown, ht⟩ (m_M_node l D cy ad2 _ z2 (xs (x3 + (1 : Int32)).toNatClampNeg) (xs (x3 + (2 : Int32)).toNatClampNeg) (xs (x3 + (3 : Int32)).toNatClampNeg) _ _ hc6) ⟨callB_of 3 ht (gt_in (fun _ h9 => h9) kw_595) rfl rfl rfl (ht _ kw_52) (ht _ kw_592) q_M_node ⟨Nat.le_of_ble_eq_true rfl, Nat.le_of_ble_eq_true rfl⟩, ht _ kw_593, ht _ kw_594⟩ nwM_ok trivial hK hP2 (hD2 _) (by decide) (e_g2_0 cy ad2 _) rfl rfl hl.1 rfl (Nat.le_of_ble_eq_true rfl) d_law_147 ⟨Nat.le_of_ble_eq_true rfl, Nat.le_of_ble_eq_true rfl⟩) (hD2 _) hS hA hP1 (fun i j hi hj e9 => hX12 j i hj hi e9.symm) (fun H locs hP2 hP1 hS => ?_)
        refine lv_icmp_eq (tgt := 711) hx hb d_law_150 (by decide) (fun _ => ?_) (fun c9 => absurd rfl c9)
        refine lv_iinc (v := x3 + (5 : Int32)) (lv' := [(3, .int (x3 + (5 : Int32))), (0, .ref b), (1, .ref (ad1 0)), (2, .ref (ad2 0))]) hx hb d_law_711 hl (k := 3) rfl rfl (by decide) rfl (fun ls hl => ?_)
        refine lv_goto (tgt := 18) hx hb d_law_714 (by decide) ?_
        exact ih (j + 5) _ _ _ hjL (by omega) (by rw [ex3]; exact nI_add j 5) hv7 _ _ _ hP1 hP2 hS (lv_sub hl [1, 2, 3, 0] rfl)
      ·
        by_cases c8 : ((xs x3.toNatClampNeg) &&& (15 : Int32)) = (1 : Int32)
        ·
          refine lv_tableIn (off := 123) (tgt := 155) hx hb d_law_32 (by rw [c8]; decide) (by rw [c8]; decide) (by rw [c8]; rfl) (by decide) ?_
          refine lv_aload_n hx hb d_law_155 rfl (lv_at hl 1 rfl) ?_
          refine lv_aload_n hx hb d_law_156 rfl (lv_at hl 0 rfl) ?_
          refine lv_iload_n hx hb d_law_157 rfl (lv_at hl 3 rfl) ?_
          refine lv_iconst (v := 1) hx hb d_law_158 (by decide) ?_
          refine lv_iadd hx hb d_law_159 ?_
          refine va_sld hx hb hX hbl hbA hS (lw_ix ex3 hjL hL 1 1 rfl (by decide)) d_law_160 ?_
          refine lv_aload_n hx hb d_law_161 rfl (lv_at hl 0 rfl) ?_
          refine lv_iload_n hx hb d_law_162 rfl (lv_at hl 3 rfl) ?_
          refine lv_iconst (v := 2) hx hb d_law_163 (by decide) ?_
          refine lv_iadd hx hb d_law_164 ?_
          refine va_sld hx hb hX hbl hbA hS (lw_ix ex3 hjL hL 2 2 rfl (by decide)) d_law_165 ?_
          refine lv_aload_n hx hb d_law_166 rfl (lv_at hl 0 rfl) ?_
          refine lv_iload_n hx hb d_law_167 rfl (lv_at hl 3 rfl) ?_
          refine lv_iconst (v := 3) hx hb d_law_168 (by decide) ?_
          refine lv_iadd hx hb d_law_169 ?_
          refine va_sld hx hb hX hbl hbA hS (lw_ix ex3 hjL hL 3 3 rfl (by decide)) d_law_170 ?_
          obtain ⟨r9, w10, w11, hc12, hc13, hv14⟩ := hI.2.1 z1 z2 (xs (x3 + (1 : Int32)).toNatClampNeg) (xs (x3 + (2 : Int32)).toNatClampNeg) (xs (x3 + (3 : Int32)).toNatClampNeg) hv
          refine wy_fi (wx_rV (As := [.int (xs (x3 + (1 : Int32)).toNatClampNeg), .int (xs (x3 + (2 : Int32)).toNatClampNeg), .int (xs (x3 + (3 : Int32)).toNatClampNeg)]) (rest := []) ⟨hx, hb, hml, hown, ht⟩ (m_S_bar l D cy ad1 _ z1 (xs (x3 + (1 : Int32)).toNatClampNeg) (xs (x3 + (2 : Int32)).toNatClampNeg) (xs (x3 + (3 : Int32)).toNatClampNeg) _ _ hc12) ⟨callB_of 3 ht (gt_in (fun _ h9 => h9) kw_261) rfl rfl rfl (ht _ kw_47) (ht _ kw_258) q_S_bar ⟨Nat.le_of_ble_eq_true rfl, Nat.le_of_ble_eq_true rfl⟩, ht _ kw_259, ht _ kw_260⟩ nwC_ok hNC hK hP1 (hD1 _) (by decide) (e_g1_0 cy ad1 _) rfl rfl hl.1 rfl (Nat.le_of_ble_eq_true rfl) d_law_171 ⟨Nat.le_of_ble_eq_true rfl, Nat.le_of_ble_eq_true rfl⟩) (hD1 _) hS hA hP2 hX12 (fun H locs hP1 hP2 hS => ?_)
          refine lv_aload_n hx hb d_law_174 rfl (lv_at hl 2 rfl) ?_
          refine lv_aload_n hx hb d_law_175 rfl (lv_at hl 0 rfl) ?_
          refine lv_iload_n hx hb d_law_176 rfl (lv_at hl 3 rfl) ?_
          refine lv_iconst (v := 1) hx hb d_law_177 (by decide) ?_
          refine lv_iadd hx hb d_law_178 ?_
          refine va_sld hx hb hX hbl hbA hS (lw_ix ex3 hjL hL 1 1 rfl (by decide)) d_law_179 ?_
          refine lv_aload_n hx hb d_law_180 rfl (lv_at hl 0 rfl) ?_
          refine lv_iload_n hx hb d_law_181 rfl (lv_at hl 3 rfl) ?_
          refine lv_iconst (v := 2) hx hb d_law_182 (by decide) ?_
          refine lv_iadd hx hb d_law_183 ?_
          refine va_sld hx hb hX hbl hbA hS (lw_ix ex3 hjL hL 2 2 rfl (by decide)) d_law_184 ?_
          refine lv_aload_n hx hb d_law_185 rfl (lv_at hl 0 rfl) ?_
          refine lv_iload_n hx hb d_law_186 rfl (lv_at hl 3 rfl) ?_
          refine lv_iconst (v := 3) hx hb d_law_187 (by decide) ?_
          refine lv_iadd hx hb d_law_188 ?_
          refine va_sld hx hb hX hbl hbA hS (lw_ix ex3 hjL hL 3 3 rfl (by decide)) d_law_189 ?_
          refine wy_fi (wx_rV (As := [.int (xs (x3 + (1 : Int32)).toNatClampNeg), .int (xs (x3 + (2 : Int32)).toNatClampNeg), .int (xs (x3 + (3 : Int32)).toNatClampNeg)]) (rest := [.int r9]) ⟨hx, hb, hml, hown, ht⟩ (m_M_bar l D cy ad2 _ z2 (xs (x3 + (1 : Int32)).toNatClampNeg) (xs (x3 + (2 : Int32)).toNatClampNeg) (xs (x3 + (3 : Int32)).toNatClampNeg) _ _ hc13) ⟨callB_of 3 ht (gt_in (fun _ h9 => h9) kw_603) rfl rfl rfl (ht _ kw_52) (ht _ kw_600) q_M_bar ⟨Nat.le_of_ble_eq_true rfl, Nat.le_of_ble_eq_true rfl⟩, ht _ kw_601, ht _ kw_602⟩ nwM_ok trivial hK hP2 (hD2 _) (by decide) (e_g2_0 cy ad2 _) rfl rfl hl.1 rfl (Nat.le_of_ble_eq_true rfl) d_law_190 ⟨Nat.le_of_ble_eq_true rfl, Nat.le_of_ble_eq_true rfl⟩) (hD2 _) hS hA hP1 (fun i j hi hj e9 => hX12 j i hj hi e9.symm) (fun H locs hP2 hP1 hS => ?_)
          refine lv_icmp_eq (tgt := 711) hx hb d_law_193 (by decide) (fun _ => ?_) (fun c9 => absurd rfl c9)
          refine lv_iinc (v := x3 + (5 : Int32)) (lv' := [(3, .int (x3 + (5 : Int32))), (0, .ref b), (1, .ref (ad1 0)), (2, .ref (ad2 0))]) hx hb d_law_711 hl (k := 3) rfl rfl (by decide) rfl (fun ls hl => ?_)
          refine lv_goto (tgt := 18) hx hb d_law_714 (by decide) ?_
          exact ih (j + 5) _ _ _ hjL (by omega) (by rw [ex3]; exact nI_add j 5) hv14 _ _ _ hP1 hP2 hS (lv_sub hl [1, 2, 3, 0] rfl)
        ·
          by_cases c15 : ((xs x3.toNatClampNeg) &&& (15 : Int32)) = (2 : Int32)
          ·
            refine lv_tableIn (off := 166) (tgt := 198) hx hb d_law_32 (by rw [c15]; decide) (by rw [c15]; decide) (by rw [c15]; rfl) (by decide) ?_
            refine lv_aload_n hx hb d_law_198 rfl (lv_at hl 1 rfl) ?_
            refine lv_aload_n hx hb d_law_199 rfl (lv_at hl 0 rfl) ?_
            refine lv_iload_n hx hb d_law_200 rfl (lv_at hl 3 rfl) ?_
            refine lv_iconst (v := 1) hx hb d_law_201 (by decide) ?_
            refine lv_iadd hx hb d_law_202 ?_
            refine va_sld hx hb hX hbl hbA hS (lw_ix ex3 hjL hL 1 1 rfl (by decide)) d_law_203 ?_
            obtain ⟨r16, w17, w18, hc19, hc20, hv21⟩ := hI.2.2.1 z1 z2 (xs (x3 + (1 : Int32)).toNatClampNeg) hv
            refine wy_fi (wx_rV (As := [.int (xs (x3 + (1 : Int32)).toNatClampNeg)]) (rest := []) ⟨hx, hb, hml, hown, ht⟩ (m_S_unbar l D cy ad1 _ z1 (xs (x3 + (1 : Int32)).toNatClampNeg) _ _ hc19) ⟨callB_of 1 ht (gt_in (fun _ h9 => h9) kw_269) rfl rfl rfl (ht _ kw_47) (ht _ kw_266) q_S_unbar ⟨Nat.le_of_ble_eq_true rfl, Nat.le_of_ble_eq_true rfl⟩, ht _ kw_267, ht _ kw_268⟩ nwC_ok hNC hK hP1 (hD1 _) (by decide) (e_g1_0 cy ad1 _) rfl rfl hl.1 rfl (Nat.le_of_ble_eq_true rfl) d_law_204 ⟨Nat.le_of_ble_eq_true rfl, Nat.le_of_ble_eq_true rfl⟩) (hD1 _) hS hA hP2 hX12 (fun H locs hP1 hP2 hS => ?_)
            refine lv_aload_n hx hb d_law_207 rfl (lv_at hl 2 rfl) ?_
            refine lv_aload_n hx hb d_law_208 rfl (lv_at hl 0 rfl) ?_
            refine lv_iload_n hx hb d_law_209 rfl (lv_at hl 3 rfl) ?_
            refine lv_iconst (v := 1) hx hb d_law_210 (by decide) ?_
            refine lv_iadd hx hb d_law_211 ?_
            refine va_sld hx hb hX hbl hbA hS (lw_ix ex3 hjL hL 1 1 rfl (by decide)) d_law_212 ?_
            refine wy_fi (wx_rV (As := [.int (xs (x3 + (1 : Int32)).toNatClampNeg)]) (rest := [.int r16]) ⟨hx, hb, hml, hown, ht⟩ (m_M_unbar l D cy ad2 _ z2 (xs (x3 + (1 : Int32)).toNatClampNeg) _ _ hc20) ⟨callB_of 1 ht (gt_in (fun _ h9 => h9) kw_607) rfl rfl rfl (ht _ kw_52) (ht _ kw_604) q_M_unbar ⟨Nat.le_of_ble_eq_true rfl, Nat.le_of_ble_eq_true rfl⟩, ht _ kw_605, ht _ kw_606⟩ nwM_ok trivial hK hP2 (hD2 _) (by decide) (e_g2_0 cy ad2 _) rfl rfl hl.1 rfl (Nat.le_of_ble_eq_true rfl) d_law_213 ⟨Nat.le_of_ble_eq_true rfl, Nat.le_of_ble_eq_true rfl⟩) (hD2 _) hS hA hP1 (fun i j hi hj e9 => hX12 j i hj hi e9.symm) (fun H locs hP2 hP1 hS => ?_)
            refine lv_icmp_eq (tgt := 711) hx hb d_law_216 (by decide) (fun _ => ?_) (fun c9 => absurd rfl c9)
            refine lv_iinc (v := x3 + (5 : Int32)) (lv' := [(3, .int (x3 + (5 : Int32))), (0, .ref b), (1, .ref (ad1 0)), (2, .ref (ad2 0))]) hx hb d_law_711 hl (k := 3) rfl rfl (by decide) rfl (fun ls hl => ?_)
            refine lv_goto (tgt := 18) hx hb d_law_714 (by decide) ?_
            exact ih (j + 5) _ _ _ hjL (by omega) (by rw [ex3]; exact nI_add j 5) hv21 _ _ _ hP1 hP2 hS (lv_sub hl [1, 2, 3, 0] rfl)
          ·
            by_cases c22 : ((xs x3.toNatClampNeg) &&& (15 : Int32)) = (3 : Int32)
            ·
              refine lv_tableIn (off := 189) (tgt := 221) hx hb d_law_32 (by rw [c22]; decide) (by rw [c22]; decide) (by rw [c22]; rfl) (by decide) ?_
              refine lv_aload_n hx hb d_law_221 rfl (lv_at hl 1 rfl) ?_
              refine lv_aload_n hx hb d_law_222 rfl (lv_at hl 0 rfl) ?_
              refine lv_iload_n hx hb d_law_223 rfl (lv_at hl 3 rfl) ?_
              refine lv_iconst (v := 1) hx hb d_law_224 (by decide) ?_
              refine lv_iadd hx hb d_law_225 ?_
              refine va_sld hx hb hX hbl hbA hS (lw_ix ex3 hjL hL 1 1 rfl (by decide)) d_law_226 ?_
              refine lv_aload_n hx hb d_law_227 rfl (lv_at hl 0 rfl) ?_
              refine lv_iload_n hx hb d_law_228 rfl (lv_at hl 3 rfl) ?_
              refine lv_iconst (v := 2) hx hb d_law_229 (by decide) ?_
              refine lv_iadd hx hb d_law_230 ?_
              refine va_sld hx hb hX hbl hbA hS (lw_ix ex3 hjL hL 2 2 rfl (by decide)) d_law_231 ?_
              refine lv_aload_n hx hb d_law_232 rfl (lv_at hl 0 rfl) ?_
              refine lv_iload_n hx hb d_law_233 rfl (lv_at hl 3 rfl) ?_
              refine lv_iconst (v := 3) hx hb d_law_234 (by decide) ?_
              refine lv_iadd hx hb d_law_235 ?_
              refine va_sld hx hb hX hbl hbA hS (lw_ix ex3 hjL hL 3 3 rfl (by decide)) d_law_236 ?_
              refine lv_if_eq (tgt := 244) hx hb d_law_237 (by decide) (fun c23 => ?_) (fun c23 => ?_)
              ·
                refine lv_iconst (v := 0) hx hb d_law_244 (by decide) ?_
                refine lv_aload_n hx hb d_law_245 rfl (lv_at hl 0 rfl) ?_
                refine lv_iload_n hx hb d_law_246 rfl (lv_at hl 3 rfl) ?_
                refine lv_iconst (v := 4) hx hb d_law_247 (by decide) ?_
                refine lv_iadd hx hb d_law_248 ?_
                refine va_sld hx hb hX hbl hbA hS (lw_ix ex3 hjL hL 4 4 rfl (by decide)) d_law_249 ?_
                obtain ⟨r24, w25, w26, hc27, hc28, hv29⟩ := hI.2.2.2.1 z1 z2 (xs (x3 + (1 : Int32)).toNatClampNeg) (xs (x3 + (2 : Int32)).toNatClampNeg) (0 : Int32) (xs (x3 + (4 : Int32)).toNatClampNeg) hv (by decide)
                refine wy_fi (wx_rV (As := [.int (xs (x3 + (1 : Int32)).toNatClampNeg), .int (xs (x3 + (2 : Int32)).toNatClampNeg), .int (0 : Int32), .int (xs (x3 + (4 : Int32)).toNatClampNeg)]) (rest := []) ⟨hx, hb, hml, hown, ht⟩ (m_S_hold l D cy ad1 _ z1 (xs (x3 + (1 : Int32)).toNatClampNeg) (xs (x3 + (2 : Int32)).toNatClampNeg) (0 : Int32) (xs (x3 + (4 : Int32)).toNatClampNeg) _ _ hc27) ⟨callB_of 4 ht (gt_in (fun _ h9 => h9) kw_281) rfl rfl rfl (ht _ kw_47) (ht _ kw_278) q_S_hold ⟨Nat.le_of_ble_eq_true rfl, Nat.le_of_ble_eq_true rfl⟩, ht _ kw_279, ht _ kw_280⟩ nwC_ok hNC hK hP1 (hD1 _) (by decide) (e_g1_0 cy ad1 _) rfl rfl hl.1 rfl (Nat.le_of_ble_eq_true rfl) d_law_250 ⟨Nat.le_of_ble_eq_true rfl, Nat.le_of_ble_eq_true rfl⟩) (hD1 _) hS hA hP2 hX12 (fun H locs hP1 hP2 hS => ?_)
                refine lv_aload_n hx hb d_law_253 rfl (lv_at hl 2 rfl) ?_
                refine lv_aload_n hx hb d_law_254 rfl (lv_at hl 0 rfl) ?_
                refine lv_iload_n hx hb d_law_255 rfl (lv_at hl 3 rfl) ?_
                refine lv_iconst (v := 1) hx hb d_law_256 (by decide) ?_
                refine lv_iadd hx hb d_law_257 ?_
                refine va_sld hx hb hX hbl hbA hS (lw_ix ex3 hjL hL 1 1 rfl (by decide)) d_law_258 ?_
                refine lv_aload_n hx hb d_law_259 rfl (lv_at hl 0 rfl) ?_
                refine lv_iload_n hx hb d_law_260 rfl (lv_at hl 3 rfl) ?_
                refine lv_iconst (v := 2) hx hb d_law_261 (by decide) ?_
                refine lv_iadd hx hb d_law_262 ?_
                refine va_sld hx hb hX hbl hbA hS (lw_ix ex3 hjL hL 2 2 rfl (by decide)) d_law_263 ?_
                refine lv_aload_n hx hb d_law_264 rfl (lv_at hl 0 rfl) ?_
                refine lv_iload_n hx hb d_law_265 rfl (lv_at hl 3 rfl) ?_
                refine lv_iconst (v := 3) hx hb d_law_266 (by decide) ?_
                refine lv_iadd hx hb d_law_267 ?_
                refine va_sld hx hb hX hbl hbA hS (lw_ix ex3 hjL hL 3 3 rfl (by decide)) d_law_268 ?_
                refine lv_if_eq (tgt := 276) hx hb d_law_269 (by decide) (fun _ => ?_) (fun c9 => absurd c23 c9)
                refine lv_iconst (v := 0) hx hb d_law_276 (by decide) ?_
                refine lv_aload_n hx hb d_law_277 rfl (lv_at hl 0 rfl) ?_
                refine lv_iload_n hx hb d_law_278 rfl (lv_at hl 3 rfl) ?_
                refine lv_iconst (v := 4) hx hb d_law_279 (by decide) ?_
                refine lv_iadd hx hb d_law_280 ?_
                refine va_sld hx hb hX hbl hbA hS (lw_ix ex3 hjL hL 4 4 rfl (by decide)) d_law_281 ?_
                refine wy_fi (wx_rV (As := [.int (xs (x3 + (1 : Int32)).toNatClampNeg), .int (xs (x3 + (2 : Int32)).toNatClampNeg), .int (0 : Int32), .int (xs (x3 + (4 : Int32)).toNatClampNeg)]) (rest := [.int r24]) ⟨hx, hb, hml, hown, ht⟩ (m_M_hold l D cy ad2 _ z2 (xs (x3 + (1 : Int32)).toNatClampNeg) (xs (x3 + (2 : Int32)).toNatClampNeg) (0 : Int32) (xs (x3 + (4 : Int32)).toNatClampNeg) _ _ hc28) ⟨callB_of 4 ht (gt_in (fun _ h9 => h9) kw_611) rfl rfl rfl (ht _ kw_52) (ht _ kw_608) q_M_hold ⟨Nat.le_of_ble_eq_true rfl, Nat.le_of_ble_eq_true rfl⟩, ht _ kw_609, ht _ kw_610⟩ nwM_ok trivial hK hP2 (hD2 _) (by decide) (e_g2_0 cy ad2 _) rfl rfl hl.1 rfl (Nat.le_of_ble_eq_true rfl) d_law_282 ⟨Nat.le_of_ble_eq_true rfl, Nat.le_of_ble_eq_true rfl⟩) (hD2 _) hS hA hP1 (fun i j hi hj e9 => hX12 j i hj hi e9.symm) (fun H locs hP2 hP1 hS => ?_)
                refine lv_icmp_eq (tgt := 711) hx hb d_law_285 (by decide) (fun _ => ?_) (fun c9 => absurd rfl c9)
                refine lv_iinc (v := x3 + (5 : Int32)) (lv' := [(3, .int (x3 + (5 : Int32))), (0, .ref b), (1, .ref (ad1 0)), (2, .ref (ad2 0))]) hx hb d_law_711 hl (k := 3) rfl rfl (by decide) rfl (fun ls hl => ?_)
                refine lv_goto (tgt := 18) hx hb d_law_714 (by decide) ?_
                exact ih (j + 5) _ _ _ hjL (by omega) (by rw [ex3]; exact nI_add j 5) hv29 _ _ _ hP1 hP2 hS (lv_sub hl [1, 2, 3, 0] rfl)
              ·
                refine lv_iconst (v := 1) hx hb d_law_240 (by decide) ?_
                refine lv_goto (tgt := 245) hx hb d_law_241 (by decide) ?_
                refine lv_aload_n hx hb d_law_245 rfl (lv_at hl 0 rfl) ?_
                refine lv_iload_n hx hb d_law_246 rfl (lv_at hl 3 rfl) ?_
                refine lv_iconst (v := 4) hx hb d_law_247 (by decide) ?_
                refine lv_iadd hx hb d_law_248 ?_
                refine va_sld hx hb hX hbl hbA hS (lw_ix ex3 hjL hL 4 4 rfl (by decide)) d_law_249 ?_
                obtain ⟨r30, w31, w32, hc33, hc34, hv35⟩ := hI.2.2.2.1 z1 z2 (xs (x3 + (1 : Int32)).toNatClampNeg) (xs (x3 + (2 : Int32)).toNatClampNeg) (1 : Int32) (xs (x3 + (4 : Int32)).toNatClampNeg) hv (by decide)
                refine wy_fi (wx_rV (As := [.int (xs (x3 + (1 : Int32)).toNatClampNeg), .int (xs (x3 + (2 : Int32)).toNatClampNeg), .int (1 : Int32), .int (xs (x3 + (4 : Int32)).toNatClampNeg)]) (rest := []) ⟨hx, hb, hml, hown, ht⟩ (m_S_hold l D cy ad1 _ z1 (xs (x3 + (1 : Int32)).toNatClampNeg) (xs (x3 + (2 : Int32)).toNatClampNeg) (1 : Int32) (xs (x3 + (4 : Int32)).toNatClampNeg) _ _ hc33) ⟨callB_of 4 ht (gt_in (fun _ h9 => h9) kw_281) rfl rfl rfl (ht _ kw_47) (ht _ kw_278) q_S_hold ⟨Nat.le_of_ble_eq_true rfl, Nat.le_of_ble_eq_true rfl⟩, ht _ kw_279, ht _ kw_280⟩ nwC_ok hNC hK hP1 (hD1 _) (by decide) (e_g1_0 cy ad1 _) rfl rfl hl.1 rfl (Nat.le_of_ble_eq_true rfl) d_law_250 ⟨Nat.le_of_ble_eq_true rfl, Nat.le_of_ble_eq_true rfl⟩) (hD1 _) hS hA hP2 hX12 (fun H locs hP1 hP2 hS => ?_)
                refine lv_aload_n hx hb d_law_253 rfl (lv_at hl 2 rfl) ?_
                refine lv_aload_n hx hb d_law_254 rfl (lv_at hl 0 rfl) ?_
                refine lv_iload_n hx hb d_law_255 rfl (lv_at hl 3 rfl) ?_
                refine lv_iconst (v := 1) hx hb d_law_256 (by decide) ?_
                refine lv_iadd hx hb d_law_257 ?_
                refine va_sld hx hb hX hbl hbA hS (lw_ix ex3 hjL hL 1 1 rfl (by decide)) d_law_258 ?_
                refine lv_aload_n hx hb d_law_259 rfl (lv_at hl 0 rfl) ?_
                refine lv_iload_n hx hb d_law_260 rfl (lv_at hl 3 rfl) ?_
                refine lv_iconst (v := 2) hx hb d_law_261 (by decide) ?_
                refine lv_iadd hx hb d_law_262 ?_
                refine va_sld hx hb hX hbl hbA hS (lw_ix ex3 hjL hL 2 2 rfl (by decide)) d_law_263 ?_
                refine lv_aload_n hx hb d_law_264 rfl (lv_at hl 0 rfl) ?_
                refine lv_iload_n hx hb d_law_265 rfl (lv_at hl 3 rfl) ?_
                refine lv_iconst (v := 3) hx hb d_law_266 (by decide) ?_
                refine lv_iadd hx hb d_law_267 ?_
                refine va_sld hx hb hX hbl hbA hS (lw_ix ex3 hjL hL 3 3 rfl (by decide)) d_law_268 ?_
                refine lv_if_eq (tgt := 276) hx hb d_law_269 (by decide) (fun c9 => absurd c9 c23) (fun _ => ?_)
                refine lv_iconst (v := 1) hx hb d_law_272 (by decide) ?_
                refine lv_goto (tgt := 277) hx hb d_law_273 (by decide) ?_
                refine lv_aload_n hx hb d_law_277 rfl (lv_at hl 0 rfl) ?_
                refine lv_iload_n hx hb d_law_278 rfl (lv_at hl 3 rfl) ?_
                refine lv_iconst (v := 4) hx hb d_law_279 (by decide) ?_
                refine lv_iadd hx hb d_law_280 ?_
                refine va_sld hx hb hX hbl hbA hS (lw_ix ex3 hjL hL 4 4 rfl (by decide)) d_law_281 ?_
                refine wy_fi (wx_rV (As := [.int (xs (x3 + (1 : Int32)).toNatClampNeg), .int (xs (x3 + (2 : Int32)).toNatClampNeg), .int (1 : Int32), .int (xs (x3 + (4 : Int32)).toNatClampNeg)]) (rest := [.int r30]) ⟨hx, hb, hml, hown, ht⟩ (m_M_hold l D cy ad2 _ z2 (xs (x3 + (1 : Int32)).toNatClampNeg) (xs (x3 + (2 : Int32)).toNatClampNeg) (1 : Int32) (xs (x3 + (4 : Int32)).toNatClampNeg) _ _ hc34) ⟨callB_of 4 ht (gt_in (fun _ h9 => h9) kw_611) rfl rfl rfl (ht _ kw_52) (ht _ kw_608) q_M_hold ⟨Nat.le_of_ble_eq_true rfl, Nat.le_of_ble_eq_true rfl⟩, ht _ kw_609, ht _ kw_610⟩ nwM_ok trivial hK hP2 (hD2 _) (by decide) (e_g2_0 cy ad2 _) rfl rfl hl.1 rfl (Nat.le_of_ble_eq_true rfl) d_law_282 ⟨Nat.le_of_ble_eq_true rfl, Nat.le_of_ble_eq_true rfl⟩) (hD2 _) hS hA hP1 (fun i j hi hj e9 => hX12 j i hj hi e9.symm) (fun H locs hP2 hP1 hS => ?_)
                refine lv_icmp_eq (tgt := 711) hx hb d_law_285 (by decide) (fun _ => ?_) (fun c9 => absurd rfl c9)
                refine lv_iinc (v := x3 + (5 : Int32)) (lv' := [(3, .int (x3 + (5 : Int32))), (0, .ref b), (1, .ref (ad1 0)), (2, .ref (ad2 0))]) hx hb d_law_711 hl (k := 3) rfl rfl (by decide) rfl (fun ls hl => ?_)
                refine lv_goto (tgt := 18) hx hb d_law_714 (by decide) ?_
                exact ih (j + 5) _ _ _ hjL (by omega) (by rw [ex3]; exact nI_add j 5) hv35 _ _ _ hP1 hP2 hS (lv_sub hl [1, 2, 3, 0] rfl)
            ·
              by_cases c36 : ((xs x3.toNatClampNeg) &&& (15 : Int32)) = (4 : Int32)
              ·
                refine lv_tableIn (off := 258) (tgt := 290) hx hb d_law_32 (by rw [c36]; decide) (by rw [c36]; decide) (by rw [c36]; rfl) (by decide) ?_
                refine lv_aload_n hx hb d_law_290 rfl (lv_at hl 1 rfl) ?_
                refine lv_aload_n hx hb d_law_291 rfl (lv_at hl 0 rfl) ?_
                refine lv_iload_n hx hb d_law_292 rfl (lv_at hl 3 rfl) ?_
                refine lv_iconst (v := 1) hx hb d_law_293 (by decide) ?_
                refine lv_iadd hx hb d_law_294 ?_
                refine va_sld hx hb hX hbl hbA hS (lw_ix ex3 hjL hL 1 1 rfl (by decide)) d_law_295 ?_
                refine lv_aload_n hx hb d_law_296 rfl (lv_at hl 0 rfl) ?_
                refine lv_iload_n hx hb d_law_297 rfl (lv_at hl 3 rfl) ?_
                refine lv_iconst (v := 2) hx hb d_law_298 (by decide) ?_
                refine lv_iadd hx hb d_law_299 ?_
                refine va_sld hx hb hX hbl hbA hS (lw_ix ex3 hjL hL 2 2 rfl (by decide)) d_law_300 ?_
                refine lv_aload_n hx hb d_law_301 rfl (lv_at hl 0 rfl) ?_
                refine lv_iload_n hx hb d_law_302 rfl (lv_at hl 3 rfl) ?_
                refine lv_iconst (v := 3) hx hb d_law_303 (by decide) ?_
                refine lv_iadd hx hb d_law_304 ?_
                refine va_sld hx hb hX hbl hbA hS (lw_ix ex3 hjL hL 3 3 rfl (by decide)) d_law_305 ?_
                obtain ⟨r37, w38, w39, hc40, hc41, hv42⟩ := hI.2.2.2.2.1 z1 z2 (xs (x3 + (1 : Int32)).toNatClampNeg) (xs (x3 + (2 : Int32)).toNatClampNeg) (xs (x3 + (3 : Int32)).toNatClampNeg) hv
                refine wy_fi (wx_rV (As := [.int (xs (x3 + (1 : Int32)).toNatClampNeg), .int (xs (x3 + (2 : Int32)).toNatClampNeg), .int (xs (x3 + (3 : Int32)).toNatClampNeg)]) (rest := []) ⟨hx, hb, hml, hown, ht⟩ (m_S_spring l D cy ad1 _ z1 (xs (x3 + (1 : Int32)).toNatClampNeg) (xs (x3 + (2 : Int32)).toNatClampNeg) (xs (x3 + (3 : Int32)).toNatClampNeg) _ _ hc40) ⟨callB_of 3 ht (gt_in (fun _ h9 => h9) kw_289) rfl rfl rfl (ht _ kw_47) (ht _ kw_286) q_S_spring ⟨Nat.le_of_ble_eq_true rfl, Nat.le_of_ble_eq_true rfl⟩, ht _ kw_287, ht _ kw_288⟩ nwC_ok hNC hK hP1 (hD1 _) (by decide) (e_g1_0 cy ad1 _) rfl rfl hl.1 rfl (Nat.le_of_ble_eq_true rfl) d_law_306 ⟨Nat.le_of_ble_eq_true rfl, Nat.le_of_ble_eq_true rfl⟩) (hD1 _) hS hA hP2 hX12 (fun H locs hP1 hP2 hS => ?_)
                refine lv_aload_n hx hb d_law_309 rfl (lv_at hl 2 rfl) ?_
                refine lv_aload_n hx hb d_law_310 rfl (lv_at hl 0 rfl) ?_
                refine lv_iload_n hx hb d_law_311 rfl (lv_at hl 3 rfl) ?_
                refine lv_iconst (v := 1) hx hb d_law_312 (by decide) ?_
                refine lv_iadd hx hb d_law_313 ?_
                refine va_sld hx hb hX hbl hbA hS (lw_ix ex3 hjL hL 1 1 rfl (by decide)) d_law_314 ?_
                refine lv_aload_n hx hb d_law_315 rfl (lv_at hl 0 rfl) ?_
                refine lv_iload_n hx hb d_law_316 rfl (lv_at hl 3 rfl) ?_
                refine lv_iconst (v := 2) hx hb d_law_317 (by decide) ?_
                refine lv_iadd hx hb d_law_318 ?_
                refine va_sld hx hb hX hbl hbA hS (lw_ix ex3 hjL hL 2 2 rfl (by decide)) d_law_319 ?_
                refine lv_aload_n hx hb d_law_320 rfl (lv_at hl 0 rfl) ?_
                refine lv_iload_n hx hb d_law_321 rfl (lv_at hl 3 rfl) ?_
                refine lv_iconst (v := 3) hx hb d_law_322 (by decide) ?_
                refine lv_iadd hx hb d_law_323 ?_
                refine va_sld hx hb hX hbl hbA hS (lw_ix ex3 hjL hL 3 3 rfl (by decide)) d_law_324 ?_
                refine wy_fi (wx_rV (As := [.int (xs (x3 + (1 : Int32)).toNatClampNeg), .int (xs (x3 + (2 : Int32)).toNatClampNeg), .int (xs (x3 + (3 : Int32)).toNatClampNeg)]) (rest := [.int r37]) ⟨hx, hb, hml, hown, ht⟩ (m_M_spring l D cy ad2 _ z2 (xs (x3 + (1 : Int32)).toNatClampNeg) (xs (x3 + (2 : Int32)).toNatClampNeg) (xs (x3 + (3 : Int32)).toNatClampNeg) _ _ hc41) ⟨callB_of 3 ht (gt_in (fun _ h9 => h9) kw_615) rfl rfl rfl (ht _ kw_52) (ht _ kw_612) q_M_spring ⟨Nat.le_of_ble_eq_true rfl, Nat.le_of_ble_eq_true rfl⟩, ht _ kw_613, ht _ kw_614⟩ nwM_ok trivial hK hP2 (hD2 _) (by decide) (e_g2_0 cy ad2 _) rfl rfl hl.1 rfl (Nat.le_of_ble_eq_true rfl) d_law_325 ⟨Nat.le_of_ble_eq_true rfl, Nat.le_of_ble_eq_true rfl⟩) (hD2 _) hS hA hP1 (fun i j hi hj e9 => hX12 j i hj hi e9.symm) (fun H locs hP2 hP1 hS => ?_)
                refine lv_icmp_eq (tgt := 711) hx hb d_law_328 (by decide) (fun _ => ?_) (fun c9 => absurd rfl c9)
                refine lv_iinc (v := x3 + (5 : Int32)) (lv' := [(3, .int (x3 + (5 : Int32))), (0, .ref b), (1, .ref (ad1 0)), (2, .ref (ad2 0))]) hx hb d_law_711 hl (k := 3) rfl rfl (by decide) rfl (fun ls hl => ?_)
                refine lv_goto (tgt := 18) hx hb d_law_714 (by decide) ?_
                exact ih (j + 5) _ _ _ hjL (by omega) (by rw [ex3]; exact nI_add j 5) hv42 _ _ _ hP1 hP2 hS (lv_sub hl [1, 2, 3, 0] rfl)
              ·
                by_cases c43 : ((xs x3.toNatClampNeg) &&& (15 : Int32)) = (5 : Int32)
                ·
                  refine lv_tableIn (off := 301) (tgt := 333) hx hb d_law_32 (by rw [c43]; decide) (by rw [c43]; decide) (by rw [c43]; rfl) (by decide) ?_
                  refine lv_aload_n hx hb d_law_333 rfl (lv_at hl 1 rfl) ?_
                  refine lv_aload_n hx hb d_law_334 rfl (lv_at hl 0 rfl) ?_
                  refine lv_iload_n hx hb d_law_335 rfl (lv_at hl 3 rfl) ?_
                  refine lv_iconst (v := 1) hx hb d_law_336 (by decide) ?_
                  refine lv_iadd hx hb d_law_337 ?_
                  refine va_sld hx hb hX hbl hbA hS (lw_ix ex3 hjL hL 1 1 rfl (by decide)) d_law_338 ?_
                  refine lv_aload_n hx hb d_law_339 rfl (lv_at hl 0 rfl) ?_
                  refine lv_iload_n hx hb d_law_340 rfl (lv_at hl 3 rfl) ?_
                  refine lv_iconst (v := 2) hx hb d_law_341 (by decide) ?_
                  refine lv_iadd hx hb d_law_342 ?_
                  refine va_sld hx hb hX hbl hbA hS (lw_ix ex3 hjL hL 2 2 rfl (by decide)) d_law_343 ?_
                  refine lv_aload_n hx hb d_law_344 rfl (lv_at hl 0 rfl) ?_
                  refine lv_iload_n hx hb d_law_345 rfl (lv_at hl 3 rfl) ?_
                  refine lv_iconst (v := 3) hx hb d_law_346 (by decide) ?_
                  refine lv_iadd hx hb d_law_347 ?_
                  refine va_sld hx hb hX hbl hbA hS (lw_ix ex3 hjL hL 3 3 rfl (by decide)) d_law_348 ?_
                  refine lv_aload_n hx hb d_law_349 rfl (lv_at hl 0 rfl) ?_
                  refine lv_iload_n hx hb d_law_350 rfl (lv_at hl 3 rfl) ?_
                  refine lv_iconst (v := 4) hx hb d_law_351 (by decide) ?_
                  refine lv_iadd hx hb d_law_352 ?_
                  refine va_sld hx hb hX hbl hbA hS (lw_ix ex3 hjL hL 4 4 rfl (by decide)) d_law_353 ?_
                  obtain ⟨r44, w45, w46, hc47, hc48, hv49⟩ := hI.2.2.2.2.2.1 z1 z2 (xs (x3 + (1 : Int32)).toNatClampNeg) (xs (x3 + (2 : Int32)).toNatClampNeg) (xs (x3 + (3 : Int32)).toNatClampNeg) (xs (x3 + (4 : Int32)).toNatClampNeg) hv
                  refine wy_fi (wx_rV (As := [.int (xs (x3 + (1 : Int32)).toNatClampNeg), .int (xs (x3 + (2 : Int32)).toNatClampNeg), .int (xs (x3 + (3 : Int32)).toNatClampNeg), .int (xs (x3 + (4 : Int32)).toNatClampNeg)]) (rest := []) ⟨hx, hb, hml, hown, ht⟩ (m_S_load l D cy ad1 _ z1 (xs (x3 + (1 : Int32)).toNatClampNeg) (xs (x3 + (2 : Int32)).toNatClampNeg) (xs (x3 + (3 : Int32)).toNatClampNeg) (xs (x3 + (4 : Int32)).toNatClampNeg) _ _ hc47) ⟨callB_of 4 ht (gt_in (fun _ h9 => h9) kw_293) rfl rfl rfl (ht _ kw_47) (ht _ kw_290) q_S_load ⟨Nat.le_of_ble_eq_true rfl, Nat.le_of_ble_eq_true rfl⟩, ht _ kw_291, ht _ kw_292⟩ nwC_ok hNC hK hP1 (hD1 _) (by decide) (e_g1_0 cy ad1 _) rfl rfl hl.1 rfl (Nat.le_of_ble_eq_true rfl) d_law_354 ⟨Nat.le_of_ble_eq_true rfl, Nat.le_of_ble_eq_true rfl⟩) (hD1 _) hS hA hP2 hX12 (fun H locs hP1 hP2 hS => ?_)
                  refine lv_aload_n hx hb d_law_357 rfl (lv_at hl 2 rfl) ?_
                  refine lv_aload_n hx hb d_law_358 rfl (lv_at hl 0 rfl) ?_
                  refine lv_iload_n hx hb d_law_359 rfl (lv_at hl 3 rfl) ?_
                  refine lv_iconst (v := 1) hx hb d_law_360 (by decide) ?_
                  refine lv_iadd hx hb d_law_361 ?_
                  refine va_sld hx hb hX hbl hbA hS (lw_ix ex3 hjL hL 1 1 rfl (by decide)) d_law_362 ?_
                  refine lv_aload_n hx hb d_law_363 rfl (lv_at hl 0 rfl) ?_
                  refine lv_iload_n hx hb d_law_364 rfl (lv_at hl 3 rfl) ?_
                  refine lv_iconst (v := 2) hx hb d_law_365 (by decide) ?_
                  refine lv_iadd hx hb d_law_366 ?_
                  refine va_sld hx hb hX hbl hbA hS (lw_ix ex3 hjL hL 2 2 rfl (by decide)) d_law_367 ?_
                  refine lv_aload_n hx hb d_law_368 rfl (lv_at hl 0 rfl) ?_
                  refine lv_iload_n hx hb d_law_369 rfl (lv_at hl 3 rfl) ?_
                  refine lv_iconst (v := 3) hx hb d_law_370 (by decide) ?_
                  refine lv_iadd hx hb d_law_371 ?_
                  refine va_sld hx hb hX hbl hbA hS (lw_ix ex3 hjL hL 3 3 rfl (by decide)) d_law_372 ?_
                  refine lv_aload_n hx hb d_law_373 rfl (lv_at hl 0 rfl) ?_
                  refine lv_iload_n hx hb d_law_374 rfl (lv_at hl 3 rfl) ?_
                  refine lv_iconst (v := 4) hx hb d_law_375 (by decide) ?_
                  refine lv_iadd hx hb d_law_376 ?_
                  refine va_sld hx hb hX hbl hbA hS (lw_ix ex3 hjL hL 4 4 rfl (by decide)) d_law_377 ?_
                  refine wy_fi (wx_rV (As := [.int (xs (x3 + (1 : Int32)).toNatClampNeg), .int (xs (x3 + (2 : Int32)).toNatClampNeg), .int (xs (x3 + (3 : Int32)).toNatClampNeg), .int (xs (x3 + (4 : Int32)).toNatClampNeg)]) (rest := [.int r44]) ⟨hx, hb, hml, hown, ht⟩ (m_M_load l D cy ad2 _ z2 (xs (x3 + (1 : Int32)).toNatClampNeg) (xs (x3 + (2 : Int32)).toNatClampNeg) (xs (x3 + (3 : Int32)).toNatClampNeg) (xs (x3 + (4 : Int32)).toNatClampNeg) _ _ hc48) ⟨callB_of 4 ht (gt_in (fun _ h9 => h9) kw_619) rfl rfl rfl (ht _ kw_52) (ht _ kw_616) q_M_load ⟨Nat.le_of_ble_eq_true rfl, Nat.le_of_ble_eq_true rfl⟩, ht _ kw_617, ht _ kw_618⟩ nwM_ok trivial hK hP2 (hD2 _) (by decide) (e_g2_0 cy ad2 _) rfl rfl hl.1 rfl (Nat.le_of_ble_eq_true rfl) d_law_378 ⟨Nat.le_of_ble_eq_true rfl, Nat.le_of_ble_eq_true rfl⟩) (hD2 _) hS hA hP1 (fun i j hi hj e9 => hX12 j i hj hi e9.symm) (fun H locs hP2 hP1 hS => ?_)
                  refine lv_icmp_eq (tgt := 711) hx hb d_law_381 (by decide) (fun _ => ?_) (fun c9 => absurd rfl c9)
                  refine lv_iinc (v := x3 + (5 : Int32)) (lv' := [(3, .int (x3 + (5 : Int32))), (0, .ref b), (1, .ref (ad1 0)), (2, .ref (ad2 0))]) hx hb d_law_711 hl (k := 3) rfl rfl (by decide) rfl (fun ls hl => ?_)
                  refine lv_goto (tgt := 18) hx hb d_law_714 (by decide) ?_
                  exact ih (j + 5) _ _ _ hjL (by omega) (by rw [ex3]; exact nI_add j 5) hv49 _ _ _ hP1 hP2 hS (lv_sub hl [1, 2, 3, 0] rfl)
                ·
                  by_cases c50 : ((xs x3.toNatClampNeg) &&& (15 : Int32)) = (6 : Int32)
                  ·
                    refine lv_tableIn (off := 354) (tgt := 386) hx hb d_law_32 (by rw [c50]; decide) (by rw [c50]; decide) (by rw [c50]; rfl) (by decide) ?_
                    refine lv_aload_n hx hb d_law_386 rfl (lv_at hl 1 rfl) ?_
                    obtain ⟨r51, w52, w53, hc54, hc55, hv56⟩ := hI.2.2.2.2.2.2.1 z1 z2 hv
                    refine wy_fi (wx_rV (As := []) (rest := []) ⟨hx, hb, hml, hown, ht⟩ (m_S_solve l D cy ad1 _ z1 _ _ hc54) ⟨callB_of 0 ht (gt_in (fun _ h9 => h9) kw_300) rfl rfl rfl (ht _ kw_47) (ht _ kw_297) q_S_solve ⟨Nat.le_of_ble_eq_true rfl, Nat.le_of_ble_eq_true rfl⟩, ht _ kw_298, ht _ kw_299⟩ nwC_ok hNC hK hP1 (hD1 _) (by decide) (e_g1_0 cy ad1 _) rfl rfl hl.1 rfl (Nat.le_of_ble_eq_true rfl) d_law_387 ⟨Nat.le_of_ble_eq_true rfl, Nat.le_of_ble_eq_true rfl⟩) (hD1 _) hS hA hP2 hX12 (fun H locs hP1 hP2 hS => ?_)
                    refine lv_aload_n hx hb d_law_390 rfl (lv_at hl 2 rfl) ?_
                    refine wy_fi (wx_rV (As := []) (rest := [.int r51]) ⟨hx, hb, hml, hown, ht⟩ (m_M_solve l D cy ad2 _ z2 _ _ hc55) ⟨callB_of 0 ht (gt_in (fun _ h9 => h9) kw_623) rfl rfl rfl (ht _ kw_52) (ht _ kw_620) q_M_solve ⟨Nat.le_of_ble_eq_true rfl, Nat.le_of_ble_eq_true rfl⟩, ht _ kw_621, ht _ kw_622⟩ nwM_ok trivial hK hP2 (hD2 _) (by decide) (e_g2_0 cy ad2 _) rfl rfl hl.1 rfl (Nat.le_of_ble_eq_true rfl) d_law_391 ⟨Nat.le_of_ble_eq_true rfl, Nat.le_of_ble_eq_true rfl⟩) (hD2 _) hS hA hP1 (fun i j hi hj e9 => hX12 j i hj hi e9.symm) (fun H locs hP2 hP1 hS => ?_)
                    refine lv_icmp_eq (tgt := 711) hx hb d_law_394 (by decide) (fun _ => ?_) (fun c9 => absurd rfl c9)
                    refine lv_iinc (v := x3 + (5 : Int32)) (lv' := [(3, .int (x3 + (5 : Int32))), (0, .ref b), (1, .ref (ad1 0)), (2, .ref (ad2 0))]) hx hb d_law_711 hl (k := 3) rfl rfl (by decide) rfl (fun ls hl => ?_)
                    refine lv_goto (tgt := 18) hx hb d_law_714 (by decide) ?_
                    exact ih (j + 5) _ _ _ hjL (by omega) (by rw [ex3]; exact nI_add j 5) hv56 _ _ _ hP1 hP2 hS (lv_sub hl [1, 2, 3, 0] rfl)
                  ·
                    by_cases c57 : ((xs x3.toNatClampNeg) &&& (15 : Int32)) = (7 : Int32)
                    ·
                      refine lv_tableIn (off := 367) (tgt := 399) hx hb d_law_32 (by rw [c57]; decide) (by rw [c57]; decide) (by rw [c57]; rfl) (by decide) ?_
                      refine lv_aload_n hx hb d_law_399 rfl (lv_at hl 1 rfl) ?_
                      obtain ⟨r58, w59, w60, hc61, hc62, hv63⟩ := hI.2.2.2.2.2.2.2.1 z1 z2 hv
                      refine wy_fi (wx_rV (As := []) (rest := []) ⟨hx, hb, hml, hown, ht⟩ (m_S_open l D cy ad1 _ z1 _ _ hc61) ⟨callB_of 0 ht (gt_in (fun _ h9 => h9) kw_416) rfl rfl rfl (ht _ kw_47) (ht _ kw_413) q_S_open ⟨Nat.le_of_ble_eq_true rfl, Nat.le_of_ble_eq_true rfl⟩, ht _ kw_414, ht _ kw_415⟩ nwC_ok hNC hK hP1 (hD1 _) (by decide) (e_g1_0 cy ad1 _) rfl rfl hl.1 rfl (Nat.le_of_ble_eq_true rfl) d_law_400 ⟨Nat.le_of_ble_eq_true rfl, Nat.le_of_ble_eq_true rfl⟩) (hD1 _) hS hA hP2 hX12 (fun H locs hP1 hP2 hS => ?_)
                      refine lv_aload_n hx hb d_law_403 rfl (lv_at hl 2 rfl) ?_
                      refine wy_fi (wx_rV (As := []) (rest := [.int r58]) ⟨hx, hb, hml, hown, ht⟩ (m_M_open l D cy ad2 _ z2 _ _ hc62) ⟨callB_of 0 ht (gt_in (fun _ h9 => h9) kw_690) rfl rfl rfl (ht _ kw_52) (ht _ kw_687) q_M_open ⟨Nat.le_of_ble_eq_true rfl, Nat.le_of_ble_eq_true rfl⟩, ht _ kw_688, ht _ kw_689⟩ nwM_ok trivial hK hP2 (hD2 _) (by decide) (e_g2_0 cy ad2 _) rfl rfl hl.1 rfl (Nat.le_of_ble_eq_true rfl) d_law_404 ⟨Nat.le_of_ble_eq_true rfl, Nat.le_of_ble_eq_true rfl⟩) (hD2 _) hS hA hP1 (fun i j hi hj e9 => hX12 j i hj hi e9.symm) (fun H locs hP2 hP1 hS => ?_)
                      refine lv_icmp_eq (tgt := 711) hx hb d_law_407 (by decide) (fun _ => ?_) (fun c9 => absurd rfl c9)
                      refine lv_iinc (v := x3 + (5 : Int32)) (lv' := [(3, .int (x3 + (5 : Int32))), (0, .ref b), (1, .ref (ad1 0)), (2, .ref (ad2 0))]) hx hb d_law_711 hl (k := 3) rfl rfl (by decide) rfl (fun ls hl => ?_)
                      refine lv_goto (tgt := 18) hx hb d_law_714 (by decide) ?_
                      exact ih (j + 5) _ _ _ hjL (by omega) (by rw [ex3]; exact nI_add j 5) hv63 _ _ _ hP1 hP2 hS (lv_sub hl [1, 2, 3, 0] rfl)
                    ·
                      by_cases c64 : ((xs x3.toNatClampNeg) &&& (15 : Int32)) = (8 : Int32)
                      ·
                        refine lv_tableIn (off := 380) (tgt := 412) hx hb d_law_32 (by rw [c64]; decide) (by rw [c64]; decide) (by rw [c64]; rfl) (by decide) ?_
                        refine lv_aload_n hx hb d_law_412 rfl (lv_at hl 1 rfl) ?_
                        refine lv_aload_n hx hb d_law_413 rfl (lv_at hl 0 rfl) ?_
                        refine lv_iload_n hx hb d_law_414 rfl (lv_at hl 3 rfl) ?_
                        refine lv_iconst (v := 1) hx hb d_law_415 (by decide) ?_
                        refine lv_iadd hx hb d_law_416 ?_
                        refine va_sld hx hb hX hbl hbA hS (lw_ix ex3 hjL hL 1 1 rfl (by decide)) d_law_417 ?_
                        refine lv_aload_n hx hb d_law_418 rfl (lv_at hl 0 rfl) ?_
                        refine lv_iload_n hx hb d_law_419 rfl (lv_at hl 3 rfl) ?_
                        refine lv_iconst (v := 2) hx hb d_law_420 (by decide) ?_
                        refine lv_iadd hx hb d_law_421 ?_
                        refine va_sld hx hb hX hbl hbA hS (lw_ix ex3 hjL hL 2 2 rfl (by decide)) d_law_422 ?_
                        refine lv_aload_n hx hb d_law_423 rfl (lv_at hl 0 rfl) ?_
                        refine lv_iload_n hx hb d_law_424 rfl (lv_at hl 3 rfl) ?_
                        refine lv_iconst (v := 3) hx hb d_law_425 (by decide) ?_
                        refine lv_iadd hx hb d_law_426 ?_
                        refine va_sld hx hb hX hbl hbA hS (lw_ix ex3 hjL hL 3 3 rfl (by decide)) d_law_427 ?_
                        refine lv_aload_n hx hb d_law_428 rfl (lv_at hl 0 rfl) ?_
                        refine lv_iload_n hx hb d_law_429 rfl (lv_at hl 3 rfl) ?_
                        refine lv_iconst (v := 4) hx hb d_law_430 (by decide) ?_
                        refine lv_iadd hx hb d_law_431 ?_
                        refine va_sld hx hb hX hbl hbA hS (lw_ix ex3 hjL hL 4 4 rfl (by decide)) d_law_432 ?_
                        obtain ⟨r65, w66, w67, hc68, hc69, hv70⟩ := hI.2.2.2.2.2.2.2.2.1 z1 z2 (xs (x3 + (1 : Int32)).toNatClampNeg) (xs (x3 + (2 : Int32)).toNatClampNeg) (xs (x3 + (3 : Int32)).toNatClampNeg) (xs (x3 + (4 : Int32)).toNatClampNeg) hv
                        refine wy_fl (wx_rV (As := [.int (xs (x3 + (1 : Int32)).toNatClampNeg), .int (xs (x3 + (2 : Int32)).toNatClampNeg), .int (xs (x3 + (3 : Int32)).toNatClampNeg), .int (xs (x3 + (4 : Int32)).toNatClampNeg)]) (rest := []) ⟨hx, hb, hml, hown, ht⟩ (m_S_displacement l D cy ad1 _ z1 (xs (x3 + (1 : Int32)).toNatClampNeg) (xs (x3 + (2 : Int32)).toNatClampNeg) (xs (x3 + (3 : Int32)).toNatClampNeg) (xs (x3 + (4 : Int32)).toNatClampNeg) _ _ hc68) ⟨callB_of 4 ht (gt_in (fun _ h9 => h9) kw_420) rfl rfl rfl (ht _ kw_47) (ht _ kw_417) q_S_displacement ⟨Nat.le_of_ble_eq_true rfl, Nat.le_of_ble_eq_true rfl⟩, ht _ kw_418, ht _ kw_419⟩ nwC_ok hNC hK hP1 (hD1 _) (by decide) (e_g1_0 cy ad1 _) rfl rfl hl.1 rfl (Nat.le_of_ble_eq_true rfl) d_law_433 ⟨Nat.le_of_ble_eq_true rfl, Nat.le_of_ble_eq_true rfl⟩) (hD1 _) hS hA hP2 hX12 (fun H locs hP1 hP2 hS => ?_)
                        refine lv_aload_n hx hb d_law_436 rfl (lv_at hl 2 rfl) ?_
                        refine lv_aload_n hx hb d_law_437 rfl (lv_at hl 0 rfl) ?_
                        refine lv_iload_n hx hb d_law_438 rfl (lv_at hl 3 rfl) ?_
                        refine lv_iconst (v := 1) hx hb d_law_439 (by decide) ?_
                        refine lv_iadd hx hb d_law_440 ?_
                        refine va_sld hx hb hX hbl hbA hS (lw_ix ex3 hjL hL 1 1 rfl (by decide)) d_law_441 ?_
                        refine lv_aload_n hx hb d_law_442 rfl (lv_at hl 0 rfl) ?_
                        refine lv_iload_n hx hb d_law_443 rfl (lv_at hl 3 rfl) ?_
                        refine lv_iconst (v := 2) hx hb d_law_444 (by decide) ?_
                        refine lv_iadd hx hb d_law_445 ?_
                        refine va_sld hx hb hX hbl hbA hS (lw_ix ex3 hjL hL 2 2 rfl (by decide)) d_law_446 ?_
                        refine lv_aload_n hx hb d_law_447 rfl (lv_at hl 0 rfl) ?_
                        refine lv_iload_n hx hb d_law_448 rfl (lv_at hl 3 rfl) ?_
                        refine lv_iconst (v := 3) hx hb d_law_449 (by decide) ?_
                        refine lv_iadd hx hb d_law_450 ?_
                        refine va_sld hx hb hX hbl hbA hS (lw_ix ex3 hjL hL 3 3 rfl (by decide)) d_law_451 ?_
                        refine lv_aload_n hx hb d_law_452 rfl (lv_at hl 0 rfl) ?_
                        refine lv_iload_n hx hb d_law_453 rfl (lv_at hl 3 rfl) ?_
                        refine lv_iconst (v := 4) hx hb d_law_454 (by decide) ?_
                        refine lv_iadd hx hb d_law_455 ?_
                        refine va_sld hx hb hX hbl hbA hS (lw_ix ex3 hjL hL 4 4 rfl (by decide)) d_law_456 ?_
                        refine wy_fl (wx_rV (As := [.int (xs (x3 + (1 : Int32)).toNatClampNeg), .int (xs (x3 + (2 : Int32)).toNatClampNeg), .int (xs (x3 + (3 : Int32)).toNatClampNeg), .int (xs (x3 + (4 : Int32)).toNatClampNeg)]) (rest := [.long r65]) ⟨hx, hb, hml, hown, ht⟩ (m_M_displacement l D cy ad2 _ z2 (xs (x3 + (1 : Int32)).toNatClampNeg) (xs (x3 + (2 : Int32)).toNatClampNeg) (xs (x3 + (3 : Int32)).toNatClampNeg) (xs (x3 + (4 : Int32)).toNatClampNeg) _ _ hc69) ⟨callB_of 4 ht (gt_in (fun _ h9 => h9) kw_694) rfl rfl rfl (ht _ kw_52) (ht _ kw_691) q_M_displacement ⟨Nat.le_of_ble_eq_true rfl, Nat.le_of_ble_eq_true rfl⟩, ht _ kw_692, ht _ kw_693⟩ nwM_ok trivial hK hP2 (hD2 _) (by decide) (e_g2_0 cy ad2 _) rfl rfl hl.1 rfl (Nat.le_of_ble_eq_true rfl) d_law_457 ⟨Nat.le_of_ble_eq_true rfl, Nat.le_of_ble_eq_true rfl⟩) (hD2 _) hS hA hP1 (fun i j hi hj e9 => hX12 j i hj hi e9.symm) (fun H locs hP2 hP1 hS => ?_)
                        refine W.lcmp hx hb d_law_460 ?_
                        refine lv_if_eq (tgt := 711) hx hb d_law_461 (by decide) (fun _ => ?_) (fun c9 => absurd (lg_cmp_self _) c9)
                        refine lv_iinc (v := x3 + (5 : Int32)) (lv' := [(3, .int (x3 + (5 : Int32))), (0, .ref b), (1, .ref (ad1 0)), (2, .ref (ad2 0))]) hx hb d_law_711 hl (k := 3) rfl rfl (by decide) rfl (fun ls hl => ?_)
                        refine lv_goto (tgt := 18) hx hb d_law_714 (by decide) ?_
                        exact ih (j + 5) _ _ _ hjL (by omega) (by rw [ex3]; exact nI_add j 5) hv70 _ _ _ hP1 hP2 hS (lv_sub hl [1, 2, 3, 0] rfl)
                      ·
                        by_cases c71 : ((xs x3.toNatClampNeg) &&& (15 : Int32)) = (9 : Int32)
                        ·
                          refine lv_tableIn (off := 434) (tgt := 466) hx hb d_law_32 (by rw [c71]; decide) (by rw [c71]; decide) (by rw [c71]; rfl) (by decide) ?_
                          refine lv_aload_n hx hb d_law_466 rfl (lv_at hl 1 rfl) ?_
                          refine lv_aload_n hx hb d_law_467 rfl (lv_at hl 0 rfl) ?_
                          refine lv_iload_n hx hb d_law_468 rfl (lv_at hl 3 rfl) ?_
                          refine lv_iconst (v := 1) hx hb d_law_469 (by decide) ?_
                          refine lv_iadd hx hb d_law_470 ?_
                          refine va_sld hx hb hX hbl hbA hS (lw_ix ex3 hjL hL 1 1 rfl (by decide)) d_law_471 ?_
                          refine lv_aload_n hx hb d_law_472 rfl (lv_at hl 0 rfl) ?_
                          refine lv_iload_n hx hb d_law_473 rfl (lv_at hl 3 rfl) ?_
                          refine lv_iconst (v := 2) hx hb d_law_474 (by decide) ?_
                          refine lv_iadd hx hb d_law_475 ?_
                          refine va_sld hx hb hX hbl hbA hS (lw_ix ex3 hjL hL 2 2 rfl (by decide)) d_law_476 ?_
                          refine lv_aload_n hx hb d_law_477 rfl (lv_at hl 0 rfl) ?_
                          refine lv_iload_n hx hb d_law_478 rfl (lv_at hl 3 rfl) ?_
                          refine lv_iconst (v := 3) hx hb d_law_479 (by decide) ?_
                          refine lv_iadd hx hb d_law_480 ?_
                          refine va_sld hx hb hX hbl hbA hS (lw_ix ex3 hjL hL 3 3 rfl (by decide)) d_law_481 ?_
                          obtain ⟨r72, w73, w74, hc75, hc76, hv77⟩ := hI.2.2.2.2.2.2.2.2.2.1 z1 z2 (xs (x3 + (1 : Int32)).toNatClampNeg) (xs (x3 + (2 : Int32)).toNatClampNeg) (xs (x3 + (3 : Int32)).toNatClampNeg) hv
                          refine wy_fl (wx_rV (As := [.int (xs (x3 + (1 : Int32)).toNatClampNeg), .int (xs (x3 + (2 : Int32)).toNatClampNeg), .int (xs (x3 + (3 : Int32)).toNatClampNeg)]) (rest := []) ⟨hx, hb, hml, hown, ht⟩ (m_S_force l D cy ad1 _ z1 (xs (x3 + (1 : Int32)).toNatClampNeg) (xs (x3 + (2 : Int32)).toNatClampNeg) (xs (x3 + (3 : Int32)).toNatClampNeg) _ _ hc75) ⟨callB_of 3 ht (gt_in (fun _ h9 => h9) kw_480) rfl rfl rfl (ht _ kw_47) (ht _ kw_477) q_S_force ⟨Nat.le_of_ble_eq_true rfl, Nat.le_of_ble_eq_true rfl⟩, ht _ kw_478, ht _ kw_479⟩ nwC_ok hNC hK hP1 (hD1 _) (by decide) (e_g1_0 cy ad1 _) rfl rfl hl.1 rfl (Nat.le_of_ble_eq_true rfl) d_law_482 ⟨Nat.le_of_ble_eq_true rfl, Nat.le_of_ble_eq_true rfl⟩) (hD1 _) hS hA hP2 hX12 (fun H locs hP1 hP2 hS => ?_)
                          refine lv_aload_n hx hb d_law_485 rfl (lv_at hl 2 rfl) ?_
                          refine lv_aload_n hx hb d_law_486 rfl (lv_at hl 0 rfl) ?_
                          refine lv_iload_n hx hb d_law_487 rfl (lv_at hl 3 rfl) ?_
                          refine lv_iconst (v := 1) hx hb d_law_488 (by decide) ?_
                          refine lv_iadd hx hb d_law_489 ?_
                          refine va_sld hx hb hX hbl hbA hS (lw_ix ex3 hjL hL 1 1 rfl (by decide)) d_law_490 ?_
                          refine lv_aload_n hx hb d_law_491 rfl (lv_at hl 0 rfl) ?_
                          refine lv_iload_n hx hb d_law_492 rfl (lv_at hl 3 rfl) ?_
                          refine lv_iconst (v := 2) hx hb d_law_493 (by decide) ?_
                          refine lv_iadd hx hb d_law_494 ?_
                          refine va_sld hx hb hX hbl hbA hS (lw_ix ex3 hjL hL 2 2 rfl (by decide)) d_law_495 ?_
                          refine lv_aload_n hx hb d_law_496 rfl (lv_at hl 0 rfl) ?_
                          refine lv_iload_n hx hb d_law_497 rfl (lv_at hl 3 rfl) ?_
                          refine lv_iconst (v := 3) hx hb d_law_498 (by decide) ?_
                          refine lv_iadd hx hb d_law_499 ?_
                          refine va_sld hx hb hX hbl hbA hS (lw_ix ex3 hjL hL 3 3 rfl (by decide)) d_law_500 ?_
                          refine wy_fl (wx_rV (As := [.int (xs (x3 + (1 : Int32)).toNatClampNeg), .int (xs (x3 + (2 : Int32)).toNatClampNeg), .int (xs (x3 + (3 : Int32)).toNatClampNeg)]) (rest := [.long r72]) ⟨hx, hb, hml, hown, ht⟩ (m_M_force l D cy ad2 _ z2 (xs (x3 + (1 : Int32)).toNatClampNeg) (xs (x3 + (2 : Int32)).toNatClampNeg) (xs (x3 + (3 : Int32)).toNatClampNeg) _ _ hc76) ⟨callB_of 3 ht (gt_in (fun _ h9 => h9) kw_724) rfl rfl rfl (ht _ kw_52) (ht _ kw_721) q_M_force ⟨Nat.le_of_ble_eq_true rfl, Nat.le_of_ble_eq_true rfl⟩, ht _ kw_722, ht _ kw_723⟩ nwM_ok trivial hK hP2 (hD2 _) (by decide) (e_g2_0 cy ad2 _) rfl rfl hl.1 rfl (Nat.le_of_ble_eq_true rfl) d_law_501 ⟨Nat.le_of_ble_eq_true rfl, Nat.le_of_ble_eq_true rfl⟩) (hD2 _) hS hA hP1 (fun i j hi hj e9 => hX12 j i hj hi e9.symm) (fun H locs hP2 hP1 hS => ?_)
                          refine W.lcmp hx hb d_law_504 ?_
                          refine lv_if_eq (tgt := 711) hx hb d_law_505 (by decide) (fun _ => ?_) (fun c9 => absurd (lg_cmp_self _) c9)
                          refine lv_iinc (v := x3 + (5 : Int32)) (lv' := [(3, .int (x3 + (5 : Int32))), (0, .ref b), (1, .ref (ad1 0)), (2, .ref (ad2 0))]) hx hb d_law_711 hl (k := 3) rfl rfl (by decide) rfl (fun ls hl => ?_)
                          refine lv_goto (tgt := 18) hx hb d_law_714 (by decide) ?_
                          exact ih (j + 5) _ _ _ hjL (by omega) (by rw [ex3]; exact nI_add j 5) hv77 _ _ _ hP1 hP2 hS (lv_sub hl [1, 2, 3, 0] rfl)
                        ·
                          by_cases c78 : ((xs x3.toNatClampNeg) &&& (15 : Int32)) = (10 : Int32)
                          ·
                            refine lv_tableIn (off := 478) (tgt := 510) hx hb d_law_32 (by rw [c78]; decide) (by rw [c78]; decide) (by rw [c78]; rfl) (by decide) ?_
                            refine lv_aload_n hx hb d_law_510 rfl (lv_at hl 1 rfl) ?_
                            refine lv_aload_n hx hb d_law_511 rfl (lv_at hl 0 rfl) ?_
                            refine lv_iload_n hx hb d_law_512 rfl (lv_at hl 3 rfl) ?_
                            refine lv_iconst (v := 1) hx hb d_law_513 (by decide) ?_
                            refine lv_iadd hx hb d_law_514 ?_
                            refine va_sld hx hb hX hbl hbA hS (lw_ix ex3 hjL hL 1 1 rfl (by decide)) d_law_515 ?_
                            refine lv_aload_n hx hb d_law_516 rfl (lv_at hl 0 rfl) ?_
                            refine lv_iload_n hx hb d_law_517 rfl (lv_at hl 3 rfl) ?_
                            refine lv_iconst (v := 2) hx hb d_law_518 (by decide) ?_
                            refine lv_iadd hx hb d_law_519 ?_
                            refine va_sld hx hb hX hbl hbA hS (lw_ix ex3 hjL hL 2 2 rfl (by decide)) d_law_520 ?_
                            refine lv_aload_n hx hb d_law_521 rfl (lv_at hl 0 rfl) ?_
                            refine lv_iload_n hx hb d_law_522 rfl (lv_at hl 3 rfl) ?_
                            refine lv_iconst (v := 3) hx hb d_law_523 (by decide) ?_
                            refine lv_iadd hx hb d_law_524 ?_
                            refine va_sld hx hb hX hbl hbA hS (lw_ix ex3 hjL hL 3 3 rfl (by decide)) d_law_525 ?_
                            refine lv_aload_n hx hb d_law_526 rfl (lv_at hl 0 rfl) ?_
                            refine lv_iload_n hx hb d_law_527 rfl (lv_at hl 3 rfl) ?_
                            refine lv_iconst (v := 4) hx hb d_law_528 (by decide) ?_
                            refine lv_iadd hx hb d_law_529 ?_
                            refine va_sld hx hb hX hbl hbA hS (lw_ix ex3 hjL hL 4 4 rfl (by decide)) d_law_530 ?_
                            obtain ⟨r79, w80, w81, hc82, hc83, hv84⟩ := hI.2.2.2.2.2.2.2.2.2.2.1 z1 z2 (xs (x3 + (1 : Int32)).toNatClampNeg) (xs (x3 + (2 : Int32)).toNatClampNeg) (xs (x3 + (3 : Int32)).toNatClampNeg) (xs (x3 + (4 : Int32)).toNatClampNeg) hv
                            refine wy_fl (wx_rV (As := [.int (xs (x3 + (1 : Int32)).toNatClampNeg), .int (xs (x3 + (2 : Int32)).toNatClampNeg), .int (xs (x3 + (3 : Int32)).toNatClampNeg), .int (xs (x3 + (4 : Int32)).toNatClampNeg)]) (rest := []) ⟨hx, hb, hml, hown, ht⟩ (m_S_reaction l D cy ad1 _ z1 (xs (x3 + (1 : Int32)).toNatClampNeg) (xs (x3 + (2 : Int32)).toNatClampNeg) (xs (x3 + (3 : Int32)).toNatClampNeg) (xs (x3 + (4 : Int32)).toNatClampNeg) _ _ hc82) ⟨callB_of 4 ht (gt_in (fun _ h9 => h9) kw_489) rfl rfl rfl (ht _ kw_47) (ht _ kw_486) q_S_reaction ⟨Nat.le_of_ble_eq_true rfl, Nat.le_of_ble_eq_true rfl⟩, ht _ kw_487, ht _ kw_488⟩ nwC_ok hNC hK hP1 (hD1 _) (by decide) (e_g1_0 cy ad1 _) rfl rfl hl.1 rfl (Nat.le_of_ble_eq_true rfl) d_law_531 ⟨Nat.le_of_ble_eq_true rfl, Nat.le_of_ble_eq_true rfl⟩) (hD1 _) hS hA hP2 hX12 (fun H locs hP1 hP2 hS => ?_)
                            refine lv_aload_n hx hb d_law_534 rfl (lv_at hl 2 rfl) ?_
                            refine lv_aload_n hx hb d_law_535 rfl (lv_at hl 0 rfl) ?_
                            refine lv_iload_n hx hb d_law_536 rfl (lv_at hl 3 rfl) ?_
                            refine lv_iconst (v := 1) hx hb d_law_537 (by decide) ?_
                            refine lv_iadd hx hb d_law_538 ?_
                            refine va_sld hx hb hX hbl hbA hS (lw_ix ex3 hjL hL 1 1 rfl (by decide)) d_law_539 ?_
                            refine lv_aload_n hx hb d_law_540 rfl (lv_at hl 0 rfl) ?_
                            refine lv_iload_n hx hb d_law_541 rfl (lv_at hl 3 rfl) ?_
                            refine lv_iconst (v := 2) hx hb d_law_542 (by decide) ?_
                            refine lv_iadd hx hb d_law_543 ?_
                            refine va_sld hx hb hX hbl hbA hS (lw_ix ex3 hjL hL 2 2 rfl (by decide)) d_law_544 ?_
                            refine lv_aload_n hx hb d_law_545 rfl (lv_at hl 0 rfl) ?_
                            refine lv_iload_n hx hb d_law_546 rfl (lv_at hl 3 rfl) ?_
                            refine lv_iconst (v := 3) hx hb d_law_547 (by decide) ?_
                            refine lv_iadd hx hb d_law_548 ?_
                            refine va_sld hx hb hX hbl hbA hS (lw_ix ex3 hjL hL 3 3 rfl (by decide)) d_law_549 ?_
                            refine lv_aload_n hx hb d_law_550 rfl (lv_at hl 0 rfl) ?_
                            refine lv_iload_n hx hb d_law_551 rfl (lv_at hl 3 rfl) ?_
                            refine lv_iconst (v := 4) hx hb d_law_552 (by decide) ?_
                            refine lv_iadd hx hb d_law_553 ?_
                            refine va_sld hx hb hX hbl hbA hS (lw_ix ex3 hjL hL 4 4 rfl (by decide)) d_law_554 ?_
                            refine wy_fl (wx_rV (As := [.int (xs (x3 + (1 : Int32)).toNatClampNeg), .int (xs (x3 + (2 : Int32)).toNatClampNeg), .int (xs (x3 + (3 : Int32)).toNatClampNeg), .int (xs (x3 + (4 : Int32)).toNatClampNeg)]) (rest := [.long r79]) ⟨hx, hb, hml, hown, ht⟩ (m_M_reaction l D cy ad2 _ z2 (xs (x3 + (1 : Int32)).toNatClampNeg) (xs (x3 + (2 : Int32)).toNatClampNeg) (xs (x3 + (3 : Int32)).toNatClampNeg) (xs (x3 + (4 : Int32)).toNatClampNeg) _ _ hc83) ⟨callB_of 4 ht (gt_in (fun _ h9 => h9) kw_732) rfl rfl rfl (ht _ kw_52) (ht _ kw_729) q_M_reaction ⟨Nat.le_of_ble_eq_true rfl, Nat.le_of_ble_eq_true rfl⟩, ht _ kw_730, ht _ kw_731⟩ nwM_ok trivial hK hP2 (hD2 _) (by decide) (e_g2_0 cy ad2 _) rfl rfl hl.1 rfl (Nat.le_of_ble_eq_true rfl) d_law_555 ⟨Nat.le_of_ble_eq_true rfl, Nat.le_of_ble_eq_true rfl⟩) (hD2 _) hS hA hP1 (fun i j hi hj e9 => hX12 j i hj hi e9.symm) (fun H locs hP2 hP1 hS => ?_)
                            refine W.lcmp hx hb d_law_558 ?_
                            refine lv_if_eq (tgt := 711) hx hb d_law_559 (by decide) (fun _ => ?_) (fun c9 => absurd (lg_cmp_self _) c9)
                            refine lv_iinc (v := x3 + (5 : Int32)) (lv' := [(3, .int (x3 + (5 : Int32))), (0, .ref b), (1, .ref (ad1 0)), (2, .ref (ad2 0))]) hx hb d_law_711 hl (k := 3) rfl rfl (by decide) rfl (fun ls hl => ?_)
                            refine lv_goto (tgt := 18) hx hb d_law_714 (by decide) ?_
                            exact ih (j + 5) _ _ _ hjL (by omega) (by rw [ex3]; exact nI_add j 5) hv84 _ _ _ hP1 hP2 hS (lv_sub hl [1, 2, 3, 0] rfl)
                          ·
                            by_cases c85 : ((xs x3.toNatClampNeg) &&& (15 : Int32)) = (11 : Int32)
                            ·
                              refine lv_tableIn (off := 532) (tgt := 564) hx hb d_law_32 (by rw [c85]; decide) (by rw [c85]; decide) (by rw [c85]; rfl) (by decide) ?_
                              refine lv_aload_n hx hb d_law_564 rfl (lv_at hl 1 rfl) ?_
                              refine lv_aload_n hx hb d_law_565 rfl (lv_at hl 0 rfl) ?_
                              refine lv_iload_n hx hb d_law_566 rfl (lv_at hl 3 rfl) ?_
                              refine lv_iconst (v := 1) hx hb d_law_567 (by decide) ?_
                              refine lv_iadd hx hb d_law_568 ?_
                              refine va_sld hx hb hX hbl hbA hS (lw_ix ex3 hjL hL 1 1 rfl (by decide)) d_law_569 ?_
                              refine lv_aload_n hx hb d_law_570 rfl (lv_at hl 0 rfl) ?_
                              refine lv_iload_n hx hb d_law_571 rfl (lv_at hl 3 rfl) ?_
                              refine lv_iconst (v := 2) hx hb d_law_572 (by decide) ?_
                              refine lv_iadd hx hb d_law_573 ?_
                              refine va_sld hx hb hX hbl hbA hS (lw_ix ex3 hjL hL 2 2 rfl (by decide)) d_law_574 ?_
                              refine lv_aload_n hx hb d_law_575 rfl (lv_at hl 0 rfl) ?_
                              refine lv_iload_n hx hb d_law_576 rfl (lv_at hl 3 rfl) ?_
                              refine lv_iconst (v := 3) hx hb d_law_577 (by decide) ?_
                              refine lv_iadd hx hb d_law_578 ?_
                              refine va_sld hx hb hX hbl hbA hS (lw_ix ex3 hjL hL 3 3 rfl (by decide)) d_law_579 ?_
                              refine lv_aload_n hx hb d_law_580 rfl (lv_at hl 0 rfl) ?_
                              refine lv_iload_n hx hb d_law_581 rfl (lv_at hl 3 rfl) ?_
                              refine lv_iconst (v := 4) hx hb d_law_582 (by decide) ?_
                              refine lv_iadd hx hb d_law_583 ?_
                              refine va_sld hx hb hX hbl hbA hS (lw_ix ex3 hjL hL 4 4 rfl (by decide)) d_law_584 ?_
                              obtain ⟨r86, w87, w88, hc89, hc90, hv91⟩ := hI.2.2.2.2.2.2.2.2.2.2.2.1 z1 z2 (xs (x3 + (1 : Int32)).toNatClampNeg) (xs (x3 + (2 : Int32)).toNatClampNeg) (xs (x3 + (3 : Int32)).toNatClampNeg) (xs (x3 + (4 : Int32)).toNatClampNeg) hv
                              refine wy_fl (wx_rV (As := [.int (xs (x3 + (1 : Int32)).toNatClampNeg), .int (xs (x3 + (2 : Int32)).toNatClampNeg), .int (xs (x3 + (3 : Int32)).toNatClampNeg), .int (xs (x3 + (4 : Int32)).toNatClampNeg)]) (rest := []) ⟨hx, hb, hml, hown, ht⟩ (m_S_combined l D cy ad1 _ z1 (xs (x3 + (1 : Int32)).toNatClampNeg) (xs (x3 + (2 : Int32)).toNatClampNeg) (xs (x3 + (3 : Int32)).toNatClampNeg) (xs (x3 + (4 : Int32)).toNatClampNeg) _ _ hc89) ⟨callB_of 4 ht (gt_in (fun _ h9 => h9) kw_497) rfl rfl rfl (ht _ kw_47) (ht _ kw_494) q_S_combined ⟨Nat.le_of_ble_eq_true rfl, Nat.le_of_ble_eq_true rfl⟩, ht _ kw_495, ht _ kw_496⟩ nwC_ok hNC hK hP1 (hD1 _) (by decide) (e_g1_0 cy ad1 _) rfl rfl hl.1 rfl (Nat.le_of_ble_eq_true rfl) d_law_585 ⟨Nat.le_of_ble_eq_true rfl, Nat.le_of_ble_eq_true rfl⟩) (hD1 _) hS hA hP2 hX12 (fun H locs hP1 hP2 hS => ?_)
                              refine lv_aload_n hx hb d_law_588 rfl (lv_at hl 2 rfl) ?_
                              refine lv_aload_n hx hb d_law_589 rfl (lv_at hl 0 rfl) ?_
                              refine lv_iload_n hx hb d_law_590 rfl (lv_at hl 3 rfl) ?_
                              refine lv_iconst (v := 1) hx hb d_law_591 (by decide) ?_
                              refine lv_iadd hx hb d_law_592 ?_
                              refine va_sld hx hb hX hbl hbA hS (lw_ix ex3 hjL hL 1 1 rfl (by decide)) d_law_593 ?_
                              refine lv_aload_n hx hb d_law_594 rfl (lv_at hl 0 rfl) ?_
                              refine lv_iload_n hx hb d_law_595 rfl (lv_at hl 3 rfl) ?_
                              refine lv_iconst (v := 2) hx hb d_law_596 (by decide) ?_
                              refine lv_iadd hx hb d_law_597 ?_
                              refine va_sld hx hb hX hbl hbA hS (lw_ix ex3 hjL hL 2 2 rfl (by decide)) d_law_598 ?_
                              refine lv_aload_n hx hb d_law_599 rfl (lv_at hl 0 rfl) ?_
                              refine lv_iload_n hx hb d_law_600 rfl (lv_at hl 3 rfl) ?_
                              refine lv_iconst (v := 3) hx hb d_law_601 (by decide) ?_
                              refine lv_iadd hx hb d_law_602 ?_
                              refine va_sld hx hb hX hbl hbA hS (lw_ix ex3 hjL hL 3 3 rfl (by decide)) d_law_603 ?_
                              refine lv_aload_n hx hb d_law_604 rfl (lv_at hl 0 rfl) ?_
                              refine lv_iload_n hx hb d_law_605 rfl (lv_at hl 3 rfl) ?_
                              refine lv_iconst (v := 4) hx hb d_law_606 (by decide) ?_
                              refine lv_iadd hx hb d_law_607 ?_
                              refine va_sld hx hb hX hbl hbA hS (lw_ix ex3 hjL hL 4 4 rfl (by decide)) d_law_608 ?_
                              refine wy_fl (wx_rV (As := [.int (xs (x3 + (1 : Int32)).toNatClampNeg), .int (xs (x3 + (2 : Int32)).toNatClampNeg), .int (xs (x3 + (3 : Int32)).toNatClampNeg), .int (xs (x3 + (4 : Int32)).toNatClampNeg)]) (rest := [.long r86]) ⟨hx, hb, hml, hown, ht⟩ (m_M_combined l D cy ad2 _ z2 (xs (x3 + (1 : Int32)).toNatClampNeg) (xs (x3 + (2 : Int32)).toNatClampNeg) (xs (x3 + (3 : Int32)).toNatClampNeg) (xs (x3 + (4 : Int32)).toNatClampNeg) _ _ hc90) ⟨callB_of 4 ht (gt_in (fun _ h9 => h9) kw_699) rfl rfl rfl (ht _ kw_52) (ht _ kw_720) q_M_combined ⟨Nat.le_of_ble_eq_true rfl, Nat.le_of_ble_eq_true rfl⟩, ht _ kw_697, ht _ kw_698⟩ nwM_ok trivial hK hP2 (hD2 _) (by decide) (e_g2_0 cy ad2 _) rfl rfl hl.1 rfl (Nat.le_of_ble_eq_true rfl) d_law_609 ⟨Nat.le_of_ble_eq_true rfl, Nat.le_of_ble_eq_true rfl⟩) (hD2 _) hS hA hP1 (fun i j hi hj e9 => hX12 j i hj hi e9.symm) (fun H locs hP2 hP1 hS => ?_)
                              refine W.lcmp hx hb d_law_612 ?_
                              refine lv_if_eq (tgt := 711) hx hb d_law_613 (by decide) (fun _ => ?_) (fun c9 => absurd (lg_cmp_self _) c9)
                              refine lv_iinc (v := x3 + (5 : Int32)) (lv' := [(3, .int (x3 + (5 : Int32))), (0, .ref b), (1, .ref (ad1 0)), (2, .ref (ad2 0))]) hx hb d_law_711 hl (k := 3) rfl rfl (by decide) rfl (fun ls hl => ?_)
                              refine lv_goto (tgt := 18) hx hb d_law_714 (by decide) ?_
                              exact ih (j + 5) _ _ _ hjL (by omega) (by rw [ex3]; exact nI_add j 5) hv91 _ _ _ hP1 hP2 hS (lv_sub hl [1, 2, 3, 0] rfl)
                            ·
                              by_cases c92 : ((xs x3.toNatClampNeg) &&& (15 : Int32)) = (12 : Int32)
                              ·
                                refine lv_tableIn (off := 586) (tgt := 618) hx hb d_law_32 (by rw [c92]; decide) (by rw [c92]; decide) (by rw [c92]; rfl) (by decide) ?_
                                refine lv_aload_n hx hb d_law_618 rfl (lv_at hl 1 rfl) ?_
                                obtain ⟨r93, w94, w95, hc96, hc97, hv98⟩ := hI.2.2.2.2.2.2.2.2.2.2.2.2.1 z1 z2 hv
                                refine wy_fl (wx_rV (As := []) (rest := []) ⟨hx, hb, hml, hown, ht⟩ (m_S_determinant l D cy ad1 _ z1 _ _ hc96) ⟨callB_of 0 ht (gt_in (fun _ h9 => h9) kw_505) rfl rfl rfl (ht _ kw_47) (ht _ kw_502) q_S_determinant ⟨Nat.le_of_ble_eq_true rfl, Nat.le_of_ble_eq_true rfl⟩, ht _ kw_503, ht _ kw_504⟩ nwC_ok hNC hK hP1 (hD1 _) (by decide) (e_g1_0 cy ad1 _) rfl rfl hl.1 rfl (Nat.le_of_ble_eq_true rfl) d_law_619 ⟨Nat.le_of_ble_eq_true rfl, Nat.le_of_ble_eq_true rfl⟩) (hD1 _) hS hA hP2 hX12 (fun H locs hP1 hP2 hS => ?_)
                                refine lv_aload_n hx hb d_law_622 rfl (lv_at hl 2 rfl) ?_
                                refine wy_fl (wx_rV (As := []) (rest := [.long r93]) ⟨hx, hb, hml, hown, ht⟩ (m_M_determinant l D cy ad2 _ z2 _ _ hc97) ⟨callB_of 0 ht (gt_in (fun _ h9 => h9) kw_715) rfl rfl rfl (ht _ kw_52) (ht _ kw_733) q_M_determinant ⟨Nat.le_of_ble_eq_true rfl, Nat.le_of_ble_eq_true rfl⟩, ht _ kw_713, ht _ kw_714⟩ nwM_ok trivial hK hP2 (hD2 _) (by decide) (e_g2_0 cy ad2 _) rfl rfl hl.1 rfl (Nat.le_of_ble_eq_true rfl) d_law_623 ⟨Nat.le_of_ble_eq_true rfl, Nat.le_of_ble_eq_true rfl⟩) (hD2 _) hS hA hP1 (fun i j hi hj e9 => hX12 j i hj hi e9.symm) (fun H locs hP2 hP1 hS => ?_)
                                refine W.lcmp hx hb d_law_626 ?_
                                refine lv_if_eq (tgt := 711) hx hb d_law_627 (by decide) (fun _ => ?_) (fun c9 => absurd (lg_cmp_self _) c9)
                                refine lv_iinc (v := x3 + (5 : Int32)) (lv' := [(3, .int (x3 + (5 : Int32))), (0, .ref b), (1, .ref (ad1 0)), (2, .ref (ad2 0))]) hx hb d_law_711 hl (k := 3) rfl rfl (by decide) rfl (fun ls hl => ?_)
                                refine lv_goto (tgt := 18) hx hb d_law_714 (by decide) ?_
                                exact ih (j + 5) _ _ _ hjL (by omega) (by rw [ex3]; exact nI_add j 5) hv98 _ _ _ hP1 hP2 hS (lv_sub hl [1, 2, 3, 0] rfl)
                              ·
                                by_cases c99 : ((xs x3.toNatClampNeg) &&& (15 : Int32)) = (13 : Int32)
                                ·
                                  refine lv_tableIn (off := 600) (tgt := 632) hx hb d_law_32 (by rw [c99]; decide) (by rw [c99]; decide) (by rw [c99]; rfl) (by decide) ?_
                                  refine lv_aload_n hx hb d_law_632 rfl (lv_at hl 1 rfl) ?_
                                  refine lv_aload_n hx hb d_law_633 rfl (lv_at hl 0 rfl) ?_
                                  refine lv_iload_n hx hb d_law_634 rfl (lv_at hl 3 rfl) ?_
                                  refine lv_iconst (v := 1) hx hb d_law_635 (by decide) ?_
                                  refine lv_iadd hx hb d_law_636 ?_
                                  refine va_sld hx hb hX hbl hbA hS (lw_ix ex3 hjL hL 1 1 rfl (by decide)) d_law_637 ?_
                                  obtain ⟨r100, w101, w102, hc103, hc104, hv105⟩ := hI.2.2.2.2.2.2.2.2.2.2.2.2.2.1 z1 z2 (xs (x3 + (1 : Int32)).toNatClampNeg) hv
                                  refine wy_fi (wx_rV (As := [.int (xs (x3 + (1 : Int32)).toNatClampNeg)]) (rest := []) ⟨hx, hb, hml, hown, ht⟩ (m_S_order l D cy ad1 _ z1 (xs (x3 + (1 : Int32)).toNatClampNeg) _ _ hc103) ⟨callB_of 1 ht (gt_in (fun _ h9 => h9) kw_509) rfl rfl rfl (ht _ kw_47) (ht _ kw_506) q_S_order ⟨Nat.le_of_ble_eq_true rfl, Nat.le_of_ble_eq_true rfl⟩, ht _ kw_507, ht _ kw_508⟩ nwC_ok hNC hK hP1 (hD1 _) (by decide) (e_g1_0 cy ad1 _) rfl rfl hl.1 rfl (Nat.le_of_ble_eq_true rfl) d_law_638 ⟨Nat.le_of_ble_eq_true rfl, Nat.le_of_ble_eq_true rfl⟩) (hD1 _) hS hA hP2 hX12 (fun H locs hP1 hP2 hS => ?_)
                                  refine lv_aload_n hx hb d_law_641 rfl (lv_at hl 2 rfl) ?_
                                  refine lv_aload_n hx hb d_law_642 rfl (lv_at hl 0 rfl) ?_
                                  refine lv_iload_n hx hb d_law_643 rfl (lv_at hl 3 rfl) ?_
                                  refine lv_iconst (v := 1) hx hb d_law_644 (by decide) ?_
                                  refine lv_iadd hx hb d_law_645 ?_
                                  refine va_sld hx hb hX hbl hbA hS (lw_ix ex3 hjL hL 1 1 rfl (by decide)) d_law_646 ?_
                                  refine wy_fi (wx_rV (As := [.int (xs (x3 + (1 : Int32)).toNatClampNeg)]) (rest := [.int r100]) ⟨hx, hb, hml, hown, ht⟩ (m_M_order l D cy ad2 _ z2 (xs (x3 + (1 : Int32)).toNatClampNeg) _ _ hc104) ⟨callB_of 1 ht (gt_in (fun _ h9 => h9) kw_737) rfl rfl rfl (ht _ kw_52) (ht _ kw_734) q_M_order ⟨Nat.le_of_ble_eq_true rfl, Nat.le_of_ble_eq_true rfl⟩, ht _ kw_735, ht _ kw_736⟩ nwM_ok trivial hK hP2 (hD2 _) (by decide) (e_g2_0 cy ad2 _) rfl rfl hl.1 rfl (Nat.le_of_ble_eq_true rfl) d_law_647 ⟨Nat.le_of_ble_eq_true rfl, Nat.le_of_ble_eq_true rfl⟩) (hD2 _) hS hA hP1 (fun i j hi hj e9 => hX12 j i hj hi e9.symm) (fun H locs hP2 hP1 hS => ?_)
                                  refine lv_icmp_eq (tgt := 711) hx hb d_law_650 (by decide) (fun _ => ?_) (fun c9 => absurd rfl c9)
                                  refine lv_iinc (v := x3 + (5 : Int32)) (lv' := [(3, .int (x3 + (5 : Int32))), (0, .ref b), (1, .ref (ad1 0)), (2, .ref (ad2 0))]) hx hb d_law_711 hl (k := 3) rfl rfl (by decide) rfl (fun ls hl => ?_)
                                  refine lv_goto (tgt := 18) hx hb d_law_714 (by decide) ?_
                                  exact ih (j + 5) _ _ _ hjL (by omega) (by rw [ex3]; exact nI_add j 5) hv105 _ _ _ hP1 hP2 hS (lv_sub hl [1, 2, 3, 0] rfl)
                                ·
                                  by_cases c106 : ((xs x3.toNatClampNeg) &&& (15 : Int32)) = (14 : Int32)
                                  ·
                                    refine lv_tableIn (off := 623) (tgt := 655) hx hb d_law_32 (by rw [c106]; decide) (by rw [c106]; decide) (by rw [c106]; rfl) (by decide) ?_
                                    refine lv_aload_n hx hb d_law_655 rfl (lv_at hl 1 rfl) ?_
                                    refine lv_aload_n hx hb d_law_656 rfl (lv_at hl 0 rfl) ?_
                                    refine lv_iload_n hx hb d_law_657 rfl (lv_at hl 3 rfl) ?_
                                    refine lv_iconst (v := 1) hx hb d_law_658 (by decide) ?_
                                    refine lv_iadd hx hb d_law_659 ?_
                                    refine va_sld hx hb hX hbl hbA hS (lw_ix ex3 hjL hL 1 1 rfl (by decide)) d_law_660 ?_
                                    refine lv_aload_n hx hb d_law_661 rfl (lv_at hl 0 rfl) ?_
                                    refine lv_iload_n hx hb d_law_662 rfl (lv_at hl 3 rfl) ?_
                                    refine lv_iconst (v := 2) hx hb d_law_663 (by decide) ?_
                                    refine lv_iadd hx hb d_law_664 ?_
                                    refine va_sld hx hb hX hbl hbA hS (lw_ix ex3 hjL hL 2 2 rfl (by decide)) d_law_665 ?_
                                    obtain ⟨r107, w108, w109, hc110, hc111, hv112⟩ := hI.2.2.2.2.2.2.2.2.2.2.2.2.2.2.1 z1 z2 (xs (x3 + (1 : Int32)).toNatClampNeg) (xs (x3 + (2 : Int32)).toNatClampNeg) hv
                                    refine wy_fi (wx_rV (As := [.int (xs (x3 + (1 : Int32)).toNatClampNeg), .int (xs (x3 + (2 : Int32)).toNatClampNeg)]) (rest := []) ⟨hx, hb, hml, hown, ht⟩ (m_S_unknown l D cy ad1 _ z1 (xs (x3 + (1 : Int32)).toNatClampNeg) (xs (x3 + (2 : Int32)).toNatClampNeg) _ _ hc110) ⟨callB_of 2 ht (gt_in (fun _ h9 => h9) kw_513) rfl rfl rfl (ht _ kw_47) (ht _ kw_510) q_S_unknown ⟨Nat.le_of_ble_eq_true rfl, Nat.le_of_ble_eq_true rfl⟩, ht _ kw_511, ht _ kw_512⟩ nwC_ok hNC hK hP1 (hD1 _) (by decide) (e_g1_0 cy ad1 _) rfl rfl hl.1 rfl (Nat.le_of_ble_eq_true rfl) d_law_666 ⟨Nat.le_of_ble_eq_true rfl, Nat.le_of_ble_eq_true rfl⟩) (hD1 _) hS hA hP2 hX12 (fun H locs hP1 hP2 hS => ?_)
                                    refine lv_aload_n hx hb d_law_669 rfl (lv_at hl 2 rfl) ?_
                                    refine lv_aload_n hx hb d_law_670 rfl (lv_at hl 0 rfl) ?_
                                    refine lv_iload_n hx hb d_law_671 rfl (lv_at hl 3 rfl) ?_
                                    refine lv_iconst (v := 1) hx hb d_law_672 (by decide) ?_
                                    refine lv_iadd hx hb d_law_673 ?_
                                    refine va_sld hx hb hX hbl hbA hS (lw_ix ex3 hjL hL 1 1 rfl (by decide)) d_law_674 ?_
                                    refine lv_aload_n hx hb d_law_675 rfl (lv_at hl 0 rfl) ?_
                                    refine lv_iload_n hx hb d_law_676 rfl (lv_at hl 3 rfl) ?_
                                    refine lv_iconst (v := 2) hx hb d_law_677 (by decide) ?_
                                    refine lv_iadd hx hb d_law_678 ?_
                                    refine va_sld hx hb hX hbl hbA hS (lw_ix ex3 hjL hL 2 2 rfl (by decide)) d_law_679 ?_
                                    refine wy_fi (wx_rV (As := [.int (xs (x3 + (1 : Int32)).toNatClampNeg), .int (xs (x3 + (2 : Int32)).toNatClampNeg)]) (rest := [.int r107]) ⟨hx, hb, hml, hown, ht⟩ (m_M_unknown l D cy ad2 _ z2 (xs (x3 + (1 : Int32)).toNatClampNeg) (xs (x3 + (2 : Int32)).toNatClampNeg) _ _ hc111) ⟨callB_of 2 ht (gt_in (fun _ h9 => h9) kw_741) rfl rfl rfl (ht _ kw_52) (ht _ kw_738) q_M_unknown ⟨Nat.le_of_ble_eq_true rfl, Nat.le_of_ble_eq_true rfl⟩, ht _ kw_739, ht _ kw_740⟩ nwM_ok trivial hK hP2 (hD2 _) (by decide) (e_g2_0 cy ad2 _) rfl rfl hl.1 rfl (Nat.le_of_ble_eq_true rfl) d_law_680 ⟨Nat.le_of_ble_eq_true rfl, Nat.le_of_ble_eq_true rfl⟩) (hD2 _) hS hA hP1 (fun i j hi hj e9 => hX12 j i hj hi e9.symm) (fun H locs hP2 hP1 hS => ?_)
                                    refine lv_icmp_eq (tgt := 711) hx hb d_law_683 (by decide) (fun _ => ?_) (fun c9 => absurd rfl c9)
                                    refine lv_iinc (v := x3 + (5 : Int32)) (lv' := [(3, .int (x3 + (5 : Int32))), (0, .ref b), (1, .ref (ad1 0)), (2, .ref (ad2 0))]) hx hb d_law_711 hl (k := 3) rfl rfl (by decide) rfl (fun ls hl => ?_)
                                    refine lv_goto (tgt := 18) hx hb d_law_714 (by decide) ?_
                                    exact ih (j + 5) _ _ _ hjL (by omega) (by rw [ex3]; exact nI_add j 5) hv112 _ _ _ hP1 hP2 hS (lv_sub hl [1, 2, 3, 0] rfl)
                                  ·
                                    by_cases c113 : ((xs x3.toNatClampNeg) &&& (15 : Int32)) = (15 : Int32)
                                    ·
                                      refine lv_tableIn (off := 656) (tgt := 688) hx hb d_law_32 (by rw [c113]; decide) (by rw [c113]; decide) (by rw [c113]; rfl) (by decide) ?_
                                      refine lv_aload_n hx hb d_law_688 rfl (lv_at hl 1 rfl) ?_
                                      refine lv_aload_n hx hb d_law_689 rfl (lv_at hl 0 rfl) ?_
                                      refine lv_iload_n hx hb d_law_690 rfl (lv_at hl 3 rfl) ?_
                                      refine lv_iconst (v := 1) hx hb d_law_691 (by decide) ?_
                                      refine lv_iadd hx hb d_law_692 ?_
                                      refine va_sld hx hb hX hbl hbA hS (lw_ix ex3 hjL hL 1 1 rfl (by decide)) d_law_693 ?_
                                      obtain ⟨r114, w115, w116, hc117, hc118, hv119⟩ := hI.2.2.2.2.2.2.2.2.2.2.2.2.2.2.2 z1 z2 (xs (x3 + (1 : Int32)).toNatClampNeg) hv
                                      refine wy_fi (wx_rV (As := [.int (xs (x3 + (1 : Int32)).toNatClampNeg)]) (rest := []) ⟨hx, hb, hml, hown, ht⟩ (m_S_count l D cy ad1 _ z1 (xs (x3 + (1 : Int32)).toNatClampNeg) _ _ hc117) ⟨callB_of 1 ht (gt_in (fun _ h9 => h9) kw_517) rfl rfl rfl (ht _ kw_47) (ht _ kw_514) q_S_count ⟨Nat.le_of_ble_eq_true rfl, Nat.le_of_ble_eq_true rfl⟩, ht _ kw_515, ht _ kw_516⟩ nwC_ok hNC hK hP1 (hD1 _) (by decide) (e_g1_0 cy ad1 _) rfl rfl hl.1 rfl (Nat.le_of_ble_eq_true rfl) d_law_694 ⟨Nat.le_of_ble_eq_true rfl, Nat.le_of_ble_eq_true rfl⟩) (hD1 _) hS hA hP2 hX12 (fun H locs hP1 hP2 hS => ?_)
                                      refine lv_aload_n hx hb d_law_697 rfl (lv_at hl 2 rfl) ?_
                                      refine lv_aload_n hx hb d_law_698 rfl (lv_at hl 0 rfl) ?_
                                      refine lv_iload_n hx hb d_law_699 rfl (lv_at hl 3 rfl) ?_
                                      refine lv_iconst (v := 1) hx hb d_law_700 (by decide) ?_
                                      refine lv_iadd hx hb d_law_701 ?_
                                      refine va_sld hx hb hX hbl hbA hS (lw_ix ex3 hjL hL 1 1 rfl (by decide)) d_law_702 ?_
                                      refine wy_fi (wx_rV (As := [.int (xs (x3 + (1 : Int32)).toNatClampNeg)]) (rest := [.int r114]) ⟨hx, hb, hml, hown, ht⟩ (m_M_count l D cy ad2 _ z2 (xs (x3 + (1 : Int32)).toNatClampNeg) _ _ hc118) ⟨callB_of 1 ht (gt_in (fun _ h9 => h9) kw_745) rfl rfl rfl (ht _ kw_52) (ht _ kw_742) q_M_count ⟨Nat.le_of_ble_eq_true rfl, Nat.le_of_ble_eq_true rfl⟩, ht _ kw_743, ht _ kw_744⟩ nwM_ok trivial hK hP2 (hD2 _) (by decide) (e_g2_0 cy ad2 _) rfl rfl hl.1 rfl (Nat.le_of_ble_eq_true rfl) d_law_703 ⟨Nat.le_of_ble_eq_true rfl, Nat.le_of_ble_eq_true rfl⟩) (hD2 _) hS hA hP1 (fun i j hi hj e9 => hX12 j i hj hi e9.symm) (fun H locs hP2 hP1 hS => ?_)
                                      refine lv_icmp_eq (tgt := 711) hx hb d_law_706 (by decide) (fun _ => ?_) (fun c9 => absurd rfl c9)
                                      refine lv_iinc (v := x3 + (5 : Int32)) (lv' := [(3, .int (x3 + (5 : Int32))), (0, .ref b), (1, .ref (ad1 0)), (2, .ref (ad2 0))]) hx hb d_law_711 hl (k := 3) rfl rfl (by decide) rfl (fun ls hl => ?_)
                                      refine lv_goto (tgt := 18) hx hb d_law_714 (by decide) ?_
                                      exact ih (j + 5) _ _ _ hjL (by omega) (by rw [ex3]; exact nI_add j 5) hv119 _ _ _ hP1 hP2 hS (lv_sub hl [1, 2, 3, 0] rfl)
                                    ·
                                      have tc1 : ¬ (((xs x3.toNatClampNeg) &&& (15 : Int32))).toInt = 0 := lv_neT c1 (by decide)
                                      have tc8 : ¬ (((xs x3.toNatClampNeg) &&& (15 : Int32))).toInt = 1 := lv_neT c8 (by decide)
                                      have tc15 : ¬ (((xs x3.toNatClampNeg) &&& (15 : Int32))).toInt = 2 := lv_neT c15 (by decide)
                                      have tc22 : ¬ (((xs x3.toNatClampNeg) &&& (15 : Int32))).toInt = 3 := lv_neT c22 (by decide)
                                      have tc36 : ¬ (((xs x3.toNatClampNeg) &&& (15 : Int32))).toInt = 4 := lv_neT c36 (by decide)
                                      have tc43 : ¬ (((xs x3.toNatClampNeg) &&& (15 : Int32))).toInt = 5 := lv_neT c43 (by decide)
                                      have tc50 : ¬ (((xs x3.toNatClampNeg) &&& (15 : Int32))).toInt = 6 := lv_neT c50 (by decide)
                                      have tc57 : ¬ (((xs x3.toNatClampNeg) &&& (15 : Int32))).toInt = 7 := lv_neT c57 (by decide)
                                      have tc64 : ¬ (((xs x3.toNatClampNeg) &&& (15 : Int32))).toInt = 8 := lv_neT c64 (by decide)
                                      have tc71 : ¬ (((xs x3.toNatClampNeg) &&& (15 : Int32))).toInt = 9 := lv_neT c71 (by decide)
                                      have tc78 : ¬ (((xs x3.toNatClampNeg) &&& (15 : Int32))).toInt = 10 := lv_neT c78 (by decide)
                                      have tc85 : ¬ (((xs x3.toNatClampNeg) &&& (15 : Int32))).toInt = 11 := lv_neT c85 (by decide)
                                      have tc92 : ¬ (((xs x3.toNatClampNeg) &&& (15 : Int32))).toInt = 12 := lv_neT c92 (by decide)
                                      have tc99 : ¬ (((xs x3.toNatClampNeg) &&& (15 : Int32))).toInt = 13 := lv_neT c99 (by decide)
                                      have tc106 : ¬ (((xs x3.toNatClampNeg) &&& (15 : Int32))).toInt = 14 := lv_neT c106 (by decide)
                                      have tc113 : ¬ (((xs x3.toNatClampNeg) &&& (15 : Int32))).toInt = 15 := lv_neT c113 (by decide)
                                      refine lv_tableOut (tgt := 711) hx hb d_law_32 (by omega) (by decide) ?_
                                      refine lv_iinc (v := x3 + (5 : Int32)) (lv' := [(3, .int (x3 + (5 : Int32))), (0, .ref b), (1, .ref (ad1 0)), (2, .ref (ad2 0))]) hx hb d_law_711 hl (k := 3) rfl rfl (by decide) rfl (fun ls hl => ?_)
                                      refine lv_goto (tgt := 18) hx hb d_law_714 (by decide) ?_
                                      exact ih (j + 5) _ _ _ hjL (by omega) (by rw [ex3]; exact nI_add j 5) hv _ _ _ hP1 hP2 hS (lv_sub hl [1, 2, 3, 0] rfl)
