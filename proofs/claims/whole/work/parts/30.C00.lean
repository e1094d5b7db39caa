def f_S_isNode (z0 : gS) (p0 : Int32) : Option (Int32 × gS) :=
 if p0 < 0 then (some ((0 : Int32), z0))
 else (if (5 : Int32) ≤ p0 then (some ((0 : Int32), z0))
 else (some ((1 : Int32), z0)))
set_option maxHeartbeats 4000000 in
set_option maxRecDepth 100000 in
theorem m_S_isNode (l : Launch) (D : va_G) (cy : Nat → ClassId) (ad : Nat → Nat) (sz : Nat) (z0 : gS) (p0 : Int32) (r : Int32) (zz : gS) (hf : f_S_isNode z0 p0 = some (r, zz)) : Met l y_S_isNode (Cond.code y_S_isNode c_S_isNode 1 (some .boolean) :: gt_ws) ({ frames := 0, cells := 0, slots := 0, locals := 0 }) (sPc D cl_all (gTy cy) nwC 52 ad (g1 cy ad z0) sz [.int p0]) (sQi D cl_all 52 ad (g1 cy ad z0) sz r (g1 cy ad zz)) 0 0 (va_A (wl 52 ad (g1 cy ad z0)) sz) := by
  refine Met.ofW (cc := c_S_isNode) (maxL := 1) (ret := (some .boolean)) (by decide) rfl ?_
  intro p e s m args below meth c s₁ B hml hv
  obtain ⟨rfl, hsz, hP, hK, hN, hD0⟩ := hv
  have hx := B.exec
  have hb := B.bytes
  have hr := B.returns
  have hts := atoms_spec (ws := (Cond.code y_S_isNode c_S_isNode 1 (some .boolean) :: gt_ws)) B.pre
  have ht : ∀ w ∈ gt_ws, w.before _ s = true := fun w h => hts w (List.mem_cons_of_mem _ h)
  have hown : s.vm.findClass RQ_S = some m.cls := findClass_of_methodNamed B.named
  have hlocks := B.notSynchronized
  subst hsz
  have hD1 := hD0.self (sz := s.heap.size)
  obtain ⟨A, hAe⟩ : ∃ A, A = va_A (wl 52 ad (g1 cy ad z0)) s.heap.size := ⟨_, rfl⟩
  rw [← hAe] at hD1
  have hD : ∀ g, va_D A (wl 52 ad g) := fun _ => wl_D hD1
  have hA : ∀ q : Nat, s.heap.size ≤ q → A q := fun q h => by rw [hAe]; exact Or.inr h
  have hS : va_S A s.heap s.heap [] := va_S.rf
  have hl := lv_entry ([.int p0]) (n := 1) (Nat.le_of_ble_eq_true rfl)
  rw [lg_entry_eq]
  generalize (lg_sl ([.int p0]) ++ List.replicate (1 - (lg_sl ([.int p0])).length) Slot.unset).toArray = ls at hl ⊢
  have hl : lv_has ls 1 [(0, .int p0)] := hl
  unfold f_S_isNode at hf
  refine lv_iload_n hx hb d_S_isNode_0 rfl (lv_at hl 0 rfl) ?_
  refine lv_if_lt (tgt := 13) hx hb d_S_isNode_1 (by decide) (fun c1 => ?_) (fun c1 => ?_)
  ·
    have hf := op_pos hf c1
    refine lv_iconst (v := 0) hx hb d_S_isNode_13 (by decide) ?_
    obtain ⟨hv9, rfl⟩ := op_inj hf
    exact wx_zret hx hb hr hlocks (by first | decide | rfl) hAe hP hS hv9 d_S_isNode_14
  ·
    have hf := op_neg hf c1
    refine lv_iload_n hx hb d_S_isNode_4 rfl (lv_at hl 0 rfl) ?_
    refine lv_iconst (v := 5) hx hb d_S_isNode_5 (by decide) ?_
    refine lv_icmp_ge (tgt := 13) hx hb d_S_isNode_6 (by decide) (fun c2 => ?_) (fun c2 => ?_)
    ·
      have hf := op_pos hf c2
      refine lv_iconst (v := 0) hx hb d_S_isNode_13 (by decide) ?_
      obtain ⟨hv9, rfl⟩ := op_inj hf
      exact wx_zret hx hb hr hlocks (by first | decide | rfl) hAe hP hS hv9 d_S_isNode_14
    ·
      have hf := op_neg hf c2
      refine lv_iconst (v := 1) hx hb d_S_isNode_9 (by decide) ?_
      refine lv_goto (tgt := 14) hx hb d_S_isNode_10 (by decide) ?_
      obtain ⟨hv9, rfl⟩ := op_inj hf
      exact wx_zret hx hb hr hlocks (by first | decide | rfl) hAe hP hS hv9 d_S_isNode_14

def f_S_isOnGrid (z0 : gS) (p0 : Int32) : Option (Int32 × gS) :=
 if p0 < 0 then (some ((0 : Int32), z0))
 else (if (5 : Int32) ≤ p0 then (some ((0 : Int32), z0))
 else (some ((1 : Int32), z0)))
set_option maxHeartbeats 4000000 in
set_option maxRecDepth 100000 in
theorem m_S_isOnGrid (l : Launch) (D : va_G) (cy : Nat → ClassId) (ad : Nat → Nat) (sz : Nat) (z0 : gS) (p0 : Int32) (r : Int32) (zz : gS) (hf : f_S_isOnGrid z0 p0 = some (r, zz)) : Met l y_S_isOnGrid (Cond.code y_S_isOnGrid c_S_isOnGrid 1 (some .boolean) :: gt_ws) ({ frames := 0, cells := 0, slots := 0, locals := 0 }) (sPc D cl_all (gTy cy) nwC 52 ad (g1 cy ad z0) sz [.int p0]) (sQi D cl_all 52 ad (g1 cy ad z0) sz r (g1 cy ad zz)) 0 0 (va_A (wl 52 ad (g1 cy ad z0)) sz) := by
  refine Met.ofW (cc := c_S_isOnGrid) (maxL := 1) (ret := (some .boolean)) (by decide) rfl ?_
  intro p e s m args below meth c s₁ B hml hv
  obtain ⟨rfl, hsz, hP, hK, hN, hD0⟩ := hv
  have hx := B.exec
  have hb := B.bytes
  have hr := B.returns
  have hts := atoms_spec (ws := (Cond.code y_S_isOnGrid c_S_isOnGrid 1 (some .boolean) :: gt_ws)) B.pre
  have ht : ∀ w ∈ gt_ws, w.before _ s = true := fun w h => hts w (List.mem_cons_of_mem _ h)
  have hown : s.vm.findClass RQ_S = some m.cls := findClass_of_methodNamed B.named
  have hlocks := B.notSynchronized
  subst hsz
  have hD1 := hD0.self (sz := s.heap.size)
  obtain ⟨A, hAe⟩ : ∃ A, A = va_A (wl 52 ad (g1 cy ad z0)) s.heap.size := ⟨_, rfl⟩
  rw [← hAe] at hD1
  have hD : ∀ g, va_D A (wl 52 ad g) := fun _ => wl_D hD1
  have hA : ∀ q : Nat, s.heap.size ≤ q → A q := fun q h => by rw [hAe]; exact Or.inr h
  have hS : va_S A s.heap s.heap [] := va_S.rf
  have hl := lv_entry ([.int p0]) (n := 1) (Nat.le_of_ble_eq_true rfl)
  rw [lg_entry_eq]
  generalize (lg_sl ([.int p0]) ++ List.replicate (1 - (lg_sl ([.int p0])).length) Slot.unset).toArray = ls at hl ⊢
  have hl : lv_has ls 1 [(0, .int p0)] := hl
  unfold f_S_isOnGrid at hf
  refine lv_iload_n hx hb d_S_isOnGrid_0 rfl (lv_at hl 0 rfl) ?_
  refine lv_if_lt (tgt := 13) hx hb d_S_isOnGrid_1 (by decide) (fun c1 => ?_) (fun c1 => ?_)
  ·
    have hf := op_pos hf c1
    refine lv_iconst (v := 0) hx hb d_S_isOnGrid_13 (by decide) ?_
    obtain ⟨hv9, rfl⟩ := op_inj hf
    exact wx_zret hx hb hr hlocks (by first | decide | rfl) hAe hP hS hv9 d_S_isOnGrid_14
  ·
    have hf := op_neg hf c1
    refine lv_iload_n hx hb d_S_isOnGrid_4 rfl (lv_at hl 0 rfl) ?_
    refine lv_iconst (v := 5) hx hb d_S_isOnGrid_5 (by decide) ?_
    refine lv_icmp_ge (tgt := 13) hx hb d_S_isOnGrid_6 (by decide) (fun c2 => ?_) (fun c2 => ?_)
    ·
      have hf := op_pos hf c2
      refine lv_iconst (v := 0) hx hb d_S_isOnGrid_13 (by decide) ?_
      obtain ⟨hv9, rfl⟩ := op_inj hf
      exact wx_zret hx hb hr hlocks (by first | decide | rfl) hAe hP hS hv9 d_S_isOnGrid_14
    ·
      have hf := op_neg hf c2
      refine lv_iconst (v := 1) hx hb d_S_isOnGrid_9 (by decide) ?_
      refine lv_goto (tgt := 14) hx hb d_S_isOnGrid_10 (by decide) ?_
      obtain ⟨hv9, rfl⟩ := op_inj hf
      exact wx_zret hx hb hr hlocks (by first | decide | rfl) hAe hP hS hv9 d_S_isOnGrid_14

def f_T_isThere (z0 : gS) (p1 : Int32) : Option (Int32 × gS) :=
 if (((z0.1 1) >>> (p1 &&& 31)) &&& (1 : Int32)) = 0 then (some ((0 : Int32), z0))
 else (some ((1 : Int32), z0))
set_option maxHeartbeats 4000000 in
set_option maxRecDepth 100000 in
theorem m_T_isThere (l : Launch) (D : va_G) (cy : Nat → ClassId) (ad : Nat → Nat) (sz : Nat) (z0 : gS) (p1 : Int32) (r : Int32) (zz : gS) (hf : f_T_isThere z0 p1 = some (r, zz)) : Met l y_T_isThere (Cond.code y_T_isThere c_T_isThere 2 (some .boolean) :: gt_ws) ({ frames := 0, cells := 0, slots := 0, locals := 0 }) (sPc D cl_all (gTy cy) nwC 52 ad (g1 cy ad z0) sz [.ref (ad 1), .int p1]) (sQi D cl_all 52 ad (g1 cy ad z0) sz r (g1 cy ad zz)) 0 0 (va_A (wl 52 ad (g1 cy ad z0)) sz) := by
  refine Met.ofW (cc := c_T_isThere) (maxL := 2) (ret := (some .boolean)) (by decide) rfl ?_
  intro p e s m args below meth c s₁ B hml hv
  obtain ⟨rfl, hsz, hP, hK, hN, hD0⟩ := hv
  have hx := B.exec
  have hb := B.bytes
  have hr := B.returns
  have hts := atoms_spec (ws := (Cond.code y_T_isThere c_T_isThere 2 (some .boolean) :: gt_ws)) B.pre
  have ht : ∀ w ∈ gt_ws, w.before _ s = true := fun w h => hts w (List.mem_cons_of_mem _ h)
  have hown : s.vm.findClass RQ_T = some m.cls := findClass_of_methodNamed B.named
  have hlocks := B.notSynchronized
  subst hsz
  have hD1 := hD0.self (sz := s.heap.size)
  obtain ⟨A, hAe⟩ : ∃ A, A = va_A (wl 52 ad (g1 cy ad z0)) s.heap.size := ⟨_, rfl⟩
  rw [← hAe] at hD1
  have hD : ∀ g, va_D A (wl 52 ad g) := fun _ => wl_D hD1
  have hA : ∀ q : Nat, s.heap.size ≤ q → A q := fun q h => by rw [hAe]; exact Or.inr h
  have hS : va_S A s.heap s.heap [] := va_S.rf
  have hl := lv_entry ([.ref (ad 1), .int p1]) (n := 2) (Nat.le_of_ble_eq_true rfl)
  rw [lg_entry_eq]
  generalize (lg_sl ([.ref (ad 1), .int p1]) ++ List.replicate (2 - (lg_sl ([.ref (ad 1), .int p1])).length) Slot.unset).toArray = ls at hl ⊢
  have hl : lv_has ls 2 [(0, .ref (ad 1)), (1, .int p1)] := hl
  unfold f_T_isThere at hf
  refine lv_aload_n hx hb d_T_isThere_0 rfl (lv_at hl 0 rfl) ?_
  refine wx_get (v := .int (z0.1 1)) (C := RQ_T) (T := FQ_T) (N := 10) hx hb ht IQ_T hown hK hP 1 (by decide) (e_g1_1 cy ad _) rfl 0 (by decide) (ht _ kw_73) (fun _ h9 => h9) rfl d_T_isThere_1 ?_
  refine lv_iload_n hx hb d_T_isThere_4 rfl (lv_at hl 1 rfl) ?_
  refine lv_ishr hx hb d_T_isThere_5 ?_
  refine lv_iconst (v := 1) hx hb d_T_isThere_6 (by decide) ?_
  refine lv_iand hx hb d_T_isThere_7 ?_
  refine lv_if_eq (tgt := 15) hx hb d_T_isThere_8 (by decide) (fun c1 => ?_) (fun c1 => ?_)
  ·
    have hf := op_pos hf c1
    refine lv_iconst (v := 0) hx hb d_T_isThere_15 (by decide) ?_
    obtain ⟨hv9, rfl⟩ := op_inj hf
    exact wx_zret hx hb hr hlocks (by first | decide | rfl) hAe hP hS hv9 d_T_isThere_16
  ·
    have hf := op_neg hf c1
    refine lv_iconst (v := 1) hx hb d_T_isThere_11 (by decide) ?_
    refine lv_goto (tgt := 16) hx hb d_T_isThere_12 (by decide) ?_
    obtain ⟨hv9, rfl⟩ := op_inj hf
    exact wx_zret hx hb hr hlocks (by first | decide | rfl) hAe hP hS hv9 d_T_isThere_16

def f_S_slotOf (z0 : gS) (p0 : Int32) (p1 : Int32) : Option (Int32 × gS) :=
 some (((p0 * (2 : Int32)) + p1), z0)
set_option maxHeartbeats 4000000 in
set_option maxRecDepth 100000 in
theorem m_S_slotOf (l : Launch) (D : va_G) (cy : Nat → ClassId) (ad : Nat → Nat) (sz : Nat) (z0 : gS) (p0 : Int32) (p1 : Int32) (r : Int32) (zz : gS) (hf : f_S_slotOf z0 p0 p1 = some (r, zz)) : Met l y_S_slotOf (Cond.code y_S_slotOf c_S_slotOf 2 (some .int) :: gt_ws) ({ frames := 0, cells := 0, slots := 0, locals := 0 }) (sPc D cl_all (gTy cy) nwC 52 ad (g1 cy ad z0) sz [.int p0, .int p1]) (sQi D cl_all 52 ad (g1 cy ad z0) sz r (g1 cy ad zz)) 0 0 (va_A (wl 52 ad (g1 cy ad z0)) sz) := by
  refine Met.ofW (cc := c_S_slotOf) (maxL := 2) (ret := (some .int)) (by decide) rfl ?_
  intro p e s m args below meth c s₁ B hml hv
  obtain ⟨rfl, hsz, hP, hK, hN, hD0⟩ := hv
  have hx := B.exec
  have hb := B.bytes
  have hr := B.returns
  have hts := atoms_spec (ws := (Cond.code y_S_slotOf c_S_slotOf 2 (some .int) :: gt_ws)) B.pre
  have ht : ∀ w ∈ gt_ws, w.before _ s = true := fun w h => hts w (List.mem_cons_of_mem _ h)
  have hown : s.vm.findClass RQ_S = some m.cls := findClass_of_methodNamed B.named
  have hlocks := B.notSynchronized
  subst hsz
  have hD1 := hD0.self (sz := s.heap.size)
  obtain ⟨A, hAe⟩ : ∃ A, A = va_A (wl 52 ad (g1 cy ad z0)) s.heap.size := ⟨_, rfl⟩
  rw [← hAe] at hD1
  have hD : ∀ g, va_D A (wl 52 ad g) := fun _ => wl_D hD1
  have hA : ∀ q : Nat, s.heap.size ≤ q → A q := fun q h => by rw [hAe]; exact Or.inr h
  have hS : va_S A s.heap s.heap [] := va_S.rf
  have hl := lv_entry ([.int p0, .int p1]) (n := 2) (Nat.le_of_ble_eq_true rfl)
  rw [lg_entry_eq]
  generalize (lg_sl ([.int p0, .int p1]) ++ List.replicate (2 - (lg_sl ([.int p0, .int p1])).length) Slot.unset).toArray = ls at hl ⊢
  have hl : lv_has ls 2 [(0, .int p0), (1, .int p1)] := hl
  unfold f_S_slotOf at hf
  refine lv_iload_n hx hb d_S_slotOf_0 rfl (lv_at hl 0 rfl) ?_
  refine lv_iconst (v := 2) hx hb d_S_slotOf_1 (by decide) ?_
  refine lv_imul hx hb d_S_slotOf_2 ?_
  refine lv_iload_n hx hb d_S_slotOf_3 rfl (lv_at hl 1 rfl) ?_
  refine lv_iadd hx hb d_S_slotOf_4 ?_
  obtain ⟨hv9, rfl⟩ := op_inj hf
  exact wx_iret hx hb hr hlocks hAe hP hS hv9 d_S_slotOf_5

def l_T_hasOtherAt_3 : Nat → gS → Int32 → Int32 → Int32 → Int32 → Option (Nat × gS)
  | 0, _, _, _, _, _ => none
  | n + 1, z, x1, x2, x3, x4 =>
    if (5 : Int32) ≤ x4 then (some (1, z))
     else (if x4 = x1 then (l_T_hasOtherAt_3 n z x1 x2 x3 (x4 + (1 : Int32)))
     else (bd2 (f_T_isThere z x4) (fun r5 w4 =>
     if r5 = 0 then (l_T_hasOtherAt_3 n w4 x1 x2 x3 (x4 + (1 : Int32)))
     else (bd2 (f_S_slotOf w4 x4 (0 : Int32)) (fun r9 w8 =>
     if r9 < 0 ∨ 10 ≤ r9.toNatClampNeg then none else
     if (w8.2.2.1 5 r9.toNatClampNeg) = x2 then (bd2 (f_S_slotOf w8 x4 (1 : Int32)) (fun r14 w13 =>
     if r14 < 0 ∨ 10 ≤ r14.toNatClampNeg then none else
     if (w13.2.2.1 5 r14.toNatClampNeg) = x3 then (some (0, w13))
     else (l_T_hasOtherAt_3 n w13 x1 x2 x3 (x4 + (1 : Int32)))))
     else (l_T_hasOtherAt_3 n w8 x1 x2 x3 (x4 + (1 : Int32))))))))
def f_T_hasOtherAt (z0 : gS) (p1 : Int32) (p2 : Int32) (p3 : Int32) : Option (Int32 × gS) :=
 bd2 (l_T_hasOtherAt_3 200 z0 p1 p2 p3 (0 : Int32)) (fun e17 w18 =>
 if e17 = 0 then (some ((1 : Int32), w18))
 else (some ((0 : Int32), w18)))
set_option maxHeartbeats 4000000 in
set_option maxRecDepth 100000 in
theorem m_T_hasOtherAt (l : Launch) (D : va_G) (cy : Nat → ClassId) (ad : Nat → Nat) (sz : Nat) (z0 : gS) (p1 : Int32) (p2 : Int32) (p3 : Int32) (r : Int32) (zz : gS) (hf : f_T_hasOtherAt z0 p1 p2 p3 = some (r, zz)) : Met l y_T_hasOtherAt (Cond.code y_T_hasOtherAt c_T_hasOtherAt 5 (some .boolean) :: gt_ws) ({ frames := 1, cells := 0, slots := 0, locals := 45 }) (sPc D cl_all (gTy cy) nwC 52 ad (g1 cy ad z0) sz [.ref (ad 1), .int p1, .int p2, .int p3]) (sQi D cl_all 52 ad (g1 cy ad z0) sz r (g1 cy ad zz)) 0 0 (va_A (wl 52 ad (g1 cy ad z0)) sz) := by
  refine Met.ofW (cc := c_T_hasOtherAt) (maxL := 5) (ret := (some .boolean)) (by decide) rfl ?_
  intro p e s m args below meth c s₁ B hml hv
  obtain ⟨rfl, hsz, hP, hK, hN, hD0⟩ := hv
  have hx := B.exec
  have hb := B.bytes
  have hr := B.returns
  have hts := atoms_spec (ws := (Cond.code y_T_hasOtherAt c_T_hasOtherAt 5 (some .boolean) :: gt_ws)) B.pre
  have ht : ∀ w ∈ gt_ws, w.before _ s = true := fun w h => hts w (List.mem_cons_of_mem _ h)
  have hown : s.vm.findClass RQ_T = some m.cls := findClass_of_methodNamed B.named
  have hlocks := B.notSynchronized
  subst hsz
  have hD1 := hD0.self (sz := s.heap.size)
  obtain ⟨A, hAe⟩ : ∃ A, A = va_A (wl 52 ad (g1 cy ad z0)) s.heap.size := ⟨_, rfl⟩
  rw [← hAe] at hD1
  have hD : ∀ g, va_D A (wl 52 ad g) := fun _ => wl_D hD1
  have hA : ∀ q : Nat, s.heap.size ≤ q → A q := fun q h => by rw [hAe]; exact Or.inr h
  have hS : va_S A s.heap s.heap [] := va_S.rf
  have hl := lv_entry ([.ref (ad 1), .int p1, .int p2, .int p3]) (n := 5) (Nat.le_of_ble_eq_true rfl)
  rw [lg_entry_eq]
  generalize (lg_sl ([.ref (ad 1), .int p1, .int p2, .int p3]) ++ List.replicate (5 - (lg_sl ([.ref (ad 1), .int p1, .int p2, .int p3])).length) Slot.unset).toArray = ls at hl ⊢
  have hl : lv_has ls 5 [(0, .ref (ad 1)), (1, .int p1), (2, .int p2), (3, .int p3)] := hl
  have L_3 : ∀ (n : Nat) (z : gS) (x1 : Int32) (x2 : Int32) (x3 : Int32) (x4 : Int32) (ee : Nat) (z9 : gS), l_T_hasOtherAt_3 n z x1 x2 x3 x4 = some (ee, z9) → ∀ (H : Heap) (locs : List Loc) (ls : Array Slot), va_P D cl_all (wl 52 ad (g1 cy ad z)) H → va_S A s.heap H locs → lv_has ls 5 [(0, .ref (ad 1)), (1, .int x1), (2, .int x2), (3, .int x3), (4, .int x4)] →
      (ee = 0 → ∀ (H : Heap) (locs : List Loc) (ls : Array Slot), va_P D cl_all (wl 52 ad (g1 cy ad z9)) H → va_S A s.heap H locs → lv_has ls 5 [] → W p l e (headSpec (Cond.code y_T_hasOtherAt c_T_hasOtherAt 5 (some .boolean) :: gt_ws) ({ frames := 1, cells := 0, slots := 0, locals := 45 })).room s m ([.ref (ad 1), .int p1, .int p2, .int p3]).toArray below meth c H locs 0 0 (MQ below (sQi D cl_all 52 ad (g1 cy ad z0) s.heap.size r (g1 cy ad zz)) ([.ref (ad 1), .int p1, .int p2, .int p3]).toArray s 0 0 (va_A (wl 52 ad (g1 cy ad z0)) s.heap.size)) (F0 m 54 ls [])) →
      (ee = 1 → ∀ (H : Heap) (locs : List Loc) (ls : Array Slot), va_P D cl_all (wl 52 ad (g1 cy ad z9)) H → va_S A s.heap H locs → lv_has ls 5 [] → W p l e (headSpec (Cond.code y_T_hasOtherAt c_T_hasOtherAt 5 (some .boolean) :: gt_ws) ({ frames := 1, cells := 0, slots := 0, locals := 45 })).room s m ([.ref (ad 1), .int p1, .int p2, .int p3]).toArray below meth c H locs 0 0 (MQ below (sQi D cl_all 52 ad (g1 cy ad z0) s.heap.size r (g1 cy ad zz)) ([.ref (ad 1), .int p1, .int p2, .int p3]).toArray s 0 0 (va_A (wl 52 ad (g1 cy ad z0)) s.heap.size)) (F0 m 62 ls [])) →
      W p l e (headSpec (Cond.code y_T_hasOtherAt c_T_hasOtherAt 5 (some .boolean) :: gt_ws) ({ frames := 1, cells := 0, slots := 0, locals := 45 })).room s m ([.ref (ad 1), .int p1, .int p2, .int p3]).toArray below meth c H locs 0 0 (MQ below (sQi D cl_all 52 ad (g1 cy ad z0) s.heap.size r (g1 cy ad zz)) ([.ref (ad 1), .int p1, .int p2, .int p3]).toArray s 0 0 (va_A (wl 52 ad (g1 cy ad z0)) s.heap.size)) (F0 m 3 ls []) := by
    intro n
    induction n with
    | zero => intro z x1 x2 x3 x4 ee z9 hf; rw [l_T_hasOtherAt_3] at hf; cases hf
    | succ n ih =>
      intro z x1 x2 x3 x4 ee z9 hf H locs ls hP hS hl k_0 k_1
      rw [l_T_hasOtherAt_3] at hf
      refine lv_iload hx hb d_T_hasOtherAt_3 (lv_at hl 4 rfl) ?_
      refine lv_iconst (v := 5) hx hb d_T_hasOtherAt_5 (by decide) ?_
      refine lv_icmp_ge (tgt := 62) hx hb d_T_hasOtherAt_6 (by decide) (fun c1 => ?_) (fun c1 => ?_)
      ·
        have hf := op_pos hf c1
        cases hf
        exact k_1 rfl _ _ _ hP hS (lv_sub hl [] rfl)
      ·
        have hf := op_neg hf c1
        refine lv_iload hx hb d_T_hasOtherAt_9 (lv_at hl 4 rfl) ?_
        refine lv_iload_n hx hb d_T_hasOtherAt_11 rfl (lv_at hl 1 rfl) ?_
        refine lv_icmp_eq (tgt := 56) hx hb d_T_hasOtherAt_12 (by decide) (fun c2 => ?_) (fun c2 => ?_)
        ·
          have hf := op_pos hf c2
          refine lv_iinc (v := x4 + (1 : Int32)) (lv' := [(4, .int (x4 + (1 : Int32))), (0, .ref (ad 1)), (1, .int x1), (2, .int x2), (3, .int x3)]) hx hb d_T_hasOtherAt_56 hl (k := 4) rfl rfl (by decide) rfl (fun ls hl => ?_)
          refine lv_goto (tgt := 3) hx hb d_T_hasOtherAt_59 (by decide) ?_
          exact ih _ _ _ _ _ _ _ hf _ _ _ hP hS (lv_sub hl [1, 2, 3, 4, 0] rfl) k_0 k_1
        ·
          have hf := op_neg hf c2
          refine lv_aload_n hx hb d_T_hasOtherAt_15 rfl (lv_at hl 0 rfl) ?_
          refine lv_iload hx hb d_T_hasOtherAt_16 (lv_at hl 4 rfl) ?_
          obtain ⟨r5, w4, hc3, hf⟩ := op_b2 hf
          refine wx_fi (wx_rV (As := [.int x4]) (rest := []) ⟨hx, hb, hml, hown, ht⟩ (m_T_isThere l D cy ad _ z x4 _ _ hc3) ⟨callB_of 1 ht (gt_in (fun _ h9 => h9) kw_250) rfl rfl rfl (ht _ kw_48) (ht _ kw_247) q_T_isThere ⟨Nat.le_of_ble_eq_true rfl, Nat.le_of_ble_eq_true rfl⟩, ht _ kw_248, ht _ kw_249⟩ nwC_ok hN hK hP (hD _) (by decide) (e_g1_1 cy ad _) rfl rfl hl.1 rfl (Nat.le_of_ble_eq_true rfl) d_T_hasOtherAt_18 ⟨Nat.zero_le _, Nat.zero_le _⟩) (hD _) hS hA (fun H locs hP hS => ?_)
          refine lv_if_eq (tgt := 56) hx hb d_T_hasOtherAt_21 (by decide) (fun c6 => ?_) (fun c6 => ?_)
          ·
            have hf := op_pos hf c6
            refine lv_iinc (v := x4 + (1 : Int32)) (lv' := [(4, .int (x4 + (1 : Int32))), (0, .ref (ad 1)), (1, .int x1), (2, .int x2), (3, .int x3)]) hx hb d_T_hasOtherAt_56 hl (k := 4) rfl rfl (by decide) rfl (fun ls hl => ?_)
            refine lv_goto (tgt := 3) hx hb d_T_hasOtherAt_59 (by decide) ?_
            exact ih _ _ _ _ _ _ _ hf _ _ _ hP hS (lv_sub hl [1, 2, 3, 4, 0] rfl) k_0 k_1
          ·
            have hf := op_neg hf c6
            refine lv_aload_n hx hb d_T_hasOtherAt_24 rfl (lv_at hl 0 rfl) ?_
            refine wx_get (v := .ref (ad 5)) (C := RQ_T) (T := FQ_T) (N := 10) hx hb ht IQ_T hown hK hP 1 (by decide) (e_g1_1 cy ad _) rfl 1 (by decide) (ht _ kw_75) (fun _ h9 => h9) rfl d_T_hasOtherAt_25 ?_
            refine lv_iload hx hb d_T_hasOtherAt_28 (lv_at hl 4 rfl) ?_
            refine lv_iconst (v := 0) hx hb d_T_hasOtherAt_30 (by decide) ?_
            obtain ⟨r9, w8, hc7, hf⟩ := op_b2 hf
            refine wx_fi (wx_rSN (As := [.int x4, .int (0 : Int32)]) (rest := [.ref (ad 5)]) ⟨hx, hb, hml, hown, ht⟩ (m_S_slotOf l D cy ad _ w4 x4 (0 : Int32) _ _ hc7) ⟨va_cnB 2 ht (gt_in (fun _ h9 => h9) kw_253) rfl rfl rfl hN.1 (ht _ kw_47) q_S_slotOf ⟨Nat.le_of_ble_eq_true rfl, Nat.le_of_ble_eq_true rfl⟩, ht _ kw_252, trivial⟩ nwC_ok hN hK hP (hD _) rfl hl.1 rfl (Nat.le_of_ble_eq_true rfl) d_T_hasOtherAt_31 ⟨Nat.zero_le _, Nat.zero_le _⟩) (hD _) hS hA (fun H locs hP hS => ?_)
            obtain ⟨h10, hf⟩ := op_chk hf
            refine wx_iald hx hb hK hP 5 (by decide) (by decide) 10 rfl h10 d_T_hasOtherAt_34 ?_
            refine lv_iload_n hx hb d_T_hasOtherAt_35 rfl (lv_at hl 2 rfl) ?_
            refine lv_icmp_ne (tgt := 56) hx hb d_T_hasOtherAt_36 (by decide) (fun c11 => ?_) (fun c11 => ?_)
            ·
              have hf := op_neg hf c11
              refine lv_iinc (v := x4 + (1 : Int32)) (lv' := [(4, .int (x4 + (1 : Int32))), (0, .ref (ad 1)), (1, .int x1), (2, .int x2), (3, .int x3)]) hx hb d_T_hasOtherAt_56 hl (k := 4) rfl rfl (by decide) rfl (fun ls hl => ?_)
              refine lv_goto (tgt := 3) hx hb d_T_hasOtherAt_59 (by decide) ?_
              exact ih _ _ _ _ _ _ _ hf _ _ _ hP hS (lv_sub hl [1, 2, 3, 4, 0] rfl) k_0 k_1
            ·
              have hf := op_pos hf c11
              refine lv_aload_n hx hb d_T_hasOtherAt_39 rfl (lv_at hl 0 rfl) ?_
              refine wx_get (v := .ref (ad 5)) (C := RQ_T) (T := FQ_T) (N := 10) hx hb ht IQ_T hown hK hP 1 (by decide) (e_g1_1 cy ad _) rfl 1 (by decide) (ht _ kw_75) (fun _ h9 => h9) rfl d_T_hasOtherAt_40 ?_
              refine lv_iload hx hb d_T_hasOtherAt_43 (lv_at hl 4 rfl) ?_
              refine lv_iconst (v := 1) hx hb d_T_hasOtherAt_45 (by decide) ?_
              obtain ⟨r14, w13, hc12, hf⟩ := op_b2 hf
              refine wx_fi (wx_rSN (As := [.int x4, .int (1 : Int32)]) (rest := [.ref (ad 5)]) ⟨hx, hb, hml, hown, ht⟩ (m_S_slotOf l D cy ad _ w8 x4 (1 : Int32) _ _ hc12) ⟨va_cnB 2 ht (gt_in (fun _ h9 => h9) kw_253) rfl rfl rfl hN.1 (ht _ kw_47) q_S_slotOf ⟨Nat.le_of_ble_eq_true rfl, Nat.le_of_ble_eq_true rfl⟩, ht _ kw_252, trivial⟩ nwC_ok hN hK hP (hD _) rfl hl.1 rfl (Nat.le_of_ble_eq_true rfl) d_T_hasOtherAt_46 ⟨Nat.zero_le _, Nat.zero_le _⟩) (hD _) hS hA (fun H locs hP hS => ?_)
              obtain ⟨h15, hf⟩ := op_chk hf
              refine wx_iald hx hb hK hP 5 (by decide) (by decide) 10 rfl h15 d_T_hasOtherAt_49 ?_
              refine lv_iload_n hx hb d_T_hasOtherAt_50 rfl (lv_at hl 3 rfl) ?_
              refine lv_icmp_ne (tgt := 56) hx hb d_T_hasOtherAt_51 (by decide) (fun c16 => ?_) (fun c16 => ?_)
              ·
                have hf := op_neg hf c16
                refine lv_iinc (v := x4 + (1 : Int32)) (lv' := [(4, .int (x4 + (1 : Int32))), (0, .ref (ad 1)), (1, .int x1), (2, .int x2), (3, .int x3)]) hx hb d_T_hasOtherAt_56 hl (k := 4) rfl rfl (by decide) rfl (fun ls hl => ?_)
                refine lv_goto (tgt := 3) hx hb d_T_hasOtherAt_59 (by decide) ?_
                exact ih _ _ _ _ _ _ _ hf _ _ _ hP hS (lv_sub hl [1, 2, 3, 4, 0] rfl) k_0 k_1
              ·
                have hf := op_pos hf c16
                cases hf
                exact k_0 rfl _ _ _ hP hS (lv_sub hl [] rfl)
  unfold f_T_hasOtherAt at hf
  refine lv_iconst (v := 0) hx hb d_T_hasOtherAt_0 (by decide) ?_
  refine lv_istore (lv' := [(4, .int (0 : Int32)), (0, .ref (ad 1)), (1, .int p1), (2, .int p2), (3, .int p3)]) hx hb d_T_hasOtherAt_1 hl (by decide) rfl (fun ls hl => ?_)
  obtain ⟨e17, w18, hc19, hf⟩ := op_b2 hf
  refine L_3 _ _ _ _ _ _ _ _ hc19 _ _ _ hP hS (lv_sub hl [1, 2, 3, 4, 0] rfl) (fun he_e17 H locs ls hP hS hl => ?_) (fun he_e17 H locs ls hP hS hl => ?_)
  ·
    have hf := op_pos hf he_e17
    refine lv_iconst (v := 1) hx hb d_T_hasOtherAt_54 (by decide) ?_
    obtain ⟨hv9, rfl⟩ := op_inj hf
    exact wx_zret hx hb hr hlocks (by first | decide | rfl) hAe hP hS hv9 d_T_hasOtherAt_55
  ·
    have hf := op_neg hf (by omega)
    refine lv_iconst (v := 0) hx hb d_T_hasOtherAt_62 (by decide) ?_
    obtain ⟨hv9, rfl⟩ := op_inj hf
    exact wx_zret hx hb hr hlocks (by first | decide | rfl) hAe hP hS hv9 d_T_hasOtherAt_63

def f_T_putNode (z0 : gS) (p1 : Int32) (p2 : Int32) (p3 : Int32) : Option gS :=
 (some (((z0.1 1) ||| ((1 : Int32) <<< (p1 &&& 31))) : Int32)).bind (fun v1 =>
 (some (s_i z0 1 v1)).bind (fun w3 =>
 bd2 (f_S_slotOf w3 p1 (0 : Int32)) (fun r7 w6 =>
 if r7 < 0 ∨ 10 ≤ r7.toNatClampNeg then none else
 (some (s_I w6 5 (upd (w6.2.2.1 5) r7.toNatClampNeg p2))).bind (fun w9 =>
 bd2 (f_S_slotOf w9 p1 (1 : Int32)) (fun r13 w12 =>
 if r13 < 0 ∨ 10 ≤ r13.toNatClampNeg then none else
 (some (s_I w12 5 (upd (w12.2.2.1 5) r13.toNatClampNeg p3))).bind (fun w15 =>
 some w15))))))
set_option maxHeartbeats 4000000 in
set_option maxRecDepth 100000 in
theorem m_T_putNode (l : Launch) (D : va_G) (cy : Nat → ClassId) (ad : Nat → Nat) (sz : Nat) (z0 : gS) (p1 : Int32) (p2 : Int32) (p3 : Int32) (zz : gS) (hf : f_T_putNode z0 p1 p2 p3 = some zz) : Met l y_T_putNode (Cond.code y_T_putNode c_T_putNode 4 none :: gt_ws) ({ frames := 1, cells := 0, slots := 0, locals := 45 }) (sPc D cl_all (gTy cy) nwC 52 ad (g1 cy ad z0) sz [.ref (ad 1), .int p1, .int p2, .int p3]) (sQv D cl_all 52 ad (g1 cy ad z0) sz (g1 cy ad zz)) 0 0 (va_A (wl 52 ad (g1 cy ad z0)) sz) := by
  refine Met.ofW (cc := c_T_putNode) (maxL := 4) (ret := none) (by decide) rfl ?_
  intro p e s m args below meth c s₁ B hml hv
  obtain ⟨rfl, hsz, hP, hK, hN, hD0⟩ := hv
  have hx := B.exec
  have hb := B.bytes
  have hr := B.returns
  have hts := atoms_spec (ws := (Cond.code y_T_putNode c_T_putNode 4 none :: gt_ws)) B.pre
  have ht : ∀ w ∈ gt_ws, w.before _ s = true := fun w h => hts w (List.mem_cons_of_mem _ h)
  have hown : s.vm.findClass RQ_T = some m.cls := findClass_of_methodNamed B.named
  have hlocks := B.notSynchronized
  subst hsz
  have hD1 := hD0.self (sz := s.heap.size)
  obtain ⟨A, hAe⟩ : ∃ A, A = va_A (wl 52 ad (g1 cy ad z0)) s.heap.size := ⟨_, rfl⟩
  rw [← hAe] at hD1
  have hD : ∀ g, va_D A (wl 52 ad g) := fun _ => wl_D hD1
  have hA : ∀ q : Nat, s.heap.size ≤ q → A q := fun q h => by rw [hAe]; exact Or.inr h
  have hS : va_S A s.heap s.heap [] := va_S.rf
  have hl := lv_entry ([.ref (ad 1), .int p1, .int p2, .int p3]) (n := 4) (Nat.le_of_ble_eq_true rfl)
  rw [lg_entry_eq]
  generalize (lg_sl ([.ref (ad 1), .int p1, .int p2, .int p3]) ++ List.replicate (4 - (lg_sl ([.ref (ad 1), .int p1, .int p2, .int p3])).length) Slot.unset).toArray = ls at hl ⊢
  have hl : lv_has ls 4 [(0, .ref (ad 1)), (1, .int p1), (2, .int p2), (3, .int p3)] := hl
  unfold f_T_putNode at hf
  refine lv_aload_n hx hb d_T_putNode_0 rfl (lv_at hl 0 rfl) ?_
  refine lv_dup hx hb d_T_putNode_1 rfl ?_
  refine wx_get (v := .int (z0.1 1)) (C := RQ_T) (T := FQ_T) (N := 10) hx hb ht IQ_T hown hK hP 1 (by decide) (e_g1_1 cy ad _) rfl 0 (by decide) (ht _ kw_73) (fun _ h9 => h9) rfl d_T_putNode_2 ?_
  refine lv_iconst (v := 1) hx hb d_T_putNode_5 (by decide) ?_
  refine lv_iload_n hx hb d_T_putNode_6 rfl (lv_at hl 1 rfl) ?_
  refine lv_ishl hx hb d_T_putNode_7 ?_
  refine lv_ior hx hb d_T_putNode_8 ?_
  obtain ⟨v1, h2, hf⟩ := op_let hf
  refine sw_i h2 ?_
  refine wx_put (v := .int v1) (ty := .int) (C := RQ_T) (T := FQ_T) (N := 10) hx hb ht IQ_T TQ_T TQ_T_ok NQ_T hown hK hP (hD _) hS 1 (by decide) (e_g1_1 cy ad _) rfl 0 (by decide) (ht _ kw_73) (fun _ h9 => h9) rfl (by decide +kernel) rfl rfl (Nat.le_of_ble_eq_true rfl) d_T_putNode_9 (up_T_there cy ad _ v1) (fun H locs hP hS => ?_)
  obtain ⟨w3, h4, hf⟩ := op_let hf
  rw [h4] at hP
  refine lv_aload_n hx hb d_T_putNode_12 rfl (lv_at hl 0 rfl) ?_
  refine wx_get (v := .ref (ad 5)) (C := RQ_T) (T := FQ_T) (N := 10) hx hb ht IQ_T hown hK hP 1 (by decide) (e_g1_1 cy ad _) rfl 1 (by decide) (ht _ kw_75) (fun _ h9 => h9) rfl d_T_putNode_13 ?_
  refine lv_iload_n hx hb d_T_putNode_16 rfl (lv_at hl 1 rfl) ?_
  refine lv_iconst (v := 0) hx hb d_T_putNode_17 (by decide) ?_
  obtain ⟨r7, w6, hc5, hf⟩ := op_b2 hf
  refine wx_fi (wx_rSN (As := [.int p1, .int (0 : Int32)]) (rest := [.ref (ad 5)]) ⟨hx, hb, hml, hown, ht⟩ (m_S_slotOf l D cy ad _ w3 p1 (0 : Int32) _ _ hc5) ⟨va_cnB 2 ht (gt_in (fun _ h9 => h9) kw_253) rfl rfl rfl hN.1 (ht _ kw_47) q_S_slotOf ⟨Nat.le_of_ble_eq_true rfl, Nat.le_of_ble_eq_true rfl⟩, ht _ kw_252, trivial⟩ nwC_ok hN hK hP (hD _) rfl hl.1 rfl (Nat.le_of_ble_eq_true rfl) d_T_putNode_18 ⟨Nat.zero_le _, Nat.zero_le _⟩) (hD _) hS hA (fun H locs hP hS => ?_)
  refine lv_iload_n hx hb d_T_putNode_21 rfl (lv_at hl 2 rfl) ?_
  obtain ⟨h8, hf⟩ := op_chk hf
  refine wx_iast hx hb hK hP (hD _) hS 5 (by decide) (by decide) 10 rfl h8 d_T_putNode_22 (fun H locs hP hS => ?_)
  obtain ⟨w9, h10, hf⟩ := op_let hf
  rw [h10] at hP
  refine lv_aload_n hx hb d_T_putNode_23 rfl (lv_at hl 0 rfl) ?_
  refine wx_get (v := .ref (ad 5)) (C := RQ_T) (T := FQ_T) (N := 10) hx hb ht IQ_T hown hK hP 1 (by decide) (e_g1_1 cy ad _) rfl 1 (by decide) (ht _ kw_75) (fun _ h9 => h9) rfl d_T_putNode_24 ?_
  refine lv_iload_n hx hb d_T_putNode_27 rfl (lv_at hl 1 rfl) ?_
  refine lv_iconst (v := 1) hx hb d_T_putNode_28 (by decide) ?_
  obtain ⟨r13, w12, hc11, hf⟩ := op_b2 hf
  refine wx_fi (wx_rSN (As := [.int p1, .int (1 : Int32)]) (rest := [.ref (ad 5)]) ⟨hx, hb, hml, hown, ht⟩ (m_S_slotOf l D cy ad _ w9 p1 (1 : Int32) _ _ hc11) ⟨va_cnB 2 ht (gt_in (fun _ h9 => h9) kw_253) rfl rfl rfl hN.1 (ht _ kw_47) q_S_slotOf ⟨Nat.le_of_ble_eq_true rfl, Nat.le_of_ble_eq_true rfl⟩, ht _ kw_252, trivial⟩ nwC_ok hN hK hP (hD _) rfl hl.1 rfl (Nat.le_of_ble_eq_true rfl) d_T_putNode_29 ⟨Nat.zero_le _, Nat.zero_le _⟩) (hD _) hS hA (fun H locs hP hS => ?_)
  refine lv_iload_n hx hb d_T_putNode_32 rfl (lv_at hl 3 rfl) ?_
  obtain ⟨h14, hf⟩ := op_chk hf
  refine wx_iast hx hb hK hP (hD _) hS 5 (by decide) (by decide) 10 rfl h14 d_T_putNode_33 (fun H locs hP hS => ?_)
  obtain ⟨w15, h16, hf⟩ := op_let hf
  rw [h16] at hP
  obtain rfl := Option.some.inj hf
  exact wx_vret hx hb hr hlocks hAe hP hS d_T_putNode_34
