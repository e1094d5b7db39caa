def f_S_determinant (z0 : gS) : Option (Int64 × gS) :=
 if (z0.1 0) = 0 then (some ((-4000000000000000000 : Int64), z0))
 else (bd2 (f_E_wholeMinor z0) (fun r4 w3 =>
 some (r4, w3)))
set_option maxHeartbeats 4000000 in
set_option maxRecDepth 100000 in
theorem m_S_determinant (l : Launch) (D : va_G) (cy : Nat → ClassId) (ad : Nat → Nat) (sz : Nat) (z0 : gS) (r : Int64) (zz : gS) (hf : f_S_determinant z0 = some (r, zz)) : Met l y_S_determinant (Cond.code y_S_determinant c_S_determinant 1 (some .long) :: gt_ws) ({ frames := 1, cells := 0, slots := 0, locals := 45 }) (sPc D cl_all (gTy cy) nwC 52 ad (g1 cy ad z0) sz [.ref (ad 0)]) (sQl D cl_all 52 ad (g1 cy ad z0) sz r (g1 cy ad zz)) 0 0 (va_A (wl 52 ad (g1 cy ad z0)) sz) := by
  refine Met.ofW (cc := c_S_determinant) (maxL := 1) (ret := (some .long)) (by decide) rfl ?_
  intro p e s m args below meth c s₁ B hml hv
  obtain ⟨rfl, hsz, hP, hK, hN, hD0⟩ := hv
  have hx := B.exec
  have hb := B.bytes
  have hr := B.returns
  have hts := atoms_spec (ws := (Cond.code y_S_determinant c_S_determinant 1 (some .long) :: gt_ws)) B.pre
  have ht : ∀ w ∈ gt_ws, w.before _ s = true := fun w h => hts w (List.mem_cons_of_mem _ h)
  have hown : s.vm.findClass RQ_S = some m.cls := findClass_of_methodNamed B.named
  have hlocks := B.notSynchronized
  subst hsz
  have hD1 := hD0.self (sz := s.heap.size)
  obtain ⟨A, hAe⟩ : ∃ A, A = va_A (wl 52 ad (g1 cy ad z0)) s.heap.size := ⟨_, rfl⟩
  rw [← hAe] at hD1
  have hD : ∀ g, va_D A (wl 52 ad g) := fun _ => wl_D hD1
  have hA : ∀ q : Nat, s.heap.size ≤ q → A q := fun q h => by rw [hAe]; exact Or.inr h
  have hS : va_S A s.heap s.heap [] := va_S.rf
  have hl := lv_entry ([.ref (ad 0)]) (n := 1) (Nat.le_of_ble_eq_true rfl)
  rw [lg_entry_eq]
  generalize (lg_sl ([.ref (ad 0)]) ++ List.replicate (1 - (lg_sl ([.ref (ad 0)])).length) Slot.unset).toArray = ls at hl ⊢
  have hl : lv_has ls 1 [(0, .ref (ad 0))] := hl
  unfold f_S_determinant at hf
  refine lv_aload_n hx hb d_S_determinant_0 rfl (lv_at hl 0 rfl) ?_
  refine wx_get (v := .int (z0.1 0)) (C := RQ_S) (T := FQ_S) (N := 5) hx hb ht IQ_S hown hK hP 0 (by decide) (e_g1_0 cy ad _) rfl 4 (by decide) (ht _ kw_221) (fun _ h9 => h9) rfl d_S_determinant_1 ?_
  refine lv_if_eq (tgt := 17) hx hb d_S_determinant_4 (by decide) (fun c1 => ?_) (fun c1 => ?_)
  ·
    have hf := op_pos hf c1
    refine lv_ldc2 hx hb hown (ht _ kw_433) d_S_determinant_17 ?_
    obtain ⟨hv9, rfl⟩ := op_inj hf
    exact wx_lret hx hb hr hlocks hAe hP hS hv9 d_S_determinant_20
  ·
    have hf := op_neg hf c1
    refine lv_aload_n hx hb d_S_determinant_7 rfl (lv_at hl 0 rfl) ?_
    refine wx_get (v := .ref (ad 3)) (C := RQ_S) (T := FQ_S) (N := 5) hx hb ht IQ_S hown hK hP 0 (by decide) (e_g1_0 cy ad _) rfl 2 (by decide) (ht _ kw_219) (fun _ h9 => h9) rfl d_S_determinant_8 ?_
    obtain ⟨r4, w3, hc2, hf⟩ := op_b2 hf
    refine wx_fl (wx_rV (As := []) (rest := []) ⟨hx, hb, hml, hown, ht⟩ (m_E_wholeMinor l D cy ad _ z0 _ _ hc2) ⟨callB_of 0 ht (gt_in (fun _ h9 => h9) kw_445) rfl rfl rfl (ht _ kw_50) (ht _ kw_470) q_E_wholeMinor ⟨Nat.le_of_ble_eq_true rfl, Nat.le_of_ble_eq_true rfl⟩, ht _ kw_443, ht _ kw_444⟩ nwC_ok hN hK hP (hD _) (by decide) (e_g1_3 cy ad _) rfl rfl hl.1 rfl (Nat.le_of_ble_eq_true rfl) d_S_determinant_11 ⟨Nat.zero_le _, Nat.zero_le _⟩) (hD _) hS hA (fun H locs hP hS => ?_)
    refine lv_goto (tgt := 20) hx hb d_S_determinant_14 (by decide) ?_
    obtain ⟨hv9, rfl⟩ := op_inj hf
    exact wx_lret hx hb hr hlocks hAe hP hS hv9 d_S_determinant_20

def f_S_order (z0 : gS) (p1 : Int32) : Option (Int32 × gS) :=
 if (z0.1 0) = 0 then (some ((-1 : Int32), z0))
 else (if p1 < 0 then (some ((-1 : Int32), z0))
 else (if p1 < (z0.1 3) then (if p1 < 0 ∨ 5 ≤ p1.toNatClampNeg then none else
 some ((z0.2.2.1 12 p1.toNatClampNeg), z0))
 else (some ((-1 : Int32), z0))))
set_option maxHeartbeats 4000000 in
set_option maxRecDepth 100000 in
theorem m_S_order (l : Launch) (D : va_G) (cy : Nat → ClassId) (ad : Nat → Nat) (sz : Nat) (z0 : gS) (p1 : Int32) (r : Int32) (zz : gS) (hf : f_S_order z0 p1 = some (r, zz)) : Met l y_S_order (Cond.code y_S_order c_S_order 2 (some .int) :: gt_ws) ({ frames := 0, cells := 0, slots := 0, locals := 0 }) (sPc D cl_all (gTy cy) nwC 52 ad (g1 cy ad z0) sz [.ref (ad 0), .int p1]) (sQi D cl_all 52 ad (g1 cy ad z0) sz r (g1 cy ad zz)) 0 0 (va_A (wl 52 ad (g1 cy ad z0)) sz) := by
  refine Met.ofW (cc := c_S_order) (maxL := 2) (ret := (some .int)) (by decide) rfl ?_
  intro p e s m args below meth c s₁ B hml hv
  obtain ⟨rfl, hsz, hP, hK, hN, hD0⟩ := hv
  have hx := B.exec
  have hb := B.bytes
  have hr := B.returns
  have hts := atoms_spec (ws := (Cond.code y_S_order c_S_order 2 (some .int) :: gt_ws)) B.pre
  have ht : ∀ w ∈ gt_ws, w.before _ s = true := fun w h => hts w (List.mem_cons_of_mem _ h)
  have hown : s.vm.findClass RQ_S = some m.cls := findClass_of_methodNamed B.named
  have hlocks := B.notSynchronized
  subst hsz
  have hD1 := hD0.self (sz := s.heap.size)
  obtain ⟨A, hAe⟩ : ∃ A, A = va_A (wl 52 ad (g1 cy ad z0)) s.heap.size := ⟨_, rfl⟩
  rw [← hAe] at hD1
  have hD : ∀ g, va_D A (wl 52 ad g) := fun _ => wl_D hD1
  have hA : ∀ q : Nat, s.heap.size ≤ q → A q := fun q h => by rw [hAe]; exact Or.inr h
  have hS : va_S A s.heap s.heap [] := va_S.rf
  have hl := lv_entry ([.ref (ad 0), .int p1]) (n := 2) (Nat.le_of_ble_eq_true rfl)
  rw [lg_entry_eq]
  generalize (lg_sl ([.ref (ad 0), .int p1]) ++ List.replicate (2 - (lg_sl ([.ref (ad 0), .int p1])).length) Slot.unset).toArray = ls at hl ⊢
  have hl : lv_has ls 2 [(0, .ref (ad 0)), (1, .int p1)] := hl
  unfold f_S_order at hf
  refine lv_aload_n hx hb d_S_order_0 rfl (lv_at hl 0 rfl) ?_
  refine wx_get (v := .int (z0.1 0)) (C := RQ_S) (T := FQ_S) (N := 5) hx hb ht IQ_S hown hK hP 0 (by decide) (e_g1_0 cy ad _) rfl 4 (by decide) (ht _ kw_221) (fun _ h9 => h9) rfl d_S_order_1 ?_
  refine lv_if_eq (tgt := 22) hx hb d_S_order_4 (by decide) (fun c1 => ?_) (fun c1 => ?_)
  ·
    have hf := op_pos hf c1
    refine lv_iconst (v := -1) hx hb d_S_order_22 (by decide) ?_
    obtain ⟨hv9, rfl⟩ := op_inj hf
    exact wx_iret hx hb hr hlocks hAe hP hS hv9 d_S_order_23
  ·
    have hf := op_neg hf c1
    refine lv_iload_n hx hb d_S_order_7 rfl (lv_at hl 1 rfl) ?_
    refine lv_if_lt (tgt := 22) hx hb d_S_order_8 (by decide) (fun c2 => ?_) (fun c2 => ?_)
    ·
      have hf := op_pos hf c2
      refine lv_iconst (v := -1) hx hb d_S_order_22 (by decide) ?_
      obtain ⟨hv9, rfl⟩ := op_inj hf
      exact wx_iret hx hb hr hlocks hAe hP hS hv9 d_S_order_23
    ·
      have hf := op_neg hf c2
      refine lv_iload_n hx hb d_S_order_11 rfl (lv_at hl 1 rfl) ?_
      refine lv_aload_n hx hb d_S_order_12 rfl (lv_at hl 0 rfl) ?_
      refine wx_get (v := .ref (ad 2)) (C := RQ_S) (T := FQ_S) (N := 5) hx hb ht IQ_S hown hK hP 0 (by decide) (e_g1_0 cy ad _) rfl 1 (by decide) (ht _ kw_218) (fun _ h9 => h9) rfl d_S_order_13 ?_
      refine wx_get (v := .int (z0.1 3)) (C := RQ_N) (T := FQ_N) (N := 7) hx hb ht IQ_N hown hK hP 2 (by decide) (e_g1_2 cy ad _) rfl 1 (by decide) (ht _ kw_132) (fun _ h9 => h9) rfl d_S_order_16 ?_
      refine lv_icmp_lt (tgt := 24) hx hb d_S_order_19 (by decide) (fun c3 => ?_) (fun c3 => ?_)
      ·
        have hf := op_pos hf c3
        refine lv_aload_n hx hb d_S_order_24 rfl (lv_at hl 0 rfl) ?_
        refine wx_get (v := .ref (ad 2)) (C := RQ_S) (T := FQ_S) (N := 5) hx hb ht IQ_S hown hK hP 0 (by decide) (e_g1_0 cy ad _) rfl 1 (by decide) (ht _ kw_218) (fun _ h9 => h9) rfl d_S_order_25 ?_
        refine wx_get (v := .ref (ad 12)) (C := RQ_N) (T := FQ_N) (N := 7) hx hb ht IQ_N hown hK hP 2 (by decide) (e_g1_2 cy ad _) rfl 0 (by decide) (ht _ kw_130) (fun _ h9 => h9) rfl d_S_order_28 ?_
        refine lv_iload_n hx hb d_S_order_31 rfl (lv_at hl 1 rfl) ?_
        obtain ⟨h4, hf⟩ := op_chk hf
        refine wx_iald hx hb hK hP 12 (by decide) (by decide) 5 rfl h4 d_S_order_32 ?_
        obtain ⟨hv9, rfl⟩ := op_inj hf
        exact wx_iret hx hb hr hlocks hAe hP hS hv9 d_S_order_33
      ·
        have hf := op_neg hf c3
        refine lv_iconst (v := -1) hx hb d_S_order_22 (by decide) ?_
        obtain ⟨hv9, rfl⟩ := op_inj hf
        exact wx_iret hx hb hr hlocks hAe hP hS hv9 d_S_order_23

def f_S_unknown (z0 : gS) (p1 : Int32) (p2 : Int32) : Option (Int32 × gS) :=
 if (z0.1 0) = 0 then (some ((-1 : Int32), z0))
 else (bd2 (f_S_isNodeThere z0 p1) (fun r4 w3 =>
 if r4 = 0 then (some ((-1 : Int32), w3))
 else (bd2 (f_S_isDirection w3 p2) (fun r8 w7 =>
 if r8 = 0 then (some ((-1 : Int32), w7))
 else (bd2 (f_S_slotOf w7 p1 p2) (fun r12 w11 =>
 if r12 < 0 ∨ 10 ≤ r12.toNatClampNeg then none else
 some ((w11.2.2.1 14 r12.toNatClampNeg), w11)))))))
set_option maxHeartbeats 4000000 in
set_option maxRecDepth 100000 in
theorem m_S_unknown (l : Launch) (D : va_G) (cy : Nat → ClassId) (ad : Nat → Nat) (sz : Nat) (z0 : gS) (p1 : Int32) (p2 : Int32) (r : Int32) (zz : gS) (hf : f_S_unknown z0 p1 p2 = some (r, zz)) : Met l y_S_unknown (Cond.code y_S_unknown c_S_unknown 3 (some .int) :: gt_ws) ({ frames := 2, cells := 0, slots := 0, locals := 90 }) (sPc D cl_all (gTy cy) nwC 52 ad (g1 cy ad z0) sz [.ref (ad 0), .int p1, .int p2]) (sQi D cl_all 52 ad (g1 cy ad z0) sz r (g1 cy ad zz)) 0 0 (va_A (wl 52 ad (g1 cy ad z0)) sz) := by
  refine Met.ofW (cc := c_S_unknown) (maxL := 3) (ret := (some .int)) (by decide) rfl ?_
  intro p e s m args below meth c s₁ B hml hv
  obtain ⟨rfl, hsz, hP, hK, hN, hD0⟩ := hv
  have hx := B.exec
  have hb := B.bytes
  have hr := B.returns
  have hts := atoms_spec (ws := (Cond.code y_S_unknown c_S_unknown 3 (some .int) :: gt_ws)) B.pre
  have ht : ∀ w ∈ gt_ws, w.before _ s = true := fun w h => hts w (List.mem_cons_of_mem _ h)
  have hown : s.vm.findClass RQ_S = some m.cls := findClass_of_methodNamed B.named
  have hlocks := B.notSynchronized
  subst hsz
  have hD1 := hD0.self (sz := s.heap.size)
  obtain ⟨A, hAe⟩ : ∃ A, A = va_A (wl 52 ad (g1 cy ad z0)) s.heap.size := ⟨_, rfl⟩
  rw [← hAe] at hD1
  have hD : ∀ g, va_D A (wl 52 ad g) := fun _ => wl_D hD1
  have hA : ∀ q : Nat, s.heap.size ≤ q → A q := fun q h => by rw [hAe]; exact Or.inr h
  have hS : va_S A s.heap s.heap [] := va_S.rf
  have hl := lv_entry ([.ref (ad 0), .int p1, .int p2]) (n := 3) (Nat.le_of_ble_eq_true rfl)
  rw [lg_entry_eq]
  generalize (lg_sl ([.ref (ad 0), .int p1, .int p2]) ++ List.replicate (3 - (lg_sl ([.ref (ad 0), .int p1, .int p2])).length) Slot.unset).toArray = ls at hl ⊢
  have hl : lv_has ls 3 [(0, .ref (ad 0)), (1, .int p1), (2, .int p2)] := hl
  unfold f_S_unknown at hf
  refine lv_aload_n hx hb d_S_unknown_0 rfl (lv_at hl 0 rfl) ?_
  refine wx_get (v := .int (z0.1 0)) (C := RQ_S) (T := FQ_S) (N := 5) hx hb ht IQ_S hown hK hP 0 (by decide) (e_g1_0 cy ad _) rfl 4 (by decide) (ht _ kw_221) (fun _ h9 => h9) rfl d_S_unknown_1 ?_
  refine lv_if_eq (tgt := 22) hx hb d_S_unknown_4 (by decide) (fun c1 => ?_) (fun c1 => ?_)
  ·
    have hf := op_pos hf c1
    refine lv_iconst (v := -1) hx hb d_S_unknown_22 (by decide) ?_
    obtain ⟨hv9, rfl⟩ := op_inj hf
    exact wx_iret hx hb hr hlocks hAe hP hS hv9 d_S_unknown_23
  ·
    have hf := op_neg hf c1
    refine lv_aload_n hx hb d_S_unknown_7 rfl (lv_at hl 0 rfl) ?_
    refine lv_iload_n hx hb d_S_unknown_8 rfl (lv_at hl 1 rfl) ?_
    obtain ⟨r4, w3, hc2, hf⟩ := op_b2 hf
    refine wx_fi (wx_rV (As := [.int p1]) (rest := []) ⟨hx, hb, hml, hown, ht⟩ (m_S_isNodeThere l D cy ad _ z0 p1 _ _ hc2) ⟨callB_of 1 ht (gt_in (fun _ h9 => h9) kw_428) rfl rfl rfl (ht _ kw_47) (ht _ kw_425) q_S_isNodeThere ⟨Nat.le_of_ble_eq_true rfl, Nat.le_of_ble_eq_true rfl⟩, ht _ kw_427, ht _ kw_18⟩ nwC_ok hN hK hP (hD _) (by decide) (e_g1_0 cy ad _) rfl rfl hl.1 rfl (Nat.le_of_ble_eq_true rfl) d_S_unknown_9 ⟨Nat.zero_le _, Nat.zero_le _⟩) (hD _) hS hA (fun H locs hP hS => ?_)
    refine lv_if_eq (tgt := 22) hx hb d_S_unknown_12 (by decide) (fun c5 => ?_) (fun c5 => ?_)
    ·
      have hf := op_pos hf c5
      refine lv_iconst (v := -1) hx hb d_S_unknown_22 (by decide) ?_
      obtain ⟨hv9, rfl⟩ := op_inj hf
      exact wx_iret hx hb hr hlocks hAe hP hS hv9 d_S_unknown_23
    ·
      have hf := op_neg hf c5
      refine lv_iload_n hx hb d_S_unknown_15 rfl (lv_at hl 2 rfl) ?_
      obtain ⟨r8, w7, hc6, hf⟩ := op_b2 hf
      refine wx_fi (wx_rS (As := [.int p2]) (rest := []) ⟨hx, hb, hml, hown, ht⟩ (m_S_isDirection l D cy ad _ w3 p2 _ _ hc6) ⟨callB_of 1 ht (gt_in (fun _ h9 => h9) kw_284) rfl rfl rfl (ht _ kw_47) (ht _ kw_282) q_S_isDirection ⟨Nat.le_of_ble_eq_true rfl, Nat.le_of_ble_eq_true rfl⟩, ht _ kw_283⟩ nwC_ok hN hK hP (hD _) rfl hl.1 rfl (Nat.le_of_ble_eq_true rfl) d_S_unknown_16 ⟨Nat.zero_le _, Nat.zero_le _⟩) (hD _) hS hA (fun H locs hP hS => ?_)
      refine lv_if_ne (tgt := 24) hx hb d_S_unknown_19 (by decide) (fun c9 => ?_) (fun c9 => ?_)
      ·
        have hf := op_neg hf c9
        refine lv_aload_n hx hb d_S_unknown_24 rfl (lv_at hl 0 rfl) ?_
        refine wx_get (v := .ref (ad 2)) (C := RQ_S) (T := FQ_S) (N := 5) hx hb ht IQ_S hown hK hP 0 (by decide) (e_g1_0 cy ad _) rfl 1 (by decide) (ht _ kw_218) (fun _ h9 => h9) rfl d_S_unknown_25 ?_
        refine wx_get (v := .ref (ad 14)) (C := RQ_N) (T := FQ_N) (N := 7) hx hb ht IQ_N hown hK hP 2 (by decide) (e_g1_2 cy ad _) rfl 4 (by decide) (ht _ kw_136) (fun _ h9 => h9) rfl d_S_unknown_28 ?_
        refine lv_iload_n hx hb d_S_unknown_31 rfl (lv_at hl 1 rfl) ?_
        refine lv_iload_n hx hb d_S_unknown_32 rfl (lv_at hl 2 rfl) ?_
        obtain ⟨r12, w11, hc10, hf⟩ := op_b2 hf
        refine wx_fi (wx_rS (As := [.int p1, .int p2]) (rest := [.ref (ad 14)]) ⟨hx, hb, hml, hown, ht⟩ (m_S_slotOf l D cy ad _ w7 p1 p2 _ _ hc10) ⟨callB_of 2 ht (gt_in (fun _ h9 => h9) kw_253) rfl rfl rfl (ht _ kw_47) (ht _ kw_285) q_S_slotOf ⟨Nat.le_of_ble_eq_true rfl, Nat.le_of_ble_eq_true rfl⟩, ht _ kw_252⟩ nwC_ok hN hK hP (hD _) rfl hl.1 rfl (Nat.le_of_ble_eq_true rfl) d_S_unknown_33 ⟨Nat.zero_le _, Nat.zero_le _⟩) (hD _) hS hA (fun H locs hP hS => ?_)
        obtain ⟨h13, hf⟩ := op_chk hf
        refine wx_iald hx hb hK hP 14 (by decide) (by decide) 10 rfl h13 d_S_unknown_36 ?_
        obtain ⟨hv9, rfl⟩ := op_inj hf
        exact wx_iret hx hb hr hlocks hAe hP hS hv9 d_S_unknown_37
      ·
        have hf := op_pos hf c9
        refine lv_iconst (v := -1) hx hb d_S_unknown_22 (by decide) ?_
        obtain ⟨hv9, rfl⟩ := op_inj hf
        exact wx_iret hx hb hr hlocks hAe hP hS hv9 d_S_unknown_23

def l_E_profile_14 : Nat → gS → Int32 → Int32 → Int32 → Option (Int32 × Int32 × Int32 × gS)
  | 0, _, _, _, _ => none
  | n + 1, z, x1, x2, x3 =>
    if x2 ≤ x3 then (some (x1, x2, x3, z))
     else (if x2 < 0 ∨ 10 ≤ x2.toNatClampNeg then none else
     if x3 < 0 ∨ 10 ≤ x3.toNatClampNeg then none else
     if (lg_cmp (z.2.2.2 (x2.toNatClampNeg + 42) x3.toNatClampNeg) (0 : Int64)) = 0 then (l_E_profile_14 n z x1 x2 (x3 + (1 : Int32)))
     else (some (x1, x2, x3, z)))
def l_E_profile_4 : Nat → gS → Int32 → Int32 → Option (Int32 × gS)
  | 0, _, _, _ => none
  | n + 1, z, x1, x2 =>
    if (z.1 6) ≤ x2 then (some (x1, z))
     else (bd4 (l_E_profile_14 200 z x1 x2 (0 : Int32)) (fun v6 v7 v8 w9 =>
     (some ((v6 + (v7 - v8)) : Int32)).bind (fun v11 =>
     l_E_profile_4 n w9 v11 (v7 + (1 : Int32)))))
def f_E_profile (z0 : gS) : Option (Int32 × gS) :=
 bd2 (l_E_profile_4 200 z0 (0 : Int32) (0 : Int32)) (fun v13 w14 =>
 some (v13, w14))
set_option maxHeartbeats 4000000 in
set_option maxRecDepth 100000 in
theorem m_E_profile (l : Launch) (D : va_G) (cy : Nat → ClassId) (ad : Nat → Nat) (sz : Nat) (z0 : gS) (r : Int32) (zz : gS) (hf : f_E_profile z0 = some (r, zz)) : Met l y_E_profile (Cond.code y_E_profile c_E_profile 4 (some .int) :: gt_ws) ({ frames := 0, cells := 0, slots := 0, locals := 0 }) (sPc D cl_all (gTy cy) nwC 52 ad (g1 cy ad z0) sz [.ref (ad 3)]) (sQi D cl_all 52 ad (g1 cy ad z0) sz r (g1 cy ad zz)) 0 0 (va_A (wl 52 ad (g1 cy ad z0)) sz) := by
  refine Met.ofW (cc := c_E_profile) (maxL := 4) (ret := (some .int)) (by decide) rfl ?_
  intro p e s m args below meth c s₁ B hml hv
  obtain ⟨rfl, hsz, hP, hK, hN, hD0⟩ := hv
  have hx := B.exec
  have hb := B.bytes
  have hr := B.returns
  have hts := atoms_spec (ws := (Cond.code y_E_profile c_E_profile 4 (some .int) :: gt_ws)) B.pre
  have ht : ∀ w ∈ gt_ws, w.before _ s = true := fun w h => hts w (List.mem_cons_of_mem _ h)
  have hown : s.vm.findClass RQ_E = some m.cls := findClass_of_methodNamed B.named
  have hlocks := B.notSynchronized
  subst hsz
  have hD1 := hD0.self (sz := s.heap.size)
  obtain ⟨A, hAe⟩ : ∃ A, A = va_A (wl 52 ad (g1 cy ad z0)) s.heap.size := ⟨_, rfl⟩
  rw [← hAe] at hD1
  have hD : ∀ g, va_D A (wl 52 ad g) := fun _ => wl_D hD1
  have hA : ∀ q : Nat, s.heap.size ≤ q → A q := fun q h => by rw [hAe]; exact Or.inr h
  have hS : va_S A s.heap s.heap [] := va_S.rf
  have hl := lv_entry ([.ref (ad 3)]) (n := 4) (Nat.le_of_ble_eq_true rfl)
  rw [lg_entry_eq]
  generalize (lg_sl ([.ref (ad 3)]) ++ List.replicate (4 - (lg_sl ([.ref (ad 3)])).length) Slot.unset).toArray = ls at hl ⊢
  have hl : lv_has ls 4 [(0, .ref (ad 3))] := hl
  have L_14 : ∀ (n : Nat) (z : gS) (x1 : Int32) (x2 : Int32) (x3 : Int32) (y1 : Int32) (y2 : Int32) (y3 : Int32) (z9 : gS), l_E_profile_14 n z x1 x2 x3 = some (y1, y2, y3, z9) → ∀ (H : Heap) (locs : List Loc) (ls : Array Slot), va_P D cl_all (wl 52 ad (g1 cy ad z)) H → va_S A s.heap H locs → lv_has ls 4 [(0, .ref (ad 3)), (1, .int x1), (2, .int x2), (3, .int x3)] →
      (∀ (H : Heap) (locs : List Loc) (ls : Array Slot), va_P D cl_all (wl 52 ad (g1 cy ad z9)) H → va_S A s.heap H locs → lv_has ls 4 [(0, .ref (ad 3)), (1, .int y1), (2, .int y2), (3, .int y3)] → W p l e (headSpec (Cond.code y_E_profile c_E_profile 4 (some .int) :: gt_ws) ({ frames := 0, cells := 0, slots := 0, locals := 0 })).room s m ([.ref (ad 3)]).toArray below meth c H locs 0 0 (MQ below (sQi D cl_all 52 ad (g1 cy ad z0) s.heap.size r (g1 cy ad zz)) ([.ref (ad 3)]).toArray s 0 0 (va_A (wl 52 ad (g1 cy ad z0)) s.heap.size)) (F0 m 38 ls [])) →
      W p l e (headSpec (Cond.code y_E_profile c_E_profile 4 (some .int) :: gt_ws) ({ frames := 0, cells := 0, slots := 0, locals := 0 })).room s m ([.ref (ad 3)]).toArray below meth c H locs 0 0 (MQ below (sQi D cl_all 52 ad (g1 cy ad z0) s.heap.size r (g1 cy ad zz)) ([.ref (ad 3)]).toArray s 0 0 (va_A (wl 52 ad (g1 cy ad z0)) s.heap.size)) (F0 m 14 ls []) := by
    intro n
    induction n with
    | zero => intro z x1 x2 x3 y1 y2 y3 z9 hf; rw [l_E_profile_14] at hf; cases hf
    | succ n ih =>
      intro z x1 x2 x3 y1 y2 y3 z9 hf H locs ls hP hS hl k_0
      rw [l_E_profile_14] at hf
      refine lv_iload_n hx hb d_E_profile_14 rfl (lv_at hl 3 rfl) ?_
      refine lv_iload_n hx hb d_E_profile_15 rfl (lv_at hl 2 rfl) ?_
      refine lv_icmp_ge (tgt := 38) hx hb d_E_profile_16 (by decide) (fun c1 => ?_) (fun c1 => ?_)
      ·
        have hf := op_pos hf c1
        cases hf
        exact k_0 _ _ _ hP hS (lv_sub hl [0, 1, 2, 3] rfl)
      ·
        have hf := op_neg hf c1
        refine lv_aload_n hx hb d_E_profile_19 rfl (lv_at hl 0 rfl) ?_
        refine wx_get (v := .ref (ad 19)) (C := RQ_E) (T := FQ_E) (N := 7) hx hb ht IQ_E hown hK hP 3 (by decide) (e_g1_3 cy ad _) rfl 1 (by decide) (ht _ kw_169) (fun _ h9 => h9) rfl d_E_profile_20 ?_
        refine lv_iload_n hx hb d_E_profile_23 rfl (lv_at hl 2 rfl) ?_
        obtain ⟨h2, hf⟩ := op_chk hf
        refine wx_aald (b := ad (x2.toNatClampNeg + 42)) hx hb hK hP 19 4 (by decide) (e_g1_19 cy ad _) rfl h2 (if_pos (r42_lt h2)) d_E_profile_24 ?_
        refine lv_iload_n hx hb d_E_profile_25 rfl (lv_at hl 3 rfl) ?_
        obtain ⟨h3, hf⟩ := op_chk hf
        refine wx_lald hx hb hK hP (x2.toNatClampNeg + 42) (r42 h2).1 (r42 h2).2.1 10 (r42 h2).2.2 h3 d_E_profile_26 ?_
        refine lv_lconst (v := 0) hx hb d_E_profile_27 (by decide) ?_
        refine W.lcmp hx hb d_E_profile_28 ?_
        refine lv_if_ne (tgt := 38) hx hb d_E_profile_29 (by decide) (fun c4 => ?_) (fun c4 => ?_)
        ·
          have hf := op_neg hf c4
          cases hf
          exact k_0 _ _ _ hP hS (lv_sub hl [0, 1, 2, 3] rfl)
        ·
          have hf := op_pos hf c4
          refine lv_iinc (v := x3 + (1 : Int32)) (lv' := [(3, .int (x3 + (1 : Int32))), (0, .ref (ad 3)), (1, .int x1), (2, .int x2)]) hx hb d_E_profile_32 hl (k := 3) rfl rfl (by decide) rfl (fun ls hl => ?_)
          refine lv_goto (tgt := 14) hx hb d_E_profile_35 (by decide) ?_
          exact ih _ _ _ _ _ _ _ _ hf _ _ _ hP hS (lv_sub hl [1, 2, 3, 0] rfl) k_0
  have L_4 : ∀ (n : Nat) (z : gS) (x1 : Int32) (x2 : Int32) (y1 : Int32) (z9 : gS), l_E_profile_4 n z x1 x2 = some (y1, z9) → ∀ (H : Heap) (locs : List Loc) (ls : Array Slot), va_P D cl_all (wl 52 ad (g1 cy ad z)) H → va_S A s.heap H locs → lv_has ls 4 [(0, .ref (ad 3)), (1, .int x1), (2, .int x2)] →
      (∀ (H : Heap) (locs : List Loc) (ls : Array Slot), va_P D cl_all (wl 52 ad (g1 cy ad z9)) H → va_S A s.heap H locs → lv_has ls 4 [(1, .int y1)] → W p l e (headSpec (Cond.code y_E_profile c_E_profile 4 (some .int) :: gt_ws) ({ frames := 0, cells := 0, slots := 0, locals := 0 })).room s m ([.ref (ad 3)]).toArray below meth c H locs 0 0 (MQ below (sQi D cl_all 52 ad (g1 cy ad z0) s.heap.size r (g1 cy ad zz)) ([.ref (ad 3)]).toArray s 0 0 (va_A (wl 52 ad (g1 cy ad z0)) s.heap.size)) (F0 m 50 ls [])) →
      W p l e (headSpec (Cond.code y_E_profile c_E_profile 4 (some .int) :: gt_ws) ({ frames := 0, cells := 0, slots := 0, locals := 0 })).room s m ([.ref (ad 3)]).toArray below meth c H locs 0 0 (MQ below (sQi D cl_all 52 ad (g1 cy ad z0) s.heap.size r (g1 cy ad zz)) ([.ref (ad 3)]).toArray s 0 0 (va_A (wl 52 ad (g1 cy ad z0)) s.heap.size)) (F0 m 4 ls []) := by
    intro n
    induction n with
    | zero => intro z x1 x2 y1 z9 hf; rw [l_E_profile_4] at hf; cases hf
    | succ n ih =>
      intro z x1 x2 y1 z9 hf H locs ls hP hS hl k_0
      rw [l_E_profile_4] at hf
      refine lv_iload_n hx hb d_E_profile_4 rfl (lv_at hl 2 rfl) ?_
      refine lv_aload_n hx hb d_E_profile_5 rfl (lv_at hl 0 rfl) ?_
      refine wx_get (v := .int (z.1 6)) (C := RQ_E) (T := FQ_E) (N := 7) hx hb ht IQ_E hown hK hP 3 (by decide) (e_g1_3 cy ad _) rfl 2 (by decide) (ht _ kw_170) (fun _ h9 => h9) rfl d_E_profile_6 ?_
      refine lv_icmp_ge (tgt := 50) hx hb d_E_profile_9 (by decide) (fun c5 => ?_) (fun c5 => ?_)
      ·
        have hf := op_pos hf c5
        cases hf
        exact k_0 _ _ _ hP hS (lv_sub hl [1] rfl)
      ·
        have hf := op_neg hf c5
        refine lv_iconst (v := 0) hx hb d_E_profile_12 (by decide) ?_
        refine lv_istore_n (lv' := [(3, .int (0 : Int32)), (0, .ref (ad 3)), (1, .int x1), (2, .int x2)]) hx hb d_E_profile_13 rfl hl (by decide) rfl (fun ls hl => ?_)
        obtain ⟨v6, v7, v8, w9, hc10, hf⟩ := op_b4 hf
        refine L_14 _ _ _ _ _ _ _ _ _ hc10 _ _ _ hP hS (lv_sub hl [1, 2, 3, 0] rfl) (fun H locs ls hP hS hl => ?_)
        refine lv_iload_n hx hb d_E_profile_38 rfl (lv_at hl 1 rfl) ?_
        refine lv_iload_n hx hb d_E_profile_39 rfl (lv_at hl 2 rfl) ?_
        refine lv_iload_n hx hb d_E_profile_40 rfl (lv_at hl 3 rfl) ?_
        refine lv_isub hx hb d_E_profile_41 ?_
        refine lv_iadd hx hb d_E_profile_42 ?_
        obtain ⟨v11, h12, hf⟩ := op_let hf
        refine sw_i h12 ?_
        refine lv_istore_n (lv' := [(1, .int v11), (0, .ref (ad 3)), (2, .int v7), (3, .int v8)]) hx hb d_E_profile_43 rfl hl (by decide) rfl (fun ls hl => ?_)
        refine lv_iinc (v := v7 + (1 : Int32)) (lv' := [(2, .int (v7 + (1 : Int32))), (1, .int v11), (0, .ref (ad 3)), (3, .int v8)]) hx hb d_E_profile_44 hl (k := 2) rfl rfl (by decide) rfl (fun ls hl => ?_)
        refine lv_goto (tgt := 4) hx hb d_E_profile_47 (by decide) ?_
        exact ih _ _ _ _ _ hf _ _ _ hP hS (lv_sub hl [2, 1, 0] rfl) k_0
  unfold f_E_profile at hf
  refine lv_iconst (v := 0) hx hb d_E_profile_0 (by decide) ?_
  refine lv_istore_n (lv' := [(1, .int (0 : Int32)), (0, .ref (ad 3))]) hx hb d_E_profile_1 rfl hl (by decide) rfl (fun ls hl => ?_)
  refine lv_iconst (v := 0) hx hb d_E_profile_2 (by decide) ?_
  refine lv_istore_n (lv' := [(2, .int (0 : Int32)), (1, .int (0 : Int32)), (0, .ref (ad 3))]) hx hb d_E_profile_3 rfl hl (by decide) rfl (fun ls hl => ?_)
  obtain ⟨v13, w14, hc15, hf⟩ := op_b2 hf
  refine L_4 _ _ _ _ _ _ hc15 _ _ _ hP hS (lv_sub hl [2, 1, 0] rfl) (fun H locs ls hP hS hl => ?_)
  refine lv_iload_n hx hb d_E_profile_50 rfl (lv_at hl 0 rfl) ?_
  obtain ⟨hv9, rfl⟩ := op_inj hf
  exact wx_iret hx hb hr hlocks hAe hP hS hv9 d_E_profile_51

def f_S_count (z0 : gS) (p1 : Int32) : Option (Int32 × gS) :=
 if p1 = (0 : Int32) then (bd2 (f_T_nodeCount z0) (fun r4 w3 =>
 some (r4, w3)))
 else (if p1 = (1 : Int32) then (some ((z0.1 2), z0))
 else (if p1 = (2 : Int32) then (if (z0.1 0) = 0 then (some ((0 : Int32), z0))
 else (some ((1 : Int32), z0)))
 else (if p1 = (3 : Int32) then (if (z0.1 0) = 0 then (some ((0 : Int32), z0))
 else (some ((z0.1 5), z0)))
 else (if p1 = (4 : Int32) then (if (z0.1 0) = 0 then (some ((0 : Int32), z0))
 else (bd2 (f_E_profile z0) (fun r14 w13 =>
 some (r14, w13))))
 else (some ((-1 : Int32), z0))))))
set_option maxHeartbeats 4000000 in
set_option maxRecDepth 100000 in
theorem m_S_count (l : Launch) (D : va_G) (cy : Nat → ClassId) (ad : Nat → Nat) (sz : Nat) (z0 : gS) (p1 : Int32) (r : Int32) (zz : gS) (hf : f_S_count z0 p1 = some (r, zz)) : Met l y_S_count (Cond.code y_S_count c_S_count 2 (some .int) :: gt_ws) ({ frames := 2, cells := 0, slots := 0, locals := 90 }) (sPc D cl_all (gTy cy) nwC 52 ad (g1 cy ad z0) sz [.ref (ad 0), .int p1]) (sQi D cl_all 52 ad (g1 cy ad z0) sz r (g1 cy ad zz)) 0 0 (va_A (wl 52 ad (g1 cy ad z0)) sz) := by
  refine Met.ofW (cc := c_S_count) (maxL := 2) (ret := (some .int)) (by decide) rfl ?_
  intro p e s m args below meth c s₁ B hml hv
  obtain ⟨rfl, hsz, hP, hK, hN, hD0⟩ := hv
  have hx := B.exec
  have hb := B.bytes
  have hr := B.returns
  have hts := atoms_spec (ws := (Cond.code y_S_count c_S_count 2 (some .int) :: gt_ws)) B.pre
  have ht : ∀ w ∈ gt_ws, w.before _ s = true := fun w h => hts w (List.mem_cons_of_mem _ h)
  have hown : s.vm.findClass RQ_S = some m.cls := findClass_of_methodNamed B.named
  have hlocks := B.notSynchronized
  subst hsz
  have hD1 := hD0.self (sz := s.heap.size)
  obtain ⟨A, hAe⟩ : ∃ A, A = va_A (wl 52 ad (g1 cy ad z0)) s.heap.size := ⟨_, rfl⟩
  rw [← hAe] at hD1
  have hD : ∀ g, va_D A (wl 52 ad g) := fun _ => wl_D hD1
  have hA : ∀ q : Nat, s.heap.size ≤ q → A q := fun q h => by rw [hAe]; exact Or.inr h
  have hS : va_S A s.heap s.heap [] := va_S.rf
  have hl := lv_entry ([.ref (ad 0), .int p1]) (n := 2) (Nat.le_of_ble_eq_true rfl)
  rw [lg_entry_eq]
  generalize (lg_sl ([.ref (ad 0), .int p1]) ++ List.replicate (2 - (lg_sl ([.ref (ad 0), .int p1])).length) Slot.unset).toArray = ls at hl ⊢
  have hl : lv_has ls 2 [(0, .ref (ad 0)), (1, .int p1)] := hl
  unfold f_S_count at hf
  refine lv_iload_n hx hb d_S_count_0 rfl (lv_at hl 1 rfl) ?_
  by_cases c1 : p1 = (0 : Int32)
  ·
    have hf := op_pos hf c1
    refine lv_tableIn (off := 35) (tgt := 36) hx hb d_S_count_1 (by rw [c1]; decide) (by rw [c1]; decide) (by rw [c1]; rfl) (by decide) ?_
    refine lv_aload_n hx hb d_S_count_36 rfl (lv_at hl 0 rfl) ?_
    refine wx_get (v := .ref (ad 1)) (C := RQ_S) (T := FQ_S) (N := 5) hx hb ht IQ_S hown hK hP 0 (by decide) (e_g1_0 cy ad _) rfl 0 (by decide) (ht _ kw_217) (fun _ h9 => h9) rfl d_S_count_37 ?_
    obtain ⟨r4, w3, hc2, hf⟩ := op_b2 hf
    refine wx_fi (wx_rV (As := []) (rest := []) ⟨hx, hb, hml, hown, ht⟩ (m_T_nodeCount l D cy ad _ z0 _ _ hc2) ⟨callB_of 0 ht (gt_in (fun _ h9 => h9) kw_304) rfl rfl rfl (ht _ kw_48) (ht _ kw_301) q_T_nodeCount ⟨Nat.le_of_ble_eq_true rfl, Nat.le_of_ble_eq_true rfl⟩, ht _ kw_302, ht _ kw_303⟩ nwC_ok hN hK hP (hD _) (by decide) (e_g1_1 cy ad _) rfl rfl hl.1 rfl (Nat.le_of_ble_eq_true rfl) d_S_count_40 ⟨Nat.zero_le _, Nat.zero_le _⟩) (hD _) hS hA (fun H locs hP hS => ?_)
    obtain ⟨hv9, rfl⟩ := op_inj hf
    exact wx_iret hx hb hr hlocks hAe hP hS hv9 d_S_count_43
  ·
    have hf := op_neg hf c1
    by_cases c5 : p1 = (1 : Int32)
    ·
      have hf := op_pos hf c5
      refine lv_tableIn (off := 43) (tgt := 44) hx hb d_S_count_1 (by rw [c5]; decide) (by rw [c5]; decide) (by rw [c5]; rfl) (by decide) ?_
      refine lv_aload_n hx hb d_S_count_44 rfl (lv_at hl 0 rfl) ?_
      refine wx_get (v := .ref (ad 1)) (C := RQ_S) (T := FQ_S) (N := 5) hx hb ht IQ_S hown hK hP 0 (by decide) (e_g1_0 cy ad _) rfl 0 (by decide) (ht _ kw_217) (fun _ h9 => h9) rfl d_S_count_45 ?_
      refine wx_get (v := .int (z0.1 2)) (C := RQ_T) (T := FQ_T) (N := 10) hx hb ht IQ_T hown hK hP 1 (by decide) (e_g1_1 cy ad _) rfl 5 (by decide) (ht _ kw_86) (fun _ h9 => h9) rfl d_S_count_48 ?_
      obtain ⟨hv9, rfl⟩ := op_inj hf
      exact wx_iret hx hb hr hlocks hAe hP hS hv9 d_S_count_51
    ·
      have hf := op_neg hf c5
      by_cases c6 : p1 = (2 : Int32)
      ·
        have hf := op_pos hf c6
        refine lv_tableIn (off := 51) (tgt := 52) hx hb d_S_count_1 (by rw [c6]; decide) (by rw [c6]; decide) (by rw [c6]; rfl) (by decide) ?_
        refine lv_aload_n hx hb d_S_count_52 rfl (lv_at hl 0 rfl) ?_
        refine wx_get (v := .int (z0.1 0)) (C := RQ_S) (T := FQ_S) (N := 5) hx hb ht IQ_S hown hK hP 0 (by decide) (e_g1_0 cy ad _) rfl 4 (by decide) (ht _ kw_221) (fun _ h9 => h9) rfl d_S_count_53 ?_
        refine lv_if_eq (tgt := 63) hx hb d_S_count_56 (by decide) (fun c7 => ?_) (fun c7 => ?_)
        ·
          have hf := op_pos hf c7
          refine lv_iconst (v := 0) hx hb d_S_count_63 (by decide) ?_
          obtain ⟨hv9, rfl⟩ := op_inj hf
          exact wx_iret hx hb hr hlocks hAe hP hS hv9 d_S_count_64
        ·
          have hf := op_neg hf c7
          refine lv_iconst (v := 1) hx hb d_S_count_59 (by decide) ?_
          refine lv_goto (tgt := 64) hx hb d_S_count_60 (by decide) ?_
          obtain ⟨hv9, rfl⟩ := op_inj hf
          exact wx_iret hx hb hr hlocks hAe hP hS hv9 d_S_count_64
      ·
        have hf := op_neg hf c6
        by_cases c8 : p1 = (3 : Int32)
        ·
          have hf := op_pos hf c8
          refine lv_tableIn (off := 64) (tgt := 65) hx hb d_S_count_1 (by rw [c8]; decide) (by rw [c8]; decide) (by rw [c8]; rfl) (by decide) ?_
          refine lv_aload_n hx hb d_S_count_65 rfl (lv_at hl 0 rfl) ?_
          refine wx_get (v := .int (z0.1 0)) (C := RQ_S) (T := FQ_S) (N := 5) hx hb ht IQ_S hown hK hP 0 (by decide) (e_g1_0 cy ad _) rfl 4 (by decide) (ht _ kw_221) (fun _ h9 => h9) rfl d_S_count_66 ?_
          refine lv_if_eq (tgt := 82) hx hb d_S_count_69 (by decide) (fun c9 => ?_) (fun c9 => ?_)
          ·
            have hf := op_pos hf c9
            refine lv_iconst (v := 0) hx hb d_S_count_82 (by decide) ?_
            obtain ⟨hv9, rfl⟩ := op_inj hf
            exact wx_iret hx hb hr hlocks hAe hP hS hv9 d_S_count_83
          ·
            have hf := op_neg hf c9
            refine lv_aload_n hx hb d_S_count_72 rfl (lv_at hl 0 rfl) ?_
            refine wx_get (v := .ref (ad 2)) (C := RQ_S) (T := FQ_S) (N := 5) hx hb ht IQ_S hown hK hP 0 (by decide) (e_g1_0 cy ad _) rfl 1 (by decide) (ht _ kw_218) (fun _ h9 => h9) rfl d_S_count_73 ?_
            refine wx_get (v := .int (z0.1 5)) (C := RQ_N) (T := FQ_N) (N := 7) hx hb ht IQ_N hown hK hP 2 (by decide) (e_g1_2 cy ad _) rfl 6 (by decide) (ht _ kw_143) (fun _ h9 => h9) rfl d_S_count_76 ?_
            refine lv_goto (tgt := 83) hx hb d_S_count_79 (by decide) ?_
            obtain ⟨hv9, rfl⟩ := op_inj hf
            exact wx_iret hx hb hr hlocks hAe hP hS hv9 d_S_count_83
        ·
          have hf := op_neg hf c8
          by_cases c10 : p1 = (4 : Int32)
          ·
            have hf := op_pos hf c10
            refine lv_tableIn (off := 83) (tgt := 84) hx hb d_S_count_1 (by rw [c10]; decide) (by rw [c10]; decide) (by rw [c10]; rfl) (by decide) ?_
            refine lv_aload_n hx hb d_S_count_84 rfl (lv_at hl 0 rfl) ?_
            refine wx_get (v := .int (z0.1 0)) (C := RQ_S) (T := FQ_S) (N := 5) hx hb ht IQ_S hown hK hP 0 (by decide) (e_g1_0 cy ad _) rfl 4 (by decide) (ht _ kw_221) (fun _ h9 => h9) rfl d_S_count_85 ?_
            refine lv_if_eq (tgt := 101) hx hb d_S_count_88 (by decide) (fun c11 => ?_) (fun c11 => ?_)
            ·
              have hf := op_pos hf c11
              refine lv_iconst (v := 0) hx hb d_S_count_101 (by decide) ?_
              obtain ⟨hv9, rfl⟩ := op_inj hf
              exact wx_iret hx hb hr hlocks hAe hP hS hv9 d_S_count_102
            ·
              have hf := op_neg hf c11
              refine lv_aload_n hx hb d_S_count_91 rfl (lv_at hl 0 rfl) ?_
              refine wx_get (v := .ref (ad 3)) (C := RQ_S) (T := FQ_S) (N := 5) hx hb ht IQ_S hown hK hP 0 (by decide) (e_g1_0 cy ad _) rfl 2 (by decide) (ht _ kw_219) (fun _ h9 => h9) rfl d_S_count_92 ?_
              obtain ⟨r14, w13, hc12, hf⟩ := op_b2 hf
              refine wx_fi (wx_rV (As := []) (rest := []) ⟨hx, hb, hml, hown, ht⟩ (m_E_profile l D cy ad _ z0 _ _ hc12) ⟨callB_of 0 ht (gt_in (fun _ h9 => h9) kw_521) rfl rfl rfl (ht _ kw_50) (ht _ kw_518) q_E_profile ⟨Nat.le_of_ble_eq_true rfl, Nat.le_of_ble_eq_true rfl⟩, ht _ kw_519, ht _ kw_520⟩ nwC_ok hN hK hP (hD _) (by decide) (e_g1_3 cy ad _) rfl rfl hl.1 rfl (Nat.le_of_ble_eq_true rfl) d_S_count_95 ⟨Nat.zero_le _, Nat.zero_le _⟩) (hD _) hS hA (fun H locs hP hS => ?_)
              refine lv_goto (tgt := 102) hx hb d_S_count_98 (by decide) ?_
              obtain ⟨hv9, rfl⟩ := op_inj hf
              exact wx_iret hx hb hr hlocks hAe hP hS hv9 d_S_count_102
          ·
            have hf := op_neg hf c10
            have tc1 : ¬ (p1).toInt = 0 := lv_neT c1 (by decide)
            have tc5 : ¬ (p1).toInt = 1 := lv_neT c5 (by decide)
            have tc6 : ¬ (p1).toInt = 2 := lv_neT c6 (by decide)
            have tc8 : ¬ (p1).toInt = 3 := lv_neT c8 (by decide)
            have tc10 : ¬ (p1).toInt = 4 := lv_neT c10 (by decide)
            refine lv_tableOut (tgt := 103) hx hb d_S_count_1 (by omega) (by decide) ?_
            refine lv_iconst (v := -1) hx hb d_S_count_103 (by decide) ?_
            obtain ⟨hv9, rfl⟩ := op_inj hf
            exact wx_iret hx hb hr hlocks hAe hP hS hv9 d_S_count_104
