def f_T_reach (z0 : gS) (p1 : Int32) (p2 : Int32) : Option (Int32 × gS) :=
 if p1 < 0 ∨ 10 ≤ p1.toNatClampNeg then none else
 bd2 (f_S_slotOf z0 (z0.2.2.1 7 p1.toNatClampNeg) p2) (fun r4 w3 =>
 if r4 < 0 ∨ 10 ≤ r4.toNatClampNeg then none else
 if p1 < 0 ∨ 10 ≤ p1.toNatClampNeg then none else
 bd2 (f_S_slotOf w3 (w3.2.2.1 6 p1.toNatClampNeg) p2) (fun r9 w8 =>
 if r9 < 0 ∨ 10 ≤ r9.toNatClampNeg then none else
 some (((w3.2.2.1 5 r4.toNatClampNeg) - (w8.2.2.1 5 r9.toNatClampNeg)), w8)))
set_option maxHeartbeats 4000000 in
set_option maxRecDepth 100000 in
theorem m_T_reach (l : Launch) (D : va_G) (cy : Nat → ClassId) (ad : Nat → Nat) (sz : Nat) (z0 : gS) (p1 : Int32) (p2 : Int32) (r : Int32) (zz : gS) (hf : f_T_reach z0 p1 p2 = some (r, zz)) : Met l y_T_reach (Cond.code y_T_reach c_T_reach 3 (some .int) :: gt_ws) ({ frames := 1, cells := 0, slots := 0, locals := 45 }) (sPc D cl_all (gTy cy) nwC 52 ad (g1 cy ad z0) sz [.ref (ad 1), .int p1, .int p2]) (sQi D cl_all 52 ad (g1 cy ad z0) sz r (g1 cy ad zz)) 0 0 (va_A (wl 52 ad (g1 cy ad z0)) sz) := by
  refine Met.ofW (cc := c_T_reach) (maxL := 3) (ret := (some .int)) (by decide) rfl ?_
  intro p e s m args below meth c s₁ B hml hv
  obtain ⟨rfl, hsz, hP, hK, hN, hD0⟩ := hv
  have hx := B.exec
  have hb := B.bytes
  have hr := B.returns
  have hts := atoms_spec (ws := (Cond.code y_T_reach c_T_reach 3 (some .int) :: gt_ws)) B.pre
  have ht : ∀ w ∈ gt_ws, w.before _ s = true := fun w h => hts w (List.mem_cons_of_mem _ h)
  have hown : s.vm.findClass RQ_T = some m.cls := findClass_of_methodNamed B.named
  have hlocks := B.notSynchronized
  subst hsz
  have hD1 := hD0.self (sz := s.heap.size)
  obtain ⟨A, hAe⟩ : ∃ A, A = va_A (wl 52 ad (g1 cy ad z0)) s.heap.size := ⟨_, rfl⟩
  rw [← hAe] at hD1
  have hD : ∀ g, va_D A (wl 52 ad g) := fun _ => wl_D hD1
  have hA : ∀ q : Nat, s.heap.size ≤ q → A q := fun q h => by rw [hAe]; exact Or.inr h
  have hS : va_S A s.heap s.heap [] := va_S.rf
  have hl := lv_entry ([.ref (ad 1), .int p1, .int p2]) (n := 3) (Nat.le_of_ble_eq_true rfl)
  rw [lg_entry_eq]
  generalize (lg_sl ([.ref (ad 1), .int p1, .int p2]) ++ List.replicate (3 - (lg_sl ([.ref (ad 1), .int p1, .int p2])).length) Slot.unset).toArray = ls at hl ⊢
  have hl : lv_has ls 3 [(0, .ref (ad 1)), (1, .int p1), (2, .int p2)] := hl
  unfold f_T_reach at hf
  refine lv_aload_n hx hb d_T_reach_0 rfl (lv_at hl 0 rfl) ?_
  refine wx_get (v := .ref (ad 5)) (C := RQ_T) (T := FQ_T) (N := 10) hx hb ht IQ_T hown hK hP 1 (by decide) (e_g1_1 cy ad _) rfl 1 (by decide) (ht _ kw_75) (fun _ h9 => h9) rfl d_T_reach_1 ?_
  refine lv_aload_n hx hb d_T_reach_4 rfl (lv_at hl 0 rfl) ?_
  refine wx_get (v := .ref (ad 7)) (C := RQ_T) (T := FQ_T) (N := 10) hx hb ht IQ_T hown hK hP 1 (by decide) (e_g1_1 cy ad _) rfl 3 (by decide) (ht _ kw_78) (fun _ h9 => h9) rfl d_T_reach_5 ?_
  refine lv_iload_n hx hb d_T_reach_8 rfl (lv_at hl 1 rfl) ?_
  obtain ⟨h1, hf⟩ := op_chk hf
  refine wx_iald hx hb hK hP 7 (by decide) (by decide) 10 rfl h1 d_T_reach_9 ?_
  refine lv_iload_n hx hb d_T_reach_10 rfl (lv_at hl 2 rfl) ?_
  obtain ⟨r4, w3, hc2, hf⟩ := op_b2 hf
  refine wx_fi (wx_rSN (As := [.int (z0.2.2.1 7 p1.toNatClampNeg), .int p2]) (rest := [.ref (ad 5)]) ⟨hx, hb, hml, hown, ht⟩ (m_S_slotOf l D cy ad _ z0 (z0.2.2.1 7 p1.toNatClampNeg) p2 _ _ hc2) ⟨va_cnB 2 ht (gt_in (fun _ h9 => h9) kw_253) rfl rfl rfl hN.1 (ht _ kw_47) q_S_slotOf ⟨Nat.le_of_ble_eq_true rfl, Nat.le_of_ble_eq_true rfl⟩, ht _ kw_252, trivial⟩ nwC_ok hN hK hP (hD _) rfl hl.1 rfl (Nat.le_of_ble_eq_true rfl) d_T_reach_11 ⟨Nat.zero_le _, Nat.zero_le _⟩) (hD _) hS hA (fun H locs hP hS => ?_)
  obtain ⟨h5, hf⟩ := op_chk hf
  refine wx_iald hx hb hK hP 5 (by decide) (by decide) 10 rfl h5 d_T_reach_14 ?_
  refine lv_aload_n hx hb d_T_reach_15 rfl (lv_at hl 0 rfl) ?_
  refine wx_get (v := .ref (ad 5)) (C := RQ_T) (T := FQ_T) (N := 10) hx hb ht IQ_T hown hK hP 1 (by decide) (e_g1_1 cy ad _) rfl 1 (by decide) (ht _ kw_75) (fun _ h9 => h9) rfl d_T_reach_16 ?_
  refine lv_aload_n hx hb d_T_reach_19 rfl (lv_at hl 0 rfl) ?_
  refine wx_get (v := .ref (ad 6)) (C := RQ_T) (T := FQ_T) (N := 10) hx hb ht IQ_T hown hK hP 1 (by decide) (e_g1_1 cy ad _) rfl 2 (by decide) (ht _ kw_76) (fun _ h9 => h9) rfl d_T_reach_20 ?_
  refine lv_iload_n hx hb d_T_reach_23 rfl (lv_at hl 1 rfl) ?_
  obtain ⟨h6, hf⟩ := op_chk hf
  refine wx_iald hx hb hK hP 6 (by decide) (by decide) 10 rfl h6 d_T_reach_24 ?_
  refine lv_iload_n hx hb d_T_reach_25 rfl (lv_at hl 2 rfl) ?_
  obtain ⟨r9, w8, hc7, hf⟩ := op_b2 hf
  refine wx_fi (wx_rSN (As := [.int (w3.2.2.1 6 p1.toNatClampNeg), .int p2]) (rest := [.ref (ad 5), .int (w3.2.2.1 5 r4.toNatClampNeg)]) ⟨hx, hb, hml, hown, ht⟩ (m_S_slotOf l D cy ad _ w3 (w3.2.2.1 6 p1.toNatClampNeg) p2 _ _ hc7) ⟨va_cnB 2 ht (gt_in (fun _ h9 => h9) kw_253) rfl rfl rfl hN.1 (ht _ kw_47) q_S_slotOf ⟨Nat.le_of_ble_eq_true rfl, Nat.le_of_ble_eq_true rfl⟩, ht _ kw_252, trivial⟩ nwC_ok hN hK hP (hD _) rfl hl.1 rfl (Nat.le_of_ble_eq_true rfl) d_T_reach_26 ⟨Nat.zero_le _, Nat.zero_le _⟩) (hD _) hS hA (fun H locs hP hS => ?_)
  obtain ⟨h10, hf⟩ := op_chk hf
  refine wx_iald hx hb hK hP 5 (by decide) (by decide) 10 rfl h10 d_T_reach_29 ?_
  refine lv_isub hx hb d_T_reach_30 ?_
  obtain ⟨hv9, rfl⟩ := op_inj hf
  exact wx_iret hx hb hr hlocks hAe hP hS hv9 d_T_reach_31

def f_T_isGood (z0 : gS) (p1 : Int32) : Option (Int32 × gS) :=
 bd2 (f_T_reach z0 p1 (0 : Int32)) (fun r3 w2 =>
 bd2 (f_T_reach w2 p1 (1 : Int32)) (fun r6 w5 =>
 if r3 = 0 then (some ((1 : Int32), w5))
 else (if r6 = 0 then (some ((1 : Int32), w5))
 else (if (if 0 ≤ r3 then r3 else 0 - r3) = (if 0 ≤ r6 then r6 else 0 - r6) then (some ((1 : Int32), w5))
 else (some ((0 : Int32), w5))))))
set_option maxHeartbeats 4000000 in
set_option maxRecDepth 100000 in
theorem m_T_isGood (l : Launch) (D : va_G) (cy : Nat → ClassId) (ad : Nat → Nat) (sz : Nat) (z0 : gS) (p1 : Int32) (r : Int32) (zz : gS) (hf : f_T_isGood z0 p1 = some (r, zz)) : Met l y_T_isGood (Cond.code y_T_isGood c_T_isGood 4 (some .boolean) :: gt_ws) ({ frames := 2, cells := 0, slots := 0, locals := 90 }) (sPc D cl_all (gTy cy) nwC 52 ad (g1 cy ad z0) sz [.ref (ad 1), .int p1]) (sQi D cl_all 52 ad (g1 cy ad z0) sz r (g1 cy ad zz)) 0 0 (va_A (wl 52 ad (g1 cy ad z0)) sz) := by
  refine Met.ofW (cc := c_T_isGood) (maxL := 4) (ret := (some .boolean)) (by decide) rfl ?_
  intro p e s m args below meth c s₁ B hml hv
  obtain ⟨rfl, hsz, hP, hK, hN, hD0⟩ := hv
  have hx := B.exec
  have hb := B.bytes
  have hr := B.returns
  have hts := atoms_spec (ws := (Cond.code y_T_isGood c_T_isGood 4 (some .boolean) :: gt_ws)) B.pre
  have ht : ∀ w ∈ gt_ws, w.before _ s = true := fun w h => hts w (List.mem_cons_of_mem _ h)
  have hown : s.vm.findClass RQ_T = some m.cls := findClass_of_methodNamed B.named
  have hlocks := B.notSynchronized
  subst hsz
  have hD1 := hD0.self (sz := s.heap.size)
  obtain ⟨A, hAe⟩ : ∃ A, A = va_A (wl 52 ad (g1 cy ad z0)) s.heap.size := ⟨_, rfl⟩
  rw [← hAe] at hD1
  have hD : ∀ g, va_D A (wl 52 ad g) := fun _ => wl_D hD1
  have hA : ∀ q : Nat, s.heap.size ≤ q → A q := fun q h => by rw [hAe]; exact Or.inr h
  have hS : va_S A s.heap s.heap [] := va_S.rf
  have hl := lv_entry ([.ref (ad 1), .int p1]) (n := 4) (Nat.le_of_ble_eq_true rfl)
  rw [lg_entry_eq]
  generalize (lg_sl ([.ref (ad 1), .int p1]) ++ List.replicate (4 - (lg_sl ([.ref (ad 1), .int p1])).length) Slot.unset).toArray = ls at hl ⊢
  have hl : lv_has ls 4 [(0, .ref (ad 1)), (1, .int p1)] := hl
  unfold f_T_isGood at hf
  refine lv_aload_n hx hb d_T_isGood_0 rfl (lv_at hl 0 rfl) ?_
  refine lv_iload_n hx hb d_T_isGood_1 rfl (lv_at hl 1 rfl) ?_
  refine lv_iconst (v := 0) hx hb d_T_isGood_2 (by decide) ?_
  obtain ⟨r3, w2, hc1, hf⟩ := op_b2 hf
  refine wx_fi (wx_rV (As := [.int p1, .int (0 : Int32)]) (rest := []) ⟨hx, hb, hml, hown, ht⟩ (m_T_reach l D cy ad _ z0 p1 (0 : Int32) _ _ hc1) ⟨callB_of 2 ht (gt_in (fun _ h9 => h9) kw_322) rfl rfl rfl (ht _ kw_48) (ht _ kw_319) q_T_reach ⟨Nat.le_of_ble_eq_true rfl, Nat.le_of_ble_eq_true rfl⟩, ht _ kw_321, ht _ kw_2⟩ nwC_ok hN hK hP (hD _) (by decide) (e_g1_1 cy ad _) rfl rfl hl.1 rfl (Nat.le_of_ble_eq_true rfl) d_T_isGood_3 ⟨Nat.zero_le _, Nat.zero_le _⟩) (hD _) hS hA (fun H locs hP hS => ?_)
  refine lv_istore_n (lv' := [(2, .int r3), (0, .ref (ad 1)), (1, .int p1)]) hx hb d_T_isGood_6 rfl hl (by decide) rfl (fun ls hl => ?_)
  refine lv_aload_n hx hb d_T_isGood_7 rfl (lv_at hl 1 rfl) ?_
  refine lv_iload_n hx hb d_T_isGood_8 rfl (lv_at hl 2 rfl) ?_
  refine lv_iconst (v := 1) hx hb d_T_isGood_9 (by decide) ?_
  obtain ⟨r6, w5, hc4, hf⟩ := op_b2 hf
  refine wx_fi (wx_rV (As := [.int p1, .int (1 : Int32)]) (rest := []) ⟨hx, hb, hml, hown, ht⟩ (m_T_reach l D cy ad _ w2 p1 (1 : Int32) _ _ hc4) ⟨callB_of 2 ht (gt_in (fun _ h9 => h9) kw_322) rfl rfl rfl (ht _ kw_48) (ht _ kw_319) q_T_reach ⟨Nat.le_of_ble_eq_true rfl, Nat.le_of_ble_eq_true rfl⟩, ht _ kw_321, ht _ kw_2⟩ nwC_ok hN hK hP (hD _) (by decide) (e_g1_1 cy ad _) rfl rfl hl.1 rfl (Nat.le_of_ble_eq_true rfl) d_T_isGood_10 ⟨Nat.zero_le _, Nat.zero_le _⟩) (hD _) hS hA (fun H locs hP hS => ?_)
  refine lv_istore_n (lv' := [(3, .int r6), (2, .int r3), (0, .ref (ad 1)), (1, .int p1)]) hx hb d_T_isGood_13 rfl hl (by decide) rfl (fun ls hl => ?_)
  refine lv_iload_n hx hb d_T_isGood_14 rfl (lv_at hl 1 rfl) ?_
  refine lv_if_eq (tgt := 33) hx hb d_T_isGood_15 (by decide) (fun c7 => ?_) (fun c7 => ?_)
  ·
    have hf := op_pos hf c7
    refine lv_iconst (v := 1) hx hb d_T_isGood_33 (by decide) ?_
    refine lv_goto (tgt := 38) hx hb d_T_isGood_34 (by decide) ?_
    obtain ⟨hv9, rfl⟩ := op_inj hf
    exact wx_zret hx hb hr hlocks (by first | decide | rfl) hAe hP hS hv9 d_T_isGood_38
  ·
    have hf := op_neg hf c7
    refine lv_iload_n hx hb d_T_isGood_18 rfl (lv_at hl 0 rfl) ?_
    refine lv_if_eq (tgt := 33) hx hb d_T_isGood_19 (by decide) (fun c8 => ?_) (fun c8 => ?_)
    ·
      have hf := op_pos hf c8
      refine lv_iconst (v := 1) hx hb d_T_isGood_33 (by decide) ?_
      refine lv_goto (tgt := 38) hx hb d_T_isGood_34 (by decide) ?_
      obtain ⟨hv9, rfl⟩ := op_inj hf
      exact wx_zret hx hb hr hlocks (by first | decide | rfl) hAe hP hS hv9 d_T_isGood_38
    ·
      have hf := op_neg hf c8
      refine lv_iload_n hx hb d_T_isGood_22 rfl (lv_at hl 1 rfl) ?_
      refine va_mabs hx hb (hml.trans hl.1.symm) hown (ht _ kw_323) (ht _ kw_324) (ht _ kw_54) (ht _ kw_325) (Nat.le_of_ble_eq_true rfl) (Nat.le_of_ble_eq_true rfl) (Nat.zero_le _) (Nat.zero_le _) d_T_isGood_23 ?_
      refine lv_iload_n hx hb d_T_isGood_26 rfl (lv_at hl 0 rfl) ?_
      refine va_mabs hx hb (hml.trans hl.1.symm) hown (ht _ kw_323) (ht _ kw_324) (ht _ kw_54) (ht _ kw_325) (Nat.le_of_ble_eq_true rfl) (Nat.le_of_ble_eq_true rfl) (Nat.zero_le _) (Nat.zero_le _) d_T_isGood_27 ?_
      refine lv_icmp_ne (tgt := 37) hx hb d_T_isGood_30 (by decide) (fun c9 => ?_) (fun c9 => ?_)
      ·
        have hf := op_neg hf c9
        refine lv_iconst (v := 0) hx hb d_T_isGood_37 (by decide) ?_
        obtain ⟨hv9, rfl⟩ := op_inj hf
        exact wx_zret hx hb hr hlocks (by first | decide | rfl) hAe hP hS hv9 d_T_isGood_38
      ·
        have hf := op_pos hf c9
        refine lv_iconst (v := 1) hx hb d_T_isGood_33 (by decide) ?_
        refine lv_goto (tgt := 38) hx hb d_T_isGood_34 (by decide) ?_
        obtain ⟨hv9, rfl⟩ := op_inj hf
        exact wx_zret hx hb hr hlocks (by first | decide | rfl) hAe hP hS hv9 d_T_isGood_38

def l_T_firstBadBar_2 : Nat → gS → Int32 → Option (Nat × Int32 × gS)
  | 0, _, _ => none
  | n + 1, z, x1 =>
    if (z.1 2) ≤ x1 then (some (1, x1, z))
     else (if x1 < 0 ∨ 10 ≤ x1.toNatClampNeg then none else
     bd2 (f_T_isThere z (z.2.2.1 6 x1.toNatClampNeg)) (fun r5 w4 =>
     if r5 = 0 then (some (0, x1, w4))
     else (if x1 < 0 ∨ 10 ≤ x1.toNatClampNeg then none else
     bd2 (f_T_isThere w4 (w4.2.2.1 7 x1.toNatClampNeg)) (fun r10 w9 =>
     if r10 = 0 then (some (0, x1, w9))
     else (bd2 (f_T_isGood w9 x1) (fun r14 w13 =>
     if r14 = 0 then (some (0, x1, w13))
     else (l_T_firstBadBar_2 n w13 (x1 + (1 : Int32)))))))))
def f_T_firstBadBar (z0 : gS) : Option (Int32 × gS) :=
 bd3 (l_T_firstBadBar_2 200 z0 (0 : Int32)) (fun e16 v17 w18 =>
 if e16 = 0 then (some (v17, w18))
 else (some ((-1 : Int32), w18)))
set_option maxHeartbeats 4000000 in
set_option maxRecDepth 100000 in
theorem m_T_firstBadBar (l : Launch) (D : va_G) (cy : Nat → ClassId) (ad : Nat → Nat) (sz : Nat) (z0 : gS) (r : Int32) (zz : gS) (hf : f_T_firstBadBar z0 = some (r, zz)) : Met l y_T_firstBadBar (Cond.code y_T_firstBadBar c_T_firstBadBar 2 (some .int) :: gt_ws) ({ frames := 3, cells := 0, slots := 0, locals := 135 }) (sPc D cl_all (gTy cy) nwC 52 ad (g1 cy ad z0) sz [.ref (ad 1)]) (sQi D cl_all 52 ad (g1 cy ad z0) sz r (g1 cy ad zz)) 0 0 (va_A (wl 52 ad (g1 cy ad z0)) sz) := by
  refine Met.ofW (cc := c_T_firstBadBar) (maxL := 2) (ret := (some .int)) (by decide) rfl ?_
  intro p e s m args below meth c s₁ B hml hv
  obtain ⟨rfl, hsz, hP, hK, hN, hD0⟩ := hv
  have hx := B.exec
  have hb := B.bytes
  have hr := B.returns
  have hts := atoms_spec (ws := (Cond.code y_T_firstBadBar c_T_firstBadBar 2 (some .int) :: gt_ws)) B.pre
  have ht : ∀ w ∈ gt_ws, w.before _ s = true := fun w h => hts w (List.mem_cons_of_mem _ h)
  have hown : s.vm.findClass RQ_T = some m.cls := findClass_of_methodNamed B.named
  have hlocks := B.notSynchronized
  subst hsz
  have hD1 := hD0.self (sz := s.heap.size)
  obtain ⟨A, hAe⟩ : ∃ A, A = va_A (wl 52 ad (g1 cy ad z0)) s.heap.size := ⟨_, rfl⟩
  rw [← hAe] at hD1
  have hD : ∀ g, va_D A (wl 52 ad g) := fun _ => wl_D hD1
  have hA : ∀ q : Nat, s.heap.size ≤ q → A q := fun q h => by rw [hAe]; exact Or.inr h
  have hS : va_S A s.heap s.heap [] := va_S.rf
  have hl := lv_entry ([.ref (ad 1)]) (n := 2) (Nat.le_of_ble_eq_true rfl)
  rw [lg_entry_eq]
  generalize (lg_sl ([.ref (ad 1)]) ++ List.replicate (2 - (lg_sl ([.ref (ad 1)])).length) Slot.unset).toArray = ls at hl ⊢
  have hl : lv_has ls 2 [(0, .ref (ad 1))] := hl
  have L_2 : ∀ (n : Nat) (z : gS) (x1 : Int32) (ee : Nat) (y1 : Int32) (z9 : gS), l_T_firstBadBar_2 n z x1 = some (ee, y1, z9) → ∀ (H : Heap) (locs : List Loc) (ls : Array Slot), va_P D cl_all (wl 52 ad (g1 cy ad z)) H → va_S A s.heap H locs → lv_has ls 2 [(0, .ref (ad 1)), (1, .int x1)] →
      (ee = 0 → ∀ (H : Heap) (locs : List Loc) (ls : Array Slot), va_P D cl_all (wl 52 ad (g1 cy ad z9)) H → va_S A s.heap H locs → lv_has ls 2 [(1, .int y1)] → W p l e (headSpec (Cond.code y_T_firstBadBar c_T_firstBadBar 2 (some .int) :: gt_ws) ({ frames := 3, cells := 0, slots := 0, locals := 135 })).room s m ([.ref (ad 1)]).toArray below meth c H locs 0 0 (MQ below (sQi D cl_all 52 ad (g1 cy ad z0) s.heap.size r (g1 cy ad zz)) ([.ref (ad 1)]).toArray s 0 0 (va_A (wl 52 ad (g1 cy ad z0)) s.heap.size)) (F0 m 44 ls [])) →
      (ee = 1 → ∀ (H : Heap) (locs : List Loc) (ls : Array Slot), va_P D cl_all (wl 52 ad (g1 cy ad z9)) H → va_S A s.heap H locs → lv_has ls 2 [] → W p l e (headSpec (Cond.code y_T_firstBadBar c_T_firstBadBar 2 (some .int) :: gt_ws) ({ frames := 3, cells := 0, slots := 0, locals := 135 })).room s m ([.ref (ad 1)]).toArray below meth c H locs 0 0 (MQ below (sQi D cl_all 52 ad (g1 cy ad z0) s.heap.size r (g1 cy ad zz)) ([.ref (ad 1)]).toArray s 0 0 (va_A (wl 52 ad (g1 cy ad z0)) s.heap.size)) (F0 m 52 ls [])) →
      W p l e (headSpec (Cond.code y_T_firstBadBar c_T_firstBadBar 2 (some .int) :: gt_ws) ({ frames := 3, cells := 0, slots := 0, locals := 135 })).room s m ([.ref (ad 1)]).toArray below meth c H locs 0 0 (MQ below (sQi D cl_all 52 ad (g1 cy ad z0) s.heap.size r (g1 cy ad zz)) ([.ref (ad 1)]).toArray s 0 0 (va_A (wl 52 ad (g1 cy ad z0)) s.heap.size)) (F0 m 2 ls []) := by
    intro n
    induction n with
    | zero => intro z x1 ee y1 z9 hf; rw [l_T_firstBadBar_2] at hf; cases hf
    | succ n ih =>
      intro z x1 ee y1 z9 hf H locs ls hP hS hl k_0 k_1
      rw [l_T_firstBadBar_2] at hf
      refine lv_iload_n hx hb d_T_firstBadBar_2 rfl (lv_at hl 1 rfl) ?_
      refine lv_aload_n hx hb d_T_firstBadBar_3 rfl (lv_at hl 0 rfl) ?_
      refine wx_get (v := .int (z.1 2)) (C := RQ_T) (T := FQ_T) (N := 10) hx hb ht IQ_T hown hK hP 1 (by decide) (e_g1_1 cy ad _) rfl 5 (by decide) (ht _ kw_83) (fun _ h9 => h9) rfl d_T_firstBadBar_4 ?_
      refine lv_icmp_ge (tgt := 52) hx hb d_T_firstBadBar_7 (by decide) (fun c1 => ?_) (fun c1 => ?_)
      ·
        have hf := op_pos hf c1
        cases hf
        exact k_1 rfl _ _ _ hP hS (lv_sub hl [] rfl)
      ·
        have hf := op_neg hf c1
        refine lv_aload_n hx hb d_T_firstBadBar_10 rfl (lv_at hl 0 rfl) ?_
        refine lv_aload_n hx hb d_T_firstBadBar_11 rfl (lv_at hl 0 rfl) ?_
        refine wx_get (v := .ref (ad 6)) (C := RQ_T) (T := FQ_T) (N := 10) hx hb ht IQ_T hown hK hP 1 (by decide) (e_g1_1 cy ad _) rfl 2 (by decide) (ht _ kw_76) (fun _ h9 => h9) rfl d_T_firstBadBar_12 ?_
        refine lv_iload_n hx hb d_T_firstBadBar_15 rfl (lv_at hl 1 rfl) ?_
        obtain ⟨h2, hf⟩ := op_chk hf
        refine wx_iald hx hb hK hP 6 (by decide) (by decide) 10 rfl h2 d_T_firstBadBar_16 ?_
        obtain ⟨r5, w4, hc3, hf⟩ := op_b2 hf
        refine wx_fi (wx_rV (As := [.int (z.2.2.1 6 x1.toNatClampNeg)]) (rest := []) ⟨hx, hb, hml, hown, ht⟩ (m_T_isThere l D cy ad _ z (z.2.2.1 6 x1.toNatClampNeg) _ _ hc3) ⟨callB_of 1 ht (gt_in (fun _ h9 => h9) kw_250) rfl rfl rfl (ht _ kw_48) (ht _ kw_247) q_T_isThere ⟨Nat.le_of_ble_eq_true rfl, Nat.le_of_ble_eq_true rfl⟩, ht _ kw_248, ht _ kw_249⟩ nwC_ok hN hK hP (hD _) (by decide) (e_g1_1 cy ad _) rfl rfl hl.1 rfl (Nat.le_of_ble_eq_true rfl) d_T_firstBadBar_17 ⟨Nat.zero_le _, Nat.zero_le _⟩) (hD _) hS hA (fun H locs hP hS => ?_)
        refine lv_if_eq (tgt := 44) hx hb d_T_firstBadBar_20 (by decide) (fun c6 => ?_) (fun c6 => ?_)
        ·
          have hf := op_pos hf c6
          cases hf
          exact k_0 rfl _ _ _ hP hS (lv_sub hl [1] rfl)
        ·
          have hf := op_neg hf c6
          refine lv_aload_n hx hb d_T_firstBadBar_23 rfl (lv_at hl 0 rfl) ?_
          refine lv_aload_n hx hb d_T_firstBadBar_24 rfl (lv_at hl 0 rfl) ?_
          refine wx_get (v := .ref (ad 7)) (C := RQ_T) (T := FQ_T) (N := 10) hx hb ht IQ_T hown hK hP 1 (by decide) (e_g1_1 cy ad _) rfl 3 (by decide) (ht _ kw_78) (fun _ h9 => h9) rfl d_T_firstBadBar_25 ?_
          refine lv_iload_n hx hb d_T_firstBadBar_28 rfl (lv_at hl 1 rfl) ?_
          obtain ⟨h7, hf⟩ := op_chk hf
          refine wx_iald hx hb hK hP 7 (by decide) (by decide) 10 rfl h7 d_T_firstBadBar_29 ?_
          obtain ⟨r10, w9, hc8, hf⟩ := op_b2 hf
          refine wx_fi (wx_rV (As := [.int (w4.2.2.1 7 x1.toNatClampNeg)]) (rest := []) ⟨hx, hb, hml, hown, ht⟩ (m_T_isThere l D cy ad _ w4 (w4.2.2.1 7 x1.toNatClampNeg) _ _ hc8) ⟨callB_of 1 ht (gt_in (fun _ h9 => h9) kw_250) rfl rfl rfl (ht _ kw_48) (ht _ kw_247) q_T_isThere ⟨Nat.le_of_ble_eq_true rfl, Nat.le_of_ble_eq_true rfl⟩, ht _ kw_248, ht _ kw_249⟩ nwC_ok hN hK hP (hD _) (by decide) (e_g1_1 cy ad _) rfl rfl hl.1 rfl (Nat.le_of_ble_eq_true rfl) d_T_firstBadBar_30 ⟨Nat.zero_le _, Nat.zero_le _⟩) (hD _) hS hA (fun H locs hP hS => ?_)
          refine lv_if_eq (tgt := 44) hx hb d_T_firstBadBar_33 (by decide) (fun c11 => ?_) (fun c11 => ?_)
          ·
            have hf := op_pos hf c11
            cases hf
            exact k_0 rfl _ _ _ hP hS (lv_sub hl [1] rfl)
          ·
            have hf := op_neg hf c11
            refine lv_aload_n hx hb d_T_firstBadBar_36 rfl (lv_at hl 0 rfl) ?_
            refine lv_iload_n hx hb d_T_firstBadBar_37 rfl (lv_at hl 1 rfl) ?_
            obtain ⟨r14, w13, hc12, hf⟩ := op_b2 hf
            refine wx_fi (wx_rV (As := [.int x1]) (rest := []) ⟨hx, hb, hml, hown, ht⟩ (m_T_isGood l D cy ad _ w9 x1 _ _ hc12) ⟨callB_of 1 ht (gt_in (fun _ h9 => h9) kw_318) rfl rfl rfl (ht _ kw_48) (ht _ kw_315) q_T_isGood ⟨Nat.le_of_ble_eq_true rfl, Nat.le_of_ble_eq_true rfl⟩, ht _ kw_317, ht _ kw_1⟩ nwC_ok hN hK hP (hD _) (by decide) (e_g1_1 cy ad _) rfl rfl hl.1 rfl (Nat.le_of_ble_eq_true rfl) d_T_firstBadBar_38 ⟨Nat.zero_le _, Nat.zero_le _⟩) (hD _) hS hA (fun H locs hP hS => ?_)
            refine lv_if_ne (tgt := 46) hx hb d_T_firstBadBar_41 (by decide) (fun c15 => ?_) (fun c15 => ?_)
            ·
              have hf := op_neg hf c15
              refine lv_iinc (v := x1 + (1 : Int32)) (lv' := [(1, .int (x1 + (1 : Int32))), (0, .ref (ad 1))]) hx hb d_T_firstBadBar_46 hl (k := 1) rfl rfl (by decide) rfl (fun ls hl => ?_)
              refine lv_goto (tgt := 2) hx hb d_T_firstBadBar_49 (by decide) ?_
              exact ih _ _ _ _ _ hf _ _ _ hP hS (lv_sub hl [1, 0] rfl) k_0 k_1
            ·
              have hf := op_pos hf c15
              cases hf
              exact k_0 rfl _ _ _ hP hS (lv_sub hl [1] rfl)
  unfold f_T_firstBadBar at hf
  refine lv_iconst (v := 0) hx hb d_T_firstBadBar_0 (by decide) ?_
  refine lv_istore_n (lv' := [(1, .int (0 : Int32)), (0, .ref (ad 1))]) hx hb d_T_firstBadBar_1 rfl hl (by decide) rfl (fun ls hl => ?_)
  obtain ⟨e16, v17, w18, hc19, hf⟩ := op_b3 hf
  refine L_2 _ _ _ _ _ _ hc19 _ _ _ hP hS (lv_sub hl [1, 0] rfl) (fun he_e16 H locs ls hP hS hl => ?_) (fun he_e16 H locs ls hP hS hl => ?_)
  ·
    have hf := op_pos hf he_e16
    refine lv_iload_n hx hb d_T_firstBadBar_44 rfl (lv_at hl 0 rfl) ?_
    obtain ⟨hv9, rfl⟩ := op_inj hf
    exact wx_iret hx hb hr hlocks hAe hP hS hv9 d_T_firstBadBar_45
  ·
    have hf := op_neg hf (by omega)
    refine lv_iconst (v := -1) hx hb d_T_firstBadBar_52 (by decide) ?_
    obtain ⟨hv9, rfl⟩ := op_inj hf
    exact wx_iret hx hb hr hlocks hAe hP hS hv9 d_T_firstBadBar_53

def l_J_fillI_13_5 : Nat → gS → Int32 → Int32 → Int32 → Option (gS)
  | 0, _, _, _, _ => none
  | n + 1, z, x1, x2, x3 =>
    if x3 ≤ x2 then (some z)
     else (if x2 < 0 ∨ 5 ≤ x2.toNatClampNeg then none else
     (some (s_I z 13 (upd (z.2.2.1 13) x2.toNatClampNeg x1))).bind (fun w3 =>
     l_J_fillI_13_5 n w3 x1 (x2 + (1 : Int32)) x3))
def f_J_fillI_13 (z0 : gS) (p1 : Int32) : Option gS :=
 bd1 (l_J_fillI_13_5 200 z0 p1 (0 : Int32) (5 : Int32)) (fun w5 =>
 some w5)
set_option maxHeartbeats 4000000 in
set_option maxRecDepth 100000 in
theorem m_J_fillI_13 (l : Launch) (D : va_G) (cy : Nat → ClassId) (ad : Nat → Nat) (sz : Nat) (z0 : gS) (p1 : Int32) (zz : gS) (hf : f_J_fillI_13 z0 p1 = some zz) : Met l y_J_fillI (Cond.code y_J_fillI c_J_fillI 4 none :: gt_ws) ({ frames := 0, cells := 0, slots := 0, locals := 0 }) (sPc D cl_all (gTy cy) nwC 52 ad (g1 cy ad z0) sz [.ref (ad 13), .int p1]) (sQv D cl_all 52 ad (g1 cy ad z0) sz (g1 cy ad zz)) 0 0 (va_A (wl 52 ad (g1 cy ad z0)) sz) := by
  refine Met.ofW (cc := c_J_fillI) (maxL := 4) (ret := none) (by decide) rfl ?_
  intro p e s m args below meth c s₁ B hml hv
  obtain ⟨rfl, hsz, hP, hK, hN, hD0⟩ := hv
  have hx := B.exec
  have hb := B.bytes
  have hr := B.returns
  have hts := atoms_spec (ws := (Cond.code y_J_fillI c_J_fillI 4 none :: gt_ws)) B.pre
  have ht : ∀ w ∈ gt_ws, w.before _ s = true := fun w h => hts w (List.mem_cons_of_mem _ h)
  have hown : s.vm.findClass RQ_JA = some m.cls := findClass_of_methodNamed B.named
  have hlocks := B.notSynchronized
  subst hsz
  have hD1 := hD0.self (sz := s.heap.size)
  obtain ⟨A, hAe⟩ : ∃ A, A = va_A (wl 52 ad (g1 cy ad z0)) s.heap.size := ⟨_, rfl⟩
  rw [← hAe] at hD1
  have hD : ∀ g, va_D A (wl 52 ad g) := fun _ => wl_D hD1
  have hA : ∀ q : Nat, s.heap.size ≤ q → A q := fun q h => by rw [hAe]; exact Or.inr h
  have hS : va_S A s.heap s.heap [] := va_S.rf
  have hl := lv_entry ([.ref (ad 13), .int p1]) (n := 4) (Nat.le_of_ble_eq_true rfl)
  rw [lg_entry_eq]
  generalize (lg_sl ([.ref (ad 13), .int p1]) ++ List.replicate (4 - (lg_sl ([.ref (ad 13), .int p1])).length) Slot.unset).toArray = ls at hl ⊢
  have hl : lv_has ls 4 [(0, .ref (ad 13)), (1, .int p1)] := hl
  have L_5 : ∀ (n : Nat) (z : gS) (x1 : Int32) (x2 : Int32) (x3 : Int32) (z9 : gS), l_J_fillI_13_5 n z x1 x2 x3 = some z9 → ∀ (H : Heap) (locs : List Loc) (ls : Array Slot), va_P D cl_all (wl 52 ad (g1 cy ad z)) H → va_S A s.heap H locs → lv_has ls 4 [(0, .ref (ad 13)), (1, .int x1), (2, .int x2), (3, .int x3)] →
      (∀ (H : Heap) (locs : List Loc) (ls : Array Slot), va_P D cl_all (wl 52 ad (g1 cy ad z9)) H → va_S A s.heap H locs → lv_has ls 4 [] → W p l e (headSpec (Cond.code y_J_fillI c_J_fillI 4 none :: gt_ws) ({ frames := 0, cells := 0, slots := 0, locals := 0 })).room s m ([.ref (ad 13), .int p1]).toArray below meth c H locs 0 0 (MQ below (sQv D cl_all 52 ad (g1 cy ad z0) s.heap.size (g1 cy ad zz)) ([.ref (ad 13), .int p1]).toArray s 0 0 (va_A (wl 52 ad (g1 cy ad z0)) s.heap.size)) (F0 m 20 ls [])) →
      W p l e (headSpec (Cond.code y_J_fillI c_J_fillI 4 none :: gt_ws) ({ frames := 0, cells := 0, slots := 0, locals := 0 })).room s m ([.ref (ad 13), .int p1]).toArray below meth c H locs 0 0 (MQ below (sQv D cl_all 52 ad (g1 cy ad z0) s.heap.size (g1 cy ad zz)) ([.ref (ad 13), .int p1]).toArray s 0 0 (va_A (wl 52 ad (g1 cy ad z0)) s.heap.size)) (F0 m 5 ls []) := by
    intro n
    induction n with
    | zero => intro z x1 x2 x3 z9 hf; rw [l_J_fillI_13_5] at hf; cases hf
    | succ n ih =>
      intro z x1 x2 x3 z9 hf H locs ls hP hS hl k_0
      rw [l_J_fillI_13_5] at hf
      refine lv_iload_n hx hb d_J_fillI_5 rfl (lv_at hl 2 rfl) ?_
      refine lv_iload_n hx hb d_J_fillI_6 rfl (lv_at hl 3 rfl) ?_
      refine lv_icmp_ge (tgt := 20) hx hb d_J_fillI_7 (by decide) (fun c1 => ?_) (fun c1 => ?_)
      ·
        have hf := op_pos hf c1
        cases hf
        exact k_0 _ _ _ hP hS (lv_sub hl [] rfl)
      ·
        have hf := op_neg hf c1
        refine lv_aload_n hx hb d_J_fillI_10 rfl (lv_at hl 0 rfl) ?_
        refine lv_iload_n hx hb d_J_fillI_11 rfl (lv_at hl 2 rfl) ?_
        refine lv_iload_n hx hb d_J_fillI_12 rfl (lv_at hl 1 rfl) ?_
        obtain ⟨h2, hf⟩ := op_chk hf
        refine wx_iast hx hb hK hP (hD _) hS 13 (by decide) (by decide) 5 rfl h2 d_J_fillI_13 (fun H locs hP hS => ?_)
        obtain ⟨w3, h4, hf⟩ := op_let hf
        rw [h4] at hP
        refine lv_iinc (v := x2 + (1 : Int32)) (lv' := [(2, .int (x2 + (1 : Int32))), (0, .ref (ad 13)), (1, .int x1), (3, .int x3)]) hx hb d_J_fillI_14 hl (k := 2) rfl rfl (by decide) rfl (fun ls hl => ?_)
        refine lv_goto (tgt := 5) hx hb d_J_fillI_17 (by decide) ?_
        exact ih _ _ _ _ _ hf _ _ _ hP hS (lv_sub hl [1, 2, 0, 3] rfl) k_0
  unfold f_J_fillI_13 at hf
  refine lv_iconst (v := 0) hx hb d_J_fillI_0 (by decide) ?_
  refine lv_istore_n (lv' := [(2, .int (0 : Int32)), (0, .ref (ad 13)), (1, .int p1)]) hx hb d_J_fillI_1 rfl hl (by decide) rfl (fun ls hl => ?_)
  refine lv_aload_n hx hb d_J_fillI_2 rfl (lv_at hl 1 rfl) ?_
  refine wx_leni (v := 5) hx hb hK hP 13 (by decide) (by decide) rfl d_J_fillI_3 ?_
  refine lv_istore_n (lv' := [(3, .int (5 : Int32)), (2, .int (0 : Int32)), (0, .ref (ad 13)), (1, .int p1)]) hx hb d_J_fillI_4 rfl hl (by decide) rfl (fun ls hl => ?_)
  obtain ⟨w5, hc6, hf⟩ := op_b1 hf
  refine L_5 _ _ _ _ _ _ hc6 _ _ _ hP hS (lv_sub hl [2, 3, 1, 0] rfl) (fun H locs ls hP hS hl => ?_)
  obtain rfl := Option.some.inj hf
  exact wx_vret hx hb hr hlocks hAe hP hS d_J_fillI_20

def l_N_findNeighbours_1_10 : Nat → gS → Int32 → Option (gS)
  | 0, _, _ => none
  | n + 1, z, x2 =>
    if (z.1 2) ≤ x2 then (some z)
     else (if x2 < 0 ∨ 10 ≤ x2.toNatClampNeg then none else
     (some ((z.2.2.1 6 x2.toNatClampNeg) : Int32)).bind (fun v3 =>
     if x2 < 0 ∨ 10 ≤ x2.toNatClampNeg then none else
     (some ((z.2.2.1 7 x2.toNatClampNeg) : Int32)).bind (fun v6 =>
     if v3 < 0 ∨ 5 ≤ v3.toNatClampNeg then none else
     if v3 < 0 ∨ 5 ≤ v3.toNatClampNeg then none else
     (some (s_I z 13 (upd (z.2.2.1 13) v3.toNatClampNeg ((z.2.2.1 13 v3.toNatClampNeg) ||| ((1 : Int32) <<< (v6 &&& 31)))))).bind (fun w10 =>
     if v6 < 0 ∨ 5 ≤ v6.toNatClampNeg then none else
     if v6 < 0 ∨ 5 ≤ v6.toNatClampNeg then none else
     (some (s_I w10 13 (upd (w10.2.2.1 13) v6.toNatClampNeg ((w10.2.2.1 13 v6.toNatClampNeg) ||| ((1 : Int32) <<< (v3 &&& 31)))))).bind (fun w14 =>
     l_N_findNeighbours_1_10 n w14 (x2 + (1 : Int32)))))))
def f_N_findNeighbours_1 (z0 : gS) : Option gS :=
 bd1 (f_J_fillI_13 z0 (0 : Int32)) (fun w17 =>
 bd1 (l_N_findNeighbours_1_10 200 w17 (0 : Int32)) (fun w18 =>
 some w18))
set_option maxHeartbeats 4000000 in
set_option maxRecDepth 100000 in
theorem m_N_findNeighbours_1 (l : Launch) (D : va_G) (cy : Nat → ClassId) (ad : Nat → Nat) (sz : Nat) (z0 : gS) (zz : gS) (hf : f_N_findNeighbours_1 z0 = some zz) : Met l y_N_findNeighbours (Cond.code y_N_findNeighbours c_N_findNeighbours 5 none :: gt_ws) ({ frames := 1, cells := 0, slots := 0, locals := 45 }) (sPc D cl_all (gTy cy) nwC 52 ad (g1 cy ad z0) sz [.ref (ad 2), .ref (ad 1)]) (sQv D cl_all 52 ad (g1 cy ad z0) sz (g1 cy ad zz)) 0 0 (va_A (wl 52 ad (g1 cy ad z0)) sz) := by
  refine Met.ofW (cc := c_N_findNeighbours) (maxL := 5) (ret := none) (by decide) rfl ?_
  intro p e s m args below meth c s₁ B hml hv
  obtain ⟨rfl, hsz, hP, hK, hN, hD0⟩ := hv
  have hx := B.exec
  have hb := B.bytes
  have hr := B.returns
  have hts := atoms_spec (ws := (Cond.code y_N_findNeighbours c_N_findNeighbours 5 none :: gt_ws)) B.pre
  have ht : ∀ w ∈ gt_ws, w.before _ s = true := fun w h => hts w (List.mem_cons_of_mem _ h)
  have hown : s.vm.findClass RQ_N = some m.cls := findClass_of_methodNamed B.named
  have hlocks := B.notSynchronized
  subst hsz
  have hD1 := hD0.self (sz := s.heap.size)
  obtain ⟨A, hAe⟩ : ∃ A, A = va_A (wl 52 ad (g1 cy ad z0)) s.heap.size := ⟨_, rfl⟩
  rw [← hAe] at hD1
  have hD : ∀ g, va_D A (wl 52 ad g) := fun _ => wl_D hD1
  have hA : ∀ q : Nat, s.heap.size ≤ q → A q := fun q h => by rw [hAe]; exact Or.inr h
  have hS : va_S A s.heap s.heap [] := va_S.rf
  have hl := lv_entry ([.ref (ad 2), .ref (ad 1)]) (n := 5) (Nat.le_of_ble_eq_true rfl)
  rw [lg_entry_eq]
  generalize (lg_sl ([.ref (ad 2), .ref (ad 1)]) ++ List.replicate (5 - (lg_sl ([.ref (ad 2), .ref (ad 1)])).length) Slot.unset).toArray = ls at hl ⊢
  have hl : lv_has ls 5 [(0, .ref (ad 2)), (1, .ref (ad 1))] := hl
  have L_10 : ∀ (n : Nat) (z : gS) (x2 : Int32) (z9 : gS), l_N_findNeighbours_1_10 n z x2 = some z9 → ∀ (H : Heap) (locs : List Loc) (ls : Array Slot), va_P D cl_all (wl 52 ad (g1 cy ad z)) H → va_S A s.heap H locs → lv_has ls 5 [(0, .ref (ad 2)), (1, .ref (ad 1)), (2, .int x2)] →
      (∀ (H : Heap) (locs : List Loc) (ls : Array Slot), va_P D cl_all (wl 52 ad (g1 cy ad z9)) H → va_S A s.heap H locs → lv_has ls 5 [] → W p l e (headSpec (Cond.code y_N_findNeighbours c_N_findNeighbours 5 none :: gt_ws) ({ frames := 1, cells := 0, slots := 0, locals := 45 })).room s m ([.ref (ad 2), .ref (ad 1)]).toArray below meth c H locs 0 0 (MQ below (sQv D cl_all 52 ad (g1 cy ad z0) s.heap.size (g1 cy ad zz)) ([.ref (ad 2), .ref (ad 1)]).toArray s 0 0 (va_A (wl 52 ad (g1 cy ad z0)) s.heap.size)) (F0 m 65 ls [])) →
      W p l e (headSpec (Cond.code y_N_findNeighbours c_N_findNeighbours 5 none :: gt_ws) ({ frames := 1, cells := 0, slots := 0, locals := 45 })).room s m ([.ref (ad 2), .ref (ad 1)]).toArray below meth c H locs 0 0 (MQ below (sQv D cl_all 52 ad (g1 cy ad z0) s.heap.size (g1 cy ad zz)) ([.ref (ad 2), .ref (ad 1)]).toArray s 0 0 (va_A (wl 52 ad (g1 cy ad z0)) s.heap.size)) (F0 m 10 ls []) := by
    intro n
    induction n with
    | zero => intro z x2 z9 hf; rw [l_N_findNeighbours_1_10] at hf; cases hf
    | succ n ih =>
      intro z x2 z9 hf H locs ls hP hS hl k_0
      rw [l_N_findNeighbours_1_10] at hf
      refine lv_iload_n hx hb d_N_findNeighbours_10 rfl (lv_at hl 2 rfl) ?_
      refine lv_aload_n hx hb d_N_findNeighbours_11 rfl (lv_at hl 1 rfl) ?_
      refine wx_get (v := .int (z.1 2)) (C := RQ_T) (T := FQ_T) (N := 10) hx hb ht IQ_T hown hK hP 1 (by decide) (e_g1_1 cy ad _) rfl 5 (by decide) (ht _ kw_84) (fun _ h9 => h9) rfl d_N_findNeighbours_12 ?_
      refine lv_icmp_ge (tgt := 65) hx hb d_N_findNeighbours_15 (by decide) (fun c1 => ?_) (fun c1 => ?_)
      ·
        have hf := op_pos hf c1
        cases hf
        exact k_0 _ _ _ hP hS (lv_sub hl [] rfl)
      ·
        have hf := op_neg hf c1
        refine lv_aload_n hx hb d_N_findNeighbours_18 rfl (lv_at hl 1 rfl) ?_
        refine wx_get (v := .ref (ad 6)) (C := RQ_T) (T := FQ_T) (N := 10) hx hb ht IQ_T hown hK hP 1 (by decide) (e_g1_1 cy ad _) rfl 2 (by decide) (ht _ kw_77) (fun _ h9 => h9) rfl d_N_findNeighbours_19 ?_
        refine lv_iload_n hx hb d_N_findNeighbours_22 rfl (lv_at hl 2 rfl) ?_
        obtain ⟨h2, hf⟩ := op_chk hf
        refine wx_iald hx hb hK hP 6 (by decide) (by decide) 10 rfl h2 d_N_findNeighbours_23 ?_
        obtain ⟨v3, h4, hf⟩ := op_let hf
        refine sw_i h4 ?_
        refine lv_istore_n (lv' := [(3, .int v3), (0, .ref (ad 2)), (1, .ref (ad 1)), (2, .int x2)]) hx hb d_N_findNeighbours_24 rfl hl (by decide) rfl (fun ls hl => ?_)
        refine lv_aload_n hx hb d_N_findNeighbours_25 rfl (lv_at hl 2 rfl) ?_
        refine wx_get (v := .ref (ad 7)) (C := RQ_T) (T := FQ_T) (N := 10) hx hb ht IQ_T hown hK hP 1 (by decide) (e_g1_1 cy ad _) rfl 3 (by decide) (ht _ kw_79) (fun _ h9 => h9) rfl d_N_findNeighbours_26 ?_
        refine lv_iload_n hx hb d_N_findNeighbours_29 rfl (lv_at hl 3 rfl) ?_
        obtain ⟨h5, hf⟩ := op_chk hf
        refine wx_iald hx hb hK hP 7 (by decide) (by decide) 10 rfl h5 d_N_findNeighbours_30 ?_
        obtain ⟨v6, h7, hf⟩ := op_let hf
        refine sw_i h7 ?_
        refine lv_istore (lv' := [(4, .int v6), (3, .int v3), (0, .ref (ad 2)), (1, .ref (ad 1)), (2, .int x2)]) hx hb d_N_findNeighbours_31 hl (by decide) rfl (fun ls hl => ?_)
        refine lv_aload_n hx hb d_N_findNeighbours_33 rfl (lv_at hl 2 rfl) ?_
        refine wx_get (v := .ref (ad 13)) (C := RQ_N) (T := FQ_N) (N := 7) hx hb ht IQ_N hown hK hP 2 (by decide) (e_g1_2 cy ad _) rfl 3 (by decide) (ht _ kw_134) (fun _ h9 => h9) rfl d_N_findNeighbours_34 ?_
        refine lv_iload_n hx hb d_N_findNeighbours_37 rfl (lv_at hl 1 rfl) ?_
        refine lv_dup2_11 hx hb d_N_findNeighbours_38 rfl rfl ?_
        obtain ⟨h8, hf⟩ := op_chk hf
        refine wx_iald hx hb hK hP 13 (by decide) (by decide) 5 rfl h8 d_N_findNeighbours_39 ?_
        refine lv_iconst (v := 1) hx hb d_N_findNeighbours_40 (by decide) ?_
        refine lv_iload hx hb d_N_findNeighbours_41 (lv_at hl 0 rfl) ?_
        refine lv_ishl hx hb d_N_findNeighbours_43 ?_
        refine lv_ior hx hb d_N_findNeighbours_44 ?_
        obtain ⟨h9, hf⟩ := op_chk hf
        refine wx_iast hx hb hK hP (hD _) hS 13 (by decide) (by decide) 5 rfl h9 d_N_findNeighbours_45 (fun H locs hP hS => ?_)
        obtain ⟨w10, h11, hf⟩ := op_let hf
        rw [h11] at hP
        refine lv_aload_n hx hb d_N_findNeighbours_46 rfl (lv_at hl 2 rfl) ?_
        refine wx_get (v := .ref (ad 13)) (C := RQ_N) (T := FQ_N) (N := 7) hx hb ht IQ_N hown hK hP 2 (by decide) (e_g1_2 cy ad _) rfl 3 (by decide) (ht _ kw_134) (fun _ h9 => h9) rfl d_N_findNeighbours_47 ?_
        refine lv_iload hx hb d_N_findNeighbours_50 (lv_at hl 0 rfl) ?_
        refine lv_dup2_11 hx hb d_N_findNeighbours_52 rfl rfl ?_
        obtain ⟨h12, hf⟩ := op_chk hf
        refine wx_iald hx hb hK hP 13 (by decide) (by decide) 5 rfl h12 d_N_findNeighbours_53 ?_
        refine lv_iconst (v := 1) hx hb d_N_findNeighbours_54 (by decide) ?_
        refine lv_iload_n hx hb d_N_findNeighbours_55 rfl (lv_at hl 1 rfl) ?_
        refine lv_ishl hx hb d_N_findNeighbours_56 ?_
        refine lv_ior hx hb d_N_findNeighbours_57 ?_
        obtain ⟨h13, hf⟩ := op_chk hf
        refine wx_iast hx hb hK hP (hD _) hS 13 (by decide) (by decide) 5 rfl h13 d_N_findNeighbours_58 (fun H locs hP hS => ?_)
        obtain ⟨w14, h15, hf⟩ := op_let hf
        rw [h15] at hP
        refine lv_iinc (v := x2 + (1 : Int32)) (lv' := [(2, .int (x2 + (1 : Int32))), (4, .int v6), (3, .int v3), (0, .ref (ad 2)), (1, .ref (ad 1))]) hx hb d_N_findNeighbours_59 hl (k := 4) rfl rfl (by decide) rfl (fun ls hl => ?_)
        refine lv_goto (tgt := 10) hx hb d_N_findNeighbours_62 (by decide) ?_
        exact ih _ _ _ hf _ _ _ hP hS (lv_sub hl [3, 4, 0] rfl) k_0
  unfold f_N_findNeighbours_1 at hf
  refine lv_aload_n hx hb d_N_findNeighbours_0 rfl (lv_at hl 0 rfl) ?_
  refine wx_get (v := .ref (ad 13)) (C := RQ_N) (T := FQ_N) (N := 7) hx hb ht IQ_N hown hK hP 2 (by decide) (e_g1_2 cy ad _) rfl 3 (by decide) (ht _ kw_134) (fun _ h9 => h9) rfl d_N_findNeighbours_1 ?_
  refine lv_iconst (v := 0) hx hb d_N_findNeighbours_4 (by decide) ?_
  obtain ⟨w17, hc16, hf⟩ := op_b1 hf
  refine wx_fv (wx_rS (As := [.ref (ad 13), .int (0 : Int32)]) (rest := []) ⟨hx, hb, hml, hown, ht⟩ (m_J_fillI_13 l D cy ad _ z0 (0 : Int32) _ hc16) ⟨callB_of 2 ht (gt_in (fun _ h9 => h9) kw_336) rfl rfl rfl (ht _ kw_55) (ht _ kw_334) q_J_fillI ⟨Nat.le_of_ble_eq_true rfl, Nat.le_of_ble_eq_true rfl⟩, ht _ kw_335⟩ nwC_ok hN hK hP (hD _) rfl hl.1 rfl (Nat.le_of_ble_eq_true rfl) d_N_findNeighbours_5 ⟨Nat.zero_le _, Nat.zero_le _⟩) (hD _) hS hA (fun H locs hP hS => ?_)
  refine lv_iconst (v := 0) hx hb d_N_findNeighbours_8 (by decide) ?_
  refine lv_istore_n (lv' := [(2, .int (0 : Int32)), (0, .ref (ad 2)), (1, .ref (ad 1))]) hx hb d_N_findNeighbours_9 rfl hl (by decide) rfl (fun ls hl => ?_)
  obtain ⟨w18, hc19, hf⟩ := op_b1 hf
  refine L_10 _ _ _ _ hc19 _ _ _ hP hS (lv_sub hl [1, 2, 0] rfl) (fun H locs ls hP hS hl => ?_)
  obtain rfl := Option.some.inj hf
  exact wx_vret hx hb hr hlocks hAe hP hS d_N_findNeighbours_65
