def f_S_spring (z0 : gS) (p1 : Int32) (p2 : Int32) (p3 : Int32) : Option (Int32 × gS) :=
 bd2 (f_S_isNode z0 p1) (fun r3 w2 =>
 if r3 = 0 then (some ((-1 : Int32), w2))
 else (bd2 (f_S_isDirection w2 p2) (fun r7 w6 =>
 if r7 = 0 then (some ((-1 : Int32), w6))
 else (if p3 < 0 then (some ((-1 : Int32), w6))
 else (if p3 ≤ (3 : Int32) then (if (w6.1 0) = 0 then (bd2 (f_S_slotOf w6 p1 p2) (fun r14 w13 =>
 if r14 < 0 ∨ 10 ≤ r14.toNatClampNeg then none else
 (some (s_I w13 11 (upd (w13.2.2.1 11) r14.toNatClampNeg p3))).bind (fun w16 =>
 some ((0 : Int32), w16))))
 else (some ((-4 : Int32), w6)))
 else (some ((-1 : Int32), w6)))))))
set_option maxHeartbeats 4000000 in
set_option maxRecDepth 100000 in
theorem m_S_spring (l : Launch) (D : va_G) (cy : Nat → ClassId) (ad : Nat → Nat) (sz : Nat) (z0 : gS) (p1 : Int32) (p2 : Int32) (p3 : Int32) (r : Int32) (zz : gS) (hf : f_S_spring z0 p1 p2 p3 = some (r, zz)) : Met l y_S_spring (Cond.code y_S_spring c_S_spring 4 (some .int) :: gt_ws) ({ frames := 1, cells := 0, slots := 0, locals := 45 }) (sPc D cl_all (gTy cy) nwC 52 ad (g1 cy ad z0) sz [.ref (ad 0), .int p1, .int p2, .int p3]) (sQi D cl_all 52 ad (g1 cy ad z0) sz r (g1 cy ad zz)) 0 0 (va_A (wl 52 ad (g1 cy ad z0)) sz) := by
  refine Met.ofW (cc := c_S_spring) (maxL := 4) (ret := (some .int)) (by decide) rfl ?_
  intro p e s m args below meth c s₁ B hml hv
  obtain ⟨rfl, hsz, hP, hK, hN, hD0⟩ := hv
  have hx := B.exec
  have hb := B.bytes
  have hr := B.returns
  have hts := atoms_spec (ws := (Cond.code y_S_spring c_S_spring 4 (some .int) :: gt_ws)) B.pre
  have ht : ∀ w ∈ gt_ws, w.before _ s = true := fun w h => hts w (List.mem_cons_of_mem _ h)
  have hown : s.vm.findClass RQ_S = some m.cls := findClass_of_methodNamed B.named
  have hlocks := B.notSynchronized
  subst hsz
  have hD1 := hD0.self (sz := s.heap.size)
  obtain ⟨A, hAe⟩ : ∃ A, A = va_A (wl 52 ad (g1 cy ad z0)) s.heap.size := ⟨_, rfl⟩
  rw [← hAe] at hD1
  have hD : ∀ g, va_D A (wl 52 ad g) := fun _ => wl_D hD1
  have hA : ∀ q : Nat, s.heap.size ≤ q → A q := fun q h => by rw [hAe]; exact Or.inr h
  have hS : va_S A s.heap s.heap [] := va_S.rf
  have hl := lv_entry ([.ref (ad 0), .int p1, .int p2, .int p3]) (n := 4) (Nat.le_of_ble_eq_true rfl)
  rw [lg_entry_eq]
  generalize (lg_sl ([.ref (ad 0), .int p1, .int p2, .int p3]) ++ List.replicate (4 - (lg_sl ([.ref (ad 0), .int p1, .int p2, .int p3])).length) Slot.unset).toArray = ls at hl ⊢
  have hl : lv_has ls 4 [(0, .ref (ad 0)), (1, .int p1), (2, .int p2), (3, .int p3)] := hl
  unfold f_S_spring at hf
  refine lv_iload_n hx hb d_S_spring_0 rfl (lv_at hl 1 rfl) ?_
  obtain ⟨r3, w2, hc1, hf⟩ := op_b2 hf
  refine wx_fi (wx_rS (As := [.int p1]) (rest := []) ⟨hx, hb, hml, hown, ht⟩ (m_S_isNode l D cy ad _ z0 p1 _ _ hc1) ⟨callB_of 1 ht (gt_in (fun _ h9 => h9) kw_239) rfl rfl rfl (ht _ kw_47) (ht _ kw_237) q_S_isNode ⟨Nat.le_of_ble_eq_true rfl, Nat.le_of_ble_eq_true rfl⟩, ht _ kw_238⟩ nwC_ok hN hK hP (hD _) rfl hl.1 rfl (Nat.le_of_ble_eq_true rfl) d_S_spring_1 ⟨Nat.zero_le _, Nat.zero_le _⟩) (hD _) hS hA (fun H locs hP hS => ?_)
  refine lv_if_eq (tgt := 23) hx hb d_S_spring_4 (by decide) (fun c4 => ?_) (fun c4 => ?_)
  ·
    have hf := op_pos hf c4
    refine lv_iconst (v := -1) hx hb d_S_spring_23 (by decide) ?_
    obtain ⟨hv9, rfl⟩ := op_inj hf
    exact wx_iret hx hb hr hlocks hAe hP hS hv9 d_S_spring_24
  ·
    have hf := op_neg hf c4
    refine lv_iload_n hx hb d_S_spring_7 rfl (lv_at hl 2 rfl) ?_
    obtain ⟨r7, w6, hc5, hf⟩ := op_b2 hf
    refine wx_fi (wx_rS (As := [.int p2]) (rest := []) ⟨hx, hb, hml, hown, ht⟩ (m_S_isDirection l D cy ad _ w2 p2 _ _ hc5) ⟨callB_of 1 ht (gt_in (fun _ h9 => h9) kw_284) rfl rfl rfl (ht _ kw_47) (ht _ kw_282) q_S_isDirection ⟨Nat.le_of_ble_eq_true rfl, Nat.le_of_ble_eq_true rfl⟩, ht _ kw_283⟩ nwC_ok hN hK hP (hD _) rfl hl.1 rfl (Nat.le_of_ble_eq_true rfl) d_S_spring_8 ⟨Nat.zero_le _, Nat.zero_le _⟩) (hD _) hS hA (fun H locs hP hS => ?_)
    refine lv_if_eq (tgt := 23) hx hb d_S_spring_11 (by decide) (fun c8 => ?_) (fun c8 => ?_)
    ·
      have hf := op_pos hf c8
      refine lv_iconst (v := -1) hx hb d_S_spring_23 (by decide) ?_
      obtain ⟨hv9, rfl⟩ := op_inj hf
      exact wx_iret hx hb hr hlocks hAe hP hS hv9 d_S_spring_24
    ·
      have hf := op_neg hf c8
      refine lv_iload_n hx hb d_S_spring_14 rfl (lv_at hl 3 rfl) ?_
      refine lv_if_lt (tgt := 23) hx hb d_S_spring_15 (by decide) (fun c9 => ?_) (fun c9 => ?_)
      ·
        have hf := op_pos hf c9
        refine lv_iconst (v := -1) hx hb d_S_spring_23 (by decide) ?_
        obtain ⟨hv9, rfl⟩ := op_inj hf
        exact wx_iret hx hb hr hlocks hAe hP hS hv9 d_S_spring_24
      ·
        have hf := op_neg hf c9
        refine lv_iload_n hx hb d_S_spring_18 rfl (lv_at hl 3 rfl) ?_
        refine lv_iconst (v := 3) hx hb d_S_spring_19 (by decide) ?_
        refine lv_icmp_le (tgt := 25) hx hb d_S_spring_20 (by decide) (fun c10 => ?_) (fun c10 => ?_)
        ·
          have hf := op_pos hf c10
          refine lv_aload_n hx hb d_S_spring_25 rfl (lv_at hl 0 rfl) ?_
          refine wx_get (v := .int (w6.1 0)) (C := RQ_S) (T := FQ_S) (N := 5) hx hb ht IQ_S hown hK hP 0 (by decide) (e_g1_0 cy ad _) rfl 4 (by decide) (ht _ kw_221) (fun _ h9 => h9) rfl d_S_spring_26 ?_
          refine lv_if_eq (tgt := 35) hx hb d_S_spring_29 (by decide) (fun c11 => ?_) (fun c11 => ?_)
          ·
            have hf := op_pos hf c11
            refine lv_aload_n hx hb d_S_spring_35 rfl (lv_at hl 0 rfl) ?_
            refine wx_get (v := .ref (ad 1)) (C := RQ_S) (T := FQ_S) (N := 5) hx hb ht IQ_S hown hK hP 0 (by decide) (e_g1_0 cy ad _) rfl 0 (by decide) (ht _ kw_217) (fun _ h9 => h9) rfl d_S_spring_36 ?_
            refine wx_get (v := .ref (ad 11)) (C := RQ_T) (T := FQ_T) (N := 10) hx hb ht IQ_T hown hK hP 1 (by decide) (e_g1_1 cy ad _) rfl 8 (by decide) (ht _ kw_96) (fun _ h9 => h9) rfl d_S_spring_39 ?_
            refine lv_iload_n hx hb d_S_spring_42 rfl (lv_at hl 1 rfl) ?_
            refine lv_iload_n hx hb d_S_spring_43 rfl (lv_at hl 2 rfl) ?_
            obtain ⟨r14, w13, hc12, hf⟩ := op_b2 hf
            refine wx_fi (wx_rS (As := [.int p1, .int p2]) (rest := [.ref (ad 11)]) ⟨hx, hb, hml, hown, ht⟩ (m_S_slotOf l D cy ad _ w6 p1 p2 _ _ hc12) ⟨callB_of 2 ht (gt_in (fun _ h9 => h9) kw_253) rfl rfl rfl (ht _ kw_47) (ht _ kw_285) q_S_slotOf ⟨Nat.le_of_ble_eq_true rfl, Nat.le_of_ble_eq_true rfl⟩, ht _ kw_252⟩ nwC_ok hN hK hP (hD _) rfl hl.1 rfl (Nat.le_of_ble_eq_true rfl) d_S_spring_44 ⟨Nat.zero_le _, Nat.zero_le _⟩) (hD _) hS hA (fun H locs hP hS => ?_)
            refine lv_iload_n hx hb d_S_spring_47 rfl (lv_at hl 3 rfl) ?_
            obtain ⟨h15, hf⟩ := op_chk hf
            refine wx_iast hx hb hK hP (hD _) hS 11 (by decide) (by decide) 10 rfl h15 d_S_spring_48 (fun H locs hP hS => ?_)
            obtain ⟨w16, h17, hf⟩ := op_let hf
            rw [h17] at hP
            refine lv_iconst (v := 0) hx hb d_S_spring_49 (by decide) ?_
            obtain ⟨hv9, rfl⟩ := op_inj hf
            exact wx_iret hx hb hr hlocks hAe hP hS hv9 d_S_spring_50
          ·
            have hf := op_neg hf c11
            refine lv_bipush (v := -4) hx hb d_S_spring_32 (by decide) ?_
            obtain ⟨hv9, rfl⟩ := op_inj hf
            exact wx_iret hx hb hr hlocks hAe hP hS hv9 d_S_spring_34
        ·
          have hf := op_neg hf c10
          refine lv_iconst (v := -1) hx hb d_S_spring_23 (by decide) ?_
          obtain ⟨hv9, rfl⟩ := op_inj hf
          exact wx_iret hx hb hr hlocks hAe hP hS hv9 d_S_spring_24

def f_S_isCase (z0 : gS) (p0 : Int32) : Option (Int32 × gS) :=
 if p0 < 0 then (some ((0 : Int32), z0))
 else (if (4 : Int32) ≤ p0 then (some ((0 : Int32), z0))
 else (some ((1 : Int32), z0)))
set_option maxHeartbeats 4000000 in
set_option maxRecDepth 100000 in
theorem m_S_isCase (l : Launch) (D : va_G) (cy : Nat → ClassId) (ad : Nat → Nat) (sz : Nat) (z0 : gS) (p0 : Int32) (r : Int32) (zz : gS) (hf : f_S_isCase z0 p0 = some (r, zz)) : Met l y_S_isCase (Cond.code y_S_isCase c_S_isCase 1 (some .boolean) :: gt_ws) ({ frames := 0, cells := 0, slots := 0, locals := 0 }) (sPc D cl_all (gTy cy) nwC 52 ad (g1 cy ad z0) sz [.int p0]) (sQi D cl_all 52 ad (g1 cy ad z0) sz r (g1 cy ad zz)) 0 0 (va_A (wl 52 ad (g1 cy ad z0)) sz) := by
  refine Met.ofW (cc := c_S_isCase) (maxL := 1) (ret := (some .boolean)) (by decide) rfl ?_
  intro p e s m args below meth c s₁ B hml hv
  obtain ⟨rfl, hsz, hP, hK, hN, hD0⟩ := hv
  have hx := B.exec
  have hb := B.bytes
  have hr := B.returns
  have hts := atoms_spec (ws := (Cond.code y_S_isCase c_S_isCase 1 (some .boolean) :: gt_ws)) B.pre
  have ht : ∀ w ∈ gt_ws, w.before _ s = true := fun w h => hts w (List.mem_cons_of_mem _ h)
  have hown : s.vm.findClass RQ_S = some m.cls := findClass_of_methodNamed B.named
  have hlocks := B.notSynchronized
  subst hsz
  have hD1 := hD0.self (sz := s.heap.size)
  obtain ⟨A, hAe⟩ : ∃ A, A = va_A (wl 52 ad (g1 cy ad z0)) s.heap.size := ⟨_, rfl⟩
  rw [← hAe] at hD1
  have hD : ∀ g, va_D A (wl 52 ad g) := fun _ => wl_D hD1
  have hA : ∀ q : Nat, s.heap.size ≤ q → A q := fun q h => by rw [hAe]; exact Or.inr h
  have hS : va_S A s.heap s.heap [] := va_S.rf
  have hl := lv_entry ([.int p0]) (n := 1) (Nat.le_of_ble_eq_true rfl)
  rw [lg_entry_eq]
  generalize (lg_sl ([.int p0]) ++ List.replicate (1 - (lg_sl ([.int p0])).length) Slot.unset).toArray = ls at hl ⊢
  have hl : lv_has ls 1 [(0, .int p0)] := hl
  unfold f_S_isCase at hf
  refine lv_iload_n hx hb d_S_isCase_0 rfl (lv_at hl 0 rfl) ?_
  refine lv_if_lt (tgt := 13) hx hb d_S_isCase_1 (by decide) (fun c1 => ?_) (fun c1 => ?_)
  ·
    have hf := op_pos hf c1
    refine lv_iconst (v := 0) hx hb d_S_isCase_13 (by decide) ?_
    obtain ⟨hv9, rfl⟩ := op_inj hf
    exact wx_zret hx hb hr hlocks (by first | decide | rfl) hAe hP hS hv9 d_S_isCase_14
  ·
    have hf := op_neg hf c1
    refine lv_iload_n hx hb d_S_isCase_4 rfl (lv_at hl 0 rfl) ?_
    refine lv_iconst (v := 4) hx hb d_S_isCase_5 (by decide) ?_
    refine lv_icmp_ge (tgt := 13) hx hb d_S_isCase_6 (by decide) (fun c2 => ?_) (fun c2 => ?_)
    ·
      have hf := op_pos hf c2
      refine lv_iconst (v := 0) hx hb d_S_isCase_13 (by decide) ?_
      obtain ⟨hv9, rfl⟩ := op_inj hf
      exact wx_zret hx hb hr hlocks (by first | decide | rfl) hAe hP hS hv9 d_S_isCase_14
    ·
      have hf := op_neg hf c2
      refine lv_iconst (v := 1) hx hb d_S_isCase_9 (by decide) ?_
      refine lv_goto (tgt := 14) hx hb d_S_isCase_10 (by decide) ?_
      obtain ⟨hv9, rfl⟩ := op_inj hf
      exact wx_zret hx hb hr hlocks (by first | decide | rfl) hAe hP hS hv9 d_S_isCase_14

def f_S_load (z0 : gS) (p1 : Int32) (p2 : Int32) (p3 : Int32) (p4 : Int32) : Option (Int32 × gS) :=
 bd2 (f_S_isCase z0 p1) (fun r3 w2 =>
 if r3 = 0 then (some ((-1 : Int32), w2))
 else (bd2 (f_S_isNode w2 p2) (fun r7 w6 =>
 if r7 = 0 then (some ((-1 : Int32), w6))
 else (bd2 (f_S_isDirection w6 p3) (fun r11 w10 =>
 if r11 = 0 then (some ((-1 : Int32), w10))
 else (if p4 < (-99 : Int32) then (some ((-1 : Int32), w10))
 else (if p4 ≤ (99 : Int32) then (if p1 < 0 ∨ 4 ≤ p1.toNatClampNeg then none else
 bd2 (f_S_slotOf w10 p2 p3) (fun r18 w17 =>
 if r18 < 0 ∨ 10 ≤ r18.toNatClampNeg then none else
 (some (s_I w17 (p1.toNatClampNeg + 28) (upd (w17.2.2.1 (p1.toNatClampNeg + 28)) r18.toNatClampNeg p4))).bind (fun w20 =>
 some ((0 : Int32), w20))))
 else (some ((-1 : Int32), w10)))))))))
set_option maxHeartbeats 4000000 in
set_option maxRecDepth 100000 in
theorem m_S_load (l : Launch) (D : va_G) (cy : Nat → ClassId) (ad : Nat → Nat) (sz : Nat) (z0 : gS) (p1 : Int32) (p2 : Int32) (p3 : Int32) (p4 : Int32) (r : Int32) (zz : gS) (hf : f_S_load z0 p1 p2 p3 p4 = some (r, zz)) : Met l y_S_load (Cond.code y_S_load c_S_load 5 (some .int) :: gt_ws) ({ frames := 1, cells := 0, slots := 0, locals := 45 }) (sPc D cl_all (gTy cy) nwC 52 ad (g1 cy ad z0) sz [.ref (ad 0), .int p1, .int p2, .int p3, .int p4]) (sQi D cl_all 52 ad (g1 cy ad z0) sz r (g1 cy ad zz)) 0 0 (va_A (wl 52 ad (g1 cy ad z0)) sz) := by
  refine Met.ofW (cc := c_S_load) (maxL := 5) (ret := (some .int)) (by decide) rfl ?_
  intro p e s m args below meth c s₁ B hml hv
  obtain ⟨rfl, hsz, hP, hK, hN, hD0⟩ := hv
  have hx := B.exec
  have hb := B.bytes
  have hr := B.returns
  have hts := atoms_spec (ws := (Cond.code y_S_load c_S_load 5 (some .int) :: gt_ws)) B.pre
  have ht : ∀ w ∈ gt_ws, w.before _ s = true := fun w h => hts w (List.mem_cons_of_mem _ h)
  have hown : s.vm.findClass RQ_S = some m.cls := findClass_of_methodNamed B.named
  have hlocks := B.notSynchronized
  subst hsz
  have hD1 := hD0.self (sz := s.heap.size)
  obtain ⟨A, hAe⟩ : ∃ A, A = va_A (wl 52 ad (g1 cy ad z0)) s.heap.size := ⟨_, rfl⟩
  rw [← hAe] at hD1
  have hD : ∀ g, va_D A (wl 52 ad g) := fun _ => wl_D hD1
  have hA : ∀ q : Nat, s.heap.size ≤ q → A q := fun q h => by rw [hAe]; exact Or.inr h
  have hS : va_S A s.heap s.heap [] := va_S.rf
  have hl := lv_entry ([.ref (ad 0), .int p1, .int p2, .int p3, .int p4]) (n := 5) (Nat.le_of_ble_eq_true rfl)
  rw [lg_entry_eq]
  generalize (lg_sl ([.ref (ad 0), .int p1, .int p2, .int p3, .int p4]) ++ List.replicate (5 - (lg_sl ([.ref (ad 0), .int p1, .int p2, .int p3, .int p4])).length) Slot.unset).toArray = ls at hl ⊢
  have hl : lv_has ls 5 [(0, .ref (ad 0)), (1, .int p1), (2, .int p2), (3, .int p3), (4, .int p4)] := hl
  unfold f_S_load at hf
  refine lv_iload_n hx hb d_S_load_0 rfl (lv_at hl 1 rfl) ?_
  obtain ⟨r3, w2, hc1, hf⟩ := op_b2 hf
  refine wx_fi (wx_rS (As := [.int p1]) (rest := []) ⟨hx, hb, hml, hown, ht⟩ (m_S_isCase l D cy ad _ z0 p1 _ _ hc1) ⟨callB_of 1 ht (gt_in (fun _ h9 => h9) kw_296) rfl rfl rfl (ht _ kw_47) (ht _ kw_294) q_S_isCase ⟨Nat.le_of_ble_eq_true rfl, Nat.le_of_ble_eq_true rfl⟩, ht _ kw_295⟩ nwC_ok hN hK hP (hD _) rfl hl.1 rfl (Nat.le_of_ble_eq_true rfl) d_S_load_1 ⟨Nat.zero_le _, Nat.zero_le _⟩) (hD _) hS hA (fun H locs hP hS => ?_)
  refine lv_if_eq (tgt := 35) hx hb d_S_load_4 (by decide) (fun c4 => ?_) (fun c4 => ?_)
  ·
    have hf := op_pos hf c4
    refine lv_iconst (v := -1) hx hb d_S_load_35 (by decide) ?_
    obtain ⟨hv9, rfl⟩ := op_inj hf
    exact wx_iret hx hb hr hlocks hAe hP hS hv9 d_S_load_36
  ·
    have hf := op_neg hf c4
    refine lv_iload_n hx hb d_S_load_7 rfl (lv_at hl 2 rfl) ?_
    obtain ⟨r7, w6, hc5, hf⟩ := op_b2 hf
    refine wx_fi (wx_rS (As := [.int p2]) (rest := []) ⟨hx, hb, hml, hown, ht⟩ (m_S_isNode l D cy ad _ w2 p2 _ _ hc5) ⟨callB_of 1 ht (gt_in (fun _ h9 => h9) kw_239) rfl rfl rfl (ht _ kw_47) (ht _ kw_237) q_S_isNode ⟨Nat.le_of_ble_eq_true rfl, Nat.le_of_ble_eq_true rfl⟩, ht _ kw_238⟩ nwC_ok hN hK hP (hD _) rfl hl.1 rfl (Nat.le_of_ble_eq_true rfl) d_S_load_8 ⟨Nat.zero_le _, Nat.zero_le _⟩) (hD _) hS hA (fun H locs hP hS => ?_)
    refine lv_if_eq (tgt := 35) hx hb d_S_load_11 (by decide) (fun c8 => ?_) (fun c8 => ?_)
    ·
      have hf := op_pos hf c8
      refine lv_iconst (v := -1) hx hb d_S_load_35 (by decide) ?_
      obtain ⟨hv9, rfl⟩ := op_inj hf
      exact wx_iret hx hb hr hlocks hAe hP hS hv9 d_S_load_36
    ·
      have hf := op_neg hf c8
      refine lv_iload_n hx hb d_S_load_14 rfl (lv_at hl 3 rfl) ?_
      obtain ⟨r11, w10, hc9, hf⟩ := op_b2 hf
      refine wx_fi (wx_rS (As := [.int p3]) (rest := []) ⟨hx, hb, hml, hown, ht⟩ (m_S_isDirection l D cy ad _ w6 p3 _ _ hc9) ⟨callB_of 1 ht (gt_in (fun _ h9 => h9) kw_284) rfl rfl rfl (ht _ kw_47) (ht _ kw_282) q_S_isDirection ⟨Nat.le_of_ble_eq_true rfl, Nat.le_of_ble_eq_true rfl⟩, ht _ kw_283⟩ nwC_ok hN hK hP (hD _) rfl hl.1 rfl (Nat.le_of_ble_eq_true rfl) d_S_load_15 ⟨Nat.zero_le _, Nat.zero_le _⟩) (hD _) hS hA (fun H locs hP hS => ?_)
      refine lv_if_eq (tgt := 35) hx hb d_S_load_18 (by decide) (fun c12 => ?_) (fun c12 => ?_)
      ·
        have hf := op_pos hf c12
        refine lv_iconst (v := -1) hx hb d_S_load_35 (by decide) ?_
        obtain ⟨hv9, rfl⟩ := op_inj hf
        exact wx_iret hx hb hr hlocks hAe hP hS hv9 d_S_load_36
      ·
        have hf := op_neg hf c12
        refine lv_iload hx hb d_S_load_21 (lv_at hl 4 rfl) ?_
        refine lv_bipush (v := -99) hx hb d_S_load_23 (by decide) ?_
        refine lv_icmp_lt (tgt := 35) hx hb d_S_load_25 (by decide) (fun c13 => ?_) (fun c13 => ?_)
        ·
          have hf := op_pos hf c13
          refine lv_iconst (v := -1) hx hb d_S_load_35 (by decide) ?_
          obtain ⟨hv9, rfl⟩ := op_inj hf
          exact wx_iret hx hb hr hlocks hAe hP hS hv9 d_S_load_36
        ·
          have hf := op_neg hf c13
          refine lv_iload hx hb d_S_load_28 (lv_at hl 4 rfl) ?_
          refine lv_bipush (v := 99) hx hb d_S_load_30 (by decide) ?_
          refine lv_icmp_le (tgt := 37) hx hb d_S_load_32 (by decide) (fun c14 => ?_) (fun c14 => ?_)
          ·
            have hf := op_pos hf c14
            refine lv_aload_n hx hb d_S_load_37 rfl (lv_at hl 0 rfl) ?_
            refine wx_get (v := .ref (ad 1)) (C := RQ_S) (T := FQ_S) (N := 5) hx hb ht IQ_S hown hK hP 0 (by decide) (e_g1_0 cy ad _) rfl 0 (by decide) (ht _ kw_217) (fun _ h9 => h9) rfl d_S_load_38 ?_
            refine wx_get (v := .ref (ad 17)) (C := RQ_T) (T := FQ_T) (N := 10) hx hb ht IQ_T hown hK hP 1 (by decide) (e_g1_1 cy ad _) rfl 9 (by decide) (ht _ kw_99) (fun _ h9 => h9) rfl d_S_load_41 ?_
            refine lv_iload_n hx hb d_S_load_44 rfl (lv_at hl 1 rfl) ?_
            obtain ⟨h15, hf⟩ := op_chk hf
            refine wx_aald (b := ad (p1.toNatClampNeg + 28)) hx hb hK hP 17 3 (by decide) (e_g1_17 cy ad _) rfl h15 (if_pos (r28_lt h15)) d_S_load_45 ?_
            refine lv_iload_n hx hb d_S_load_46 rfl (lv_at hl 2 rfl) ?_
            refine lv_iload_n hx hb d_S_load_47 rfl (lv_at hl 3 rfl) ?_
            obtain ⟨r18, w17, hc16, hf⟩ := op_b2 hf
            refine wx_fi (wx_rS (As := [.int p2, .int p3]) (rest := [.ref (ad (p1.toNatClampNeg + 28))]) ⟨hx, hb, hml, hown, ht⟩ (m_S_slotOf l D cy ad _ w10 p2 p3 _ _ hc16) ⟨callB_of 2 ht (gt_in (fun _ h9 => h9) kw_253) rfl rfl rfl (ht _ kw_47) (ht _ kw_285) q_S_slotOf ⟨Nat.le_of_ble_eq_true rfl, Nat.le_of_ble_eq_true rfl⟩, ht _ kw_252⟩ nwC_ok hN hK hP (hD _) rfl hl.1 rfl (Nat.le_of_ble_eq_true rfl) d_S_load_48 ⟨Nat.zero_le _, Nat.zero_le _⟩) (hD _) hS hA (fun H locs hP hS => ?_)
            refine lv_iload hx hb d_S_load_51 (lv_at hl 4 rfl) ?_
            obtain ⟨h19, hf⟩ := op_chk hf
            refine wx_iast hx hb hK hP (hD _) hS (p1.toNatClampNeg + 28) (r28 h15).1 (r28 h15).2.1 10 (r28 h15).2.2 h19 d_S_load_53 (fun H locs hP hS => ?_)
            obtain ⟨w20, h21, hf⟩ := op_let hf
            rw [h21] at hP
            refine lv_iconst (v := 0) hx hb d_S_load_54 (by decide) ?_
            obtain ⟨hv9, rfl⟩ := op_inj hf
            exact wx_iret hx hb hr hlocks hAe hP hS hv9 d_S_load_55
          ·
            have hf := op_neg hf c14
            refine lv_iconst (v := -1) hx hb d_S_load_35 (by decide) ?_
            obtain ⟨hv9, rfl⟩ := op_inj hf
            exact wx_iret hx hb hr hlocks hAe hP hS hv9 d_S_load_36

def f_J_bitCount (z0 : gS) (p0 : Int32) : Option (Int32 × gS) :=
 (some ((p0 - (((p0.toUInt32 >>> ((1 : Int32).toUInt32 &&& Int32.toUInt32 31)).toInt32) &&& (1431655765 : Int32))) : Int32)).bind (fun v1 =>
 (some (((v1 &&& (858993459 : Int32)) + (((v1.toUInt32 >>> ((2 : Int32).toUInt32 &&& Int32.toUInt32 31)).toInt32) &&& (858993459 : Int32))) : Int32)).bind (fun v3 =>
 (some (((v3 + ((v3.toUInt32 >>> ((4 : Int32).toUInt32 &&& Int32.toUInt32 31)).toInt32)) &&& (252645135 : Int32)) : Int32)).bind (fun v5 =>
 (some ((v5 + ((v5.toUInt32 >>> ((8 : Int32).toUInt32 &&& Int32.toUInt32 31)).toInt32)) : Int32)).bind (fun v7 =>
 (some ((v7 + ((v7.toUInt32 >>> ((16 : Int32).toUInt32 &&& Int32.toUInt32 31)).toInt32)) : Int32)).bind (fun v9 =>
 some ((v9 &&& (63 : Int32)), z0))))))
set_option maxHeartbeats 4000000 in
set_option maxRecDepth 100000 in
theorem m_J_bitCount (l : Launch) (D : va_G) (cy : Nat → ClassId) (ad : Nat → Nat) (sz : Nat) (z0 : gS) (p0 : Int32) (r : Int32) (zz : gS) (hf : f_J_bitCount z0 p0 = some (r, zz)) : Met l y_J_bitCount (Cond.code y_J_bitCount c_J_bitCount 1 (some .int) :: gt_ws) ({ frames := 0, cells := 0, slots := 0, locals := 0 }) (sPc D cl_all (gTy cy) nwC 52 ad (g1 cy ad z0) sz [.int p0]) (sQi D cl_all 52 ad (g1 cy ad z0) sz r (g1 cy ad zz)) 0 0 (va_A (wl 52 ad (g1 cy ad z0)) sz) := by
  refine Met.ofW (cc := c_J_bitCount) (maxL := 1) (ret := (some .int)) (by decide) rfl ?_
  intro p e s m args below meth c s₁ B hml hv
  obtain ⟨rfl, hsz, hP, hK, hN, hD0⟩ := hv
  have hx := B.exec
  have hb := B.bytes
  have hr := B.returns
  have hts := atoms_spec (ws := (Cond.code y_J_bitCount c_J_bitCount 1 (some .int) :: gt_ws)) B.pre
  have ht : ∀ w ∈ gt_ws, w.before _ s = true := fun w h => hts w (List.mem_cons_of_mem _ h)
  have hown : s.vm.findClass RQ_JI = some m.cls := findClass_of_methodNamed B.named
  have hlocks := B.notSynchronized
  subst hsz
  have hD1 := hD0.self (sz := s.heap.size)
  obtain ⟨A, hAe⟩ : ∃ A, A = va_A (wl 52 ad (g1 cy ad z0)) s.heap.size := ⟨_, rfl⟩
  rw [← hAe] at hD1
  have hD : ∀ g, va_D A (wl 52 ad g) := fun _ => wl_D hD1
  have hA : ∀ q : Nat, s.heap.size ≤ q → A q := fun q h => by rw [hAe]; exact Or.inr h
  have hS : va_S A s.heap s.heap [] := va_S.rf
  have hl := lv_entry ([.int p0]) (n := 1) (Nat.le_of_ble_eq_true rfl)
  rw [lg_entry_eq]
  generalize (lg_sl ([.int p0]) ++ List.replicate (1 - (lg_sl ([.int p0])).length) Slot.unset).toArray = ls at hl ⊢
  have hl : lv_has ls 1 [(0, .int p0)] := hl
  unfold f_J_bitCount at hf
  refine lv_iload_n hx hb d_J_bitCount_0 rfl (lv_at hl 0 rfl) ?_
  refine lv_iload_n hx hb d_J_bitCount_1 rfl (lv_at hl 0 rfl) ?_
  refine lv_iconst (v := 1) hx hb d_J_bitCount_2 (by decide) ?_
  refine lv_iushr hx hb d_J_bitCount_3 rfl ?_
  refine lv_ldcw hx hb hown (ht _ kw_308) d_J_bitCount_4 ?_
  refine lv_iand hx hb d_J_bitCount_7 ?_
  refine lv_isub hx hb d_J_bitCount_8 ?_
  obtain ⟨v1, h2, hf⟩ := op_let hf
  refine sw_i h2 ?_
  refine lv_istore_n (lv' := [(0, .int v1)]) hx hb d_J_bitCount_9 rfl hl (by decide) rfl (fun ls hl => ?_)
  refine lv_iload_n hx hb d_J_bitCount_10 rfl (lv_at hl 0 rfl) ?_
  refine lv_ldcw hx hb hown (ht _ kw_309) d_J_bitCount_11 ?_
  refine lv_iand hx hb d_J_bitCount_14 ?_
  refine lv_iload_n hx hb d_J_bitCount_15 rfl (lv_at hl 0 rfl) ?_
  refine lv_iconst (v := 2) hx hb d_J_bitCount_16 (by decide) ?_
  refine lv_iushr hx hb d_J_bitCount_17 rfl ?_
  refine lv_ldcw hx hb hown (ht _ kw_309) d_J_bitCount_18 ?_
  refine lv_iand hx hb d_J_bitCount_21 ?_
  refine lv_iadd hx hb d_J_bitCount_22 ?_
  obtain ⟨v3, h4, hf⟩ := op_let hf
  refine sw_i h4 ?_
  refine lv_istore_n (lv' := [(0, .int v3)]) hx hb d_J_bitCount_23 rfl hl (by decide) rfl (fun ls hl => ?_)
  refine lv_iload_n hx hb d_J_bitCount_24 rfl (lv_at hl 0 rfl) ?_
  refine lv_iload_n hx hb d_J_bitCount_25 rfl (lv_at hl 0 rfl) ?_
  refine lv_iconst (v := 4) hx hb d_J_bitCount_26 (by decide) ?_
  refine lv_iushr hx hb d_J_bitCount_27 rfl ?_
  refine lv_iadd hx hb d_J_bitCount_28 ?_
  refine lv_ldcw hx hb hown (ht _ kw_310) d_J_bitCount_29 ?_
  refine lv_iand hx hb d_J_bitCount_32 ?_
  obtain ⟨v5, h6, hf⟩ := op_let hf
  refine sw_i h6 ?_
  refine lv_istore_n (lv' := [(0, .int v5)]) hx hb d_J_bitCount_33 rfl hl (by decide) rfl (fun ls hl => ?_)
  refine lv_iload_n hx hb d_J_bitCount_34 rfl (lv_at hl 0 rfl) ?_
  refine lv_iload_n hx hb d_J_bitCount_35 rfl (lv_at hl 0 rfl) ?_
  refine lv_bipush (v := 8) hx hb d_J_bitCount_36 (by decide) ?_
  refine lv_iushr hx hb d_J_bitCount_38 rfl ?_
  refine lv_iadd hx hb d_J_bitCount_39 ?_
  obtain ⟨v7, h8, hf⟩ := op_let hf
  refine sw_i h8 ?_
  refine lv_istore_n (lv' := [(0, .int v7)]) hx hb d_J_bitCount_40 rfl hl (by decide) rfl (fun ls hl => ?_)
  refine lv_iload_n hx hb d_J_bitCount_41 rfl (lv_at hl 0 rfl) ?_
  refine lv_iload_n hx hb d_J_bitCount_42 rfl (lv_at hl 0 rfl) ?_
  refine lv_bipush (v := 16) hx hb d_J_bitCount_43 (by decide) ?_
  refine lv_iushr hx hb d_J_bitCount_45 rfl ?_
  refine lv_iadd hx hb d_J_bitCount_46 ?_
  obtain ⟨v9, h10, hf⟩ := op_let hf
  refine sw_i h10 ?_
  refine lv_istore_n (lv' := [(0, .int v9)]) hx hb d_J_bitCount_47 rfl hl (by decide) rfl (fun ls hl => ?_)
  refine lv_iload_n hx hb d_J_bitCount_48 rfl (lv_at hl 0 rfl) ?_
  refine lv_bipush (v := 63) hx hb d_J_bitCount_49 (by decide) ?_
  refine lv_iand hx hb d_J_bitCount_51 ?_
  obtain ⟨hv9, rfl⟩ := op_inj hf
  exact wx_iret hx hb hr hlocks hAe hP hS hv9 d_J_bitCount_52

def f_T_nodeCount (z0 : gS) : Option (Int32 × gS) :=
 bd2 (f_J_bitCount z0 (z0.1 1)) (fun r3 w2 =>
 some (r3, w2))
set_option maxHeartbeats 4000000 in
set_option maxRecDepth 100000 in
theorem m_T_nodeCount (l : Launch) (D : va_G) (cy : Nat → ClassId) (ad : Nat → Nat) (sz : Nat) (z0 : gS) (r : Int32) (zz : gS) (hf : f_T_nodeCount z0 = some (r, zz)) : Met l y_T_nodeCount (Cond.code y_T_nodeCount c_T_nodeCount 1 (some .int) :: gt_ws) ({ frames := 1, cells := 0, slots := 0, locals := 45 }) (sPc D cl_all (gTy cy) nwC 52 ad (g1 cy ad z0) sz [.ref (ad 1)]) (sQi D cl_all 52 ad (g1 cy ad z0) sz r (g1 cy ad zz)) 0 0 (va_A (wl 52 ad (g1 cy ad z0)) sz) := by
  refine Met.ofW (cc := c_T_nodeCount) (maxL := 1) (ret := (some .int)) (by decide) rfl ?_
  intro p e s m args below meth c s₁ B hml hv
  obtain ⟨rfl, hsz, hP, hK, hN, hD0⟩ := hv
  have hx := B.exec
  have hb := B.bytes
  have hr := B.returns
  have hts := atoms_spec (ws := (Cond.code y_T_nodeCount c_T_nodeCount 1 (some .int) :: gt_ws)) B.pre
  have ht : ∀ w ∈ gt_ws, w.before _ s = true := fun w h => hts w (List.mem_cons_of_mem _ h)
  have hown : s.vm.findClass RQ_T = some m.cls := findClass_of_methodNamed B.named
  have hlocks := B.notSynchronized
  subst hsz
  have hD1 := hD0.self (sz := s.heap.size)
  obtain ⟨A, hAe⟩ : ∃ A, A = va_A (wl 52 ad (g1 cy ad z0)) s.heap.size := ⟨_, rfl⟩
  rw [← hAe] at hD1
  have hD : ∀ g, va_D A (wl 52 ad g) := fun _ => wl_D hD1
  have hA : ∀ q : Nat, s.heap.size ≤ q → A q := fun q h => by rw [hAe]; exact Or.inr h
  have hS : va_S A s.heap s.heap [] := va_S.rf
  have hl := lv_entry ([.ref (ad 1)]) (n := 1) (Nat.le_of_ble_eq_true rfl)
  rw [lg_entry_eq]
  generalize (lg_sl ([.ref (ad 1)]) ++ List.replicate (1 - (lg_sl ([.ref (ad 1)])).length) Slot.unset).toArray = ls at hl ⊢
  have hl : lv_has ls 1 [(0, .ref (ad 1))] := hl
  unfold f_T_nodeCount at hf
  refine lv_aload_n hx hb d_T_nodeCount_0 rfl (lv_at hl 0 rfl) ?_
  refine wx_get (v := .int (z0.1 1)) (C := RQ_T) (T := FQ_T) (N := 10) hx hb ht IQ_T hown hK hP 1 (by decide) (e_g1_1 cy ad _) rfl 0 (by decide) (ht _ kw_73) (fun _ h9 => h9) rfl d_T_nodeCount_1 ?_
  obtain ⟨r3, w2, hc1, hf⟩ := op_b2 hf
  refine wx_fi (wx_rS (As := [.int (z0.1 1)]) (rest := []) ⟨hx, hb, hml, hown, ht⟩ (m_J_bitCount l D cy ad _ z0 (z0.1 1) _ _ hc1) ⟨callB_of 1 ht (gt_in (fun _ h9 => h9) kw_307) rfl rfl rfl (ht _ kw_53) (ht _ kw_305) q_J_bitCount ⟨Nat.le_of_ble_eq_true rfl, Nat.le_of_ble_eq_true rfl⟩, ht _ kw_306⟩ nwC_ok hN hK hP (hD _) rfl hl.1 rfl (Nat.le_of_ble_eq_true rfl) d_T_nodeCount_4 ⟨Nat.zero_le _, Nat.zero_le _⟩) (hD _) hS hA (fun H locs hP hS => ?_)
  obtain ⟨hv9, rfl⟩ := op_inj hf
  exact wx_iret hx hb hr hlocks hAe hP hS hv9 d_T_nodeCount_7
