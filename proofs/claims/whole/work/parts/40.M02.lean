def f_M_load (z0 : gS) (p1 : Int32) (p2 : Int32) (p3 : Int32) (p4 : Int32) : Option (Int32 × gS) :=
 bd2 (f_M_off z0 p1 (3 : Int32)) (fun r3 w2 =>
 if r3 = 0 then (bd2 (f_M_off w2 p2 (4 : Int32)) (fun r7 w6 =>
 if r7 = 0 then (bd2 (f_M_off w6 p3 (1 : Int32)) (fun r11 w10 =>
 if r11 = 0 then (if p4 < (-99 : Int32) then (some ((-1 : Int32), w10))
 else (if p4 ≤ (99 : Int32) then (if (((p1 * (10 : Int32)) + (p2 * (2 : Int32))) + p3) < 0 ∨ 40 ≤ (((p1 * (10 : Int32)) + (p2 * (2 : Int32))) + p3).toNatClampNeg then none else
 (some (s_I w10 10 (upd (w10.2.2.1 10) (((p1 * (10 : Int32)) + (p2 * (2 : Int32))) + p3).toNatClampNeg p4))).bind (fun w16 =>
 some ((0 : Int32), w16)))
 else (some ((-1 : Int32), w10))))
 else (some ((-1 : Int32), w10))))
 else (some ((-1 : Int32), w6))))
 else (some ((-1 : Int32), w2)))
set_option maxHeartbeats 4000000 in
set_option maxRecDepth 100000 in
theorem m_M_load (l : Launch) (D : va_G) (cy : Nat → ClassId) (ad : Nat → Nat) (sz : Nat) (z0 : gS) (p1 : Int32) (p2 : Int32) (p3 : Int32) (p4 : Int32) (r : Int32) (zz : gS) (hf : f_M_load z0 p1 p2 p3 p4 = some (r, zz)) : Met l y_M_load (Cond.code y_M_load c_M_load 5 (some .int) :: gt_ws) ({ frames := 1, cells := 0, slots := 0, locals := 45 }) (sPc D cl_all (gTy cy) nwM 16 ad (g2 cy ad z0) sz [.ref (ad 0), .int p1, .int p2, .int p3, .int p4]) (sQi D cl_all 16 ad (g2 cy ad z0) sz r (g2 cy ad zz)) 0 0 (va_A (wl 16 ad (g2 cy ad z0)) sz) := by
  refine Met.ofW (cc := c_M_load) (maxL := 5) (ret := (some .int)) (by decide) rfl ?_
  intro p e s m args below meth c s₁ B hml hv
  obtain ⟨rfl, hsz, hP, hK, hN, hD0⟩ := hv
  have hx := B.exec
  have hb := B.bytes
  have hr := B.returns
  have hts := atoms_spec (ws := (Cond.code y_M_load c_M_load 5 (some .int) :: gt_ws)) B.pre
  have ht : ∀ w ∈ gt_ws, w.before _ s = true := fun w h => hts w (List.mem_cons_of_mem _ h)
  have hown : s.vm.findClass RQ_M = some m.cls := findClass_of_methodNamed B.named
  have hlocks := B.notSynchronized
  subst hsz
  have hD1 := hD0.self (sz := s.heap.size)
  obtain ⟨A, hAe⟩ : ∃ A, A = va_A (wl 16 ad (g2 cy ad z0)) s.heap.size := ⟨_, rfl⟩
  rw [← hAe] at hD1
  have hD : ∀ g, va_D A (wl 16 ad g) := fun _ => wl_D hD1
  have hA : ∀ q : Nat, s.heap.size ≤ q → A q := fun q h => by rw [hAe]; exact Or.inr h
  have hS : va_S A s.heap s.heap [] := va_S.rf
  have hl := lv_entry ([.ref (ad 0), .int p1, .int p2, .int p3, .int p4]) (n := 5) (Nat.le_of_ble_eq_true rfl)
  rw [lg_entry_eq]
  generalize (lg_sl ([.ref (ad 0), .int p1, .int p2, .int p3, .int p4]) ++ List.replicate (5 - (lg_sl ([.ref (ad 0), .int p1, .int p2, .int p3, .int p4])).length) Slot.unset).toArray = ls at hl ⊢
  have hl : lv_has ls 5 [(0, .ref (ad 0)), (1, .int p1), (2, .int p2), (3, .int p3), (4, .int p4)] := hl
  unfold f_M_load at hf
  refine lv_aload_n hx hb d_M_load_0 rfl (lv_at hl 0 rfl) ?_
  refine lv_iload_n hx hb d_M_load_1 rfl (lv_at hl 1 rfl) ?_
  refine lv_iconst (v := 3) hx hb d_M_load_2 (by decide) ?_
  obtain ⟨r3, w2, hc1, hf⟩ := op_b2 hf
  refine wx_fi (wx_rV (As := [.int p1, .int (3 : Int32)]) (rest := []) ⟨hx, hb, hml, hown, ht⟩ (m_M_off l D cy ad _ z0 p1 (3 : Int32) _ _ hc1) ⟨callB_of 2 ht (gt_in (fun _ h9 => h9) kw_599) rfl rfl rfl (ht _ kw_52) (ht _ kw_596) q_M_off ⟨Nat.le_of_ble_eq_true rfl, Nat.le_of_ble_eq_true rfl⟩, ht _ kw_598, ht _ kw_24⟩ nwM_ok hN hK hP (hD _) (by decide) (e_g2_0 cy ad _) rfl rfl hl.1 rfl (Nat.le_of_ble_eq_true rfl) d_M_load_3 ⟨Nat.zero_le _, Nat.zero_le _⟩) (hD _) hS hA (fun H locs hP hS => ?_)
  refine lv_if_ne (tgt := 41) hx hb d_M_load_6 (by decide) (fun c4 => ?_) (fun c4 => ?_)
  ·
    have hf := op_neg hf c4
    refine lv_iconst (v := -1) hx hb d_M_load_41 (by decide) ?_
    obtain ⟨hv9, rfl⟩ := op_inj hf
    exact wx_iret hx hb hr hlocks hAe hP hS hv9 d_M_load_42
  ·
    have hf := op_pos hf c4
    refine lv_aload_n hx hb d_M_load_9 rfl (lv_at hl 0 rfl) ?_
    refine lv_iload_n hx hb d_M_load_10 rfl (lv_at hl 2 rfl) ?_
    refine lv_iconst (v := 4) hx hb d_M_load_11 (by decide) ?_
    obtain ⟨r7, w6, hc5, hf⟩ := op_b2 hf
    refine wx_fi (wx_rV (As := [.int p2, .int (4 : Int32)]) (rest := []) ⟨hx, hb, hml, hown, ht⟩ (m_M_off l D cy ad _ w2 p2 (4 : Int32) _ _ hc5) ⟨callB_of 2 ht (gt_in (fun _ h9 => h9) kw_599) rfl rfl rfl (ht _ kw_52) (ht _ kw_596) q_M_off ⟨Nat.le_of_ble_eq_true rfl, Nat.le_of_ble_eq_true rfl⟩, ht _ kw_598, ht _ kw_24⟩ nwM_ok hN hK hP (hD _) (by decide) (e_g2_0 cy ad _) rfl rfl hl.1 rfl (Nat.le_of_ble_eq_true rfl) d_M_load_12 ⟨Nat.zero_le _, Nat.zero_le _⟩) (hD _) hS hA (fun H locs hP hS => ?_)
    refine lv_if_ne (tgt := 41) hx hb d_M_load_15 (by decide) (fun c8 => ?_) (fun c8 => ?_)
    ·
      have hf := op_neg hf c8
      refine lv_iconst (v := -1) hx hb d_M_load_41 (by decide) ?_
      obtain ⟨hv9, rfl⟩ := op_inj hf
      exact wx_iret hx hb hr hlocks hAe hP hS hv9 d_M_load_42
    ·
      have hf := op_pos hf c8
      refine lv_aload_n hx hb d_M_load_18 rfl (lv_at hl 0 rfl) ?_
      refine lv_iload_n hx hb d_M_load_19 rfl (lv_at hl 3 rfl) ?_
      refine lv_iconst (v := 1) hx hb d_M_load_20 (by decide) ?_
      obtain ⟨r11, w10, hc9, hf⟩ := op_b2 hf
      refine wx_fi (wx_rV (As := [.int p3, .int (1 : Int32)]) (rest := []) ⟨hx, hb, hml, hown, ht⟩ (m_M_off l D cy ad _ w6 p3 (1 : Int32) _ _ hc9) ⟨callB_of 2 ht (gt_in (fun _ h9 => h9) kw_599) rfl rfl rfl (ht _ kw_52) (ht _ kw_596) q_M_off ⟨Nat.le_of_ble_eq_true rfl, Nat.le_of_ble_eq_true rfl⟩, ht _ kw_598, ht _ kw_24⟩ nwM_ok hN hK hP (hD _) (by decide) (e_g2_0 cy ad _) rfl rfl hl.1 rfl (Nat.le_of_ble_eq_true rfl) d_M_load_21 ⟨Nat.zero_le _, Nat.zero_le _⟩) (hD _) hS hA (fun H locs hP hS => ?_)
      refine lv_if_ne (tgt := 41) hx hb d_M_load_24 (by decide) (fun c12 => ?_) (fun c12 => ?_)
      ·
        have hf := op_neg hf c12
        refine lv_iconst (v := -1) hx hb d_M_load_41 (by decide) ?_
        obtain ⟨hv9, rfl⟩ := op_inj hf
        exact wx_iret hx hb hr hlocks hAe hP hS hv9 d_M_load_42
      ·
        have hf := op_pos hf c12
        refine lv_iload hx hb d_M_load_27 (lv_at hl 4 rfl) ?_
        refine lv_bipush (v := -99) hx hb d_M_load_29 (by decide) ?_
        refine lv_icmp_lt (tgt := 41) hx hb d_M_load_31 (by decide) (fun c13 => ?_) (fun c13 => ?_)
        ·
          have hf := op_pos hf c13
          refine lv_iconst (v := -1) hx hb d_M_load_41 (by decide) ?_
          obtain ⟨hv9, rfl⟩ := op_inj hf
          exact wx_iret hx hb hr hlocks hAe hP hS hv9 d_M_load_42
        ·
          have hf := op_neg hf c13
          refine lv_iload hx hb d_M_load_34 (lv_at hl 4 rfl) ?_
          refine lv_bipush (v := 99) hx hb d_M_load_36 (by decide) ?_
          refine lv_icmp_le (tgt := 43) hx hb d_M_load_38 (by decide) (fun c14 => ?_) (fun c14 => ?_)
          ·
            have hf := op_pos hf c14
            refine lv_aload_n hx hb d_M_load_43 rfl (lv_at hl 0 rfl) ?_
            refine wx_get (v := .ref (ad 10)) (C := RQ_M) (T := FQ_M) (N := 21) hx hb ht IQ_M hown hK hP 0 (by decide) (e_g2_0 cy ad _) rfl 10 (by decide) (ht _ kw_538) (fun _ h9 => h9) rfl d_M_load_44 ?_
            refine lv_iload_n hx hb d_M_load_47 rfl (lv_at hl 1 rfl) ?_
            refine lv_bipush (v := 10) hx hb d_M_load_48 (by decide) ?_
            refine lv_imul hx hb d_M_load_50 ?_
            refine lv_iload_n hx hb d_M_load_51 rfl (lv_at hl 2 rfl) ?_
            refine lv_iconst (v := 2) hx hb d_M_load_52 (by decide) ?_
            refine lv_imul hx hb d_M_load_53 ?_
            refine lv_iadd hx hb d_M_load_54 ?_
            refine lv_iload_n hx hb d_M_load_55 rfl (lv_at hl 3 rfl) ?_
            refine lv_iadd hx hb d_M_load_56 ?_
            refine lv_iload hx hb d_M_load_57 (lv_at hl 4 rfl) ?_
            obtain ⟨h15, hf⟩ := op_chk hf
            refine wx_iast hx hb hK hP (hD _) hS 10 (by decide) (by decide) 40 rfl h15 d_M_load_59 (fun H locs hP hS => ?_)
            obtain ⟨w16, h17, hf⟩ := op_let hf
            rw [h17] at hP
            refine lv_iconst (v := 0) hx hb d_M_load_60 (by decide) ?_
            obtain ⟨hv9, rfl⟩ := op_inj hf
            exact wx_iret hx hb hr hlocks hAe hP hS hv9 d_M_load_61
          ·
            have hf := op_neg hf c14
            refine lv_iconst (v := -1) hx hb d_M_load_41 (by decide) ?_
            obtain ⟨hv9, rfl⟩ := op_inj hf
            exact wx_iret hx hb hr hlocks hAe hP hS hv9 d_M_load_42

def f_M_good (z0 : gS) (p1 : Int32) : Option (Int32 × gS) :=
 if p1 < 0 ∨ 10 ≤ p1.toNatClampNeg then none else
 if (z0.2.2.1 4 p1.toNatClampNeg) < 0 ∨ 5 ≤ (z0.2.2.1 4 p1.toNatClampNeg).toNatClampNeg then none else
 if (z0.2.2.1 1 (z0.2.2.1 4 p1.toNatClampNeg).toNatClampNeg) = 0 then (some ((0 : Int32), z0))
 else (if p1 < 0 ∨ 10 ≤ p1.toNatClampNeg then none else
 if (z0.2.2.1 5 p1.toNatClampNeg) < 0 ∨ 5 ≤ (z0.2.2.1 5 p1.toNatClampNeg).toNatClampNeg then none else
 if (z0.2.2.1 1 (z0.2.2.1 5 p1.toNatClampNeg).toNatClampNeg) = 0 then (some ((0 : Int32), z0))
 else (if p1 < 0 ∨ 10 ≤ p1.toNatClampNeg then none else
 if (z0.2.2.1 5 p1.toNatClampNeg) < 0 ∨ 5 ≤ (z0.2.2.1 5 p1.toNatClampNeg).toNatClampNeg then none else
 if p1 < 0 ∨ 10 ≤ p1.toNatClampNeg then none else
 if (z0.2.2.1 4 p1.toNatClampNeg) < 0 ∨ 5 ≤ (z0.2.2.1 4 p1.toNatClampNeg).toNatClampNeg then none else
 (some (((z0.2.2.1 2 (z0.2.2.1 5 p1.toNatClampNeg).toNatClampNeg) - (z0.2.2.1 2 (z0.2.2.1 4 p1.toNatClampNeg).toNatClampNeg)) : Int32)).bind (fun v11 =>
 if p1 < 0 ∨ 10 ≤ p1.toNatClampNeg then none else
 if (z0.2.2.1 5 p1.toNatClampNeg) < 0 ∨ 5 ≤ (z0.2.2.1 5 p1.toNatClampNeg).toNatClampNeg then none else
 if p1 < 0 ∨ 10 ≤ p1.toNatClampNeg then none else
 if (z0.2.2.1 4 p1.toNatClampNeg) < 0 ∨ 5 ≤ (z0.2.2.1 4 p1.toNatClampNeg).toNatClampNeg then none else
 (some (((z0.2.2.1 3 (z0.2.2.1 5 p1.toNatClampNeg).toNatClampNeg) - (z0.2.2.1 3 (z0.2.2.1 4 p1.toNatClampNeg).toNatClampNeg)) : Int32)).bind (fun v17 =>
 if v11 = 0 then (some ((1 : Int32), z0))
 else (if v17 = 0 then (some ((1 : Int32), z0))
 else (if v11 = v17 then (some ((1 : Int32), z0))
 else (if v11 = (-v17) then (some ((1 : Int32), z0))
 else (some ((0 : Int32), z0)))))))))
set_option maxHeartbeats 4000000 in
set_option maxRecDepth 100000 in
theorem m_M_good (l : Launch) (D : va_G) (cy : Nat → ClassId) (ad : Nat → Nat) (sz : Nat) (z0 : gS) (p1 : Int32) (r : Int32) (zz : gS) (hf : f_M_good z0 p1 = some (r, zz)) : Met l y_M_good (Cond.code y_M_good c_M_good 4 (some .boolean) :: gt_ws) ({ frames := 0, cells := 0, slots := 0, locals := 0 }) (sPc D cl_all (gTy cy) nwM 16 ad (g2 cy ad z0) sz [.ref (ad 0), .int p1]) (sQi D cl_all 16 ad (g2 cy ad z0) sz r (g2 cy ad zz)) 0 0 (va_A (wl 16 ad (g2 cy ad z0)) sz) := by
  refine Met.ofW (cc := c_M_good) (maxL := 4) (ret := (some .boolean)) (by decide) rfl ?_
  intro p e s m args below meth c s₁ B hml hv
  obtain ⟨rfl, hsz, hP, hK, hN, hD0⟩ := hv
  have hx := B.exec
  have hb := B.bytes
  have hr := B.returns
  have hts := atoms_spec (ws := (Cond.code y_M_good c_M_good 4 (some .boolean) :: gt_ws)) B.pre
  have ht : ∀ w ∈ gt_ws, w.before _ s = true := fun w h => hts w (List.mem_cons_of_mem _ h)
  have hown : s.vm.findClass RQ_M = some m.cls := findClass_of_methodNamed B.named
  have hlocks := B.notSynchronized
  subst hsz
  have hD1 := hD0.self (sz := s.heap.size)
  obtain ⟨A, hAe⟩ : ∃ A, A = va_A (wl 16 ad (g2 cy ad z0)) s.heap.size := ⟨_, rfl⟩
  rw [← hAe] at hD1
  have hD : ∀ g, va_D A (wl 16 ad g) := fun _ => wl_D hD1
  have hA : ∀ q : Nat, s.heap.size ≤ q → A q := fun q h => by rw [hAe]; exact Or.inr h
  have hS : va_S A s.heap s.heap [] := va_S.rf
  have hl := lv_entry ([.ref (ad 0), .int p1]) (n := 4) (Nat.le_of_ble_eq_true rfl)
  rw [lg_entry_eq]
  generalize (lg_sl ([.ref (ad 0), .int p1]) ++ List.replicate (4 - (lg_sl ([.ref (ad 0), .int p1])).length) Slot.unset).toArray = ls at hl ⊢
  have hl : lv_has ls 4 [(0, .ref (ad 0)), (1, .int p1)] := hl
  unfold f_M_good at hf
  refine lv_aload_n hx hb d_M_good_0 rfl (lv_at hl 0 rfl) ?_
  refine wx_get (v := .ref (ad 1)) (C := RQ_M) (T := FQ_M) (N := 21) hx hb ht IQ_M hown hK hP 0 (by decide) (e_g2_0 cy ad _) rfl 0 (by decide) (ht _ kw_528) (fun _ h9 => h9) rfl d_M_good_1 ?_
  refine lv_aload_n hx hb d_M_good_4 rfl (lv_at hl 0 rfl) ?_
  refine wx_get (v := .ref (ad 4)) (C := RQ_M) (T := FQ_M) (N := 21) hx hb ht IQ_M hown hK hP 0 (by decide) (e_g2_0 cy ad _) rfl 3 (by decide) (ht _ kw_531) (fun _ h9 => h9) rfl d_M_good_5 ?_
  refine lv_iload_n hx hb d_M_good_8 rfl (lv_at hl 1 rfl) ?_
  obtain ⟨h1, hf⟩ := op_chk hf
  refine wx_iald hx hb hK hP 4 (by decide) (by decide) 10 rfl h1 d_M_good_9 ?_
  obtain ⟨h2, hf⟩ := op_chk hf
  refine wx_zald hx hb hK hP 1 (by decide) (by decide) 5 rfl h2 d_M_good_10 ?_
  refine lv_if_eq (tgt := 28) hx hb d_M_good_11 (by decide) (fun c3 => ?_) (fun c3 => ?_)
  ·
    have hf := op_pos hf c3
    refine lv_iconst (v := 0) hx hb d_M_good_28 (by decide) ?_
    obtain ⟨hv9, rfl⟩ := op_inj hf
    exact wx_zret hx hb hr hlocks (by first | decide | rfl) hAe hP hS hv9 d_M_good_29
  ·
    have hf := op_neg hf c3
    refine lv_aload_n hx hb d_M_good_14 rfl (lv_at hl 0 rfl) ?_
    refine wx_get (v := .ref (ad 1)) (C := RQ_M) (T := FQ_M) (N := 21) hx hb ht IQ_M hown hK hP 0 (by decide) (e_g2_0 cy ad _) rfl 0 (by decide) (ht _ kw_528) (fun _ h9 => h9) rfl d_M_good_15 ?_
    refine lv_aload_n hx hb d_M_good_18 rfl (lv_at hl 0 rfl) ?_
    refine wx_get (v := .ref (ad 5)) (C := RQ_M) (T := FQ_M) (N := 21) hx hb ht IQ_M hown hK hP 0 (by decide) (e_g2_0 cy ad _) rfl 4 (by decide) (ht _ kw_532) (fun _ h9 => h9) rfl d_M_good_19 ?_
    refine lv_iload_n hx hb d_M_good_22 rfl (lv_at hl 1 rfl) ?_
    obtain ⟨h4, hf⟩ := op_chk hf
    refine wx_iald hx hb hK hP 5 (by decide) (by decide) 10 rfl h4 d_M_good_23 ?_
    obtain ⟨h5, hf⟩ := op_chk hf
    refine wx_zald hx hb hK hP 1 (by decide) (by decide) 5 rfl h5 d_M_good_24 ?_
    refine lv_if_ne (tgt := 30) hx hb d_M_good_25 (by decide) (fun c6 => ?_) (fun c6 => ?_)
    ·
      have hf := op_neg hf c6
      refine lv_aload_n hx hb d_M_good_30 rfl (lv_at hl 0 rfl) ?_
      refine wx_get (v := .ref (ad 2)) (C := RQ_M) (T := FQ_M) (N := 21) hx hb ht IQ_M hown hK hP 0 (by decide) (e_g2_0 cy ad _) rfl 1 (by decide) (ht _ kw_529) (fun _ h9 => h9) rfl d_M_good_31 ?_
      refine lv_aload_n hx hb d_M_good_34 rfl (lv_at hl 0 rfl) ?_
      refine wx_get (v := .ref (ad 5)) (C := RQ_M) (T := FQ_M) (N := 21) hx hb ht IQ_M hown hK hP 0 (by decide) (e_g2_0 cy ad _) rfl 4 (by decide) (ht _ kw_532) (fun _ h9 => h9) rfl d_M_good_35 ?_
      refine lv_iload_n hx hb d_M_good_38 rfl (lv_at hl 1 rfl) ?_
      obtain ⟨h7, hf⟩ := op_chk hf
      refine wx_iald hx hb hK hP 5 (by decide) (by decide) 10 rfl h7 d_M_good_39 ?_
      obtain ⟨h8, hf⟩ := op_chk hf
      refine wx_iald hx hb hK hP 2 (by decide) (by decide) 5 rfl h8 d_M_good_40 ?_
      refine lv_aload_n hx hb d_M_good_41 rfl (lv_at hl 0 rfl) ?_
      refine wx_get (v := .ref (ad 2)) (C := RQ_M) (T := FQ_M) (N := 21) hx hb ht IQ_M hown hK hP 0 (by decide) (e_g2_0 cy ad _) rfl 1 (by decide) (ht _ kw_529) (fun _ h9 => h9) rfl d_M_good_42 ?_
      refine lv_aload_n hx hb d_M_good_45 rfl (lv_at hl 0 rfl) ?_
      refine wx_get (v := .ref (ad 4)) (C := RQ_M) (T := FQ_M) (N := 21) hx hb ht IQ_M hown hK hP 0 (by decide) (e_g2_0 cy ad _) rfl 3 (by decide) (ht _ kw_531) (fun _ h9 => h9) rfl d_M_good_46 ?_
      refine lv_iload_n hx hb d_M_good_49 rfl (lv_at hl 1 rfl) ?_
      obtain ⟨h9, hf⟩ := op_chk hf
      refine wx_iald hx hb hK hP 4 (by decide) (by decide) 10 rfl h9 d_M_good_50 ?_
      obtain ⟨h10, hf⟩ := op_chk hf
      refine wx_iald hx hb hK hP 2 (by decide) (by decide) 5 rfl h10 d_M_good_51 ?_
      refine lv_isub hx hb d_M_good_52 ?_
      obtain ⟨v11, h12, hf⟩ := op_let hf
      refine sw_i h12 ?_
      refine lv_istore_n (lv' := [(2, .int v11), (0, .ref (ad 0)), (1, .int p1)]) hx hb d_M_good_53 rfl hl (by decide) rfl (fun ls hl => ?_)
      refine lv_aload_n hx hb d_M_good_54 rfl (lv_at hl 1 rfl) ?_
      refine wx_get (v := .ref (ad 3)) (C := RQ_M) (T := FQ_M) (N := 21) hx hb ht IQ_M hown hK hP 0 (by decide) (e_g2_0 cy ad _) rfl 2 (by decide) (ht _ kw_530) (fun _ h9 => h9) rfl d_M_good_55 ?_
      refine lv_aload_n hx hb d_M_good_58 rfl (lv_at hl 1 rfl) ?_
      refine wx_get (v := .ref (ad 5)) (C := RQ_M) (T := FQ_M) (N := 21) hx hb ht IQ_M hown hK hP 0 (by decide) (e_g2_0 cy ad _) rfl 4 (by decide) (ht _ kw_532) (fun _ h9 => h9) rfl d_M_good_59 ?_
      refine lv_iload_n hx hb d_M_good_62 rfl (lv_at hl 2 rfl) ?_
      obtain ⟨h13, hf⟩ := op_chk hf
      refine wx_iald hx hb hK hP 5 (by decide) (by decide) 10 rfl h13 d_M_good_63 ?_
      obtain ⟨h14, hf⟩ := op_chk hf
      refine wx_iald hx hb hK hP 3 (by decide) (by decide) 5 rfl h14 d_M_good_64 ?_
      refine lv_aload_n hx hb d_M_good_65 rfl (lv_at hl 1 rfl) ?_
      refine wx_get (v := .ref (ad 3)) (C := RQ_M) (T := FQ_M) (N := 21) hx hb ht IQ_M hown hK hP 0 (by decide) (e_g2_0 cy ad _) rfl 2 (by decide) (ht _ kw_530) (fun _ h9 => h9) rfl d_M_good_66 ?_
      refine lv_aload_n hx hb d_M_good_69 rfl (lv_at hl 1 rfl) ?_
      refine wx_get (v := .ref (ad 4)) (C := RQ_M) (T := FQ_M) (N := 21) hx hb ht IQ_M hown hK hP 0 (by decide) (e_g2_0 cy ad _) rfl 3 (by decide) (ht _ kw_531) (fun _ h9 => h9) rfl d_M_good_70 ?_
      refine lv_iload_n hx hb d_M_good_73 rfl (lv_at hl 2 rfl) ?_
      obtain ⟨h15, hf⟩ := op_chk hf
      refine wx_iald hx hb hK hP 4 (by decide) (by decide) 10 rfl h15 d_M_good_74 ?_
      obtain ⟨h16, hf⟩ := op_chk hf
      refine wx_iald hx hb hK hP 3 (by decide) (by decide) 5 rfl h16 d_M_good_75 ?_
      refine lv_isub hx hb d_M_good_76 ?_
      obtain ⟨v17, h18, hf⟩ := op_let hf
      refine sw_i h18 ?_
      refine lv_istore_n (lv' := [(3, .int v17), (2, .int v11), (0, .ref (ad 0)), (1, .int p1)]) hx hb d_M_good_77 rfl hl (by decide) rfl (fun ls hl => ?_)
      refine lv_iload_n hx hb d_M_good_78 rfl (lv_at hl 1 rfl) ?_
      refine lv_if_eq (tgt := 97) hx hb d_M_good_79 (by decide) (fun c19 => ?_) (fun c19 => ?_)
      ·
        have hf := op_pos hf c19
        refine lv_iconst (v := 1) hx hb d_M_good_97 (by decide) ?_
        refine lv_goto (tgt := 102) hx hb d_M_good_98 (by decide) ?_
        obtain ⟨hv9, rfl⟩ := op_inj hf
        exact wx_zret hx hb hr hlocks (by first | decide | rfl) hAe hP hS hv9 d_M_good_102
      ·
        have hf := op_neg hf c19
        refine lv_iload_n hx hb d_M_good_82 rfl (lv_at hl 0 rfl) ?_
        refine lv_if_eq (tgt := 97) hx hb d_M_good_83 (by decide) (fun c20 => ?_) (fun c20 => ?_)
        ·
          have hf := op_pos hf c20
          refine lv_iconst (v := 1) hx hb d_M_good_97 (by decide) ?_
          refine lv_goto (tgt := 102) hx hb d_M_good_98 (by decide) ?_
          obtain ⟨hv9, rfl⟩ := op_inj hf
          exact wx_zret hx hb hr hlocks (by first | decide | rfl) hAe hP hS hv9 d_M_good_102
        ·
          have hf := op_neg hf c20
          refine lv_iload_n hx hb d_M_good_86 rfl (lv_at hl 1 rfl) ?_
          refine lv_iload_n hx hb d_M_good_87 rfl (lv_at hl 0 rfl) ?_
          refine lv_icmp_eq (tgt := 97) hx hb d_M_good_88 (by decide) (fun c21 => ?_) (fun c21 => ?_)
          ·
            have hf := op_pos hf c21
            refine lv_iconst (v := 1) hx hb d_M_good_97 (by decide) ?_
            refine lv_goto (tgt := 102) hx hb d_M_good_98 (by decide) ?_
            obtain ⟨hv9, rfl⟩ := op_inj hf
            exact wx_zret hx hb hr hlocks (by first | decide | rfl) hAe hP hS hv9 d_M_good_102
          ·
            have hf := op_neg hf c21
            refine lv_iload_n hx hb d_M_good_91 rfl (lv_at hl 1 rfl) ?_
            refine lv_iload_n hx hb d_M_good_92 rfl (lv_at hl 0 rfl) ?_
            refine lv_ineg hx hb d_M_good_93 ?_
            refine lv_icmp_ne (tgt := 101) hx hb d_M_good_94 (by decide) (fun c22 => ?_) (fun c22 => ?_)
            ·
              have hf := op_neg hf c22
              refine lv_iconst (v := 0) hx hb d_M_good_101 (by decide) ?_
              obtain ⟨hv9, rfl⟩ := op_inj hf
              exact wx_zret hx hb hr hlocks (by first | decide | rfl) hAe hP hS hv9 d_M_good_102
            ·
              have hf := op_pos hf c22
              refine lv_iconst (v := 1) hx hb d_M_good_97 (by decide) ?_
              refine lv_goto (tgt := 102) hx hb d_M_good_98 (by decide) ?_
              obtain ⟨hv9, rfl⟩ := op_inj hf
              exact wx_zret hx hb hr hlocks (by first | decide | rfl) hAe hP hS hv9 d_M_good_102
    ·
      have hf := op_pos hf c6
      refine lv_iconst (v := 0) hx hb d_M_good_28 (by decide) ?_
      obtain ⟨hv9, rfl⟩ := op_inj hf
      exact wx_zret hx hb hr hlocks (by first | decide | rfl) hAe hP hS hv9 d_M_good_29

def l_M_exchange_2 : Nat → gS → Int32 → Int32 → Int32 → Option (gS)
  | 0, _, _, _, _ => none
  | n + 1, z, x1, x2, x3 =>
    if (10 : Int32) ≤ x3 then (some z)
     else (if ((x1 * (10 : Int32)) + x3) < 0 ∨ 100 ≤ ((x1 * (10 : Int32)) + x3).toNatClampNeg then none else
     (some ((z.2.2.2 15 ((x1 * (10 : Int32)) + x3).toNatClampNeg) : Int64)).bind (fun v3 =>
     if ((x2 * (10 : Int32)) + x3) < 0 ∨ 100 ≤ ((x2 * (10 : Int32)) + x3).toNatClampNeg then none else
     if ((x1 * (10 : Int32)) + x3) < 0 ∨ 100 ≤ ((x1 * (10 : Int32)) + x3).toNatClampNeg then none else
     (some (s_J z 15 (vp_updL (z.2.2.2 15) ((x1 * (10 : Int32)) + x3).toNatClampNeg (z.2.2.2 15 ((x2 * (10 : Int32)) + x3).toNatClampNeg)))).bind (fun w7 =>
     if ((x2 * (10 : Int32)) + x3) < 0 ∨ 100 ≤ ((x2 * (10 : Int32)) + x3).toNatClampNeg then none else
     (some (s_J w7 15 (vp_updL (w7.2.2.2 15) ((x2 * (10 : Int32)) + x3).toNatClampNeg v3))).bind (fun w10 =>
     l_M_exchange_2 n w10 x1 x2 (x3 + (1 : Int32))))))
def f_M_exchange (z0 : gS) (p1 : Int32) (p2 : Int32) : Option gS :=
 bd1 (l_M_exchange_2 200 z0 p1 p2 (0 : Int32)) (fun w12 =>
 some w12)
set_option maxHeartbeats 4000000 in
set_option maxRecDepth 100000 in
theorem m_M_exchange (l : Launch) (D : va_G) (cy : Nat → ClassId) (ad : Nat → Nat) (sz : Nat) (z0 : gS) (p1 : Int32) (p2 : Int32) (zz : gS) (hf : f_M_exchange z0 p1 p2 = some zz) : Met l y_M_exchange (Cond.code y_M_exchange c_M_exchange 6 none :: gt_ws) ({ frames := 0, cells := 0, slots := 0, locals := 0 }) (sPc D cl_all (gTy cy) nwM 16 ad (g2 cy ad z0) sz [.ref (ad 0), .int p1, .int p2]) (sQv D cl_all 16 ad (g2 cy ad z0) sz (g2 cy ad zz)) 0 0 (va_A (wl 16 ad (g2 cy ad z0)) sz) := by
  refine Met.ofW (cc := c_M_exchange) (maxL := 6) (ret := none) (by decide) rfl ?_
  intro p e s m args below meth c s₁ B hml hv
  obtain ⟨rfl, hsz, hP, hK, hN, hD0⟩ := hv
  have hx := B.exec
  have hb := B.bytes
  have hr := B.returns
  have hts := atoms_spec (ws := (Cond.code y_M_exchange c_M_exchange 6 none :: gt_ws)) B.pre
  have ht : ∀ w ∈ gt_ws, w.before _ s = true := fun w h => hts w (List.mem_cons_of_mem _ h)
  have hown : s.vm.findClass RQ_M = some m.cls := findClass_of_methodNamed B.named
  have hlocks := B.notSynchronized
  subst hsz
  have hD1 := hD0.self (sz := s.heap.size)
  obtain ⟨A, hAe⟩ : ∃ A, A = va_A (wl 16 ad (g2 cy ad z0)) s.heap.size := ⟨_, rfl⟩
  rw [← hAe] at hD1
  have hD : ∀ g, va_D A (wl 16 ad g) := fun _ => wl_D hD1
  have hA : ∀ q : Nat, s.heap.size ≤ q → A q := fun q h => by rw [hAe]; exact Or.inr h
  have hS : va_S A s.heap s.heap [] := va_S.rf
  have hl := lv_entry ([.ref (ad 0), .int p1, .int p2]) (n := 6) (Nat.le_of_ble_eq_true rfl)
  rw [lg_entry_eq]
  generalize (lg_sl ([.ref (ad 0), .int p1, .int p2]) ++ List.replicate (6 - (lg_sl ([.ref (ad 0), .int p1, .int p2])).length) Slot.unset).toArray = ls at hl ⊢
  have hl : lv_has ls 6 [(0, .ref (ad 0)), (1, .int p1), (2, .int p2)] := hl
  have L_2 : ∀ (n : Nat) (z : gS) (x1 : Int32) (x2 : Int32) (x3 : Int32) (z9 : gS), l_M_exchange_2 n z x1 x2 x3 = some z9 → ∀ (H : Heap) (locs : List Loc) (ls : Array Slot), va_P D cl_all (wl 16 ad (g2 cy ad z)) H → va_S A s.heap H locs → lv_has ls 6 [(0, .ref (ad 0)), (1, .int x1), (2, .int x2), (3, .int x3)] →
      (∀ (H : Heap) (locs : List Loc) (ls : Array Slot), va_P D cl_all (wl 16 ad (g2 cy ad z9)) H → va_S A s.heap H locs → lv_has ls 6 [] → W p l e (headSpec (Cond.code y_M_exchange c_M_exchange 6 none :: gt_ws) ({ frames := 0, cells := 0, slots := 0, locals := 0 })).room s m ([.ref (ad 0), .int p1, .int p2]).toArray below meth c H locs 0 0 (MQ below (sQv D cl_all 16 ad (g2 cy ad z0) s.heap.size (g2 cy ad zz)) ([.ref (ad 0), .int p1, .int p2]).toArray s 0 0 (va_A (wl 16 ad (g2 cy ad z0)) s.heap.size)) (F0 m 62 ls [])) →
      W p l e (headSpec (Cond.code y_M_exchange c_M_exchange 6 none :: gt_ws) ({ frames := 0, cells := 0, slots := 0, locals := 0 })).room s m ([.ref (ad 0), .int p1, .int p2]).toArray below meth c H locs 0 0 (MQ below (sQv D cl_all 16 ad (g2 cy ad z0) s.heap.size (g2 cy ad zz)) ([.ref (ad 0), .int p1, .int p2]).toArray s 0 0 (va_A (wl 16 ad (g2 cy ad z0)) s.heap.size)) (F0 m 2 ls []) := by
    intro n
    induction n with
    | zero => intro z x1 x2 x3 z9 hf; rw [l_M_exchange_2] at hf; cases hf
    | succ n ih =>
      intro z x1 x2 x3 z9 hf H locs ls hP hS hl k_0
      rw [l_M_exchange_2] at hf
      refine lv_iload_n hx hb d_M_exchange_2 rfl (lv_at hl 3 rfl) ?_
      refine lv_bipush (v := 10) hx hb d_M_exchange_3 (by decide) ?_
      refine lv_icmp_ge (tgt := 62) hx hb d_M_exchange_5 (by decide) (fun c1 => ?_) (fun c1 => ?_)
      ·
        have hf := op_pos hf c1
        cases hf
        exact k_0 _ _ _ hP hS (lv_sub hl [] rfl)
      ·
        have hf := op_neg hf c1
        refine lv_aload_n hx hb d_M_exchange_8 rfl (lv_at hl 0 rfl) ?_
        refine wx_get (v := .ref (ad 15)) (C := RQ_M) (T := FQ_M) (N := 21) hx hb ht IQ_M hown hK hP 0 (by decide) (e_g2_0 cy ad _) rfl 18 (by decide) (ht _ kw_546) (fun _ h9 => h9) rfl d_M_exchange_9 ?_
        refine lv_iload_n hx hb d_M_exchange_12 rfl (lv_at hl 1 rfl) ?_
        refine lv_bipush (v := 10) hx hb d_M_exchange_13 (by decide) ?_
        refine lv_imul hx hb d_M_exchange_15 ?_
        refine lv_iload_n hx hb d_M_exchange_16 rfl (lv_at hl 3 rfl) ?_
        refine lv_iadd hx hb d_M_exchange_17 ?_
        obtain ⟨h2, hf⟩ := op_chk hf
        refine wx_lald hx hb hK hP 15 (by decide) (by decide) 100 rfl h2 d_M_exchange_18 ?_
        obtain ⟨v3, h4, hf⟩ := op_let hf
        refine sw_l h4 ?_
        refine lv_lstore (lv' := [(4, .long v3), (0, .ref (ad 0)), (1, .int x1), (2, .int x2), (3, .int x3)]) hx hb d_M_exchange_19 hl (by decide) rfl (fun ls hl => ?_)
        refine lv_aload_n hx hb d_M_exchange_21 rfl (lv_at hl 1 rfl) ?_
        refine wx_get (v := .ref (ad 15)) (C := RQ_M) (T := FQ_M) (N := 21) hx hb ht IQ_M hown hK hP 0 (by decide) (e_g2_0 cy ad _) rfl 18 (by decide) (ht _ kw_546) (fun _ h9 => h9) rfl d_M_exchange_22 ?_
        refine lv_iload_n hx hb d_M_exchange_25 rfl (lv_at hl 2 rfl) ?_
        refine lv_bipush (v := 10) hx hb d_M_exchange_26 (by decide) ?_
        refine lv_imul hx hb d_M_exchange_28 ?_
        refine lv_iload_n hx hb d_M_exchange_29 rfl (lv_at hl 4 rfl) ?_
        refine lv_iadd hx hb d_M_exchange_30 ?_
        refine lv_aload_n hx hb d_M_exchange_31 rfl (lv_at hl 1 rfl) ?_
        refine wx_get (v := .ref (ad 15)) (C := RQ_M) (T := FQ_M) (N := 21) hx hb ht IQ_M hown hK hP 0 (by decide) (e_g2_0 cy ad _) rfl 18 (by decide) (ht _ kw_546) (fun _ h9 => h9) rfl d_M_exchange_32 ?_
        refine lv_iload_n hx hb d_M_exchange_35 rfl (lv_at hl 3 rfl) ?_
        refine lv_bipush (v := 10) hx hb d_M_exchange_36 (by decide) ?_
        refine lv_imul hx hb d_M_exchange_38 ?_
        refine lv_iload_n hx hb d_M_exchange_39 rfl (lv_at hl 4 rfl) ?_
        refine lv_iadd hx hb d_M_exchange_40 ?_
        obtain ⟨h5, hf⟩ := op_chk hf
        refine wx_lald hx hb hK hP 15 (by decide) (by decide) 100 rfl h5 d_M_exchange_41 ?_
        obtain ⟨h6, hf⟩ := op_chk hf
        refine wx_last hx hb hK hP (hD _) hS 15 (by decide) (by decide) 100 rfl h6 d_M_exchange_42 (fun H locs hP hS => ?_)
        obtain ⟨w7, h8, hf⟩ := op_let hf
        rw [h8] at hP
        refine lv_aload_n hx hb d_M_exchange_43 rfl (lv_at hl 1 rfl) ?_
        refine wx_get (v := .ref (ad 15)) (C := RQ_M) (T := FQ_M) (N := 21) hx hb ht IQ_M hown hK hP 0 (by decide) (e_g2_0 cy ad _) rfl 18 (by decide) (ht _ kw_546) (fun _ h9 => h9) rfl d_M_exchange_44 ?_
        refine lv_iload_n hx hb d_M_exchange_47 rfl (lv_at hl 3 rfl) ?_
        refine lv_bipush (v := 10) hx hb d_M_exchange_48 (by decide) ?_
        refine lv_imul hx hb d_M_exchange_50 ?_
        refine lv_iload_n hx hb d_M_exchange_51 rfl (lv_at hl 4 rfl) ?_
        refine lv_iadd hx hb d_M_exchange_52 ?_
        refine lv_lload hx hb d_M_exchange_53 (lv_at hl 0 rfl) ?_
        obtain ⟨h9, hf⟩ := op_chk hf
        refine wx_last hx hb hK hP (hD _) hS 15 (by decide) (by decide) 100 rfl h9 d_M_exchange_55 (fun H locs hP hS => ?_)
        obtain ⟨w10, h11, hf⟩ := op_let hf
        rw [h11] at hP
        refine lv_iinc (v := x3 + (1 : Int32)) (lv' := [(3, .int (x3 + (1 : Int32))), (4, .long v3), (0, .ref (ad 0)), (1, .int x1), (2, .int x2)]) hx hb d_M_exchange_56 hl (k := 4) rfl rfl (by decide) rfl (fun ls hl => ?_)
        refine lv_goto (tgt := 2) hx hb d_M_exchange_59 (by decide) ?_
        exact ih _ _ _ _ _ hf _ _ _ hP hS (lv_sub hl [2, 3, 4, 0] rfl) k_0
  unfold f_M_exchange at hf
  refine lv_iconst (v := 0) hx hb d_M_exchange_0 (by decide) ?_
  refine lv_istore_n (lv' := [(3, .int (0 : Int32)), (0, .ref (ad 0)), (1, .int p1), (2, .int p2)]) hx hb d_M_exchange_1 rfl hl (by decide) rfl (fun ls hl => ?_)
  obtain ⟨w12, hc13, hf⟩ := op_b1 hf
  refine L_2 _ _ _ _ _ _ hc13 _ _ _ hP hS (lv_sub hl [1, 2, 3, 0] rfl) (fun H locs ls hP hS hl => ?_)
  obtain rfl := Option.some.inj hf
  exact wx_vret hx hb hr hlocks hAe hP hS d_M_exchange_62
