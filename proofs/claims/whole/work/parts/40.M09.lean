def f_M_combined (z0 : gS) (p1 : Int32) (p2 : Int32) (p3 : Int32) (p4 : Int32) : Option (Int64 × gS) :=
 if (z0.1 1) = 0 then (some ((-4000000000000000000 : Int64), z0))
 else (bd2 (f_M_off z0 p2 (4 : Int32)) (fun r4 w3 =>
 if r4 = 0 then (if p2 < 0 ∨ 5 ≤ p2.toNatClampNeg then none else
 if (w3.2.2.1 1 p2.toNatClampNeg) = 0 then (some ((-4000000000000000000 : Int64), w3))
 else (bd2 (f_M_off w3 p3 (1 : Int32)) (fun r10 w9 =>
 if r10 = 0 then (bd2 (f_M_off w9 p4 (1 : Int32)) (fun r14 w13 =>
 if r14 = 0 then (bd2 (f_M_moved w13 p1 ((p2 * (2 : Int32)) + p3)) (fun r18 w17 =>
 bd2 (f_M_determinant w17) (fun r21 w20 =>
 bd2 (f_M_fraction w20 r18 r21 p4) (fun r24 w23 =>
 some (r24, w23)))))
 else (some ((-4000000000000000000 : Int64), w13))))
 else (some ((-4000000000000000000 : Int64), w9)))))
 else (some ((-4000000000000000000 : Int64), w3))))
set_option maxHeartbeats 4000000 in
set_option maxRecDepth 100000 in
theorem m_M_combined (l : Launch) (D : va_G) (cy : Nat → ClassId) (ad : Nat → Nat) (sz : Nat) (z0 : gS) (p1 : Int32) (p2 : Int32) (p3 : Int32) (p4 : Int32) (r : Int64) (zz : gS) (hf : f_M_combined z0 p1 p2 p3 p4 = some (r, zz)) : Met l y_M_combined (Cond.code y_M_combined c_M_combined 5 (some .long) :: gt_ws) ({ frames := 5, cells := 0, slots := 0, locals := 225 }) (sPc D cl_all (gTy cy) nwM 16 ad (g2 cy ad z0) sz [.ref (ad 0), .int p1, .int p2, .int p3, .int p4]) (sQl D cl_all 16 ad (g2 cy ad z0) sz r (g2 cy ad zz)) 0 0 (va_A (wl 16 ad (g2 cy ad z0)) sz) := by
  refine Met.ofW (cc := c_M_combined) (maxL := 5) (ret := (some .long)) (by decide) rfl ?_
  intro p e s m args below meth c s₁ B hml hv
  obtain ⟨rfl, hsz, hP, hK, hN, hD0⟩ := hv
  have hx := B.exec
  have hb := B.bytes
  have hr := B.returns
  have hts := atoms_spec (ws := (Cond.code y_M_combined c_M_combined 5 (some .long) :: gt_ws)) B.pre
  have ht : ∀ w ∈ gt_ws, w.before _ s = true := fun w h => hts w (List.mem_cons_of_mem _ h)
  have hown : s.vm.findClass RQ_M = some m.cls := findClass_of_methodNamed B.named
  have hlocks := B.notSynchronized
  subst hsz
  have hD1 := hD0.self (sz := s.heap.size)
  obtain ⟨A, hAe⟩ : ∃ A, A = va_A (wl 16 ad (g2 cy ad z0)) s.heap.size := ⟨_, rfl⟩
  rw [← hAe] at hD1
  have hD : ∀ g, va_D A (wl 16 ad g) := fun _ => wl_D hD1
  have hA : ∀ q : Nat, s.heap.size ≤ q → A q := fun q h => by rw [hAe]; exact Or.inr h
  have hS : va_S A s.heap s.heap [] := va_S.rf
  have hl := lv_entry ([.ref (ad 0), .int p1, .int p2, .int p3, .int p4]) (n := 5) (Nat.le_of_ble_eq_true rfl)
  rw [lg_entry_eq]
  generalize (lg_sl ([.ref (ad 0), .int p1, .int p2, .int p3, .int p4]) ++ List.replicate (5 - (lg_sl ([.ref (ad 0), .int p1, .int p2, .int p3, .int p4])).length) Slot.unset).toArray = ls at hl ⊢
  have hl : lv_has ls 5 [(0, .ref (ad 0)), (1, .int p1), (2, .int p2), (3, .int p3), (4, .int p4)] := hl
  unfold f_M_combined at hf
  refine lv_aload_n hx hb d_M_combined_0 rfl (lv_at hl 0 rfl) ?_
  refine wx_get (v := .int (z0.1 1)) (C := RQ_M) (T := FQ_M) (N := 21) hx hb ht IQ_M hown hK hP 0 (by decide) (e_g2_0 cy ad _) rfl 11 (by decide) (ht _ kw_539) (fun _ h9 => h9) rfl d_M_combined_1 ?_
  refine lv_if_eq (tgt := 44) hx hb d_M_combined_4 (by decide) (fun c1 => ?_) (fun c1 => ?_)
  ·
    have hf := op_pos hf c1
    refine lv_ldc2 hx hb hown (ht _ kw_695) d_M_combined_44 ?_
    obtain ⟨hv9, rfl⟩ := op_inj hf
    exact wx_lret hx hb hr hlocks hAe hP hS hv9 d_M_combined_47
  ·
    have hf := op_neg hf c1
    refine lv_aload_n hx hb d_M_combined_7 rfl (lv_at hl 0 rfl) ?_
    refine lv_iload_n hx hb d_M_combined_8 rfl (lv_at hl 2 rfl) ?_
    refine lv_iconst (v := 4) hx hb d_M_combined_9 (by decide) ?_
    obtain ⟨r4, w3, hc2, hf⟩ := op_b2 hf
    refine wx_fi (wx_rV (As := [.int p2, .int (4 : Int32)]) (rest := []) ⟨hx, hb, hml, hown, ht⟩ (m_M_off l D cy ad _ z0 p2 (4 : Int32) _ _ hc2) ⟨callB_of 2 ht (gt_in (fun _ h9 => h9) kw_599) rfl rfl rfl (ht _ kw_52) (ht _ kw_596) q_M_off ⟨Nat.le_of_ble_eq_true rfl, Nat.le_of_ble_eq_true rfl⟩, ht _ kw_598, ht _ kw_24⟩ nwM_ok hN hK hP (hD _) (by decide) (e_g2_0 cy ad _) rfl rfl hl.1 rfl (Nat.le_of_ble_eq_true rfl) d_M_combined_10 ⟨Nat.zero_le _, Nat.zero_le _⟩) (hD _) hS hA (fun H locs hP hS => ?_)
    refine lv_if_ne (tgt := 44) hx hb d_M_combined_13 (by decide) (fun c5 => ?_) (fun c5 => ?_)
    ·
      have hf := op_neg hf c5
      refine lv_ldc2 hx hb hown (ht _ kw_695) d_M_combined_44 ?_
      obtain ⟨hv9, rfl⟩ := op_inj hf
      exact wx_lret hx hb hr hlocks hAe hP hS hv9 d_M_combined_47
    ·
      have hf := op_pos hf c5
      refine lv_aload_n hx hb d_M_combined_16 rfl (lv_at hl 0 rfl) ?_
      refine wx_get (v := .ref (ad 1)) (C := RQ_M) (T := FQ_M) (N := 21) hx hb ht IQ_M hown hK hP 0 (by decide) (e_g2_0 cy ad _) rfl 0 (by decide) (ht _ kw_528) (fun _ h9 => h9) rfl d_M_combined_17 ?_
      refine lv_iload_n hx hb d_M_combined_20 rfl (lv_at hl 2 rfl) ?_
      obtain ⟨h6, hf⟩ := op_chk hf
      refine wx_zald hx hb hK hP 1 (by decide) (by decide) 5 rfl h6 d_M_combined_21 ?_
      refine lv_if_eq (tgt := 44) hx hb d_M_combined_22 (by decide) (fun c7 => ?_) (fun c7 => ?_)
      ·
        have hf := op_pos hf c7
        refine lv_ldc2 hx hb hown (ht _ kw_695) d_M_combined_44 ?_
        obtain ⟨hv9, rfl⟩ := op_inj hf
        exact wx_lret hx hb hr hlocks hAe hP hS hv9 d_M_combined_47
      ·
        have hf := op_neg hf c7
        refine lv_aload_n hx hb d_M_combined_25 rfl (lv_at hl 0 rfl) ?_
        refine lv_iload_n hx hb d_M_combined_26 rfl (lv_at hl 3 rfl) ?_
        refine lv_iconst (v := 1) hx hb d_M_combined_27 (by decide) ?_
        obtain ⟨r10, w9, hc8, hf⟩ := op_b2 hf
        refine wx_fi (wx_rV (As := [.int p3, .int (1 : Int32)]) (rest := []) ⟨hx, hb, hml, hown, ht⟩ (m_M_off l D cy ad _ w3 p3 (1 : Int32) _ _ hc8) ⟨callB_of 2 ht (gt_in (fun _ h9 => h9) kw_599) rfl rfl rfl (ht _ kw_52) (ht _ kw_596) q_M_off ⟨Nat.le_of_ble_eq_true rfl, Nat.le_of_ble_eq_true rfl⟩, ht _ kw_598, ht _ kw_24⟩ nwM_ok hN hK hP (hD _) (by decide) (e_g2_0 cy ad _) rfl rfl hl.1 rfl (Nat.le_of_ble_eq_true rfl) d_M_combined_28 ⟨Nat.zero_le _, Nat.zero_le _⟩) (hD _) hS hA (fun H locs hP hS => ?_)
        refine lv_if_ne (tgt := 44) hx hb d_M_combined_31 (by decide) (fun c11 => ?_) (fun c11 => ?_)
        ·
          have hf := op_neg hf c11
          refine lv_ldc2 hx hb hown (ht _ kw_695) d_M_combined_44 ?_
          obtain ⟨hv9, rfl⟩ := op_inj hf
          exact wx_lret hx hb hr hlocks hAe hP hS hv9 d_M_combined_47
        ·
          have hf := op_pos hf c11
          refine lv_aload_n hx hb d_M_combined_34 rfl (lv_at hl 0 rfl) ?_
          refine lv_iload hx hb d_M_combined_35 (lv_at hl 4 rfl) ?_
          refine lv_iconst (v := 1) hx hb d_M_combined_37 (by decide) ?_
          obtain ⟨r14, w13, hc12, hf⟩ := op_b2 hf
          refine wx_fi (wx_rV (As := [.int p4, .int (1 : Int32)]) (rest := []) ⟨hx, hb, hml, hown, ht⟩ (m_M_off l D cy ad _ w9 p4 (1 : Int32) _ _ hc12) ⟨callB_of 2 ht (gt_in (fun _ h9 => h9) kw_599) rfl rfl rfl (ht _ kw_52) (ht _ kw_596) q_M_off ⟨Nat.le_of_ble_eq_true rfl, Nat.le_of_ble_eq_true rfl⟩, ht _ kw_598, ht _ kw_24⟩ nwM_ok hN hK hP (hD _) (by decide) (e_g2_0 cy ad _) rfl rfl hl.1 rfl (Nat.le_of_ble_eq_true rfl) d_M_combined_38 ⟨Nat.zero_le _, Nat.zero_le _⟩) (hD _) hS hA (fun H locs hP hS => ?_)
          refine lv_if_eq (tgt := 48) hx hb d_M_combined_41 (by decide) (fun c15 => ?_) (fun c15 => ?_)
          ·
            have hf := op_pos hf c15
            refine lv_aload_n hx hb d_M_combined_48 rfl (lv_at hl 0 rfl) ?_
            refine lv_aload_n hx hb d_M_combined_49 rfl (lv_at hl 0 rfl) ?_
            refine lv_iload_n hx hb d_M_combined_50 rfl (lv_at hl 1 rfl) ?_
            refine lv_iload_n hx hb d_M_combined_51 rfl (lv_at hl 2 rfl) ?_
            refine lv_iconst (v := 2) hx hb d_M_combined_52 (by decide) ?_
            refine lv_imul hx hb d_M_combined_53 ?_
            refine lv_iload_n hx hb d_M_combined_54 rfl (lv_at hl 3 rfl) ?_
            refine lv_iadd hx hb d_M_combined_55 ?_
            obtain ⟨r18, w17, hc16, hf⟩ := op_b2 hf
            refine wx_fl (wx_rV (As := [.int p1, .int ((p2 * (2 : Int32)) + p3)]) (rest := [.ref (ad 0)]) ⟨hx, hb, hml, hown, ht⟩ (m_M_moved l D cy ad _ w13 p1 ((p2 * (2 : Int32)) + p3) _ _ hc16) ⟨callB_of 2 ht (gt_in (fun _ h9 => h9) kw_703) rfl rfl rfl (ht _ kw_52) (ht _ kw_700) q_M_moved ⟨Nat.le_of_ble_eq_true rfl, Nat.le_of_ble_eq_true rfl⟩, ht _ kw_702, ht _ kw_40⟩ nwM_ok hN hK hP (hD _) (by decide) (e_g2_0 cy ad _) rfl rfl hl.1 rfl (Nat.le_of_ble_eq_true rfl) d_M_combined_56 ⟨Nat.zero_le _, Nat.zero_le _⟩) (hD _) hS hA (fun H locs hP hS => ?_)
            refine lv_aload_n hx hb d_M_combined_59 rfl (lv_at hl 0 rfl) ?_
            obtain ⟨r21, w20, hc19, hf⟩ := op_b2 hf
            refine wx_fl (wx_rV (As := []) (rest := [.long r18, .ref (ad 0)]) ⟨hx, hb, hml, hown, ht⟩ (m_M_determinant l D cy ad _ w17 _ _ hc19) ⟨callB_of 0 ht (gt_in (fun _ h9 => h9) kw_715) rfl rfl rfl (ht _ kw_52) (ht _ kw_712) q_M_determinant ⟨Nat.le_of_ble_eq_true rfl, Nat.le_of_ble_eq_true rfl⟩, ht _ kw_713, ht _ kw_714⟩ nwM_ok hN hK hP (hD _) (by decide) (e_g2_0 cy ad _) rfl rfl hl.1 rfl (Nat.le_of_ble_eq_true rfl) d_M_combined_60 ⟨Nat.zero_le _, Nat.zero_le _⟩) (hD _) hS hA (fun H locs hP hS => ?_)
            refine lv_iload hx hb d_M_combined_63 (lv_at hl 4 rfl) ?_
            obtain ⟨r24, w23, hc22, hf⟩ := op_b2 hf
            refine wx_fl (wx_rV (As := [.long r18, .long r21, .int p4]) (rest := []) ⟨hx, hb, hml, hown, ht⟩ (m_M_fraction l D cy ad _ w20 r18 r21 p4 _ _ hc22) ⟨callB_of 3 ht (gt_in (fun _ h9 => h9) kw_719) rfl rfl rfl (ht _ kw_52) (ht _ kw_716) q_M_fraction ⟨Nat.le_of_ble_eq_true rfl, Nat.le_of_ble_eq_true rfl⟩, ht _ kw_718, ht _ kw_43⟩ nwM_ok hN hK hP (hD _) (by decide) (e_g2_0 cy ad _) rfl rfl hl.1 rfl (Nat.le_of_ble_eq_true rfl) d_M_combined_65 ⟨Nat.zero_le _, Nat.zero_le _⟩) (hD _) hS hA (fun H locs hP hS => ?_)
            obtain ⟨hv9, rfl⟩ := op_inj hf
            exact wx_lret hx hb hr hlocks hAe hP hS hv9 d_M_combined_68
          ·
            have hf := op_neg hf c15
            refine lv_ldc2 hx hb hown (ht _ kw_695) d_M_combined_44 ?_
            obtain ⟨hv9, rfl⟩ := op_inj hf
            exact wx_lret hx hb hr hlocks hAe hP hS hv9 d_M_combined_47

def f_M_displacement (z0 : gS) (p1 : Int32) (p2 : Int32) (p3 : Int32) (p4 : Int32) : Option (Int64 × gS) :=
 bd2 (f_M_off z0 p1 (3 : Int32)) (fun r3 w2 =>
 if r3 = 0 then (bd2 (f_M_combined w2 ((1 : Int32) <<< (((8 : Int32) * p1) &&& 31)) p2 p3 p4) (fun r7 w6 =>
 some (r7, w6)))
 else (some ((-4000000000000000000 : Int64), w2)))
set_option maxHeartbeats 4000000 in
set_option maxRecDepth 100000 in
theorem m_M_displacement (l : Launch) (D : va_G) (cy : Nat → ClassId) (ad : Nat → Nat) (sz : Nat) (z0 : gS) (p1 : Int32) (p2 : Int32) (p3 : Int32) (p4 : Int32) (r : Int64) (zz : gS) (hf : f_M_displacement z0 p1 p2 p3 p4 = some (r, zz)) : Met l y_M_displacement (Cond.code y_M_displacement c_M_displacement 5 (some .long) :: gt_ws) ({ frames := 6, cells := 0, slots := 0, locals := 270 }) (sPc D cl_all (gTy cy) nwM 16 ad (g2 cy ad z0) sz [.ref (ad 0), .int p1, .int p2, .int p3, .int p4]) (sQl D cl_all 16 ad (g2 cy ad z0) sz r (g2 cy ad zz)) 0 0 (va_A (wl 16 ad (g2 cy ad z0)) sz) := by
  refine Met.ofW (cc := c_M_displacement) (maxL := 5) (ret := (some .long)) (by decide) rfl ?_
  intro p e s m args below meth c s₁ B hml hv
  obtain ⟨rfl, hsz, hP, hK, hN, hD0⟩ := hv
  have hx := B.exec
  have hb := B.bytes
  have hr := B.returns
  have hts := atoms_spec (ws := (Cond.code y_M_displacement c_M_displacement 5 (some .long) :: gt_ws)) B.pre
  have ht : ∀ w ∈ gt_ws, w.before _ s = true := fun w h => hts w (List.mem_cons_of_mem _ h)
  have hown : s.vm.findClass RQ_M = some m.cls := findClass_of_methodNamed B.named
  have hlocks := B.notSynchronized
  subst hsz
  have hD1 := hD0.self (sz := s.heap.size)
  obtain ⟨A, hAe⟩ : ∃ A, A = va_A (wl 16 ad (g2 cy ad z0)) s.heap.size := ⟨_, rfl⟩
  rw [← hAe] at hD1
  have hD : ∀ g, va_D A (wl 16 ad g) := fun _ => wl_D hD1
  have hA : ∀ q : Nat, s.heap.size ≤ q → A q := fun q h => by rw [hAe]; exact Or.inr h
  have hS : va_S A s.heap s.heap [] := va_S.rf
  have hl := lv_entry ([.ref (ad 0), .int p1, .int p2, .int p3, .int p4]) (n := 5) (Nat.le_of_ble_eq_true rfl)
  rw [lg_entry_eq]
  generalize (lg_sl ([.ref (ad 0), .int p1, .int p2, .int p3, .int p4]) ++ List.replicate (5 - (lg_sl ([.ref (ad 0), .int p1, .int p2, .int p3, .int p4])).length) Slot.unset).toArray = ls at hl ⊢
  have hl : lv_has ls 5 [(0, .ref (ad 0)), (1, .int p1), (2, .int p2), (3, .int p3), (4, .int p4)] := hl
  unfold f_M_displacement at hf
  refine lv_aload_n hx hb d_M_displacement_0 rfl (lv_at hl 0 rfl) ?_
  refine lv_iload_n hx hb d_M_displacement_1 rfl (lv_at hl 1 rfl) ?_
  refine lv_iconst (v := 3) hx hb d_M_displacement_2 (by decide) ?_
  obtain ⟨r3, w2, hc1, hf⟩ := op_b2 hf
  refine wx_fi (wx_rV (As := [.int p1, .int (3 : Int32)]) (rest := []) ⟨hx, hb, hml, hown, ht⟩ (m_M_off l D cy ad _ z0 p1 (3 : Int32) _ _ hc1) ⟨callB_of 2 ht (gt_in (fun _ h9 => h9) kw_599) rfl rfl rfl (ht _ kw_52) (ht _ kw_596) q_M_off ⟨Nat.le_of_ble_eq_true rfl, Nat.le_of_ble_eq_true rfl⟩, ht _ kw_598, ht _ kw_24⟩ nwM_ok hN hK hP (hD _) (by decide) (e_g2_0 cy ad _) rfl rfl hl.1 rfl (Nat.le_of_ble_eq_true rfl) d_M_displacement_3 ⟨Nat.zero_le _, Nat.zero_le _⟩) (hD _) hS hA (fun H locs hP hS => ?_)
  refine lv_if_eq (tgt := 13) hx hb d_M_displacement_6 (by decide) (fun c4 => ?_) (fun c4 => ?_)
  ·
    have hf := op_pos hf c4
    refine lv_aload_n hx hb d_M_displacement_13 rfl (lv_at hl 0 rfl) ?_
    refine lv_iconst (v := 1) hx hb d_M_displacement_14 (by decide) ?_
    refine lv_bipush (v := 8) hx hb d_M_displacement_15 (by decide) ?_
    refine lv_iload_n hx hb d_M_displacement_17 rfl (lv_at hl 1 rfl) ?_
    refine lv_imul hx hb d_M_displacement_18 ?_
    refine lv_ishl hx hb d_M_displacement_19 ?_
    refine lv_iload_n hx hb d_M_displacement_20 rfl (lv_at hl 2 rfl) ?_
    refine lv_iload_n hx hb d_M_displacement_21 rfl (lv_at hl 3 rfl) ?_
    refine lv_iload hx hb d_M_displacement_22 (lv_at hl 4 rfl) ?_
    obtain ⟨r7, w6, hc5, hf⟩ := op_b2 hf
    refine wx_fl (wx_rV (As := [.int ((1 : Int32) <<< (((8 : Int32) * p1) &&& 31)), .int p2, .int p3, .int p4]) (rest := []) ⟨hx, hb, hml, hown, ht⟩ (m_M_combined l D cy ad _ w2 ((1 : Int32) <<< (((8 : Int32) * p1) &&& 31)) p2 p3 p4 _ _ hc5) ⟨callB_of 4 ht (gt_in (fun _ h9 => h9) kw_699) rfl rfl rfl (ht _ kw_52) (ht _ kw_696) q_M_combined ⟨Nat.le_of_ble_eq_true rfl, Nat.le_of_ble_eq_true rfl⟩, ht _ kw_697, ht _ kw_698⟩ nwM_ok hN hK hP (hD _) (by decide) (e_g2_0 cy ad _) rfl rfl hl.1 rfl (Nat.le_of_ble_eq_true rfl) d_M_displacement_24 ⟨Nat.zero_le _, Nat.zero_le _⟩) (hD _) hS hA (fun H locs hP hS => ?_)
    obtain ⟨hv9, rfl⟩ := op_inj hf
    exact wx_lret hx hb hr hlocks hAe hP hS hv9 d_M_displacement_27
  ·
    have hf := op_neg hf c4
    refine lv_ldc2 hx hb hown (ht _ kw_695) d_M_displacement_9 ?_
    obtain ⟨hv9, rfl⟩ := op_inj hf
    exact wx_lret hx hb hr hlocks hAe hP hS hv9 d_M_displacement_12

def l_M_pull_5 : Nat → gS → Int32 → Int32 → Int64 → Int32 → Option (Int32 × Int64 × gS)
  | 0, _, _, _, _, _ => none
  | n + 1, z, x1, x2, x3, x5 =>
    if (2 : Int32) ≤ x5 then (some (x2, x3, z))
     else (bd2 (f_M_way z x2 x5) (fun r4 w3 =>
     if x2 < 0 ∨ 10 ≤ x2.toNatClampNeg then none else
     bd2 (f_M_moved w3 x1 (((w3.2.2.1 5 x2.toNatClampNeg) * (2 : Int32)) + x5)) (fun r8 w7 =>
     if x2 < 0 ∨ 10 ≤ x2.toNatClampNeg then none else
     bd2 (f_M_moved w7 x1 (((w7.2.2.1 4 x2.toNatClampNeg) * (2 : Int32)) + x5)) (fun r12 w11 =>
     (some ((x3 + (r4.toInt64 * (r8 - r12))) : Int64)).bind (fun v13 =>
     l_M_pull_5 n w11 x1 x2 v13 (x5 + (1 : Int32)))))))
def f_M_pull (z0 : gS) (p1 : Int32) (p2 : Int32) : Option (Int64 × gS) :=
 bd3 (l_M_pull_5 200 z0 p1 p2 (0 : Int64) (0 : Int32)) (fun v15 v16 w17 =>
 if v15 < 0 ∨ 10 ≤ v15.toNatClampNeg then none else
 some ((v16 * ((w17.2.2.1 6 v15.toNatClampNeg).toInt64)), w17))
set_option maxHeartbeats 4000000 in
set_option maxRecDepth 100000 in
theorem m_M_pull (l : Launch) (D : va_G) (cy : Nat → ClassId) (ad : Nat → Nat) (sz : Nat) (z0 : gS) (p1 : Int32) (p2 : Int32) (r : Int64) (zz : gS) (hf : f_M_pull z0 p1 p2 = some (r, zz)) : Met l y_M_pull (Cond.code y_M_pull c_M_pull 6 (some .long) :: gt_ws) ({ frames := 5, cells := 0, slots := 0, locals := 225 }) (sPc D cl_all (gTy cy) nwM 16 ad (g2 cy ad z0) sz [.ref (ad 0), .int p1, .int p2]) (sQl D cl_all 16 ad (g2 cy ad z0) sz r (g2 cy ad zz)) 0 0 (va_A (wl 16 ad (g2 cy ad z0)) sz) := by
  refine Met.ofW (cc := c_M_pull) (maxL := 6) (ret := (some .long)) (by decide) rfl ?_
  intro p e s m args below meth c s₁ B hml hv
  obtain ⟨rfl, hsz, hP, hK, hN, hD0⟩ := hv
  have hx := B.exec
  have hb := B.bytes
  have hr := B.returns
  have hts := atoms_spec (ws := (Cond.code y_M_pull c_M_pull 6 (some .long) :: gt_ws)) B.pre
  have ht : ∀ w ∈ gt_ws, w.before _ s = true := fun w h => hts w (List.mem_cons_of_mem _ h)
  have hown : s.vm.findClass RQ_M = some m.cls := findClass_of_methodNamed B.named
  have hlocks := B.notSynchronized
  subst hsz
  have hD1 := hD0.self (sz := s.heap.size)
  obtain ⟨A, hAe⟩ : ∃ A, A = va_A (wl 16 ad (g2 cy ad z0)) s.heap.size := ⟨_, rfl⟩
  rw [← hAe] at hD1
  have hD : ∀ g, va_D A (wl 16 ad g) := fun _ => wl_D hD1
  have hA : ∀ q : Nat, s.heap.size ≤ q → A q := fun q h => by rw [hAe]; exact Or.inr h
  have hS : va_S A s.heap s.heap [] := va_S.rf
  have hl := lv_entry ([.ref (ad 0), .int p1, .int p2]) (n := 6) (Nat.le_of_ble_eq_true rfl)
  rw [lg_entry_eq]
  generalize (lg_sl ([.ref (ad 0), .int p1, .int p2]) ++ List.replicate (6 - (lg_sl ([.ref (ad 0), .int p1, .int p2])).length) Slot.unset).toArray = ls at hl ⊢
  have hl : lv_has ls 6 [(0, .ref (ad 0)), (1, .int p1), (2, .int p2)] := hl
  have L_5 : ∀ (n : Nat) (z : gS) (x1 : Int32) (x2 : Int32) (x3 : Int64) (x5 : Int32) (y2 : Int32) (y3 : Int64) (z9 : gS), l_M_pull_5 n z x1 x2 x3 x5 = some (y2, y3, z9) → ∀ (H : Heap) (locs : List Loc) (ls : Array Slot), va_P D cl_all (wl 16 ad (g2 cy ad z)) H → va_S A s.heap H locs → lv_has ls 6 [(0, .ref (ad 0)), (1, .int x1), (2, .int x2), (3, .long x3), (5, .int x5)] →
      (∀ (H : Heap) (locs : List Loc) (ls : Array Slot), va_P D cl_all (wl 16 ad (g2 cy ad z9)) H → va_S A s.heap H locs → lv_has ls 6 [(0, .ref (ad 0)), (2, .int y2), (3, .long y3)] → W p l e (headSpec (Cond.code y_M_pull c_M_pull 6 (some .long) :: gt_ws) ({ frames := 5, cells := 0, slots := 0, locals := 225 })).room s m ([.ref (ad 0), .int p1, .int p2]).toArray below meth c H locs 0 0 (MQ below (sQl D cl_all 16 ad (g2 cy ad z0) s.heap.size r (g2 cy ad zz)) ([.ref (ad 0), .int p1, .int p2]).toArray s 0 0 (va_A (wl 16 ad (g2 cy ad z0)) s.heap.size)) (F0 m 62 ls [])) →
      W p l e (headSpec (Cond.code y_M_pull c_M_pull 6 (some .long) :: gt_ws) ({ frames := 5, cells := 0, slots := 0, locals := 225 })).room s m ([.ref (ad 0), .int p1, .int p2]).toArray below meth c H locs 0 0 (MQ below (sQl D cl_all 16 ad (g2 cy ad z0) s.heap.size r (g2 cy ad zz)) ([.ref (ad 0), .int p1, .int p2]).toArray s 0 0 (va_A (wl 16 ad (g2 cy ad z0)) s.heap.size)) (F0 m 5 ls []) := by
    intro n
    induction n with
    | zero => intro z x1 x2 x3 x5 y2 y3 z9 hf; rw [l_M_pull_5] at hf; cases hf
    | succ n ih =>
      intro z x1 x2 x3 x5 y2 y3 z9 hf H locs ls hP hS hl k_0
      rw [l_M_pull_5] at hf
      refine lv_iload hx hb d_M_pull_5 (lv_at hl 4 rfl) ?_
      refine lv_iconst (v := 2) hx hb d_M_pull_7 (by decide) ?_
      refine lv_icmp_ge (tgt := 62) hx hb d_M_pull_8 (by decide) (fun c1 => ?_) (fun c1 => ?_)
      ·
        have hf := op_pos hf c1
        cases hf
        exact k_0 _ _ _ hP hS (lv_sub hl [0, 2, 3] rfl)
      ·
        have hf := op_neg hf c1
        refine lv_lload_n hx hb d_M_pull_11 rfl (lv_at hl 3 rfl) ?_
        refine lv_aload_n hx hb d_M_pull_12 rfl (lv_at hl 0 rfl) ?_
        refine lv_iload_n hx hb d_M_pull_13 rfl (lv_at hl 2 rfl) ?_
        refine lv_iload hx hb d_M_pull_14 (lv_at hl 4 rfl) ?_
        obtain ⟨r4, w3, hc2, hf⟩ := op_b2 hf
        refine wx_fi (wx_rV (As := [.int x2, .int x5]) (rest := [.long x3]) ⟨hx, hb, hml, hown, ht⟩ (m_M_way l D cy ad _ z x2 x5 _ _ hc2) ⟨callB_of 2 ht (gt_in (fun _ h9 => h9) kw_659) rfl rfl rfl (ht _ kw_52) (ht _ kw_656) q_M_way ⟨Nat.le_of_ble_eq_true rfl, Nat.le_of_ble_eq_true rfl⟩, ht _ kw_658, ht _ kw_33⟩ nwM_ok hN hK hP (hD _) (by decide) (e_g2_0 cy ad _) rfl rfl hl.1 rfl (Nat.le_of_ble_eq_true rfl) d_M_pull_16 ⟨Nat.zero_le _, Nat.zero_le _⟩) (hD _) hS hA (fun H locs hP hS => ?_)
        refine lv_i2l hx hb d_M_pull_19 rfl ?_
        refine lv_aload_n hx hb d_M_pull_20 rfl (lv_at hl 0 rfl) ?_
        refine lv_iload_n hx hb d_M_pull_21 rfl (lv_at hl 1 rfl) ?_
        refine lv_aload_n hx hb d_M_pull_22 rfl (lv_at hl 0 rfl) ?_
        refine wx_get (v := .ref (ad 5)) (C := RQ_M) (T := FQ_M) (N := 21) hx hb ht IQ_M hown hK hP 0 (by decide) (e_g2_0 cy ad _) rfl 4 (by decide) (ht _ kw_532) (fun _ h9 => h9) rfl d_M_pull_23 ?_
        refine lv_iload_n hx hb d_M_pull_26 rfl (lv_at hl 2 rfl) ?_
        obtain ⟨h5, hf⟩ := op_chk hf
        refine wx_iald hx hb hK hP 5 (by decide) (by decide) 10 rfl h5 d_M_pull_27 ?_
        refine lv_iconst (v := 2) hx hb d_M_pull_28 (by decide) ?_
        refine lv_imul hx hb d_M_pull_29 ?_
        refine lv_iload hx hb d_M_pull_30 (lv_at hl 4 rfl) ?_
        refine lv_iadd hx hb d_M_pull_32 ?_
        obtain ⟨r8, w7, hc6, hf⟩ := op_b2 hf
        refine wx_fl (wx_rV (As := [.int x1, .int (((w3.2.2.1 5 x2.toNatClampNeg) * (2 : Int32)) + x5)]) (rest := [.long r4.toInt64, .long x3]) ⟨hx, hb, hml, hown, ht⟩ (m_M_moved l D cy ad _ w3 x1 (((w3.2.2.1 5 x2.toNatClampNeg) * (2 : Int32)) + x5) _ _ hc6) ⟨callB_of 2 ht (gt_in (fun _ h9 => h9) kw_703) rfl rfl rfl (ht _ kw_52) (ht _ kw_700) q_M_moved ⟨Nat.le_of_ble_eq_true rfl, Nat.le_of_ble_eq_true rfl⟩, ht _ kw_702, ht _ kw_40⟩ nwM_ok hN hK hP (hD _) (by decide) (e_g2_0 cy ad _) rfl rfl hl.1 rfl (Nat.le_of_ble_eq_true rfl) d_M_pull_33 ⟨Nat.zero_le _, Nat.zero_le _⟩) (hD _) hS hA (fun H locs hP hS => ?_)
        refine lv_aload_n hx hb d_M_pull_36 rfl (lv_at hl 0 rfl) ?_
        refine lv_iload_n hx hb d_M_pull_37 rfl (lv_at hl 1 rfl) ?_
        refine lv_aload_n hx hb d_M_pull_38 rfl (lv_at hl 0 rfl) ?_
        refine wx_get (v := .ref (ad 4)) (C := RQ_M) (T := FQ_M) (N := 21) hx hb ht IQ_M hown hK hP 0 (by decide) (e_g2_0 cy ad _) rfl 3 (by decide) (ht _ kw_531) (fun _ h9 => h9) rfl d_M_pull_39 ?_
        refine lv_iload_n hx hb d_M_pull_42 rfl (lv_at hl 2 rfl) ?_
        obtain ⟨h9, hf⟩ := op_chk hf
        refine wx_iald hx hb hK hP 4 (by decide) (by decide) 10 rfl h9 d_M_pull_43 ?_
        refine lv_iconst (v := 2) hx hb d_M_pull_44 (by decide) ?_
        refine lv_imul hx hb d_M_pull_45 ?_
        refine lv_iload hx hb d_M_pull_46 (lv_at hl 4 rfl) ?_
        refine lv_iadd hx hb d_M_pull_48 ?_
        obtain ⟨r12, w11, hc10, hf⟩ := op_b2 hf
        refine wx_fl (wx_rV (As := [.int x1, .int (((w7.2.2.1 4 x2.toNatClampNeg) * (2 : Int32)) + x5)]) (rest := [.long r8, .long r4.toInt64, .long x3]) ⟨hx, hb, hml, hown, ht⟩ (m_M_moved l D cy ad _ w7 x1 (((w7.2.2.1 4 x2.toNatClampNeg) * (2 : Int32)) + x5) _ _ hc10) ⟨callB_of 2 ht (gt_in (fun _ h9 => h9) kw_703) rfl rfl rfl (ht _ kw_52) (ht _ kw_700) q_M_moved ⟨Nat.le_of_ble_eq_true rfl, Nat.le_of_ble_eq_true rfl⟩, ht _ kw_702, ht _ kw_40⟩ nwM_ok hN hK hP (hD _) (by decide) (e_g2_0 cy ad _) rfl rfl hl.1 rfl (Nat.le_of_ble_eq_true rfl) d_M_pull_49 ⟨Nat.zero_le _, Nat.zero_le _⟩) (hD _) hS hA (fun H locs hP hS => ?_)
        refine lv_lsub hx hb d_M_pull_52 ?_
        refine lv_lmul hx hb d_M_pull_53 ?_
        refine lv_ladd hx hb d_M_pull_54 ?_
        obtain ⟨v13, h14, hf⟩ := op_let hf
        refine sw_l h14 ?_
        refine lv_lstore_n (lv' := [(3, .long v13), (0, .ref (ad 0)), (1, .int x1), (2, .int x2), (5, .int x5)]) hx hb d_M_pull_55 rfl hl (by decide) rfl (fun ls hl => ?_)
        refine lv_iinc (v := x5 + (1 : Int32)) (lv' := [(5, .int (x5 + (1 : Int32))), (3, .long v13), (0, .ref (ad 0)), (1, .int x1), (2, .int x2)]) hx hb d_M_pull_56 hl (k := 4) rfl rfl (by decide) rfl (fun ls hl => ?_)
        refine lv_goto (tgt := 5) hx hb d_M_pull_59 (by decide) ?_
        exact ih _ _ _ _ _ _ _ _ hf _ _ _ hP hS (lv_sub hl [2, 3, 4, 1, 0] rfl) k_0
  unfold f_M_pull at hf
  refine lv_lconst (v := 0) hx hb d_M_pull_0 (by decide) ?_
  refine lv_lstore_n (lv' := [(3, .long (0 : Int64)), (0, .ref (ad 0)), (1, .int p1), (2, .int p2)]) hx hb d_M_pull_1 rfl hl (by decide) rfl (fun ls hl => ?_)
  refine lv_iconst (v := 0) hx hb d_M_pull_2 (by decide) ?_
  refine lv_istore (lv' := [(5, .int (0 : Int32)), (3, .long (0 : Int64)), (0, .ref (ad 0)), (1, .int p1), (2, .int p2)]) hx hb d_M_pull_3 hl (by decide) rfl (fun ls hl => ?_)
  obtain ⟨v15, v16, w17, hc18, hf⟩ := op_b3 hf
  refine L_5 _ _ _ _ _ _ _ _ _ hc18 _ _ _ hP hS (lv_sub hl [2, 3, 4, 1, 0] rfl) (fun H locs ls hP hS hl => ?_)
  refine lv_lload_n hx hb d_M_pull_62 rfl (lv_at hl 2 rfl) ?_
  refine lv_aload_n hx hb d_M_pull_63 rfl (lv_at hl 0 rfl) ?_
  refine wx_get (v := .ref (ad 6)) (C := RQ_M) (T := FQ_M) (N := 21) hx hb ht IQ_M hown hK hP 0 (by decide) (e_g2_0 cy ad _) rfl 5 (by decide) (ht _ kw_533) (fun _ h9 => h9) rfl d_M_pull_64 ?_
  refine lv_iload_n hx hb d_M_pull_67 rfl (lv_at hl 1 rfl) ?_
  obtain ⟨h19, hf⟩ := op_chk hf
  refine wx_iald hx hb hK hP 6 (by decide) (by decide) 10 rfl h19 d_M_pull_68 ?_
  refine lv_i2l hx hb d_M_pull_69 rfl ?_
  refine lv_lmul hx hb d_M_pull_70 ?_
  obtain ⟨hv9, rfl⟩ := op_inj hf
  exact wx_lret hx hb hr hlocks hAe hP hS hv9 d_M_pull_71

def f_M_force (z0 : gS) (p1 : Int32) (p2 : Int32) (p3 : Int32) : Option (Int64 × gS) :=
 if (z0.1 1) = 0 then (some ((-4000000000000000000 : Int64), z0))
 else (bd2 (f_M_off z0 p1 (3 : Int32)) (fun r4 w3 =>
 if r4 = 0 then (if p2 < 0 then (some ((-4000000000000000000 : Int64), w3))
 else (if (w3.1 0) ≤ p2 then (some ((-4000000000000000000 : Int64), w3))
 else (bd2 (f_M_off w3 p3 (1 : Int32)) (fun r10 w9 =>
 if r10 = 0 then (bd2 (f_M_pull w9 ((1 : Int32) <<< (((8 : Int32) * p1) &&& 31)) p2) (fun r14 w13 =>
 bd2 (f_M_determinant w13) (fun r17 w16 =>
 bd2 (f_M_fraction w16 r14 r17 p3) (fun r20 w19 =>
 some (r20, w19)))))
 else (some ((-4000000000000000000 : Int64), w9))))))
 else (some ((-4000000000000000000 : Int64), w3))))
set_option maxHeartbeats 4000000 in
set_option maxRecDepth 100000 in
theorem m_M_force (l : Launch) (D : va_G) (cy : Nat → ClassId) (ad : Nat → Nat) (sz : Nat) (z0 : gS) (p1 : Int32) (p2 : Int32) (p3 : Int32) (r : Int64) (zz : gS) (hf : f_M_force z0 p1 p2 p3 = some (r, zz)) : Met l y_M_force (Cond.code y_M_force c_M_force 4 (some .long) :: gt_ws) ({ frames := 6, cells := 0, slots := 0, locals := 270 }) (sPc D cl_all (gTy cy) nwM 16 ad (g2 cy ad z0) sz [.ref (ad 0), .int p1, .int p2, .int p3]) (sQl D cl_all 16 ad (g2 cy ad z0) sz r (g2 cy ad zz)) 0 0 (va_A (wl 16 ad (g2 cy ad z0)) sz) := by
  refine Met.ofW (cc := c_M_force) (maxL := 4) (ret := (some .long)) (by decide) rfl ?_
  intro p e s m args below meth c s₁ B hml hv
  obtain ⟨rfl, hsz, hP, hK, hN, hD0⟩ := hv
  have hx := B.exec
  have hb := B.bytes
  have hr := B.returns
  have hts := atoms_spec (ws := (Cond.code y_M_force c_M_force 4 (some .long) :: gt_ws)) B.pre
  have ht : ∀ w ∈ gt_ws, w.before _ s = true := fun w h => hts w (List.mem_cons_of_mem _ h)
  have hown : s.vm.findClass RQ_M = some m.cls := findClass_of_methodNamed B.named
  have hlocks := B.notSynchronized
  subst hsz
  have hD1 := hD0.self (sz := s.heap.size)
  obtain ⟨A, hAe⟩ : ∃ A, A = va_A (wl 16 ad (g2 cy ad z0)) s.heap.size := ⟨_, rfl⟩
  rw [← hAe] at hD1
  have hD : ∀ g, va_D A (wl 16 ad g) := fun _ => wl_D hD1
  have hA : ∀ q : Nat, s.heap.size ≤ q → A q := fun q h => by rw [hAe]; exact Or.inr h
  have hS : va_S A s.heap s.heap [] := va_S.rf
  have hl := lv_entry ([.ref (ad 0), .int p1, .int p2, .int p3]) (n := 4) (Nat.le_of_ble_eq_true rfl)
  rw [lg_entry_eq]
  generalize (lg_sl ([.ref (ad 0), .int p1, .int p2, .int p3]) ++ List.replicate (4 - (lg_sl ([.ref (ad 0), .int p1, .int p2, .int p3])).length) Slot.unset).toArray = ls at hl ⊢
  have hl : lv_has ls 4 [(0, .ref (ad 0)), (1, .int p1), (2, .int p2), (3, .int p3)] := hl
  unfold f_M_force at hf
  refine lv_aload_n hx hb d_M_force_0 rfl (lv_at hl 0 rfl) ?_
  refine wx_get (v := .int (z0.1 1)) (C := RQ_M) (T := FQ_M) (N := 21) hx hb ht IQ_M hown hK hP 0 (by decide) (e_g2_0 cy ad _) rfl 11 (by decide) (ht _ kw_539) (fun _ h9 => h9) rfl d_M_force_1 ?_
  refine lv_if_eq (tgt := 37) hx hb d_M_force_4 (by decide) (fun c1 => ?_) (fun c1 => ?_)
  ·
    have hf := op_pos hf c1
    refine lv_ldc2 hx hb hown (ht _ kw_695) d_M_force_37 ?_
    obtain ⟨hv9, rfl⟩ := op_inj hf
    exact wx_lret hx hb hr hlocks hAe hP hS hv9 d_M_force_40
  ·
    have hf := op_neg hf c1
    refine lv_aload_n hx hb d_M_force_7 rfl (lv_at hl 0 rfl) ?_
    refine lv_iload_n hx hb d_M_force_8 rfl (lv_at hl 1 rfl) ?_
    refine lv_iconst (v := 3) hx hb d_M_force_9 (by decide) ?_
    obtain ⟨r4, w3, hc2, hf⟩ := op_b2 hf
    refine wx_fi (wx_rV (As := [.int p1, .int (3 : Int32)]) (rest := []) ⟨hx, hb, hml, hown, ht⟩ (m_M_off l D cy ad _ z0 p1 (3 : Int32) _ _ hc2) ⟨callB_of 2 ht (gt_in (fun _ h9 => h9) kw_599) rfl rfl rfl (ht _ kw_52) (ht _ kw_596) q_M_off ⟨Nat.le_of_ble_eq_true rfl, Nat.le_of_ble_eq_true rfl⟩, ht _ kw_598, ht _ kw_24⟩ nwM_ok hN hK hP (hD _) (by decide) (e_g2_0 cy ad _) rfl rfl hl.1 rfl (Nat.le_of_ble_eq_true rfl) d_M_force_10 ⟨Nat.zero_le _, Nat.zero_le _⟩) (hD _) hS hA (fun H locs hP hS => ?_)
    refine lv_if_ne (tgt := 37) hx hb d_M_force_13 (by decide) (fun c5 => ?_) (fun c5 => ?_)
    ·
      have hf := op_neg hf c5
      refine lv_ldc2 hx hb hown (ht _ kw_695) d_M_force_37 ?_
      obtain ⟨hv9, rfl⟩ := op_inj hf
      exact wx_lret hx hb hr hlocks hAe hP hS hv9 d_M_force_40
    ·
      have hf := op_pos hf c5
      refine lv_iload_n hx hb d_M_force_16 rfl (lv_at hl 2 rfl) ?_
      refine lv_if_lt (tgt := 37) hx hb d_M_force_17 (by decide) (fun c6 => ?_) (fun c6 => ?_)
      ·
        have hf := op_pos hf c6
        refine lv_ldc2 hx hb hown (ht _ kw_695) d_M_force_37 ?_
        obtain ⟨hv9, rfl⟩ := op_inj hf
        exact wx_lret hx hb hr hlocks hAe hP hS hv9 d_M_force_40
      ·
        have hf := op_neg hf c6
        refine lv_iload_n hx hb d_M_force_20 rfl (lv_at hl 2 rfl) ?_
        refine lv_aload_n hx hb d_M_force_21 rfl (lv_at hl 0 rfl) ?_
        refine wx_get (v := .int (w3.1 0)) (C := RQ_M) (T := FQ_M) (N := 21) hx hb ht IQ_M hown hK hP 0 (by decide) (e_g2_0 cy ad _) rfl 6 (by decide) (ht _ kw_534) (fun _ h9 => h9) rfl d_M_force_22 ?_
        refine lv_icmp_ge (tgt := 37) hx hb d_M_force_25 (by decide) (fun c7 => ?_) (fun c7 => ?_)
        ·
          have hf := op_pos hf c7
          refine lv_ldc2 hx hb hown (ht _ kw_695) d_M_force_37 ?_
          obtain ⟨hv9, rfl⟩ := op_inj hf
          exact wx_lret hx hb hr hlocks hAe hP hS hv9 d_M_force_40
        ·
          have hf := op_neg hf c7
          refine lv_aload_n hx hb d_M_force_28 rfl (lv_at hl 0 rfl) ?_
          refine lv_iload_n hx hb d_M_force_29 rfl (lv_at hl 3 rfl) ?_
          refine lv_iconst (v := 1) hx hb d_M_force_30 (by decide) ?_
          obtain ⟨r10, w9, hc8, hf⟩ := op_b2 hf
          refine wx_fi (wx_rV (As := [.int p3, .int (1 : Int32)]) (rest := []) ⟨hx, hb, hml, hown, ht⟩ (m_M_off l D cy ad _ w3 p3 (1 : Int32) _ _ hc8) ⟨callB_of 2 ht (gt_in (fun _ h9 => h9) kw_599) rfl rfl rfl (ht _ kw_52) (ht _ kw_596) q_M_off ⟨Nat.le_of_ble_eq_true rfl, Nat.le_of_ble_eq_true rfl⟩, ht _ kw_598, ht _ kw_24⟩ nwM_ok hN hK hP (hD _) (by decide) (e_g2_0 cy ad _) rfl rfl hl.1 rfl (Nat.le_of_ble_eq_true rfl) d_M_force_31 ⟨Nat.zero_le _, Nat.zero_le _⟩) (hD _) hS hA (fun H locs hP hS => ?_)
          refine lv_if_eq (tgt := 41) hx hb d_M_force_34 (by decide) (fun c11 => ?_) (fun c11 => ?_)
          ·
            have hf := op_pos hf c11
            refine lv_aload_n hx hb d_M_force_41 rfl (lv_at hl 0 rfl) ?_
            refine lv_aload_n hx hb d_M_force_42 rfl (lv_at hl 0 rfl) ?_
            refine lv_iconst (v := 1) hx hb d_M_force_43 (by decide) ?_
            refine lv_bipush (v := 8) hx hb d_M_force_44 (by decide) ?_
            refine lv_iload_n hx hb d_M_force_46 rfl (lv_at hl 1 rfl) ?_
            refine lv_imul hx hb d_M_force_47 ?_
            refine lv_ishl hx hb d_M_force_48 ?_
            refine lv_iload_n hx hb d_M_force_49 rfl (lv_at hl 2 rfl) ?_
            obtain ⟨r14, w13, hc12, hf⟩ := op_b2 hf
            refine wx_fl (wx_rV (As := [.int ((1 : Int32) <<< (((8 : Int32) * p1) &&& 31)), .int p2]) (rest := [.ref (ad 0)]) ⟨hx, hb, hml, hown, ht⟩ (m_M_pull l D cy ad _ w9 ((1 : Int32) <<< (((8 : Int32) * p1) &&& 31)) p2 _ _ hc12) ⟨callB_of 2 ht (gt_in (fun _ h9 => h9) kw_728) rfl rfl rfl (ht _ kw_52) (ht _ kw_725) q_M_pull ⟨Nat.le_of_ble_eq_true rfl, Nat.le_of_ble_eq_true rfl⟩, ht _ kw_727, ht _ kw_44⟩ nwM_ok hN hK hP (hD _) (by decide) (e_g2_0 cy ad _) rfl rfl hl.1 rfl (Nat.le_of_ble_eq_true rfl) d_M_force_50 ⟨Nat.zero_le _, Nat.zero_le _⟩) (hD _) hS hA (fun H locs hP hS => ?_)
            refine lv_aload_n hx hb d_M_force_53 rfl (lv_at hl 0 rfl) ?_
            obtain ⟨r17, w16, hc15, hf⟩ := op_b2 hf
            refine wx_fl (wx_rV (As := []) (rest := [.long r14, .ref (ad 0)]) ⟨hx, hb, hml, hown, ht⟩ (m_M_determinant l D cy ad _ w13 _ _ hc15) ⟨callB_of 0 ht (gt_in (fun _ h9 => h9) kw_715) rfl rfl rfl (ht _ kw_52) (ht _ kw_712) q_M_determinant ⟨Nat.le_of_ble_eq_true rfl, Nat.le_of_ble_eq_true rfl⟩, ht _ kw_713, ht _ kw_714⟩ nwM_ok hN hK hP (hD _) (by decide) (e_g2_0 cy ad _) rfl rfl hl.1 rfl (Nat.le_of_ble_eq_true rfl) d_M_force_54 ⟨Nat.zero_le _, Nat.zero_le _⟩) (hD _) hS hA (fun H locs hP hS => ?_)
            refine lv_iload_n hx hb d_M_force_57 rfl (lv_at hl 3 rfl) ?_
            obtain ⟨r20, w19, hc18, hf⟩ := op_b2 hf
            refine wx_fl (wx_rV (As := [.long r14, .long r17, .int p3]) (rest := []) ⟨hx, hb, hml, hown, ht⟩ (m_M_fraction l D cy ad _ w16 r14 r17 p3 _ _ hc18) ⟨callB_of 3 ht (gt_in (fun _ h9 => h9) kw_719) rfl rfl rfl (ht _ kw_52) (ht _ kw_716) q_M_fraction ⟨Nat.le_of_ble_eq_true rfl, Nat.le_of_ble_eq_true rfl⟩, ht _ kw_718, ht _ kw_43⟩ nwM_ok hN hK hP (hD _) (by decide) (e_g2_0 cy ad _) rfl rfl hl.1 rfl (Nat.le_of_ble_eq_true rfl) d_M_force_58 ⟨Nat.zero_le _, Nat.zero_le _⟩) (hD _) hS hA (fun H locs hP hS => ?_)
            obtain ⟨hv9, rfl⟩ := op_inj hf
            exact wx_lret hx hb hr hlocks hAe hP hS hv9 d_M_force_61
          ·
            have hf := op_neg hf c11
            refine lv_ldc2 hx hb hown (ht _ kw_695) d_M_force_37 ?_
            obtain ⟨hv9, rfl⟩ := op_inj hf
            exact wx_lret hx hb hr hlocks hAe hP hS hv9 d_M_force_40
