def f_S_node (z0 : gS) (p1 : Int32) (p2 : Int32) (p3 : Int32) : Option (Int32 × gS) :=
 bd2 (f_S_isNode z0 p1) (fun r3 w2 =>
 if r3 = 0 then (some ((-1 : Int32), w2))
 else (bd2 (f_S_isOnGrid w2 p2) (fun r7 w6 =>
 if r7 = 0 then (some ((-1 : Int32), w6))
 else (bd2 (f_S_isOnGrid w6 p3) (fun r11 w10 =>
 if r11 = 0 then (some ((-1 : Int32), w10))
 else (if (w10.1 0) = 0 then (bd2 (f_T_hasOtherAt w10 p1 p2 p3) (fun r16 w15 =>
 if r16 = 0 then (bd1 (f_T_putNode w15 p1 p2 p3) (fun w19 =>
 some ((0 : Int32), w19)))
 else (some ((-2 : Int32), w15))))
 else (some ((-4 : Int32), w10))))))))
set_option maxHeartbeats 4000000 in
set_option maxRecDepth 100000 in
theorem m_S_node (l : Launch) (D : va_G) (cy : Nat → ClassId) (ad : Nat → Nat) (sz : Nat) (z0 : gS) (p1 : Int32) (p2 : Int32) (p3 : Int32) (r : Int32) (zz : gS) (hf : f_S_node z0 p1 p2 p3 = some (r, zz)) : Met l y_S_node (Cond.code y_S_node c_S_node 4 (some .int) :: gt_ws) ({ frames := 2, cells := 0, slots := 0, locals := 90 }) (sPc D cl_all (gTy cy) nwC 52 ad (g1 cy ad z0) sz [.ref (ad 0), .int p1, .int p2, .int p3]) (sQi D cl_all 52 ad (g1 cy ad z0) sz r (g1 cy ad zz)) 0 0 (va_A (wl 52 ad (g1 cy ad z0)) sz) := by
  refine Met.ofW (cc := c_S_node) (maxL := 4) (ret := (some .int)) (by decide) rfl ?_
  intro p e s m args below meth c s₁ B hml hv
  obtain ⟨rfl, hsz, hP, hK, hN, hD0⟩ := hv
  have hx := B.exec
  have hb := B.bytes
  have hr := B.returns
  have hts := atoms_spec (ws := (Cond.code y_S_node c_S_node 4 (some .int) :: gt_ws)) B.pre
  have ht : ∀ w ∈ gt_ws, w.before _ s = true := fun w h => hts w (List.mem_cons_of_mem _ h)
  have hown : s.vm.findClass RQ_S = some m.cls := findClass_of_methodNamed B.named
  have hlocks := B.notSynchronized
  subst hsz
  have hD1 := hD0.self (sz := s.heap.size)
  obtain ⟨A, hAe⟩ : ∃ A, A = va_A (wl 52 ad (g1 cy ad z0)) s.heap.size := ⟨_, rfl⟩
  rw [← hAe] at hD1
  have hD : ∀ g, va_D A (wl 52 ad g) := fun _ => wl_D hD1
  have hA : ∀ q : Nat, s.heap.size ≤ q → A q := fun q h => by rw [hAe]; exact Or.inr h
  have hS : va_S A s.heap s.heap [] := va_S.rf
  have hl := lv_entry ([.ref (ad 0), .int p1, .int p2, .int p3]) (n := 4) (Nat.le_of_ble_eq_true rfl)
  rw [lg_entry_eq]
  generalize (lg_sl ([.ref (ad 0), .int p1, .int p2, .int p3]) ++ List.replicate (4 - (lg_sl ([.ref (ad 0), .int p1, .int p2, .int p3])).length) Slot.unset).toArray = ls at hl ⊢
  have hl : lv_has ls 4 [(0, .ref (ad 0)), (1, .int p1), (2, .int p2), (3, .int p3)] := hl
  unfold f_S_node at hf
  refine lv_iload_n hx hb d_S_node_0 rfl (lv_at hl 1 rfl) ?_
  obtain ⟨r3, w2, hc1, hf⟩ := op_b2 hf
  refine wx_fi (wx_rS (As := [.int p1]) (rest := []) ⟨hx, hb, hml, hown, ht⟩ (m_S_isNode l D cy ad _ z0 p1 _ _ hc1) ⟨callB_of 1 ht (gt_in (fun _ h9 => h9) kw_239) rfl rfl rfl (ht _ kw_47) (ht _ kw_237) q_S_isNode ⟨Nat.le_of_ble_eq_true rfl, Nat.le_of_ble_eq_true rfl⟩, ht _ kw_238⟩ nwC_ok hN hK hP (hD _) rfl hl.1 rfl (Nat.le_of_ble_eq_true rfl) d_S_node_1 ⟨Nat.zero_le _, Nat.zero_le _⟩) (hD _) hS hA (fun H locs hP hS => ?_)
  refine lv_if_eq (tgt := 21) hx hb d_S_node_4 (by decide) (fun c4 => ?_) (fun c4 => ?_)
  ·
    have hf := op_pos hf c4
    refine lv_iconst (v := -1) hx hb d_S_node_21 (by decide) ?_
    obtain ⟨hv9, rfl⟩ := op_inj hf
    exact wx_iret hx hb hr hlocks hAe hP hS hv9 d_S_node_22
  ·
    have hf := op_neg hf c4
    refine lv_iload_n hx hb d_S_node_7 rfl (lv_at hl 2 rfl) ?_
    obtain ⟨r7, w6, hc5, hf⟩ := op_b2 hf
    refine wx_fi (wx_rS (As := [.int p2]) (rest := []) ⟨hx, hb, hml, hown, ht⟩ (m_S_isOnGrid l D cy ad _ w2 p2 _ _ hc5) ⟨callB_of 1 ht (gt_in (fun _ h9 => h9) kw_242) rfl rfl rfl (ht _ kw_47) (ht _ kw_240) q_S_isOnGrid ⟨Nat.le_of_ble_eq_true rfl, Nat.le_of_ble_eq_true rfl⟩, ht _ kw_241⟩ nwC_ok hN hK hP (hD _) rfl hl.1 rfl (Nat.le_of_ble_eq_true rfl) d_S_node_8 ⟨Nat.zero_le _, Nat.zero_le _⟩) (hD _) hS hA (fun H locs hP hS => ?_)
    refine lv_if_eq (tgt := 21) hx hb d_S_node_11 (by decide) (fun c8 => ?_) (fun c8 => ?_)
    ·
      have hf := op_pos hf c8
      refine lv_iconst (v := -1) hx hb d_S_node_21 (by decide) ?_
      obtain ⟨hv9, rfl⟩ := op_inj hf
      exact wx_iret hx hb hr hlocks hAe hP hS hv9 d_S_node_22
    ·
      have hf := op_neg hf c8
      refine lv_iload_n hx hb d_S_node_14 rfl (lv_at hl 3 rfl) ?_
      obtain ⟨r11, w10, hc9, hf⟩ := op_b2 hf
      refine wx_fi (wx_rS (As := [.int p3]) (rest := []) ⟨hx, hb, hml, hown, ht⟩ (m_S_isOnGrid l D cy ad _ w6 p3 _ _ hc9) ⟨callB_of 1 ht (gt_in (fun _ h9 => h9) kw_242) rfl rfl rfl (ht _ kw_47) (ht _ kw_240) q_S_isOnGrid ⟨Nat.le_of_ble_eq_true rfl, Nat.le_of_ble_eq_true rfl⟩, ht _ kw_241⟩ nwC_ok hN hK hP (hD _) rfl hl.1 rfl (Nat.le_of_ble_eq_true rfl) d_S_node_15 ⟨Nat.zero_le _, Nat.zero_le _⟩) (hD _) hS hA (fun H locs hP hS => ?_)
      refine lv_if_ne (tgt := 23) hx hb d_S_node_18 (by decide) (fun c12 => ?_) (fun c12 => ?_)
      ·
        have hf := op_neg hf c12
        refine lv_aload_n hx hb d_S_node_23 rfl (lv_at hl 0 rfl) ?_
        refine wx_get (v := .int (w10.1 0)) (C := RQ_S) (T := FQ_S) (N := 5) hx hb ht IQ_S hown hK hP 0 (by decide) (e_g1_0 cy ad _) rfl 4 (by decide) (ht _ kw_221) (fun _ h9 => h9) rfl d_S_node_24 ?_
        refine lv_if_eq (tgt := 33) hx hb d_S_node_27 (by decide) (fun c13 => ?_) (fun c13 => ?_)
        ·
          have hf := op_pos hf c13
          refine lv_aload_n hx hb d_S_node_33 rfl (lv_at hl 0 rfl) ?_
          refine wx_get (v := .ref (ad 1)) (C := RQ_S) (T := FQ_S) (N := 5) hx hb ht IQ_S hown hK hP 0 (by decide) (e_g1_0 cy ad _) rfl 0 (by decide) (ht _ kw_217) (fun _ h9 => h9) rfl d_S_node_34 ?_
          refine lv_iload_n hx hb d_S_node_37 rfl (lv_at hl 1 rfl) ?_
          refine lv_iload_n hx hb d_S_node_38 rfl (lv_at hl 2 rfl) ?_
          refine lv_iload_n hx hb d_S_node_39 rfl (lv_at hl 3 rfl) ?_
          obtain ⟨r16, w15, hc14, hf⟩ := op_b2 hf
          refine wx_fi (wx_rV (As := [.int p1, .int p2, .int p3]) (rest := []) ⟨hx, hb, hml, hown, ht⟩ (m_T_hasOtherAt l D cy ad _ w10 p1 p2 p3 _ _ hc14) ⟨callB_of 3 ht (gt_in (fun _ h9 => h9) kw_246) rfl rfl rfl (ht _ kw_48) (ht _ kw_243) q_T_hasOtherAt ⟨Nat.le_of_ble_eq_true rfl, Nat.le_of_ble_eq_true rfl⟩, ht _ kw_244, ht _ kw_245⟩ nwC_ok hN hK hP (hD _) (by decide) (e_g1_1 cy ad _) rfl rfl hl.1 rfl (Nat.le_of_ble_eq_true rfl) d_S_node_40 ⟨Nat.zero_le _, Nat.zero_le _⟩) (hD _) hS hA (fun H locs hP hS => ?_)
          refine lv_if_eq (tgt := 49) hx hb d_S_node_43 (by decide) (fun c17 => ?_) (fun c17 => ?_)
          ·
            have hf := op_pos hf c17
            refine lv_aload_n hx hb d_S_node_49 rfl (lv_at hl 0 rfl) ?_
            refine wx_get (v := .ref (ad 1)) (C := RQ_S) (T := FQ_S) (N := 5) hx hb ht IQ_S hown hK hP 0 (by decide) (e_g1_0 cy ad _) rfl 0 (by decide) (ht _ kw_217) (fun _ h9 => h9) rfl d_S_node_50 ?_
            refine lv_iload_n hx hb d_S_node_53 rfl (lv_at hl 1 rfl) ?_
            refine lv_iload_n hx hb d_S_node_54 rfl (lv_at hl 2 rfl) ?_
            refine lv_iload_n hx hb d_S_node_55 rfl (lv_at hl 3 rfl) ?_
            obtain ⟨w19, hc18, hf⟩ := op_b1 hf
            refine wx_fv (wx_rV (As := [.int p1, .int p2, .int p3]) (rest := []) ⟨hx, hb, hml, hown, ht⟩ (m_T_putNode l D cy ad _ w15 p1 p2 p3 _ hc18) ⟨callB_of 3 ht (gt_in (fun _ h9 => h9) kw_257) rfl rfl rfl (ht _ kw_48) (ht _ kw_254) q_T_putNode ⟨Nat.le_of_ble_eq_true rfl, Nat.le_of_ble_eq_true rfl⟩, ht _ kw_255, ht _ kw_256⟩ nwC_ok hN hK hP (hD _) (by decide) (e_g1_1 cy ad _) rfl rfl hl.1 rfl (Nat.le_of_ble_eq_true rfl) d_S_node_56 ⟨Nat.zero_le _, Nat.zero_le _⟩) (hD _) hS hA (fun H locs hP hS => ?_)
            refine lv_iconst (v := 0) hx hb d_S_node_59 (by decide) ?_
            obtain ⟨hv9, rfl⟩ := op_inj hf
            exact wx_iret hx hb hr hlocks hAe hP hS hv9 d_S_node_60
          ·
            have hf := op_neg hf c17
            refine lv_bipush (v := -2) hx hb d_S_node_46 (by decide) ?_
            obtain ⟨hv9, rfl⟩ := op_inj hf
            exact wx_iret hx hb hr hlocks hAe hP hS hv9 d_S_node_48
        ·
          have hf := op_neg hf c13
          refine lv_bipush (v := -4) hx hb d_S_node_30 (by decide) ?_
          obtain ⟨hv9, rfl⟩ := op_inj hf
          exact wx_iret hx hb hr hlocks hAe hP hS hv9 d_S_node_32
      ·
        have hf := op_pos hf c12
        refine lv_iconst (v := -1) hx hb d_S_node_21 (by decide) ?_
        obtain ⟨hv9, rfl⟩ := op_inj hf
        exact wx_iret hx hb hr hlocks hAe hP hS hv9 d_S_node_22

def f_T_addBar (z0 : gS) (p1 : Int32) (p2 : Int32) (p3 : Int32) : Option (Int32 × gS) :=
 (some ((z0.1 2) : Int32)).bind (fun v1 =>
 if v1 < 0 ∨ 10 ≤ v1.toNatClampNeg then none else
 (some (s_I z0 6 (upd (z0.2.2.1 6) v1.toNatClampNeg p1))).bind (fun w4 =>
 if v1 < 0 ∨ 10 ≤ v1.toNatClampNeg then none else
 (some (s_I w4 7 (upd (w4.2.2.1 7) v1.toNatClampNeg p2))).bind (fun w7 =>
 if v1 < 0 ∨ 10 ≤ v1.toNatClampNeg then none else
 (some (s_I w7 8 (upd (w7.2.2.1 8) v1.toNatClampNeg p3))).bind (fun w10 =>
 (some (((w10.1 2) + (1 : Int32)) : Int32)).bind (fun v12 =>
 (some (s_i w10 2 v12)).bind (fun w14 =>
 some (v1, w14)))))))
set_option maxHeartbeats 4000000 in
set_option maxRecDepth 100000 in
theorem m_T_addBar (l : Launch) (D : va_G) (cy : Nat → ClassId) (ad : Nat → Nat) (sz : Nat) (z0 : gS) (p1 : Int32) (p2 : Int32) (p3 : Int32) (r : Int32) (zz : gS) (hf : f_T_addBar z0 p1 p2 p3 = some (r, zz)) : Met l y_T_addBar (Cond.code y_T_addBar c_T_addBar 5 (some .int) :: gt_ws) ({ frames := 0, cells := 0, slots := 0, locals := 0 }) (sPc D cl_all (gTy cy) nwC 52 ad (g1 cy ad z0) sz [.ref (ad 1), .int p1, .int p2, .int p3]) (sQi D cl_all 52 ad (g1 cy ad z0) sz r (g1 cy ad zz)) 0 0 (va_A (wl 52 ad (g1 cy ad z0)) sz) := by
  refine Met.ofW (cc := c_T_addBar) (maxL := 5) (ret := (some .int)) (by decide) rfl ?_
  intro p e s m args below meth c s₁ B hml hv
  obtain ⟨rfl, hsz, hP, hK, hN, hD0⟩ := hv
  have hx := B.exec
  have hb := B.bytes
  have hr := B.returns
  have hts := atoms_spec (ws := (Cond.code y_T_addBar c_T_addBar 5 (some .int) :: gt_ws)) B.pre
  have ht : ∀ w ∈ gt_ws, w.before _ s = true := fun w h => hts w (List.mem_cons_of_mem _ h)
  have hown : s.vm.findClass RQ_T = some m.cls := findClass_of_methodNamed B.named
  have hlocks := B.notSynchronized
  subst hsz
  have hD1 := hD0.self (sz := s.heap.size)
  obtain ⟨A, hAe⟩ : ∃ A, A = va_A (wl 52 ad (g1 cy ad z0)) s.heap.size := ⟨_, rfl⟩
  rw [← hAe] at hD1
  have hD : ∀ g, va_D A (wl 52 ad g) := fun _ => wl_D hD1
  have hA : ∀ q : Nat, s.heap.size ≤ q → A q := fun q h => by rw [hAe]; exact Or.inr h
  have hS : va_S A s.heap s.heap [] := va_S.rf
  have hl := lv_entry ([.ref (ad 1), .int p1, .int p2, .int p3]) (n := 5) (Nat.le_of_ble_eq_true rfl)
  rw [lg_entry_eq]
  generalize (lg_sl ([.ref (ad 1), .int p1, .int p2, .int p3]) ++ List.replicate (5 - (lg_sl ([.ref (ad 1), .int p1, .int p2, .int p3])).length) Slot.unset).toArray = ls at hl ⊢
  have hl : lv_has ls 5 [(0, .ref (ad 1)), (1, .int p1), (2, .int p2), (3, .int p3)] := hl
  unfold f_T_addBar at hf
  refine lv_aload_n hx hb d_T_addBar_0 rfl (lv_at hl 0 rfl) ?_
  refine wx_get (v := .int (z0.1 2)) (C := RQ_T) (T := FQ_T) (N := 10) hx hb ht IQ_T hown hK hP 1 (by decide) (e_g1_1 cy ad _) rfl 5 (by decide) (ht _ kw_83) (fun _ h9 => h9) rfl d_T_addBar_1 ?_
  obtain ⟨v1, h2, hf⟩ := op_let hf
  refine sw_i h2 ?_
  refine lv_istore (lv' := [(4, .int v1), (0, .ref (ad 1)), (1, .int p1), (2, .int p2), (3, .int p3)]) hx hb d_T_addBar_4 hl (by decide) rfl (fun ls hl => ?_)
  refine lv_aload_n hx hb d_T_addBar_6 rfl (lv_at hl 1 rfl) ?_
  refine wx_get (v := .ref (ad 6)) (C := RQ_T) (T := FQ_T) (N := 10) hx hb ht IQ_T hown hK hP 1 (by decide) (e_g1_1 cy ad _) rfl 2 (by decide) (ht _ kw_76) (fun _ h9 => h9) rfl d_T_addBar_7 ?_
  refine lv_iload hx hb d_T_addBar_10 (lv_at hl 0 rfl) ?_
  refine lv_iload_n hx hb d_T_addBar_12 rfl (lv_at hl 2 rfl) ?_
  obtain ⟨h3, hf⟩ := op_chk hf
  refine wx_iast hx hb hK hP (hD _) hS 6 (by decide) (by decide) 10 rfl h3 d_T_addBar_13 (fun H locs hP hS => ?_)
  obtain ⟨w4, h5, hf⟩ := op_let hf
  rw [h5] at hP
  refine lv_aload_n hx hb d_T_addBar_14 rfl (lv_at hl 1 rfl) ?_
  refine wx_get (v := .ref (ad 7)) (C := RQ_T) (T := FQ_T) (N := 10) hx hb ht IQ_T hown hK hP 1 (by decide) (e_g1_1 cy ad _) rfl 3 (by decide) (ht _ kw_78) (fun _ h9 => h9) rfl d_T_addBar_15 ?_
  refine lv_iload hx hb d_T_addBar_18 (lv_at hl 0 rfl) ?_
  refine lv_iload_n hx hb d_T_addBar_20 rfl (lv_at hl 3 rfl) ?_
  obtain ⟨h6, hf⟩ := op_chk hf
  refine wx_iast hx hb hK hP (hD _) hS 7 (by decide) (by decide) 10 rfl h6 d_T_addBar_21 (fun H locs hP hS => ?_)
  obtain ⟨w7, h8, hf⟩ := op_let hf
  rw [h8] at hP
  refine lv_aload_n hx hb d_T_addBar_22 rfl (lv_at hl 1 rfl) ?_
  refine wx_get (v := .ref (ad 8)) (C := RQ_T) (T := FQ_T) (N := 10) hx hb ht IQ_T hown hK hP 1 (by decide) (e_g1_1 cy ad _) rfl 4 (by decide) (ht _ kw_80) (fun _ h9 => h9) rfl d_T_addBar_23 ?_
  refine lv_iload hx hb d_T_addBar_26 (lv_at hl 0 rfl) ?_
  refine lv_iload_n hx hb d_T_addBar_28 rfl (lv_at hl 4 rfl) ?_
  obtain ⟨h9, hf⟩ := op_chk hf
  refine wx_iast hx hb hK hP (hD _) hS 8 (by decide) (by decide) 10 rfl h9 d_T_addBar_29 (fun H locs hP hS => ?_)
  obtain ⟨w10, h11, hf⟩ := op_let hf
  rw [h11] at hP
  refine lv_aload_n hx hb d_T_addBar_30 rfl (lv_at hl 1 rfl) ?_
  refine lv_dup hx hb d_T_addBar_31 rfl ?_
  refine wx_get (v := .int (w10.1 2)) (C := RQ_T) (T := FQ_T) (N := 10) hx hb ht IQ_T hown hK hP 1 (by decide) (e_g1_1 cy ad _) rfl 5 (by decide) (ht _ kw_83) (fun _ h9 => h9) rfl d_T_addBar_32 ?_
  refine lv_iconst (v := 1) hx hb d_T_addBar_35 (by decide) ?_
  refine lv_iadd hx hb d_T_addBar_36 ?_
  obtain ⟨v12, h13, hf⟩ := op_let hf
  refine sw_i h13 ?_
  refine wx_put (v := .int v12) (ty := .int) (C := RQ_T) (T := FQ_T) (N := 10) hx hb ht IQ_T TQ_T TQ_T_ok NQ_T hown hK hP (hD _) hS 1 (by decide) (e_g1_1 cy ad _) rfl 5 (by decide) (ht _ kw_83) (fun _ h9 => h9) rfl (by decide +kernel) rfl rfl (Nat.le_of_ble_eq_true rfl) d_T_addBar_37 (up_T_barCount cy ad _ v12) (fun H locs hP hS => ?_)
  obtain ⟨w14, h15, hf⟩ := op_let hf
  rw [h15] at hP
  refine lv_iload hx hb d_T_addBar_40 (lv_at hl 0 rfl) ?_
  obtain ⟨hv9, rfl⟩ := op_inj hf
  exact wx_iret hx hb hr hlocks hAe hP hS hv9 d_T_addBar_42

def f_S_bar (z0 : gS) (p1 : Int32) (p2 : Int32) (p3 : Int32) : Option (Int32 × gS) :=
 bd2 (f_S_isNode z0 p1) (fun r3 w2 =>
 if r3 = 0 then (some ((-1 : Int32), w2))
 else (bd2 (f_S_isNode w2 p2) (fun r7 w6 =>
 if r7 = 0 then (some ((-1 : Int32), w6))
 else (if p3 < (1 : Int32) then (some ((-1 : Int32), w6))
 else (if (3 : Int32) < p3 then (some ((-1 : Int32), w6))
 else (if p1 = p2 then (some ((-1 : Int32), w6))
 else (if (w6.1 0) = 0 then (if (w6.1 2) < (10 : Int32) then (bd2 (f_T_addBar w6 p1 p2 p3) (fun r16 w15 =>
 some (r16, w15)))
 else (some ((-3 : Int32), w6)))
 else (some ((-4 : Int32), w6)))))))))
set_option maxHeartbeats 4000000 in
set_option maxRecDepth 100000 in
theorem m_S_bar (l : Launch) (D : va_G) (cy : Nat → ClassId) (ad : Nat → Nat) (sz : Nat) (z0 : gS) (p1 : Int32) (p2 : Int32) (p3 : Int32) (r : Int32) (zz : gS) (hf : f_S_bar z0 p1 p2 p3 = some (r, zz)) : Met l y_S_bar (Cond.code y_S_bar c_S_bar 4 (some .int) :: gt_ws) ({ frames := 1, cells := 0, slots := 0, locals := 45 }) (sPc D cl_all (gTy cy) nwC 52 ad (g1 cy ad z0) sz [.ref (ad 0), .int p1, .int p2, .int p3]) (sQi D cl_all 52 ad (g1 cy ad z0) sz r (g1 cy ad zz)) 0 0 (va_A (wl 52 ad (g1 cy ad z0)) sz) := by
  refine Met.ofW (cc := c_S_bar) (maxL := 4) (ret := (some .int)) (by decide) rfl ?_
  intro p e s m args below meth c s₁ B hml hv
  obtain ⟨rfl, hsz, hP, hK, hN, hD0⟩ := hv
  have hx := B.exec
  have hb := B.bytes
  have hr := B.returns
  have hts := atoms_spec (ws := (Cond.code y_S_bar c_S_bar 4 (some .int) :: gt_ws)) B.pre
  have ht : ∀ w ∈ gt_ws, w.before _ s = true := fun w h => hts w (List.mem_cons_of_mem _ h)
  have hown : s.vm.findClass RQ_S = some m.cls := findClass_of_methodNamed B.named
  have hlocks := B.notSynchronized
  subst hsz
  have hD1 := hD0.self (sz := s.heap.size)
  obtain ⟨A, hAe⟩ : ∃ A, A = va_A (wl 52 ad (g1 cy ad z0)) s.heap.size := ⟨_, rfl⟩
  rw [← hAe] at hD1
  have hD : ∀ g, va_D A (wl 52 ad g) := fun _ => wl_D hD1
  have hA : ∀ q : Nat, s.heap.size ≤ q → A q := fun q h => by rw [hAe]; exact Or.inr h
  have hS : va_S A s.heap s.heap [] := va_S.rf
  have hl := lv_entry ([.ref (ad 0), .int p1, .int p2, .int p3]) (n := 4) (Nat.le_of_ble_eq_true rfl)
  rw [lg_entry_eq]
  generalize (lg_sl ([.ref (ad 0), .int p1, .int p2, .int p3]) ++ List.replicate (4 - (lg_sl ([.ref (ad 0), .int p1, .int p2, .int p3])).length) Slot.unset).toArray = ls at hl ⊢
  have hl : lv_has ls 4 [(0, .ref (ad 0)), (1, .int p1), (2, .int p2), (3, .int p3)] := hl
  unfold f_S_bar at hf
  refine lv_iload_n hx hb d_S_bar_0 rfl (lv_at hl 1 rfl) ?_
  obtain ⟨r3, w2, hc1, hf⟩ := op_b2 hf
  refine wx_fi (wx_rS (As := [.int p1]) (rest := []) ⟨hx, hb, hml, hown, ht⟩ (m_S_isNode l D cy ad _ z0 p1 _ _ hc1) ⟨callB_of 1 ht (gt_in (fun _ h9 => h9) kw_239) rfl rfl rfl (ht _ kw_47) (ht _ kw_237) q_S_isNode ⟨Nat.le_of_ble_eq_true rfl, Nat.le_of_ble_eq_true rfl⟩, ht _ kw_238⟩ nwC_ok hN hK hP (hD _) rfl hl.1 rfl (Nat.le_of_ble_eq_true rfl) d_S_bar_1 ⟨Nat.zero_le _, Nat.zero_le _⟩) (hD _) hS hA (fun H locs hP hS => ?_)
  refine lv_if_eq (tgt := 29) hx hb d_S_bar_4 (by decide) (fun c4 => ?_) (fun c4 => ?_)
  ·
    have hf := op_pos hf c4
    refine lv_iconst (v := -1) hx hb d_S_bar_29 (by decide) ?_
    obtain ⟨hv9, rfl⟩ := op_inj hf
    exact wx_iret hx hb hr hlocks hAe hP hS hv9 d_S_bar_30
  ·
    have hf := op_neg hf c4
    refine lv_iload_n hx hb d_S_bar_7 rfl (lv_at hl 2 rfl) ?_
    obtain ⟨r7, w6, hc5, hf⟩ := op_b2 hf
    refine wx_fi (wx_rS (As := [.int p2]) (rest := []) ⟨hx, hb, hml, hown, ht⟩ (m_S_isNode l D cy ad _ w2 p2 _ _ hc5) ⟨callB_of 1 ht (gt_in (fun _ h9 => h9) kw_239) rfl rfl rfl (ht _ kw_47) (ht _ kw_237) q_S_isNode ⟨Nat.le_of_ble_eq_true rfl, Nat.le_of_ble_eq_true rfl⟩, ht _ kw_238⟩ nwC_ok hN hK hP (hD _) rfl hl.1 rfl (Nat.le_of_ble_eq_true rfl) d_S_bar_8 ⟨Nat.zero_le _, Nat.zero_le _⟩) (hD _) hS hA (fun H locs hP hS => ?_)
    refine lv_if_eq (tgt := 29) hx hb d_S_bar_11 (by decide) (fun c8 => ?_) (fun c8 => ?_)
    ·
      have hf := op_pos hf c8
      refine lv_iconst (v := -1) hx hb d_S_bar_29 (by decide) ?_
      obtain ⟨hv9, rfl⟩ := op_inj hf
      exact wx_iret hx hb hr hlocks hAe hP hS hv9 d_S_bar_30
    ·
      have hf := op_neg hf c8
      refine lv_iload_n hx hb d_S_bar_14 rfl (lv_at hl 3 rfl) ?_
      refine lv_iconst (v := 1) hx hb d_S_bar_15 (by decide) ?_
      refine lv_icmp_lt (tgt := 29) hx hb d_S_bar_16 (by decide) (fun c9 => ?_) (fun c9 => ?_)
      ·
        have hf := op_pos hf c9
        refine lv_iconst (v := -1) hx hb d_S_bar_29 (by decide) ?_
        obtain ⟨hv9, rfl⟩ := op_inj hf
        exact wx_iret hx hb hr hlocks hAe hP hS hv9 d_S_bar_30
      ·
        have hf := op_neg hf c9
        refine lv_iload_n hx hb d_S_bar_19 rfl (lv_at hl 3 rfl) ?_
        refine lv_iconst (v := 3) hx hb d_S_bar_20 (by decide) ?_
        refine lv_icmp_gt (tgt := 29) hx hb d_S_bar_21 (by decide) (fun c10 => ?_) (fun c10 => ?_)
        ·
          have hf := op_pos hf c10
          refine lv_iconst (v := -1) hx hb d_S_bar_29 (by decide) ?_
          obtain ⟨hv9, rfl⟩ := op_inj hf
          exact wx_iret hx hb hr hlocks hAe hP hS hv9 d_S_bar_30
        ·
          have hf := op_neg hf c10
          refine lv_iload_n hx hb d_S_bar_24 rfl (lv_at hl 1 rfl) ?_
          refine lv_iload_n hx hb d_S_bar_25 rfl (lv_at hl 2 rfl) ?_
          refine lv_icmp_ne (tgt := 31) hx hb d_S_bar_26 (by decide) (fun c11 => ?_) (fun c11 => ?_)
          ·
            have hf := op_neg hf c11
            refine lv_aload_n hx hb d_S_bar_31 rfl (lv_at hl 0 rfl) ?_
            refine wx_get (v := .int (w6.1 0)) (C := RQ_S) (T := FQ_S) (N := 5) hx hb ht IQ_S hown hK hP 0 (by decide) (e_g1_0 cy ad _) rfl 4 (by decide) (ht _ kw_221) (fun _ h9 => h9) rfl d_S_bar_32 ?_
            refine lv_if_eq (tgt := 41) hx hb d_S_bar_35 (by decide) (fun c12 => ?_) (fun c12 => ?_)
            ·
              have hf := op_pos hf c12
              refine lv_aload_n hx hb d_S_bar_41 rfl (lv_at hl 0 rfl) ?_
              refine wx_get (v := .ref (ad 1)) (C := RQ_S) (T := FQ_S) (N := 5) hx hb ht IQ_S hown hK hP 0 (by decide) (e_g1_0 cy ad _) rfl 0 (by decide) (ht _ kw_217) (fun _ h9 => h9) rfl d_S_bar_42 ?_
              refine wx_get (v := .int (w6.1 2)) (C := RQ_T) (T := FQ_T) (N := 10) hx hb ht IQ_T hown hK hP 1 (by decide) (e_g1_1 cy ad _) rfl 5 (by decide) (ht _ kw_86) (fun _ h9 => h9) rfl d_S_bar_45 ?_
              refine lv_bipush (v := 10) hx hb d_S_bar_48 (by decide) ?_
              refine lv_icmp_lt (tgt := 56) hx hb d_S_bar_50 (by decide) (fun c13 => ?_) (fun c13 => ?_)
              ·
                have hf := op_pos hf c13
                refine lv_aload_n hx hb d_S_bar_56 rfl (lv_at hl 0 rfl) ?_
                refine wx_get (v := .ref (ad 1)) (C := RQ_S) (T := FQ_S) (N := 5) hx hb ht IQ_S hown hK hP 0 (by decide) (e_g1_0 cy ad _) rfl 0 (by decide) (ht _ kw_217) (fun _ h9 => h9) rfl d_S_bar_57 ?_
                refine lv_iload_n hx hb d_S_bar_60 rfl (lv_at hl 1 rfl) ?_
                refine lv_iload_n hx hb d_S_bar_61 rfl (lv_at hl 2 rfl) ?_
                refine lv_iload_n hx hb d_S_bar_62 rfl (lv_at hl 3 rfl) ?_
                obtain ⟨r16, w15, hc14, hf⟩ := op_b2 hf
                refine wx_fi (wx_rV (As := [.int p1, .int p2, .int p3]) (rest := []) ⟨hx, hb, hml, hown, ht⟩ (m_T_addBar l D cy ad _ w6 p1 p2 p3 _ _ hc14) ⟨callB_of 3 ht (gt_in (fun _ h9 => h9) kw_265) rfl rfl rfl (ht _ kw_48) (ht _ kw_262) q_T_addBar ⟨Nat.le_of_ble_eq_true rfl, Nat.le_of_ble_eq_true rfl⟩, ht _ kw_263, ht _ kw_264⟩ nwC_ok hN hK hP (hD _) (by decide) (e_g1_1 cy ad _) rfl rfl hl.1 rfl (Nat.le_of_ble_eq_true rfl) d_S_bar_63 ⟨Nat.zero_le _, Nat.zero_le _⟩) (hD _) hS hA (fun H locs hP hS => ?_)
                obtain ⟨hv9, rfl⟩ := op_inj hf
                exact wx_iret hx hb hr hlocks hAe hP hS hv9 d_S_bar_66
              ·
                have hf := op_neg hf c13
                refine lv_bipush (v := -3) hx hb d_S_bar_53 (by decide) ?_
                obtain ⟨hv9, rfl⟩ := op_inj hf
                exact wx_iret hx hb hr hlocks hAe hP hS hv9 d_S_bar_55
            ·
              have hf := op_neg hf c12
              refine lv_bipush (v := -4) hx hb d_S_bar_38 (by decide) ?_
              obtain ⟨hv9, rfl⟩ := op_inj hf
              exact wx_iret hx hb hr hlocks hAe hP hS hv9 d_S_bar_40
          ·
            have hf := op_pos hf c11
            refine lv_iconst (v := -1) hx hb d_S_bar_29 (by decide) ?_
            obtain ⟨hv9, rfl⟩ := op_inj hf
            exact wx_iret hx hb hr hlocks hAe hP hS hv9 d_S_bar_30

def f_S_isBarThere (z0 : gS) (p1 : Int32) : Option (Int32 × gS) :=
 if p1 < 0 then (some ((0 : Int32), z0))
 else (if (z0.1 2) ≤ p1 then (some ((0 : Int32), z0))
 else (some ((1 : Int32), z0)))
set_option maxHeartbeats 4000000 in
set_option maxRecDepth 100000 in
theorem m_S_isBarThere (l : Launch) (D : va_G) (cy : Nat → ClassId) (ad : Nat → Nat) (sz : Nat) (z0 : gS) (p1 : Int32) (r : Int32) (zz : gS) (hf : f_S_isBarThere z0 p1 = some (r, zz)) : Met l y_S_isBarThere (Cond.code y_S_isBarThere c_S_isBarThere 2 (some .boolean) :: gt_ws) ({ frames := 0, cells := 0, slots := 0, locals := 0 }) (sPc D cl_all (gTy cy) nwC 52 ad (g1 cy ad z0) sz [.ref (ad 0), .int p1]) (sQi D cl_all 52 ad (g1 cy ad z0) sz r (g1 cy ad zz)) 0 0 (va_A (wl 52 ad (g1 cy ad z0)) sz) := by
  refine Met.ofW (cc := c_S_isBarThere) (maxL := 2) (ret := (some .boolean)) (by decide) rfl ?_
  intro p e s m args below meth c s₁ B hml hv
  obtain ⟨rfl, hsz, hP, hK, hN, hD0⟩ := hv
  have hx := B.exec
  have hb := B.bytes
  have hr := B.returns
  have hts := atoms_spec (ws := (Cond.code y_S_isBarThere c_S_isBarThere 2 (some .boolean) :: gt_ws)) B.pre
  have ht : ∀ w ∈ gt_ws, w.before _ s = true := fun w h => hts w (List.mem_cons_of_mem _ h)
  have hown : s.vm.findClass RQ_S = some m.cls := findClass_of_methodNamed B.named
  have hlocks := B.notSynchronized
  subst hsz
  have hD1 := hD0.self (sz := s.heap.size)
  obtain ⟨A, hAe⟩ : ∃ A, A = va_A (wl 52 ad (g1 cy ad z0)) s.heap.size := ⟨_, rfl⟩
  rw [← hAe] at hD1
  have hD : ∀ g, va_D A (wl 52 ad g) := fun _ => wl_D hD1
  have hA : ∀ q : Nat, s.heap.size ≤ q → A q := fun q h => by rw [hAe]; exact Or.inr h
  have hS : va_S A s.heap s.heap [] := va_S.rf
  have hl := lv_entry ([.ref (ad 0), .int p1]) (n := 2) (Nat.le_of_ble_eq_true rfl)
  rw [lg_entry_eq]
  generalize (lg_sl ([.ref (ad 0), .int p1]) ++ List.replicate (2 - (lg_sl ([.ref (ad 0), .int p1])).length) Slot.unset).toArray = ls at hl ⊢
  have hl : lv_has ls 2 [(0, .ref (ad 0)), (1, .int p1)] := hl
  unfold f_S_isBarThere at hf
  refine lv_iload_n hx hb d_S_isBarThere_0 rfl (lv_at hl 1 rfl) ?_
  refine lv_if_lt (tgt := 19) hx hb d_S_isBarThere_1 (by decide) (fun c1 => ?_) (fun c1 => ?_)
  ·
    have hf := op_pos hf c1
    refine lv_iconst (v := 0) hx hb d_S_isBarThere_19 (by decide) ?_
    obtain ⟨hv9, rfl⟩ := op_inj hf
    exact wx_zret hx hb hr hlocks (by first | decide | rfl) hAe hP hS hv9 d_S_isBarThere_20
  ·
    have hf := op_neg hf c1
    refine lv_iload_n hx hb d_S_isBarThere_4 rfl (lv_at hl 1 rfl) ?_
    refine lv_aload_n hx hb d_S_isBarThere_5 rfl (lv_at hl 0 rfl) ?_
    refine wx_get (v := .ref (ad 1)) (C := RQ_S) (T := FQ_S) (N := 5) hx hb ht IQ_S hown hK hP 0 (by decide) (e_g1_0 cy ad _) rfl 0 (by decide) (ht _ kw_217) (fun _ h9 => h9) rfl d_S_isBarThere_6 ?_
    refine wx_get (v := .int (z0.1 2)) (C := RQ_T) (T := FQ_T) (N := 10) hx hb ht IQ_T hown hK hP 1 (by decide) (e_g1_1 cy ad _) rfl 5 (by decide) (ht _ kw_86) (fun _ h9 => h9) rfl d_S_isBarThere_9 ?_
    refine lv_icmp_ge (tgt := 19) hx hb d_S_isBarThere_12 (by decide) (fun c2 => ?_) (fun c2 => ?_)
    ·
      have hf := op_pos hf c2
      refine lv_iconst (v := 0) hx hb d_S_isBarThere_19 (by decide) ?_
      obtain ⟨hv9, rfl⟩ := op_inj hf
      exact wx_zret hx hb hr hlocks (by first | decide | rfl) hAe hP hS hv9 d_S_isBarThere_20
    ·
      have hf := op_neg hf c2
      refine lv_iconst (v := 1) hx hb d_S_isBarThere_15 (by decide) ?_
      refine lv_goto (tgt := 20) hx hb d_S_isBarThere_16 (by decide) ?_
      obtain ⟨hv9, rfl⟩ := op_inj hf
      exact wx_zret hx hb hr hlocks (by first | decide | rfl) hAe hP hS hv9 d_S_isBarThere_20
