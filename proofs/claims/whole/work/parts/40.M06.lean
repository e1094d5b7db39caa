def f_M_sign (z0 : gS) (p1 : Int32) : Option (Int32 × gS) :=
 if 0 ≤ p1 then (if p1 ≤ 0 then (some ((0 : Int32), z0))
 else (some ((1 : Int32), z0)))
 else (some ((-1 : Int32), z0))
set_option maxHeartbeats 4000000 in
set_option maxRecDepth 100000 in
theorem m_M_sign (l : Launch) (D : va_G) (cy : Nat → ClassId) (ad : Nat → Nat) (sz : Nat) (z0 : gS) (p1 : Int32) (r : Int32) (zz : gS) (hf : f_M_sign z0 p1 = some (r, zz)) : Met l y_M_sign (Cond.code y_M_sign c_M_sign 2 (some .int) :: gt_ws) ({ frames := 0, cells := 0, slots := 0, locals := 0 }) (sPc D cl_all (gTy cy) nwM 16 ad (g2 cy ad z0) sz [.ref (ad 0), .int p1]) (sQi D cl_all 16 ad (g2 cy ad z0) sz r (g2 cy ad zz)) 0 0 (va_A (wl 16 ad (g2 cy ad z0)) sz) := by
  refine Met.ofW (cc := c_M_sign) (maxL := 2) (ret := (some .int)) (by decide) rfl ?_
  intro p e s m args below meth c s₁ B hml hv
  obtain ⟨rfl, hsz, hP, hK, hN, hD0⟩ := hv
  have hx := B.exec
  have hb := B.bytes
  have hr := B.returns
  have hts := atoms_spec (ws := (Cond.code y_M_sign c_M_sign 2 (some .int) :: gt_ws)) B.pre
  have ht : ∀ w ∈ gt_ws, w.before _ s = true := fun w h => hts w (List.mem_cons_of_mem _ h)
  have hown : s.vm.findClass RQ_M = some m.cls := findClass_of_methodNamed B.named
  have hlocks := B.notSynchronized
  subst hsz
  have hD1 := hD0.self (sz := s.heap.size)
  obtain ⟨A, hAe⟩ : ∃ A, A = va_A (wl 16 ad (g2 cy ad z0)) s.heap.size := ⟨_, rfl⟩
  rw [← hAe] at hD1
  have hD : ∀ g, va_D A (wl 16 ad g) := fun _ => wl_D hD1
  have hA : ∀ q : Nat, s.heap.size ≤ q → A q := fun q h => by rw [hAe]; exact Or.inr h
  have hS : va_S A s.heap s.heap [] := va_S.rf
  have hl := lv_entry ([.ref (ad 0), .int p1]) (n := 2) (Nat.le_of_ble_eq_true rfl)
  rw [lg_entry_eq]
  generalize (lg_sl ([.ref (ad 0), .int p1]) ++ List.replicate (2 - (lg_sl ([.ref (ad 0), .int p1])).length) Slot.unset).toArray = ls at hl ⊢
  have hl : lv_has ls 2 [(0, .ref (ad 0)), (1, .int p1)] := hl
  unfold f_M_sign at hf
  refine lv_iload_n hx hb d_M_sign_0 rfl (lv_at hl 1 rfl) ?_
  refine lv_if_ge (tgt := 8) hx hb d_M_sign_1 (by decide) (fun c1 => ?_) (fun c1 => ?_)
  ·
    have hf := op_pos hf c1
    refine lv_iload_n hx hb d_M_sign_8 rfl (lv_at hl 1 rfl) ?_
    refine lv_if_le (tgt := 16) hx hb d_M_sign_9 (by decide) (fun c2 => ?_) (fun c2 => ?_)
    ·
      have hf := op_pos hf c2
      refine lv_iconst (v := 0) hx hb d_M_sign_16 (by decide) ?_
      obtain ⟨hv9, rfl⟩ := op_inj hf
      exact wx_iret hx hb hr hlocks hAe hP hS hv9 d_M_sign_17
    ·
      have hf := op_neg hf c2
      refine lv_iconst (v := 1) hx hb d_M_sign_12 (by decide) ?_
      refine lv_goto (tgt := 17) hx hb d_M_sign_13 (by decide) ?_
      obtain ⟨hv9, rfl⟩ := op_inj hf
      exact wx_iret hx hb hr hlocks hAe hP hS hv9 d_M_sign_17
  ·
    have hf := op_neg hf c1
    refine lv_iconst (v := -1) hx hb d_M_sign_4 (by decide) ?_
    refine lv_goto (tgt := 17) hx hb d_M_sign_5 (by decide) ?_
    obtain ⟨hv9, rfl⟩ := op_inj hf
    exact wx_iret hx hb hr hlocks hAe hP hS hv9 d_M_sign_17

def f_M_way (z0 : gS) (p1 : Int32) (p2 : Int32) : Option (Int32 × gS) :=
 if p1 < 0 ∨ 10 ≤ p1.toNatClampNeg then none else
 if (z0.2.2.1 5 p1.toNatClampNeg) < 0 ∨ 5 ≤ (z0.2.2.1 5 p1.toNatClampNeg).toNatClampNeg then none else
 if p1 < 0 ∨ 10 ≤ p1.toNatClampNeg then none else
 if (z0.2.2.1 4 p1.toNatClampNeg) < 0 ∨ 5 ≤ (z0.2.2.1 4 p1.toNatClampNeg).toNatClampNeg then none else
 (some (((z0.2.2.1 2 (z0.2.2.1 5 p1.toNatClampNeg).toNatClampNeg) - (z0.2.2.1 2 (z0.2.2.1 4 p1.toNatClampNeg).toNatClampNeg)) : Int32)).bind (fun v5 =>
 if p1 < 0 ∨ 10 ≤ p1.toNatClampNeg then none else
 if (z0.2.2.1 5 p1.toNatClampNeg) < 0 ∨ 5 ≤ (z0.2.2.1 5 p1.toNatClampNeg).toNatClampNeg then none else
 if p1 < 0 ∨ 10 ≤ p1.toNatClampNeg then none else
 if (z0.2.2.1 4 p1.toNatClampNeg) < 0 ∨ 5 ≤ (z0.2.2.1 4 p1.toNatClampNeg).toNatClampNeg then none else
 (some (((z0.2.2.1 3 (z0.2.2.1 5 p1.toNatClampNeg).toNatClampNeg) - (z0.2.2.1 3 (z0.2.2.1 4 p1.toNatClampNeg).toNatClampNeg)) : Int32)).bind (fun v11 =>
 if p2 = 0 then (bd2 (f_M_sign z0 v5) (fun r19 w18 =>
 some (r19, w18)))
 else (bd2 (f_M_sign z0 v11) (fun r16 w15 =>
 some (r16, w15)))))
set_option maxHeartbeats 4000000 in
set_option maxRecDepth 100000 in
theorem m_M_way (l : Launch) (D : va_G) (cy : Nat → ClassId) (ad : Nat → Nat) (sz : Nat) (z0 : gS) (p1 : Int32) (p2 : Int32) (r : Int32) (zz : gS) (hf : f_M_way z0 p1 p2 = some (r, zz)) : Met l y_M_way (Cond.code y_M_way c_M_way 5 (some .int) :: gt_ws) ({ frames := 1, cells := 0, slots := 0, locals := 45 }) (sPc D cl_all (gTy cy) nwM 16 ad (g2 cy ad z0) sz [.ref (ad 0), .int p1, .int p2]) (sQi D cl_all 16 ad (g2 cy ad z0) sz r (g2 cy ad zz)) 0 0 (va_A (wl 16 ad (g2 cy ad z0)) sz) := by
  refine Met.ofW (cc := c_M_way) (maxL := 5) (ret := (some .int)) (by decide) rfl ?_
  intro p e s m args below meth c s₁ B hml hv
  obtain ⟨rfl, hsz, hP, hK, hN, hD0⟩ := hv
  have hx := B.exec
  have hb := B.bytes
  have hr := B.returns
  have hts := atoms_spec (ws := (Cond.code y_M_way c_M_way 5 (some .int) :: gt_ws)) B.pre
  have ht : ∀ w ∈ gt_ws, w.before _ s = true := fun w h => hts w (List.mem_cons_of_mem _ h)
  have hown : s.vm.findClass RQ_M = some m.cls := findClass_of_methodNamed B.named
  have hlocks := B.notSynchronized
  subst hsz
  have hD1 := hD0.self (sz := s.heap.size)
  obtain ⟨A, hAe⟩ : ∃ A, A = va_A (wl 16 ad (g2 cy ad z0)) s.heap.size := ⟨_, rfl⟩
  rw [← hAe] at hD1
  have hD : ∀ g, va_D A (wl 16 ad g) := fun _ => wl_D hD1
  have hA : ∀ q : Nat, s.heap.size ≤ q → A q := fun q h => by rw [hAe]; exact Or.inr h
  have hS : va_S A s.heap s.heap [] := va_S.rf
  have hl := lv_entry ([.ref (ad 0), .int p1, .int p2]) (n := 5) (Nat.le_of_ble_eq_true rfl)
  rw [lg_entry_eq]
  generalize (lg_sl ([.ref (ad 0), .int p1, .int p2]) ++ List.replicate (5 - (lg_sl ([.ref (ad 0), .int p1, .int p2])).length) Slot.unset).toArray = ls at hl ⊢
  have hl : lv_has ls 5 [(0, .ref (ad 0)), (1, .int p1), (2, .int p2)] := hl
  unfold f_M_way at hf
  refine lv_aload_n hx hb d_M_way_0 rfl (lv_at hl 0 rfl) ?_
  refine wx_get (v := .ref (ad 2)) (C := RQ_M) (T := FQ_M) (N := 21) hx hb ht IQ_M hown hK hP 0 (by decide) (e_g2_0 cy ad _) rfl 1 (by decide) (ht _ kw_529) (fun _ h9 => h9) rfl d_M_way_1 ?_
  refine lv_aload_n hx hb d_M_way_4 rfl (lv_at hl 0 rfl) ?_
  refine wx_get (v := .ref (ad 5)) (C := RQ_M) (T := FQ_M) (N := 21) hx hb ht IQ_M hown hK hP 0 (by decide) (e_g2_0 cy ad _) rfl 4 (by decide) (ht _ kw_532) (fun _ h9 => h9) rfl d_M_way_5 ?_
  refine lv_iload_n hx hb d_M_way_8 rfl (lv_at hl 1 rfl) ?_
  obtain ⟨h1, hf⟩ := op_chk hf
  refine wx_iald hx hb hK hP 5 (by decide) (by decide) 10 rfl h1 d_M_way_9 ?_
  obtain ⟨h2, hf⟩ := op_chk hf
  refine wx_iald hx hb hK hP 2 (by decide) (by decide) 5 rfl h2 d_M_way_10 ?_
  refine lv_aload_n hx hb d_M_way_11 rfl (lv_at hl 0 rfl) ?_
  refine wx_get (v := .ref (ad 2)) (C := RQ_M) (T := FQ_M) (N := 21) hx hb ht IQ_M hown hK hP 0 (by decide) (e_g2_0 cy ad _) rfl 1 (by decide) (ht _ kw_529) (fun _ h9 => h9) rfl d_M_way_12 ?_
  refine lv_aload_n hx hb d_M_way_15 rfl (lv_at hl 0 rfl) ?_
  refine wx_get (v := .ref (ad 4)) (C := RQ_M) (T := FQ_M) (N := 21) hx hb ht IQ_M hown hK hP 0 (by decide) (e_g2_0 cy ad _) rfl 3 (by decide) (ht _ kw_531) (fun _ h9 => h9) rfl d_M_way_16 ?_
  refine lv_iload_n hx hb d_M_way_19 rfl (lv_at hl 1 rfl) ?_
  obtain ⟨h3, hf⟩ := op_chk hf
  refine wx_iald hx hb hK hP 4 (by decide) (by decide) 10 rfl h3 d_M_way_20 ?_
  obtain ⟨h4, hf⟩ := op_chk hf
  refine wx_iald hx hb hK hP 2 (by decide) (by decide) 5 rfl h4 d_M_way_21 ?_
  refine lv_isub hx hb d_M_way_22 ?_
  obtain ⟨v5, h6, hf⟩ := op_let hf
  refine sw_i h6 ?_
  refine lv_istore_n (lv' := [(3, .int v5), (0, .ref (ad 0)), (1, .int p1), (2, .int p2)]) hx hb d_M_way_23 rfl hl (by decide) rfl (fun ls hl => ?_)
  refine lv_aload_n hx hb d_M_way_24 rfl (lv_at hl 1 rfl) ?_
  refine wx_get (v := .ref (ad 3)) (C := RQ_M) (T := FQ_M) (N := 21) hx hb ht IQ_M hown hK hP 0 (by decide) (e_g2_0 cy ad _) rfl 2 (by decide) (ht _ kw_530) (fun _ h9 => h9) rfl d_M_way_25 ?_
  refine lv_aload_n hx hb d_M_way_28 rfl (lv_at hl 1 rfl) ?_
  refine wx_get (v := .ref (ad 5)) (C := RQ_M) (T := FQ_M) (N := 21) hx hb ht IQ_M hown hK hP 0 (by decide) (e_g2_0 cy ad _) rfl 4 (by decide) (ht _ kw_532) (fun _ h9 => h9) rfl d_M_way_29 ?_
  refine lv_iload_n hx hb d_M_way_32 rfl (lv_at hl 2 rfl) ?_
  obtain ⟨h7, hf⟩ := op_chk hf
  refine wx_iald hx hb hK hP 5 (by decide) (by decide) 10 rfl h7 d_M_way_33 ?_
  obtain ⟨h8, hf⟩ := op_chk hf
  refine wx_iald hx hb hK hP 3 (by decide) (by decide) 5 rfl h8 d_M_way_34 ?_
  refine lv_aload_n hx hb d_M_way_35 rfl (lv_at hl 1 rfl) ?_
  refine wx_get (v := .ref (ad 3)) (C := RQ_M) (T := FQ_M) (N := 21) hx hb ht IQ_M hown hK hP 0 (by decide) (e_g2_0 cy ad _) rfl 2 (by decide) (ht _ kw_530) (fun _ h9 => h9) rfl d_M_way_36 ?_
  refine lv_aload_n hx hb d_M_way_39 rfl (lv_at hl 1 rfl) ?_
  refine wx_get (v := .ref (ad 4)) (C := RQ_M) (T := FQ_M) (N := 21) hx hb ht IQ_M hown hK hP 0 (by decide) (e_g2_0 cy ad _) rfl 3 (by decide) (ht _ kw_531) (fun _ h9 => h9) rfl d_M_way_40 ?_
  refine lv_iload_n hx hb d_M_way_43 rfl (lv_at hl 2 rfl) ?_
  obtain ⟨h9, hf⟩ := op_chk hf
  refine wx_iald hx hb hK hP 4 (by decide) (by decide) 10 rfl h9 d_M_way_44 ?_
  obtain ⟨h10, hf⟩ := op_chk hf
  refine wx_iald hx hb hK hP 3 (by decide) (by decide) 5 rfl h10 d_M_way_45 ?_
  refine lv_isub hx hb d_M_way_46 ?_
  obtain ⟨v11, h12, hf⟩ := op_let hf
  refine sw_i h12 ?_
  refine lv_istore (lv' := [(4, .int v11), (3, .int v5), (0, .ref (ad 0)), (1, .int p1), (2, .int p2)]) hx hb d_M_way_47 hl (by decide) rfl (fun ls hl => ?_)
  refine lv_iload_n hx hb d_M_way_49 rfl (lv_at hl 4 rfl) ?_
  refine lv_if_ne (tgt := 61) hx hb d_M_way_50 (by decide) (fun c13 => ?_) (fun c13 => ?_)
  ·
    have hf := op_neg hf c13
    refine lv_aload_n hx hb d_M_way_61 rfl (lv_at hl 2 rfl) ?_
    refine lv_iload hx hb d_M_way_62 (lv_at hl 0 rfl) ?_
    obtain ⟨r16, w15, hc14, hf⟩ := op_b2 hf
    refine wx_fi (wx_rV (As := [.int v11]) (rest := []) ⟨hx, hb, hml, hown, ht⟩ (m_M_sign l D cy ad _ z0 v11 _ _ hc14) ⟨callB_of 1 ht (gt_in (fun _ h9 => h9) kw_663) rfl rfl rfl (ht _ kw_52) (ht _ kw_660) q_M_sign ⟨Nat.le_of_ble_eq_true rfl, Nat.le_of_ble_eq_true rfl⟩, ht _ kw_662, ht _ kw_34⟩ nwM_ok hN hK hP (hD _) (by decide) (e_g2_0 cy ad _) rfl rfl hl.1 rfl (Nat.le_of_ble_eq_true rfl) d_M_way_64 ⟨Nat.zero_le _, Nat.zero_le _⟩) (hD _) hS hA (fun H locs hP hS => ?_)
    obtain ⟨hv9, rfl⟩ := op_inj hf
    exact wx_iret hx hb hr hlocks hAe hP hS hv9 d_M_way_67
  ·
    have hf := op_pos hf c13
    refine lv_aload_n hx hb d_M_way_53 rfl (lv_at hl 2 rfl) ?_
    refine lv_iload_n hx hb d_M_way_54 rfl (lv_at hl 1 rfl) ?_
    obtain ⟨r19, w18, hc17, hf⟩ := op_b2 hf
    refine wx_fi (wx_rV (As := [.int v5]) (rest := []) ⟨hx, hb, hml, hown, ht⟩ (m_M_sign l D cy ad _ z0 v5 _ _ hc17) ⟨callB_of 1 ht (gt_in (fun _ h9 => h9) kw_663) rfl rfl rfl (ht _ kw_52) (ht _ kw_660) q_M_sign ⟨Nat.le_of_ble_eq_true rfl, Nat.le_of_ble_eq_true rfl⟩, ht _ kw_662, ht _ kw_34⟩ nwM_ok hN hK hP (hD _) (by decide) (e_g2_0 cy ad _) rfl rfl hl.1 rfl (Nat.le_of_ble_eq_true rfl) d_M_way_55 ⟨Nat.zero_le _, Nat.zero_le _⟩) (hD _) hS hA (fun H locs hP hS => ?_)
    refine lv_goto (tgt := 67) hx hb d_M_way_58 (by decide) ?_
    obtain ⟨hv9, rfl⟩ := op_inj hf
    exact wx_iret hx hb hr hlocks hAe hP hS hv9 d_M_way_67

def l_M_makeMatrix_2 : Nat → gS → Int32 → Option (gS)
  | 0, _, _ => none
  | n + 1, z, x1 =>
    if (100 : Int32) ≤ x1 then (some z)
     else (if (x1 / (10 : Int32)) = (x1 - x1 / (10 : Int32) * (10 : Int32)) then (if (x1 / (10 : Int32)) < 0 ∨ 10 ≤ (x1 / (10 : Int32)).toNatClampNeg then none else
     if x1 < 0 ∨ 100 ≤ x1.toNatClampNeg then none else
     (some (s_I z 13 (upd (z.2.2.1 13) x1.toNatClampNeg (z.2.2.1 9 (x1 / (10 : Int32)).toNatClampNeg)))).bind (fun w8 =>
     l_M_makeMatrix_2 n w8 (x1 + (1 : Int32))))
     else (if x1 < 0 ∨ 100 ≤ x1.toNatClampNeg then none else
     (some (s_I z 13 (upd (z.2.2.1 13) x1.toNatClampNeg (0 : Int32)))).bind (fun w4 =>
     l_M_makeMatrix_2 n w4 (x1 + (1 : Int32)))))
def l_M_makeMatrix_56 : Nat → gS → Int32 → Int32 → Option (Int32 × gS)
  | 0, _, _, _ => none
  | n + 1, z, x1, x2 =>
    if (16 : Int32) ≤ x2 then (some (x1, z))
     else (if (8 : Int32) ≤ x2 then (if x1 < 0 ∨ 10 ≤ x1.toNatClampNeg then none else
     (some ((((z.2.2.1 5 x1.toNatClampNeg) * (2 : Int32)) + (x2 - x2 / (2 : Int32) * (2 : Int32))) : Int32)).bind (fun v13 =>
     if ((x2 / (4 : Int32)) - (x2 / (4 : Int32)) / (2 : Int32) * (2 : Int32)) = 0 then (if x1 < 0 ∨ 10 ≤ x1.toNatClampNeg then none else
     (some ((((z.2.2.1 4 x1.toNatClampNeg) * (2 : Int32)) + ((x2 / (2 : Int32)) - (x2 / (2 : Int32)) / (2 : Int32) * (2 : Int32))) : Int32)).bind (fun v37 =>
     if x1 < 0 ∨ 10 ≤ x1.toNatClampNeg then none else
     bd2 (f_M_way z x1 (x2 - x2 / (2 : Int32) * (2 : Int32))) (fun r42 w41 =>
     bd2 (f_M_way w41 x1 ((x2 / (2 : Int32)) - (x2 / (2 : Int32)) / (2 : Int32) * (2 : Int32))) (fun r45 w44 =>
     (some ((((z.2.2.1 6 x1.toNatClampNeg) * r42) * r45) : Int32)).bind (fun v46 =>
     if ((v13 * (10 : Int32)) + v37) < 0 ∨ 100 ≤ ((v13 * (10 : Int32)) + v37).toNatClampNeg then none else
     if (x2 / (8 : Int32)) = ((x2 / (4 : Int32)) - (x2 / (4 : Int32)) / (2 : Int32) * (2 : Int32)) then (if ((v13 * (10 : Int32)) + v37) < 0 ∨ 100 ≤ ((v13 * (10 : Int32)) + v37).toNatClampNeg then none else
     (some (s_I w44 13 (upd (w44.2.2.1 13) ((v13 * (10 : Int32)) + v37).toNatClampNeg ((w44.2.2.1 13 ((v13 * (10 : Int32)) + v37).toNatClampNeg) + v46)))).bind (fun w54 =>
     l_M_makeMatrix_56 n w54 x1 (x2 + (1 : Int32))))
     else (if ((v13 * (10 : Int32)) + v37) < 0 ∨ 100 ≤ ((v13 * (10 : Int32)) + v37).toNatClampNeg then none else
     (some (s_I w44 13 (upd (w44.2.2.1 13) ((v13 * (10 : Int32)) + v37).toNatClampNeg ((w44.2.2.1 13 ((v13 * (10 : Int32)) + v37).toNatClampNeg) + (-v46))))).bind (fun w51 =>
     l_M_makeMatrix_56 n w51 x1 (x2 + (1 : Int32)))))))))
     else (if x1 < 0 ∨ 10 ≤ x1.toNatClampNeg then none else
     (some ((((z.2.2.1 5 x1.toNatClampNeg) * (2 : Int32)) + ((x2 / (2 : Int32)) - (x2 / (2 : Int32)) / (2 : Int32) * (2 : Int32))) : Int32)).bind (fun v17 =>
     if x1 < 0 ∨ 10 ≤ x1.toNatClampNeg then none else
     bd2 (f_M_way z x1 (x2 - x2 / (2 : Int32) * (2 : Int32))) (fun r22 w21 =>
     bd2 (f_M_way w21 x1 ((x2 / (2 : Int32)) - (x2 / (2 : Int32)) / (2 : Int32) * (2 : Int32))) (fun r25 w24 =>
     (some ((((z.2.2.1 6 x1.toNatClampNeg) * r22) * r25) : Int32)).bind (fun v26 =>
     if ((v13 * (10 : Int32)) + v17) < 0 ∨ 100 ≤ ((v13 * (10 : Int32)) + v17).toNatClampNeg then none else
     if (x2 / (8 : Int32)) = ((x2 / (4 : Int32)) - (x2 / (4 : Int32)) / (2 : Int32) * (2 : Int32)) then (if ((v13 * (10 : Int32)) + v17) < 0 ∨ 100 ≤ ((v13 * (10 : Int32)) + v17).toNatClampNeg then none else
     (some (s_I w24 13 (upd (w24.2.2.1 13) ((v13 * (10 : Int32)) + v17).toNatClampNeg ((w24.2.2.1 13 ((v13 * (10 : Int32)) + v17).toNatClampNeg) + v26)))).bind (fun w34 =>
     l_M_makeMatrix_56 n w34 x1 (x2 + (1 : Int32))))
     else (if ((v13 * (10 : Int32)) + v17) < 0 ∨ 100 ≤ ((v13 * (10 : Int32)) + v17).toNatClampNeg then none else
     (some (s_I w24 13 (upd (w24.2.2.1 13) ((v13 * (10 : Int32)) + v17).toNatClampNeg ((w24.2.2.1 13 ((v13 * (10 : Int32)) + v17).toNatClampNeg) + (-v26))))).bind (fun w31 =>
     l_M_makeMatrix_56 n w31 x1 (x2 + (1 : Int32)))))))))))
     else (if x1 < 0 ∨ 10 ≤ x1.toNatClampNeg then none else
     (some ((((z.2.2.1 4 x1.toNatClampNeg) * (2 : Int32)) + (x2 - x2 / (2 : Int32) * (2 : Int32))) : Int32)).bind (fun v57 =>
     if ((x2 / (4 : Int32)) - (x2 / (4 : Int32)) / (2 : Int32) * (2 : Int32)) = 0 then (if x1 < 0 ∨ 10 ≤ x1.toNatClampNeg then none else
     (some ((((z.2.2.1 4 x1.toNatClampNeg) * (2 : Int32)) + ((x2 / (2 : Int32)) - (x2 / (2 : Int32)) / (2 : Int32) * (2 : Int32))) : Int32)).bind (fun v81 =>
     if x1 < 0 ∨ 10 ≤ x1.toNatClampNeg then none else
     bd2 (f_M_way z x1 (x2 - x2 / (2 : Int32) * (2 : Int32))) (fun r86 w85 =>
     bd2 (f_M_way w85 x1 ((x2 / (2 : Int32)) - (x2 / (2 : Int32)) / (2 : Int32) * (2 : Int32))) (fun r89 w88 =>
     (some ((((z.2.2.1 6 x1.toNatClampNeg) * r86) * r89) : Int32)).bind (fun v90 =>
     if ((v57 * (10 : Int32)) + v81) < 0 ∨ 100 ≤ ((v57 * (10 : Int32)) + v81).toNatClampNeg then none else
     if (x2 / (8 : Int32)) = ((x2 / (4 : Int32)) - (x2 / (4 : Int32)) / (2 : Int32) * (2 : Int32)) then (if ((v57 * (10 : Int32)) + v81) < 0 ∨ 100 ≤ ((v57 * (10 : Int32)) + v81).toNatClampNeg then none else
     (some (s_I w88 13 (upd (w88.2.2.1 13) ((v57 * (10 : Int32)) + v81).toNatClampNeg ((w88.2.2.1 13 ((v57 * (10 : Int32)) + v81).toNatClampNeg) + v90)))).bind (fun w98 =>
     l_M_makeMatrix_56 n w98 x1 (x2 + (1 : Int32))))
     else (if ((v57 * (10 : Int32)) + v81) < 0 ∨ 100 ≤ ((v57 * (10 : Int32)) + v81).toNatClampNeg then none else
     (some (s_I w88 13 (upd (w88.2.2.1 13) ((v57 * (10 : Int32)) + v81).toNatClampNeg ((w88.2.2.1 13 ((v57 * (10 : Int32)) + v81).toNatClampNeg) + (-v90))))).bind (fun w95 =>
     l_M_makeMatrix_56 n w95 x1 (x2 + (1 : Int32)))))))))
     else (if x1 < 0 ∨ 10 ≤ x1.toNatClampNeg then none else
     (some ((((z.2.2.1 5 x1.toNatClampNeg) * (2 : Int32)) + ((x2 / (2 : Int32)) - (x2 / (2 : Int32)) / (2 : Int32) * (2 : Int32))) : Int32)).bind (fun v61 =>
     if x1 < 0 ∨ 10 ≤ x1.toNatClampNeg then none else
     bd2 (f_M_way z x1 (x2 - x2 / (2 : Int32) * (2 : Int32))) (fun r66 w65 =>
     bd2 (f_M_way w65 x1 ((x2 / (2 : Int32)) - (x2 / (2 : Int32)) / (2 : Int32) * (2 : Int32))) (fun r69 w68 =>
     (some ((((z.2.2.1 6 x1.toNatClampNeg) * r66) * r69) : Int32)).bind (fun v70 =>
     if ((v57 * (10 : Int32)) + v61) < 0 ∨ 100 ≤ ((v57 * (10 : Int32)) + v61).toNatClampNeg then none else
     if (x2 / (8 : Int32)) = ((x2 / (4 : Int32)) - (x2 / (4 : Int32)) / (2 : Int32) * (2 : Int32)) then (if ((v57 * (10 : Int32)) + v61) < 0 ∨ 100 ≤ ((v57 * (10 : Int32)) + v61).toNatClampNeg then none else
     (some (s_I w68 13 (upd (w68.2.2.1 13) ((v57 * (10 : Int32)) + v61).toNatClampNeg ((w68.2.2.1 13 ((v57 * (10 : Int32)) + v61).toNatClampNeg) + v70)))).bind (fun w78 =>
     l_M_makeMatrix_56 n w78 x1 (x2 + (1 : Int32))))
     else (if ((v57 * (10 : Int32)) + v61) < 0 ∨ 100 ≤ ((v57 * (10 : Int32)) + v61).toNatClampNeg then none else
     (some (s_I w68 13 (upd (w68.2.2.1 13) ((v57 * (10 : Int32)) + v61).toNatClampNeg ((w68.2.2.1 13 ((v57 * (10 : Int32)) + v61).toNatClampNeg) + (-v70))))).bind (fun w75 =>
     l_M_makeMatrix_56 n w75 x1 (x2 + (1 : Int32))))))))))))
def l_M_makeMatrix_46 : Nat → gS → Int32 → Option (gS)
  | 0, _, _ => none
  | n + 1, z, x1 =>
    if (z.1 0) ≤ x1 then (some z)
     else (bd2 (l_M_makeMatrix_56 200 z x1 (0 : Int32)) (fun v101 w102 =>
     l_M_makeMatrix_46 n w102 (v101 + (1 : Int32))))
def f_M_makeMatrix (z0 : gS) : Option gS :=
 bd1 (l_M_makeMatrix_2 200 z0 (0 : Int32)) (fun w104 =>
 bd1 (l_M_makeMatrix_46 200 w104 (0 : Int32)) (fun w106 =>
 some w106))
set_option maxHeartbeats 4000000 in
set_option maxRecDepth 100000 in
theorem m_M_makeMatrix (l : Launch) (D : va_G) (cy : Nat → ClassId) (ad : Nat → Nat) (sz : Nat) (z0 : gS) (zz : gS) (hf : f_M_makeMatrix z0 = some zz) : Met l y_M_makeMatrix (Cond.code y_M_makeMatrix c_M_makeMatrix 6 none :: gt_ws) ({ frames := 2, cells := 0, slots := 0, locals := 90 }) (sPc D cl_all (gTy cy) nwM 16 ad (g2 cy ad z0) sz [.ref (ad 0)]) (sQv D cl_all 16 ad (g2 cy ad z0) sz (g2 cy ad zz)) 0 0 (va_A (wl 16 ad (g2 cy ad z0)) sz) := by
  refine Met.ofW (cc := c_M_makeMatrix) (maxL := 6) (ret := none) (by decide) rfl ?_
  intro p e s m args below meth c s₁ B hml hv
  obtain ⟨rfl, hsz, hP, hK, hN, hD0⟩ := hv
  have hx := B.exec
  have hb := B.bytes
  have hr := B.returns
  have hts := atoms_spec (ws := (Cond.code y_M_makeMatrix c_M_makeMatrix 6 none :: gt_ws)) B.pre
  have ht : ∀ w ∈ gt_ws, w.before _ s = true := fun w h => hts w (List.mem_cons_of_mem _ h)
  have hown : s.vm.findClass RQ_M = some m.cls := findClass_of_methodNamed B.named
  have hlocks := B.notSynchronized
  subst hsz
  have hD1 := hD0.self (sz := s.heap.size)
  obtain ⟨A, hAe⟩ : ∃ A, A = va_A (wl 16 ad (g2 cy ad z0)) s.heap.size := ⟨_, rfl⟩
  rw [← hAe] at hD1
  have hD : ∀ g, va_D A (wl 16 ad g) := fun _ => wl_D hD1
  have hA : ∀ q : Nat, s.heap.size ≤ q → A q := fun q h => by rw [hAe]; exact Or.inr h
  have hS : va_S A s.heap s.heap [] := va_S.rf
  have hl := lv_entry ([.ref (ad 0)]) (n := 6) (Nat.le_of_ble_eq_true rfl)
  rw [lg_entry_eq]
  generalize (lg_sl ([.ref (ad 0)]) ++ List.replicate (6 - (lg_sl ([.ref (ad 0)])).length) Slot.unset).toArray = ls at hl ⊢
  have hl : lv_has ls 6 [(0, .ref (ad 0))] := hl
  have L_2 : ∀ (n : Nat) (z : gS) (x1 : Int32) (z9 : gS), l_M_makeMatrix_2 n z x1 = some z9 → ∀ (H : Heap) (locs : List Loc) (ls : Array Slot), va_P D cl_all (wl 16 ad (g2 cy ad z)) H → va_S A s.heap H locs → lv_has ls 6 [(0, .ref (ad 0)), (1, .int x1)] →
      (∀ (H : Heap) (locs : List Loc) (ls : Array Slot), va_P D cl_all (wl 16 ad (g2 cy ad z9)) H → va_S A s.heap H locs → lv_has ls 6 [(0, .ref (ad 0))] → W p l e (headSpec (Cond.code y_M_makeMatrix c_M_makeMatrix 6 none :: gt_ws) ({ frames := 2, cells := 0, slots := 0, locals := 90 })).room s m ([.ref (ad 0)]).toArray below meth c H locs 0 0 (MQ below (sQv D cl_all 16 ad (g2 cy ad z0) s.heap.size (g2 cy ad zz)) ([.ref (ad 0)]).toArray s 0 0 (va_A (wl 16 ad (g2 cy ad z0)) s.heap.size)) (F0 m 44 ls [])) →
      W p l e (headSpec (Cond.code y_M_makeMatrix c_M_makeMatrix 6 none :: gt_ws) ({ frames := 2, cells := 0, slots := 0, locals := 90 })).room s m ([.ref (ad 0)]).toArray below meth c H locs 0 0 (MQ below (sQv D cl_all 16 ad (g2 cy ad z0) s.heap.size (g2 cy ad zz)) ([.ref (ad 0)]).toArray s 0 0 (va_A (wl 16 ad (g2 cy ad z0)) s.heap.size)) (F0 m 2 ls []) := by
    intro n
    induction n with
    | zero => intro z x1 z9 hf; rw [l_M_makeMatrix_2] at hf; cases hf
    | succ n ih =>
      intro z x1 z9 hf H locs ls hP hS hl k_0
      rw [l_M_makeMatrix_2] at hf
      refine lv_iload_n hx hb d_M_makeMatrix_2 rfl (lv_at hl 1 rfl) ?_
      refine lv_bipush (v := 100) hx hb d_M_makeMatrix_3 (by decide) ?_
      refine lv_icmp_ge (tgt := 44) hx hb d_M_makeMatrix_5 (by decide) (fun c1 => ?_) (fun c1 => ?_)
      ·
        have hf := op_pos hf c1
        cases hf
        exact k_0 _ _ _ hP hS (lv_sub hl [0] rfl)
      ·
        have hf := op_neg hf c1
        refine lv_aload_n hx hb d_M_makeMatrix_8 rfl (lv_at hl 0 rfl) ?_
        refine wx_get (v := .ref (ad 13)) (C := RQ_M) (T := FQ_M) (N := 21) hx hb ht IQ_M hown hK hP 0 (by decide) (e_g2_0 cy ad _) rfl 16 (by decide) (ht _ kw_544) (fun _ h9 => h9) rfl d_M_makeMatrix_9 ?_
        refine lv_iload_n hx hb d_M_makeMatrix_12 rfl (lv_at hl 1 rfl) ?_
        refine lv_iload_n hx hb d_M_makeMatrix_13 rfl (lv_at hl 1 rfl) ?_
        refine lv_bipush (v := 10) hx hb d_M_makeMatrix_14 (by decide) ?_
        refine lv_idiv hx hb d_M_makeMatrix_16 (by decide) ?_
        refine lv_iload_n hx hb d_M_makeMatrix_17 rfl (lv_at hl 1 rfl) ?_
        refine lv_bipush (v := 10) hx hb d_M_makeMatrix_18 (by decide) ?_
        refine lv_irem hx hb d_M_makeMatrix_20 (by decide) ?_
        refine lv_icmp_ne (tgt := 36) hx hb d_M_makeMatrix_21 (by decide) (fun c2 => ?_) (fun c2 => ?_)
        ·
          have hf := op_neg hf c2
          refine lv_iconst (v := 0) hx hb d_M_makeMatrix_36 (by decide) ?_
          obtain ⟨h3, hf⟩ := op_chk hf
          refine wx_iast hx hb hK hP (hD _) hS 13 (by decide) (by decide) 100 rfl h3 d_M_makeMatrix_37 (fun H locs hP hS => ?_)
          obtain ⟨w4, h5, hf⟩ := op_let hf
          rw [h5] at hP
          refine lv_iinc (v := x1 + (1 : Int32)) (lv' := [(1, .int (x1 + (1 : Int32))), (0, .ref (ad 0))]) hx hb d_M_makeMatrix_38 hl (k := 1) rfl rfl (by decide) rfl (fun ls hl => ?_)
          refine lv_goto (tgt := 2) hx hb d_M_makeMatrix_41 (by decide) ?_
          exact ih _ _ _ hf _ _ _ hP hS (lv_sub hl [1, 0] rfl) k_0
        ·
          have hf := op_pos hf c2
          refine lv_aload_n hx hb d_M_makeMatrix_24 rfl (lv_at hl 0 rfl) ?_
          refine wx_get (v := .ref (ad 9)) (C := RQ_M) (T := FQ_M) (N := 21) hx hb ht IQ_M hown hK hP 0 (by decide) (e_g2_0 cy ad _) rfl 9 (by decide) (ht _ kw_537) (fun _ h9 => h9) rfl d_M_makeMatrix_25 ?_
          refine lv_iload_n hx hb d_M_makeMatrix_28 rfl (lv_at hl 1 rfl) ?_
          refine lv_bipush (v := 10) hx hb d_M_makeMatrix_29 (by decide) ?_
          refine lv_idiv hx hb d_M_makeMatrix_31 (by decide) ?_
          obtain ⟨h6, hf⟩ := op_chk hf
          refine wx_iald hx hb hK hP 9 (by decide) (by decide) 10 rfl h6 d_M_makeMatrix_32 ?_
          refine lv_goto (tgt := 37) hx hb d_M_makeMatrix_33 (by decide) ?_
          obtain ⟨h7, hf⟩ := op_chk hf
          refine wx_iast hx hb hK hP (hD _) hS 13 (by decide) (by decide) 100 rfl h7 d_M_makeMatrix_37 (fun H locs hP hS => ?_)
          obtain ⟨w8, h9, hf⟩ := op_let hf
          rw [h9] at hP
          refine lv_iinc (v := x1 + (1 : Int32)) (lv' := [(1, .int (x1 + (1 : Int32))), (0, .ref (ad 0))]) hx hb d_M_makeMatrix_38 hl (k := 1) rfl rfl (by decide) rfl (fun ls hl => ?_)
          refine lv_goto (tgt := 2) hx hb d_M_makeMatrix_41 (by decide) ?_
          exact ih _ _ _ hf _ _ _ hP hS (lv_sub hl [1, 0] rfl) k_0
  have L_56 : ∀ (n : Nat) (z : gS) (x1 : Int32) (x2 : Int32) (y1 : Int32) (z9 : gS), l_M_makeMatrix_56 n z x1 x2 = some (y1, z9) → ∀ (H : Heap) (locs : List Loc) (ls : Array Slot), va_P D cl_all (wl 16 ad (g2 cy ad z)) H → va_S A s.heap H locs → lv_has ls 6 [(0, .ref (ad 0)), (1, .int x1), (2, .int x2)] →
      (∀ (H : Heap) (locs : List Loc) (ls : Array Slot), va_P D cl_all (wl 16 ad (g2 cy ad z9)) H → va_S A s.heap H locs → lv_has ls 6 [(0, .ref (ad 0)), (1, .int y1)] → W p l e (headSpec (Cond.code y_M_makeMatrix c_M_makeMatrix 6 none :: gt_ws) ({ frames := 2, cells := 0, slots := 0, locals := 90 })).room s m ([.ref (ad 0)]).toArray below meth c H locs 0 0 (MQ below (sQv D cl_all 16 ad (g2 cy ad z0) s.heap.size (g2 cy ad zz)) ([.ref (ad 0)]).toArray s 0 0 (va_A (wl 16 ad (g2 cy ad z0)) s.heap.size)) (F0 m 192 ls [])) →
      W p l e (headSpec (Cond.code y_M_makeMatrix c_M_makeMatrix 6 none :: gt_ws) ({ frames := 2, cells := 0, slots := 0, locals := 90 })).room s m ([.ref (ad 0)]).toArray below meth c H locs 0 0 (MQ below (sQv D cl_all 16 ad (g2 cy ad z0) s.heap.size (g2 cy ad zz)) ([.ref (ad 0)]).toArray s 0 0 (va_A (wl 16 ad (g2 cy ad z0)) s.heap.size)) (F0 m 56 ls []) := by
    intro n
    induction n with
    | zero => intro z x1 x2 y1 z9 hf; rw [l_M_makeMatrix_56] at hf; cases hf
    | succ n ih =>
      intro z x1 x2 y1 z9 hf H locs ls hP hS hl k_0
      rw [l_M_makeMatrix_56] at hf
      refine lv_iload_n hx hb d_M_makeMatrix_56 rfl (lv_at hl 2 rfl) ?_
      refine lv_bipush (v := 16) hx hb d_M_makeMatrix_57 (by decide) ?_
      refine lv_icmp_ge (tgt := 192) hx hb d_M_makeMatrix_59 (by decide) (fun c10 => ?_) (fun c10 => ?_)
      ·
        have hf := op_pos hf c10
        cases hf
        exact k_0 _ _ _ hP hS (lv_sub hl [0, 1] rfl)
      ·
        have hf := op_neg hf c10
        refine lv_iload_n hx hb d_M_makeMatrix_62 rfl (lv_at hl 2 rfl) ?_
        refine lv_bipush (v := 8) hx hb d_M_makeMatrix_63 (by decide) ?_
        refine lv_icmp_ge (tgt := 77) hx hb d_M_makeMatrix_65 (by decide) (fun c11 => ?_) (fun c11 => ?_)
        ·
          have hf := op_pos hf c11
          refine lv_aload_n hx hb d_M_makeMatrix_77 rfl (lv_at hl 0 rfl) ?_
          refine wx_get (v := .ref (ad 5)) (C := RQ_M) (T := FQ_M) (N := 21) hx hb ht IQ_M hown hK hP 0 (by decide) (e_g2_0 cy ad _) rfl 4 (by decide) (ht _ kw_532) (fun _ h9 => h9) rfl d_M_makeMatrix_78 ?_
          refine lv_iload_n hx hb d_M_makeMatrix_81 rfl (lv_at hl 1 rfl) ?_
          obtain ⟨h12, hf⟩ := op_chk hf
          refine wx_iald hx hb hK hP 5 (by decide) (by decide) 10 rfl h12 d_M_makeMatrix_82 ?_
          refine lv_iconst (v := 2) hx hb d_M_makeMatrix_83 (by decide) ?_
          refine lv_imul hx hb d_M_makeMatrix_84 ?_
          refine lv_iload_n hx hb d_M_makeMatrix_85 rfl (lv_at hl 2 rfl) ?_
          refine lv_iconst (v := 2) hx hb d_M_makeMatrix_86 (by decide) ?_
          refine lv_irem hx hb d_M_makeMatrix_87 (by decide) ?_
          refine lv_iadd hx hb d_M_makeMatrix_88 ?_
          obtain ⟨v13, h14, hf⟩ := op_let hf
          refine sw_i h14 ?_
          refine lv_istore_n (lv' := [(3, .int v13), (0, .ref (ad 0)), (1, .int x1), (2, .int x2)]) hx hb d_M_makeMatrix_89 rfl hl (by decide) rfl (fun ls hl => ?_)
          refine lv_iload_n hx hb d_M_makeMatrix_90 rfl (lv_at hl 3 rfl) ?_
          refine lv_iconst (v := 4) hx hb d_M_makeMatrix_91 (by decide) ?_
          refine lv_idiv hx hb d_M_makeMatrix_92 (by decide) ?_
          refine lv_iconst (v := 2) hx hb d_M_makeMatrix_93 (by decide) ?_
          refine lv_irem hx hb d_M_makeMatrix_94 (by decide) ?_
          refine lv_if_ne (tgt := 107) hx hb d_M_makeMatrix_95 (by decide) (fun c15 => ?_) (fun c15 => ?_)
          ·
            have hf := op_neg hf c15
            refine lv_aload_n hx hb d_M_makeMatrix_107 rfl (lv_at hl 1 rfl) ?_
            refine wx_get (v := .ref (ad 5)) (C := RQ_M) (T := FQ_M) (N := 21) hx hb ht IQ_M hown hK hP 0 (by decide) (e_g2_0 cy ad _) rfl 4 (by decide) (ht _ kw_532) (fun _ h9 => h9) rfl d_M_makeMatrix_108 ?_
            refine lv_iload_n hx hb d_M_makeMatrix_111 rfl (lv_at hl 2 rfl) ?_
            obtain ⟨h16, hf⟩ := op_chk hf
            refine wx_iald hx hb hK hP 5 (by decide) (by decide) 10 rfl h16 d_M_makeMatrix_112 ?_
            refine lv_iconst (v := 2) hx hb d_M_makeMatrix_113 (by decide) ?_
            refine lv_imul hx hb d_M_makeMatrix_114 ?_
            refine lv_iload_n hx hb d_M_makeMatrix_115 rfl (lv_at hl 3 rfl) ?_
            refine lv_iconst (v := 2) hx hb d_M_makeMatrix_116 (by decide) ?_
            refine lv_idiv hx hb d_M_makeMatrix_117 (by decide) ?_
            refine lv_iconst (v := 2) hx hb d_M_makeMatrix_118 (by decide) ?_
            refine lv_irem hx hb d_M_makeMatrix_119 (by decide) ?_
            refine lv_iadd hx hb d_M_makeMatrix_120 ?_
            obtain ⟨v17, h18, hf⟩ := op_let hf
            refine sw_i h18 ?_
            refine lv_istore (lv' := [(4, .int v17), (3, .int v13), (0, .ref (ad 0)), (1, .int x1), (2, .int x2)]) hx hb d_M_makeMatrix_121 hl (by decide) rfl (fun ls hl => ?_)
            refine lv_aload_n hx hb d_M_makeMatrix_123 rfl (lv_at hl 2 rfl) ?_
            refine wx_get (v := .ref (ad 6)) (C := RQ_M) (T := FQ_M) (N := 21) hx hb ht IQ_M hown hK hP 0 (by decide) (e_g2_0 cy ad _) rfl 5 (by decide) (ht _ kw_533) (fun _ h9 => h9) rfl d_M_makeMatrix_124 ?_
            refine lv_iload_n hx hb d_M_makeMatrix_127 rfl (lv_at hl 3 rfl) ?_
            obtain ⟨h19, hf⟩ := op_chk hf
            refine wx_iald hx hb hK hP 6 (by decide) (by decide) 10 rfl h19 d_M_makeMatrix_128 ?_
            refine lv_aload_n hx hb d_M_makeMatrix_129 rfl (lv_at hl 2 rfl) ?_
            refine lv_iload_n hx hb d_M_makeMatrix_130 rfl (lv_at hl 3 rfl) ?_
            refine lv_iload_n hx hb d_M_makeMatrix_131 rfl (lv_at hl 4 rfl) ?_
            refine lv_iconst (v := 2) hx hb d_M_makeMatrix_132 (by decide) ?_
            refine lv_irem hx hb d_M_makeMatrix_133 (by decide) ?_
            obtain ⟨r22, w21, hc20, hf⟩ := op_b2 hf
            refine wx_fi (wx_rV (As := [.int x1, .int (x2 - x2 / (2 : Int32) * (2 : Int32))]) (rest := [.int (z.2.2.1 6 x1.toNatClampNeg)]) ⟨hx, hb, hml, hown, ht⟩ (m_M_way l D cy ad _ z x1 (x2 - x2 / (2 : Int32) * (2 : Int32)) _ _ hc20) ⟨callB_of 2 ht (gt_in (fun _ h9 => h9) kw_659) rfl rfl rfl (ht _ kw_52) (ht _ kw_656) q_M_way ⟨Nat.le_of_ble_eq_true rfl, Nat.le_of_ble_eq_true rfl⟩, ht _ kw_658, ht _ kw_33⟩ nwM_ok hN hK hP (hD _) (by decide) (e_g2_0 cy ad _) rfl rfl hl.1 rfl (Nat.le_of_ble_eq_true rfl) d_M_makeMatrix_134 ⟨Nat.zero_le _, Nat.zero_le _⟩) (hD _) hS hA (fun H locs hP hS => ?_)
            refine lv_imul hx hb d_M_makeMatrix_137 ?_
            refine lv_aload_n hx hb d_M_makeMatrix_138 rfl (lv_at hl 2 rfl) ?_
            refine lv_iload_n hx hb d_M_makeMatrix_139 rfl (lv_at hl 3 rfl) ?_
            refine lv_iload_n hx hb d_M_makeMatrix_140 rfl (lv_at hl 4 rfl) ?_
            refine lv_iconst (v := 2) hx hb d_M_makeMatrix_141 (by decide) ?_
            refine lv_idiv hx hb d_M_makeMatrix_142 (by decide) ?_
            refine lv_iconst (v := 2) hx hb d_M_makeMatrix_143 (by decide) ?_
            refine lv_irem hx hb d_M_makeMatrix_144 (by decide) ?_
            obtain ⟨r25, w24, hc23, hf⟩ := op_b2 hf
            refine wx_fi (wx_rV (As := [.int x1, .int ((x2 / (2 : Int32)) - (x2 / (2 : Int32)) / (2 : Int32) * (2 : Int32))]) (rest := [.int ((z.2.2.1 6 x1.toNatClampNeg) * r22)]) ⟨hx, hb, hml, hown, ht⟩ (m_M_way l D cy ad _ w21 x1 ((x2 / (2 : Int32)) - (x2 / (2 : Int32)) / (2 : Int32) * (2 : Int32)) _ _ hc23) ⟨callB_of 2 ht (gt_in (fun _ h9 => h9) kw_659) rfl rfl rfl (ht _ kw_52) (ht _ kw_656) q_M_way ⟨Nat.le_of_ble_eq_true rfl, Nat.le_of_ble_eq_true rfl⟩, ht _ kw_658, ht _ kw_33⟩ nwM_ok hN hK hP (hD _) (by decide) (e_g2_0 cy ad _) rfl rfl hl.1 rfl (Nat.le_of_ble_eq_true rfl) d_M_makeMatrix_145 ⟨Nat.zero_le _, Nat.zero_le _⟩) (hD _) hS hA (fun H locs hP hS => ?_)
            refine lv_imul hx hb d_M_makeMatrix_148 ?_
            obtain ⟨v26, h27, hf⟩ := op_let hf
            refine sw_i h27 ?_
            refine lv_istore (lv' := [(5, .int v26), (4, .int v17), (3, .int v13), (0, .ref (ad 0)), (1, .int x1), (2, .int x2)]) hx hb d_M_makeMatrix_149 hl (by decide) rfl (fun ls hl => ?_)
            refine lv_aload_n hx hb d_M_makeMatrix_151 rfl (lv_at hl 3 rfl) ?_
            refine wx_get (v := .ref (ad 13)) (C := RQ_M) (T := FQ_M) (N := 21) hx hb ht IQ_M hown hK hP 0 (by decide) (e_g2_0 cy ad _) rfl 16 (by decide) (ht _ kw_544) (fun _ h9 => h9) rfl d_M_makeMatrix_152 ?_
            refine lv_iload_n hx hb d_M_makeMatrix_155 rfl (lv_at hl 2 rfl) ?_
            refine lv_bipush (v := 10) hx hb d_M_makeMatrix_156 (by decide) ?_
            refine lv_imul hx hb d_M_makeMatrix_158 ?_
            refine lv_iload hx hb d_M_makeMatrix_159 (lv_at hl 1 rfl) ?_
            refine lv_iadd hx hb d_M_makeMatrix_161 ?_
            refine lv_dup2_11 hx hb d_M_makeMatrix_162 rfl rfl ?_
            obtain ⟨h28, hf⟩ := op_chk hf
            refine wx_iald hx hb hK hP 13 (by decide) (by decide) 100 rfl h28 d_M_makeMatrix_163 ?_
            refine lv_iload_n hx hb d_M_makeMatrix_164 rfl (lv_at hl 5 rfl) ?_
            refine lv_bipush (v := 8) hx hb d_M_makeMatrix_165 (by decide) ?_
            refine lv_idiv hx hb d_M_makeMatrix_167 (by decide) ?_
            refine lv_iload_n hx hb d_M_makeMatrix_168 rfl (lv_at hl 5 rfl) ?_
            refine lv_iconst (v := 4) hx hb d_M_makeMatrix_169 (by decide) ?_
            refine lv_idiv hx hb d_M_makeMatrix_170 (by decide) ?_
            refine lv_iconst (v := 2) hx hb d_M_makeMatrix_171 (by decide) ?_
            refine lv_irem hx hb d_M_makeMatrix_172 (by decide) ?_
            refine lv_icmp_ne (tgt := 181) hx hb d_M_makeMatrix_173 (by decide) (fun c29 => ?_) (fun c29 => ?_)
            ·
              have hf := op_neg hf c29
              refine lv_iload hx hb d_M_makeMatrix_181 (lv_at hl 0 rfl) ?_
              refine lv_ineg hx hb d_M_makeMatrix_183 ?_
              refine lv_iadd hx hb d_M_makeMatrix_184 ?_
              obtain ⟨h30, hf⟩ := op_chk hf
              refine wx_iast hx hb hK hP (hD _) hS 13 (by decide) (by decide) 100 rfl h30 d_M_makeMatrix_185 (fun H locs hP hS => ?_)
              obtain ⟨w31, h32, hf⟩ := op_let hf
              rw [h32] at hP
              refine lv_iinc (v := x2 + (1 : Int32)) (lv' := [(2, .int (x2 + (1 : Int32))), (5, .int v26), (4, .int v17), (3, .int v13), (0, .ref (ad 0)), (1, .int x1)]) hx hb d_M_makeMatrix_186 hl (k := 5) rfl rfl (by decide) rfl (fun ls hl => ?_)
              refine lv_goto (tgt := 56) hx hb d_M_makeMatrix_189 (by decide) ?_
              exact ih _ _ _ _ _ hf _ _ _ hP hS (lv_sub hl [4, 5, 0] rfl) k_0
            ·
              have hf := op_pos hf c29
              refine lv_iload hx hb d_M_makeMatrix_176 (lv_at hl 0 rfl) ?_
              refine lv_goto (tgt := 184) hx hb d_M_makeMatrix_178 (by decide) ?_
              refine lv_iadd hx hb d_M_makeMatrix_184 ?_
              obtain ⟨h33, hf⟩ := op_chk hf
              refine wx_iast hx hb hK hP (hD _) hS 13 (by decide) (by decide) 100 rfl h33 d_M_makeMatrix_185 (fun H locs hP hS => ?_)
              obtain ⟨w34, h35, hf⟩ := op_let hf
              rw [h35] at hP
              refine lv_iinc (v := x2 + (1 : Int32)) (lv' := [(2, .int (x2 + (1 : Int32))), (5, .int v26), (4, .int v17), (3, .int v13), (0, .ref (ad 0)), (1, .int x1)]) hx hb d_M_makeMatrix_186 hl (k := 5) rfl rfl (by decide) rfl (fun ls hl => ?_)
              refine lv_goto (tgt := 56) hx hb d_M_makeMatrix_189 (by decide) ?_
              exact ih _ _ _ _ _ hf _ _ _ hP hS (lv_sub hl [4, 5, 0] rfl) k_0
          ·
            have hf := op_pos hf c15
            refine lv_aload_n hx hb d_M_makeMatrix_98 rfl (lv_at hl 1 rfl) ?_
            refine wx_get (v := .ref (ad 4)) (C := RQ_M) (T := FQ_M) (N := 21) hx hb ht IQ_M hown hK hP 0 (by decide) (e_g2_0 cy ad _) rfl 3 (by decide) (ht _ kw_531) (fun _ h9 => h9) rfl d_M_makeMatrix_99 ?_
            refine lv_iload_n hx hb d_M_makeMatrix_102 rfl (lv_at hl 2 rfl) ?_
            obtain ⟨h36, hf⟩ := op_chk hf
            refine wx_iald hx hb hK hP 4 (by decide) (by decide) 10 rfl h36 d_M_makeMatrix_103 ?_
            refine lv_goto (tgt := 113) hx hb d_M_makeMatrix_104 (by decide) ?_
            refine lv_iconst (v := 2) hx hb d_M_makeMatrix_113 (by decide) ?_
            refine lv_imul hx hb d_M_makeMatrix_114 ?_
            refine lv_iload_n hx hb d_M_makeMatrix_115 rfl (lv_at hl 3 rfl) ?_
            refine lv_iconst (v := 2) hx hb d_M_makeMatrix_116 (by decide) ?_
            refine lv_idiv hx hb d_M_makeMatrix_117 (by decide) ?_
            refine lv_iconst (v := 2) hx hb d_M_makeMatrix_118 (by decide) ?_
            refine lv_irem hx hb d_M_makeMatrix_119 (by decide) ?_
            refine lv_iadd hx hb d_M_makeMatrix_120 ?_
            obtain ⟨v37, h38, hf⟩ := op_let hf
            refine sw_i h38 ?_
            refine lv_istore (lv' := [(4, .int v37), (3, .int v13), (0, .ref (ad 0)), (1, .int x1), (2, .int x2)]) hx hb d_M_makeMatrix_121 hl (by decide) rfl (fun ls hl => ?_)
            refine lv_aload_n hx hb d_M_makeMatrix_123 rfl (lv_at hl 2 rfl) ?_
            refine wx_get (v := .ref (ad 6)) (C := RQ_M) (T := FQ_M) (N := 21) hx hb ht IQ_M hown hK hP 0 (by decide) (e_g2_0 cy ad _) rfl 5 (by decide) (ht _ kw_533) (fun _ h9 => h9) rfl d_M_makeMatrix_124 ?_
            refine lv_iload_n hx hb d_M_makeMatrix_127 rfl (lv_at hl 3 rfl) ?_
            obtain ⟨h39, hf⟩ := op_chk hf
            refine wx_iald hx hb hK hP 6 (by decide) (by decide) 10 rfl h39 d_M_makeMatrix_128 ?_
            refine lv_aload_n hx hb d_M_makeMatrix_129 rfl (lv_at hl 2 rfl) ?_
            refine lv_iload_n hx hb d_M_makeMatrix_130 rfl (lv_at hl 3 rfl) ?_
            refine lv_iload_n hx hb d_M_makeMatrix_131 rfl (lv_at hl 4 rfl) ?_
            refine lv_iconst (v := 2) hx hb d_M_makeMatrix_132 (by decide) ?_
            refine lv_irem hx hb d_M_makeMatrix_133 (by decide) ?_
            obtain ⟨r42, w41, hc40, hf⟩ := op_b2 hf
            refine wx_fi (wx_rV (As := [.int x1, .int (x2 - x2 / (2 : Int32) * (2 : Int32))]) (rest := [.int (z.2.2.1 6 x1.toNatClampNeg)]) ⟨hx, hb, hml, hown, ht⟩ (m_M_way l D cy ad _ z x1 (x2 - x2 / (2 : Int32) * (2 : Int32)) _ _ hc40) ⟨callB_of 2 ht (gt_in (fun _ h9 => h9) kw_659) rfl rfl rfl (ht _ kw_52) (ht _ kw_656) q_M_way ⟨Nat.le_of_ble_eq_true rfl, Nat.le_of_ble_eq_true rfl⟩, ht _ kw_658, ht _ kw_33⟩ nwM_ok hN hK hP (hD _) (by decide) (e_g2_0 cy ad _) rfl rfl hl.1 rfl (Nat.le_of_ble_eq_true rfl) d_M_makeMatrix_134 ⟨Nat.zero_le _, Nat.zero_le _⟩) (hD _) hS hA (fun H locs hP hS => ?_)
            refine lv_imul hx hb d_M_makeMatrix_137 ?_
            refine lv_aload_n hx hb d_M_makeMatrix_138 rfl (lv_at hl 2 rfl) ?_
            refine lv_iload_n hx hb d_M_makeMatrix_139 rfl (lv_at hl 3 rfl) ?_
            refine lv_iload_n hx hb d_M_makeMatrix_140 rfl (lv_at hl 4 rfl) ?_
            refine lv_iconst (v := 2) hx hb d_M_makeMatrix_141 (by decide) ?_
            refine lv_idiv hx hb d_M_makeMatrix_142 (by decide) ?_
            refine lv_iconst (v := 2) hx hb d_M_makeMatrix_143 (by decide) ?_
            refine lv_irem hx hb d_M_makeMatrix_144 (by decide) ?_
            obtain ⟨r45, w44, hc43, hf⟩ := op_b2 hf
            refine wx_fi (wx_rV (As := [.int x1, .int ((x2 / (2 : Int32)) - (x2 / (2 : Int32)) / (2 : Int32) * (2 : Int32))]) (rest := [.int ((z.2.2.1 6 x1.toNatClampNeg) * r42)]) ⟨hx, hb, hml, hown, ht⟩ (m_M_way l D cy ad _ w41 x1 ((x2 / (2 : Int32)) - (x2 / (2 : Int32)) / (2 : Int32) * (2 : Int32)) _ _ hc43) ⟨callB_of 2 ht (gt_in (fun _ h9 => h9) kw_659) rfl rfl rfl (ht _ kw_52) (ht _ kw_656) q_M_way ⟨Nat.le_of_ble_eq_true rfl, Nat.le_of_ble_eq_true rfl⟩, ht _ kw_658, ht _ kw_33⟩ nwM_ok hN hK hP (hD _) (by decide) (e_g2_0 cy ad _) rfl rfl hl.1 rfl (Nat.le_of_ble_eq_true rfl) d_M_makeMatrix_145 ⟨Nat.zero_le _, Nat.zero_le _⟩) (hD _) hS hA (fun H locs hP hS => ?_)
            refine lv_imul hx hb d_M_makeMatrix_148 ?_
            obtain ⟨v46, h47, hf⟩ := op_let hf
            refine sw_i h47 ?_
            refine lv_istore (lv' := [(5, .int v46), (4, .int v37), (3, .int v13), (0, .ref (ad 0)), (1, .int x1), (2, .int x2)]) hx hb d_M_makeMatrix_149 hl (by decide) rfl (fun ls hl => ?_)
            refine lv_aload_n hx hb d_M_makeMatrix_151 rfl (lv_at hl 3 rfl) ?_
            refine wx_get (v := .ref (ad 13)) (C := RQ_M) (T := FQ_M) (N := 21) hx hb ht IQ_M hown hK hP 0 (by decide) (e_g2_0 cy ad _) rfl 16 (by decide) (ht _ kw_544) (fun _ h9 => h9) rfl d_M_makeMatrix_152 ?_
            refine lv_iload_n hx hb d_M_makeMatrix_155 rfl (lv_at hl 2 rfl) ?_
            refine lv_bipush (v := 10) hx hb d_M_makeMatrix_156 (by decide) ?_
            refine lv_imul hx hb d_M_makeMatrix_158 ?_
            refine lv_iload hx hb d_M_makeMatrix_159 (lv_at hl 1 rfl) ?_
            refine lv_iadd hx hb d_M_makeMatrix_161 ?_
            refine lv_dup2_11 hx hb d_M_makeMatrix_162 rfl rfl ?_
            obtain ⟨h48, hf⟩ := op_chk hf
            refine wx_iald hx hb hK hP 13 (by decide) (by decide) 100 rfl h48 d_M_makeMatrix_163 ?_
            refine lv_iload_n hx hb d_M_makeMatrix_164 rfl (lv_at hl 5 rfl) ?_
            refine lv_bipush (v := 8) hx hb d_M_makeMatrix_165 (by decide) ?_
            refine lv_idiv hx hb d_M_makeMatrix_167 (by decide) ?_
            refine lv_iload_n hx hb d_M_makeMatrix_168 rfl (lv_at hl 5 rfl) ?_
            refine lv_iconst (v := 4) hx hb d_M_makeMatrix_169 (by decide) ?_
            refine lv_idiv hx hb d_M_makeMatrix_170 (by decide) ?_
            refine lv_iconst (v := 2) hx hb d_M_makeMatrix_171 (by decide) ?_
            refine lv_irem hx hb d_M_makeMatrix_172 (by decide) ?_
            refine lv_icmp_ne (tgt := 181) hx hb d_M_makeMatrix_173 (by decide) (fun c49 => ?_) (fun c49 => ?_)
            ·
              have hf := op_neg hf c49
              refine lv_iload hx hb d_M_makeMatrix_181 (lv_at hl 0 rfl) ?_
              refine lv_ineg hx hb d_M_makeMatrix_183 ?_
              refine lv_iadd hx hb d_M_makeMatrix_184 ?_
              obtain ⟨h50, hf⟩ := op_chk hf
              refine wx_iast hx hb hK hP (hD _) hS 13 (by decide) (by decide) 100 rfl h50 d_M_makeMatrix_185 (fun H locs hP hS => ?_)
              obtain ⟨w51, h52, hf⟩ := op_let hf
              rw [h52] at hP
              refine lv_iinc (v := x2 + (1 : Int32)) (lv' := [(2, .int (x2 + (1 : Int32))), (5, .int v46), (4, .int v37), (3, .int v13), (0, .ref (ad 0)), (1, .int x1)]) hx hb d_M_makeMatrix_186 hl (k := 5) rfl rfl (by decide) rfl (fun ls hl => ?_)
              refine lv_goto (tgt := 56) hx hb d_M_makeMatrix_189 (by decide) ?_
              exact ih _ _ _ _ _ hf _ _ _ hP hS (lv_sub hl [4, 5, 0] rfl) k_0
            ·
              have hf := op_pos hf c49
              refine lv_iload hx hb d_M_makeMatrix_176 (lv_at hl 0 rfl) ?_
              refine lv_goto (tgt := 184) hx hb d_M_makeMatrix_178 (by decide) ?_
              refine lv_iadd hx hb d_M_makeMatrix_184 ?_
              obtain ⟨h53, hf⟩ := op_chk hf
              refine wx_iast hx hb hK hP (hD _) hS 13 (by decide) (by decide) 100 rfl h53 d_M_makeMatrix_185 (fun H locs hP hS => ?_)
              obtain ⟨w54, h55, hf⟩ := op_let hf
              rw [h55] at hP
              refine lv_iinc (v := x2 + (1 : Int32)) (lv' := [(2, .int (x2 + (1 : Int32))), (5, .int v46), (4, .int v37), (3, .int v13), (0, .ref (ad 0)), (1, .int x1)]) hx hb d_M_makeMatrix_186 hl (k := 5) rfl rfl (by decide) rfl (fun ls hl => ?_)
              refine lv_goto (tgt := 56) hx hb d_M_makeMatrix_189 (by decide) ?_
              exact ih _ _ _ _ _ hf _ _ _ hP hS (lv_sub hl [4, 5, 0] rfl) k_0
        ·
          have hf := op_neg hf c11
          refine lv_aload_n hx hb d_M_makeMatrix_68 rfl (lv_at hl 0 rfl) ?_
          refine wx_get (v := .ref (ad 4)) (C := RQ_M) (T := FQ_M) (N := 21) hx hb ht IQ_M hown hK hP 0 (by decide) (e_g2_0 cy ad _) rfl 3 (by decide) (ht _ kw_531) (fun _ h9 => h9) rfl d_M_makeMatrix_69 ?_
          refine lv_iload_n hx hb d_M_makeMatrix_72 rfl (lv_at hl 1 rfl) ?_
          obtain ⟨h56, hf⟩ := op_chk hf
          refine wx_iald hx hb hK hP 4 (by decide) (by decide) 10 rfl h56 d_M_makeMatrix_73 ?_
          refine lv_goto (tgt := 83) hx hb d_M_makeMatrix_74 (by decide) ?_
          refine lv_iconst (v := 2) hx hb d_M_makeMatrix_83 (by decide) ?_
          refine lv_imul hx hb d_M_makeMatrix_84 ?_
          refine lv_iload_n hx hb d_M_makeMatrix_85 rfl (lv_at hl 2 rfl) ?_
          refine lv_iconst (v := 2) hx hb d_M_makeMatrix_86 (by decide) ?_
          refine lv_irem hx hb d_M_makeMatrix_87 (by decide) ?_
          refine lv_iadd hx hb d_M_makeMatrix_88 ?_
          obtain ⟨v57, h58, hf⟩ := op_let hf
          refine sw_i h58 ?_
          refine lv_istore_n (lv' := [(3, .int v57), (0, .ref (ad 0)), (1, .int x1), (2, .int x2)]) hx hb d_M_makeMatrix_89 rfl hl (by decide) rfl (fun ls hl => ?_)
          refine lv_iload_n hx hb d_M_makeMatrix_90 rfl (lv_at hl 3 rfl) ?_
          refine lv_iconst (v := 4) hx hb d_M_makeMatrix_91 (by decide) ?_
          refine lv_idiv hx hb d_M_makeMatrix_92 (by decide) ?_
          refine lv_iconst (v := 2) hx hb d_M_makeMatrix_93 (by decide) ?_
          refine lv_irem hx hb d_M_makeMatrix_94 (by decide) ?_
          refine lv_if_ne (tgt := 107) hx hb d_M_makeMatrix_95 (by decide) (fun c59 => ?_) (fun c59 => ?_)
          ·
            have hf := op_neg hf c59
            refine lv_aload_n hx hb d_M_makeMatrix_107 rfl (lv_at hl 1 rfl) ?_
            refine wx_get (v := .ref (ad 5)) (C := RQ_M) (T := FQ_M) (N := 21) hx hb ht IQ_M hown hK hP 0 (by decide) (e_g2_0 cy ad _) rfl 4 (by decide) (ht _ kw_532) (fun _ h9 => h9) rfl d_M_makeMatrix_108 ?_
            refine lv_iload_n hx hb d_M_makeMatrix_111 rfl (lv_at hl 2 rfl) ?_
            obtain ⟨h60, hf⟩ := op_chk hf
            refine wx_iald hx hb hK hP 5 (by decide) (by decide) 10 rfl h60 d_M_makeMatrix_112 ?_
            refine lv_iconst (v := 2) hx hb d_M_makeMatrix_113 (by decide) ?_
            refine lv_imul hx hb d_M_makeMatrix_114 ?_
            refine lv_iload_n hx hb d_M_makeMatrix_115 rfl (lv_at hl 3 rfl) ?_
            refine lv_iconst (v := 2) hx hb d_M_makeMatrix_116 (by decide) ?_
            refine lv_idiv hx hb d_M_makeMatrix_117 (by decide) ?_
            refine lv_iconst (v := 2) hx hb d_M_makeMatrix_118 (by decide) ?_
            refine lv_irem hx hb d_M_makeMatrix_119 (by decide) ?_
            refine lv_iadd hx hb d_M_makeMatrix_120 ?_
            obtain ⟨v61, h62, hf⟩ := op_let hf
            refine sw_i h62 ?_
            refine lv_istore (lv' := [(4, .int v61), (3, .int v57), (0, .ref (ad 0)), (1, .int x1), (2, .int x2)]) hx hb d_M_makeMatrix_121 hl (by decide) rfl (fun ls hl => ?_)
            refine lv_aload_n hx hb d_M_makeMatrix_123 rfl (lv_at hl 2 rfl) ?_
            refine wx_get (v := .ref (ad 6)) (C := RQ_M) (T := FQ_M) (N := 21) hx hb ht IQ_M hown hK hP 0 (by decide) (e_g2_0 cy ad _) rfl 5 (by decide) (ht _ kw_533) (fun _ h9 => h9) rfl d_M_makeMatrix_124 ?_
            refine lv_iload_n hx hb d_M_makeMatrix_127 rfl (lv_at hl 3 rfl) ?_
            obtain ⟨h63, hf⟩ := op_chk hf
            refine wx_iald hx hb hK hP 6 (by decide) (by decide) 10 rfl h63 d_M_makeMatrix_128 ?_
            refine lv_aload_n hx hb d_M_makeMatrix_129 rfl (lv_at hl 2 rfl) ?_
            refine lv_iload_n hx hb d_M_makeMatrix_130 rfl (lv_at hl 3 rfl) ?_
            refine lv_iload_n hx hb d_M_makeMatrix_131 rfl (lv_at hl 4 rfl) ?_
            refine lv_iconst (v := 2) hx hb d_M_makeMatrix_132 (by decide) ?_
            refine lv_irem hx hb d_M_makeMatrix_133 (by decide) ?_
            obtain ⟨r66, w65, hc64, hf⟩ := op_b2 hf
            refine wx_fi (wx_rV (As := [.int x1, .int (x2 - x2 / (2 : Int32) * (2 : Int32))]) (rest := [.int (z.2.2.1 6 x1.toNatClampNeg)]) ⟨hx, hb, hml, hown, ht⟩ (m_M_way l D cy ad _ z x1 (x2 - x2 / (2 : Int32) * (2 : Int32)) _ _ hc64) ⟨callB_of 2 ht (gt_in (fun _ h9 => h9) kw_659) rfl rfl rfl (ht _ kw_52) (ht _ kw_656) q_M_way ⟨Nat.le_of_ble_eq_true rfl, Nat.le_of_ble_eq_true rfl⟩, ht _ kw_658, ht _ kw_33⟩ nwM_ok hN hK hP (hD _) (by decide) (e_g2_0 cy ad _) rfl rfl hl.1 rfl (Nat.le_of_ble_eq_true rfl) d_M_makeMatrix_134 ⟨Nat.zero_le _, Nat.zero_le _⟩) (hD _) hS hA (fun H locs hP hS => ?_)
            refine lv_imul hx hb d_M_makeMatrix_137 ?_
            refine lv_aload_n hx hb d_M_makeMatrix_138 rfl (lv_at hl 2 rfl) ?_
            refine lv_iload_n hx hb d_M_makeMatrix_139 rfl (lv_at hl 3 rfl) ?_
            refine lv_iload_n hx hb d_M_makeMatrix_140 rfl (lv_at hl 4 rfl) ?_
            refine lv_iconst (v := 2) hx hb d_M_makeMatrix_141 (by decide) ?_
            refine lv_idiv hx hb d_M_makeMatrix_142 (by decide) ?_
            refine lv_iconst (v := 2) hx hb d_M_makeMatrix_143 (by decide) ?_
            refine lv_irem hx hb d_M_makeMatrix_144 (by decide) ?_
            obtain ⟨r69, w68, hc67, hf⟩ := op_b2 hf
            refine wx_fi (wx_rV (As := [.int x1, .int ((x2 / (2 : Int32)) - (x2 / (2 : Int32)) / (2 : Int32) * (2 : Int32))]) (rest := [.int ((z.2.2.1 6 x1.toNatClampNeg) * r66)]) ⟨hx, hb, hml, hown, ht⟩ (m_M_way l D cy ad _ w65 x1 ((x2 / (2 : Int32)) - (x2 / (2 : Int32)) / (2 : Int32) * (2 : Int32)) _ _ hc67) ⟨callB_of 2 ht (gt_in (fun _ h9 => h9) kw_659) rfl rfl rfl (ht _ kw_52) (ht _ kw_656) q_M_way ⟨Nat.le_of_ble_eq_true rfl, Nat.le_of_ble_eq_true rfl⟩, ht _ kw_658, ht _ kw_33⟩ nwM_ok hN hK hP (hD _) (by decide) (e_g2_0 cy ad _) rfl rfl hl.1 rfl (Nat.le_of_ble_eq_true rfl) d_M_makeMatrix_145 ⟨Nat.zero_le _, Nat.zero_le _⟩) (hD _) hS hA (fun H locs hP hS => ?_)
            refine lv_imul hx hb d_M_makeMatrix_148 ?_
            obtain ⟨v70, h71, hf⟩ := op_let hf
            refine sw_i h71 ?_
            refine lv_istore (lv' := [(5, .int v70), (4, .int v61), (3, .int v57), (0, .ref (ad 0)), (1, .int x1), (2, .int x2)]) hx hb d_M_makeMatrix_149 hl (by decide) rfl (fun ls hl => ?_)
            refine lv_aload_n hx hb d_M_makeMatrix_151 rfl (lv_at hl 3 rfl) ?_
            refine wx_get (v := .ref (ad 13)) (C := RQ_M) (T := FQ_M) (N := 21) hx hb ht IQ_M hown hK hP 0 (by decide) (e_g2_0 cy ad _) rfl 16 (by decide) (ht _ kw_544) (fun _ h9 => h9) rfl d_M_makeMatrix_152 ?_
            refine lv_iload_n hx hb d_M_makeMatrix_155 rfl (lv_at hl 2 rfl) ?_
            refine lv_bipush (v := 10) hx hb d_M_makeMatrix_156 (by decide) ?_
            refine lv_imul hx hb d_M_makeMatrix_158 ?_
            refine lv_iload hx hb d_M_makeMatrix_159 (lv_at hl 1 rfl) ?_
            refine lv_iadd hx hb d_M_makeMatrix_161 ?_
            refine lv_dup2_11 hx hb d_M_makeMatrix_162 rfl rfl ?_
            obtain ⟨h72, hf⟩ := op_chk hf
            refine wx_iald hx hb hK hP 13 (by decide) (by decide) 100 rfl h72 d_M_makeMatrix_163 ?_
            refine lv_iload_n hx hb d_M_makeMatrix_164 rfl (lv_at hl 5 rfl) ?_
            refine lv_bipush (v := 8) hx hb d_M_makeMatrix_165 (by decide) ?_
            refine lv_idiv hx hb d_M_makeMatrix_167 (by decide) ?_
            refine lv_iload_n hx hb d_M_makeMatrix_168 rfl (lv_at hl 5 rfl) ?_
            refine lv_iconst (v := 4) hx hb d_M_makeMatrix_169 (by decide) ?_
            refine lv_idiv hx hb d_M_makeMatrix_170 (by decide) ?_
            refine lv_iconst (v := 2) hx hb d_M_makeMatrix_171 (by decide) ?_
            refine lv_irem hx hb d_M_makeMatrix_172 (by decide) ?_
            refine lv_icmp_ne (tgt := 181) hx hb d_M_makeMatrix_173 (by decide) (fun c73 => ?_) (fun c73 => ?_)
            ·
              have hf := op_neg hf c73
              refine lv_iload hx hb d_M_makeMatrix_181 (lv_at hl 0 rfl) ?_
              refine lv_ineg hx hb d_M_makeMatrix_183 ?_
              refine lv_iadd hx hb d_M_makeMatrix_184 ?_
              obtain ⟨h74, hf⟩ := op_chk hf
              refine wx_iast hx hb hK hP (hD _) hS 13 (by decide) (by decide) 100 rfl h74 d_M_makeMatrix_185 (fun H locs hP hS => ?_)
              obtain ⟨w75, h76, hf⟩ := op_let hf
              rw [h76] at hP
              refine lv_iinc (v := x2 + (1 : Int32)) (lv' := [(2, .int (x2 + (1 : Int32))), (5, .int v70), (4, .int v61), (3, .int v57), (0, .ref (ad 0)), (1, .int x1)]) hx hb d_M_makeMatrix_186 hl (k := 5) rfl rfl (by decide) rfl (fun ls hl => ?_)
              refine lv_goto (tgt := 56) hx hb d_M_makeMatrix_189 (by decide) ?_
              exact ih _ _ _ _ _ hf _ _ _ hP hS (lv_sub hl [4, 5, 0] rfl) k_0
            ·
              have hf := op_pos hf c73
              refine lv_iload hx hb d_M_makeMatrix_176 (lv_at hl 0 rfl) ?_
              refine lv_goto (tgt := 184) hx hb d_M_makeMatrix_178 (by decide) ?_
              refine lv_iadd hx hb d_M_makeMatrix_184 ?_
              obtain ⟨h77, hf⟩ := op_chk hf
              refine wx_iast hx hb hK hP (hD _) hS 13 (by decide) (by decide) 100 rfl h77 d_M_makeMatrix_185 (fun H locs hP hS => ?_)
              obtain ⟨w78, h79, hf⟩ := op_let hf
              rw [h79] at hP
              refine lv_iinc (v := x2 + (1 : Int32)) (lv' := [(2, .int (x2 + (1 : Int32))), (5, .int v70), (4, .int v61), (3, .int v57), (0, .ref (ad 0)), (1, .int x1)]) hx hb d_M_makeMatrix_186 hl (k := 5) rfl rfl (by decide) rfl (fun ls hl => ?_)
              refine lv_goto (tgt := 56) hx hb d_M_makeMatrix_189 (by decide) ?_
              exact ih _ _ _ _ _ hf _ _ _ hP hS (lv_sub hl [4, 5, 0] rfl) k_0
          ·
            have hf := op_pos hf c59
            refine lv_aload_n hx hb d_M_makeMatrix_98 rfl (lv_at hl 1 rfl) ?_
            refine wx_get (v := .ref (ad 4)) (C := RQ_M) (T := FQ_M) (N := 21) hx hb ht IQ_M hown hK hP 0 (by decide) (e_g2_0 cy ad _) rfl 3 (by decide) (ht _ kw_531) (fun _ h9 => h9) rfl d_M_makeMatrix_99 ?_
            refine lv_iload_n hx hb d_M_makeMatrix_102 rfl (lv_at hl 2 rfl) ?_
            obtain ⟨h80, hf⟩ := op_chk hf
            refine wx_iald hx hb hK hP 4 (by decide) (by decide) 10 rfl h80 d_M_makeMatrix_103 ?_
            refine lv_goto (tgt := 113) hx hb d_M_makeMatrix_104 (by decide) ?_
            refine lv_iconst (v := 2) hx hb d_M_makeMatrix_113 (by decide) ?_
            refine lv_imul hx hb d_M_makeMatrix_114 ?_
            refine lv_iload_n hx hb d_M_makeMatrix_115 rfl (lv_at hl 3 rfl) ?_
            refine lv_iconst (v := 2) hx hb d_M_makeMatrix_116 (by decide) ?_
            refine lv_idiv hx hb d_M_makeMatrix_117 (by decide) ?_
            refine lv_iconst (v := 2) hx hb d_M_makeMatrix_118 (by decide) ?_
            refine lv_irem hx hb d_M_makeMatrix_119 (by decide) ?_
            refine lv_iadd hx hb d_M_makeMatrix_120 ?_
            obtain ⟨v81, h82, hf⟩ := op_let hf
            refine sw_i h82 ?_
            refine lv_istore (lv' := [(4, .int v81), (3, .int v57), (0, .ref (ad 0)), (1, .int x1), (2, .int x2)]) hx hb d_M_makeMatrix_121 hl (by decide) rfl (fun ls hl => ?_)
            refine lv_aload_n hx hb d_M_makeMatrix_123 rfl (lv_at hl 2 rfl) ?_
            refine wx_get (v := .ref (ad 6)) (C := RQ_M) (T := FQ_M) (N := 21) hx hb ht IQ_M hown hK hP 0 (by decide) (e_g2_0 cy ad _) rfl 5 (by decide) (ht _ kw_533) (fun _ h9 => h9) rfl d_M_makeMatrix_124 ?_
            refine lv_iload_n hx hb d_M_makeMatrix_127 rfl (lv_at hl 3 rfl) ?_
            obtain ⟨h83, hf⟩ := op_chk hf
            refine wx_iald hx hb hK hP 6 (by decide) (by decide) 10 rfl h83 d_M_makeMatrix_128 ?_
            refine lv_aload_n hx hb d_M_makeMatrix_129 rfl (lv_at hl 2 rfl) ?_
            refine lv_iload_n hx hb d_M_makeMatrix_130 rfl (lv_at hl 3 rfl) ?_
            refine lv_iload_n hx hb d_M_makeMatrix_131 rfl (lv_at hl 4 rfl) ?_
            refine lv_iconst (v := 2) hx hb d_M_makeMatrix_132 (by decide) ?_
            refine lv_irem hx hb d_M_makeMatrix_133 (by decide) ?_
            obtain ⟨r86, w85, hc84, hf⟩ := op_b2 hf
            refine wx_fi (wx_rV (As := [.int x1, .int (x2 - x2 / (2 : Int32) * (2 : Int32))]) (rest := [.int (z.2.2.1 6 x1.toNatClampNeg)]) ⟨hx, hb, hml, hown, ht⟩ (m_M_way l D cy ad _ z x1 (x2 - x2 / (2 : Int32) * (2 : Int32)) _ _ hc84) ⟨callB_of 2 ht (gt_in (fun _ h9 => h9) kw_659) rfl rfl rfl (ht _ kw_52) (ht _ kw_656) q_M_way ⟨Nat.le_of_ble_eq_true rfl, Nat.le_of_ble_eq_true rfl⟩, ht _ kw_658, ht _ kw_33⟩ nwM_ok hN hK hP (hD _) (by decide) (e_g2_0 cy ad _) rfl rfl hl.1 rfl (Nat.le_of_ble_eq_true rfl) d_M_makeMatrix_134 ⟨Nat.zero_le _, Nat.zero_le _⟩) (hD _) hS hA (fun H locs hP hS => ?_)
            refine lv_imul hx hb d_M_makeMatrix_137 ?_
            refine lv_aload_n hx hb d_M_makeMatrix_138 rfl (lv_at hl 2 rfl) ?_
            refine lv_iload_n hx hb d_M_makeMatrix_139 rfl (lv_at hl 3 rfl) ?_
            refine lv_iload_n hx hb d_M_makeMatrix_140 rfl (lv_at hl 4 rfl) ?_
            refine lv_iconst (v := 2) hx hb d_M_makeMatrix_141 (by decide) ?_
            refine lv_idiv hx hb d_M_makeMatrix_142 (by decide) ?_
            refine lv_iconst (v := 2) hx hb d_M_makeMatrix_143 (by decide) ?_
            refine lv_irem hx hb d_M_makeMatrix_144 (by decide) ?_
            obtain ⟨r89, w88, hc87, hf⟩ := op_b2 hf
            refine wx_fi (wx_rV (As := [.int x1, .int ((x2 / (2 : Int32)) - (x2 / (2 : Int32)) / (2 : Int32) * (2 : Int32))]) (rest := [.int ((z.2.2.1 6 x1.toNatClampNeg) * r86)]) ⟨hx, hb, hml, hown, ht⟩ (m_M_way l D cy ad _ w85 x1 ((x2 / (2 : Int32)) - (x2 / (2 : Int32)) / (2 : Int32) * (2 : Int32)) _ _ hc87) ⟨callB_of 2 ht (gt_in (fun _ h9 => h9) kw_659) rfl rfl rfl (ht _ kw_52) (ht _ kw_656) q_M_way ⟨Nat.le_of_ble_eq_true rfl, Nat.le_of_ble_eq_true rfl⟩, ht _ kw_658, ht _ kw_33⟩ nwM_ok hN hK hP (hD _) (by decide) (e_g2_0 cy ad _) rfl rfl hl.1 rfl (Nat.le_of_ble_eq_true rfl) d_M_makeMatrix_145 ⟨Nat.zero_le _, Nat.zero_le _⟩) (hD _) hS hA (fun H locs hP hS => ?_)
            refine lv_imul hx hb d_M_makeMatrix_148 ?_
            obtain ⟨v90, h91, hf⟩ := op_let hf
            refine sw_i h91 ?_
            refine lv_istore (lv' := [(5, .int v90), (4, .int v81), (3, .int v57), (0, .ref (ad 0)), (1, .int x1), (2, .int x2)]) hx hb d_M_makeMatrix_149 hl (by decide) rfl (fun ls hl => ?_)
            refine lv_aload_n hx hb d_M_makeMatrix_151 rfl (lv_at hl 3 rfl) ?_
            refine wx_get (v := .ref (ad 13)) (C := RQ_M) (T := FQ_M) (N := 21) hx hb ht IQ_M hown hK hP 0 (by decide) (e_g2_0 cy ad _) rfl 16 (by decide) (ht _ kw_544) (fun _ h9 => h9) rfl d_M_makeMatrix_152 ?_
            refine lv_iload_n hx hb d_M_makeMatrix_155 rfl (lv_at hl 2 rfl) ?_
            refine lv_bipush (v := 10) hx hb d_M_makeMatrix_156 (by decide) ?_
            refine lv_imul hx hb d_M_makeMatrix_158 ?_
            refine lv_iload hx hb d_M_makeMatrix_159 (lv_at hl 1 rfl) ?_
            refine lv_iadd hx hb d_M_makeMatrix_161 ?_
            refine lv_dup2_11 hx hb d_M_makeMatrix_162 rfl rfl ?_
            obtain ⟨h92, hf⟩ := op_chk hf
            refine wx_iald hx hb hK hP 13 (by decide) (by decide) 100 rfl h92 d_M_makeMatrix_163 ?_
            refine lv_iload_n hx hb d_M_makeMatrix_164 rfl (lv_at hl 5 rfl) ?_
            refine lv_bipush (v := 8) hx hb d_M_makeMatrix_165 (by decide) ?_
            refine lv_idiv hx hb d_M_makeMatrix_167 (by decide) ?_
            refine lv_iload_n hx hb d_M_makeMatrix_168 rfl (lv_at hl 5 rfl) ?_
            refine lv_iconst (v := 4) hx hb d_M_makeMatrix_169 (by decide) ?_
            refine lv_idiv hx hb d_M_makeMatrix_170 (by decide) ?_
            refine lv_iconst (v := 2) hx hb d_M_makeMatrix_171 (by decide) ?_
            refine lv_irem hx hb d_M_makeMatrix_172 (by decide) ?_
            refine lv_icmp_ne (tgt := 181) hx hb d_M_makeMatrix_173 (by decide) (fun c93 => ?_) (fun c93 => ?_)
            ·
              have hf := op_neg hf c93
              refine lv_iload hx hb d_M_makeMatrix_181 (lv_at hl 0 rfl) ?_
              refine lv_ineg hx hb d_M_makeMatrix_183 ?_
              refine lv_iadd hx hb d_M_makeMatrix_184 ?_
              obtain ⟨h94, hf⟩ := op_chk hf
              refine wx_iast hx hb hK hP (hD _) hS 13 (by decide) (by decide) 100 rfl h94 d_M_makeMatrix_185 (fun H locs hP hS => ?_)
              obtain ⟨w95, h96, hf⟩ := op_let hf
              rw [h96] at hP
              refine lv_iinc (v := x2 + (1 : Int32)) (lv' := [(2, .int (x2 + (1 : Int32))), (5, .int v90), (4, .int v81), (3, .int v57), (0, .ref (ad 0)), (1, .int x1)]) hx hb d_M_makeMatrix_186 hl (k := 5) rfl rfl (by decide) rfl (fun ls hl => ?_)
              refine lv_goto (tgt := 56) hx hb d_M_makeMatrix_189 (by decide) ?_
              exact ih _ _ _ _ _ hf _ _ _ hP hS (lv_sub hl [4, 5, 0] rfl) k_0
            ·
              have hf := op_pos hf c93
              refine lv_iload hx hb d_M_makeMatrix_176 (lv_at hl 0 rfl) ?_
              refine lv_goto (tgt := 184) hx hb d_M_makeMatrix_178 (by decide) ?_
              refine lv_iadd hx hb d_M_makeMatrix_184 ?_
              obtain ⟨h97, hf⟩ := op_chk hf
              refine wx_iast hx hb hK hP (hD _) hS 13 (by decide) (by decide) 100 rfl h97 d_M_makeMatrix_185 (fun H locs hP hS => ?_)
              obtain ⟨w98, h99, hf⟩ := op_let hf
              rw [h99] at hP
              refine lv_iinc (v := x2 + (1 : Int32)) (lv' := [(2, .int (x2 + (1 : Int32))), (5, .int v90), (4, .int v81), (3, .int v57), (0, .ref (ad 0)), (1, .int x1)]) hx hb d_M_makeMatrix_186 hl (k := 5) rfl rfl (by decide) rfl (fun ls hl => ?_)
              refine lv_goto (tgt := 56) hx hb d_M_makeMatrix_189 (by decide) ?_
              exact ih _ _ _ _ _ hf _ _ _ hP hS (lv_sub hl [4, 5, 0] rfl) k_0
  have L_46 : ∀ (n : Nat) (z : gS) (x1 : Int32) (z9 : gS), l_M_makeMatrix_46 n z x1 = some z9 → ∀ (H : Heap) (locs : List Loc) (ls : Array Slot), va_P D cl_all (wl 16 ad (g2 cy ad z)) H → va_S A s.heap H locs → lv_has ls 6 [(0, .ref (ad 0)), (1, .int x1)] →
      (∀ (H : Heap) (locs : List Loc) (ls : Array Slot), va_P D cl_all (wl 16 ad (g2 cy ad z9)) H → va_S A s.heap H locs → lv_has ls 6 [] → W p l e (headSpec (Cond.code y_M_makeMatrix c_M_makeMatrix 6 none :: gt_ws) ({ frames := 2, cells := 0, slots := 0, locals := 90 })).room s m ([.ref (ad 0)]).toArray below meth c H locs 0 0 (MQ below (sQv D cl_all 16 ad (g2 cy ad z0) s.heap.size (g2 cy ad zz)) ([.ref (ad 0)]).toArray s 0 0 (va_A (wl 16 ad (g2 cy ad z0)) s.heap.size)) (F0 m 198 ls [])) →
      W p l e (headSpec (Cond.code y_M_makeMatrix c_M_makeMatrix 6 none :: gt_ws) ({ frames := 2, cells := 0, slots := 0, locals := 90 })).room s m ([.ref (ad 0)]).toArray below meth c H locs 0 0 (MQ below (sQv D cl_all 16 ad (g2 cy ad z0) s.heap.size (g2 cy ad zz)) ([.ref (ad 0)]).toArray s 0 0 (va_A (wl 16 ad (g2 cy ad z0)) s.heap.size)) (F0 m 46 ls []) := by
    intro n
    induction n with
    | zero => intro z x1 z9 hf; rw [l_M_makeMatrix_46] at hf; cases hf
    | succ n ih =>
      intro z x1 z9 hf H locs ls hP hS hl k_0
      rw [l_M_makeMatrix_46] at hf
      refine lv_iload_n hx hb d_M_makeMatrix_46 rfl (lv_at hl 1 rfl) ?_
      refine lv_aload_n hx hb d_M_makeMatrix_47 rfl (lv_at hl 0 rfl) ?_
      refine wx_get (v := .int (z.1 0)) (C := RQ_M) (T := FQ_M) (N := 21) hx hb ht IQ_M hown hK hP 0 (by decide) (e_g2_0 cy ad _) rfl 6 (by decide) (ht _ kw_534) (fun _ h9 => h9) rfl d_M_makeMatrix_48 ?_
      refine lv_icmp_ge (tgt := 198) hx hb d_M_makeMatrix_51 (by decide) (fun c100 => ?_) (fun c100 => ?_)
      ·
        have hf := op_pos hf c100
        cases hf
        exact k_0 _ _ _ hP hS (lv_sub hl [] rfl)
      ·
        have hf := op_neg hf c100
        refine lv_iconst (v := 0) hx hb d_M_makeMatrix_54 (by decide) ?_
        refine lv_istore_n (lv' := [(2, .int (0 : Int32)), (0, .ref (ad 0)), (1, .int x1)]) hx hb d_M_makeMatrix_55 rfl hl (by decide) rfl (fun ls hl => ?_)
        obtain ⟨v101, w102, hc103, hf⟩ := op_b2 hf
        refine L_56 _ _ _ _ _ _ hc103 _ _ _ hP hS (lv_sub hl [1, 2, 0] rfl) (fun H locs ls hP hS hl => ?_)
        refine lv_iinc (v := v101 + (1 : Int32)) (lv' := [(1, .int (v101 + (1 : Int32))), (0, .ref (ad 0))]) hx hb d_M_makeMatrix_192 hl (k := 1) rfl rfl (by decide) rfl (fun ls hl => ?_)
        refine lv_goto (tgt := 46) hx hb d_M_makeMatrix_195 (by decide) ?_
        exact ih _ _ _ hf _ _ _ hP hS (lv_sub hl [1, 0] rfl) k_0
  unfold f_M_makeMatrix at hf
  refine lv_iconst (v := 0) hx hb d_M_makeMatrix_0 (by decide) ?_
  refine lv_istore_n (lv' := [(1, .int (0 : Int32)), (0, .ref (ad 0))]) hx hb d_M_makeMatrix_1 rfl hl (by decide) rfl (fun ls hl => ?_)
  obtain ⟨w104, hc105, hf⟩ := op_b1 hf
  refine L_2 _ _ _ _ hc105 _ _ _ hP hS (lv_sub hl [1, 0] rfl) (fun H locs ls hP hS hl => ?_)
  refine lv_iconst (v := 0) hx hb d_M_makeMatrix_44 (by decide) ?_
  refine lv_istore_n (lv' := [(1, .int (0 : Int32)), (0, .ref (ad 0))]) hx hb d_M_makeMatrix_45 rfl hl (by decide) rfl (fun ls hl => ?_)
  obtain ⟨w106, hc107, hf⟩ := op_b1 hf
  refine L_46 _ _ _ _ hc107 _ _ _ hP hS (lv_sub hl [1, 0] rfl) (fun H locs ls hP hS hl => ?_)
  obtain rfl := Option.some.inj hf
  exact wx_vret hx hb hr hlocks hAe hP hS d_M_makeMatrix_198
