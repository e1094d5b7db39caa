def l_E_findWeakUnknown_9 : Nat → gS → Int32 → Option (Nat × Int32 × gS)
  | 0, _, _ => none
  | n + 1, z, x1 =>
    if (z.1 6) ≤ x1 then (some (1, x1, z))
     else (bd1 (f_E_growPolynomial z x1) (fun w3 =>
     if (x1 + (1 : Int32)) < 0 ∨ 11 ≤ (x1 + (1 : Int32)).toNatClampNeg then none else
     if (lg_cmp (w3.2.2.2 20 (x1 + (1 : Int32)).toNatClampNeg) (0 : Int64)) = 0 then (some (0, x1, w3))
     else (l_E_findWeakUnknown_9 n w3 (x1 + (1 : Int32)))))
def f_E_findWeakUnknown (z0 : gS) : Option (Int32 × gS) :=
 if (0 : Int32) < 0 ∨ 11 ≤ (0 : Int32).toNatClampNeg then none else
 (some (s_J z0 20 (vp_updL (z0.2.2.2 20) (0 : Int32).toNatClampNeg (1 : Int64)))).bind (fun w7 =>
 bd3 (l_E_findWeakUnknown_9 200 w7 (0 : Int32)) (fun e9 v10 w11 =>
 if e9 = 0 then (some (v10, w11))
 else (some ((-1 : Int32), w11))))
set_option maxHeartbeats 4000000 in
set_option maxRecDepth 100000 in
theorem m_E_findWeakUnknown (l : Launch) (D : va_G) (cy : Nat → ClassId) (ad : Nat → Nat) (sz : Nat) (z0 : gS) (r : Int32) (zz : gS) (hf : f_E_findWeakUnknown z0 = some (r, zz)) : Met l y_E_findWeakUnknown (Cond.code y_E_findWeakUnknown c_E_findWeakUnknown 2 (some .int) :: gt_ws) ({ frames := 4, cells := 0, slots := 0, locals := 180 }) (sPc D cl_all (gTy cy) nwC 52 ad (g1 cy ad z0) sz [.ref (ad 3)]) (sQi D cl_all 52 ad (g1 cy ad z0) sz r (g1 cy ad zz)) 0 0 (va_A (wl 52 ad (g1 cy ad z0)) sz) := by
  refine Met.ofW (cc := c_E_findWeakUnknown) (maxL := 2) (ret := (some .int)) (by decide) rfl ?_
  intro p e s m args below meth c s₁ B hml hv
  obtain ⟨rfl, hsz, hP, hK, hN, hD0⟩ := hv
  have hx := B.exec
  have hb := B.bytes
  have hr := B.returns
  have hts := atoms_spec (ws := (Cond.code y_E_findWeakUnknown c_E_findWeakUnknown 2 (some .int) :: gt_ws)) B.pre
  have ht : ∀ w ∈ gt_ws, w.before _ s = true := fun w h => hts w (List.mem_cons_of_mem _ h)
  have hown : s.vm.findClass RQ_E = some m.cls := findClass_of_methodNamed B.named
  have hlocks := B.notSynchronized
  subst hsz
  have hD1 := hD0.self (sz := s.heap.size)
  obtain ⟨A, hAe⟩ : ∃ A, A = va_A (wl 52 ad (g1 cy ad z0)) s.heap.size := ⟨_, rfl⟩
  rw [← hAe] at hD1
  have hD : ∀ g, va_D A (wl 52 ad g) := fun _ => wl_D hD1
  have hA : ∀ q : Nat, s.heap.size ≤ q → A q := fun q h => by rw [hAe]; exact Or.inr h
  have hS : va_S A s.heap s.heap [] := va_S.rf
  have hl := lv_entry ([.ref (ad 3)]) (n := 2) (Nat.le_of_ble_eq_true rfl)
  rw [lg_entry_eq]
  generalize (lg_sl ([.ref (ad 3)]) ++ List.replicate (2 - (lg_sl ([.ref (ad 3)])).length) Slot.unset).toArray = ls at hl ⊢
  have hl : lv_has ls 2 [(0, .ref (ad 3))] := hl
  have L_9 : ∀ (n : Nat) (z : gS) (x1 : Int32) (ee : Nat) (y1 : Int32) (z9 : gS), l_E_findWeakUnknown_9 n z x1 = some (ee, y1, z9) → ∀ (H : Heap) (locs : List Loc) (ls : Array Slot), va_P D cl_all (wl 52 ad (g1 cy ad z)) H → va_S A s.heap H locs → lv_has ls 2 [(0, .ref (ad 3)), (1, .int x1)] →
      (ee = 0 → ∀ (H : Heap) (locs : List Loc) (ls : Array Slot), va_P D cl_all (wl 52 ad (g1 cy ad z9)) H → va_S A s.heap H locs → lv_has ls 2 [(1, .int y1)] → W p l e (headSpec (Cond.code y_E_findWeakUnknown c_E_findWeakUnknown 2 (some .int) :: gt_ws) ({ frames := 4, cells := 0, slots := 0, locals := 180 })).room s m ([.ref (ad 3)]).toArray below meth c H locs 0 0 (MQ below (sQi D cl_all 52 ad (g1 cy ad z0) s.heap.size r (g1 cy ad zz)) ([.ref (ad 3)]).toArray s 0 0 (va_A (wl 52 ad (g1 cy ad z0)) s.heap.size)) (F0 m 35 ls [])) →
      (ee = 1 → ∀ (H : Heap) (locs : List Loc) (ls : Array Slot), va_P D cl_all (wl 52 ad (g1 cy ad z9)) H → va_S A s.heap H locs → lv_has ls 2 [] → W p l e (headSpec (Cond.code y_E_findWeakUnknown c_E_findWeakUnknown 2 (some .int) :: gt_ws) ({ frames := 4, cells := 0, slots := 0, locals := 180 })).room s m ([.ref (ad 3)]).toArray below meth c H locs 0 0 (MQ below (sQi D cl_all 52 ad (g1 cy ad z0) s.heap.size r (g1 cy ad zz)) ([.ref (ad 3)]).toArray s 0 0 (va_A (wl 52 ad (g1 cy ad z0)) s.heap.size)) (F0 m 43 ls [])) →
      W p l e (headSpec (Cond.code y_E_findWeakUnknown c_E_findWeakUnknown 2 (some .int) :: gt_ws) ({ frames := 4, cells := 0, slots := 0, locals := 180 })).room s m ([.ref (ad 3)]).toArray below meth c H locs 0 0 (MQ below (sQi D cl_all 52 ad (g1 cy ad z0) s.heap.size r (g1 cy ad zz)) ([.ref (ad 3)]).toArray s 0 0 (va_A (wl 52 ad (g1 cy ad z0)) s.heap.size)) (F0 m 9 ls []) := by
    intro n
    induction n with
    | zero => intro z x1 ee y1 z9 hf; rw [l_E_findWeakUnknown_9] at hf; cases hf
    | succ n ih =>
      intro z x1 ee y1 z9 hf H locs ls hP hS hl k_0 k_1
      rw [l_E_findWeakUnknown_9] at hf
      refine lv_iload_n hx hb d_E_findWeakUnknown_9 rfl (lv_at hl 1 rfl) ?_
      refine lv_aload_n hx hb d_E_findWeakUnknown_10 rfl (lv_at hl 0 rfl) ?_
      refine wx_get (v := .int (z.1 6)) (C := RQ_E) (T := FQ_E) (N := 7) hx hb ht IQ_E hown hK hP 3 (by decide) (e_g1_3 cy ad _) rfl 2 (by decide) (ht _ kw_170) (fun _ h9 => h9) rfl d_E_findWeakUnknown_11 ?_
      refine lv_icmp_ge (tgt := 43) hx hb d_E_findWeakUnknown_14 (by decide) (fun c1 => ?_) (fun c1 => ?_)
      ·
        have hf := op_pos hf c1
        cases hf
        exact k_1 rfl _ _ _ hP hS (lv_sub hl [] rfl)
      ·
        have hf := op_neg hf c1
        refine lv_aload_n hx hb d_E_findWeakUnknown_17 rfl (lv_at hl 0 rfl) ?_
        refine lv_iload_n hx hb d_E_findWeakUnknown_18 rfl (lv_at hl 1 rfl) ?_
        obtain ⟨w3, hc2, hf⟩ := op_b1 hf
        refine wx_fv (wx_rV (As := [.int x1]) (rest := []) ⟨hx, hb, hml, hown, ht⟩ (m_E_growPolynomial l D cy ad _ z x1 _ hc2) ⟨callB_of 1 ht (gt_in (fun _ h9 => h9) kw_397) rfl rfl rfl (ht _ kw_50) (ht _ kw_394) q_E_growPolynomial ⟨Nat.le_of_ble_eq_true rfl, Nat.le_of_ble_eq_true rfl⟩, ht _ kw_396, ht _ kw_13⟩ nwC_ok hN hK hP (hD _) (by decide) (e_g1_3 cy ad _) rfl rfl hl.1 rfl (Nat.le_of_ble_eq_true rfl) d_E_findWeakUnknown_19 ⟨Nat.zero_le _, Nat.zero_le _⟩) (hD _) hS hA (fun H locs hP hS => ?_)
        refine lv_aload_n hx hb d_E_findWeakUnknown_22 rfl (lv_at hl 0 rfl) ?_
        refine wx_get (v := .ref (ad 20)) (C := RQ_E) (T := FQ_E) (N := 7) hx hb ht IQ_E hown hK hP 3 (by decide) (e_g1_3 cy ad _) rfl 3 (by decide) (ht _ kw_171) (fun _ h9 => h9) rfl d_E_findWeakUnknown_23 ?_
        refine lv_iload_n hx hb d_E_findWeakUnknown_26 rfl (lv_at hl 1 rfl) ?_
        refine lv_iconst (v := 1) hx hb d_E_findWeakUnknown_27 (by decide) ?_
        refine lv_iadd hx hb d_E_findWeakUnknown_28 ?_
        obtain ⟨h4, hf⟩ := op_chk hf
        refine wx_lald hx hb hK hP 20 (by decide) (by decide) 11 rfl h4 d_E_findWeakUnknown_29 ?_
        refine lv_lconst (v := 0) hx hb d_E_findWeakUnknown_30 (by decide) ?_
        refine W.lcmp hx hb d_E_findWeakUnknown_31 ?_
        refine lv_if_ne (tgt := 37) hx hb d_E_findWeakUnknown_32 (by decide) (fun c5 => ?_) (fun c5 => ?_)
        ·
          have hf := op_neg hf c5
          refine lv_iinc (v := x1 + (1 : Int32)) (lv' := [(1, .int (x1 + (1 : Int32))), (0, .ref (ad 3))]) hx hb d_E_findWeakUnknown_37 hl (k := 1) rfl rfl (by decide) rfl (fun ls hl => ?_)
          refine lv_goto (tgt := 9) hx hb d_E_findWeakUnknown_40 (by decide) ?_
          exact ih _ _ _ _ _ hf _ _ _ hP hS (lv_sub hl [1, 0] rfl) k_0 k_1
        ·
          have hf := op_pos hf c5
          cases hf
          exact k_0 rfl _ _ _ hP hS (lv_sub hl [1] rfl)
  unfold f_E_findWeakUnknown at hf
  refine lv_aload_n hx hb d_E_findWeakUnknown_0 rfl (lv_at hl 0 rfl) ?_
  refine wx_get (v := .ref (ad 20)) (C := RQ_E) (T := FQ_E) (N := 7) hx hb ht IQ_E hown hK hP 3 (by decide) (e_g1_3 cy ad _) rfl 3 (by decide) (ht _ kw_171) (fun _ h9 => h9) rfl d_E_findWeakUnknown_1 ?_
  refine lv_iconst (v := 0) hx hb d_E_findWeakUnknown_4 (by decide) ?_
  refine lv_lconst (v := 1) hx hb d_E_findWeakUnknown_5 (by decide) ?_
  obtain ⟨h6, hf⟩ := op_chk hf
  refine wx_last hx hb hK hP (hD _) hS 20 (by decide) (by decide) 11 rfl h6 d_E_findWeakUnknown_6 (fun H locs hP hS => ?_)
  obtain ⟨w7, h8, hf⟩ := op_let hf
  rw [h8] at hP
  refine lv_iconst (v := 0) hx hb d_E_findWeakUnknown_7 (by decide) ?_
  refine lv_istore_n (lv' := [(1, .int (0 : Int32)), (0, .ref (ad 3))]) hx hb d_E_findWeakUnknown_8 rfl hl (by decide) rfl (fun ls hl => ?_)
  obtain ⟨e9, v10, w11, hc12, hf⟩ := op_b3 hf
  refine L_9 _ _ _ _ _ _ hc12 _ _ _ hP hS (lv_sub hl [1, 0] rfl) (fun he_e9 H locs ls hP hS hl => ?_) (fun he_e9 H locs ls hP hS hl => ?_)
  ·
    have hf := op_pos hf he_e9
    refine lv_iload_n hx hb d_E_findWeakUnknown_35 rfl (lv_at hl 0 rfl) ?_
    obtain ⟨hv9, rfl⟩ := op_inj hf
    exact wx_iret hx hb hr hlocks hAe hP hS hv9 d_E_findWeakUnknown_36
  ·
    have hf := op_neg hf (by omega)
    refine lv_iconst (v := -1) hx hb d_E_findWeakUnknown_43 (by decide) ?_
    obtain ⟨hv9, rfl⟩ := op_inj hf
    exact wx_iret hx hb hr hlocks hAe hP hS hv9 d_E_findWeakUnknown_44

def f_S_solve (z0 : gS) : Option (Int32 × gS) :=
 if (z0.1 0) = 0 then (bd2 (f_T_nodeCount z0) (fun r4 w3 =>
 if r4 = 0 then (some ((-100 : Int32), w3))
 else (bd2 (f_T_firstBadBar w3) (fun r8 w7 =>
 if r8 < 0 then (bd1 (f_N_make_1 w7) (fun w11 =>
 bd1 (f_E_make_1_2 w11) (fun w13 =>
 bd2 (f_E_findWeakUnknown w13) (fun r16 w15 =>
 if r16 < 0 then ((some (s_i w15 0 (1 : Int32))).bind (fun w18 =>
 some ((w18.1 5), w18)))
 else (some (((-300 : Int32) - r16), w15))))))
 else (some (((-200 : Int32) - r8), w7))))))
 else (some ((-4 : Int32), z0))
set_option maxHeartbeats 4000000 in
set_option maxRecDepth 100000 in
theorem m_S_solve (l : Launch) (D : va_G) (cy : Nat → ClassId) (ad : Nat → Nat) (sz : Nat) (z0 : gS) (r : Int32) (zz : gS) (hf : f_S_solve z0 = some (r, zz)) : Met l y_S_solve (Cond.code y_S_solve c_S_solve 3 (some .int) :: gt_ws) ({ frames := 6, cells := 0, slots := 0, locals := 270 }) (sPc D cl_all (gTy cy) nwC 52 ad (g1 cy ad z0) sz [.ref (ad 0)]) (sQi D cl_all 52 ad (g1 cy ad z0) sz r (g1 cy ad zz)) 0 0 (va_A (wl 52 ad (g1 cy ad z0)) sz) := by
  refine Met.ofW (cc := c_S_solve) (maxL := 3) (ret := (some .int)) (by decide) rfl ?_
  intro p e s m args below meth c s₁ B hml hv
  obtain ⟨rfl, hsz, hP, hK, hN, hD0⟩ := hv
  have hx := B.exec
  have hb := B.bytes
  have hr := B.returns
  have hts := atoms_spec (ws := (Cond.code y_S_solve c_S_solve 3 (some .int) :: gt_ws)) B.pre
  have ht : ∀ w ∈ gt_ws, w.before _ s = true := fun w h => hts w (List.mem_cons_of_mem _ h)
  have hown : s.vm.findClass RQ_S = some m.cls := findClass_of_methodNamed B.named
  have hlocks := B.notSynchronized
  subst hsz
  have hD1 := hD0.self (sz := s.heap.size)
  obtain ⟨A, hAe⟩ : ∃ A, A = va_A (wl 52 ad (g1 cy ad z0)) s.heap.size := ⟨_, rfl⟩
  rw [← hAe] at hD1
  have hD : ∀ g, va_D A (wl 52 ad g) := fun _ => wl_D hD1
  have hA : ∀ q : Nat, s.heap.size ≤ q → A q := fun q h => by rw [hAe]; exact Or.inr h
  have hS : va_S A s.heap s.heap [] := va_S.rf
  have hl := lv_entry ([.ref (ad 0)]) (n := 3) (Nat.le_of_ble_eq_true rfl)
  rw [lg_entry_eq]
  generalize (lg_sl ([.ref (ad 0)]) ++ List.replicate (3 - (lg_sl ([.ref (ad 0)])).length) Slot.unset).toArray = ls at hl ⊢
  have hl : lv_has ls 3 [(0, .ref (ad 0))] := hl
  unfold f_S_solve at hf
  refine lv_aload_n hx hb d_S_solve_0 rfl (lv_at hl 0 rfl) ?_
  refine wx_get (v := .int (z0.1 0)) (C := RQ_S) (T := FQ_S) (N := 5) hx hb ht IQ_S hown hK hP 0 (by decide) (e_g1_0 cy ad _) rfl 4 (by decide) (ht _ kw_221) (fun _ h9 => h9) rfl d_S_solve_1 ?_
  refine lv_if_eq (tgt := 10) hx hb d_S_solve_4 (by decide) (fun c1 => ?_) (fun c1 => ?_)
  ·
    have hf := op_pos hf c1
    refine lv_aload_n hx hb d_S_solve_10 rfl (lv_at hl 0 rfl) ?_
    refine wx_get (v := .ref (ad 1)) (C := RQ_S) (T := FQ_S) (N := 5) hx hb ht IQ_S hown hK hP 0 (by decide) (e_g1_0 cy ad _) rfl 0 (by decide) (ht _ kw_217) (fun _ h9 => h9) rfl d_S_solve_11 ?_
    obtain ⟨r4, w3, hc2, hf⟩ := op_b2 hf
    refine wx_fi (wx_rV (As := []) (rest := []) ⟨hx, hb, hml, hown, ht⟩ (m_T_nodeCount l D cy ad _ z0 _ _ hc2) ⟨callB_of 0 ht (gt_in (fun _ h9 => h9) kw_304) rfl rfl rfl (ht _ kw_48) (ht _ kw_301) q_T_nodeCount ⟨Nat.le_of_ble_eq_true rfl, Nat.le_of_ble_eq_true rfl⟩, ht _ kw_302, ht _ kw_303⟩ nwC_ok hN hK hP (hD _) (by decide) (e_g1_1 cy ad _) rfl rfl hl.1 rfl (Nat.le_of_ble_eq_true rfl) d_S_solve_14 ⟨Nat.zero_le _, Nat.zero_le _⟩) (hD _) hS hA (fun H locs hP hS => ?_)
    refine lv_if_ne (tgt := 23) hx hb d_S_solve_17 (by decide) (fun c5 => ?_) (fun c5 => ?_)
    ·
      have hf := op_neg hf c5
      refine lv_aload_n hx hb d_S_solve_23 rfl (lv_at hl 0 rfl) ?_
      refine wx_get (v := .ref (ad 1)) (C := RQ_S) (T := FQ_S) (N := 5) hx hb ht IQ_S hown hK hP 0 (by decide) (e_g1_0 cy ad _) rfl 0 (by decide) (ht _ kw_217) (fun _ h9 => h9) rfl d_S_solve_24 ?_
      obtain ⟨r8, w7, hc6, hf⟩ := op_b2 hf
      refine wx_fi (wx_rV (As := []) (rest := []) ⟨hx, hb, hml, hown, ht⟩ (m_T_firstBadBar l D cy ad _ w3 _ _ hc6) ⟨callB_of 0 ht (gt_in (fun _ h9 => h9) kw_314) rfl rfl rfl (ht _ kw_48) (ht _ kw_311) q_T_firstBadBar ⟨Nat.le_of_ble_eq_true rfl, Nat.le_of_ble_eq_true rfl⟩, ht _ kw_312, ht _ kw_313⟩ nwC_ok hN hK hP (hD _) (by decide) (e_g1_1 cy ad _) rfl rfl hl.1 rfl (Nat.le_of_ble_eq_true rfl) d_S_solve_27 ⟨Nat.zero_le _, Nat.zero_le _⟩) (hD _) hS hA (fun H locs hP hS => ?_)
      refine lv_istore_n (lv' := [(1, .int r8), (0, .ref (ad 0))]) hx hb d_S_solve_30 rfl hl (by decide) rfl (fun ls hl => ?_)
      refine lv_iload_n hx hb d_S_solve_31 rfl (lv_at hl 0 rfl) ?_
      refine lv_if_lt (tgt := 41) hx hb d_S_solve_32 (by decide) (fun c9 => ?_) (fun c9 => ?_)
      ·
        have hf := op_pos hf c9
        refine lv_aload_n hx hb d_S_solve_41 rfl (lv_at hl 1 rfl) ?_
        refine wx_get (v := .ref (ad 2)) (C := RQ_S) (T := FQ_S) (N := 5) hx hb ht IQ_S hown hK hP 0 (by decide) (e_g1_0 cy ad _) rfl 1 (by decide) (ht _ kw_218) (fun _ h9 => h9) rfl d_S_solve_42 ?_
        refine lv_aload_n hx hb d_S_solve_45 rfl (lv_at hl 1 rfl) ?_
        refine wx_get (v := .ref (ad 1)) (C := RQ_S) (T := FQ_S) (N := 5) hx hb ht IQ_S hown hK hP 0 (by decide) (e_g1_0 cy ad _) rfl 0 (by decide) (ht _ kw_217) (fun _ h9 => h9) rfl d_S_solve_46 ?_
        obtain ⟨w11, hc10, hf⟩ := op_b1 hf
        refine wx_fv (wx_rV (As := [.ref (ad 1)]) (rest := []) ⟨hx, hb, hml, hown, ht⟩ (m_N_make_1 l D cy ad _ w7 _ hc10) ⟨callB_of 1 ht (gt_in (fun _ h9 => h9) kw_329) rfl rfl rfl (ht _ kw_49) (ht _ kw_326) q_N_make ⟨Nat.le_of_ble_eq_true rfl, Nat.le_of_ble_eq_true rfl⟩, ht _ kw_327, ht _ kw_328⟩ nwC_ok hN hK hP (hD _) (by decide) (e_g1_2 cy ad _) rfl rfl hl.1 rfl (Nat.le_of_ble_eq_true rfl) d_S_solve_49 ⟨Nat.zero_le _, Nat.zero_le _⟩) (hD _) hS hA (fun H locs hP hS => ?_)
        refine lv_aload_n hx hb d_S_solve_52 rfl (lv_at hl 1 rfl) ?_
        refine wx_get (v := .ref (ad 3)) (C := RQ_S) (T := FQ_S) (N := 5) hx hb ht IQ_S hown hK hP 0 (by decide) (e_g1_0 cy ad _) rfl 2 (by decide) (ht _ kw_219) (fun _ h9 => h9) rfl d_S_solve_53 ?_
        refine lv_aload_n hx hb d_S_solve_56 rfl (lv_at hl 1 rfl) ?_
        refine wx_get (v := .ref (ad 1)) (C := RQ_S) (T := FQ_S) (N := 5) hx hb ht IQ_S hown hK hP 0 (by decide) (e_g1_0 cy ad _) rfl 0 (by decide) (ht _ kw_217) (fun _ h9 => h9) rfl d_S_solve_57 ?_
        refine lv_aload_n hx hb d_S_solve_60 rfl (lv_at hl 1 rfl) ?_
        refine wx_get (v := .ref (ad 2)) (C := RQ_S) (T := FQ_S) (N := 5) hx hb ht IQ_S hown hK hP 0 (by decide) (e_g1_0 cy ad _) rfl 1 (by decide) (ht _ kw_218) (fun _ h9 => h9) rfl d_S_solve_61 ?_
        obtain ⟨w13, hc12, hf⟩ := op_b1 hf
        refine wx_fv (wx_rV (As := [.ref (ad 1), .ref (ad 2)]) (rest := []) ⟨hx, hb, hml, hown, ht⟩ (m_E_make_1_2 l D cy ad _ w11 _ hc12) ⟨callB_of 2 ht (gt_in (fun _ h9 => h9) kw_371) rfl rfl rfl (ht _ kw_50) (ht _ kw_368) q_E_make ⟨Nat.le_of_ble_eq_true rfl, Nat.le_of_ble_eq_true rfl⟩, ht _ kw_369, ht _ kw_370⟩ nwC_ok hN hK hP (hD _) (by decide) (e_g1_3 cy ad _) rfl rfl hl.1 rfl (Nat.le_of_ble_eq_true rfl) d_S_solve_64 ⟨Nat.zero_le _, Nat.zero_le _⟩) (hD _) hS hA (fun H locs hP hS => ?_)
        refine lv_aload_n hx hb d_S_solve_67 rfl (lv_at hl 1 rfl) ?_
        refine wx_get (v := .ref (ad 3)) (C := RQ_S) (T := FQ_S) (N := 5) hx hb ht IQ_S hown hK hP 0 (by decide) (e_g1_0 cy ad _) rfl 2 (by decide) (ht _ kw_219) (fun _ h9 => h9) rfl d_S_solve_68 ?_
        obtain ⟨r16, w15, hc14, hf⟩ := op_b2 hf
        refine wx_fi (wx_rV (As := []) (rest := []) ⟨hx, hb, hml, hown, ht⟩ (m_E_findWeakUnknown l D cy ad _ w13 _ _ hc14) ⟨callB_of 0 ht (gt_in (fun _ h9 => h9) kw_393) rfl rfl rfl (ht _ kw_50) (ht _ kw_390) q_E_findWeakUnknown ⟨Nat.le_of_ble_eq_true rfl, Nat.le_of_ble_eq_true rfl⟩, ht _ kw_391, ht _ kw_392⟩ nwC_ok hN hK hP (hD _) (by decide) (e_g1_3 cy ad _) rfl rfl hl.1 rfl (Nat.le_of_ble_eq_true rfl) d_S_solve_71 ⟨Nat.zero_le _, Nat.zero_le _⟩) (hD _) hS hA (fun H locs hP hS => ?_)
        refine lv_istore_n (lv' := [(2, .int r16), (1, .int r8), (0, .ref (ad 0))]) hx hb d_S_solve_74 rfl hl (by decide) rfl (fun ls hl => ?_)
        refine lv_iload_n hx hb d_S_solve_75 rfl (lv_at hl 0 rfl) ?_
        refine lv_if_lt (tgt := 85) hx hb d_S_solve_76 (by decide) (fun c17 => ?_) (fun c17 => ?_)
        ·
          have hf := op_pos hf c17
          refine lv_aload_n hx hb d_S_solve_85 rfl (lv_at hl 2 rfl) ?_
          refine lv_iconst (v := 1) hx hb d_S_solve_86 (by decide) ?_
          refine wx_put (v := .int (1 : Int32)) (ty := .boolean) (C := RQ_S) (T := FQ_S) (N := 5) hx hb ht IQ_S TQ_S TQ_S_ok NQ_S hown hK hP (hD _) hS 0 (by decide) (e_g1_0 cy ad _) rfl 4 (by decide) (ht _ kw_221) (fun _ h9 => h9) rfl (by decide +kernel) (by decide) (by decide) (Nat.le_of_ble_eq_true rfl) d_S_solve_87 (up_S_isSealed cy ad _ (1 : Int32)) (fun H locs hP hS => ?_)
          obtain ⟨w18, h19, hf⟩ := op_let hf
          rw [h19] at hP
          refine lv_aload_n hx hb d_S_solve_90 rfl (lv_at hl 2 rfl) ?_
          refine wx_get (v := .ref (ad 2)) (C := RQ_S) (T := FQ_S) (N := 5) hx hb ht IQ_S hown hK hP 0 (by decide) (e_g1_0 cy ad _) rfl 1 (by decide) (ht _ kw_218) (fun _ h9 => h9) rfl d_S_solve_91 ?_
          refine wx_get (v := .int (w18.1 5)) (C := RQ_N) (T := FQ_N) (N := 7) hx hb ht IQ_N hown hK hP 2 (by decide) (e_g1_2 cy ad _) rfl 6 (by decide) (ht _ kw_143) (fun _ h9 => h9) rfl d_S_solve_94 ?_
          obtain ⟨hv9, rfl⟩ := op_inj hf
          exact wx_iret hx hb hr hlocks hAe hP hS hv9 d_S_solve_97
        ·
          have hf := op_neg hf c17
          refine lv_sipush (v := -300) hx hb d_S_solve_79 (by decide) ?_
          refine lv_iload_n hx hb d_S_solve_82 rfl (lv_at hl 0 rfl) ?_
          refine lv_isub hx hb d_S_solve_83 ?_
          obtain ⟨hv9, rfl⟩ := op_inj hf
          exact wx_iret hx hb hr hlocks hAe hP hS hv9 d_S_solve_84
      ·
        have hf := op_neg hf c9
        refine lv_sipush (v := -200) hx hb d_S_solve_35 (by decide) ?_
        refine lv_iload_n hx hb d_S_solve_38 rfl (lv_at hl 0 rfl) ?_
        refine lv_isub hx hb d_S_solve_39 ?_
        obtain ⟨hv9, rfl⟩ := op_inj hf
        exact wx_iret hx hb hr hlocks hAe hP hS hv9 d_S_solve_40
    ·
      have hf := op_pos hf c5
      refine lv_bipush (v := -100) hx hb d_S_solve_20 (by decide) ?_
      obtain ⟨hv9, rfl⟩ := op_inj hf
      exact wx_iret hx hb hr hlocks hAe hP hS hv9 d_S_solve_22
  ·
    have hf := op_neg hf c1
    refine lv_bipush (v := -4) hx hb d_S_solve_7 (by decide) ?_
    obtain ⟨hv9, rfl⟩ := op_inj hf
    exact wx_iret hx hb hr hlocks hAe hP hS hv9 d_S_solve_9

def f_S_open (z0 : gS) : Option (Int32 × gS) :=
 if (z0.1 0) = 0 then (some ((-1 : Int32), z0))
 else ((some (s_i z0 0 (0 : Int32))).bind (fun w2 =>
 some ((0 : Int32), w2)))
set_option maxHeartbeats 4000000 in
set_option maxRecDepth 100000 in
theorem m_S_open (l : Launch) (D : va_G) (cy : Nat → ClassId) (ad : Nat → Nat) (sz : Nat) (z0 : gS) (r : Int32) (zz : gS) (hf : f_S_open z0 = some (r, zz)) : Met l y_S_open (Cond.code y_S_open c_S_open 1 (some .int) :: gt_ws) ({ frames := 0, cells := 0, slots := 0, locals := 0 }) (sPc D cl_all (gTy cy) nwC 52 ad (g1 cy ad z0) sz [.ref (ad 0)]) (sQi D cl_all 52 ad (g1 cy ad z0) sz r (g1 cy ad zz)) 0 0 (va_A (wl 52 ad (g1 cy ad z0)) sz) := by
  refine Met.ofW (cc := c_S_open) (maxL := 1) (ret := (some .int)) (by decide) rfl ?_
  intro p e s m args below meth c s₁ B hml hv
  obtain ⟨rfl, hsz, hP, hK, hN, hD0⟩ := hv
  have hx := B.exec
  have hb := B.bytes
  have hr := B.returns
  have hts := atoms_spec (ws := (Cond.code y_S_open c_S_open 1 (some .int) :: gt_ws)) B.pre
  have ht : ∀ w ∈ gt_ws, w.before _ s = true := fun w h => hts w (List.mem_cons_of_mem _ h)
  have hown : s.vm.findClass RQ_S = some m.cls := findClass_of_methodNamed B.named
  have hlocks := B.notSynchronized
  subst hsz
  have hD1 := hD0.self (sz := s.heap.size)
  obtain ⟨A, hAe⟩ : ∃ A, A = va_A (wl 52 ad (g1 cy ad z0)) s.heap.size := ⟨_, rfl⟩
  rw [← hAe] at hD1
  have hD : ∀ g, va_D A (wl 52 ad g) := fun _ => wl_D hD1
  have hA : ∀ q : Nat, s.heap.size ≤ q → A q := fun q h => by rw [hAe]; exact Or.inr h
  have hS : va_S A s.heap s.heap [] := va_S.rf
  have hl := lv_entry ([.ref (ad 0)]) (n := 1) (Nat.le_of_ble_eq_true rfl)
  rw [lg_entry_eq]
  generalize (lg_sl ([.ref (ad 0)]) ++ List.replicate (1 - (lg_sl ([.ref (ad 0)])).length) Slot.unset).toArray = ls at hl ⊢
  have hl : lv_has ls 1 [(0, .ref (ad 0))] := hl
  unfold f_S_open at hf
  refine lv_aload_n hx hb d_S_open_0 rfl (lv_at hl 0 rfl) ?_
  refine wx_get (v := .int (z0.1 0)) (C := RQ_S) (T := FQ_S) (N := 5) hx hb ht IQ_S hown hK hP 0 (by decide) (e_g1_0 cy ad _) rfl 4 (by decide) (ht _ kw_221) (fun _ h9 => h9) rfl d_S_open_1 ?_
  refine lv_if_ne (tgt := 9) hx hb d_S_open_4 (by decide) (fun c1 => ?_) (fun c1 => ?_)
  ·
    have hf := op_neg hf c1
    refine lv_aload_n hx hb d_S_open_9 rfl (lv_at hl 0 rfl) ?_
    refine lv_iconst (v := 0) hx hb d_S_open_10 (by decide) ?_
    refine wx_put (v := .int (0 : Int32)) (ty := .boolean) (C := RQ_S) (T := FQ_S) (N := 5) hx hb ht IQ_S TQ_S TQ_S_ok NQ_S hown hK hP (hD _) hS 0 (by decide) (e_g1_0 cy ad _) rfl 4 (by decide) (ht _ kw_221) (fun _ h9 => h9) rfl (by decide +kernel) (by decide) (by decide) (Nat.le_of_ble_eq_true rfl) d_S_open_11 (up_S_isSealed cy ad _ (0 : Int32)) (fun H locs hP hS => ?_)
    obtain ⟨w2, h3, hf⟩ := op_let hf
    rw [h3] at hP
    refine lv_iconst (v := 0) hx hb d_S_open_14 (by decide) ?_
    obtain ⟨hv9, rfl⟩ := op_inj hf
    exact wx_iret hx hb hr hlocks hAe hP hS hv9 d_S_open_15
  ·
    have hf := op_pos hf c1
    refine lv_iconst (v := -1) hx hb d_S_open_7 (by decide) ?_
    obtain ⟨hv9, rfl⟩ := op_inj hf
    exact wx_iret hx hb hr hlocks hAe hP hS hv9 d_S_open_8

def f_S_isNodeThere (z0 : gS) (p1 : Int32) : Option (Int32 × gS) :=
 bd2 (f_S_isNode z0 p1) (fun r3 w2 =>
 if r3 = 0 then (some ((0 : Int32), w2))
 else (bd2 (f_T_isThere w2 p1) (fun r7 w6 =>
 if r7 = 0 then (some ((0 : Int32), w6))
 else (some ((1 : Int32), w6)))))
set_option maxHeartbeats 4000000 in
set_option maxRecDepth 100000 in
theorem m_S_isNodeThere (l : Launch) (D : va_G) (cy : Nat → ClassId) (ad : Nat → Nat) (sz : Nat) (z0 : gS) (p1 : Int32) (r : Int32) (zz : gS) (hf : f_S_isNodeThere z0 p1 = some (r, zz)) : Met l y_S_isNodeThere (Cond.code y_S_isNodeThere c_S_isNodeThere 2 (some .boolean) :: gt_ws) ({ frames := 1, cells := 0, slots := 0, locals := 45 }) (sPc D cl_all (gTy cy) nwC 52 ad (g1 cy ad z0) sz [.ref (ad 0), .int p1]) (sQi D cl_all 52 ad (g1 cy ad z0) sz r (g1 cy ad zz)) 0 0 (va_A (wl 52 ad (g1 cy ad z0)) sz) := by
  refine Met.ofW (cc := c_S_isNodeThere) (maxL := 2) (ret := (some .boolean)) (by decide) rfl ?_
  intro p e s m args below meth c s₁ B hml hv
  obtain ⟨rfl, hsz, hP, hK, hN, hD0⟩ := hv
  have hx := B.exec
  have hb := B.bytes
  have hr := B.returns
  have hts := atoms_spec (ws := (Cond.code y_S_isNodeThere c_S_isNodeThere 2 (some .boolean) :: gt_ws)) B.pre
  have ht : ∀ w ∈ gt_ws, w.before _ s = true := fun w h => hts w (List.mem_cons_of_mem _ h)
  have hown : s.vm.findClass RQ_S = some m.cls := findClass_of_methodNamed B.named
  have hlocks := B.notSynchronized
  subst hsz
  have hD1 := hD0.self (sz := s.heap.size)
  obtain ⟨A, hAe⟩ : ∃ A, A = va_A (wl 52 ad (g1 cy ad z0)) s.heap.size := ⟨_, rfl⟩
  rw [← hAe] at hD1
  have hD : ∀ g, va_D A (wl 52 ad g) := fun _ => wl_D hD1
  have hA : ∀ q : Nat, s.heap.size ≤ q → A q := fun q h => by rw [hAe]; exact Or.inr h
  have hS : va_S A s.heap s.heap [] := va_S.rf
  have hl := lv_entry ([.ref (ad 0), .int p1]) (n := 2) (Nat.le_of_ble_eq_true rfl)
  rw [lg_entry_eq]
  generalize (lg_sl ([.ref (ad 0), .int p1]) ++ List.replicate (2 - (lg_sl ([.ref (ad 0), .int p1])).length) Slot.unset).toArray = ls at hl ⊢
  have hl : lv_has ls 2 [(0, .ref (ad 0)), (1, .int p1)] := hl
  unfold f_S_isNodeThere at hf
  refine lv_iload_n hx hb d_S_isNodeThere_0 rfl (lv_at hl 1 rfl) ?_
  obtain ⟨r3, w2, hc1, hf⟩ := op_b2 hf
  refine wx_fi (wx_rS (As := [.int p1]) (rest := []) ⟨hx, hb, hml, hown, ht⟩ (m_S_isNode l D cy ad _ z0 p1 _ _ hc1) ⟨callB_of 1 ht (gt_in (fun _ h9 => h9) kw_239) rfl rfl rfl (ht _ kw_47) (ht _ kw_237) q_S_isNode ⟨Nat.le_of_ble_eq_true rfl, Nat.le_of_ble_eq_true rfl⟩, ht _ kw_238⟩ nwC_ok hN hK hP (hD _) rfl hl.1 rfl (Nat.le_of_ble_eq_true rfl) d_S_isNodeThere_1 ⟨Nat.zero_le _, Nat.zero_le _⟩) (hD _) hS hA (fun H locs hP hS => ?_)
  refine lv_if_eq (tgt := 22) hx hb d_S_isNodeThere_4 (by decide) (fun c4 => ?_) (fun c4 => ?_)
  ·
    have hf := op_pos hf c4
    refine lv_iconst (v := 0) hx hb d_S_isNodeThere_22 (by decide) ?_
    obtain ⟨hv9, rfl⟩ := op_inj hf
    exact wx_zret hx hb hr hlocks (by first | decide | rfl) hAe hP hS hv9 d_S_isNodeThere_23
  ·
    have hf := op_neg hf c4
    refine lv_aload_n hx hb d_S_isNodeThere_7 rfl (lv_at hl 0 rfl) ?_
    refine wx_get (v := .ref (ad 1)) (C := RQ_S) (T := FQ_S) (N := 5) hx hb ht IQ_S hown hK hP 0 (by decide) (e_g1_0 cy ad _) rfl 0 (by decide) (ht _ kw_217) (fun _ h9 => h9) rfl d_S_isNodeThere_8 ?_
    refine lv_iload_n hx hb d_S_isNodeThere_11 rfl (lv_at hl 1 rfl) ?_
    obtain ⟨r7, w6, hc5, hf⟩ := op_b2 hf
    refine wx_fi (wx_rV (As := [.int p1]) (rest := []) ⟨hx, hb, hml, hown, ht⟩ (m_T_isThere l D cy ad _ w2 p1 _ _ hc5) ⟨callB_of 1 ht (gt_in (fun _ h9 => h9) kw_250) rfl rfl rfl (ht _ kw_48) (ht _ kw_429) q_T_isThere ⟨Nat.le_of_ble_eq_true rfl, Nat.le_of_ble_eq_true rfl⟩, ht _ kw_248, ht _ kw_249⟩ nwC_ok hN hK hP (hD _) (by decide) (e_g1_1 cy ad _) rfl rfl hl.1 rfl (Nat.le_of_ble_eq_true rfl) d_S_isNodeThere_12 ⟨Nat.zero_le _, Nat.zero_le _⟩) (hD _) hS hA (fun H locs hP hS => ?_)
    refine lv_if_eq (tgt := 22) hx hb d_S_isNodeThere_15 (by decide) (fun c8 => ?_) (fun c8 => ?_)
    ·
      have hf := op_pos hf c8
      refine lv_iconst (v := 0) hx hb d_S_isNodeThere_22 (by decide) ?_
      obtain ⟨hv9, rfl⟩ := op_inj hf
      exact wx_zret hx hb hr hlocks (by first | decide | rfl) hAe hP hS hv9 d_S_isNodeThere_23
    ·
      have hf := op_neg hf c8
      refine lv_iconst (v := 1) hx hb d_S_isNodeThere_18 (by decide) ?_
      refine lv_goto (tgt := 23) hx hb d_S_isNodeThere_19 (by decide) ?_
      obtain ⟨hv9, rfl⟩ := op_inj hf
      exact wx_zret hx hb hr hlocks (by first | decide | rfl) hAe hP hS hv9 d_S_isNodeThere_23

def f_S_isPart (z0 : gS) (p0 : Int32) : Option (Int32 × gS) :=
 if p0 = 0 then (some ((1 : Int32), z0))
 else (if p0 = (1 : Int32) then (some ((1 : Int32), z0))
 else (some ((0 : Int32), z0)))
set_option maxHeartbeats 4000000 in
set_option maxRecDepth 100000 in
theorem m_S_isPart (l : Launch) (D : va_G) (cy : Nat → ClassId) (ad : Nat → Nat) (sz : Nat) (z0 : gS) (p0 : Int32) (r : Int32) (zz : gS) (hf : f_S_isPart z0 p0 = some (r, zz)) : Met l y_S_isPart (Cond.code y_S_isPart c_S_isPart 1 (some .boolean) :: gt_ws) ({ frames := 0, cells := 0, slots := 0, locals := 0 }) (sPc D cl_all (gTy cy) nwC 52 ad (g1 cy ad z0) sz [.int p0]) (sQi D cl_all 52 ad (g1 cy ad z0) sz r (g1 cy ad zz)) 0 0 (va_A (wl 52 ad (g1 cy ad z0)) sz) := by
  refine Met.ofW (cc := c_S_isPart) (maxL := 1) (ret := (some .boolean)) (by decide) rfl ?_
  intro p e s m args below meth c s₁ B hml hv
  obtain ⟨rfl, hsz, hP, hK, hN, hD0⟩ := hv
  have hx := B.exec
  have hb := B.bytes
  have hr := B.returns
  have hts := atoms_spec (ws := (Cond.code y_S_isPart c_S_isPart 1 (some .boolean) :: gt_ws)) B.pre
  have ht : ∀ w ∈ gt_ws, w.before _ s = true := fun w h => hts w (List.mem_cons_of_mem _ h)
  have hown : s.vm.findClass RQ_S = some m.cls := findClass_of_methodNamed B.named
  have hlocks := B.notSynchronized
  subst hsz
  have hD1 := hD0.self (sz := s.heap.size)
  obtain ⟨A, hAe⟩ : ∃ A, A = va_A (wl 52 ad (g1 cy ad z0)) s.heap.size := ⟨_, rfl⟩
  rw [← hAe] at hD1
  have hD : ∀ g, va_D A (wl 52 ad g) := fun _ => wl_D hD1
  have hA : ∀ q : Nat, s.heap.size ≤ q → A q := fun q h => by rw [hAe]; exact Or.inr h
  have hS : va_S A s.heap s.heap [] := va_S.rf
  have hl := lv_entry ([.int p0]) (n := 1) (Nat.le_of_ble_eq_true rfl)
  rw [lg_entry_eq]
  generalize (lg_sl ([.int p0]) ++ List.replicate (1 - (lg_sl ([.int p0])).length) Slot.unset).toArray = ls at hl ⊢
  have hl : lv_has ls 1 [(0, .int p0)] := hl
  unfold f_S_isPart at hf
  refine lv_iload_n hx hb d_S_isPart_0 rfl (lv_at hl 0 rfl) ?_
  refine lv_if_eq (tgt := 9) hx hb d_S_isPart_1 (by decide) (fun c1 => ?_) (fun c1 => ?_)
  ·
    have hf := op_pos hf c1
    refine lv_iconst (v := 1) hx hb d_S_isPart_9 (by decide) ?_
    refine lv_goto (tgt := 14) hx hb d_S_isPart_10 (by decide) ?_
    obtain ⟨hv9, rfl⟩ := op_inj hf
    exact wx_zret hx hb hr hlocks (by first | decide | rfl) hAe hP hS hv9 d_S_isPart_14
  ·
    have hf := op_neg hf c1
    refine lv_iload_n hx hb d_S_isPart_4 rfl (lv_at hl 0 rfl) ?_
    refine lv_iconst (v := 1) hx hb d_S_isPart_5 (by decide) ?_
    refine lv_icmp_ne (tgt := 13) hx hb d_S_isPart_6 (by decide) (fun c2 => ?_) (fun c2 => ?_)
    ·
      have hf := op_neg hf c2
      refine lv_iconst (v := 0) hx hb d_S_isPart_13 (by decide) ?_
      obtain ⟨hv9, rfl⟩ := op_inj hf
      exact wx_zret hx hb hr hlocks (by first | decide | rfl) hAe hP hS hv9 d_S_isPart_14
    ·
      have hf := op_pos hf c2
      refine lv_iconst (v := 1) hx hb d_S_isPart_9 (by decide) ?_
      refine lv_goto (tgt := 14) hx hb d_S_isPart_10 (by decide) ?_
      obtain ⟨hv9, rfl⟩ := op_inj hf
      exact wx_zret hx hb hr hlocks (by first | decide | rfl) hAe hP hS hv9 d_S_isPart_14
