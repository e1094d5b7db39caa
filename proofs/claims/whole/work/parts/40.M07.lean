def l_M_solve_26 : Nat → gS → Int32 → Option (Nat × Int32 × gS)
  | 0, _, _ => none
  | n + 1, z, x1 =>
    if (z.1 0) ≤ x1 then (some (1, x1, z))
     else (bd2 (f_M_good z x1) (fun r4 w3 =>
     if r4 = 0 then (some (0, x1, w3))
     else (l_M_solve_26 n w3 (x1 + (1 : Int32)))))
def l_M_solve_74 : Nat → gS → Int32 → Option (Nat × Int32 × gS)
  | 0, _, _ => none
  | n + 1, z, x1 =>
    if (z.1 3) < x1 then (some (1, x1, z))
     else (bd2 (f_M_det z x1 (-1 : Int32)) (fun r9 w8 =>
     if (lg_cmp r9 (0 : Int64)) = 0 then (some (0, x1, w8))
     else (l_M_solve_74 n w8 (x1 + (1 : Int32)))))
def f_M_solve (z0 : gS) : Option (Int32 × gS) :=
 if (z0.1 1) = 0 then (bd1 (f_M_makeOrder z0) (fun w13 =>
 if (w13.1 2) = 0 then (some ((-100 : Int32), w13))
 else (bd3 (l_M_solve_26 200 w13 (0 : Int32)) (fun e15 v16 w17 =>
 if e15 = 0 then (some (((-200 : Int32) - v16), w17))
 else (bd1 (f_M_makeMatrix w17) (fun w20 =>
 bd2 (f_M_det w20 (w20.1 3) (-1 : Int32)) (fun r23 w22 =>
 if (lg_cmp r23 (0 : Int64)) = 0 then (bd3 (l_M_solve_74 200 w22 (1 : Int32)) (fun e27 v28 w29 =>
 if e27 = 0 then (some (((-299 : Int32) - v28), w29))
 else ((some (s_i w29 1 (1 : Int32))).bind (fun w31 =>
 some ((w31.1 3), w31)))))
 else ((some (s_i w22 1 (1 : Int32))).bind (fun w25 =>
 some ((w25.1 3), w25))))))))))
 else (some ((-4 : Int32), z0))
set_option maxHeartbeats 4000000 in
set_option maxRecDepth 100000 in
theorem m_M_solve (l : Launch) (D : va_G) (cy : Nat → ClassId) (ad : Nat → Nat) (sz : Nat) (z0 : gS) (r : Int32) (zz : gS) (hf : f_M_solve z0 = some (r, zz)) : Met l y_M_solve (Cond.code y_M_solve c_M_solve 2 (some .int) :: gt_ws) ({ frames := 4, cells := 0, slots := 0, locals := 180 }) (sPc D cl_all (gTy cy) nwM 16 ad (g2 cy ad z0) sz [.ref (ad 0)]) (sQi D cl_all 16 ad (g2 cy ad z0) sz r (g2 cy ad zz)) 0 0 (va_A (wl 16 ad (g2 cy ad z0)) sz) := by
  refine Met.ofW (cc := c_M_solve) (maxL := 2) (ret := (some .int)) (by decide) rfl ?_
  intro p e s m args below meth c s₁ B hml hv
  obtain ⟨rfl, hsz, hP, hK, hN, hD0⟩ := hv
  have hx := B.exec
  have hb := B.bytes
  have hr := B.returns
  have hts := atoms_spec (ws := (Cond.code y_M_solve c_M_solve 2 (some .int) :: gt_ws)) B.pre
  have ht : ∀ w ∈ gt_ws, w.before _ s = true := fun w h => hts w (List.mem_cons_of_mem _ h)
  have hown : s.vm.findClass RQ_M = some m.cls := findClass_of_methodNamed B.named
  have hlocks := B.notSynchronized
  subst hsz
  have hD1 := hD0.self (sz := s.heap.size)
  obtain ⟨A, hAe⟩ : ∃ A, A = va_A (wl 16 ad (g2 cy ad z0)) s.heap.size := ⟨_, rfl⟩
  rw [← hAe] at hD1
  have hD : ∀ g, va_D A (wl 16 ad g) := fun _ => wl_D hD1
  have hA : ∀ q : Nat, s.heap.size ≤ q → A q := fun q h => by rw [hAe]; exact Or.inr h
  have hS : va_S A s.heap s.heap [] := va_S.rf
  have hl := lv_entry ([.ref (ad 0)]) (n := 2) (Nat.le_of_ble_eq_true rfl)
  rw [lg_entry_eq]
  generalize (lg_sl ([.ref (ad 0)]) ++ List.replicate (2 - (lg_sl ([.ref (ad 0)])).length) Slot.unset).toArray = ls at hl ⊢
  have hl : lv_has ls 2 [(0, .ref (ad 0))] := hl
  have L_26 : ∀ (n : Nat) (z : gS) (x1 : Int32) (ee : Nat) (y1 : Int32) (z9 : gS), l_M_solve_26 n z x1 = some (ee, y1, z9) → ∀ (H : Heap) (locs : List Loc) (ls : Array Slot), va_P D cl_all (wl 16 ad (g2 cy ad z)) H → va_S A s.heap H locs → lv_has ls 2 [(0, .ref (ad 0)), (1, .int x1)] →
      (ee = 0 → ∀ (H : Heap) (locs : List Loc) (ls : Array Slot), va_P D cl_all (wl 16 ad (g2 cy ad z9)) H → va_S A s.heap H locs → lv_has ls 2 [(1, .int y1)] → W p l e (headSpec (Cond.code y_M_solve c_M_solve 2 (some .int) :: gt_ws) ({ frames := 4, cells := 0, slots := 0, locals := 180 })).room s m ([.ref (ad 0)]).toArray below meth c H locs 0 0 (MQ below (sQi D cl_all 16 ad (g2 cy ad z0) s.heap.size r (g2 cy ad zz)) ([.ref (ad 0)]).toArray s 0 0 (va_A (wl 16 ad (g2 cy ad z0)) s.heap.size)) (F0 m 42 ls [])) →
      (ee = 1 → ∀ (H : Heap) (locs : List Loc) (ls : Array Slot), va_P D cl_all (wl 16 ad (g2 cy ad z9)) H → va_S A s.heap H locs → lv_has ls 2 [(0, .ref (ad 0))] → W p l e (headSpec (Cond.code y_M_solve c_M_solve 2 (some .int) :: gt_ws) ({ frames := 4, cells := 0, slots := 0, locals := 180 })).room s m ([.ref (ad 0)]).toArray below meth c H locs 0 0 (MQ below (sQi D cl_all 16 ad (g2 cy ad z0) s.heap.size r (g2 cy ad zz)) ([.ref (ad 0)]).toArray s 0 0 (va_A (wl 16 ad (g2 cy ad z0)) s.heap.size)) (F0 m 54 ls [])) →
      W p l e (headSpec (Cond.code y_M_solve c_M_solve 2 (some .int) :: gt_ws) ({ frames := 4, cells := 0, slots := 0, locals := 180 })).room s m ([.ref (ad 0)]).toArray below meth c H locs 0 0 (MQ below (sQi D cl_all 16 ad (g2 cy ad z0) s.heap.size r (g2 cy ad zz)) ([.ref (ad 0)]).toArray s 0 0 (va_A (wl 16 ad (g2 cy ad z0)) s.heap.size)) (F0 m 26 ls []) := by
    intro n
    induction n with
    | zero => intro z x1 ee y1 z9 hf; rw [l_M_solve_26] at hf; cases hf
    | succ n ih =>
      intro z x1 ee y1 z9 hf H locs ls hP hS hl k_0 k_1
      rw [l_M_solve_26] at hf
      refine lv_iload_n hx hb d_M_solve_26 rfl (lv_at hl 1 rfl) ?_
      refine lv_aload_n hx hb d_M_solve_27 rfl (lv_at hl 0 rfl) ?_
      refine wx_get (v := .int (z.1 0)) (C := RQ_M) (T := FQ_M) (N := 21) hx hb ht IQ_M hown hK hP 0 (by decide) (e_g2_0 cy ad _) rfl 6 (by decide) (ht _ kw_534) (fun _ h9 => h9) rfl d_M_solve_28 ?_
      refine lv_icmp_ge (tgt := 54) hx hb d_M_solve_31 (by decide) (fun c1 => ?_) (fun c1 => ?_)
      ·
        have hf := op_pos hf c1
        cases hf
        exact k_1 rfl _ _ _ hP hS (lv_sub hl [0] rfl)
      ·
        have hf := op_neg hf c1
        refine lv_aload_n hx hb d_M_solve_34 rfl (lv_at hl 0 rfl) ?_
        refine lv_iload_n hx hb d_M_solve_35 rfl (lv_at hl 1 rfl) ?_
        obtain ⟨r4, w3, hc2, hf⟩ := op_b2 hf
        refine wx_fi (wx_rV (As := [.int x1]) (rest := []) ⟨hx, hb, hml, hown, ht⟩ (m_M_good l D cy ad _ z x1 _ _ hc2) ⟨callB_of 1 ht (gt_in (fun _ h9 => h9) kw_651) rfl rfl rfl (ht _ kw_52) (ht _ kw_648) q_M_good ⟨Nat.le_of_ble_eq_true rfl, Nat.le_of_ble_eq_true rfl⟩, ht _ kw_650, ht _ kw_31⟩ nwM_ok hN hK hP (hD _) (by decide) (e_g2_0 cy ad _) rfl rfl hl.1 rfl (Nat.le_of_ble_eq_true rfl) d_M_solve_36 ⟨Nat.zero_le _, Nat.zero_le _⟩) (hD _) hS hA (fun H locs hP hS => ?_)
        refine lv_if_ne (tgt := 48) hx hb d_M_solve_39 (by decide) (fun c5 => ?_) (fun c5 => ?_)
        ·
          have hf := op_neg hf c5
          refine lv_iinc (v := x1 + (1 : Int32)) (lv' := [(1, .int (x1 + (1 : Int32))), (0, .ref (ad 0))]) hx hb d_M_solve_48 hl (k := 1) rfl rfl (by decide) rfl (fun ls hl => ?_)
          refine lv_goto (tgt := 26) hx hb d_M_solve_51 (by decide) ?_
          exact ih _ _ _ _ _ hf _ _ _ hP hS (lv_sub hl [1, 0] rfl) k_0 k_1
        ·
          have hf := op_pos hf c5
          cases hf
          exact k_0 rfl _ _ _ hP hS (lv_sub hl [1] rfl)
  have L_74 : ∀ (n : Nat) (z : gS) (x1 : Int32) (ee : Nat) (y1 : Int32) (z9 : gS), l_M_solve_74 n z x1 = some (ee, y1, z9) → ∀ (H : Heap) (locs : List Loc) (ls : Array Slot), va_P D cl_all (wl 16 ad (g2 cy ad z)) H → va_S A s.heap H locs → lv_has ls 2 [(0, .ref (ad 0)), (1, .int x1)] →
      (ee = 0 → ∀ (H : Heap) (locs : List Loc) (ls : Array Slot), va_P D cl_all (wl 16 ad (g2 cy ad z9)) H → va_S A s.heap H locs → lv_has ls 2 [(1, .int y1)] → W p l e (headSpec (Cond.code y_M_solve c_M_solve 2 (some .int) :: gt_ws) ({ frames := 4, cells := 0, slots := 0, locals := 180 })).room s m ([.ref (ad 0)]).toArray below meth c H locs 0 0 (MQ below (sQi D cl_all 16 ad (g2 cy ad z0) s.heap.size r (g2 cy ad zz)) ([.ref (ad 0)]).toArray s 0 0 (va_A (wl 16 ad (g2 cy ad z0)) s.heap.size)) (F0 m 93 ls [])) →
      (ee = 1 → ∀ (H : Heap) (locs : List Loc) (ls : Array Slot), va_P D cl_all (wl 16 ad (g2 cy ad z9)) H → va_S A s.heap H locs → lv_has ls 2 [(0, .ref (ad 0))] → W p l e (headSpec (Cond.code y_M_solve c_M_solve 2 (some .int) :: gt_ws) ({ frames := 4, cells := 0, slots := 0, locals := 180 })).room s m ([.ref (ad 0)]).toArray below meth c H locs 0 0 (MQ below (sQi D cl_all 16 ad (g2 cy ad z0) s.heap.size r (g2 cy ad zz)) ([.ref (ad 0)]).toArray s 0 0 (va_A (wl 16 ad (g2 cy ad z0)) s.heap.size)) (F0 m 105 ls [])) →
      W p l e (headSpec (Cond.code y_M_solve c_M_solve 2 (some .int) :: gt_ws) ({ frames := 4, cells := 0, slots := 0, locals := 180 })).room s m ([.ref (ad 0)]).toArray below meth c H locs 0 0 (MQ below (sQi D cl_all 16 ad (g2 cy ad z0) s.heap.size r (g2 cy ad zz)) ([.ref (ad 0)]).toArray s 0 0 (va_A (wl 16 ad (g2 cy ad z0)) s.heap.size)) (F0 m 74 ls []) := by
    intro n
    induction n with
    | zero => intro z x1 ee y1 z9 hf; rw [l_M_solve_74] at hf; cases hf
    | succ n ih =>
      intro z x1 ee y1 z9 hf H locs ls hP hS hl k_0 k_1
      rw [l_M_solve_74] at hf
      refine lv_iload_n hx hb d_M_solve_74 rfl (lv_at hl 1 rfl) ?_
      refine lv_aload_n hx hb d_M_solve_75 rfl (lv_at hl 0 rfl) ?_
      refine wx_get (v := .int (z.1 3)) (C := RQ_M) (T := FQ_M) (N := 21) hx hb ht IQ_M hown hK hP 0 (by decide) (e_g2_0 cy ad _) rfl 15 (by decide) (ht _ kw_543) (fun _ h9 => h9) rfl d_M_solve_76 ?_
      refine lv_icmp_gt (tgt := 105) hx hb d_M_solve_79 (by decide) (fun c6 => ?_) (fun c6 => ?_)
      ·
        have hf := op_pos hf c6
        cases hf
        exact k_1 rfl _ _ _ hP hS (lv_sub hl [0] rfl)
      ·
        have hf := op_neg hf c6
        refine lv_aload_n hx hb d_M_solve_82 rfl (lv_at hl 0 rfl) ?_
        refine lv_iload_n hx hb d_M_solve_83 rfl (lv_at hl 1 rfl) ?_
        refine lv_iconst (v := -1) hx hb d_M_solve_84 (by decide) ?_
        obtain ⟨r9, w8, hc7, hf⟩ := op_b2 hf
        refine wx_fl (wx_rV (As := [.int x1, .int (-1 : Int32)]) (rest := []) ⟨hx, hb, hml, hown, ht⟩ (m_M_det l D cy ad _ z x1 (-1 : Int32) _ _ hc7) ⟨callB_of 2 ht (gt_in (fun _ h9 => h9) kw_667) rfl rfl rfl (ht _ kw_52) (ht _ kw_664) q_M_det ⟨Nat.le_of_ble_eq_true rfl, Nat.le_of_ble_eq_true rfl⟩, ht _ kw_666, ht _ kw_35⟩ nwM_ok hN hK hP (hD _) (by decide) (e_g2_0 cy ad _) rfl rfl hl.1 rfl (Nat.le_of_ble_eq_true rfl) d_M_solve_85 ⟨Nat.zero_le _, Nat.zero_le _⟩) (hD _) hS hA (fun H locs hP hS => ?_)
        refine lv_lconst (v := 0) hx hb d_M_solve_88 (by decide) ?_
        refine W.lcmp hx hb d_M_solve_89 ?_
        refine lv_if_ne (tgt := 99) hx hb d_M_solve_90 (by decide) (fun c10 => ?_) (fun c10 => ?_)
        ·
          have hf := op_neg hf c10
          refine lv_iinc (v := x1 + (1 : Int32)) (lv' := [(1, .int (x1 + (1 : Int32))), (0, .ref (ad 0))]) hx hb d_M_solve_99 hl (k := 1) rfl rfl (by decide) rfl (fun ls hl => ?_)
          refine lv_goto (tgt := 74) hx hb d_M_solve_102 (by decide) ?_
          exact ih _ _ _ _ _ hf _ _ _ hP hS (lv_sub hl [1, 0] rfl) k_0 k_1
        ·
          have hf := op_pos hf c10
          cases hf
          exact k_0 rfl _ _ _ hP hS (lv_sub hl [1] rfl)
  unfold f_M_solve at hf
  refine lv_aload_n hx hb d_M_solve_0 rfl (lv_at hl 0 rfl) ?_
  refine wx_get (v := .int (z0.1 1)) (C := RQ_M) (T := FQ_M) (N := 21) hx hb ht IQ_M hown hK hP 0 (by decide) (e_g2_0 cy ad _) rfl 11 (by decide) (ht _ kw_539) (fun _ h9 => h9) rfl d_M_solve_1 ?_
  refine lv_if_eq (tgt := 10) hx hb d_M_solve_4 (by decide) (fun c11 => ?_) (fun c11 => ?_)
  ·
    have hf := op_pos hf c11
    refine lv_aload_n hx hb d_M_solve_10 rfl (lv_at hl 0 rfl) ?_
    obtain ⟨w13, hc12, hf⟩ := op_b1 hf
    refine wx_fv (wx_rV (As := []) (rest := []) ⟨hx, hb, hml, hown, ht⟩ (m_M_makeOrder l D cy ad _ z0 _ hc12) ⟨callB_of 0 ht (gt_in (fun _ h9 => h9) kw_627) rfl rfl rfl (ht _ kw_52) (ht _ kw_624) q_M_makeOrder ⟨Nat.le_of_ble_eq_true rfl, Nat.le_of_ble_eq_true rfl⟩, ht _ kw_626, ht _ kw_25⟩ nwM_ok hN hK hP (hD _) (by decide) (e_g2_0 cy ad _) rfl rfl hl.1 rfl (Nat.le_of_ble_eq_true rfl) d_M_solve_11 ⟨Nat.zero_le _, Nat.zero_le _⟩) (hD _) hS hA (fun H locs hP hS => ?_)
    refine lv_aload_n hx hb d_M_solve_14 rfl (lv_at hl 0 rfl) ?_
    refine wx_get (v := .int (w13.1 2)) (C := RQ_M) (T := FQ_M) (N := 21) hx hb ht IQ_M hown hK hP 0 (by decide) (e_g2_0 cy ad _) rfl 13 (by decide) (ht _ kw_541) (fun _ h9 => h9) rfl d_M_solve_15 ?_
    refine lv_if_ne (tgt := 24) hx hb d_M_solve_18 (by decide) (fun c14 => ?_) (fun c14 => ?_)
    ·
      have hf := op_neg hf c14
      refine lv_iconst (v := 0) hx hb d_M_solve_24 (by decide) ?_
      refine lv_istore_n (lv' := [(1, .int (0 : Int32)), (0, .ref (ad 0))]) hx hb d_M_solve_25 rfl hl (by decide) rfl (fun ls hl => ?_)
      obtain ⟨e15, v16, w17, hc18, hf⟩ := op_b3 hf
      refine L_26 _ _ _ _ _ _ hc18 _ _ _ hP hS (lv_sub hl [1, 0] rfl) (fun he_e15 H locs ls hP hS hl => ?_) (fun he_e15 H locs ls hP hS hl => ?_)
      ·
        have hf := op_pos hf he_e15
        refine lv_sipush (v := -200) hx hb d_M_solve_42 (by decide) ?_
        refine lv_iload_n hx hb d_M_solve_45 rfl (lv_at hl 0 rfl) ?_
        refine lv_isub hx hb d_M_solve_46 ?_
        obtain ⟨hv9, rfl⟩ := op_inj hf
        exact wx_iret hx hb hr hlocks hAe hP hS hv9 d_M_solve_47
      ·
        have hf := op_neg hf (by omega)
        refine lv_aload_n hx hb d_M_solve_54 rfl (lv_at hl 0 rfl) ?_
        obtain ⟨w20, hc19, hf⟩ := op_b1 hf
        refine wx_fv (wx_rV (As := []) (rest := []) ⟨hx, hb, hml, hown, ht⟩ (m_M_makeMatrix l D cy ad _ w17 _ hc19) ⟨callB_of 0 ht (gt_in (fun _ h9 => h9) kw_655) rfl rfl rfl (ht _ kw_52) (ht _ kw_652) q_M_makeMatrix ⟨Nat.le_of_ble_eq_true rfl, Nat.le_of_ble_eq_true rfl⟩, ht _ kw_654, ht _ kw_32⟩ nwM_ok hN hK hP (hD _) (by decide) (e_g2_0 cy ad _) rfl rfl hl.1 rfl (Nat.le_of_ble_eq_true rfl) d_M_solve_55 ⟨Nat.zero_le _, Nat.zero_le _⟩) (hD _) hS hA (fun H locs hP hS => ?_)
        refine lv_aload_n hx hb d_M_solve_58 rfl (lv_at hl 0 rfl) ?_
        refine lv_aload_n hx hb d_M_solve_59 rfl (lv_at hl 0 rfl) ?_
        refine wx_get (v := .int (w20.1 3)) (C := RQ_M) (T := FQ_M) (N := 21) hx hb ht IQ_M hown hK hP 0 (by decide) (e_g2_0 cy ad _) rfl 15 (by decide) (ht _ kw_543) (fun _ h9 => h9) rfl d_M_solve_60 ?_
        refine lv_iconst (v := -1) hx hb d_M_solve_63 (by decide) ?_
        obtain ⟨r23, w22, hc21, hf⟩ := op_b2 hf
        refine wx_fl (wx_rV (As := [.int (w20.1 3), .int (-1 : Int32)]) (rest := []) ⟨hx, hb, hml, hown, ht⟩ (m_M_det l D cy ad _ w20 (w20.1 3) (-1 : Int32) _ _ hc21) ⟨callB_of 2 ht (gt_in (fun _ h9 => h9) kw_667) rfl rfl rfl (ht _ kw_52) (ht _ kw_664) q_M_det ⟨Nat.le_of_ble_eq_true rfl, Nat.le_of_ble_eq_true rfl⟩, ht _ kw_666, ht _ kw_35⟩ nwM_ok hN hK hP (hD _) (by decide) (e_g2_0 cy ad _) rfl rfl hl.1 rfl (Nat.le_of_ble_eq_true rfl) d_M_solve_64 ⟨Nat.zero_le _, Nat.zero_le _⟩) (hD _) hS hA (fun H locs hP hS => ?_)
        refine lv_lconst (v := 0) hx hb d_M_solve_67 (by decide) ?_
        refine W.lcmp hx hb d_M_solve_68 ?_
        refine lv_if_ne (tgt := 105) hx hb d_M_solve_69 (by decide) (fun c24 => ?_) (fun c24 => ?_)
        ·
          have hf := op_neg hf c24
          refine lv_aload_n hx hb d_M_solve_105 rfl (lv_at hl 0 rfl) ?_
          refine lv_iconst (v := 1) hx hb d_M_solve_106 (by decide) ?_
          refine wx_put (v := .int (1 : Int32)) (ty := .boolean) (C := RQ_M) (T := FQ_M) (N := 21) hx hb ht IQ_M TQ_M TQ_M_ok NQ_M hown hK hP (hD _) hS 0 (by decide) (e_g2_0 cy ad _) rfl 11 (by decide) (ht _ kw_539) (fun _ h9 => h9) rfl (by decide +kernel) (by decide) (by decide) (Nat.le_of_ble_eq_true rfl) d_M_solve_107 (up_M_sealed cy ad _ (1 : Int32)) (fun H locs hP hS => ?_)
          obtain ⟨w25, h26, hf⟩ := op_let hf
          rw [h26] at hP
          refine lv_aload_n hx hb d_M_solve_110 rfl (lv_at hl 0 rfl) ?_
          refine wx_get (v := .int (w25.1 3)) (C := RQ_M) (T := FQ_M) (N := 21) hx hb ht IQ_M hown hK hP 0 (by decide) (e_g2_0 cy ad _) rfl 15 (by decide) (ht _ kw_543) (fun _ h9 => h9) rfl d_M_solve_111 ?_
          obtain ⟨hv9, rfl⟩ := op_inj hf
          exact wx_iret hx hb hr hlocks hAe hP hS hv9 d_M_solve_114
        ·
          have hf := op_pos hf c24
          refine lv_iconst (v := 1) hx hb d_M_solve_72 (by decide) ?_
          refine lv_istore_n (lv' := [(1, .int (1 : Int32)), (0, .ref (ad 0))]) hx hb d_M_solve_73 rfl hl (by decide) rfl (fun ls hl => ?_)
          obtain ⟨e27, v28, w29, hc30, hf⟩ := op_b3 hf
          refine L_74 _ _ _ _ _ _ hc30 _ _ _ hP hS (lv_sub hl [1, 0] rfl) (fun he_e27 H locs ls hP hS hl => ?_) (fun he_e27 H locs ls hP hS hl => ?_)
          ·
            have hf := op_pos hf he_e27
            refine lv_sipush (v := -299) hx hb d_M_solve_93 (by decide) ?_
            refine lv_iload_n hx hb d_M_solve_96 rfl (lv_at hl 0 rfl) ?_
            refine lv_isub hx hb d_M_solve_97 ?_
            obtain ⟨hv9, rfl⟩ := op_inj hf
            exact wx_iret hx hb hr hlocks hAe hP hS hv9 d_M_solve_98
          ·
            have hf := op_neg hf (by omega)
            refine lv_aload_n hx hb d_M_solve_105 rfl (lv_at hl 0 rfl) ?_
            refine lv_iconst (v := 1) hx hb d_M_solve_106 (by decide) ?_
            refine wx_put (v := .int (1 : Int32)) (ty := .boolean) (C := RQ_M) (T := FQ_M) (N := 21) hx hb ht IQ_M TQ_M TQ_M_ok NQ_M hown hK hP (hD _) hS 0 (by decide) (e_g2_0 cy ad _) rfl 11 (by decide) (ht _ kw_539) (fun _ h9 => h9) rfl (by decide +kernel) (by decide) (by decide) (Nat.le_of_ble_eq_true rfl) d_M_solve_107 (up_M_sealed cy ad _ (1 : Int32)) (fun H locs hP hS => ?_)
            obtain ⟨w31, h32, hf⟩ := op_let hf
            rw [h32] at hP
            refine lv_aload_n hx hb d_M_solve_110 rfl (lv_at hl 0 rfl) ?_
            refine wx_get (v := .int (w31.1 3)) (C := RQ_M) (T := FQ_M) (N := 21) hx hb ht IQ_M hown hK hP 0 (by decide) (e_g2_0 cy ad _) rfl 15 (by decide) (ht _ kw_543) (fun _ h9 => h9) rfl d_M_solve_111 ?_
            obtain ⟨hv9, rfl⟩ := op_inj hf
            exact wx_iret hx hb hr hlocks hAe hP hS hv9 d_M_solve_114
    ·
      have hf := op_pos hf c14
      refine lv_bipush (v := -100) hx hb d_M_solve_21 (by decide) ?_
      obtain ⟨hv9, rfl⟩ := op_inj hf
      exact wx_iret hx hb hr hlocks hAe hP hS hv9 d_M_solve_23
  ·
    have hf := op_neg hf c11
    refine lv_bipush (v := -4) hx hb d_M_solve_7 (by decide) ?_
    obtain ⟨hv9, rfl⟩ := op_inj hf
    exact wx_iret hx hb hr hlocks hAe hP hS hv9 d_M_solve_9

def f_M_open (z0 : gS) : Option (Int32 × gS) :=
 if (z0.1 1) = 0 then (some ((-1 : Int32), z0))
 else ((some (s_i z0 1 (0 : Int32))).bind (fun w2 =>
 some ((0 : Int32), w2)))
set_option maxHeartbeats 4000000 in
set_option maxRecDepth 100000 in
theorem m_M_open (l : Launch) (D : va_G) (cy : Nat → ClassId) (ad : Nat → Nat) (sz : Nat) (z0 : gS) (r : Int32) (zz : gS) (hf : f_M_open z0 = some (r, zz)) : Met l y_M_open (Cond.code y_M_open c_M_open 1 (some .int) :: gt_ws) ({ frames := 0, cells := 0, slots := 0, locals := 0 }) (sPc D cl_all (gTy cy) nwM 16 ad (g2 cy ad z0) sz [.ref (ad 0)]) (sQi D cl_all 16 ad (g2 cy ad z0) sz r (g2 cy ad zz)) 0 0 (va_A (wl 16 ad (g2 cy ad z0)) sz) := by
  refine Met.ofW (cc := c_M_open) (maxL := 1) (ret := (some .int)) (by decide) rfl ?_
  intro p e s m args below meth c s₁ B hml hv
  obtain ⟨rfl, hsz, hP, hK, hN, hD0⟩ := hv
  have hx := B.exec
  have hb := B.bytes
  have hr := B.returns
  have hts := atoms_spec (ws := (Cond.code y_M_open c_M_open 1 (some .int) :: gt_ws)) B.pre
  have ht : ∀ w ∈ gt_ws, w.before _ s = true := fun w h => hts w (List.mem_cons_of_mem _ h)
  have hown : s.vm.findClass RQ_M = some m.cls := findClass_of_methodNamed B.named
  have hlocks := B.notSynchronized
  subst hsz
  have hD1 := hD0.self (sz := s.heap.size)
  obtain ⟨A, hAe⟩ : ∃ A, A = va_A (wl 16 ad (g2 cy ad z0)) s.heap.size := ⟨_, rfl⟩
  rw [← hAe] at hD1
  have hD : ∀ g, va_D A (wl 16 ad g) := fun _ => wl_D hD1
  have hA : ∀ q : Nat, s.heap.size ≤ q → A q := fun q h => by rw [hAe]; exact Or.inr h
  have hS : va_S A s.heap s.heap [] := va_S.rf
  have hl := lv_entry ([.ref (ad 0)]) (n := 1) (Nat.le_of_ble_eq_true rfl)
  rw [lg_entry_eq]
  generalize (lg_sl ([.ref (ad 0)]) ++ List.replicate (1 - (lg_sl ([.ref (ad 0)])).length) Slot.unset).toArray = ls at hl ⊢
  have hl : lv_has ls 1 [(0, .ref (ad 0))] := hl
  unfold f_M_open at hf
  refine lv_aload_n hx hb d_M_open_0 rfl (lv_at hl 0 rfl) ?_
  refine wx_get (v := .int (z0.1 1)) (C := RQ_M) (T := FQ_M) (N := 21) hx hb ht IQ_M hown hK hP 0 (by decide) (e_g2_0 cy ad _) rfl 11 (by decide) (ht _ kw_539) (fun _ h9 => h9) rfl d_M_open_1 ?_
  refine lv_if_ne (tgt := 9) hx hb d_M_open_4 (by decide) (fun c1 => ?_) (fun c1 => ?_)
  ·
    have hf := op_neg hf c1
    refine lv_aload_n hx hb d_M_open_9 rfl (lv_at hl 0 rfl) ?_
    refine lv_iconst (v := 0) hx hb d_M_open_10 (by decide) ?_
    refine wx_put (v := .int (0 : Int32)) (ty := .boolean) (C := RQ_M) (T := FQ_M) (N := 21) hx hb ht IQ_M TQ_M TQ_M_ok NQ_M hown hK hP (hD _) hS 0 (by decide) (e_g2_0 cy ad _) rfl 11 (by decide) (ht _ kw_539) (fun _ h9 => h9) rfl (by decide +kernel) (by decide) (by decide) (Nat.le_of_ble_eq_true rfl) d_M_open_11 (up_M_sealed cy ad _ (0 : Int32)) (fun H locs hP hS => ?_)
    obtain ⟨w2, h3, hf⟩ := op_let hf
    rw [h3] at hP
    refine lv_iconst (v := 0) hx hb d_M_open_14 (by decide) ?_
    obtain ⟨hv9, rfl⟩ := op_inj hf
    exact wx_iret hx hb hr hlocks hAe hP hS hv9 d_M_open_15
  ·
    have hf := op_pos hf c1
    refine lv_iconst (v := -1) hx hb d_M_open_7 (by decide) ?_
    obtain ⟨hv9, rfl⟩ := op_inj hf
    exact wx_iret hx hb hr hlocks hAe hP hS hv9 d_M_open_8

def l_M_fixedOf_5 : Nat → gS → Int32 → Int32 → Int64 → Int32 → Option (Int64 × gS)
  | 0, _, _, _, _, _ => none
  | n + 1, z, x1, x2, x3, x5 =>
    if (4 : Int32) ≤ x5 then (some (x3, z))
     else (if x2 < 0 ∨ 10 ≤ x2.toNatClampNeg then none else
     (some ((x3 + ((((x1 >>> (((8 : Int32) * x5) &&& 31)).toInt8.toInt32).toInt64) * ((z.2.2.1 8 x2.toNatClampNeg).toInt64))) : Int64)).bind (fun v3 =>
     l_M_fixedOf_5 n z x1 x2 v3 (x5 + (1 : Int32))))
def f_M_fixedOf (z0 : gS) (p1 : Int32) (p2 : Int32) : Option (Int64 × gS) :=
 bd2 (l_M_fixedOf_5 200 z0 p1 p2 (0 : Int64) (0 : Int32)) (fun v5 w6 =>
 some (v5, w6))
set_option maxHeartbeats 4000000 in
set_option maxRecDepth 100000 in
theorem m_M_fixedOf (l : Launch) (D : va_G) (cy : Nat → ClassId) (ad : Nat → Nat) (sz : Nat) (z0 : gS) (p1 : Int32) (p2 : Int32) (r : Int64) (zz : gS) (hf : f_M_fixedOf z0 p1 p2 = some (r, zz)) : Met l y_M_fixedOf (Cond.code y_M_fixedOf c_M_fixedOf 6 (some .long) :: gt_ws) ({ frames := 0, cells := 0, slots := 0, locals := 0 }) (sPc D cl_all (gTy cy) nwM 16 ad (g2 cy ad z0) sz [.ref (ad 0), .int p1, .int p2]) (sQl D cl_all 16 ad (g2 cy ad z0) sz r (g2 cy ad zz)) 0 0 (va_A (wl 16 ad (g2 cy ad z0)) sz) := by
  refine Met.ofW (cc := c_M_fixedOf) (maxL := 6) (ret := (some .long)) (by decide) rfl ?_
  intro p e s m args below meth c s₁ B hml hv
  obtain ⟨rfl, hsz, hP, hK, hN, hD0⟩ := hv
  have hx := B.exec
  have hb := B.bytes
  have hr := B.returns
  have hts := atoms_spec (ws := (Cond.code y_M_fixedOf c_M_fixedOf 6 (some .long) :: gt_ws)) B.pre
  have ht : ∀ w ∈ gt_ws, w.before _ s = true := fun w h => hts w (List.mem_cons_of_mem _ h)
  have hown : s.vm.findClass RQ_M = some m.cls := findClass_of_methodNamed B.named
  have hlocks := B.notSynchronized
  subst hsz
  have hD1 := hD0.self (sz := s.heap.size)
  obtain ⟨A, hAe⟩ : ∃ A, A = va_A (wl 16 ad (g2 cy ad z0)) s.heap.size := ⟨_, rfl⟩
  rw [← hAe] at hD1
  have hD : ∀ g, va_D A (wl 16 ad g) := fun _ => wl_D hD1
  have hA : ∀ q : Nat, s.heap.size ≤ q → A q := fun q h => by rw [hAe]; exact Or.inr h
  have hS : va_S A s.heap s.heap [] := va_S.rf
  have hl := lv_entry ([.ref (ad 0), .int p1, .int p2]) (n := 6) (Nat.le_of_ble_eq_true rfl)
  rw [lg_entry_eq]
  generalize (lg_sl ([.ref (ad 0), .int p1, .int p2]) ++ List.replicate (6 - (lg_sl ([.ref (ad 0), .int p1, .int p2])).length) Slot.unset).toArray = ls at hl ⊢
  have hl : lv_has ls 6 [(0, .ref (ad 0)), (1, .int p1), (2, .int p2)] := hl
  have L_5 : ∀ (n : Nat) (z : gS) (x1 : Int32) (x2 : Int32) (x3 : Int64) (x5 : Int32) (y3 : Int64) (z9 : gS), l_M_fixedOf_5 n z x1 x2 x3 x5 = some (y3, z9) → ∀ (H : Heap) (locs : List Loc) (ls : Array Slot), va_P D cl_all (wl 16 ad (g2 cy ad z)) H → va_S A s.heap H locs → lv_has ls 6 [(0, .ref (ad 0)), (1, .int x1), (2, .int x2), (3, .long x3), (5, .int x5)] →
      (∀ (H : Heap) (locs : List Loc) (ls : Array Slot), va_P D cl_all (wl 16 ad (g2 cy ad z9)) H → va_S A s.heap H locs → lv_has ls 6 [(3, .long y3)] → W p l e (headSpec (Cond.code y_M_fixedOf c_M_fixedOf 6 (some .long) :: gt_ws) ({ frames := 0, cells := 0, slots := 0, locals := 0 })).room s m ([.ref (ad 0), .int p1, .int p2]).toArray below meth c H locs 0 0 (MQ below (sQl D cl_all 16 ad (g2 cy ad z0) s.heap.size r (g2 cy ad zz)) ([.ref (ad 0), .int p1, .int p2]).toArray s 0 0 (va_A (wl 16 ad (g2 cy ad z0)) s.heap.size)) (F0 m 37 ls [])) →
      W p l e (headSpec (Cond.code y_M_fixedOf c_M_fixedOf 6 (some .long) :: gt_ws) ({ frames := 0, cells := 0, slots := 0, locals := 0 })).room s m ([.ref (ad 0), .int p1, .int p2]).toArray below meth c H locs 0 0 (MQ below (sQl D cl_all 16 ad (g2 cy ad z0) s.heap.size r (g2 cy ad zz)) ([.ref (ad 0), .int p1, .int p2]).toArray s 0 0 (va_A (wl 16 ad (g2 cy ad z0)) s.heap.size)) (F0 m 5 ls []) := by
    intro n
    induction n with
    | zero => intro z x1 x2 x3 x5 y3 z9 hf; rw [l_M_fixedOf_5] at hf; cases hf
    | succ n ih =>
      intro z x1 x2 x3 x5 y3 z9 hf H locs ls hP hS hl k_0
      rw [l_M_fixedOf_5] at hf
      refine lv_iload hx hb d_M_fixedOf_5 (lv_at hl 4 rfl) ?_
      refine lv_iconst (v := 4) hx hb d_M_fixedOf_7 (by decide) ?_
      refine lv_icmp_ge (tgt := 37) hx hb d_M_fixedOf_8 (by decide) (fun c1 => ?_) (fun c1 => ?_)
      ·
        have hf := op_pos hf c1
        cases hf
        exact k_0 _ _ _ hP hS (lv_sub hl [3] rfl)
      ·
        have hf := op_neg hf c1
        refine lv_lload_n hx hb d_M_fixedOf_11 rfl (lv_at hl 3 rfl) ?_
        refine lv_iload_n hx hb d_M_fixedOf_12 rfl (lv_at hl 1 rfl) ?_
        refine lv_bipush (v := 8) hx hb d_M_fixedOf_13 (by decide) ?_
        refine lv_iload hx hb d_M_fixedOf_15 (lv_at hl 4 rfl) ?_
        refine lv_imul hx hb d_M_fixedOf_17 ?_
        refine lv_ishr hx hb d_M_fixedOf_18 ?_
        refine lv_i2b hx hb d_M_fixedOf_19 rfl ?_
        refine lv_i2l hx hb d_M_fixedOf_20 rfl ?_
        refine lv_aload_n hx hb d_M_fixedOf_21 rfl (lv_at hl 0 rfl) ?_
        refine wx_get (v := .ref (ad 8)) (C := RQ_M) (T := FQ_M) (N := 21) hx hb ht IQ_M hown hK hP 0 (by decide) (e_g2_0 cy ad _) rfl 8 (by decide) (ht _ kw_536) (fun _ h9 => h9) rfl d_M_fixedOf_22 ?_
        refine lv_iload_n hx hb d_M_fixedOf_25 rfl (lv_at hl 2 rfl) ?_
        obtain ⟨h2, hf⟩ := op_chk hf
        refine wx_iald hx hb hK hP 8 (by decide) (by decide) 10 rfl h2 d_M_fixedOf_26 ?_
        refine lv_i2l hx hb d_M_fixedOf_27 rfl ?_
        refine lv_lmul hx hb d_M_fixedOf_28 ?_
        refine lv_ladd hx hb d_M_fixedOf_29 ?_
        obtain ⟨v3, h4, hf⟩ := op_let hf
        refine sw_l h4 ?_
        refine lv_lstore_n (lv' := [(3, .long v3), (0, .ref (ad 0)), (1, .int x1), (2, .int x2), (5, .int x5)]) hx hb d_M_fixedOf_30 rfl hl (by decide) rfl (fun ls hl => ?_)
        refine lv_iinc (v := x5 + (1 : Int32)) (lv' := [(5, .int (x5 + (1 : Int32))), (3, .long v3), (0, .ref (ad 0)), (1, .int x1), (2, .int x2)]) hx hb d_M_fixedOf_31 hl (k := 4) rfl rfl (by decide) rfl (fun ls hl => ?_)
        refine lv_goto (tgt := 5) hx hb d_M_fixedOf_34 (by decide) ?_
        exact ih _ _ _ _ _ _ _ hf _ _ _ hP hS (lv_sub hl [2, 3, 4, 1, 0] rfl) k_0
  unfold f_M_fixedOf at hf
  refine lv_lconst (v := 0) hx hb d_M_fixedOf_0 (by decide) ?_
  refine lv_lstore_n (lv' := [(3, .long (0 : Int64)), (0, .ref (ad 0)), (1, .int p1), (2, .int p2)]) hx hb d_M_fixedOf_1 rfl hl (by decide) rfl (fun ls hl => ?_)
  refine lv_iconst (v := 0) hx hb d_M_fixedOf_2 (by decide) ?_
  refine lv_istore (lv' := [(5, .int (0 : Int32)), (3, .long (0 : Int64)), (0, .ref (ad 0)), (1, .int p1), (2, .int p2)]) hx hb d_M_fixedOf_3 hl (by decide) rfl (fun ls hl => ?_)
  obtain ⟨v5, w6, hc7, hf⟩ := op_b2 hf
  refine L_5 _ _ _ _ _ _ _ _ hc7 _ _ _ hP hS (lv_sub hl [2, 3, 4, 1, 0] rfl) (fun H locs ls hP hS hl => ?_)
  refine lv_lload_n hx hb d_M_fixedOf_37 rfl (lv_at hl 0 rfl) ?_
  obtain ⟨hv9, rfl⟩ := op_inj hf
  exact wx_lret hx hb hr hlocks hAe hP hS hv9 d_M_fixedOf_38

def l_M_loadOf_5 : Nat → gS → Int32 → Int32 → Int64 → Int32 → Option (Int64 × gS)
  | 0, _, _, _, _, _ => none
  | n + 1, z, x1, x2, x3, x5 =>
    if (4 : Int32) ≤ x5 then (some (x3, z))
     else (if ((x5 * (10 : Int32)) + x2) < 0 ∨ 40 ≤ ((x5 * (10 : Int32)) + x2).toNatClampNeg then none else
     (some ((x3 + ((((x1 >>> (((8 : Int32) * x5) &&& 31)).toInt8.toInt32).toInt64) * ((z.2.2.1 10 ((x5 * (10 : Int32)) + x2).toNatClampNeg).toInt64))) : Int64)).bind (fun v3 =>
     l_M_loadOf_5 n z x1 x2 v3 (x5 + (1 : Int32))))
def f_M_loadOf (z0 : gS) (p1 : Int32) (p2 : Int32) : Option (Int64 × gS) :=
 bd2 (l_M_loadOf_5 200 z0 p1 p2 (0 : Int64) (0 : Int32)) (fun v5 w6 =>
 some (v5, w6))
set_option maxHeartbeats 4000000 in
set_option maxRecDepth 100000 in
theorem m_M_loadOf (l : Launch) (D : va_G) (cy : Nat → ClassId) (ad : Nat → Nat) (sz : Nat) (z0 : gS) (p1 : Int32) (p2 : Int32) (r : Int64) (zz : gS) (hf : f_M_loadOf z0 p1 p2 = some (r, zz)) : Met l y_M_loadOf (Cond.code y_M_loadOf c_M_loadOf 6 (some .long) :: gt_ws) ({ frames := 0, cells := 0, slots := 0, locals := 0 }) (sPc D cl_all (gTy cy) nwM 16 ad (g2 cy ad z0) sz [.ref (ad 0), .int p1, .int p2]) (sQl D cl_all 16 ad (g2 cy ad z0) sz r (g2 cy ad zz)) 0 0 (va_A (wl 16 ad (g2 cy ad z0)) sz) := by
  refine Met.ofW (cc := c_M_loadOf) (maxL := 6) (ret := (some .long)) (by decide) rfl ?_
  intro p e s m args below meth c s₁ B hml hv
  obtain ⟨rfl, hsz, hP, hK, hN, hD0⟩ := hv
  have hx := B.exec
  have hb := B.bytes
  have hr := B.returns
  have hts := atoms_spec (ws := (Cond.code y_M_loadOf c_M_loadOf 6 (some .long) :: gt_ws)) B.pre
  have ht : ∀ w ∈ gt_ws, w.before _ s = true := fun w h => hts w (List.mem_cons_of_mem _ h)
  have hown : s.vm.findClass RQ_M = some m.cls := findClass_of_methodNamed B.named
  have hlocks := B.notSynchronized
  subst hsz
  have hD1 := hD0.self (sz := s.heap.size)
  obtain ⟨A, hAe⟩ : ∃ A, A = va_A (wl 16 ad (g2 cy ad z0)) s.heap.size := ⟨_, rfl⟩
  rw [← hAe] at hD1
  have hD : ∀ g, va_D A (wl 16 ad g) := fun _ => wl_D hD1
  have hA : ∀ q : Nat, s.heap.size ≤ q → A q := fun q h => by rw [hAe]; exact Or.inr h
  have hS : va_S A s.heap s.heap [] := va_S.rf
  have hl := lv_entry ([.ref (ad 0), .int p1, .int p2]) (n := 6) (Nat.le_of_ble_eq_true rfl)
  rw [lg_entry_eq]
  generalize (lg_sl ([.ref (ad 0), .int p1, .int p2]) ++ List.replicate (6 - (lg_sl ([.ref (ad 0), .int p1, .int p2])).length) Slot.unset).toArray = ls at hl ⊢
  have hl : lv_has ls 6 [(0, .ref (ad 0)), (1, .int p1), (2, .int p2)] := hl
  have L_5 : ∀ (n : Nat) (z : gS) (x1 : Int32) (x2 : Int32) (x3 : Int64) (x5 : Int32) (y3 : Int64) (z9 : gS), l_M_loadOf_5 n z x1 x2 x3 x5 = some (y3, z9) → ∀ (H : Heap) (locs : List Loc) (ls : Array Slot), va_P D cl_all (wl 16 ad (g2 cy ad z)) H → va_S A s.heap H locs → lv_has ls 6 [(0, .ref (ad 0)), (1, .int x1), (2, .int x2), (3, .long x3), (5, .int x5)] →
      (∀ (H : Heap) (locs : List Loc) (ls : Array Slot), va_P D cl_all (wl 16 ad (g2 cy ad z9)) H → va_S A s.heap H locs → lv_has ls 6 [(3, .long y3)] → W p l e (headSpec (Cond.code y_M_loadOf c_M_loadOf 6 (some .long) :: gt_ws) ({ frames := 0, cells := 0, slots := 0, locals := 0 })).room s m ([.ref (ad 0), .int p1, .int p2]).toArray below meth c H locs 0 0 (MQ below (sQl D cl_all 16 ad (g2 cy ad z0) s.heap.size r (g2 cy ad zz)) ([.ref (ad 0), .int p1, .int p2]).toArray s 0 0 (va_A (wl 16 ad (g2 cy ad z0)) s.heap.size)) (F0 m 43 ls [])) →
      W p l e (headSpec (Cond.code y_M_loadOf c_M_loadOf 6 (some .long) :: gt_ws) ({ frames := 0, cells := 0, slots := 0, locals := 0 })).room s m ([.ref (ad 0), .int p1, .int p2]).toArray below meth c H locs 0 0 (MQ below (sQl D cl_all 16 ad (g2 cy ad z0) s.heap.size r (g2 cy ad zz)) ([.ref (ad 0), .int p1, .int p2]).toArray s 0 0 (va_A (wl 16 ad (g2 cy ad z0)) s.heap.size)) (F0 m 5 ls []) := by
    intro n
    induction n with
    | zero => intro z x1 x2 x3 x5 y3 z9 hf; rw [l_M_loadOf_5] at hf; cases hf
    | succ n ih =>
      intro z x1 x2 x3 x5 y3 z9 hf H locs ls hP hS hl k_0
      rw [l_M_loadOf_5] at hf
      refine lv_iload hx hb d_M_loadOf_5 (lv_at hl 4 rfl) ?_
      refine lv_iconst (v := 4) hx hb d_M_loadOf_7 (by decide) ?_
      refine lv_icmp_ge (tgt := 43) hx hb d_M_loadOf_8 (by decide) (fun c1 => ?_) (fun c1 => ?_)
      ·
        have hf := op_pos hf c1
        cases hf
        exact k_0 _ _ _ hP hS (lv_sub hl [3] rfl)
      ·
        have hf := op_neg hf c1
        refine lv_lload_n hx hb d_M_loadOf_11 rfl (lv_at hl 3 rfl) ?_
        refine lv_iload_n hx hb d_M_loadOf_12 rfl (lv_at hl 1 rfl) ?_
        refine lv_bipush (v := 8) hx hb d_M_loadOf_13 (by decide) ?_
        refine lv_iload hx hb d_M_loadOf_15 (lv_at hl 4 rfl) ?_
        refine lv_imul hx hb d_M_loadOf_17 ?_
        refine lv_ishr hx hb d_M_loadOf_18 ?_
        refine lv_i2b hx hb d_M_loadOf_19 rfl ?_
        refine lv_i2l hx hb d_M_loadOf_20 rfl ?_
        refine lv_aload_n hx hb d_M_loadOf_21 rfl (lv_at hl 0 rfl) ?_
        refine wx_get (v := .ref (ad 10)) (C := RQ_M) (T := FQ_M) (N := 21) hx hb ht IQ_M hown hK hP 0 (by decide) (e_g2_0 cy ad _) rfl 10 (by decide) (ht _ kw_538) (fun _ h9 => h9) rfl d_M_loadOf_22 ?_
        refine lv_iload hx hb d_M_loadOf_25 (lv_at hl 4 rfl) ?_
        refine lv_bipush (v := 10) hx hb d_M_loadOf_27 (by decide) ?_
        refine lv_imul hx hb d_M_loadOf_29 ?_
        refine lv_iload_n hx hb d_M_loadOf_30 rfl (lv_at hl 2 rfl) ?_
        refine lv_iadd hx hb d_M_loadOf_31 ?_
        obtain ⟨h2, hf⟩ := op_chk hf
        refine wx_iald hx hb hK hP 10 (by decide) (by decide) 40 rfl h2 d_M_loadOf_32 ?_
        refine lv_i2l hx hb d_M_loadOf_33 rfl ?_
        refine lv_lmul hx hb d_M_loadOf_34 ?_
        refine lv_ladd hx hb d_M_loadOf_35 ?_
        obtain ⟨v3, h4, hf⟩ := op_let hf
        refine sw_l h4 ?_
        refine lv_lstore_n (lv' := [(3, .long v3), (0, .ref (ad 0)), (1, .int x1), (2, .int x2), (5, .int x5)]) hx hb d_M_loadOf_36 rfl hl (by decide) rfl (fun ls hl => ?_)
        refine lv_iinc (v := x5 + (1 : Int32)) (lv' := [(5, .int (x5 + (1 : Int32))), (3, .long v3), (0, .ref (ad 0)), (1, .int x1), (2, .int x2)]) hx hb d_M_loadOf_37 hl (k := 4) rfl rfl (by decide) rfl (fun ls hl => ?_)
        refine lv_goto (tgt := 5) hx hb d_M_loadOf_40 (by decide) ?_
        exact ih _ _ _ _ _ _ _ hf _ _ _ hP hS (lv_sub hl [2, 3, 4, 1, 0] rfl) k_0
  unfold f_M_loadOf at hf
  refine lv_lconst (v := 0) hx hb d_M_loadOf_0 (by decide) ?_
  refine lv_lstore_n (lv' := [(3, .long (0 : Int64)), (0, .ref (ad 0)), (1, .int p1), (2, .int p2)]) hx hb d_M_loadOf_1 rfl hl (by decide) rfl (fun ls hl => ?_)
  refine lv_iconst (v := 0) hx hb d_M_loadOf_2 (by decide) ?_
  refine lv_istore (lv' := [(5, .int (0 : Int32)), (3, .long (0 : Int64)), (0, .ref (ad 0)), (1, .int p1), (2, .int p2)]) hx hb d_M_loadOf_3 hl (by decide) rfl (fun ls hl => ?_)
  obtain ⟨v5, w6, hc7, hf⟩ := op_b2 hf
  refine L_5 _ _ _ _ _ _ _ _ hc7 _ _ _ hP hS (lv_sub hl [2, 3, 4, 1, 0] rfl) (fun H locs ls hP hS hl => ?_)
  refine lv_lload_n hx hb d_M_loadOf_43 rfl (lv_at hl 0 rfl) ?_
  obtain ⟨hv9, rfl⟩ := op_inj hf
  exact wx_lret hx hb hr hlocks hAe hP hS hv9 d_M_loadOf_44
