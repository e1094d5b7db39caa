def f_M_det (z0 : gS) (p1 : Int32) (p2 : Int32) : Option (Int64 × gS) :=
 bd2 (f_M_modulo z0 p1 p2 (2147483647 : Int64)) (fun r3 w2 =>
 bd2 (f_M_modulo w2 p1 p2 (2147483629 : Int64)) (fun r6 w5 =>
 bd2 (f_M_powered w5 ((2147483647 : Int64) - (2147483647 : Int64) / (2147483629 : Int64) * (2147483629 : Int64)) ((2147483629 : Int64) - (2 : Int64)) (2147483629 : Int64)) (fun r9 w8 =>
 (some (((((((r6 - r3) - (r6 - r3) / (2147483629 : Int64) * (2147483629 : Int64)) + (2147483629 : Int64)) - (((r6 - r3) - (r6 - r3) / (2147483629 : Int64) * (2147483629 : Int64)) + (2147483629 : Int64)) / (2147483629 : Int64) * (2147483629 : Int64)) * r9) - (((((r6 - r3) - (r6 - r3) / (2147483629 : Int64) * (2147483629 : Int64)) + (2147483629 : Int64)) - (((r6 - r3) - (r6 - r3) / (2147483629 : Int64) * (2147483629 : Int64)) + (2147483629 : Int64)) / (2147483629 : Int64) * (2147483629 : Int64)) * r9) / (2147483629 : Int64) * (2147483629 : Int64)) : Int64)).bind (fun v10 =>
 (some ((r3 + ((2147483647 : Int64) * v10)) : Int64)).bind (fun v12 =>
 if (lg_cmp v12 (((2147483647 : Int64) * (2147483629 : Int64)) / (2 : Int64))) ≤ 0 then (some (v12, w8))
 else (some ((v12 - ((2147483647 : Int64) * (2147483629 : Int64))), w8)))))))
set_option maxHeartbeats 4000000 in
set_option maxRecDepth 100000 in
theorem m_M_det (l : Launch) (D : va_G) (cy : Nat → ClassId) (ad : Nat → Nat) (sz : Nat) (z0 : gS) (p1 : Int32) (p2 : Int32) (r : Int64) (zz : gS) (hf : f_M_det z0 p1 p2 = some (r, zz)) : Met l y_M_det (Cond.code y_M_det c_M_det 15 (some .long) :: gt_ws) ({ frames := 3, cells := 0, slots := 0, locals := 135 }) (sPc D cl_all (gTy cy) nwM 16 ad (g2 cy ad z0) sz [.ref (ad 0), .int p1, .int p2]) (sQl D cl_all 16 ad (g2 cy ad z0) sz r (g2 cy ad zz)) 0 0 (va_A (wl 16 ad (g2 cy ad z0)) sz) := by
  refine Met.ofW (cc := c_M_det) (maxL := 15) (ret := (some .long)) (by decide) rfl ?_
  intro p e s m args below meth c s₁ B hml hv
  obtain ⟨rfl, hsz, hP, hK, hN, hD0⟩ := hv
  have hx := B.exec
  have hb := B.bytes
  have hr := B.returns
  have hts := atoms_spec (ws := (Cond.code y_M_det c_M_det 15 (some .long) :: gt_ws)) B.pre
  have ht : ∀ w ∈ gt_ws, w.before _ s = true := fun w h => hts w (List.mem_cons_of_mem _ h)
  have hown : s.vm.findClass RQ_M = some m.cls := findClass_of_methodNamed B.named
  have hlocks := B.notSynchronized
  subst hsz
  have hD1 := hD0.self (sz := s.heap.size)
  obtain ⟨A, hAe⟩ : ∃ A, A = va_A (wl 16 ad (g2 cy ad z0)) s.heap.size := ⟨_, rfl⟩
  rw [← hAe] at hD1
  have hD : ∀ g, va_D A (wl 16 ad g) := fun _ => wl_D hD1
  have hA : ∀ q : Nat, s.heap.size ≤ q → A q := fun q h => by rw [hAe]; exact Or.inr h
  have hS : va_S A s.heap s.heap [] := va_S.rf
  have hl := lv_entry ([.ref (ad 0), .int p1, .int p2]) (n := 15) (Nat.le_of_ble_eq_true rfl)
  rw [lg_entry_eq]
  generalize (lg_sl ([.ref (ad 0), .int p1, .int p2]) ++ List.replicate (15 - (lg_sl ([.ref (ad 0), .int p1, .int p2])).length) Slot.unset).toArray = ls at hl ⊢
  have hl : lv_has ls 15 [(0, .ref (ad 0)), (1, .int p1), (2, .int p2)] := hl
  unfold f_M_det at hf
  refine lv_ldc2 hx hb hown (ht _ kw_668) d_M_det_0 ?_
  refine lv_lstore_n (lv' := [(3, .long (2147483647 : Int64)), (0, .ref (ad 0)), (1, .int p1), (2, .int p2)]) hx hb d_M_det_3 rfl hl (by decide) rfl (fun ls hl => ?_)
  refine lv_ldc2 hx hb hown (ht _ kw_669) d_M_det_4 ?_
  refine lv_lstore (lv' := [(5, .long (2147483629 : Int64)), (3, .long (2147483647 : Int64)), (0, .ref (ad 0)), (1, .int p1), (2, .int p2)]) hx hb d_M_det_7 hl (by decide) rfl (fun ls hl => ?_)
  refine lv_aload_n hx hb d_M_det_9 rfl (lv_at hl 2 rfl) ?_
  refine lv_iload_n hx hb d_M_det_10 rfl (lv_at hl 3 rfl) ?_
  refine lv_iload_n hx hb d_M_det_11 rfl (lv_at hl 4 rfl) ?_
  refine lv_lload_n hx hb d_M_det_12 rfl (lv_at hl 1 rfl) ?_
  obtain ⟨r3, w2, hc1, hf⟩ := op_b2 hf
  refine wx_fl (wx_rV (As := [.int p1, .int p2, .long (2147483647 : Int64)]) (rest := []) ⟨hx, hb, hml, hown, ht⟩ (m_M_modulo l D cy ad _ z0 p1 p2 (2147483647 : Int64) _ _ hc1) ⟨callB_of 3 ht (gt_in (fun _ h9 => h9) kw_673) rfl rfl rfl (ht _ kw_52) (ht _ kw_670) q_M_modulo ⟨Nat.le_of_ble_eq_true rfl, Nat.le_of_ble_eq_true rfl⟩, ht _ kw_672, ht _ kw_36⟩ nwM_ok hN hK hP (hD _) (by decide) (e_g2_0 cy ad _) rfl rfl hl.1 rfl (Nat.le_of_ble_eq_true rfl) d_M_det_13 ⟨Nat.zero_le _, Nat.zero_le _⟩) (hD _) hS hA (fun H locs hP hS => ?_)
  refine lv_lstore (lv' := [(7, .long r3), (5, .long (2147483629 : Int64)), (3, .long (2147483647 : Int64)), (0, .ref (ad 0)), (1, .int p1), (2, .int p2)]) hx hb d_M_det_16 hl (by decide) rfl (fun ls hl => ?_)
  refine lv_aload_n hx hb d_M_det_18 rfl (lv_at hl 3 rfl) ?_
  refine lv_iload_n hx hb d_M_det_19 rfl (lv_at hl 4 rfl) ?_
  refine lv_iload_n hx hb d_M_det_20 rfl (lv_at hl 5 rfl) ?_
  refine lv_lload hx hb d_M_det_21 (lv_at hl 1 rfl) ?_
  obtain ⟨r6, w5, hc4, hf⟩ := op_b2 hf
  refine wx_fl (wx_rV (As := [.int p1, .int p2, .long (2147483629 : Int64)]) (rest := []) ⟨hx, hb, hml, hown, ht⟩ (m_M_modulo l D cy ad _ w2 p1 p2 (2147483629 : Int64) _ _ hc4) ⟨callB_of 3 ht (gt_in (fun _ h9 => h9) kw_673) rfl rfl rfl (ht _ kw_52) (ht _ kw_670) q_M_modulo ⟨Nat.le_of_ble_eq_true rfl, Nat.le_of_ble_eq_true rfl⟩, ht _ kw_672, ht _ kw_36⟩ nwM_ok hN hK hP (hD _) (by decide) (e_g2_0 cy ad _) rfl rfl hl.1 rfl (Nat.le_of_ble_eq_true rfl) d_M_det_23 ⟨Nat.zero_le _, Nat.zero_le _⟩) (hD _) hS hA (fun H locs hP hS => ?_)
  refine lv_lstore (lv' := [(9, .long r6), (7, .long r3), (5, .long (2147483629 : Int64)), (3, .long (2147483647 : Int64)), (0, .ref (ad 0)), (1, .int p1), (2, .int p2)]) hx hb d_M_det_26 hl (by decide) rfl (fun ls hl => ?_)
  refine lv_lload hx hb d_M_det_28 (lv_at hl 0 rfl) ?_
  refine lv_lload hx hb d_M_det_30 (lv_at hl 1 rfl) ?_
  refine lv_lsub hx hb d_M_det_32 ?_
  refine lv_lload hx hb d_M_det_33 (lv_at hl 2 rfl) ?_
  refine lv_lrem hx hb d_M_det_35 (by decide) ?_
  refine lv_lload hx hb d_M_det_36 (lv_at hl 2 rfl) ?_
  refine lv_ladd hx hb d_M_det_38 ?_
  refine lv_lload hx hb d_M_det_39 (lv_at hl 2 rfl) ?_
  refine lv_lrem hx hb d_M_det_41 (by decide) ?_
  refine lv_aload_n hx hb d_M_det_42 rfl (lv_at hl 4 rfl) ?_
  refine lv_lload_n hx hb d_M_det_43 rfl (lv_at hl 3 rfl) ?_
  refine lv_lload hx hb d_M_det_44 (lv_at hl 2 rfl) ?_
  refine lv_lrem hx hb d_M_det_46 (by decide) ?_
  refine lv_lload hx hb d_M_det_47 (lv_at hl 2 rfl) ?_
  refine lv_ldc2 hx hb hown (ht _ kw_682) d_M_det_49 ?_
  refine lv_lsub hx hb d_M_det_52 ?_
  refine lv_lload hx hb d_M_det_53 (lv_at hl 2 rfl) ?_
  obtain ⟨r9, w8, hc7, hf⟩ := op_b2 hf
  refine wx_fl (wx_rV (As := [.long ((2147483647 : Int64) - (2147483647 : Int64) / (2147483629 : Int64) * (2147483629 : Int64)), .long ((2147483629 : Int64) - (2 : Int64)), .long (2147483629 : Int64)]) (rest := [.long ((((r6 - r3) - (r6 - r3) / (2147483629 : Int64) * (2147483629 : Int64)) + (2147483629 : Int64)) - (((r6 - r3) - (r6 - r3) / (2147483629 : Int64) * (2147483629 : Int64)) + (2147483629 : Int64)) / (2147483629 : Int64) * (2147483629 : Int64))]) ⟨hx, hb, hml, hown, ht⟩ (m_M_powered l D cy ad _ w5 ((2147483647 : Int64) - (2147483647 : Int64) / (2147483629 : Int64) * (2147483629 : Int64)) ((2147483629 : Int64) - (2 : Int64)) (2147483629 : Int64) _ _ hc7) ⟨callB_of 3 ht (gt_in (fun _ h9 => h9) kw_686) rfl rfl rfl (ht _ kw_52) (ht _ kw_683) q_M_powered ⟨Nat.le_of_ble_eq_true rfl, Nat.le_of_ble_eq_true rfl⟩, ht _ kw_685, ht _ kw_39⟩ nwM_ok hN hK hP (hD _) (by decide) (e_g2_0 cy ad _) rfl rfl hl.1 rfl (Nat.le_of_ble_eq_true rfl) d_M_det_55 ⟨Nat.zero_le _, Nat.zero_le _⟩) (hD _) hS hA (fun H locs hP hS => ?_)
  refine lv_lmul hx hb d_M_det_58 ?_
  refine lv_lload hx hb d_M_det_59 (lv_at hl 2 rfl) ?_
  refine lv_lrem hx hb d_M_det_61 (by decide) ?_
  obtain ⟨v10, h11, hf⟩ := op_let hf
  refine sw_l h11 ?_
  refine lv_lstore (lv' := [(11, .long v10), (9, .long r6), (7, .long r3), (5, .long (2147483629 : Int64)), (3, .long (2147483647 : Int64)), (0, .ref (ad 0)), (1, .int p1), (2, .int p2)]) hx hb d_M_det_62 hl (by decide) rfl (fun ls hl => ?_)
  refine lv_lload hx hb d_M_det_64 (lv_at hl 2 rfl) ?_
  refine lv_lload_n hx hb d_M_det_66 rfl (lv_at hl 4 rfl) ?_
  refine lv_lload hx hb d_M_det_67 (lv_at hl 0 rfl) ?_
  refine lv_lmul hx hb d_M_det_69 ?_
  refine lv_ladd hx hb d_M_det_70 ?_
  obtain ⟨v12, h13, hf⟩ := op_let hf
  refine sw_l h13 ?_
  refine lv_lstore (lv' := [(13, .long v12), (11, .long v10), (9, .long r6), (7, .long r3), (5, .long (2147483629 : Int64)), (3, .long (2147483647 : Int64)), (0, .ref (ad 0)), (1, .int p1), (2, .int p2)]) hx hb d_M_det_71 hl (by decide) rfl (fun ls hl => ?_)
  refine lv_lload hx hb d_M_det_73 (lv_at hl 0 rfl) ?_
  refine lv_lload_n hx hb d_M_det_75 rfl (lv_at hl 5 rfl) ?_
  refine lv_lload hx hb d_M_det_76 (lv_at hl 4 rfl) ?_
  refine lv_lmul hx hb d_M_det_78 ?_
  refine lv_ldc2 hx hb hown (ht _ kw_682) d_M_det_79 ?_
  refine lv_ldiv hx hb d_M_det_82 (by decide) ?_
  refine W.lcmp hx hb d_M_det_83 ?_
  refine lv_if_le (tgt := 97) hx hb d_M_det_84 (by decide) (fun c14 => ?_) (fun c14 => ?_)
  ·
    have hf := op_pos hf c14
    refine lv_lload hx hb d_M_det_97 (lv_at hl 0 rfl) ?_
    obtain ⟨hv9, rfl⟩ := op_inj hf
    exact wx_lret hx hb hr hlocks hAe hP hS hv9 d_M_det_99
  ·
    have hf := op_neg hf c14
    refine lv_lload hx hb d_M_det_87 (lv_at hl 0 rfl) ?_
    refine lv_lload_n hx hb d_M_det_89 rfl (lv_at hl 5 rfl) ?_
    refine lv_lload hx hb d_M_det_90 (lv_at hl 4 rfl) ?_
    refine lv_lmul hx hb d_M_det_92 ?_
    refine lv_lsub hx hb d_M_det_93 ?_
    refine lv_goto (tgt := 99) hx hb d_M_det_94 (by decide) ?_
    obtain ⟨hv9, rfl⟩ := op_inj hf
    exact wx_lret hx hb hr hlocks hAe hP hS hv9 d_M_det_99

def l_M_inOrder_2 : Nat → gS → Int32 → Int32 → Option (Nat × gS)
  | 0, _, _, _ => none
  | n + 1, z, x1, x2 =>
    if (z.1 2) ≤ x2 then (some (1, z))
     else (if x2 < 0 ∨ 5 ≤ x2.toNatClampNeg then none else
     if (z.2.2.1 11 x2.toNatClampNeg) = x1 then (some (0, z))
     else (l_M_inOrder_2 n z x1 (x2 + (1 : Int32))))
def f_M_inOrder (z0 : gS) (p1 : Int32) : Option (Int32 × gS) :=
 bd2 (l_M_inOrder_2 200 z0 p1 (0 : Int32)) (fun e4 w5 =>
 if e4 = 0 then (some ((1 : Int32), w5))
 else (some ((0 : Int32), w5)))
set_option maxHeartbeats 4000000 in
set_option maxRecDepth 100000 in
theorem m_M_inOrder (l : Launch) (D : va_G) (cy : Nat → ClassId) (ad : Nat → Nat) (sz : Nat) (z0 : gS) (p1 : Int32) (r : Int32) (zz : gS) (hf : f_M_inOrder z0 p1 = some (r, zz)) : Met l y_M_inOrder (Cond.code y_M_inOrder c_M_inOrder 3 (some .boolean) :: gt_ws) ({ frames := 0, cells := 0, slots := 0, locals := 0 }) (sPc D cl_all (gTy cy) nwM 16 ad (g2 cy ad z0) sz [.ref (ad 0), .int p1]) (sQi D cl_all 16 ad (g2 cy ad z0) sz r (g2 cy ad zz)) 0 0 (va_A (wl 16 ad (g2 cy ad z0)) sz) := by
  refine Met.ofW (cc := c_M_inOrder) (maxL := 3) (ret := (some .boolean)) (by decide) rfl ?_
  intro p e s m args below meth c s₁ B hml hv
  obtain ⟨rfl, hsz, hP, hK, hN, hD0⟩ := hv
  have hx := B.exec
  have hb := B.bytes
  have hr := B.returns
  have hts := atoms_spec (ws := (Cond.code y_M_inOrder c_M_inOrder 3 (some .boolean) :: gt_ws)) B.pre
  have ht : ∀ w ∈ gt_ws, w.before _ s = true := fun w h => hts w (List.mem_cons_of_mem _ h)
  have hown : s.vm.findClass RQ_M = some m.cls := findClass_of_methodNamed B.named
  have hlocks := B.notSynchronized
  subst hsz
  have hD1 := hD0.self (sz := s.heap.size)
  obtain ⟨A, hAe⟩ : ∃ A, A = va_A (wl 16 ad (g2 cy ad z0)) s.heap.size := ⟨_, rfl⟩
  rw [← hAe] at hD1
  have hD : ∀ g, va_D A (wl 16 ad g) := fun _ => wl_D hD1
  have hA : ∀ q : Nat, s.heap.size ≤ q → A q := fun q h => by rw [hAe]; exact Or.inr h
  have hS : va_S A s.heap s.heap [] := va_S.rf
  have hl := lv_entry ([.ref (ad 0), .int p1]) (n := 3) (Nat.le_of_ble_eq_true rfl)
  rw [lg_entry_eq]
  generalize (lg_sl ([.ref (ad 0), .int p1]) ++ List.replicate (3 - (lg_sl ([.ref (ad 0), .int p1])).length) Slot.unset).toArray = ls at hl ⊢
  have hl : lv_has ls 3 [(0, .ref (ad 0)), (1, .int p1)] := hl
  have L_2 : ∀ (n : Nat) (z : gS) (x1 : Int32) (x2 : Int32) (ee : Nat) (z9 : gS), l_M_inOrder_2 n z x1 x2 = some (ee, z9) → ∀ (H : Heap) (locs : List Loc) (ls : Array Slot), va_P D cl_all (wl 16 ad (g2 cy ad z)) H → va_S A s.heap H locs → lv_has ls 3 [(0, .ref (ad 0)), (1, .int x1), (2, .int x2)] →
      (ee = 0 → ∀ (H : Heap) (locs : List Loc) (ls : Array Slot), va_P D cl_all (wl 16 ad (g2 cy ad z9)) H → va_S A s.heap H locs → lv_has ls 3 [] → W p l e (headSpec (Cond.code y_M_inOrder c_M_inOrder 3 (some .boolean) :: gt_ws) ({ frames := 0, cells := 0, slots := 0, locals := 0 })).room s m ([.ref (ad 0), .int p1]).toArray below meth c H locs 0 0 (MQ below (sQi D cl_all 16 ad (g2 cy ad z0) s.heap.size r (g2 cy ad zz)) ([.ref (ad 0), .int p1]).toArray s 0 0 (va_A (wl 16 ad (g2 cy ad z0)) s.heap.size)) (F0 m 20 ls [])) →
      (ee = 1 → ∀ (H : Heap) (locs : List Loc) (ls : Array Slot), va_P D cl_all (wl 16 ad (g2 cy ad z9)) H → va_S A s.heap H locs → lv_has ls 3 [] → W p l e (headSpec (Cond.code y_M_inOrder c_M_inOrder 3 (some .boolean) :: gt_ws) ({ frames := 0, cells := 0, slots := 0, locals := 0 })).room s m ([.ref (ad 0), .int p1]).toArray below meth c H locs 0 0 (MQ below (sQi D cl_all 16 ad (g2 cy ad z0) s.heap.size r (g2 cy ad zz)) ([.ref (ad 0), .int p1]).toArray s 0 0 (va_A (wl 16 ad (g2 cy ad z0)) s.heap.size)) (F0 m 28 ls [])) →
      W p l e (headSpec (Cond.code y_M_inOrder c_M_inOrder 3 (some .boolean) :: gt_ws) ({ frames := 0, cells := 0, slots := 0, locals := 0 })).room s m ([.ref (ad 0), .int p1]).toArray below meth c H locs 0 0 (MQ below (sQi D cl_all 16 ad (g2 cy ad z0) s.heap.size r (g2 cy ad zz)) ([.ref (ad 0), .int p1]).toArray s 0 0 (va_A (wl 16 ad (g2 cy ad z0)) s.heap.size)) (F0 m 2 ls []) := by
    intro n
    induction n with
    | zero => intro z x1 x2 ee z9 hf; rw [l_M_inOrder_2] at hf; cases hf
    | succ n ih =>
      intro z x1 x2 ee z9 hf H locs ls hP hS hl k_0 k_1
      rw [l_M_inOrder_2] at hf
      refine lv_iload_n hx hb d_M_inOrder_2 rfl (lv_at hl 2 rfl) ?_
      refine lv_aload_n hx hb d_M_inOrder_3 rfl (lv_at hl 0 rfl) ?_
      refine wx_get (v := .int (z.1 2)) (C := RQ_M) (T := FQ_M) (N := 21) hx hb ht IQ_M hown hK hP 0 (by decide) (e_g2_0 cy ad _) rfl 13 (by decide) (ht _ kw_541) (fun _ h9 => h9) rfl d_M_inOrder_4 ?_
      refine lv_icmp_ge (tgt := 28) hx hb d_M_inOrder_7 (by decide) (fun c1 => ?_) (fun c1 => ?_)
      ·
        have hf := op_pos hf c1
        cases hf
        exact k_1 rfl _ _ _ hP hS (lv_sub hl [] rfl)
      ·
        have hf := op_neg hf c1
        refine lv_aload_n hx hb d_M_inOrder_10 rfl (lv_at hl 0 rfl) ?_
        refine wx_get (v := .ref (ad 11)) (C := RQ_M) (T := FQ_M) (N := 21) hx hb ht IQ_M hown hK hP 0 (by decide) (e_g2_0 cy ad _) rfl 12 (by decide) (ht _ kw_540) (fun _ h9 => h9) rfl d_M_inOrder_11 ?_
        refine lv_iload_n hx hb d_M_inOrder_14 rfl (lv_at hl 2 rfl) ?_
        obtain ⟨h2, hf⟩ := op_chk hf
        refine wx_iald hx hb hK hP 11 (by decide) (by decide) 5 rfl h2 d_M_inOrder_15 ?_
        refine lv_iload_n hx hb d_M_inOrder_16 rfl (lv_at hl 1 rfl) ?_
        refine lv_icmp_ne (tgt := 22) hx hb d_M_inOrder_17 (by decide) (fun c3 => ?_) (fun c3 => ?_)
        ·
          have hf := op_neg hf c3
          refine lv_iinc (v := x2 + (1 : Int32)) (lv' := [(2, .int (x2 + (1 : Int32))), (0, .ref (ad 0)), (1, .int x1)]) hx hb d_M_inOrder_22 hl (k := 2) rfl rfl (by decide) rfl (fun ls hl => ?_)
          refine lv_goto (tgt := 2) hx hb d_M_inOrder_25 (by decide) ?_
          exact ih _ _ _ _ _ hf _ _ _ hP hS (lv_sub hl [1, 2, 0] rfl) k_0 k_1
        ·
          have hf := op_pos hf c3
          cases hf
          exact k_0 rfl _ _ _ hP hS (lv_sub hl [] rfl)
  unfold f_M_inOrder at hf
  refine lv_iconst (v := 0) hx hb d_M_inOrder_0 (by decide) ?_
  refine lv_istore_n (lv' := [(2, .int (0 : Int32)), (0, .ref (ad 0)), (1, .int p1)]) hx hb d_M_inOrder_1 rfl hl (by decide) rfl (fun ls hl => ?_)
  obtain ⟨e4, w5, hc6, hf⟩ := op_b2 hf
  refine L_2 _ _ _ _ _ _ hc6 _ _ _ hP hS (lv_sub hl [1, 2, 0] rfl) (fun he_e4 H locs ls hP hS hl => ?_) (fun he_e4 H locs ls hP hS hl => ?_)
  ·
    have hf := op_pos hf he_e4
    refine lv_iconst (v := 1) hx hb d_M_inOrder_20 (by decide) ?_
    obtain ⟨hv9, rfl⟩ := op_inj hf
    exact wx_zret hx hb hr hlocks (by first | decide | rfl) hAe hP hS hv9 d_M_inOrder_21
  ·
    have hf := op_neg hf (by omega)
    refine lv_iconst (v := 0) hx hb d_M_inOrder_28 (by decide) ?_
    obtain ⟨hv9, rfl⟩ := op_inj hf
    exact wx_zret hx hb hr hlocks (by first | decide | rfl) hAe hP hS hv9 d_M_inOrder_29

def l_M_joined_2 : Nat → gS → Int32 → Int32 → Int32 → Option (Nat × gS)
  | 0, _, _, _, _ => none
  | n + 1, z, x1, x2, x3 =>
    if (z.1 0) ≤ x3 then (some (1, z))
     else (if x3 < 0 ∨ 10 ≤ x3.toNatClampNeg then none else
     if (z.2.2.1 4 x3.toNatClampNeg) = x1 then (if x3 < 0 ∨ 10 ≤ x3.toNatClampNeg then none else
     if (z.2.2.1 5 x3.toNatClampNeg) = x2 then (some (0, z))
     else (if x3 < 0 ∨ 10 ≤ x3.toNatClampNeg then none else
     if (z.2.2.1 4 x3.toNatClampNeg) = x2 then (if x3 < 0 ∨ 10 ≤ x3.toNatClampNeg then none else
     if (z.2.2.1 5 x3.toNatClampNeg) = x1 then (some (0, z))
     else (l_M_joined_2 n z x1 x2 (x3 + (1 : Int32))))
     else (l_M_joined_2 n z x1 x2 (x3 + (1 : Int32)))))
     else (if x3 < 0 ∨ 10 ≤ x3.toNatClampNeg then none else
     if (z.2.2.1 4 x3.toNatClampNeg) = x2 then (if x3 < 0 ∨ 10 ≤ x3.toNatClampNeg then none else
     if (z.2.2.1 5 x3.toNatClampNeg) = x1 then (some (0, z))
     else (l_M_joined_2 n z x1 x2 (x3 + (1 : Int32))))
     else (l_M_joined_2 n z x1 x2 (x3 + (1 : Int32)))))
def f_M_joined (z0 : gS) (p1 : Int32) (p2 : Int32) : Option (Int32 × gS) :=
 bd2 (l_M_joined_2 200 z0 p1 p2 (0 : Int32)) (fun e14 w15 =>
 if e14 = 0 then (some ((1 : Int32), w15))
 else (some ((0 : Int32), w15)))
set_option maxHeartbeats 4000000 in
set_option maxRecDepth 100000 in
theorem m_M_joined (l : Launch) (D : va_G) (cy : Nat → ClassId) (ad : Nat → Nat) (sz : Nat) (z0 : gS) (p1 : Int32) (p2 : Int32) (r : Int32) (zz : gS) (hf : f_M_joined z0 p1 p2 = some (r, zz)) : Met l y_M_joined (Cond.code y_M_joined c_M_joined 4 (some .boolean) :: gt_ws) ({ frames := 0, cells := 0, slots := 0, locals := 0 }) (sPc D cl_all (gTy cy) nwM 16 ad (g2 cy ad z0) sz [.ref (ad 0), .int p1, .int p2]) (sQi D cl_all 16 ad (g2 cy ad z0) sz r (g2 cy ad zz)) 0 0 (va_A (wl 16 ad (g2 cy ad z0)) sz) := by
  refine Met.ofW (cc := c_M_joined) (maxL := 4) (ret := (some .boolean)) (by decide) rfl ?_
  intro p e s m args below meth c s₁ B hml hv
  obtain ⟨rfl, hsz, hP, hK, hN, hD0⟩ := hv
  have hx := B.exec
  have hb := B.bytes
  have hr := B.returns
  have hts := atoms_spec (ws := (Cond.code y_M_joined c_M_joined 4 (some .boolean) :: gt_ws)) B.pre
  have ht : ∀ w ∈ gt_ws, w.before _ s = true := fun w h => hts w (List.mem_cons_of_mem _ h)
  have hown : s.vm.findClass RQ_M = some m.cls := findClass_of_methodNamed B.named
  have hlocks := B.notSynchronized
  subst hsz
  have hD1 := hD0.self (sz := s.heap.size)
  obtain ⟨A, hAe⟩ : ∃ A, A = va_A (wl 16 ad (g2 cy ad z0)) s.heap.size := ⟨_, rfl⟩
  rw [← hAe] at hD1
  have hD : ∀ g, va_D A (wl 16 ad g) := fun _ => wl_D hD1
  have hA : ∀ q : Nat, s.heap.size ≤ q → A q := fun q h => by rw [hAe]; exact Or.inr h
  have hS : va_S A s.heap s.heap [] := va_S.rf
  have hl := lv_entry ([.ref (ad 0), .int p1, .int p2]) (n := 4) (Nat.le_of_ble_eq_true rfl)
  rw [lg_entry_eq]
  generalize (lg_sl ([.ref (ad 0), .int p1, .int p2]) ++ List.replicate (4 - (lg_sl ([.ref (ad 0), .int p1, .int p2])).length) Slot.unset).toArray = ls at hl ⊢
  have hl : lv_has ls 4 [(0, .ref (ad 0)), (1, .int p1), (2, .int p2)] := hl
  have L_2 : ∀ (n : Nat) (z : gS) (x1 : Int32) (x2 : Int32) (x3 : Int32) (ee : Nat) (z9 : gS), l_M_joined_2 n z x1 x2 x3 = some (ee, z9) → ∀ (H : Heap) (locs : List Loc) (ls : Array Slot), va_P D cl_all (wl 16 ad (g2 cy ad z)) H → va_S A s.heap H locs → lv_has ls 4 [(0, .ref (ad 0)), (1, .int x1), (2, .int x2), (3, .int x3)] →
      (ee = 0 → ∀ (H : Heap) (locs : List Loc) (ls : Array Slot), va_P D cl_all (wl 16 ad (g2 cy ad z9)) H → va_S A s.heap H locs → lv_has ls 4 [] → W p l e (headSpec (Cond.code y_M_joined c_M_joined 4 (some .boolean) :: gt_ws) ({ frames := 0, cells := 0, slots := 0, locals := 0 })).room s m ([.ref (ad 0), .int p1, .int p2]).toArray below meth c H locs 0 0 (MQ below (sQi D cl_all 16 ad (g2 cy ad z0) s.heap.size r (g2 cy ad zz)) ([.ref (ad 0), .int p1, .int p2]).toArray s 0 0 (va_A (wl 16 ad (g2 cy ad z0)) s.heap.size)) (F0 m 50 ls [])) →
      (ee = 1 → ∀ (H : Heap) (locs : List Loc) (ls : Array Slot), va_P D cl_all (wl 16 ad (g2 cy ad z9)) H → va_S A s.heap H locs → lv_has ls 4 [] → W p l e (headSpec (Cond.code y_M_joined c_M_joined 4 (some .boolean) :: gt_ws) ({ frames := 0, cells := 0, slots := 0, locals := 0 })).room s m ([.ref (ad 0), .int p1, .int p2]).toArray below meth c H locs 0 0 (MQ below (sQi D cl_all 16 ad (g2 cy ad z0) s.heap.size r (g2 cy ad zz)) ([.ref (ad 0), .int p1, .int p2]).toArray s 0 0 (va_A (wl 16 ad (g2 cy ad z0)) s.heap.size)) (F0 m 58 ls [])) →
      W p l e (headSpec (Cond.code y_M_joined c_M_joined 4 (some .boolean) :: gt_ws) ({ frames := 0, cells := 0, slots := 0, locals := 0 })).room s m ([.ref (ad 0), .int p1, .int p2]).toArray below meth c H locs 0 0 (MQ below (sQi D cl_all 16 ad (g2 cy ad z0) s.heap.size r (g2 cy ad zz)) ([.ref (ad 0), .int p1, .int p2]).toArray s 0 0 (va_A (wl 16 ad (g2 cy ad z0)) s.heap.size)) (F0 m 2 ls []) := by
    intro n
    induction n with
    | zero => intro z x1 x2 x3 ee z9 hf; rw [l_M_joined_2] at hf; cases hf
    | succ n ih =>
      intro z x1 x2 x3 ee z9 hf H locs ls hP hS hl k_0 k_1
      rw [l_M_joined_2] at hf
      refine lv_iload_n hx hb d_M_joined_2 rfl (lv_at hl 3 rfl) ?_
      refine lv_aload_n hx hb d_M_joined_3 rfl (lv_at hl 0 rfl) ?_
      refine wx_get (v := .int (z.1 0)) (C := RQ_M) (T := FQ_M) (N := 21) hx hb ht IQ_M hown hK hP 0 (by decide) (e_g2_0 cy ad _) rfl 6 (by decide) (ht _ kw_534) (fun _ h9 => h9) rfl d_M_joined_4 ?_
      refine lv_icmp_ge (tgt := 58) hx hb d_M_joined_7 (by decide) (fun c1 => ?_) (fun c1 => ?_)
      ·
        have hf := op_pos hf c1
        cases hf
        exact k_1 rfl _ _ _ hP hS (lv_sub hl [] rfl)
      ·
        have hf := op_neg hf c1
        refine lv_aload_n hx hb d_M_joined_10 rfl (lv_at hl 0 rfl) ?_
        refine wx_get (v := .ref (ad 4)) (C := RQ_M) (T := FQ_M) (N := 21) hx hb ht IQ_M hown hK hP 0 (by decide) (e_g2_0 cy ad _) rfl 3 (by decide) (ht _ kw_531) (fun _ h9 => h9) rfl d_M_joined_11 ?_
        refine lv_iload_n hx hb d_M_joined_14 rfl (lv_at hl 3 rfl) ?_
        obtain ⟨h2, hf⟩ := op_chk hf
        refine wx_iald hx hb hK hP 4 (by decide) (by decide) 10 rfl h2 d_M_joined_15 ?_
        refine lv_iload_n hx hb d_M_joined_16 rfl (lv_at hl 1 rfl) ?_
        refine lv_icmp_ne (tgt := 30) hx hb d_M_joined_17 (by decide) (fun c3 => ?_) (fun c3 => ?_)
        ·
          have hf := op_neg hf c3
          refine lv_aload_n hx hb d_M_joined_30 rfl (lv_at hl 0 rfl) ?_
          refine wx_get (v := .ref (ad 4)) (C := RQ_M) (T := FQ_M) (N := 21) hx hb ht IQ_M hown hK hP 0 (by decide) (e_g2_0 cy ad _) rfl 3 (by decide) (ht _ kw_531) (fun _ h9 => h9) rfl d_M_joined_31 ?_
          refine lv_iload_n hx hb d_M_joined_34 rfl (lv_at hl 3 rfl) ?_
          obtain ⟨h4, hf⟩ := op_chk hf
          refine wx_iald hx hb hK hP 4 (by decide) (by decide) 10 rfl h4 d_M_joined_35 ?_
          refine lv_iload_n hx hb d_M_joined_36 rfl (lv_at hl 2 rfl) ?_
          refine lv_icmp_ne (tgt := 52) hx hb d_M_joined_37 (by decide) (fun c5 => ?_) (fun c5 => ?_)
          ·
            have hf := op_neg hf c5
            refine lv_iinc (v := x3 + (1 : Int32)) (lv' := [(3, .int (x3 + (1 : Int32))), (0, .ref (ad 0)), (1, .int x1), (2, .int x2)]) hx hb d_M_joined_52 hl (k := 3) rfl rfl (by decide) rfl (fun ls hl => ?_)
            refine lv_goto (tgt := 2) hx hb d_M_joined_55 (by decide) ?_
            exact ih _ _ _ _ _ _ hf _ _ _ hP hS (lv_sub hl [1, 2, 3, 0] rfl) k_0 k_1
          ·
            have hf := op_pos hf c5
            refine lv_aload_n hx hb d_M_joined_40 rfl (lv_at hl 0 rfl) ?_
            refine wx_get (v := .ref (ad 5)) (C := RQ_M) (T := FQ_M) (N := 21) hx hb ht IQ_M hown hK hP 0 (by decide) (e_g2_0 cy ad _) rfl 4 (by decide) (ht _ kw_532) (fun _ h9 => h9) rfl d_M_joined_41 ?_
            refine lv_iload_n hx hb d_M_joined_44 rfl (lv_at hl 3 rfl) ?_
            obtain ⟨h6, hf⟩ := op_chk hf
            refine wx_iald hx hb hK hP 5 (by decide) (by decide) 10 rfl h6 d_M_joined_45 ?_
            refine lv_iload_n hx hb d_M_joined_46 rfl (lv_at hl 1 rfl) ?_
            refine lv_icmp_ne (tgt := 52) hx hb d_M_joined_47 (by decide) (fun c7 => ?_) (fun c7 => ?_)
            ·
              have hf := op_neg hf c7
              refine lv_iinc (v := x3 + (1 : Int32)) (lv' := [(3, .int (x3 + (1 : Int32))), (0, .ref (ad 0)), (1, .int x1), (2, .int x2)]) hx hb d_M_joined_52 hl (k := 3) rfl rfl (by decide) rfl (fun ls hl => ?_)
              refine lv_goto (tgt := 2) hx hb d_M_joined_55 (by decide) ?_
              exact ih _ _ _ _ _ _ hf _ _ _ hP hS (lv_sub hl [1, 2, 3, 0] rfl) k_0 k_1
            ·
              have hf := op_pos hf c7
              cases hf
              exact k_0 rfl _ _ _ hP hS (lv_sub hl [] rfl)
        ·
          have hf := op_pos hf c3
          refine lv_aload_n hx hb d_M_joined_20 rfl (lv_at hl 0 rfl) ?_
          refine wx_get (v := .ref (ad 5)) (C := RQ_M) (T := FQ_M) (N := 21) hx hb ht IQ_M hown hK hP 0 (by decide) (e_g2_0 cy ad _) rfl 4 (by decide) (ht _ kw_532) (fun _ h9 => h9) rfl d_M_joined_21 ?_
          refine lv_iload_n hx hb d_M_joined_24 rfl (lv_at hl 3 rfl) ?_
          obtain ⟨h8, hf⟩ := op_chk hf
          refine wx_iald hx hb hK hP 5 (by decide) (by decide) 10 rfl h8 d_M_joined_25 ?_
          refine lv_iload_n hx hb d_M_joined_26 rfl (lv_at hl 2 rfl) ?_
          refine lv_icmp_eq (tgt := 50) hx hb d_M_joined_27 (by decide) (fun c9 => ?_) (fun c9 => ?_)
          ·
            have hf := op_pos hf c9
            cases hf
            exact k_0 rfl _ _ _ hP hS (lv_sub hl [] rfl)
          ·
            have hf := op_neg hf c9
            refine lv_aload_n hx hb d_M_joined_30 rfl (lv_at hl 0 rfl) ?_
            refine wx_get (v := .ref (ad 4)) (C := RQ_M) (T := FQ_M) (N := 21) hx hb ht IQ_M hown hK hP 0 (by decide) (e_g2_0 cy ad _) rfl 3 (by decide) (ht _ kw_531) (fun _ h9 => h9) rfl d_M_joined_31 ?_
            refine lv_iload_n hx hb d_M_joined_34 rfl (lv_at hl 3 rfl) ?_
            obtain ⟨h10, hf⟩ := op_chk hf
            refine wx_iald hx hb hK hP 4 (by decide) (by decide) 10 rfl h10 d_M_joined_35 ?_
            refine lv_iload_n hx hb d_M_joined_36 rfl (lv_at hl 2 rfl) ?_
            refine lv_icmp_ne (tgt := 52) hx hb d_M_joined_37 (by decide) (fun c11 => ?_) (fun c11 => ?_)
            ·
              have hf := op_neg hf c11
              refine lv_iinc (v := x3 + (1 : Int32)) (lv' := [(3, .int (x3 + (1 : Int32))), (0, .ref (ad 0)), (1, .int x1), (2, .int x2)]) hx hb d_M_joined_52 hl (k := 3) rfl rfl (by decide) rfl (fun ls hl => ?_)
              refine lv_goto (tgt := 2) hx hb d_M_joined_55 (by decide) ?_
              exact ih _ _ _ _ _ _ hf _ _ _ hP hS (lv_sub hl [1, 2, 3, 0] rfl) k_0 k_1
            ·
              have hf := op_pos hf c11
              refine lv_aload_n hx hb d_M_joined_40 rfl (lv_at hl 0 rfl) ?_
              refine wx_get (v := .ref (ad 5)) (C := RQ_M) (T := FQ_M) (N := 21) hx hb ht IQ_M hown hK hP 0 (by decide) (e_g2_0 cy ad _) rfl 4 (by decide) (ht _ kw_532) (fun _ h9 => h9) rfl d_M_joined_41 ?_
              refine lv_iload_n hx hb d_M_joined_44 rfl (lv_at hl 3 rfl) ?_
              obtain ⟨h12, hf⟩ := op_chk hf
              refine wx_iald hx hb hK hP 5 (by decide) (by decide) 10 rfl h12 d_M_joined_45 ?_
              refine lv_iload_n hx hb d_M_joined_46 rfl (lv_at hl 1 rfl) ?_
              refine lv_icmp_ne (tgt := 52) hx hb d_M_joined_47 (by decide) (fun c13 => ?_) (fun c13 => ?_)
              ·
                have hf := op_neg hf c13
                refine lv_iinc (v := x3 + (1 : Int32)) (lv' := [(3, .int (x3 + (1 : Int32))), (0, .ref (ad 0)), (1, .int x1), (2, .int x2)]) hx hb d_M_joined_52 hl (k := 3) rfl rfl (by decide) rfl (fun ls hl => ?_)
                refine lv_goto (tgt := 2) hx hb d_M_joined_55 (by decide) ?_
                exact ih _ _ _ _ _ _ hf _ _ _ hP hS (lv_sub hl [1, 2, 3, 0] rfl) k_0 k_1
              ·
                have hf := op_pos hf c13
                cases hf
                exact k_0 rfl _ _ _ hP hS (lv_sub hl [] rfl)
  unfold f_M_joined at hf
  refine lv_iconst (v := 0) hx hb d_M_joined_0 (by decide) ?_
  refine lv_istore_n (lv' := [(3, .int (0 : Int32)), (0, .ref (ad 0)), (1, .int p1), (2, .int p2)]) hx hb d_M_joined_1 rfl hl (by decide) rfl (fun ls hl => ?_)
  obtain ⟨e14, w15, hc16, hf⟩ := op_b2 hf
  refine L_2 _ _ _ _ _ _ _ hc16 _ _ _ hP hS (lv_sub hl [1, 2, 3, 0] rfl) (fun he_e14 H locs ls hP hS hl => ?_) (fun he_e14 H locs ls hP hS hl => ?_)
  ·
    have hf := op_pos hf he_e14
    refine lv_iconst (v := 1) hx hb d_M_joined_50 (by decide) ?_
    obtain ⟨hv9, rfl⟩ := op_inj hf
    exact wx_zret hx hb hr hlocks (by first | decide | rfl) hAe hP hS hv9 d_M_joined_51
  ·
    have hf := op_neg hf (by omega)
    refine lv_iconst (v := 0) hx hb d_M_joined_58 (by decide) ?_
    obtain ⟨hv9, rfl⟩ := op_inj hf
    exact wx_zret hx hb hr hlocks (by first | decide | rfl) hAe hP hS hv9 d_M_joined_59
