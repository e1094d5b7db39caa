def l_M_moved_44 : Nat → gS → Int32 → Int32 → Int32 → Int32 → Int32 → Option (Int32 × Int32 × Int32 × Int32 × gS)
  | 0, _, _, _, _, _, _ => none
  | n + 1, z, x1, x2, x3, x4, x5 =>
    if (10 : Int32) ≤ x5 then (some (x1, x2, x3, x4, z))
     else (if x5 < 0 ∨ 10 ≤ x5.toNatClampNeg then none else
     if (z.2.2.1 7 x5.toNatClampNeg) = 0 then (l_M_moved_44 n z x1 x2 x3 x4 (x5 + (1 : Int32)))
     else (if x4 < 0 ∨ 10 ≤ x4.toNatClampNeg then none else
     if x4 < 0 ∨ 10 ≤ x4.toNatClampNeg then none else
     if (((z.2.2.1 12 x4.toNatClampNeg) * (10 : Int32)) + x5) < 0 ∨ 100 ≤ (((z.2.2.1 12 x4.toNatClampNeg) * (10 : Int32)) + x5).toNatClampNeg then none else
     bd2 (f_M_fixedOf z x1 x5) (fun r9 w8 =>
     if x4 < 0 ∨ 10 ≤ x4.toNatClampNeg then none else
     (some (s_J w8 14 (vp_updL (w8.2.2.2 14) x4.toNatClampNeg ((z.2.2.2 14 x4.toNatClampNeg) - (((z.2.2.1 13 (((z.2.2.1 12 x4.toNatClampNeg) * (10 : Int32)) + x5).toNatClampNeg).toInt64) * r9))))).bind (fun w11 =>
     l_M_moved_44 n w11 x1 x2 x3 x4 (x5 + (1 : Int32))))))
def l_M_moved_13 : Nat → gS → Int32 → Int32 → Int32 → Int32 → Option (Int32 × Int32 × Int32 × gS)
  | 0, _, _, _, _, _ => none
  | n + 1, z, x1, x2, x3, x4 =>
    if (z.1 3) ≤ x4 then (some (x1, x2, x3, z))
     else (if x4 < 0 ∨ 10 ≤ x4.toNatClampNeg then none else
     bd2 (f_M_loadOf z x1 (z.2.2.1 12 x4.toNatClampNeg)) (fun r17 w16 =>
     if x4 < 0 ∨ 10 ≤ x4.toNatClampNeg then none else
     (some (s_J w16 14 (vp_updL (w16.2.2.2 14) x4.toNatClampNeg r17))).bind (fun w19 =>
     bd5 (l_M_moved_44 200 w19 x1 x2 x3 x4 (0 : Int32)) (fun v21 v22 v23 v24 w25 =>
     if v24 < 0 ∨ 10 ≤ v24.toNatClampNeg then none else
     if (w25.2.2.1 12 v24.toNatClampNeg) = v22 then (l_M_moved_13 n w25 v21 v22 v24 (v24 + (1 : Int32)))
     else (l_M_moved_13 n w25 v21 v22 v23 (v24 + (1 : Int32)))))))
def f_M_moved (z0 : gS) (p1 : Int32) (p2 : Int32) : Option (Int64 × gS) :=
 bd1 (f_M_makeOrder z0) (fun w30 =>
 bd1 (f_M_makeMatrix w30) (fun w32 =>
 bd4 (l_M_moved_13 200 w32 p1 p2 (-1 : Int32) (0 : Int32)) (fun v33 v34 v35 w36 =>
 if 0 ≤ v35 then (bd2 (f_M_det w36 (w36.1 3) v35) (fun r41 w40 =>
 some (r41, w40)))
 else (bd2 (f_M_fixedOf w36 v33 v34) (fun r44 w43 =>
 bd2 (f_M_det w43 (w43.1 3) (-1 : Int32)) (fun r47 w46 =>
 some ((r44 * r47), w46)))))))
set_option maxHeartbeats 4000000 in
set_option maxRecDepth 100000 in
theorem m_M_moved (l : Launch) (D : va_G) (cy : Nat → ClassId) (ad : Nat → Nat) (sz : Nat) (z0 : gS) (p1 : Int32) (p2 : Int32) (r : Int64) (zz : gS) (hf : f_M_moved z0 p1 p2 = some (r, zz)) : Met l y_M_moved (Cond.code y_M_moved c_M_moved 6 (some .long) :: gt_ws) ({ frames := 4, cells := 0, slots := 0, locals := 180 }) (sPc D cl_all (gTy cy) nwM 16 ad (g2 cy ad z0) sz [.ref (ad 0), .int p1, .int p2]) (sQl D cl_all 16 ad (g2 cy ad z0) sz r (g2 cy ad zz)) 0 0 (va_A (wl 16 ad (g2 cy ad z0)) sz) := by
  refine Met.ofW (cc := c_M_moved) (maxL := 6) (ret := (some .long)) (by decide) rfl ?_
  intro p e s m args below meth c s₁ B hml hv
  obtain ⟨rfl, hsz, hP, hK, hN, hD0⟩ := hv
  have hx := B.exec
  have hb := B.bytes
  have hr := B.returns
  have hts := atoms_spec (ws := (Cond.code y_M_moved c_M_moved 6 (some .long) :: gt_ws)) B.pre
  have ht : ∀ w ∈ gt_ws, w.before _ s = true := fun w h => hts w (List.mem_cons_of_mem _ h)
  have hown : s.vm.findClass RQ_M = some m.cls := findClass_of_methodNamed B.named
  have hlocks := B.notSynchronized
  subst hsz
  have hD1 := hD0.self (sz := s.heap.size)
  obtain ⟨A, hAe⟩ : ∃ A, A = va_A (wl 16 ad (g2 cy ad z0)) s.heap.size := ⟨_, rfl⟩
  rw [← hAe] at hD1
  have hD : ∀ g, va_D A (wl 16 ad g) := fun _ => wl_D hD1
  have hA : ∀ q : Nat, s.heap.size ≤ q → A q := fun q h => by rw [hAe]; exact Or.inr h
  have hS : va_S A s.heap s.heap [] := va_S.rf
  have hl := lv_entry ([.ref (ad 0), .int p1, .int p2]) (n := 6) (Nat.le_of_ble_eq_true rfl)
  rw [lg_entry_eq]
  generalize (lg_sl ([.ref (ad 0), .int p1, .int p2]) ++ List.replicate (6 - (lg_sl ([.ref (ad 0), .int p1, .int p2])).length) Slot.unset).toArray = ls at hl ⊢
  have hl : lv_has ls 6 [(0, .ref (ad 0)), (1, .int p1), (2, .int p2)] := hl
  have L_44 : ∀ (n : Nat) (z : gS) (x1 : Int32) (x2 : Int32) (x3 : Int32) (x4 : Int32) (x5 : Int32) (y1 : Int32) (y2 : Int32) (y3 : Int32) (y4 : Int32) (z9 : gS), l_M_moved_44 n z x1 x2 x3 x4 x5 = some (y1, y2, y3, y4, z9) → ∀ (H : Heap) (locs : List Loc) (ls : Array Slot), va_P D cl_all (wl 16 ad (g2 cy ad z)) H → va_S A s.heap H locs → lv_has ls 6 [(0, .ref (ad 0)), (1, .int x1), (2, .int x2), (3, .int x3), (4, .int x4), (5, .int x5)] →
      (∀ (H : Heap) (locs : List Loc) (ls : Array Slot), va_P D cl_all (wl 16 ad (g2 cy ad z9)) H → va_S A s.heap H locs → lv_has ls 6 [(0, .ref (ad 0)), (1, .int y1), (2, .int y2), (3, .int y3), (4, .int y4)] → W p l e (headSpec (Cond.code y_M_moved c_M_moved 6 (some .long) :: gt_ws) ({ frames := 4, cells := 0, slots := 0, locals := 180 })).room s m ([.ref (ad 0), .int p1, .int p2]).toArray below meth c H locs 0 0 (MQ below (sQl D cl_all 16 ad (g2 cy ad z0) s.heap.size r (g2 cy ad zz)) ([.ref (ad 0), .int p1, .int p2]).toArray s 0 0 (va_A (wl 16 ad (g2 cy ad z0)) s.heap.size)) (F0 m 104 ls [])) →
      W p l e (headSpec (Cond.code y_M_moved c_M_moved 6 (some .long) :: gt_ws) ({ frames := 4, cells := 0, slots := 0, locals := 180 })).room s m ([.ref (ad 0), .int p1, .int p2]).toArray below meth c H locs 0 0 (MQ below (sQl D cl_all 16 ad (g2 cy ad z0) s.heap.size r (g2 cy ad zz)) ([.ref (ad 0), .int p1, .int p2]).toArray s 0 0 (va_A (wl 16 ad (g2 cy ad z0)) s.heap.size)) (F0 m 44 ls []) := by
    intro n
    induction n with
    | zero => intro z x1 x2 x3 x4 x5 y1 y2 y3 y4 z9 hf; rw [l_M_moved_44] at hf; cases hf
    | succ n ih =>
      intro z x1 x2 x3 x4 x5 y1 y2 y3 y4 z9 hf H locs ls hP hS hl k_0
      rw [l_M_moved_44] at hf
      refine lv_iload hx hb d_M_moved_44 (lv_at hl 5 rfl) ?_
      refine lv_bipush (v := 10) hx hb d_M_moved_46 (by decide) ?_
      refine lv_icmp_ge (tgt := 104) hx hb d_M_moved_48 (by decide) (fun c1 => ?_) (fun c1 => ?_)
      ·
        have hf := op_pos hf c1
        cases hf
        exact k_0 _ _ _ hP hS (lv_sub hl [0, 1, 2, 3, 4] rfl)
      ·
        have hf := op_neg hf c1
        refine lv_aload_n hx hb d_M_moved_51 rfl (lv_at hl 0 rfl) ?_
        refine wx_get (v := .ref (ad 7)) (C := RQ_M) (T := FQ_M) (N := 21) hx hb ht IQ_M hown hK hP 0 (by decide) (e_g2_0 cy ad _) rfl 7 (by decide) (ht _ kw_535) (fun _ h9 => h9) rfl d_M_moved_52 ?_
        refine lv_iload hx hb d_M_moved_55 (lv_at hl 5 rfl) ?_
        obtain ⟨h2, hf⟩ := op_chk hf
        refine wx_zald hx hb hK hP 7 (by decide) (by decide) 10 rfl h2 d_M_moved_57 ?_
        refine lv_if_eq (tgt := 98) hx hb d_M_moved_58 (by decide) (fun c3 => ?_) (fun c3 => ?_)
        ·
          have hf := op_pos hf c3
          refine lv_iinc (v := x5 + (1 : Int32)) (lv' := [(5, .int (x5 + (1 : Int32))), (0, .ref (ad 0)), (1, .int x1), (2, .int x2), (3, .int x3), (4, .int x4)]) hx hb d_M_moved_98 hl (k := 5) rfl rfl (by decide) rfl (fun ls hl => ?_)
          refine lv_goto (tgt := 44) hx hb d_M_moved_101 (by decide) ?_
          exact ih _ _ _ _ _ _ _ _ _ _ _ hf _ _ _ hP hS (lv_sub hl [1, 2, 3, 4, 5, 0] rfl) k_0
        ·
          have hf := op_neg hf c3
          refine lv_aload_n hx hb d_M_moved_61 rfl (lv_at hl 0 rfl) ?_
          refine wx_get (v := .ref (ad 14)) (C := RQ_M) (T := FQ_M) (N := 21) hx hb ht IQ_M hown hK hP 0 (by decide) (e_g2_0 cy ad _) rfl 17 (by decide) (ht _ kw_545) (fun _ h9 => h9) rfl d_M_moved_62 ?_
          refine lv_iload hx hb d_M_moved_65 (lv_at hl 4 rfl) ?_
          refine lv_dup2_11 hx hb d_M_moved_67 rfl rfl ?_
          obtain ⟨h4, hf⟩ := op_chk hf
          refine wx_lald hx hb hK hP 14 (by decide) (by decide) 10 rfl h4 d_M_moved_68 ?_
          refine lv_aload_n hx hb d_M_moved_69 rfl (lv_at hl 0 rfl) ?_
          refine wx_get (v := .ref (ad 13)) (C := RQ_M) (T := FQ_M) (N := 21) hx hb ht IQ_M hown hK hP 0 (by decide) (e_g2_0 cy ad _) rfl 16 (by decide) (ht _ kw_544) (fun _ h9 => h9) rfl d_M_moved_70 ?_
          refine lv_aload_n hx hb d_M_moved_73 rfl (lv_at hl 0 rfl) ?_
          refine wx_get (v := .ref (ad 12)) (C := RQ_M) (T := FQ_M) (N := 21) hx hb ht IQ_M hown hK hP 0 (by decide) (e_g2_0 cy ad _) rfl 14 (by decide) (ht _ kw_542) (fun _ h9 => h9) rfl d_M_moved_74 ?_
          refine lv_iload hx hb d_M_moved_77 (lv_at hl 4 rfl) ?_
          obtain ⟨h5, hf⟩ := op_chk hf
          refine wx_iald hx hb hK hP 12 (by decide) (by decide) 10 rfl h5 d_M_moved_79 ?_
          refine lv_bipush (v := 10) hx hb d_M_moved_80 (by decide) ?_
          refine lv_imul hx hb d_M_moved_82 ?_
          refine lv_iload hx hb d_M_moved_83 (lv_at hl 5 rfl) ?_
          refine lv_iadd hx hb d_M_moved_85 ?_
          obtain ⟨h6, hf⟩ := op_chk hf
          refine wx_iald hx hb hK hP 13 (by decide) (by decide) 100 rfl h6 d_M_moved_86 ?_
          refine lv_i2l hx hb d_M_moved_87 rfl ?_
          refine lv_aload_n hx hb d_M_moved_88 rfl (lv_at hl 0 rfl) ?_
          refine lv_iload_n hx hb d_M_moved_89 rfl (lv_at hl 1 rfl) ?_
          refine lv_iload hx hb d_M_moved_90 (lv_at hl 5 rfl) ?_
          obtain ⟨r9, w8, hc7, hf⟩ := op_b2 hf
          refine wx_fl (wx_rV (As := [.int x1, .int x5]) (rest := [.long ((z.2.2.1 13 (((z.2.2.1 12 x4.toNatClampNeg) * (10 : Int32)) + x5).toNatClampNeg).toInt64), .long (z.2.2.2 14 x4.toNatClampNeg), .int x4, .ref (ad 14)]) ⟨hx, hb, hml, hown, ht⟩ (m_M_fixedOf l D cy ad _ z x1 x5 _ _ hc7) ⟨callB_of 2 ht (gt_in (fun _ h9 => h9) kw_711) rfl rfl rfl (ht _ kw_52) (ht _ kw_708) q_M_fixedOf ⟨Nat.le_of_ble_eq_true rfl, Nat.le_of_ble_eq_true rfl⟩, ht _ kw_710, ht _ kw_42⟩ nwM_ok hN hK hP (hD _) (by decide) (e_g2_0 cy ad _) rfl rfl hl.1 rfl (Nat.le_of_ble_eq_true rfl) d_M_moved_92 ⟨Nat.zero_le _, Nat.zero_le _⟩) (hD _) hS hA (fun H locs hP hS => ?_)
          refine lv_lmul hx hb d_M_moved_95 ?_
          refine lv_lsub hx hb d_M_moved_96 ?_
          obtain ⟨h10, hf⟩ := op_chk hf
          refine wx_last hx hb hK hP (hD _) hS 14 (by decide) (by decide) 10 rfl h10 d_M_moved_97 (fun H locs hP hS => ?_)
          obtain ⟨w11, h12, hf⟩ := op_let hf
          rw [h12] at hP
          refine lv_iinc (v := x5 + (1 : Int32)) (lv' := [(5, .int (x5 + (1 : Int32))), (0, .ref (ad 0)), (1, .int x1), (2, .int x2), (3, .int x3), (4, .int x4)]) hx hb d_M_moved_98 hl (k := 5) rfl rfl (by decide) rfl (fun ls hl => ?_)
          refine lv_goto (tgt := 44) hx hb d_M_moved_101 (by decide) ?_
          exact ih _ _ _ _ _ _ _ _ _ _ _ hf _ _ _ hP hS (lv_sub hl [1, 2, 3, 4, 5, 0] rfl) k_0
  have L_13 : ∀ (n : Nat) (z : gS) (x1 : Int32) (x2 : Int32) (x3 : Int32) (x4 : Int32) (y1 : Int32) (y2 : Int32) (y3 : Int32) (z9 : gS), l_M_moved_13 n z x1 x2 x3 x4 = some (y1, y2, y3, z9) → ∀ (H : Heap) (locs : List Loc) (ls : Array Slot), va_P D cl_all (wl 16 ad (g2 cy ad z)) H → va_S A s.heap H locs → lv_has ls 6 [(0, .ref (ad 0)), (1, .int x1), (2, .int x2), (3, .int x3), (4, .int x4)] →
      (∀ (H : Heap) (locs : List Loc) (ls : Array Slot), va_P D cl_all (wl 16 ad (g2 cy ad z9)) H → va_S A s.heap H locs → lv_has ls 6 [(0, .ref (ad 0)), (1, .int y1), (2, .int y2), (3, .int y3)] → W p l e (headSpec (Cond.code y_M_moved c_M_moved 6 (some .long) :: gt_ws) ({ frames := 4, cells := 0, slots := 0, locals := 180 })).room s m ([.ref (ad 0), .int p1, .int p2]).toArray below meth c H locs 0 0 (MQ below (sQl D cl_all 16 ad (g2 cy ad z0) s.heap.size r (g2 cy ad zz)) ([.ref (ad 0), .int p1, .int p2]).toArray s 0 0 (va_A (wl 16 ad (g2 cy ad z0)) s.heap.size)) (F0 m 124 ls [])) →
      W p l e (headSpec (Cond.code y_M_moved c_M_moved 6 (some .long) :: gt_ws) ({ frames := 4, cells := 0, slots := 0, locals := 180 })).room s m ([.ref (ad 0), .int p1, .int p2]).toArray below meth c H locs 0 0 (MQ below (sQl D cl_all 16 ad (g2 cy ad z0) s.heap.size r (g2 cy ad zz)) ([.ref (ad 0), .int p1, .int p2]).toArray s 0 0 (va_A (wl 16 ad (g2 cy ad z0)) s.heap.size)) (F0 m 13 ls []) := by
    intro n
    induction n with
    | zero => intro z x1 x2 x3 x4 y1 y2 y3 z9 hf; rw [l_M_moved_13] at hf; cases hf
    | succ n ih =>
      intro z x1 x2 x3 x4 y1 y2 y3 z9 hf H locs ls hP hS hl k_0
      rw [l_M_moved_13] at hf
      refine lv_iload hx hb d_M_moved_13 (lv_at hl 4 rfl) ?_
      refine lv_aload_n hx hb d_M_moved_15 rfl (lv_at hl 0 rfl) ?_
      refine wx_get (v := .int (z.1 3)) (C := RQ_M) (T := FQ_M) (N := 21) hx hb ht IQ_M hown hK hP 0 (by decide) (e_g2_0 cy ad _) rfl 15 (by decide) (ht _ kw_543) (fun _ h9 => h9) rfl d_M_moved_16 ?_
      refine lv_icmp_ge (tgt := 124) hx hb d_M_moved_19 (by decide) (fun c13 => ?_) (fun c13 => ?_)
      ·
        have hf := op_pos hf c13
        cases hf
        exact k_0 _ _ _ hP hS (lv_sub hl [0, 1, 2, 3] rfl)
      ·
        have hf := op_neg hf c13
        refine lv_aload_n hx hb d_M_moved_22 rfl (lv_at hl 0 rfl) ?_
        refine wx_get (v := .ref (ad 14)) (C := RQ_M) (T := FQ_M) (N := 21) hx hb ht IQ_M hown hK hP 0 (by decide) (e_g2_0 cy ad _) rfl 17 (by decide) (ht _ kw_545) (fun _ h9 => h9) rfl d_M_moved_23 ?_
        refine lv_iload hx hb d_M_moved_26 (lv_at hl 4 rfl) ?_
        refine lv_aload_n hx hb d_M_moved_28 rfl (lv_at hl 0 rfl) ?_
        refine lv_iload_n hx hb d_M_moved_29 rfl (lv_at hl 1 rfl) ?_
        refine lv_aload_n hx hb d_M_moved_30 rfl (lv_at hl 0 rfl) ?_
        refine wx_get (v := .ref (ad 12)) (C := RQ_M) (T := FQ_M) (N := 21) hx hb ht IQ_M hown hK hP 0 (by decide) (e_g2_0 cy ad _) rfl 14 (by decide) (ht _ kw_542) (fun _ h9 => h9) rfl d_M_moved_31 ?_
        refine lv_iload hx hb d_M_moved_34 (lv_at hl 4 rfl) ?_
        obtain ⟨h14, hf⟩ := op_chk hf
        refine wx_iald hx hb hK hP 12 (by decide) (by decide) 10 rfl h14 d_M_moved_36 ?_
        obtain ⟨r17, w16, hc15, hf⟩ := op_b2 hf
        refine wx_fl (wx_rV (As := [.int x1, .int (z.2.2.1 12 x4.toNatClampNeg)]) (rest := [.int x4, .ref (ad 14)]) ⟨hx, hb, hml, hown, ht⟩ (m_M_loadOf l D cy ad _ z x1 (z.2.2.1 12 x4.toNatClampNeg) _ _ hc15) ⟨callB_of 2 ht (gt_in (fun _ h9 => h9) kw_707) rfl rfl rfl (ht _ kw_52) (ht _ kw_704) q_M_loadOf ⟨Nat.le_of_ble_eq_true rfl, Nat.le_of_ble_eq_true rfl⟩, ht _ kw_706, ht _ kw_41⟩ nwM_ok hN hK hP (hD _) (by decide) (e_g2_0 cy ad _) rfl rfl hl.1 rfl (Nat.le_of_ble_eq_true rfl) d_M_moved_37 ⟨Nat.zero_le _, Nat.zero_le _⟩) (hD _) hS hA (fun H locs hP hS => ?_)
        obtain ⟨h18, hf⟩ := op_chk hf
        refine wx_last hx hb hK hP (hD _) hS 14 (by decide) (by decide) 10 rfl h18 d_M_moved_40 (fun H locs hP hS => ?_)
        obtain ⟨w19, h20, hf⟩ := op_let hf
        rw [h20] at hP
        refine lv_iconst (v := 0) hx hb d_M_moved_41 (by decide) ?_
        refine lv_istore (lv' := [(5, .int (0 : Int32)), (0, .ref (ad 0)), (1, .int x1), (2, .int x2), (3, .int x3), (4, .int x4)]) hx hb d_M_moved_42 hl (by decide) rfl (fun ls hl => ?_)
        obtain ⟨v21, v22, v23, v24, w25, hc26, hf⟩ := op_b5 hf
        refine L_44 _ _ _ _ _ _ _ _ _ _ _ _ hc26 _ _ _ hP hS (lv_sub hl [1, 2, 3, 4, 5, 0] rfl) (fun H locs ls hP hS hl => ?_)
        refine lv_aload_n hx hb d_M_moved_104 rfl (lv_at hl 0 rfl) ?_
        refine wx_get (v := .ref (ad 12)) (C := RQ_M) (T := FQ_M) (N := 21) hx hb ht IQ_M hown hK hP 0 (by decide) (e_g2_0 cy ad _) rfl 14 (by decide) (ht _ kw_542) (fun _ h9 => h9) rfl d_M_moved_105 ?_
        refine lv_iload hx hb d_M_moved_108 (lv_at hl 4 rfl) ?_
        obtain ⟨h27, hf⟩ := op_chk hf
        refine wx_iald hx hb hK hP 12 (by decide) (by decide) 10 rfl h27 d_M_moved_110 ?_
        refine lv_iload_n hx hb d_M_moved_111 rfl (lv_at hl 2 rfl) ?_
        refine lv_icmp_ne (tgt := 118) hx hb d_M_moved_112 (by decide) (fun c28 => ?_) (fun c28 => ?_)
        ·
          have hf := op_neg hf c28
          refine lv_iinc (v := v24 + (1 : Int32)) (lv' := [(4, .int (v24 + (1 : Int32))), (0, .ref (ad 0)), (1, .int v21), (2, .int v22), (3, .int v23)]) hx hb d_M_moved_118 hl (k := 4) rfl rfl (by decide) rfl (fun ls hl => ?_)
          refine lv_goto (tgt := 13) hx hb d_M_moved_121 (by decide) ?_
          exact ih _ _ _ _ _ _ _ _ _ hf _ _ _ hP hS (lv_sub hl [1, 2, 3, 4, 0] rfl) k_0
        ·
          have hf := op_pos hf c28
          refine lv_iload hx hb d_M_moved_115 (lv_at hl 4 rfl) ?_
          refine lv_istore_n (lv' := [(3, .int v24), (0, .ref (ad 0)), (1, .int v21), (2, .int v22), (4, .int v24)]) hx hb d_M_moved_117 rfl hl (by decide) rfl (fun ls hl => ?_)
          refine lv_iinc (v := v24 + (1 : Int32)) (lv' := [(4, .int (v24 + (1 : Int32))), (3, .int v24), (0, .ref (ad 0)), (1, .int v21), (2, .int v22)]) hx hb d_M_moved_118 hl (k := 4) rfl rfl (by decide) rfl (fun ls hl => ?_)
          refine lv_goto (tgt := 13) hx hb d_M_moved_121 (by decide) ?_
          exact ih _ _ _ _ _ _ _ _ _ hf _ _ _ hP hS (lv_sub hl [2, 3, 4, 1, 0] rfl) k_0
  unfold f_M_moved at hf
  refine lv_aload_n hx hb d_M_moved_0 rfl (lv_at hl 0 rfl) ?_
  obtain ⟨w30, hc29, hf⟩ := op_b1 hf
  refine wx_fv (wx_rV (As := []) (rest := []) ⟨hx, hb, hml, hown, ht⟩ (m_M_makeOrder l D cy ad _ z0 _ hc29) ⟨callB_of 0 ht (gt_in (fun _ h9 => h9) kw_627) rfl rfl rfl (ht _ kw_52) (ht _ kw_624) q_M_makeOrder ⟨Nat.le_of_ble_eq_true rfl, Nat.le_of_ble_eq_true rfl⟩, ht _ kw_626, ht _ kw_25⟩ nwM_ok hN hK hP (hD _) (by decide) (e_g2_0 cy ad _) rfl rfl hl.1 rfl (Nat.le_of_ble_eq_true rfl) d_M_moved_1 ⟨Nat.zero_le _, Nat.zero_le _⟩) (hD _) hS hA (fun H locs hP hS => ?_)
  refine lv_aload_n hx hb d_M_moved_4 rfl (lv_at hl 0 rfl) ?_
  obtain ⟨w32, hc31, hf⟩ := op_b1 hf
  refine wx_fv (wx_rV (As := []) (rest := []) ⟨hx, hb, hml, hown, ht⟩ (m_M_makeMatrix l D cy ad _ w30 _ hc31) ⟨callB_of 0 ht (gt_in (fun _ h9 => h9) kw_655) rfl rfl rfl (ht _ kw_52) (ht _ kw_652) q_M_makeMatrix ⟨Nat.le_of_ble_eq_true rfl, Nat.le_of_ble_eq_true rfl⟩, ht _ kw_654, ht _ kw_32⟩ nwM_ok hN hK hP (hD _) (by decide) (e_g2_0 cy ad _) rfl rfl hl.1 rfl (Nat.le_of_ble_eq_true rfl) d_M_moved_5 ⟨Nat.zero_le _, Nat.zero_le _⟩) (hD _) hS hA (fun H locs hP hS => ?_)
  refine lv_iconst (v := -1) hx hb d_M_moved_8 (by decide) ?_
  refine lv_istore_n (lv' := [(3, .int (-1 : Int32)), (0, .ref (ad 0)), (1, .int p1), (2, .int p2)]) hx hb d_M_moved_9 rfl hl (by decide) rfl (fun ls hl => ?_)
  refine lv_iconst (v := 0) hx hb d_M_moved_10 (by decide) ?_
  refine lv_istore (lv' := [(4, .int (0 : Int32)), (3, .int (-1 : Int32)), (0, .ref (ad 0)), (1, .int p1), (2, .int p2)]) hx hb d_M_moved_11 hl (by decide) rfl (fun ls hl => ?_)
  obtain ⟨v33, v34, v35, w36, hc37, hf⟩ := op_b4 hf
  refine L_13 _ _ _ _ _ _ _ _ _ _ hc37 _ _ _ hP hS (lv_sub hl [2, 3, 4, 1, 0] rfl) (fun H locs ls hP hS hl => ?_)
  refine lv_iload_n hx hb d_M_moved_124 rfl (lv_at hl 3 rfl) ?_
  refine lv_if_ge (tgt := 147) hx hb d_M_moved_125 (by decide) (fun c38 => ?_) (fun c38 => ?_)
  ·
    have hf := op_pos hf c38
    refine lv_aload_n hx hb d_M_moved_147 rfl (lv_at hl 0 rfl) ?_
    refine lv_aload_n hx hb d_M_moved_148 rfl (lv_at hl 0 rfl) ?_
    refine wx_get (v := .int (w36.1 3)) (C := RQ_M) (T := FQ_M) (N := 21) hx hb ht IQ_M hown hK hP 0 (by decide) (e_g2_0 cy ad _) rfl 15 (by decide) (ht _ kw_543) (fun _ h9 => h9) rfl d_M_moved_149 ?_
    refine lv_iload_n hx hb d_M_moved_152 rfl (lv_at hl 3 rfl) ?_
    obtain ⟨r41, w40, hc39, hf⟩ := op_b2 hf
    refine wx_fl (wx_rV (As := [.int (w36.1 3), .int v35]) (rest := []) ⟨hx, hb, hml, hown, ht⟩ (m_M_det l D cy ad _ w36 (w36.1 3) v35 _ _ hc39) ⟨callB_of 2 ht (gt_in (fun _ h9 => h9) kw_667) rfl rfl rfl (ht _ kw_52) (ht _ kw_664) q_M_det ⟨Nat.le_of_ble_eq_true rfl, Nat.le_of_ble_eq_true rfl⟩, ht _ kw_666, ht _ kw_35⟩ nwM_ok hN hK hP (hD _) (by decide) (e_g2_0 cy ad _) rfl rfl hl.1 rfl (Nat.le_of_ble_eq_true rfl) d_M_moved_153 ⟨Nat.zero_le _, Nat.zero_le _⟩) (hD _) hS hA (fun H locs hP hS => ?_)
    obtain ⟨hv9, rfl⟩ := op_inj hf
    exact wx_lret hx hb hr hlocks hAe hP hS hv9 d_M_moved_156
  ·
    have hf := op_neg hf c38
    refine lv_aload_n hx hb d_M_moved_128 rfl (lv_at hl 0 rfl) ?_
    refine lv_iload_n hx hb d_M_moved_129 rfl (lv_at hl 1 rfl) ?_
    refine lv_iload_n hx hb d_M_moved_130 rfl (lv_at hl 2 rfl) ?_
    obtain ⟨r44, w43, hc42, hf⟩ := op_b2 hf
    refine wx_fl (wx_rV (As := [.int v33, .int v34]) (rest := []) ⟨hx, hb, hml, hown, ht⟩ (m_M_fixedOf l D cy ad _ w36 v33 v34 _ _ hc42) ⟨callB_of 2 ht (gt_in (fun _ h9 => h9) kw_711) rfl rfl rfl (ht _ kw_52) (ht _ kw_708) q_M_fixedOf ⟨Nat.le_of_ble_eq_true rfl, Nat.le_of_ble_eq_true rfl⟩, ht _ kw_710, ht _ kw_42⟩ nwM_ok hN hK hP (hD _) (by decide) (e_g2_0 cy ad _) rfl rfl hl.1 rfl (Nat.le_of_ble_eq_true rfl) d_M_moved_131 ⟨Nat.zero_le _, Nat.zero_le _⟩) (hD _) hS hA (fun H locs hP hS => ?_)
    refine lv_aload_n hx hb d_M_moved_134 rfl (lv_at hl 0 rfl) ?_
    refine lv_aload_n hx hb d_M_moved_135 rfl (lv_at hl 0 rfl) ?_
    refine wx_get (v := .int (w43.1 3)) (C := RQ_M) (T := FQ_M) (N := 21) hx hb ht IQ_M hown hK hP 0 (by decide) (e_g2_0 cy ad _) rfl 15 (by decide) (ht _ kw_543) (fun _ h9 => h9) rfl d_M_moved_136 ?_
    refine lv_iconst (v := -1) hx hb d_M_moved_139 (by decide) ?_
    obtain ⟨r47, w46, hc45, hf⟩ := op_b2 hf
    refine wx_fl (wx_rV (As := [.int (w43.1 3), .int (-1 : Int32)]) (rest := [.long r44]) ⟨hx, hb, hml, hown, ht⟩ (m_M_det l D cy ad _ w43 (w43.1 3) (-1 : Int32) _ _ hc45) ⟨callB_of 2 ht (gt_in (fun _ h9 => h9) kw_667) rfl rfl rfl (ht _ kw_52) (ht _ kw_664) q_M_det ⟨Nat.le_of_ble_eq_true rfl, Nat.le_of_ble_eq_true rfl⟩, ht _ kw_666, ht _ kw_35⟩ nwM_ok hN hK hP (hD _) (by decide) (e_g2_0 cy ad _) rfl rfl hl.1 rfl (Nat.le_of_ble_eq_true rfl) d_M_moved_140 ⟨Nat.zero_le _, Nat.zero_le _⟩) (hD _) hS hA (fun H locs hP hS => ?_)
    refine lv_lmul hx hb d_M_moved_143 ?_
    refine lv_goto (tgt := 156) hx hb d_M_moved_144 (by decide) ?_
    obtain ⟨hv9, rfl⟩ := op_inj hf
    exact wx_lret hx hb hr hlocks hAe hP hS hv9 d_M_moved_156

def f_M_determinant (z0 : gS) : Option (Int64 × gS) :=
 if (z0.1 1) = 0 then (some ((-4000000000000000000 : Int64), z0))
 else (bd1 (f_M_makeOrder z0) (fun w3 =>
 bd1 (f_M_makeMatrix w3) (fun w5 =>
 bd2 (f_M_det w5 (w5.1 3) (-1 : Int32)) (fun r8 w7 =>
 some (r8, w7)))))
set_option maxHeartbeats 4000000 in
set_option maxRecDepth 100000 in
theorem m_M_determinant (l : Launch) (D : va_G) (cy : Nat → ClassId) (ad : Nat → Nat) (sz : Nat) (z0 : gS) (r : Int64) (zz : gS) (hf : f_M_determinant z0 = some (r, zz)) : Met l y_M_determinant (Cond.code y_M_determinant c_M_determinant 1 (some .long) :: gt_ws) ({ frames := 4, cells := 0, slots := 0, locals := 180 }) (sPc D cl_all (gTy cy) nwM 16 ad (g2 cy ad z0) sz [.ref (ad 0)]) (sQl D cl_all 16 ad (g2 cy ad z0) sz r (g2 cy ad zz)) 0 0 (va_A (wl 16 ad (g2 cy ad z0)) sz) := by
  refine Met.ofW (cc := c_M_determinant) (maxL := 1) (ret := (some .long)) (by decide) rfl ?_
  intro p e s m args below meth c s₁ B hml hv
  obtain ⟨rfl, hsz, hP, hK, hN, hD0⟩ := hv
  have hx := B.exec
  have hb := B.bytes
  have hr := B.returns
  have hts := atoms_spec (ws := (Cond.code y_M_determinant c_M_determinant 1 (some .long) :: gt_ws)) B.pre
  have ht : ∀ w ∈ gt_ws, w.before _ s = true := fun w h => hts w (List.mem_cons_of_mem _ h)
  have hown : s.vm.findClass RQ_M = some m.cls := findClass_of_methodNamed B.named
  have hlocks := B.notSynchronized
  subst hsz
  have hD1 := hD0.self (sz := s.heap.size)
  obtain ⟨A, hAe⟩ : ∃ A, A = va_A (wl 16 ad (g2 cy ad z0)) s.heap.size := ⟨_, rfl⟩
  rw [← hAe] at hD1
  have hD : ∀ g, va_D A (wl 16 ad g) := fun _ => wl_D hD1
  have hA : ∀ q : Nat, s.heap.size ≤ q → A q := fun q h => by rw [hAe]; exact Or.inr h
  have hS : va_S A s.heap s.heap [] := va_S.rf
  have hl := lv_entry ([.ref (ad 0)]) (n := 1) (Nat.le_of_ble_eq_true rfl)
  rw [lg_entry_eq]
  generalize (lg_sl ([.ref (ad 0)]) ++ List.replicate (1 - (lg_sl ([.ref (ad 0)])).length) Slot.unset).toArray = ls at hl ⊢
  have hl : lv_has ls 1 [(0, .ref (ad 0))] := hl
  unfold f_M_determinant at hf
  refine lv_aload_n hx hb d_M_determinant_0 rfl (lv_at hl 0 rfl) ?_
  refine wx_get (v := .int (z0.1 1)) (C := RQ_M) (T := FQ_M) (N := 21) hx hb ht IQ_M hown hK hP 0 (by decide) (e_g2_0 cy ad _) rfl 11 (by decide) (ht _ kw_539) (fun _ h9 => h9) rfl d_M_determinant_1 ?_
  refine lv_if_ne (tgt := 11) hx hb d_M_determinant_4 (by decide) (fun c1 => ?_) (fun c1 => ?_)
  ·
    have hf := op_neg hf c1
    refine lv_aload_n hx hb d_M_determinant_11 rfl (lv_at hl 0 rfl) ?_
    obtain ⟨w3, hc2, hf⟩ := op_b1 hf
    refine wx_fv (wx_rV (As := []) (rest := []) ⟨hx, hb, hml, hown, ht⟩ (m_M_makeOrder l D cy ad _ z0 _ hc2) ⟨callB_of 0 ht (gt_in (fun _ h9 => h9) kw_627) rfl rfl rfl (ht _ kw_52) (ht _ kw_624) q_M_makeOrder ⟨Nat.le_of_ble_eq_true rfl, Nat.le_of_ble_eq_true rfl⟩, ht _ kw_626, ht _ kw_25⟩ nwM_ok hN hK hP (hD _) (by decide) (e_g2_0 cy ad _) rfl rfl hl.1 rfl (Nat.le_of_ble_eq_true rfl) d_M_determinant_12 ⟨Nat.zero_le _, Nat.zero_le _⟩) (hD _) hS hA (fun H locs hP hS => ?_)
    refine lv_aload_n hx hb d_M_determinant_15 rfl (lv_at hl 0 rfl) ?_
    obtain ⟨w5, hc4, hf⟩ := op_b1 hf
    refine wx_fv (wx_rV (As := []) (rest := []) ⟨hx, hb, hml, hown, ht⟩ (m_M_makeMatrix l D cy ad _ w3 _ hc4) ⟨callB_of 0 ht (gt_in (fun _ h9 => h9) kw_655) rfl rfl rfl (ht _ kw_52) (ht _ kw_652) q_M_makeMatrix ⟨Nat.le_of_ble_eq_true rfl, Nat.le_of_ble_eq_true rfl⟩, ht _ kw_654, ht _ kw_32⟩ nwM_ok hN hK hP (hD _) (by decide) (e_g2_0 cy ad _) rfl rfl hl.1 rfl (Nat.le_of_ble_eq_true rfl) d_M_determinant_16 ⟨Nat.zero_le _, Nat.zero_le _⟩) (hD _) hS hA (fun H locs hP hS => ?_)
    refine lv_aload_n hx hb d_M_determinant_19 rfl (lv_at hl 0 rfl) ?_
    refine lv_aload_n hx hb d_M_determinant_20 rfl (lv_at hl 0 rfl) ?_
    refine wx_get (v := .int (w5.1 3)) (C := RQ_M) (T := FQ_M) (N := 21) hx hb ht IQ_M hown hK hP 0 (by decide) (e_g2_0 cy ad _) rfl 15 (by decide) (ht _ kw_543) (fun _ h9 => h9) rfl d_M_determinant_21 ?_
    refine lv_iconst (v := -1) hx hb d_M_determinant_24 (by decide) ?_
    obtain ⟨r8, w7, hc6, hf⟩ := op_b2 hf
    refine wx_fl (wx_rV (As := [.int (w5.1 3), .int (-1 : Int32)]) (rest := []) ⟨hx, hb, hml, hown, ht⟩ (m_M_det l D cy ad _ w5 (w5.1 3) (-1 : Int32) _ _ hc6) ⟨callB_of 2 ht (gt_in (fun _ h9 => h9) kw_667) rfl rfl rfl (ht _ kw_52) (ht _ kw_664) q_M_det ⟨Nat.le_of_ble_eq_true rfl, Nat.le_of_ble_eq_true rfl⟩, ht _ kw_666, ht _ kw_35⟩ nwM_ok hN hK hP (hD _) (by decide) (e_g2_0 cy ad _) rfl rfl hl.1 rfl (Nat.le_of_ble_eq_true rfl) d_M_determinant_25 ⟨Nat.zero_le _, Nat.zero_le _⟩) (hD _) hS hA (fun H locs hP hS => ?_)
    obtain ⟨hv9, rfl⟩ := op_inj hf
    exact wx_lret hx hb hr hlocks hAe hP hS hv9 d_M_determinant_28
  ·
    have hf := op_pos hf c1
    refine lv_ldc2 hx hb hown (ht _ kw_695) d_M_determinant_7 ?_
    obtain ⟨hv9, rfl⟩ := op_inj hf
    exact wx_lret hx hb hr hlocks hAe hP hS hv9 d_M_determinant_10

def l_M_fraction_21 : Nat → gS → Int64 → Int64 → Int32 → Option (Int64 × Int64 × Int32 × gS)
  | 0, _, _, _, _ => none
  | n + 1, z, x1, x3, x5 =>
    if (lg_cmp (z.2.1 1) (0 : Int64)) = 0 then (some (x1, x3, x5, z))
     else (if (z.2.1 1) = 0 then none else
     (some (((z.2.1 0) - (z.2.1 0) / (z.2.1 1) * (z.2.1 1)) : Int64)).bind (fun v3 =>
     (some ((z.2.1 1) : Int64)).bind (fun v5 =>
     (some (s_l z 0 v5)).bind (fun w7 =>
     (some (s_l w7 1 v3)).bind (fun w9 =>
     l_M_fraction_21 n w9 x1 x3 x5)))))
def f_M_fraction (z0 : gS) (p1 : Int64) (p3 : Int64) (p5 : Int32) : Option (Int64 × gS) :=
 if 0 ≤ (lg_cmp p1 (0 : Int64)) then ((some (s_l z0 0 p1)).bind (fun w12 =>
 (some (s_l w12 1 p3)).bind (fun w14 =>
 bd4 (l_M_fraction_21 200 w14 p1 p3 p5) (fun v16 v17 v18 w19 =>
 if v18 = 0 then (if (w19.2.1 0) = 0 then none else
 some ((v16 / (w19.2.1 0)), w19))
 else (if (w19.2.1 0) = 0 then none else
 some ((v17 / (w19.2.1 0)), w19))))))
 else ((some ((-p1) : Int64)).bind (fun v24 =>
 (some (s_l z0 0 v24)).bind (fun w26 =>
 (some (s_l w26 1 p3)).bind (fun w28 =>
 bd4 (l_M_fraction_21 200 w28 p1 p3 p5) (fun v30 v31 v32 w33 =>
 if v32 = 0 then (if (w33.2.1 0) = 0 then none else
 some ((v30 / (w33.2.1 0)), w33))
 else (if (w33.2.1 0) = 0 then none else
 some ((v31 / (w33.2.1 0)), w33)))))))
set_option maxHeartbeats 4000000 in
set_option maxRecDepth 100000 in
theorem m_M_fraction (l : Launch) (D : va_G) (cy : Nat → ClassId) (ad : Nat → Nat) (sz : Nat) (z0 : gS) (p1 : Int64) (p3 : Int64) (p5 : Int32) (r : Int64) (zz : gS) (hf : f_M_fraction z0 p1 p3 p5 = some (r, zz)) : Met l y_M_fraction (Cond.code y_M_fraction c_M_fraction 8 (some .long) :: gt_ws) ({ frames := 0, cells := 0, slots := 0, locals := 0 }) (sPc D cl_all (gTy cy) nwM 16 ad (g2 cy ad z0) sz [.ref (ad 0), .long p1, .long p3, .int p5]) (sQl D cl_all 16 ad (g2 cy ad z0) sz r (g2 cy ad zz)) 0 0 (va_A (wl 16 ad (g2 cy ad z0)) sz) := by
  refine Met.ofW (cc := c_M_fraction) (maxL := 8) (ret := (some .long)) (by decide) rfl ?_
  intro p e s m args below meth c s₁ B hml hv
  obtain ⟨rfl, hsz, hP, hK, hN, hD0⟩ := hv
  have hx := B.exec
  have hb := B.bytes
  have hr := B.returns
  have hts := atoms_spec (ws := (Cond.code y_M_fraction c_M_fraction 8 (some .long) :: gt_ws)) B.pre
  have ht : ∀ w ∈ gt_ws, w.before _ s = true := fun w h => hts w (List.mem_cons_of_mem _ h)
  have hown : s.vm.findClass RQ_M = some m.cls := findClass_of_methodNamed B.named
  have hlocks := B.notSynchronized
  subst hsz
  have hD1 := hD0.self (sz := s.heap.size)
  obtain ⟨A, hAe⟩ : ∃ A, A = va_A (wl 16 ad (g2 cy ad z0)) s.heap.size := ⟨_, rfl⟩
  rw [← hAe] at hD1
  have hD : ∀ g, va_D A (wl 16 ad g) := fun _ => wl_D hD1
  have hA : ∀ q : Nat, s.heap.size ≤ q → A q := fun q h => by rw [hAe]; exact Or.inr h
  have hS : va_S A s.heap s.heap [] := va_S.rf
  have hl := lv_entry ([.ref (ad 0), .long p1, .long p3, .int p5]) (n := 8) (Nat.le_of_ble_eq_true rfl)
  rw [lg_entry_eq]
  generalize (lg_sl ([.ref (ad 0), .long p1, .long p3, .int p5]) ++ List.replicate (8 - (lg_sl ([.ref (ad 0), .long p1, .long p3, .int p5])).length) Slot.unset).toArray = ls at hl ⊢
  have hl : lv_has ls 8 [(0, .ref (ad 0)), (1, .long p1), (3, .long p3), (5, .int p5)] := hl
  have L_21 : ∀ (n : Nat) (z : gS) (x1 : Int64) (x3 : Int64) (x5 : Int32) (y1 : Int64) (y3 : Int64) (y5 : Int32) (z9 : gS), l_M_fraction_21 n z x1 x3 x5 = some (y1, y3, y5, z9) → ∀ (H : Heap) (locs : List Loc) (ls : Array Slot), va_P D cl_all (wl 16 ad (g2 cy ad z)) H → va_S A s.heap H locs → lv_has ls 8 [(0, .ref (ad 0)), (1, .long x1), (3, .long x3), (5, .int x5)] →
      (∀ (H : Heap) (locs : List Loc) (ls : Array Slot), va_P D cl_all (wl 16 ad (g2 cy ad z9)) H → va_S A s.heap H locs → lv_has ls 8 [(0, .ref (ad 0)), (1, .long y1), (3, .long y3), (5, .int y5)] → W p l e (headSpec (Cond.code y_M_fraction c_M_fraction 8 (some .long) :: gt_ws) ({ frames := 0, cells := 0, slots := 0, locals := 0 })).room s m ([.ref (ad 0), .long p1, .long p3, .int p5]).toArray below meth c H locs 0 0 (MQ below (sQl D cl_all 16 ad (g2 cy ad z0) s.heap.size r (g2 cy ad zz)) ([.ref (ad 0), .long p1, .long p3, .int p5]).toArray s 0 0 (va_A (wl 16 ad (g2 cy ad z0)) s.heap.size)) (F0 m 58 ls [])) →
      W p l e (headSpec (Cond.code y_M_fraction c_M_fraction 8 (some .long) :: gt_ws) ({ frames := 0, cells := 0, slots := 0, locals := 0 })).room s m ([.ref (ad 0), .long p1, .long p3, .int p5]).toArray below meth c H locs 0 0 (MQ below (sQl D cl_all 16 ad (g2 cy ad z0) s.heap.size r (g2 cy ad zz)) ([.ref (ad 0), .long p1, .long p3, .int p5]).toArray s 0 0 (va_A (wl 16 ad (g2 cy ad z0)) s.heap.size)) (F0 m 21 ls []) := by
    intro n
    induction n with
    | zero => intro z x1 x3 x5 y1 y3 y5 z9 hf; rw [l_M_fraction_21] at hf; cases hf
    | succ n ih =>
      intro z x1 x3 x5 y1 y3 y5 z9 hf H locs ls hP hS hl k_0
      rw [l_M_fraction_21] at hf
      refine lv_aload_n hx hb d_M_fraction_21 rfl (lv_at hl 0 rfl) ?_
      refine wx_get (v := .long (z.2.1 1)) (C := RQ_M) (T := FQ_M) (N := 21) hx hb ht IQ_M hown hK hP 0 (by decide) (e_g2_0 cy ad _) rfl 20 (by decide) (ht _ kw_548) (fun _ h9 => h9) rfl d_M_fraction_22 ?_
      refine lv_lconst (v := 0) hx hb d_M_fraction_25 (by decide) ?_
      refine W.lcmp hx hb d_M_fraction_26 ?_
      refine lv_if_eq (tgt := 58) hx hb d_M_fraction_27 (by decide) (fun c1 => ?_) (fun c1 => ?_)
      ·
        have hf := op_pos hf c1
        cases hf
        exact k_0 _ _ _ hP hS (lv_sub hl [0, 1, 2, 3] rfl)
      ·
        have hf := op_neg hf c1
        refine lv_aload_n hx hb d_M_fraction_30 rfl (lv_at hl 0 rfl) ?_
        refine wx_get (v := .long (z.2.1 0)) (C := RQ_M) (T := FQ_M) (N := 21) hx hb ht IQ_M hown hK hP 0 (by decide) (e_g2_0 cy ad _) rfl 19 (by decide) (ht _ kw_547) (fun _ h9 => h9) rfl d_M_fraction_31 ?_
        refine lv_aload_n hx hb d_M_fraction_34 rfl (lv_at hl 0 rfl) ?_
        refine wx_get (v := .long (z.2.1 1)) (C := RQ_M) (T := FQ_M) (N := 21) hx hb ht IQ_M hown hK hP 0 (by decide) (e_g2_0 cy ad _) rfl 20 (by decide) (ht _ kw_548) (fun _ h9 => h9) rfl d_M_fraction_35 ?_
        obtain ⟨h2, hf⟩ := op_chk hf
        refine lv_lrem hx hb d_M_fraction_38 h2 ?_
        obtain ⟨v3, h4, hf⟩ := op_let hf
        refine sw_l h4 ?_
        refine lv_lstore (lv' := [(6, .long v3), (0, .ref (ad 0)), (1, .long x1), (3, .long x3), (5, .int x5)]) hx hb d_M_fraction_39 hl (by decide) rfl (fun ls hl => ?_)
        refine lv_aload_n hx hb d_M_fraction_41 rfl (lv_at hl 1 rfl) ?_
        refine lv_aload_n hx hb d_M_fraction_42 rfl (lv_at hl 1 rfl) ?_
        refine wx_get (v := .long (z.2.1 1)) (C := RQ_M) (T := FQ_M) (N := 21) hx hb ht IQ_M hown hK hP 0 (by decide) (e_g2_0 cy ad _) rfl 20 (by decide) (ht _ kw_548) (fun _ h9 => h9) rfl d_M_fraction_43 ?_
        obtain ⟨v5, h6, hf⟩ := op_let hf
        refine sw_l h6 ?_
        refine wx_put (v := .long v5) (ty := .long) (C := RQ_M) (T := FQ_M) (N := 21) hx hb ht IQ_M TQ_M TQ_M_ok NQ_M hown hK hP (hD _) hS 0 (by decide) (e_g2_0 cy ad _) rfl 19 (by decide) (ht _ kw_547) (fun _ h9 => h9) rfl (by decide +kernel) rfl rfl (Nat.le_of_ble_eq_true rfl) d_M_fraction_46 (up_M_top cy ad _ v5) (fun H locs hP hS => ?_)
        obtain ⟨w7, h8, hf⟩ := op_let hf
        rw [h8] at hP
        refine lv_aload_n hx hb d_M_fraction_49 rfl (lv_at hl 1 rfl) ?_
        refine lv_lload hx hb d_M_fraction_50 (lv_at hl 0 rfl) ?_
        refine wx_put (v := .long v3) (ty := .long) (C := RQ_M) (T := FQ_M) (N := 21) hx hb ht IQ_M TQ_M TQ_M_ok NQ_M hown hK hP (hD _) hS 0 (by decide) (e_g2_0 cy ad _) rfl 20 (by decide) (ht _ kw_548) (fun _ h9 => h9) rfl (by decide +kernel) rfl rfl (Nat.le_of_ble_eq_true rfl) d_M_fraction_52 (up_M_below cy ad _ v3) (fun H locs hP hS => ?_)
        obtain ⟨w9, h10, hf⟩ := op_let hf
        rw [h10] at hP
        refine lv_goto (tgt := 21) hx hb d_M_fraction_55 (by decide) ?_
        exact ih _ _ _ _ _ _ _ _ hf _ _ _ hP hS (lv_sub hl [1, 2, 3, 4] rfl) k_0
  unfold f_M_fraction at hf
  refine lv_aload_n hx hb d_M_fraction_0 rfl (lv_at hl 0 rfl) ?_
  refine lv_lload_n hx hb d_M_fraction_1 rfl (lv_at hl 1 rfl) ?_
  refine lv_lconst (v := 0) hx hb d_M_fraction_2 (by decide) ?_
  refine W.lcmp hx hb d_M_fraction_3 ?_
  refine lv_if_ge (tgt := 12) hx hb d_M_fraction_4 (by decide) (fun c11 => ?_) (fun c11 => ?_)
  ·
    have hf := op_pos hf c11
    refine lv_lload_n hx hb d_M_fraction_12 rfl (lv_at hl 1 rfl) ?_
    refine wx_put (v := .long p1) (ty := .long) (C := RQ_M) (T := FQ_M) (N := 21) hx hb ht IQ_M TQ_M TQ_M_ok NQ_M hown hK hP (hD _) hS 0 (by decide) (e_g2_0 cy ad _) rfl 19 (by decide) (ht _ kw_547) (fun _ h9 => h9) rfl (by decide +kernel) rfl rfl (Nat.le_of_ble_eq_true rfl) d_M_fraction_13 (up_M_top cy ad _ p1) (fun H locs hP hS => ?_)
    obtain ⟨w12, h13, hf⟩ := op_let hf
    rw [h13] at hP
    refine lv_aload_n hx hb d_M_fraction_16 rfl (lv_at hl 0 rfl) ?_
    refine lv_lload_n hx hb d_M_fraction_17 rfl (lv_at hl 2 rfl) ?_
    refine wx_put (v := .long p3) (ty := .long) (C := RQ_M) (T := FQ_M) (N := 21) hx hb ht IQ_M TQ_M TQ_M_ok NQ_M hown hK hP (hD _) hS 0 (by decide) (e_g2_0 cy ad _) rfl 20 (by decide) (ht _ kw_548) (fun _ h9 => h9) rfl (by decide +kernel) rfl rfl (Nat.le_of_ble_eq_true rfl) d_M_fraction_18 (up_M_below cy ad _ p3) (fun H locs hP hS => ?_)
    obtain ⟨w14, h15, hf⟩ := op_let hf
    rw [h15] at hP
    obtain ⟨v16, v17, v18, w19, hc20, hf⟩ := op_b4 hf
    refine L_21 _ _ _ _ _ _ _ _ _ hc20 _ _ _ hP hS (lv_sub hl [0, 1, 2, 3] rfl) (fun H locs ls hP hS hl => ?_)
    refine lv_iload hx hb d_M_fraction_58 (lv_at hl 3 rfl) ?_
    refine lv_if_ne (tgt := 72) hx hb d_M_fraction_60 (by decide) (fun c21 => ?_) (fun c21 => ?_)
    ·
      have hf := op_neg hf c21
      refine lv_lload_n hx hb d_M_fraction_72 rfl (lv_at hl 2 rfl) ?_
      refine lv_aload_n hx hb d_M_fraction_73 rfl (lv_at hl 0 rfl) ?_
      refine wx_get (v := .long (w19.2.1 0)) (C := RQ_M) (T := FQ_M) (N := 21) hx hb ht IQ_M hown hK hP 0 (by decide) (e_g2_0 cy ad _) rfl 19 (by decide) (ht _ kw_547) (fun _ h9 => h9) rfl d_M_fraction_74 ?_
      obtain ⟨h22, hf⟩ := op_chk hf
      refine lv_ldiv hx hb d_M_fraction_77 h22 ?_
      obtain ⟨hv9, rfl⟩ := op_inj hf
      exact wx_lret hx hb hr hlocks hAe hP hS hv9 d_M_fraction_78
    ·
      have hf := op_pos hf c21
      refine lv_lload_n hx hb d_M_fraction_63 rfl (lv_at hl 1 rfl) ?_
      refine lv_aload_n hx hb d_M_fraction_64 rfl (lv_at hl 0 rfl) ?_
      refine wx_get (v := .long (w19.2.1 0)) (C := RQ_M) (T := FQ_M) (N := 21) hx hb ht IQ_M hown hK hP 0 (by decide) (e_g2_0 cy ad _) rfl 19 (by decide) (ht _ kw_547) (fun _ h9 => h9) rfl d_M_fraction_65 ?_
      obtain ⟨h23, hf⟩ := op_chk hf
      refine lv_ldiv hx hb d_M_fraction_68 h23 ?_
      refine lv_goto (tgt := 78) hx hb d_M_fraction_69 (by decide) ?_
      obtain ⟨hv9, rfl⟩ := op_inj hf
      exact wx_lret hx hb hr hlocks hAe hP hS hv9 d_M_fraction_78
  ·
    have hf := op_neg hf c11
    refine lv_lload_n hx hb d_M_fraction_7 rfl (lv_at hl 1 rfl) ?_
    refine lv_lneg hx hb d_M_fraction_8 ?_
    refine lv_goto (tgt := 13) hx hb d_M_fraction_9 (by decide) ?_
    obtain ⟨v24, h25, hf⟩ := op_let hf
    refine sw_l h25 ?_
    refine wx_put (v := .long v24) (ty := .long) (C := RQ_M) (T := FQ_M) (N := 21) hx hb ht IQ_M TQ_M TQ_M_ok NQ_M hown hK hP (hD _) hS 0 (by decide) (e_g2_0 cy ad _) rfl 19 (by decide) (ht _ kw_547) (fun _ h9 => h9) rfl (by decide +kernel) rfl rfl (Nat.le_of_ble_eq_true rfl) d_M_fraction_13 (up_M_top cy ad _ v24) (fun H locs hP hS => ?_)
    obtain ⟨w26, h27, hf⟩ := op_let hf
    rw [h27] at hP
    refine lv_aload_n hx hb d_M_fraction_16 rfl (lv_at hl 0 rfl) ?_
    refine lv_lload_n hx hb d_M_fraction_17 rfl (lv_at hl 2 rfl) ?_
    refine wx_put (v := .long p3) (ty := .long) (C := RQ_M) (T := FQ_M) (N := 21) hx hb ht IQ_M TQ_M TQ_M_ok NQ_M hown hK hP (hD _) hS 0 (by decide) (e_g2_0 cy ad _) rfl 20 (by decide) (ht _ kw_548) (fun _ h9 => h9) rfl (by decide +kernel) rfl rfl (Nat.le_of_ble_eq_true rfl) d_M_fraction_18 (up_M_below cy ad _ p3) (fun H locs hP hS => ?_)
    obtain ⟨w28, h29, hf⟩ := op_let hf
    rw [h29] at hP
    obtain ⟨v30, v31, v32, w33, hc34, hf⟩ := op_b4 hf
    refine L_21 _ _ _ _ _ _ _ _ _ hc34 _ _ _ hP hS (lv_sub hl [0, 1, 2, 3] rfl) (fun H locs ls hP hS hl => ?_)
    refine lv_iload hx hb d_M_fraction_58 (lv_at hl 3 rfl) ?_
    refine lv_if_ne (tgt := 72) hx hb d_M_fraction_60 (by decide) (fun c35 => ?_) (fun c35 => ?_)
    ·
      have hf := op_neg hf c35
      refine lv_lload_n hx hb d_M_fraction_72 rfl (lv_at hl 2 rfl) ?_
      refine lv_aload_n hx hb d_M_fraction_73 rfl (lv_at hl 0 rfl) ?_
      refine wx_get (v := .long (w33.2.1 0)) (C := RQ_M) (T := FQ_M) (N := 21) hx hb ht IQ_M hown hK hP 0 (by decide) (e_g2_0 cy ad _) rfl 19 (by decide) (ht _ kw_547) (fun _ h9 => h9) rfl d_M_fraction_74 ?_
      obtain ⟨h36, hf⟩ := op_chk hf
      refine lv_ldiv hx hb d_M_fraction_77 h36 ?_
      obtain ⟨hv9, rfl⟩ := op_inj hf
      exact wx_lret hx hb hr hlocks hAe hP hS hv9 d_M_fraction_78
    ·
      have hf := op_pos hf c35
      refine lv_lload_n hx hb d_M_fraction_63 rfl (lv_at hl 1 rfl) ?_
      refine lv_aload_n hx hb d_M_fraction_64 rfl (lv_at hl 0 rfl) ?_
      refine wx_get (v := .long (w33.2.1 0)) (C := RQ_M) (T := FQ_M) (N := 21) hx hb ht IQ_M hown hK hP 0 (by decide) (e_g2_0 cy ad _) rfl 19 (by decide) (ht _ kw_547) (fun _ h9 => h9) rfl d_M_fraction_65 ?_
      obtain ⟨h37, hf⟩ := op_chk hf
      refine lv_ldiv hx hb d_M_fraction_68 h37 ?_
      refine lv_goto (tgt := 78) hx hb d_M_fraction_69 (by decide) ?_
      obtain ⟨hv9, rfl⟩ := op_inj hf
      exact wx_lret hx hb hr hlocks hAe hP hS hv9 d_M_fraction_78
