def f_M_off (z0 : gS) (p1 : Int32) (p2 : Int32) : Option (Int32 × gS) :=
 if p1 < 0 then (some ((1 : Int32), z0))
 else (if p1 ≤ p2 then (some ((0 : Int32), z0))
 else (some ((1 : Int32), z0)))
set_option maxHeartbeats 4000000 in
set_option maxRecDepth 100000 in
theorem m_M_off (l : Launch) (D : va_G) (cy : Nat → ClassId) (ad : Nat → Nat) (sz : Nat) (z0 : gS) (p1 : Int32) (p2 : Int32) (r : Int32) (zz : gS) (hf : f_M_off z0 p1 p2 = some (r, zz)) : Met l y_M_off (Cond.code y_M_off c_M_off 3 (some .boolean) :: gt_ws) ({ frames := 0, cells := 0, slots := 0, locals := 0 }) (sPc D cl_all (gTy cy) nwM 16 ad (g2 cy ad z0) sz [.ref (ad 0), .int p1, .int p2]) (sQi D cl_all 16 ad (g2 cy ad z0) sz r (g2 cy ad zz)) 0 0 (va_A (wl 16 ad (g2 cy ad z0)) sz) := by
  refine Met.ofW (cc := c_M_off) (maxL := 3) (ret := (some .boolean)) (by decide) rfl ?_
  intro p e s m args below meth c s₁ B hml hv
  obtain ⟨rfl, hsz, hP, hK, hN, hD0⟩ := hv
  have hx := B.exec
  have hb := B.bytes
  have hr := B.returns
  have hts := atoms_spec (ws := (Cond.code y_M_off c_M_off 3 (some .boolean) :: gt_ws)) B.pre
  have ht : ∀ w ∈ gt_ws, w.before _ s = true := fun w h => hts w (List.mem_cons_of_mem _ h)
  have hown : s.vm.findClass RQ_M = some m.cls := findClass_of_methodNamed B.named
  have hlocks := B.notSynchronized
  subst hsz
  have hD1 := hD0.self (sz := s.heap.size)
  obtain ⟨A, hAe⟩ : ∃ A, A = va_A (wl 16 ad (g2 cy ad z0)) s.heap.size := ⟨_, rfl⟩
  rw [← hAe] at hD1
  have hD : ∀ g, va_D A (wl 16 ad g) := fun _ => wl_D hD1
  have hA : ∀ q : Nat, s.heap.size ≤ q → A q := fun q h => by rw [hAe]; exact Or.inr h
  have hS : va_S A s.heap s.heap [] := va_S.rf
  have hl := lv_entry ([.ref (ad 0), .int p1, .int p2]) (n := 3) (Nat.le_of_ble_eq_true rfl)
  rw [lg_entry_eq]
  generalize (lg_sl ([.ref (ad 0), .int p1, .int p2]) ++ List.replicate (3 - (lg_sl ([.ref (ad 0), .int p1, .int p2])).length) Slot.unset).toArray = ls at hl ⊢
  have hl : lv_has ls 3 [(0, .ref (ad 0)), (1, .int p1), (2, .int p2)] := hl
  unfold f_M_off at hf
  refine lv_iload_n hx hb d_M_off_0 rfl (lv_at hl 1 rfl) ?_
  refine lv_if_lt (tgt := 9) hx hb d_M_off_1 (by decide) (fun c1 => ?_) (fun c1 => ?_)
  ·
    have hf := op_pos hf c1
    refine lv_iconst (v := 1) hx hb d_M_off_9 (by decide) ?_
    refine lv_goto (tgt := 14) hx hb d_M_off_10 (by decide) ?_
    obtain ⟨hv9, rfl⟩ := op_inj hf
    exact wx_zret hx hb hr hlocks (by first | decide | rfl) hAe hP hS hv9 d_M_off_14
  ·
    have hf := op_neg hf c1
    refine lv_iload_n hx hb d_M_off_4 rfl (lv_at hl 1 rfl) ?_
    refine lv_iload_n hx hb d_M_off_5 rfl (lv_at hl 2 rfl) ?_
    refine lv_icmp_le (tgt := 13) hx hb d_M_off_6 (by decide) (fun c2 => ?_) (fun c2 => ?_)
    ·
      have hf := op_pos hf c2
      refine lv_iconst (v := 0) hx hb d_M_off_13 (by decide) ?_
      obtain ⟨hv9, rfl⟩ := op_inj hf
      exact wx_zret hx hb hr hlocks (by first | decide | rfl) hAe hP hS hv9 d_M_off_14
    ·
      have hf := op_neg hf c2
      refine lv_iconst (v := 1) hx hb d_M_off_9 (by decide) ?_
      refine lv_goto (tgt := 14) hx hb d_M_off_10 (by decide) ?_
      obtain ⟨hv9, rfl⟩ := op_inj hf
      exact wx_zret hx hb hr hlocks (by first | decide | rfl) hAe hP hS hv9 d_M_off_14

def l_M_node_42 : Nat → gS → Int32 → Int32 → Int32 → Int32 → Option (Nat × Int32 × Int32 × Int32 × gS)
  | 0, _, _, _, _, _ => none
  | n + 1, z, x1, x2, x3, x4 =>
    if (5 : Int32) ≤ x4 then (some (1, x1, x2, x3, z))
     else (if x4 = x1 then (l_M_node_42 n z x1 x2 x3 (x4 + (1 : Int32)))
     else (if x4 < 0 ∨ 5 ≤ x4.toNatClampNeg then none else
     if (z.2.2.1 1 x4.toNatClampNeg) = 0 then (l_M_node_42 n z x1 x2 x3 (x4 + (1 : Int32)))
     else (if x4 < 0 ∨ 5 ≤ x4.toNatClampNeg then none else
     if (z.2.2.1 2 x4.toNatClampNeg) = x2 then (if x4 < 0 ∨ 5 ≤ x4.toNatClampNeg then none else
     if (z.2.2.1 3 x4.toNatClampNeg) = x3 then (some (0, x1, x2, x3, z))
     else (l_M_node_42 n z x1 x2 x3 (x4 + (1 : Int32))))
     else (l_M_node_42 n z x1 x2 x3 (x4 + (1 : Int32))))))
def f_M_node (z0 : gS) (p1 : Int32) (p2 : Int32) (p3 : Int32) : Option (Int32 × gS) :=
 bd2 (f_M_off z0 p1 (4 : Int32)) (fun r11 w10 =>
 if r11 = 0 then (bd2 (f_M_off w10 p2 (4 : Int32)) (fun r15 w14 =>
 if r15 = 0 then (bd2 (f_M_off w14 p3 (4 : Int32)) (fun r19 w18 =>
 if r19 = 0 then (if (w18.1 1) = 0 then (bd5 (l_M_node_42 200 w18 p1 p2 p3 (0 : Int32)) (fun e22 v23 v24 v25 w26 =>
 if e22 = 0 then (some ((-2 : Int32), w26))
 else (if v23 < 0 ∨ 5 ≤ v23.toNatClampNeg then none else
 (some (s_I w26 1 (upd (w26.2.2.1 1) v23.toNatClampNeg (vp_nar .boolean (1 : Int32))))).bind (fun w29 =>
 if v23 < 0 ∨ 5 ≤ v23.toNatClampNeg then none else
 (some (s_I w29 2 (upd (w29.2.2.1 2) v23.toNatClampNeg v24))).bind (fun w32 =>
 if v23 < 0 ∨ 5 ≤ v23.toNatClampNeg then none else
 (some (s_I w32 3 (upd (w32.2.2.1 3) v23.toNatClampNeg v25))).bind (fun w35 =>
 some ((0 : Int32), w35)))))))
 else (some ((-4 : Int32), w18)))
 else (some ((-1 : Int32), w18))))
 else (some ((-1 : Int32), w14))))
 else (some ((-1 : Int32), w10)))
set_option maxHeartbeats 4000000 in
set_option maxRecDepth 100000 in
theorem m_M_node (l : Launch) (D : va_G) (cy : Nat → ClassId) (ad : Nat → Nat) (sz : Nat) (z0 : gS) (p1 : Int32) (p2 : Int32) (p3 : Int32) (r : Int32) (zz : gS) (hf : f_M_node z0 p1 p2 p3 = some (r, zz)) : Met l y_M_node (Cond.code y_M_node c_M_node 5 (some .int) :: gt_ws) ({ frames := 1, cells := 0, slots := 0, locals := 45 }) (sPc D cl_all (gTy cy) nwM 16 ad (g2 cy ad z0) sz [.ref (ad 0), .int p1, .int p2, .int p3]) (sQi D cl_all 16 ad (g2 cy ad z0) sz r (g2 cy ad zz)) 0 0 (va_A (wl 16 ad (g2 cy ad z0)) sz) := by
  refine Met.ofW (cc := c_M_node) (maxL := 5) (ret := (some .int)) (by decide) rfl ?_
  intro p e s m args below meth c s₁ B hml hv
  obtain ⟨rfl, hsz, hP, hK, hN, hD0⟩ := hv
  have hx := B.exec
  have hb := B.bytes
  have hr := B.returns
  have hts := atoms_spec (ws := (Cond.code y_M_node c_M_node 5 (some .int) :: gt_ws)) B.pre
  have ht : ∀ w ∈ gt_ws, w.before _ s = true := fun w h => hts w (List.mem_cons_of_mem _ h)
  have hown : s.vm.findClass RQ_M = some m.cls := findClass_of_methodNamed B.named
  have hlocks := B.notSynchronized
  subst hsz
  have hD1 := hD0.self (sz := s.heap.size)
  obtain ⟨A, hAe⟩ : ∃ A, A = va_A (wl 16 ad (g2 cy ad z0)) s.heap.size := ⟨_, rfl⟩
  rw [← hAe] at hD1
  have hD : ∀ g, va_D A (wl 16 ad g) := fun _ => wl_D hD1
  have hA : ∀ q : Nat, s.heap.size ≤ q → A q := fun q h => by rw [hAe]; exact Or.inr h
  have hS : va_S A s.heap s.heap [] := va_S.rf
  have hl := lv_entry ([.ref (ad 0), .int p1, .int p2, .int p3]) (n := 5) (Nat.le_of_ble_eq_true rfl)
  rw [lg_entry_eq]
  generalize (lg_sl ([.ref (ad 0), .int p1, .int p2, .int p3]) ++ List.replicate (5 - (lg_sl ([.ref (ad 0), .int p1, .int p2, .int p3])).length) Slot.unset).toArray = ls at hl ⊢
  have hl : lv_has ls 5 [(0, .ref (ad 0)), (1, .int p1), (2, .int p2), (3, .int p3)] := hl
  have L_42 : ∀ (n : Nat) (z : gS) (x1 : Int32) (x2 : Int32) (x3 : Int32) (x4 : Int32) (ee : Nat) (y1 : Int32) (y2 : Int32) (y3 : Int32) (z9 : gS), l_M_node_42 n z x1 x2 x3 x4 = some (ee, y1, y2, y3, z9) → ∀ (H : Heap) (locs : List Loc) (ls : Array Slot), va_P D cl_all (wl 16 ad (g2 cy ad z)) H → va_S A s.heap H locs → lv_has ls 5 [(0, .ref (ad 0)), (1, .int x1), (2, .int x2), (3, .int x3), (4, .int x4)] →
      (ee = 0 → ∀ (H : Heap) (locs : List Loc) (ls : Array Slot), va_P D cl_all (wl 16 ad (g2 cy ad z9)) H → va_S A s.heap H locs → lv_has ls 5 [] → W p l e (headSpec (Cond.code y_M_node c_M_node 5 (some .int) :: gt_ws) ({ frames := 1, cells := 0, slots := 0, locals := 45 })).room s m ([.ref (ad 0), .int p1, .int p2, .int p3]).toArray below meth c H locs 0 0 (MQ below (sQi D cl_all 16 ad (g2 cy ad z0) s.heap.size r (g2 cy ad zz)) ([.ref (ad 0), .int p1, .int p2, .int p3]).toArray s 0 0 (va_A (wl 16 ad (g2 cy ad z0)) s.heap.size)) (F0 m 86 ls [])) →
      (ee = 1 → ∀ (H : Heap) (locs : List Loc) (ls : Array Slot), va_P D cl_all (wl 16 ad (g2 cy ad z9)) H → va_S A s.heap H locs → lv_has ls 5 [(0, .ref (ad 0)), (1, .int y1), (2, .int y2), (3, .int y3)] → W p l e (headSpec (Cond.code y_M_node c_M_node 5 (some .int) :: gt_ws) ({ frames := 1, cells := 0, slots := 0, locals := 45 })).room s m ([.ref (ad 0), .int p1, .int p2, .int p3]).toArray below meth c H locs 0 0 (MQ below (sQi D cl_all 16 ad (g2 cy ad z0) s.heap.size r (g2 cy ad zz)) ([.ref (ad 0), .int p1, .int p2, .int p3]).toArray s 0 0 (va_A (wl 16 ad (g2 cy ad z0)) s.heap.size)) (F0 m 95 ls [])) →
      W p l e (headSpec (Cond.code y_M_node c_M_node 5 (some .int) :: gt_ws) ({ frames := 1, cells := 0, slots := 0, locals := 45 })).room s m ([.ref (ad 0), .int p1, .int p2, .int p3]).toArray below meth c H locs 0 0 (MQ below (sQi D cl_all 16 ad (g2 cy ad z0) s.heap.size r (g2 cy ad zz)) ([.ref (ad 0), .int p1, .int p2, .int p3]).toArray s 0 0 (va_A (wl 16 ad (g2 cy ad z0)) s.heap.size)) (F0 m 42 ls []) := by
    intro n
    induction n with
    | zero => intro z x1 x2 x3 x4 ee y1 y2 y3 z9 hf; rw [l_M_node_42] at hf; cases hf
    | succ n ih =>
      intro z x1 x2 x3 x4 ee y1 y2 y3 z9 hf H locs ls hP hS hl k_0 k_1
      rw [l_M_node_42] at hf
      refine lv_iload hx hb d_M_node_42 (lv_at hl 4 rfl) ?_
      refine lv_iconst (v := 5) hx hb d_M_node_44 (by decide) ?_
      refine lv_icmp_ge (tgt := 95) hx hb d_M_node_45 (by decide) (fun c1 => ?_) (fun c1 => ?_)
      ·
        have hf := op_pos hf c1
        cases hf
        exact k_1 rfl _ _ _ hP hS (lv_sub hl [0, 1, 2, 3] rfl)
      ·
        have hf := op_neg hf c1
        refine lv_iload hx hb d_M_node_48 (lv_at hl 4 rfl) ?_
        refine lv_iload_n hx hb d_M_node_50 rfl (lv_at hl 1 rfl) ?_
        refine lv_icmp_eq (tgt := 89) hx hb d_M_node_51 (by decide) (fun c2 => ?_) (fun c2 => ?_)
        ·
          have hf := op_pos hf c2
          refine lv_iinc (v := x4 + (1 : Int32)) (lv' := [(4, .int (x4 + (1 : Int32))), (0, .ref (ad 0)), (1, .int x1), (2, .int x2), (3, .int x3)]) hx hb d_M_node_89 hl (k := 4) rfl rfl (by decide) rfl (fun ls hl => ?_)
          refine lv_goto (tgt := 42) hx hb d_M_node_92 (by decide) ?_
          exact ih _ _ _ _ _ _ _ _ _ _ hf _ _ _ hP hS (lv_sub hl [1, 2, 3, 4, 0] rfl) k_0 k_1
        ·
          have hf := op_neg hf c2
          refine lv_aload_n hx hb d_M_node_54 rfl (lv_at hl 0 rfl) ?_
          refine wx_get (v := .ref (ad 1)) (C := RQ_M) (T := FQ_M) (N := 21) hx hb ht IQ_M hown hK hP 0 (by decide) (e_g2_0 cy ad _) rfl 0 (by decide) (ht _ kw_528) (fun _ h9 => h9) rfl d_M_node_55 ?_
          refine lv_iload hx hb d_M_node_58 (lv_at hl 4 rfl) ?_
          obtain ⟨h3, hf⟩ := op_chk hf
          refine wx_zald hx hb hK hP 1 (by decide) (by decide) 5 rfl h3 d_M_node_60 ?_
          refine lv_if_eq (tgt := 89) hx hb d_M_node_61 (by decide) (fun c4 => ?_) (fun c4 => ?_)
          ·
            have hf := op_pos hf c4
            refine lv_iinc (v := x4 + (1 : Int32)) (lv' := [(4, .int (x4 + (1 : Int32))), (0, .ref (ad 0)), (1, .int x1), (2, .int x2), (3, .int x3)]) hx hb d_M_node_89 hl (k := 4) rfl rfl (by decide) rfl (fun ls hl => ?_)
            refine lv_goto (tgt := 42) hx hb d_M_node_92 (by decide) ?_
            exact ih _ _ _ _ _ _ _ _ _ _ hf _ _ _ hP hS (lv_sub hl [1, 2, 3, 4, 0] rfl) k_0 k_1
          ·
            have hf := op_neg hf c4
            refine lv_aload_n hx hb d_M_node_64 rfl (lv_at hl 0 rfl) ?_
            refine wx_get (v := .ref (ad 2)) (C := RQ_M) (T := FQ_M) (N := 21) hx hb ht IQ_M hown hK hP 0 (by decide) (e_g2_0 cy ad _) rfl 1 (by decide) (ht _ kw_529) (fun _ h9 => h9) rfl d_M_node_65 ?_
            refine lv_iload hx hb d_M_node_68 (lv_at hl 4 rfl) ?_
            obtain ⟨h5, hf⟩ := op_chk hf
            refine wx_iald hx hb hK hP 2 (by decide) (by decide) 5 rfl h5 d_M_node_70 ?_
            refine lv_iload_n hx hb d_M_node_71 rfl (lv_at hl 2 rfl) ?_
            refine lv_icmp_ne (tgt := 89) hx hb d_M_node_72 (by decide) (fun c6 => ?_) (fun c6 => ?_)
            ·
              have hf := op_neg hf c6
              refine lv_iinc (v := x4 + (1 : Int32)) (lv' := [(4, .int (x4 + (1 : Int32))), (0, .ref (ad 0)), (1, .int x1), (2, .int x2), (3, .int x3)]) hx hb d_M_node_89 hl (k := 4) rfl rfl (by decide) rfl (fun ls hl => ?_)
              refine lv_goto (tgt := 42) hx hb d_M_node_92 (by decide) ?_
              exact ih _ _ _ _ _ _ _ _ _ _ hf _ _ _ hP hS (lv_sub hl [1, 2, 3, 4, 0] rfl) k_0 k_1
            ·
              have hf := op_pos hf c6
              refine lv_aload_n hx hb d_M_node_75 rfl (lv_at hl 0 rfl) ?_
              refine wx_get (v := .ref (ad 3)) (C := RQ_M) (T := FQ_M) (N := 21) hx hb ht IQ_M hown hK hP 0 (by decide) (e_g2_0 cy ad _) rfl 2 (by decide) (ht _ kw_530) (fun _ h9 => h9) rfl d_M_node_76 ?_
              refine lv_iload hx hb d_M_node_79 (lv_at hl 4 rfl) ?_
              obtain ⟨h7, hf⟩ := op_chk hf
              refine wx_iald hx hb hK hP 3 (by decide) (by decide) 5 rfl h7 d_M_node_81 ?_
              refine lv_iload_n hx hb d_M_node_82 rfl (lv_at hl 3 rfl) ?_
              refine lv_icmp_ne (tgt := 89) hx hb d_M_node_83 (by decide) (fun c8 => ?_) (fun c8 => ?_)
              ·
                have hf := op_neg hf c8
                refine lv_iinc (v := x4 + (1 : Int32)) (lv' := [(4, .int (x4 + (1 : Int32))), (0, .ref (ad 0)), (1, .int x1), (2, .int x2), (3, .int x3)]) hx hb d_M_node_89 hl (k := 4) rfl rfl (by decide) rfl (fun ls hl => ?_)
                refine lv_goto (tgt := 42) hx hb d_M_node_92 (by decide) ?_
                exact ih _ _ _ _ _ _ _ _ _ _ hf _ _ _ hP hS (lv_sub hl [1, 2, 3, 4, 0] rfl) k_0 k_1
              ·
                have hf := op_pos hf c8
                cases hf
                exact k_0 rfl _ _ _ hP hS (lv_sub hl [] rfl)
  unfold f_M_node at hf
  refine lv_aload_n hx hb d_M_node_0 rfl (lv_at hl 0 rfl) ?_
  refine lv_iload_n hx hb d_M_node_1 rfl (lv_at hl 1 rfl) ?_
  refine lv_iconst (v := 4) hx hb d_M_node_2 (by decide) ?_
  obtain ⟨r11, w10, hc9, hf⟩ := op_b2 hf
  refine wx_fi (wx_rV (As := [.int p1, .int (4 : Int32)]) (rest := []) ⟨hx, hb, hml, hown, ht⟩ (m_M_off l D cy ad _ z0 p1 (4 : Int32) _ _ hc9) ⟨callB_of 2 ht (gt_in (fun _ h9 => h9) kw_599) rfl rfl rfl (ht _ kw_52) (ht _ kw_596) q_M_off ⟨Nat.le_of_ble_eq_true rfl, Nat.le_of_ble_eq_true rfl⟩, ht _ kw_598, ht _ kw_24⟩ nwM_ok hN hK hP (hD _) (by decide) (e_g2_0 cy ad _) rfl rfl hl.1 rfl (Nat.le_of_ble_eq_true rfl) d_M_node_3 ⟨Nat.zero_le _, Nat.zero_le _⟩) (hD _) hS hA (fun H locs hP hS => ?_)
  refine lv_if_ne (tgt := 27) hx hb d_M_node_6 (by decide) (fun c12 => ?_) (fun c12 => ?_)
  ·
    have hf := op_neg hf c12
    refine lv_iconst (v := -1) hx hb d_M_node_27 (by decide) ?_
    obtain ⟨hv9, rfl⟩ := op_inj hf
    exact wx_iret hx hb hr hlocks hAe hP hS hv9 d_M_node_28
  ·
    have hf := op_pos hf c12
    refine lv_aload_n hx hb d_M_node_9 rfl (lv_at hl 0 rfl) ?_
    refine lv_iload_n hx hb d_M_node_10 rfl (lv_at hl 2 rfl) ?_
    refine lv_iconst (v := 4) hx hb d_M_node_11 (by decide) ?_
    obtain ⟨r15, w14, hc13, hf⟩ := op_b2 hf
    refine wx_fi (wx_rV (As := [.int p2, .int (4 : Int32)]) (rest := []) ⟨hx, hb, hml, hown, ht⟩ (m_M_off l D cy ad _ w10 p2 (4 : Int32) _ _ hc13) ⟨callB_of 2 ht (gt_in (fun _ h9 => h9) kw_599) rfl rfl rfl (ht _ kw_52) (ht _ kw_596) q_M_off ⟨Nat.le_of_ble_eq_true rfl, Nat.le_of_ble_eq_true rfl⟩, ht _ kw_598, ht _ kw_24⟩ nwM_ok hN hK hP (hD _) (by decide) (e_g2_0 cy ad _) rfl rfl hl.1 rfl (Nat.le_of_ble_eq_true rfl) d_M_node_12 ⟨Nat.zero_le _, Nat.zero_le _⟩) (hD _) hS hA (fun H locs hP hS => ?_)
    refine lv_if_ne (tgt := 27) hx hb d_M_node_15 (by decide) (fun c16 => ?_) (fun c16 => ?_)
    ·
      have hf := op_neg hf c16
      refine lv_iconst (v := -1) hx hb d_M_node_27 (by decide) ?_
      obtain ⟨hv9, rfl⟩ := op_inj hf
      exact wx_iret hx hb hr hlocks hAe hP hS hv9 d_M_node_28
    ·
      have hf := op_pos hf c16
      refine lv_aload_n hx hb d_M_node_18 rfl (lv_at hl 0 rfl) ?_
      refine lv_iload_n hx hb d_M_node_19 rfl (lv_at hl 3 rfl) ?_
      refine lv_iconst (v := 4) hx hb d_M_node_20 (by decide) ?_
      obtain ⟨r19, w18, hc17, hf⟩ := op_b2 hf
      refine wx_fi (wx_rV (As := [.int p3, .int (4 : Int32)]) (rest := []) ⟨hx, hb, hml, hown, ht⟩ (m_M_off l D cy ad _ w14 p3 (4 : Int32) _ _ hc17) ⟨callB_of 2 ht (gt_in (fun _ h9 => h9) kw_599) rfl rfl rfl (ht _ kw_52) (ht _ kw_596) q_M_off ⟨Nat.le_of_ble_eq_true rfl, Nat.le_of_ble_eq_true rfl⟩, ht _ kw_598, ht _ kw_24⟩ nwM_ok hN hK hP (hD _) (by decide) (e_g2_0 cy ad _) rfl rfl hl.1 rfl (Nat.le_of_ble_eq_true rfl) d_M_node_21 ⟨Nat.zero_le _, Nat.zero_le _⟩) (hD _) hS hA (fun H locs hP hS => ?_)
      refine lv_if_eq (tgt := 29) hx hb d_M_node_24 (by decide) (fun c20 => ?_) (fun c20 => ?_)
      ·
        have hf := op_pos hf c20
        refine lv_aload_n hx hb d_M_node_29 rfl (lv_at hl 0 rfl) ?_
        refine wx_get (v := .int (w18.1 1)) (C := RQ_M) (T := FQ_M) (N := 21) hx hb ht IQ_M hown hK hP 0 (by decide) (e_g2_0 cy ad _) rfl 11 (by decide) (ht _ kw_539) (fun _ h9 => h9) rfl d_M_node_30 ?_
        refine lv_if_eq (tgt := 39) hx hb d_M_node_33 (by decide) (fun c21 => ?_) (fun c21 => ?_)
        ·
          have hf := op_pos hf c21
          refine lv_iconst (v := 0) hx hb d_M_node_39 (by decide) ?_
          refine lv_istore (lv' := [(4, .int (0 : Int32)), (0, .ref (ad 0)), (1, .int p1), (2, .int p2), (3, .int p3)]) hx hb d_M_node_40 hl (by decide) rfl (fun ls hl => ?_)
          obtain ⟨e22, v23, v24, v25, w26, hc27, hf⟩ := op_b5 hf
          refine L_42 _ _ _ _ _ _ _ _ _ _ _ hc27 _ _ _ hP hS (lv_sub hl [1, 2, 3, 4, 0] rfl) (fun he_e22 H locs ls hP hS hl => ?_) (fun he_e22 H locs ls hP hS hl => ?_)
          ·
            have hf := op_pos hf he_e22
            refine lv_bipush (v := -2) hx hb d_M_node_86 (by decide) ?_
            obtain ⟨hv9, rfl⟩ := op_inj hf
            exact wx_iret hx hb hr hlocks hAe hP hS hv9 d_M_node_88
          ·
            have hf := op_neg hf (by omega)
            refine lv_aload_n hx hb d_M_node_95 rfl (lv_at hl 0 rfl) ?_
            refine wx_get (v := .ref (ad 1)) (C := RQ_M) (T := FQ_M) (N := 21) hx hb ht IQ_M hown hK hP 0 (by decide) (e_g2_0 cy ad _) rfl 0 (by decide) (ht _ kw_528) (fun _ h9 => h9) rfl d_M_node_96 ?_
            refine lv_iload_n hx hb d_M_node_99 rfl (lv_at hl 1 rfl) ?_
            refine lv_iconst (v := 1) hx hb d_M_node_100 (by decide) ?_
            obtain ⟨h28, hf⟩ := op_chk hf
            refine wx_zast hx hb hK hP (hD _) hS 1 (by decide) (by decide) 5 rfl h28 d_M_node_101 (fun H locs hP hS => ?_)
            obtain ⟨w29, h30, hf⟩ := op_let hf
            rw [h30] at hP
            refine lv_aload_n hx hb d_M_node_102 rfl (lv_at hl 0 rfl) ?_
            refine wx_get (v := .ref (ad 2)) (C := RQ_M) (T := FQ_M) (N := 21) hx hb ht IQ_M hown hK hP 0 (by decide) (e_g2_0 cy ad _) rfl 1 (by decide) (ht _ kw_529) (fun _ h9 => h9) rfl d_M_node_103 ?_
            refine lv_iload_n hx hb d_M_node_106 rfl (lv_at hl 1 rfl) ?_
            refine lv_iload_n hx hb d_M_node_107 rfl (lv_at hl 2 rfl) ?_
            obtain ⟨h31, hf⟩ := op_chk hf
            refine wx_iast hx hb hK hP (hD _) hS 2 (by decide) (by decide) 5 rfl h31 d_M_node_108 (fun H locs hP hS => ?_)
            obtain ⟨w32, h33, hf⟩ := op_let hf
            rw [h33] at hP
            refine lv_aload_n hx hb d_M_node_109 rfl (lv_at hl 0 rfl) ?_
            refine wx_get (v := .ref (ad 3)) (C := RQ_M) (T := FQ_M) (N := 21) hx hb ht IQ_M hown hK hP 0 (by decide) (e_g2_0 cy ad _) rfl 2 (by decide) (ht _ kw_530) (fun _ h9 => h9) rfl d_M_node_110 ?_
            refine lv_iload_n hx hb d_M_node_113 rfl (lv_at hl 1 rfl) ?_
            refine lv_iload_n hx hb d_M_node_114 rfl (lv_at hl 3 rfl) ?_
            obtain ⟨h34, hf⟩ := op_chk hf
            refine wx_iast hx hb hK hP (hD _) hS 3 (by decide) (by decide) 5 rfl h34 d_M_node_115 (fun H locs hP hS => ?_)
            obtain ⟨w35, h36, hf⟩ := op_let hf
            rw [h36] at hP
            refine lv_iconst (v := 0) hx hb d_M_node_116 (by decide) ?_
            obtain ⟨hv9, rfl⟩ := op_inj hf
            exact wx_iret hx hb hr hlocks hAe hP hS hv9 d_M_node_117
        ·
          have hf := op_neg hf c21
          refine lv_bipush (v := -4) hx hb d_M_node_36 (by decide) ?_
          obtain ⟨hv9, rfl⟩ := op_inj hf
          exact wx_iret hx hb hr hlocks hAe hP hS hv9 d_M_node_38
      ·
        have hf := op_neg hf c20
        refine lv_iconst (v := -1) hx hb d_M_node_27 (by decide) ?_
        obtain ⟨hv9, rfl⟩ := op_inj hf
        exact wx_iret hx hb hr hlocks hAe hP hS hv9 d_M_node_28

def f_M_bar (z0 : gS) (p1 : Int32) (p2 : Int32) (p3 : Int32) : Option (Int32 × gS) :=
 bd2 (f_M_off z0 p1 (4 : Int32)) (fun r3 w2 =>
 if r3 = 0 then (bd2 (f_M_off w2 p2 (4 : Int32)) (fun r7 w6 =>
 if r7 = 0 then (if p3 < (1 : Int32) then (some ((-1 : Int32), w6))
 else (if (3 : Int32) < p3 then (some ((-1 : Int32), w6))
 else (if p1 = p2 then (some ((-1 : Int32), w6))
 else (if (w6.1 1) = 0 then (if (w6.1 0) = (10 : Int32) then (some ((-3 : Int32), w6))
 else (if (w6.1 0) < 0 ∨ 10 ≤ (w6.1 0).toNatClampNeg then none else
 (some (s_I w6 4 (upd (w6.2.2.1 4) (w6.1 0).toNatClampNeg p1))).bind (fun w15 =>
 if (w15.1 0) < 0 ∨ 10 ≤ (w15.1 0).toNatClampNeg then none else
 (some (s_I w15 5 (upd (w15.2.2.1 5) (w15.1 0).toNatClampNeg p2))).bind (fun w18 =>
 if (w18.1 0) < 0 ∨ 10 ≤ (w18.1 0).toNatClampNeg then none else
 (some (s_I w18 6 (upd (w18.2.2.1 6) (w18.1 0).toNatClampNeg p3))).bind (fun w21 =>
 (some (((w21.1 0) + (1 : Int32)) : Int32)).bind (fun v23 =>
 (some (s_i w21 0 v23)).bind (fun w25 =>
 some (((w25.1 0) - (1 : Int32)), w25))))))))
 else (some ((-4 : Int32), w6))))))
 else (some ((-1 : Int32), w6))))
 else (some ((-1 : Int32), w2)))
set_option maxHeartbeats 4000000 in
set_option maxRecDepth 100000 in
theorem m_M_bar (l : Launch) (D : va_G) (cy : Nat → ClassId) (ad : Nat → Nat) (sz : Nat) (z0 : gS) (p1 : Int32) (p2 : Int32) (p3 : Int32) (r : Int32) (zz : gS) (hf : f_M_bar z0 p1 p2 p3 = some (r, zz)) : Met l y_M_bar (Cond.code y_M_bar c_M_bar 4 (some .int) :: gt_ws) ({ frames := 1, cells := 0, slots := 0, locals := 45 }) (sPc D cl_all (gTy cy) nwM 16 ad (g2 cy ad z0) sz [.ref (ad 0), .int p1, .int p2, .int p3]) (sQi D cl_all 16 ad (g2 cy ad z0) sz r (g2 cy ad zz)) 0 0 (va_A (wl 16 ad (g2 cy ad z0)) sz) := by
  refine Met.ofW (cc := c_M_bar) (maxL := 4) (ret := (some .int)) (by decide) rfl ?_
  intro p e s m args below meth c s₁ B hml hv
  obtain ⟨rfl, hsz, hP, hK, hN, hD0⟩ := hv
  have hx := B.exec
  have hb := B.bytes
  have hr := B.returns
  have hts := atoms_spec (ws := (Cond.code y_M_bar c_M_bar 4 (some .int) :: gt_ws)) B.pre
  have ht : ∀ w ∈ gt_ws, w.before _ s = true := fun w h => hts w (List.mem_cons_of_mem _ h)
  have hown : s.vm.findClass RQ_M = some m.cls := findClass_of_methodNamed B.named
  have hlocks := B.notSynchronized
  subst hsz
  have hD1 := hD0.self (sz := s.heap.size)
  obtain ⟨A, hAe⟩ : ∃ A, A = va_A (wl 16 ad (g2 cy ad z0)) s.heap.size := ⟨_, rfl⟩
  rw [← hAe] at hD1
  have hD : ∀ g, va_D A (wl 16 ad g) := fun _ => wl_D hD1
  have hA : ∀ q : Nat, s.heap.size ≤ q → A q := fun q h => by rw [hAe]; exact Or.inr h
  have hS : va_S A s.heap s.heap [] := va_S.rf
  have hl := lv_entry ([.ref (ad 0), .int p1, .int p2, .int p3]) (n := 4) (Nat.le_of_ble_eq_true rfl)
  rw [lg_entry_eq]
  generalize (lg_sl ([.ref (ad 0), .int p1, .int p2, .int p3]) ++ List.replicate (4 - (lg_sl ([.ref (ad 0), .int p1, .int p2, .int p3])).length) Slot.unset).toArray = ls at hl ⊢
  have hl : lv_has ls 4 [(0, .ref (ad 0)), (1, .int p1), (2, .int p2), (3, .int p3)] := hl
  unfold f_M_bar at hf
  refine lv_aload_n hx hb d_M_bar_0 rfl (lv_at hl 0 rfl) ?_
  refine lv_iload_n hx hb d_M_bar_1 rfl (lv_at hl 1 rfl) ?_
  refine lv_iconst (v := 4) hx hb d_M_bar_2 (by decide) ?_
  obtain ⟨r3, w2, hc1, hf⟩ := op_b2 hf
  refine wx_fi (wx_rV (As := [.int p1, .int (4 : Int32)]) (rest := []) ⟨hx, hb, hml, hown, ht⟩ (m_M_off l D cy ad _ z0 p1 (4 : Int32) _ _ hc1) ⟨callB_of 2 ht (gt_in (fun _ h9 => h9) kw_599) rfl rfl rfl (ht _ kw_52) (ht _ kw_596) q_M_off ⟨Nat.le_of_ble_eq_true rfl, Nat.le_of_ble_eq_true rfl⟩, ht _ kw_598, ht _ kw_24⟩ nwM_ok hN hK hP (hD _) (by decide) (e_g2_0 cy ad _) rfl rfl hl.1 rfl (Nat.le_of_ble_eq_true rfl) d_M_bar_3 ⟨Nat.zero_le _, Nat.zero_le _⟩) (hD _) hS hA (fun H locs hP hS => ?_)
  refine lv_if_ne (tgt := 33) hx hb d_M_bar_6 (by decide) (fun c4 => ?_) (fun c4 => ?_)
  ·
    have hf := op_neg hf c4
    refine lv_iconst (v := -1) hx hb d_M_bar_33 (by decide) ?_
    obtain ⟨hv9, rfl⟩ := op_inj hf
    exact wx_iret hx hb hr hlocks hAe hP hS hv9 d_M_bar_34
  ·
    have hf := op_pos hf c4
    refine lv_aload_n hx hb d_M_bar_9 rfl (lv_at hl 0 rfl) ?_
    refine lv_iload_n hx hb d_M_bar_10 rfl (lv_at hl 2 rfl) ?_
    refine lv_iconst (v := 4) hx hb d_M_bar_11 (by decide) ?_
    obtain ⟨r7, w6, hc5, hf⟩ := op_b2 hf
    refine wx_fi (wx_rV (As := [.int p2, .int (4 : Int32)]) (rest := []) ⟨hx, hb, hml, hown, ht⟩ (m_M_off l D cy ad _ w2 p2 (4 : Int32) _ _ hc5) ⟨callB_of 2 ht (gt_in (fun _ h9 => h9) kw_599) rfl rfl rfl (ht _ kw_52) (ht _ kw_596) q_M_off ⟨Nat.le_of_ble_eq_true rfl, Nat.le_of_ble_eq_true rfl⟩, ht _ kw_598, ht _ kw_24⟩ nwM_ok hN hK hP (hD _) (by decide) (e_g2_0 cy ad _) rfl rfl hl.1 rfl (Nat.le_of_ble_eq_true rfl) d_M_bar_12 ⟨Nat.zero_le _, Nat.zero_le _⟩) (hD _) hS hA (fun H locs hP hS => ?_)
    refine lv_if_ne (tgt := 33) hx hb d_M_bar_15 (by decide) (fun c8 => ?_) (fun c8 => ?_)
    ·
      have hf := op_neg hf c8
      refine lv_iconst (v := -1) hx hb d_M_bar_33 (by decide) ?_
      obtain ⟨hv9, rfl⟩ := op_inj hf
      exact wx_iret hx hb hr hlocks hAe hP hS hv9 d_M_bar_34
    ·
      have hf := op_pos hf c8
      refine lv_iload_n hx hb d_M_bar_18 rfl (lv_at hl 3 rfl) ?_
      refine lv_iconst (v := 1) hx hb d_M_bar_19 (by decide) ?_
      refine lv_icmp_lt (tgt := 33) hx hb d_M_bar_20 (by decide) (fun c9 => ?_) (fun c9 => ?_)
      ·
        have hf := op_pos hf c9
        refine lv_iconst (v := -1) hx hb d_M_bar_33 (by decide) ?_
        obtain ⟨hv9, rfl⟩ := op_inj hf
        exact wx_iret hx hb hr hlocks hAe hP hS hv9 d_M_bar_34
      ·
        have hf := op_neg hf c9
        refine lv_iload_n hx hb d_M_bar_23 rfl (lv_at hl 3 rfl) ?_
        refine lv_iconst (v := 3) hx hb d_M_bar_24 (by decide) ?_
        refine lv_icmp_gt (tgt := 33) hx hb d_M_bar_25 (by decide) (fun c10 => ?_) (fun c10 => ?_)
        ·
          have hf := op_pos hf c10
          refine lv_iconst (v := -1) hx hb d_M_bar_33 (by decide) ?_
          obtain ⟨hv9, rfl⟩ := op_inj hf
          exact wx_iret hx hb hr hlocks hAe hP hS hv9 d_M_bar_34
        ·
          have hf := op_neg hf c10
          refine lv_iload_n hx hb d_M_bar_28 rfl (lv_at hl 1 rfl) ?_
          refine lv_iload_n hx hb d_M_bar_29 rfl (lv_at hl 2 rfl) ?_
          refine lv_icmp_ne (tgt := 35) hx hb d_M_bar_30 (by decide) (fun c11 => ?_) (fun c11 => ?_)
          ·
            have hf := op_neg hf c11
            refine lv_aload_n hx hb d_M_bar_35 rfl (lv_at hl 0 rfl) ?_
            refine wx_get (v := .int (w6.1 1)) (C := RQ_M) (T := FQ_M) (N := 21) hx hb ht IQ_M hown hK hP 0 (by decide) (e_g2_0 cy ad _) rfl 11 (by decide) (ht _ kw_539) (fun _ h9 => h9) rfl d_M_bar_36 ?_
            refine lv_if_eq (tgt := 45) hx hb d_M_bar_39 (by decide) (fun c12 => ?_) (fun c12 => ?_)
            ·
              have hf := op_pos hf c12
              refine lv_aload_n hx hb d_M_bar_45 rfl (lv_at hl 0 rfl) ?_
              refine wx_get (v := .int (w6.1 0)) (C := RQ_M) (T := FQ_M) (N := 21) hx hb ht IQ_M hown hK hP 0 (by decide) (e_g2_0 cy ad _) rfl 6 (by decide) (ht _ kw_534) (fun _ h9 => h9) rfl d_M_bar_46 ?_
              refine lv_bipush (v := 10) hx hb d_M_bar_49 (by decide) ?_
              refine lv_icmp_ne (tgt := 57) hx hb d_M_bar_51 (by decide) (fun c13 => ?_) (fun c13 => ?_)
              ·
                have hf := op_neg hf c13
                refine lv_aload_n hx hb d_M_bar_57 rfl (lv_at hl 0 rfl) ?_
                refine wx_get (v := .ref (ad 4)) (C := RQ_M) (T := FQ_M) (N := 21) hx hb ht IQ_M hown hK hP 0 (by decide) (e_g2_0 cy ad _) rfl 3 (by decide) (ht _ kw_531) (fun _ h9 => h9) rfl d_M_bar_58 ?_
                refine lv_aload_n hx hb d_M_bar_61 rfl (lv_at hl 0 rfl) ?_
                refine wx_get (v := .int (w6.1 0)) (C := RQ_M) (T := FQ_M) (N := 21) hx hb ht IQ_M hown hK hP 0 (by decide) (e_g2_0 cy ad _) rfl 6 (by decide) (ht _ kw_534) (fun _ h9 => h9) rfl d_M_bar_62 ?_
                refine lv_iload_n hx hb d_M_bar_65 rfl (lv_at hl 1 rfl) ?_
                obtain ⟨h14, hf⟩ := op_chk hf
                refine wx_iast hx hb hK hP (hD _) hS 4 (by decide) (by decide) 10 rfl h14 d_M_bar_66 (fun H locs hP hS => ?_)
                obtain ⟨w15, h16, hf⟩ := op_let hf
                rw [h16] at hP
                refine lv_aload_n hx hb d_M_bar_67 rfl (lv_at hl 0 rfl) ?_
                refine wx_get (v := .ref (ad 5)) (C := RQ_M) (T := FQ_M) (N := 21) hx hb ht IQ_M hown hK hP 0 (by decide) (e_g2_0 cy ad _) rfl 4 (by decide) (ht _ kw_532) (fun _ h9 => h9) rfl d_M_bar_68 ?_
                refine lv_aload_n hx hb d_M_bar_71 rfl (lv_at hl 0 rfl) ?_
                refine wx_get (v := .int (w15.1 0)) (C := RQ_M) (T := FQ_M) (N := 21) hx hb ht IQ_M hown hK hP 0 (by decide) (e_g2_0 cy ad _) rfl 6 (by decide) (ht _ kw_534) (fun _ h9 => h9) rfl d_M_bar_72 ?_
                refine lv_iload_n hx hb d_M_bar_75 rfl (lv_at hl 2 rfl) ?_
                obtain ⟨h17, hf⟩ := op_chk hf
                refine wx_iast hx hb hK hP (hD _) hS 5 (by decide) (by decide) 10 rfl h17 d_M_bar_76 (fun H locs hP hS => ?_)
                obtain ⟨w18, h19, hf⟩ := op_let hf
                rw [h19] at hP
                refine lv_aload_n hx hb d_M_bar_77 rfl (lv_at hl 0 rfl) ?_
                refine wx_get (v := .ref (ad 6)) (C := RQ_M) (T := FQ_M) (N := 21) hx hb ht IQ_M hown hK hP 0 (by decide) (e_g2_0 cy ad _) rfl 5 (by decide) (ht _ kw_533) (fun _ h9 => h9) rfl d_M_bar_78 ?_
                refine lv_aload_n hx hb d_M_bar_81 rfl (lv_at hl 0 rfl) ?_
                refine wx_get (v := .int (w18.1 0)) (C := RQ_M) (T := FQ_M) (N := 21) hx hb ht IQ_M hown hK hP 0 (by decide) (e_g2_0 cy ad _) rfl 6 (by decide) (ht _ kw_534) (fun _ h9 => h9) rfl d_M_bar_82 ?_
                refine lv_iload_n hx hb d_M_bar_85 rfl (lv_at hl 3 rfl) ?_
                obtain ⟨h20, hf⟩ := op_chk hf
                refine wx_iast hx hb hK hP (hD _) hS 6 (by decide) (by decide) 10 rfl h20 d_M_bar_86 (fun H locs hP hS => ?_)
                obtain ⟨w21, h22, hf⟩ := op_let hf
                rw [h22] at hP
                refine lv_aload_n hx hb d_M_bar_87 rfl (lv_at hl 0 rfl) ?_
                refine lv_dup hx hb d_M_bar_88 rfl ?_
                refine wx_get (v := .int (w21.1 0)) (C := RQ_M) (T := FQ_M) (N := 21) hx hb ht IQ_M hown hK hP 0 (by decide) (e_g2_0 cy ad _) rfl 6 (by decide) (ht _ kw_534) (fun _ h9 => h9) rfl d_M_bar_89 ?_
                refine lv_iconst (v := 1) hx hb d_M_bar_92 (by decide) ?_
                refine lv_iadd hx hb d_M_bar_93 ?_
                obtain ⟨v23, h24, hf⟩ := op_let hf
                refine sw_i h24 ?_
                refine wx_put (v := .int v23) (ty := .int) (C := RQ_M) (T := FQ_M) (N := 21) hx hb ht IQ_M TQ_M TQ_M_ok NQ_M hown hK hP (hD _) hS 0 (by decide) (e_g2_0 cy ad _) rfl 6 (by decide) (ht _ kw_534) (fun _ h9 => h9) rfl (by decide +kernel) rfl rfl (Nat.le_of_ble_eq_true rfl) d_M_bar_94 (up_M_bars cy ad _ v23) (fun H locs hP hS => ?_)
                obtain ⟨w25, h26, hf⟩ := op_let hf
                rw [h26] at hP
                refine lv_aload_n hx hb d_M_bar_97 rfl (lv_at hl 0 rfl) ?_
                refine wx_get (v := .int (w25.1 0)) (C := RQ_M) (T := FQ_M) (N := 21) hx hb ht IQ_M hown hK hP 0 (by decide) (e_g2_0 cy ad _) rfl 6 (by decide) (ht _ kw_534) (fun _ h9 => h9) rfl d_M_bar_98 ?_
                refine lv_iconst (v := 1) hx hb d_M_bar_101 (by decide) ?_
                refine lv_isub hx hb d_M_bar_102 ?_
                obtain ⟨hv9, rfl⟩ := op_inj hf
                exact wx_iret hx hb hr hlocks hAe hP hS hv9 d_M_bar_103
              ·
                have hf := op_pos hf c13
                refine lv_bipush (v := -3) hx hb d_M_bar_54 (by decide) ?_
                obtain ⟨hv9, rfl⟩ := op_inj hf
                exact wx_iret hx hb hr hlocks hAe hP hS hv9 d_M_bar_56
            ·
              have hf := op_neg hf c12
              refine lv_bipush (v := -4) hx hb d_M_bar_42 (by decide) ?_
              obtain ⟨hv9, rfl⟩ := op_inj hf
              exact wx_iret hx hb hr hlocks hAe hP hS hv9 d_M_bar_44
          ·
            have hf := op_pos hf c11
            refine lv_iconst (v := -1) hx hb d_M_bar_33 (by decide) ?_
            obtain ⟨hv9, rfl⟩ := op_inj hf
            exact wx_iret hx hb hr hlocks hAe hP hS hv9 d_M_bar_34
