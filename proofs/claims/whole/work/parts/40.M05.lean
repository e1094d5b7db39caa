def l_M_neighbours_4 : Nat → gS → Int32 → Int32 → Int32 → Option (Int32 × gS)
  | 0, _, _, _, _ => none
  | n + 1, z, x1, x2, x3 =>
    if (5 : Int32) ≤ x3 then (some (x2, z))
     else (bd2 (f_M_joined z x1 x3) (fun r4 w3 =>
     if r4 = 0 then (l_M_neighbours_4 n w3 x1 x2 (x3 + (1 : Int32)))
     else (l_M_neighbours_4 n w3 x1 (x2 + (1 : Int32)) (x3 + (1 : Int32)))))
def f_M_neighbours (z0 : gS) (p1 : Int32) : Option (Int32 × gS) :=
 bd2 (l_M_neighbours_4 200 z0 p1 (0 : Int32) (0 : Int32)) (fun v6 w7 =>
 some (v6, w7))
set_option maxHeartbeats 4000000 in
set_option maxRecDepth 100000 in
theorem m_M_neighbours (l : Launch) (D : va_G) (cy : Nat → ClassId) (ad : Nat → Nat) (sz : Nat) (z0 : gS) (p1 : Int32) (r : Int32) (zz : gS) (hf : f_M_neighbours z0 p1 = some (r, zz)) : Met l y_M_neighbours (Cond.code y_M_neighbours c_M_neighbours 4 (some .int) :: gt_ws) ({ frames := 1, cells := 0, slots := 0, locals := 45 }) (sPc D cl_all (gTy cy) nwM 16 ad (g2 cy ad z0) sz [.ref (ad 0), .int p1]) (sQi D cl_all 16 ad (g2 cy ad z0) sz r (g2 cy ad zz)) 0 0 (va_A (wl 16 ad (g2 cy ad z0)) sz) := by
  refine Met.ofW (cc := c_M_neighbours) (maxL := 4) (ret := (some .int)) (by decide) rfl ?_
  intro p e s m args below meth c s₁ B hml hv
  obtain ⟨rfl, hsz, hP, hK, hN, hD0⟩ := hv
  have hx := B.exec
  have hb := B.bytes
  have hr := B.returns
  have hts := atoms_spec (ws := (Cond.code y_M_neighbours c_M_neighbours 4 (some .int) :: gt_ws)) B.pre
  have ht : ∀ w ∈ gt_ws, w.before _ s = true := fun w h => hts w (List.mem_cons_of_mem _ h)
  have hown : s.vm.findClass RQ_M = some m.cls := findClass_of_methodNamed B.named
  have hlocks := B.notSynchronized
  subst hsz
  have hD1 := hD0.self (sz := s.heap.size)
  obtain ⟨A, hAe⟩ : ∃ A, A = va_A (wl 16 ad (g2 cy ad z0)) s.heap.size := ⟨_, rfl⟩
  rw [← hAe] at hD1
  have hD : ∀ g, va_D A (wl 16 ad g) := fun _ => wl_D hD1
  have hA : ∀ q : Nat, s.heap.size ≤ q → A q := fun q h => by rw [hAe]; exact Or.inr h
  have hS : va_S A s.heap s.heap [] := va_S.rf
  have hl := lv_entry ([.ref (ad 0), .int p1]) (n := 4) (Nat.le_of_ble_eq_true rfl)
  rw [lg_entry_eq]
  generalize (lg_sl ([.ref (ad 0), .int p1]) ++ List.replicate (4 - (lg_sl ([.ref (ad 0), .int p1])).length) Slot.unset).toArray = ls at hl ⊢
  have hl : lv_has ls 4 [(0, .ref (ad 0)), (1, .int p1)] := hl
  have L_4 : ∀ (n : Nat) (z : gS) (x1 : Int32) (x2 : Int32) (x3 : Int32) (y2 : Int32) (z9 : gS), l_M_neighbours_4 n z x1 x2 x3 = some (y2, z9) → ∀ (H : Heap) (locs : List Loc) (ls : Array Slot), va_P D cl_all (wl 16 ad (g2 cy ad z)) H → va_S A s.heap H locs → lv_has ls 4 [(0, .ref (ad 0)), (1, .int x1), (2, .int x2), (3, .int x3)] →
      (∀ (H : Heap) (locs : List Loc) (ls : Array Slot), va_P D cl_all (wl 16 ad (g2 cy ad z9)) H → va_S A s.heap H locs → lv_has ls 4 [(2, .int y2)] → W p l e (headSpec (Cond.code y_M_neighbours c_M_neighbours 4 (some .int) :: gt_ws) ({ frames := 1, cells := 0, slots := 0, locals := 45 })).room s m ([.ref (ad 0), .int p1]).toArray below meth c H locs 0 0 (MQ below (sQi D cl_all 16 ad (g2 cy ad z0) s.heap.size r (g2 cy ad zz)) ([.ref (ad 0), .int p1]).toArray s 0 0 (va_A (wl 16 ad (g2 cy ad z0)) s.heap.size)) (F0 m 27 ls [])) →
      W p l e (headSpec (Cond.code y_M_neighbours c_M_neighbours 4 (some .int) :: gt_ws) ({ frames := 1, cells := 0, slots := 0, locals := 45 })).room s m ([.ref (ad 0), .int p1]).toArray below meth c H locs 0 0 (MQ below (sQi D cl_all 16 ad (g2 cy ad z0) s.heap.size r (g2 cy ad zz)) ([.ref (ad 0), .int p1]).toArray s 0 0 (va_A (wl 16 ad (g2 cy ad z0)) s.heap.size)) (F0 m 4 ls []) := by
    intro n
    induction n with
    | zero => intro z x1 x2 x3 y2 z9 hf; rw [l_M_neighbours_4] at hf; cases hf
    | succ n ih =>
      intro z x1 x2 x3 y2 z9 hf H locs ls hP hS hl k_0
      rw [l_M_neighbours_4] at hf
      refine lv_iload_n hx hb d_M_neighbours_4 rfl (lv_at hl 3 rfl) ?_
      refine lv_iconst (v := 5) hx hb d_M_neighbours_5 (by decide) ?_
      refine lv_icmp_ge (tgt := 27) hx hb d_M_neighbours_6 (by decide) (fun c1 => ?_) (fun c1 => ?_)
      ·
        have hf := op_pos hf c1
        cases hf
        exact k_0 _ _ _ hP hS (lv_sub hl [2] rfl)
      ·
        have hf := op_neg hf c1
        refine lv_aload_n hx hb d_M_neighbours_9 rfl (lv_at hl 0 rfl) ?_
        refine lv_iload_n hx hb d_M_neighbours_10 rfl (lv_at hl 1 rfl) ?_
        refine lv_iload_n hx hb d_M_neighbours_11 rfl (lv_at hl 3 rfl) ?_
        obtain ⟨r4, w3, hc2, hf⟩ := op_b2 hf
        refine wx_fi (wx_rV (As := [.int x1, .int x3]) (rest := []) ⟨hx, hb, hml, hown, ht⟩ (m_M_joined l D cy ad _ z x1 x3 _ _ hc2) ⟨callB_of 2 ht (gt_in (fun _ h9 => h9) kw_639) rfl rfl rfl (ht _ kw_52) (ht _ kw_636) q_M_joined ⟨Nat.le_of_ble_eq_true rfl, Nat.le_of_ble_eq_true rfl⟩, ht _ kw_638, ht _ kw_28⟩ nwM_ok hN hK hP (hD _) (by decide) (e_g2_0 cy ad _) rfl rfl hl.1 rfl (Nat.le_of_ble_eq_true rfl) d_M_neighbours_12 ⟨Nat.zero_le _, Nat.zero_le _⟩) (hD _) hS hA (fun H locs hP hS => ?_)
        refine lv_if_eq (tgt := 21) hx hb d_M_neighbours_15 (by decide) (fun c5 => ?_) (fun c5 => ?_)
        ·
          have hf := op_pos hf c5
          refine lv_iinc (v := x3 + (1 : Int32)) (lv' := [(3, .int (x3 + (1 : Int32))), (0, .ref (ad 0)), (1, .int x1), (2, .int x2)]) hx hb d_M_neighbours_21 hl (k := 3) rfl rfl (by decide) rfl (fun ls hl => ?_)
          refine lv_goto (tgt := 4) hx hb d_M_neighbours_24 (by decide) ?_
          exact ih _ _ _ _ _ _ hf _ _ _ hP hS (lv_sub hl [1, 2, 3, 0] rfl) k_0
        ·
          have hf := op_neg hf c5
          refine lv_iinc (v := x2 + (1 : Int32)) (lv' := [(2, .int (x2 + (1 : Int32))), (0, .ref (ad 0)), (1, .int x1), (3, .int x3)]) hx hb d_M_neighbours_18 hl (k := 2) rfl rfl (by decide) rfl (fun ls hl => ?_)
          refine lv_iinc (v := x3 + (1 : Int32)) (lv' := [(3, .int (x3 + (1 : Int32))), (2, .int (x2 + (1 : Int32))), (0, .ref (ad 0)), (1, .int x1)]) hx hb d_M_neighbours_21 hl (k := 3) rfl rfl (by decide) rfl (fun ls hl => ?_)
          refine lv_goto (tgt := 4) hx hb d_M_neighbours_24 (by decide) ?_
          exact ih _ _ _ _ _ _ hf _ _ _ hP hS (lv_sub hl [2, 3, 1, 0] rfl) k_0
  unfold f_M_neighbours at hf
  refine lv_iconst (v := 0) hx hb d_M_neighbours_0 (by decide) ?_
  refine lv_istore_n (lv' := [(2, .int (0 : Int32)), (0, .ref (ad 0)), (1, .int p1)]) hx hb d_M_neighbours_1 rfl hl (by decide) rfl (fun ls hl => ?_)
  refine lv_iconst (v := 0) hx hb d_M_neighbours_2 (by decide) ?_
  refine lv_istore_n (lv' := [(3, .int (0 : Int32)), (2, .int (0 : Int32)), (0, .ref (ad 0)), (1, .int p1)]) hx hb d_M_neighbours_3 rfl hl (by decide) rfl (fun ls hl => ?_)
  obtain ⟨v6, w7, hc8, hf⟩ := op_b2 hf
  refine L_4 _ _ _ _ _ _ _ hc8 _ _ _ hP hS (lv_sub hl [2, 3, 1, 0] rfl) (fun H locs ls hP hS hl => ?_)
  refine lv_iload_n hx hb d_M_neighbours_27 rfl (lv_at hl 0 rfl) ?_
  obtain ⟨hv9, rfl⟩ := op_inj hf
  exact wx_iret hx hb hr hlocks hAe hP hS hv9 d_M_neighbours_28

def l_M_candidate_4 : Nat → gS → Int32 → Int32 → Int32 → Option (Int32 × gS)
  | 0, _, _, _, _ => none
  | n + 1, z, x1, x2, x3 =>
    if (5 : Int32) ≤ x3 then (some (x2, z))
     else (if x3 < 0 ∨ 5 ≤ x3.toNatClampNeg then none else
     if (z.2.2.1 1 x3.toNatClampNeg) = 0 then (l_M_candidate_4 n z x1 x2 (x3 + (1 : Int32)))
     else (bd2 (f_M_inOrder z x3) (fun r7 w6 =>
     if r7 = 0 then (if x1 < 0 then (if x2 < 0 then (l_M_candidate_4 n w6 x1 x3 (x3 + (1 : Int32)))
     else (bd2 (f_M_neighbours w6 x3) (fun r15 w14 =>
     bd2 (f_M_neighbours w14 x2) (fun r18 w17 =>
     if r18 ≤ r15 then (l_M_candidate_4 n w17 x1 x2 (x3 + (1 : Int32)))
     else (l_M_candidate_4 n w17 x1 x3 (x3 + (1 : Int32)))))))
     else (bd2 (f_M_joined w6 x1 x3) (fun r22 w21 =>
     if r22 = 0 then (l_M_candidate_4 n w21 x1 x2 (x3 + (1 : Int32)))
     else (if x2 < 0 then (l_M_candidate_4 n w21 x1 x3 (x3 + (1 : Int32)))
     else (bd2 (f_M_neighbours w21 x3) (fun r29 w28 =>
     bd2 (f_M_neighbours w28 x2) (fun r32 w31 =>
     if r32 ≤ r29 then (l_M_candidate_4 n w31 x1 x2 (x3 + (1 : Int32)))
     else (l_M_candidate_4 n w31 x1 x3 (x3 + (1 : Int32))))))))))
     else (l_M_candidate_4 n w6 x1 x2 (x3 + (1 : Int32))))))
def f_M_candidate (z0 : gS) (p1 : Int32) : Option (Int32 × gS) :=
 bd2 (l_M_candidate_4 200 z0 p1 (-1 : Int32) (0 : Int32)) (fun v34 w35 =>
 some (v34, w35))
set_option maxHeartbeats 4000000 in
set_option maxRecDepth 100000 in
theorem m_M_candidate (l : Launch) (D : va_G) (cy : Nat → ClassId) (ad : Nat → Nat) (sz : Nat) (z0 : gS) (p1 : Int32) (r : Int32) (zz : gS) (hf : f_M_candidate z0 p1 = some (r, zz)) : Met l y_M_candidate (Cond.code y_M_candidate c_M_candidate 5 (some .int) :: gt_ws) ({ frames := 2, cells := 0, slots := 0, locals := 90 }) (sPc D cl_all (gTy cy) nwM 16 ad (g2 cy ad z0) sz [.ref (ad 0), .int p1]) (sQi D cl_all 16 ad (g2 cy ad z0) sz r (g2 cy ad zz)) 0 0 (va_A (wl 16 ad (g2 cy ad z0)) sz) := by
  refine Met.ofW (cc := c_M_candidate) (maxL := 5) (ret := (some .int)) (by decide) rfl ?_
  intro p e s m args below meth c s₁ B hml hv
  obtain ⟨rfl, hsz, hP, hK, hN, hD0⟩ := hv
  have hx := B.exec
  have hb := B.bytes
  have hr := B.returns
  have hts := atoms_spec (ws := (Cond.code y_M_candidate c_M_candidate 5 (some .int) :: gt_ws)) B.pre
  have ht : ∀ w ∈ gt_ws, w.before _ s = true := fun w h => hts w (List.mem_cons_of_mem _ h)
  have hown : s.vm.findClass RQ_M = some m.cls := findClass_of_methodNamed B.named
  have hlocks := B.notSynchronized
  subst hsz
  have hD1 := hD0.self (sz := s.heap.size)
  obtain ⟨A, hAe⟩ : ∃ A, A = va_A (wl 16 ad (g2 cy ad z0)) s.heap.size := ⟨_, rfl⟩
  rw [← hAe] at hD1
  have hD : ∀ g, va_D A (wl 16 ad g) := fun _ => wl_D hD1
  have hA : ∀ q : Nat, s.heap.size ≤ q → A q := fun q h => by rw [hAe]; exact Or.inr h
  have hS : va_S A s.heap s.heap [] := va_S.rf
  have hl := lv_entry ([.ref (ad 0), .int p1]) (n := 5) (Nat.le_of_ble_eq_true rfl)
  rw [lg_entry_eq]
  generalize (lg_sl ([.ref (ad 0), .int p1]) ++ List.replicate (5 - (lg_sl ([.ref (ad 0), .int p1])).length) Slot.unset).toArray = ls at hl ⊢
  have hl : lv_has ls 5 [(0, .ref (ad 0)), (1, .int p1)] := hl
  have L_4 : ∀ (n : Nat) (z : gS) (x1 : Int32) (x2 : Int32) (x3 : Int32) (y2 : Int32) (z9 : gS), l_M_candidate_4 n z x1 x2 x3 = some (y2, z9) → ∀ (H : Heap) (locs : List Loc) (ls : Array Slot), va_P D cl_all (wl 16 ad (g2 cy ad z)) H → va_S A s.heap H locs → lv_has ls 5 [(0, .ref (ad 0)), (1, .int x1), (2, .int x2), (3, .int x3)] →
      (∀ (H : Heap) (locs : List Loc) (ls : Array Slot), va_P D cl_all (wl 16 ad (g2 cy ad z9)) H → va_S A s.heap H locs → lv_has ls 5 [(2, .int y2)] → W p l e (headSpec (Cond.code y_M_candidate c_M_candidate 5 (some .int) :: gt_ws) ({ frames := 2, cells := 0, slots := 0, locals := 90 })).room s m ([.ref (ad 0), .int p1]).toArray below meth c H locs 0 0 (MQ below (sQi D cl_all 16 ad (g2 cy ad z0) s.heap.size r (g2 cy ad zz)) ([.ref (ad 0), .int p1]).toArray s 0 0 (va_A (wl 16 ad (g2 cy ad z0)) s.heap.size)) (F0 m 76 ls [])) →
      W p l e (headSpec (Cond.code y_M_candidate c_M_candidate 5 (some .int) :: gt_ws) ({ frames := 2, cells := 0, slots := 0, locals := 90 })).room s m ([.ref (ad 0), .int p1]).toArray below meth c H locs 0 0 (MQ below (sQi D cl_all 16 ad (g2 cy ad z0) s.heap.size r (g2 cy ad zz)) ([.ref (ad 0), .int p1]).toArray s 0 0 (va_A (wl 16 ad (g2 cy ad z0)) s.heap.size)) (F0 m 4 ls []) := by
    intro n
    induction n with
    | zero => intro z x1 x2 x3 y2 z9 hf; rw [l_M_candidate_4] at hf; cases hf
    | succ n ih =>
      intro z x1 x2 x3 y2 z9 hf H locs ls hP hS hl k_0
      rw [l_M_candidate_4] at hf
      refine lv_iload_n hx hb d_M_candidate_4 rfl (lv_at hl 3 rfl) ?_
      refine lv_iconst (v := 5) hx hb d_M_candidate_5 (by decide) ?_
      refine lv_icmp_ge (tgt := 76) hx hb d_M_candidate_6 (by decide) (fun c1 => ?_) (fun c1 => ?_)
      ·
        have hf := op_pos hf c1
        cases hf
        exact k_0 _ _ _ hP hS (lv_sub hl [2] rfl)
      ·
        have hf := op_neg hf c1
        refine lv_aload_n hx hb d_M_candidate_9 rfl (lv_at hl 0 rfl) ?_
        refine wx_get (v := .ref (ad 1)) (C := RQ_M) (T := FQ_M) (N := 21) hx hb ht IQ_M hown hK hP 0 (by decide) (e_g2_0 cy ad _) rfl 0 (by decide) (ht _ kw_528) (fun _ h9 => h9) rfl d_M_candidate_10 ?_
        refine lv_iload_n hx hb d_M_candidate_13 rfl (lv_at hl 3 rfl) ?_
        obtain ⟨h2, hf⟩ := op_chk hf
        refine wx_zald hx hb hK hP 1 (by decide) (by decide) 5 rfl h2 d_M_candidate_14 ?_
        refine lv_if_eq (tgt := 43) hx hb d_M_candidate_15 (by decide) (fun c3 => ?_) (fun c3 => ?_)
        ·
          have hf := op_pos hf c3
          refine lv_iconst (v := 0) hx hb d_M_candidate_43 (by decide) ?_
          refine lv_istore (lv' := [(4, .int (0 : Int32)), (0, .ref (ad 0)), (1, .int x1), (2, .int x2), (3, .int x3)]) hx hb d_M_candidate_44 hl (by decide) rfl (fun ls hl => ?_)
          refine lv_iload hx hb d_M_candidate_46 (lv_at hl 0 rfl) ?_
          refine lv_if_eq (tgt := 70) hx hb d_M_candidate_48 (by decide) (fun _ => ?_) (fun c => absurd c (by decide))
          refine lv_iinc (v := x3 + (1 : Int32)) (lv' := [(3, .int (x3 + (1 : Int32))), (4, .int (0 : Int32)), (0, .ref (ad 0)), (1, .int x1), (2, .int x2)]) hx hb d_M_candidate_70 hl (k := 4) rfl rfl (by decide) rfl (fun ls hl => ?_)
          refine lv_goto (tgt := 4) hx hb d_M_candidate_73 (by decide) ?_
          exact ih _ _ _ _ _ _ hf _ _ _ hP hS (lv_sub hl [2, 3, 4, 0] rfl) k_0
        ·
          have hf := op_neg hf c3
          refine lv_aload_n hx hb d_M_candidate_18 rfl (lv_at hl 0 rfl) ?_
          refine lv_iload_n hx hb d_M_candidate_19 rfl (lv_at hl 3 rfl) ?_
          obtain ⟨r7, w6, hc5, hf⟩ := op_b2 hf
          refine wx_fi (wx_rV (As := [.int x3]) (rest := []) ⟨hx, hb, hml, hown, ht⟩ (m_M_inOrder l D cy ad _ z x3 _ _ hc5) ⟨callB_of 1 ht (gt_in (fun _ h9 => h9) kw_635) rfl rfl rfl (ht _ kw_52) (ht _ kw_632) q_M_inOrder ⟨Nat.le_of_ble_eq_true rfl, Nat.le_of_ble_eq_true rfl⟩, ht _ kw_634, ht _ kw_27⟩ nwM_ok hN hK hP (hD _) (by decide) (e_g2_0 cy ad _) rfl rfl hl.1 rfl (Nat.le_of_ble_eq_true rfl) d_M_candidate_20 ⟨Nat.zero_le _, Nat.zero_le _⟩) (hD _) hS hA (fun H locs hP hS => ?_)
          refine lv_if_ne (tgt := 43) hx hb d_M_candidate_23 (by decide) (fun c8 => ?_) (fun c8 => ?_)
          ·
            have hf := op_neg hf c8
            refine lv_iconst (v := 0) hx hb d_M_candidate_43 (by decide) ?_
            refine lv_istore (lv' := [(4, .int (0 : Int32)), (0, .ref (ad 0)), (1, .int x1), (2, .int x2), (3, .int x3)]) hx hb d_M_candidate_44 hl (by decide) rfl (fun ls hl => ?_)
            refine lv_iload hx hb d_M_candidate_46 (lv_at hl 0 rfl) ?_
            refine lv_if_eq (tgt := 70) hx hb d_M_candidate_48 (by decide) (fun _ => ?_) (fun c => absurd c (by decide))
            refine lv_iinc (v := x3 + (1 : Int32)) (lv' := [(3, .int (x3 + (1 : Int32))), (4, .int (0 : Int32)), (0, .ref (ad 0)), (1, .int x1), (2, .int x2)]) hx hb d_M_candidate_70 hl (k := 4) rfl rfl (by decide) rfl (fun ls hl => ?_)
            refine lv_goto (tgt := 4) hx hb d_M_candidate_73 (by decide) ?_
            exact ih _ _ _ _ _ _ hf _ _ _ hP hS (lv_sub hl [2, 3, 4, 0] rfl) k_0
          ·
            have hf := op_pos hf c8
            refine lv_iload_n hx hb d_M_candidate_26 rfl (lv_at hl 1 rfl) ?_
            refine lv_if_lt (tgt := 39) hx hb d_M_candidate_27 (by decide) (fun c10 => ?_) (fun c10 => ?_)
            ·
              have hf := op_pos hf c10
              refine lv_iconst (v := 1) hx hb d_M_candidate_39 (by decide) ?_
              refine lv_goto (tgt := 44) hx hb d_M_candidate_40 (by decide) ?_
              refine lv_istore (lv' := [(4, .int (1 : Int32)), (0, .ref (ad 0)), (1, .int x1), (2, .int x2), (3, .int x3)]) hx hb d_M_candidate_44 hl (by decide) rfl (fun ls hl => ?_)
              refine lv_iload hx hb d_M_candidate_46 (lv_at hl 0 rfl) ?_
              refine lv_if_eq (tgt := 70) hx hb d_M_candidate_48 (by decide) (fun c => absurd c (by decide)) (fun _ => ?_)
              refine lv_iload_n hx hb d_M_candidate_51 rfl (lv_at hl 3 rfl) ?_
              refine lv_if_lt (tgt := 68) hx hb d_M_candidate_52 (by decide) (fun c12 => ?_) (fun c12 => ?_)
              ·
                have hf := op_pos hf c12
                refine lv_iload_n hx hb d_M_candidate_68 rfl (lv_at hl 4 rfl) ?_
                refine lv_istore_n (lv' := [(2, .int x3), (4, .int (1 : Int32)), (0, .ref (ad 0)), (1, .int x1), (3, .int x3)]) hx hb d_M_candidate_69 rfl hl (by decide) rfl (fun ls hl => ?_)
                refine lv_iinc (v := x3 + (1 : Int32)) (lv' := [(3, .int (x3 + (1 : Int32))), (2, .int x3), (4, .int (1 : Int32)), (0, .ref (ad 0)), (1, .int x1)]) hx hb d_M_candidate_70 hl (k := 4) rfl rfl (by decide) rfl (fun ls hl => ?_)
                refine lv_goto (tgt := 4) hx hb d_M_candidate_73 (by decide) ?_
                exact ih _ _ _ _ _ _ hf _ _ _ hP hS (lv_sub hl [3, 4, 1, 0] rfl) k_0
              ·
                have hf := op_neg hf c12
                refine lv_aload_n hx hb d_M_candidate_55 rfl (lv_at hl 1 rfl) ?_
                refine lv_iload_n hx hb d_M_candidate_56 rfl (lv_at hl 4 rfl) ?_
                obtain ⟨r15, w14, hc13, hf⟩ := op_b2 hf
                refine wx_fi (wx_rV (As := [.int x3]) (rest := []) ⟨hx, hb, hml, hown, ht⟩ (m_M_neighbours l D cy ad _ w6 x3 _ _ hc13) ⟨callB_of 1 ht (gt_in (fun _ h9 => h9) kw_643) rfl rfl rfl (ht _ kw_52) (ht _ kw_640) q_M_neighbours ⟨Nat.le_of_ble_eq_true rfl, Nat.le_of_ble_eq_true rfl⟩, ht _ kw_642, ht _ kw_29⟩ nwM_ok hN hK hP (hD _) (by decide) (e_g2_0 cy ad _) rfl rfl hl.1 rfl (Nat.le_of_ble_eq_true rfl) d_M_candidate_57 ⟨Nat.zero_le _, Nat.zero_le _⟩) (hD _) hS hA (fun H locs hP hS => ?_)
                refine lv_aload_n hx hb d_M_candidate_60 rfl (lv_at hl 1 rfl) ?_
                refine lv_iload_n hx hb d_M_candidate_61 rfl (lv_at hl 3 rfl) ?_
                obtain ⟨r18, w17, hc16, hf⟩ := op_b2 hf
                refine wx_fi (wx_rV (As := [.int x2]) (rest := [.int r15]) ⟨hx, hb, hml, hown, ht⟩ (m_M_neighbours l D cy ad _ w14 x2 _ _ hc16) ⟨callB_of 1 ht (gt_in (fun _ h9 => h9) kw_643) rfl rfl rfl (ht _ kw_52) (ht _ kw_640) q_M_neighbours ⟨Nat.le_of_ble_eq_true rfl, Nat.le_of_ble_eq_true rfl⟩, ht _ kw_642, ht _ kw_29⟩ nwM_ok hN hK hP (hD _) (by decide) (e_g2_0 cy ad _) rfl rfl hl.1 rfl (Nat.le_of_ble_eq_true rfl) d_M_candidate_62 ⟨Nat.zero_le _, Nat.zero_le _⟩) (hD _) hS hA (fun H locs hP hS => ?_)
                refine lv_icmp_ge (tgt := 70) hx hb d_M_candidate_65 (by decide) (fun c19 => ?_) (fun c19 => ?_)
                ·
                  have hf := op_pos hf c19
                  refine lv_iinc (v := x3 + (1 : Int32)) (lv' := [(3, .int (x3 + (1 : Int32))), (4, .int (1 : Int32)), (0, .ref (ad 0)), (1, .int x1), (2, .int x2)]) hx hb d_M_candidate_70 hl (k := 4) rfl rfl (by decide) rfl (fun ls hl => ?_)
                  refine lv_goto (tgt := 4) hx hb d_M_candidate_73 (by decide) ?_
                  exact ih _ _ _ _ _ _ hf _ _ _ hP hS (lv_sub hl [2, 3, 4, 0] rfl) k_0
                ·
                  have hf := op_neg hf c19
                  refine lv_iload_n hx hb d_M_candidate_68 rfl (lv_at hl 4 rfl) ?_
                  refine lv_istore_n (lv' := [(2, .int x3), (4, .int (1 : Int32)), (0, .ref (ad 0)), (1, .int x1), (3, .int x3)]) hx hb d_M_candidate_69 rfl hl (by decide) rfl (fun ls hl => ?_)
                  refine lv_iinc (v := x3 + (1 : Int32)) (lv' := [(3, .int (x3 + (1 : Int32))), (2, .int x3), (4, .int (1 : Int32)), (0, .ref (ad 0)), (1, .int x1)]) hx hb d_M_candidate_70 hl (k := 4) rfl rfl (by decide) rfl (fun ls hl => ?_)
                  refine lv_goto (tgt := 4) hx hb d_M_candidate_73 (by decide) ?_
                  exact ih _ _ _ _ _ _ hf _ _ _ hP hS (lv_sub hl [3, 4, 1, 0] rfl) k_0
            ·
              have hf := op_neg hf c10
              refine lv_aload_n hx hb d_M_candidate_30 rfl (lv_at hl 0 rfl) ?_
              refine lv_iload_n hx hb d_M_candidate_31 rfl (lv_at hl 1 rfl) ?_
              refine lv_iload_n hx hb d_M_candidate_32 rfl (lv_at hl 3 rfl) ?_
              obtain ⟨r22, w21, hc20, hf⟩ := op_b2 hf
              refine wx_fi (wx_rV (As := [.int x1, .int x3]) (rest := []) ⟨hx, hb, hml, hown, ht⟩ (m_M_joined l D cy ad _ w6 x1 x3 _ _ hc20) ⟨callB_of 2 ht (gt_in (fun _ h9 => h9) kw_639) rfl rfl rfl (ht _ kw_52) (ht _ kw_636) q_M_joined ⟨Nat.le_of_ble_eq_true rfl, Nat.le_of_ble_eq_true rfl⟩, ht _ kw_638, ht _ kw_28⟩ nwM_ok hN hK hP (hD _) (by decide) (e_g2_0 cy ad _) rfl rfl hl.1 rfl (Nat.le_of_ble_eq_true rfl) d_M_candidate_33 ⟨Nat.zero_le _, Nat.zero_le _⟩) (hD _) hS hA (fun H locs hP hS => ?_)
              refine lv_if_eq (tgt := 43) hx hb d_M_candidate_36 (by decide) (fun c23 => ?_) (fun c23 => ?_)
              ·
                have hf := op_pos hf c23
                refine lv_iconst (v := 0) hx hb d_M_candidate_43 (by decide) ?_
                refine lv_istore (lv' := [(4, .int (0 : Int32)), (0, .ref (ad 0)), (1, .int x1), (2, .int x2), (3, .int x3)]) hx hb d_M_candidate_44 hl (by decide) rfl (fun ls hl => ?_)
                refine lv_iload hx hb d_M_candidate_46 (lv_at hl 0 rfl) ?_
                refine lv_if_eq (tgt := 70) hx hb d_M_candidate_48 (by decide) (fun _ => ?_) (fun c => absurd c (by decide))
                refine lv_iinc (v := x3 + (1 : Int32)) (lv' := [(3, .int (x3 + (1 : Int32))), (4, .int (0 : Int32)), (0, .ref (ad 0)), (1, .int x1), (2, .int x2)]) hx hb d_M_candidate_70 hl (k := 4) rfl rfl (by decide) rfl (fun ls hl => ?_)
                refine lv_goto (tgt := 4) hx hb d_M_candidate_73 (by decide) ?_
                exact ih _ _ _ _ _ _ hf _ _ _ hP hS (lv_sub hl [2, 3, 4, 0] rfl) k_0
              ·
                have hf := op_neg hf c23
                refine lv_iconst (v := 1) hx hb d_M_candidate_39 (by decide) ?_
                refine lv_goto (tgt := 44) hx hb d_M_candidate_40 (by decide) ?_
                refine lv_istore (lv' := [(4, .int (1 : Int32)), (0, .ref (ad 0)), (1, .int x1), (2, .int x2), (3, .int x3)]) hx hb d_M_candidate_44 hl (by decide) rfl (fun ls hl => ?_)
                refine lv_iload hx hb d_M_candidate_46 (lv_at hl 0 rfl) ?_
                refine lv_if_eq (tgt := 70) hx hb d_M_candidate_48 (by decide) (fun c => absurd c (by decide)) (fun _ => ?_)
                refine lv_iload_n hx hb d_M_candidate_51 rfl (lv_at hl 3 rfl) ?_
                refine lv_if_lt (tgt := 68) hx hb d_M_candidate_52 (by decide) (fun c26 => ?_) (fun c26 => ?_)
                ·
                  have hf := op_pos hf c26
                  refine lv_iload_n hx hb d_M_candidate_68 rfl (lv_at hl 4 rfl) ?_
                  refine lv_istore_n (lv' := [(2, .int x3), (4, .int (1 : Int32)), (0, .ref (ad 0)), (1, .int x1), (3, .int x3)]) hx hb d_M_candidate_69 rfl hl (by decide) rfl (fun ls hl => ?_)
                  refine lv_iinc (v := x3 + (1 : Int32)) (lv' := [(3, .int (x3 + (1 : Int32))), (2, .int x3), (4, .int (1 : Int32)), (0, .ref (ad 0)), (1, .int x1)]) hx hb d_M_candidate_70 hl (k := 4) rfl rfl (by decide) rfl (fun ls hl => ?_)
                  refine lv_goto (tgt := 4) hx hb d_M_candidate_73 (by decide) ?_
                  exact ih _ _ _ _ _ _ hf _ _ _ hP hS (lv_sub hl [3, 4, 1, 0] rfl) k_0
                ·
                  have hf := op_neg hf c26
                  refine lv_aload_n hx hb d_M_candidate_55 rfl (lv_at hl 1 rfl) ?_
                  refine lv_iload_n hx hb d_M_candidate_56 rfl (lv_at hl 4 rfl) ?_
                  obtain ⟨r29, w28, hc27, hf⟩ := op_b2 hf
                  refine wx_fi (wx_rV (As := [.int x3]) (rest := []) ⟨hx, hb, hml, hown, ht⟩ (m_M_neighbours l D cy ad _ w21 x3 _ _ hc27) ⟨callB_of 1 ht (gt_in (fun _ h9 => h9) kw_643) rfl rfl rfl (ht _ kw_52) (ht _ kw_640) q_M_neighbours ⟨Nat.le_of_ble_eq_true rfl, Nat.le_of_ble_eq_true rfl⟩, ht _ kw_642, ht _ kw_29⟩ nwM_ok hN hK hP (hD _) (by decide) (e_g2_0 cy ad _) rfl rfl hl.1 rfl (Nat.le_of_ble_eq_true rfl) d_M_candidate_57 ⟨Nat.zero_le _, Nat.zero_le _⟩) (hD _) hS hA (fun H locs hP hS => ?_)
                  refine lv_aload_n hx hb d_M_candidate_60 rfl (lv_at hl 1 rfl) ?_
                  refine lv_iload_n hx hb d_M_candidate_61 rfl (lv_at hl 3 rfl) ?_
                  obtain ⟨r32, w31, hc30, hf⟩ := op_b2 hf
                  refine wx_fi (wx_rV (As := [.int x2]) (rest := [.int r29]) ⟨hx, hb, hml, hown, ht⟩ (m_M_neighbours l D cy ad _ w28 x2 _ _ hc30) ⟨callB_of 1 ht (gt_in (fun _ h9 => h9) kw_643) rfl rfl rfl (ht _ kw_52) (ht _ kw_640) q_M_neighbours ⟨Nat.le_of_ble_eq_true rfl, Nat.le_of_ble_eq_true rfl⟩, ht _ kw_642, ht _ kw_29⟩ nwM_ok hN hK hP (hD _) (by decide) (e_g2_0 cy ad _) rfl rfl hl.1 rfl (Nat.le_of_ble_eq_true rfl) d_M_candidate_62 ⟨Nat.zero_le _, Nat.zero_le _⟩) (hD _) hS hA (fun H locs hP hS => ?_)
                  refine lv_icmp_ge (tgt := 70) hx hb d_M_candidate_65 (by decide) (fun c33 => ?_) (fun c33 => ?_)
                  ·
                    have hf := op_pos hf c33
                    refine lv_iinc (v := x3 + (1 : Int32)) (lv' := [(3, .int (x3 + (1 : Int32))), (4, .int (1 : Int32)), (0, .ref (ad 0)), (1, .int x1), (2, .int x2)]) hx hb d_M_candidate_70 hl (k := 4) rfl rfl (by decide) rfl (fun ls hl => ?_)
                    refine lv_goto (tgt := 4) hx hb d_M_candidate_73 (by decide) ?_
                    exact ih _ _ _ _ _ _ hf _ _ _ hP hS (lv_sub hl [2, 3, 4, 0] rfl) k_0
                  ·
                    have hf := op_neg hf c33
                    refine lv_iload_n hx hb d_M_candidate_68 rfl (lv_at hl 4 rfl) ?_
                    refine lv_istore_n (lv' := [(2, .int x3), (4, .int (1 : Int32)), (0, .ref (ad 0)), (1, .int x1), (3, .int x3)]) hx hb d_M_candidate_69 rfl hl (by decide) rfl (fun ls hl => ?_)
                    refine lv_iinc (v := x3 + (1 : Int32)) (lv' := [(3, .int (x3 + (1 : Int32))), (2, .int x3), (4, .int (1 : Int32)), (0, .ref (ad 0)), (1, .int x1)]) hx hb d_M_candidate_70 hl (k := 4) rfl rfl (by decide) rfl (fun ls hl => ?_)
                    refine lv_goto (tgt := 4) hx hb d_M_candidate_73 (by decide) ?_
                    exact ih _ _ _ _ _ _ hf _ _ _ hP hS (lv_sub hl [3, 4, 1, 0] rfl) k_0
  unfold f_M_candidate at hf
  refine lv_iconst (v := -1) hx hb d_M_candidate_0 (by decide) ?_
  refine lv_istore_n (lv' := [(2, .int (-1 : Int32)), (0, .ref (ad 0)), (1, .int p1)]) hx hb d_M_candidate_1 rfl hl (by decide) rfl (fun ls hl => ?_)
  refine lv_iconst (v := 0) hx hb d_M_candidate_2 (by decide) ?_
  refine lv_istore_n (lv' := [(3, .int (0 : Int32)), (2, .int (-1 : Int32)), (0, .ref (ad 0)), (1, .int p1)]) hx hb d_M_candidate_3 rfl hl (by decide) rfl (fun ls hl => ?_)
  obtain ⟨v34, w35, hc36, hf⟩ := op_b2 hf
  refine L_4 _ _ _ _ _ _ _ hc36 _ _ _ hP hS (lv_sub hl [2, 3, 1, 0] rfl) (fun H locs ls hP hS hl => ?_)
  refine lv_iload_n hx hb d_M_candidate_76 rfl (lv_at hl 0 rfl) ?_
  obtain ⟨hv9, rfl⟩ := op_inj hf
  exact wx_iret hx hb hr hlocks hAe hP hS hv9 d_M_candidate_77

def f_M_append (z0 : gS) (p1 : Int32) : Option gS :=
 if (z0.1 2) < 0 ∨ 5 ≤ (z0.1 2).toNatClampNeg then none else
 (some (s_I z0 11 (upd (z0.2.2.1 11) (z0.1 2).toNatClampNeg p1))).bind (fun w2 =>
 (some (((w2.1 2) + (1 : Int32)) : Int32)).bind (fun v4 =>
 (some (s_i w2 2 v4)).bind (fun w6 =>
 some w6)))
set_option maxHeartbeats 4000000 in
set_option maxRecDepth 100000 in
theorem m_M_append (l : Launch) (D : va_G) (cy : Nat → ClassId) (ad : Nat → Nat) (sz : Nat) (z0 : gS) (p1 : Int32) (zz : gS) (hf : f_M_append z0 p1 = some zz) : Met l y_M_append (Cond.code y_M_append c_M_append 2 none :: gt_ws) ({ frames := 0, cells := 0, slots := 0, locals := 0 }) (sPc D cl_all (gTy cy) nwM 16 ad (g2 cy ad z0) sz [.ref (ad 0), .int p1]) (sQv D cl_all 16 ad (g2 cy ad z0) sz (g2 cy ad zz)) 0 0 (va_A (wl 16 ad (g2 cy ad z0)) sz) := by
  refine Met.ofW (cc := c_M_append) (maxL := 2) (ret := none) (by decide) rfl ?_
  intro p e s m args below meth c s₁ B hml hv
  obtain ⟨rfl, hsz, hP, hK, hN, hD0⟩ := hv
  have hx := B.exec
  have hb := B.bytes
  have hr := B.returns
  have hts := atoms_spec (ws := (Cond.code y_M_append c_M_append 2 none :: gt_ws)) B.pre
  have ht : ∀ w ∈ gt_ws, w.before _ s = true := fun w h => hts w (List.mem_cons_of_mem _ h)
  have hown : s.vm.findClass RQ_M = some m.cls := findClass_of_methodNamed B.named
  have hlocks := B.notSynchronized
  subst hsz
  have hD1 := hD0.self (sz := s.heap.size)
  obtain ⟨A, hAe⟩ : ∃ A, A = va_A (wl 16 ad (g2 cy ad z0)) s.heap.size := ⟨_, rfl⟩
  rw [← hAe] at hD1
  have hD : ∀ g, va_D A (wl 16 ad g) := fun _ => wl_D hD1
  have hA : ∀ q : Nat, s.heap.size ≤ q → A q := fun q h => by rw [hAe]; exact Or.inr h
  have hS : va_S A s.heap s.heap [] := va_S.rf
  have hl := lv_entry ([.ref (ad 0), .int p1]) (n := 2) (Nat.le_of_ble_eq_true rfl)
  rw [lg_entry_eq]
  generalize (lg_sl ([.ref (ad 0), .int p1]) ++ List.replicate (2 - (lg_sl ([.ref (ad 0), .int p1])).length) Slot.unset).toArray = ls at hl ⊢
  have hl : lv_has ls 2 [(0, .ref (ad 0)), (1, .int p1)] := hl
  unfold f_M_append at hf
  refine lv_aload_n hx hb d_M_append_0 rfl (lv_at hl 0 rfl) ?_
  refine wx_get (v := .ref (ad 11)) (C := RQ_M) (T := FQ_M) (N := 21) hx hb ht IQ_M hown hK hP 0 (by decide) (e_g2_0 cy ad _) rfl 12 (by decide) (ht _ kw_540) (fun _ h9 => h9) rfl d_M_append_1 ?_
  refine lv_aload_n hx hb d_M_append_4 rfl (lv_at hl 0 rfl) ?_
  refine wx_get (v := .int (z0.1 2)) (C := RQ_M) (T := FQ_M) (N := 21) hx hb ht IQ_M hown hK hP 0 (by decide) (e_g2_0 cy ad _) rfl 13 (by decide) (ht _ kw_541) (fun _ h9 => h9) rfl d_M_append_5 ?_
  refine lv_iload_n hx hb d_M_append_8 rfl (lv_at hl 1 rfl) ?_
  obtain ⟨h1, hf⟩ := op_chk hf
  refine wx_iast hx hb hK hP (hD _) hS 11 (by decide) (by decide) 5 rfl h1 d_M_append_9 (fun H locs hP hS => ?_)
  obtain ⟨w2, h3, hf⟩ := op_let hf
  rw [h3] at hP
  refine lv_aload_n hx hb d_M_append_10 rfl (lv_at hl 0 rfl) ?_
  refine lv_dup hx hb d_M_append_11 rfl ?_
  refine wx_get (v := .int (w2.1 2)) (C := RQ_M) (T := FQ_M) (N := 21) hx hb ht IQ_M hown hK hP 0 (by decide) (e_g2_0 cy ad _) rfl 13 (by decide) (ht _ kw_541) (fun _ h9 => h9) rfl d_M_append_12 ?_
  refine lv_iconst (v := 1) hx hb d_M_append_15 (by decide) ?_
  refine lv_iadd hx hb d_M_append_16 ?_
  obtain ⟨v4, h5, hf⟩ := op_let hf
  refine sw_i h5 ?_
  refine wx_put (v := .int v4) (ty := .int) (C := RQ_M) (T := FQ_M) (N := 21) hx hb ht IQ_M TQ_M TQ_M_ok NQ_M hown hK hP (hD _) hS 0 (by decide) (e_g2_0 cy ad _) rfl 13 (by decide) (ht _ kw_541) (fun _ h9 => h9) rfl (by decide +kernel) rfl rfl (Nat.le_of_ble_eq_true rfl) d_M_append_17 (up_M_ordered cy ad _ v4) (fun H locs hP hS => ?_)
  obtain ⟨w6, h7, hf⟩ := op_let hf
  rw [h7] at hP
  obtain rfl := Option.some.inj hf
  exact wx_vret hx hb hr hlocks hAe hP hS d_M_append_20

def l_M_makeOrder_9 : Nat → gS → Int32 → Int32 → Option (gS)
  | 0, _, _, _ => none
  | n + 1, z, x1, x2 =>
    if (20 : Int32) ≤ x2 then (some z)
     else (if (z.1 2) ≤ x1 then (bd2 (f_M_candidate z (-1 : Int32)) (fun r5 w4 =>
     if r5 < 0 then (l_M_makeOrder_9 n w4 (x1 + (1 : Int32)) (x2 + (1 : Int32)))
     else (bd1 (f_M_append w4 r5) (fun w8 =>
     l_M_makeOrder_9 n w8 x1 (x2 + (1 : Int32))))))
     else (if x1 < 0 ∨ 5 ≤ x1.toNatClampNeg then none else
     bd2 (f_M_candidate z (z.2.2.1 11 x1.toNatClampNeg)) (fun r12 w11 =>
     if r12 < 0 then (l_M_makeOrder_9 n w11 (x1 + (1 : Int32)) (x2 + (1 : Int32)))
     else (bd1 (f_M_append w11 r12) (fun w15 =>
     l_M_makeOrder_9 n w15 x1 (x2 + (1 : Int32)))))))
def l_M_makeOrder_61 : Nat → gS → Int32 → Option (gS)
  | 0, _, _ => none
  | n + 1, z, x2 =>
    if ((z.1 2) / (2 : Int32)) ≤ x2 then (some z)
     else (if x2 < 0 ∨ 5 ≤ x2.toNatClampNeg then none else
     (some ((z.2.2.1 11 x2.toNatClampNeg) : Int32)).bind (fun v18 =>
     if (((z.1 2) - (1 : Int32)) - x2) < 0 ∨ 5 ≤ (((z.1 2) - (1 : Int32)) - x2).toNatClampNeg then none else
     if x2 < 0 ∨ 5 ≤ x2.toNatClampNeg then none else
     (some (s_I z 11 (upd (z.2.2.1 11) x2.toNatClampNeg (z.2.2.1 11 (((z.1 2) - (1 : Int32)) - x2).toNatClampNeg)))).bind (fun w22 =>
     if (((w22.1 2) - (1 : Int32)) - x2) < 0 ∨ 5 ≤ (((w22.1 2) - (1 : Int32)) - x2).toNatClampNeg then none else
     (some (s_I w22 11 (upd (w22.2.2.1 11) (((w22.1 2) - (1 : Int32)) - x2).toNatClampNeg v18))).bind (fun w25 =>
     l_M_makeOrder_61 n w25 (x2 + (1 : Int32))))))
def l_M_makeOrder_124 : Nat → gS → Int32 → Option (gS)
  | 0, _, _ => none
  | n + 1, z, x2 =>
    if ((z.1 2) * (2 : Int32)) ≤ x2 then (some z)
     else (if (x2 / (2 : Int32)) < 0 ∨ 5 ≤ (x2 / (2 : Int32)).toNatClampNeg then none else
     (some ((((z.2.2.1 11 (x2 / (2 : Int32)).toNatClampNeg) * (2 : Int32)) + (x2 - x2 / (2 : Int32) * (2 : Int32))) : Int32)).bind (fun v29 =>
     if v29 < 0 ∨ 10 ≤ v29.toNatClampNeg then none else
     if (z.2.2.1 7 v29.toNatClampNeg) = 0 then (if (z.1 3) < 0 ∨ 10 ≤ (z.1 3).toNatClampNeg then none else
     (some (s_I z 12 (upd (z.2.2.1 12) (z.1 3).toNatClampNeg v29))).bind (fun w34 =>
     (some (((w34.1 3) + (1 : Int32)) : Int32)).bind (fun v36 =>
     (some (s_i w34 3 v36)).bind (fun w38 =>
     l_M_makeOrder_124 n w38 (x2 + (1 : Int32))))))
     else (l_M_makeOrder_124 n z (x2 + (1 : Int32)))))
def f_M_makeOrder (z0 : gS) : Option gS :=
 (some (s_i z0 2 (0 : Int32))).bind (fun w40 =>
 bd1 (l_M_makeOrder_9 200 w40 (0 : Int32) (0 : Int32)) (fun w42 =>
 bd1 (l_M_makeOrder_61 200 w42 (0 : Int32)) (fun w44 =>
 (some (s_i w44 3 (0 : Int32))).bind (fun w46 =>
 bd1 (l_M_makeOrder_124 200 w46 (0 : Int32)) (fun w48 =>
 some w48)))))
set_option maxHeartbeats 4000000 in
set_option maxRecDepth 100000 in
theorem m_M_makeOrder (l : Launch) (D : va_G) (cy : Nat → ClassId) (ad : Nat → Nat) (sz : Nat) (z0 : gS) (zz : gS) (hf : f_M_makeOrder z0 = some zz) : Met l y_M_makeOrder (Cond.code y_M_makeOrder c_M_makeOrder 4 none :: gt_ws) ({ frames := 3, cells := 0, slots := 0, locals := 135 }) (sPc D cl_all (gTy cy) nwM 16 ad (g2 cy ad z0) sz [.ref (ad 0)]) (sQv D cl_all 16 ad (g2 cy ad z0) sz (g2 cy ad zz)) 0 0 (va_A (wl 16 ad (g2 cy ad z0)) sz) := by
  refine Met.ofW (cc := c_M_makeOrder) (maxL := 4) (ret := none) (by decide) rfl ?_
  intro p e s m args below meth c s₁ B hml hv
  obtain ⟨rfl, hsz, hP, hK, hN, hD0⟩ := hv
  have hx := B.exec
  have hb := B.bytes
  have hr := B.returns
  have hts := atoms_spec (ws := (Cond.code y_M_makeOrder c_M_makeOrder 4 none :: gt_ws)) B.pre
  have ht : ∀ w ∈ gt_ws, w.before _ s = true := fun w h => hts w (List.mem_cons_of_mem _ h)
  have hown : s.vm.findClass RQ_M = some m.cls := findClass_of_methodNamed B.named
  have hlocks := B.notSynchronized
  subst hsz
  have hD1 := hD0.self (sz := s.heap.size)
  obtain ⟨A, hAe⟩ : ∃ A, A = va_A (wl 16 ad (g2 cy ad z0)) s.heap.size := ⟨_, rfl⟩
  rw [← hAe] at hD1
  have hD : ∀ g, va_D A (wl 16 ad g) := fun _ => wl_D hD1
  have hA : ∀ q : Nat, s.heap.size ≤ q → A q := fun q h => by rw [hAe]; exact Or.inr h
  have hS : va_S A s.heap s.heap [] := va_S.rf
  have hl := lv_entry ([.ref (ad 0)]) (n := 4) (Nat.le_of_ble_eq_true rfl)
  rw [lg_entry_eq]
  generalize (lg_sl ([.ref (ad 0)]) ++ List.replicate (4 - (lg_sl ([.ref (ad 0)])).length) Slot.unset).toArray = ls at hl ⊢
  have hl : lv_has ls 4 [(0, .ref (ad 0))] := hl
  have L_9 : ∀ (n : Nat) (z : gS) (x1 : Int32) (x2 : Int32) (z9 : gS), l_M_makeOrder_9 n z x1 x2 = some z9 → ∀ (H : Heap) (locs : List Loc) (ls : Array Slot), va_P D cl_all (wl 16 ad (g2 cy ad z)) H → va_S A s.heap H locs → lv_has ls 4 [(0, .ref (ad 0)), (1, .int x1), (2, .int x2)] →
      (∀ (H : Heap) (locs : List Loc) (ls : Array Slot), va_P D cl_all (wl 16 ad (g2 cy ad z9)) H → va_S A s.heap H locs → lv_has ls 4 [(0, .ref (ad 0))] → W p l e (headSpec (Cond.code y_M_makeOrder c_M_makeOrder 4 none :: gt_ws) ({ frames := 3, cells := 0, slots := 0, locals := 135 })).room s m ([.ref (ad 0)]).toArray below meth c H locs 0 0 (MQ below (sQv D cl_all 16 ad (g2 cy ad z0) s.heap.size (g2 cy ad zz)) ([.ref (ad 0)]).toArray s 0 0 (va_A (wl 16 ad (g2 cy ad z0)) s.heap.size)) (F0 m 59 ls [])) →
      W p l e (headSpec (Cond.code y_M_makeOrder c_M_makeOrder 4 none :: gt_ws) ({ frames := 3, cells := 0, slots := 0, locals := 135 })).room s m ([.ref (ad 0)]).toArray below meth c H locs 0 0 (MQ below (sQv D cl_all 16 ad (g2 cy ad z0) s.heap.size (g2 cy ad zz)) ([.ref (ad 0)]).toArray s 0 0 (va_A (wl 16 ad (g2 cy ad z0)) s.heap.size)) (F0 m 9 ls []) := by
    intro n
    induction n with
    | zero => intro z x1 x2 z9 hf; rw [l_M_makeOrder_9] at hf; cases hf
    | succ n ih =>
      intro z x1 x2 z9 hf H locs ls hP hS hl k_0
      rw [l_M_makeOrder_9] at hf
      refine lv_iload_n hx hb d_M_makeOrder_9 rfl (lv_at hl 2 rfl) ?_
      refine lv_bipush (v := 20) hx hb d_M_makeOrder_10 (by decide) ?_
      refine lv_icmp_ge (tgt := 59) hx hb d_M_makeOrder_12 (by decide) (fun c1 => ?_) (fun c1 => ?_)
      ·
        have hf := op_pos hf c1
        cases hf
        exact k_0 _ _ _ hP hS (lv_sub hl [0] rfl)
      ·
        have hf := op_neg hf c1
        refine lv_aload_n hx hb d_M_makeOrder_15 rfl (lv_at hl 0 rfl) ?_
        refine lv_iload_n hx hb d_M_makeOrder_16 rfl (lv_at hl 1 rfl) ?_
        refine lv_aload_n hx hb d_M_makeOrder_17 rfl (lv_at hl 0 rfl) ?_
        refine wx_get (v := .int (z.1 2)) (C := RQ_M) (T := FQ_M) (N := 21) hx hb ht IQ_M hown hK hP 0 (by decide) (e_g2_0 cy ad _) rfl 13 (by decide) (ht _ kw_541) (fun _ h9 => h9) rfl d_M_makeOrder_18 ?_
        refine lv_icmp_ge (tgt := 33) hx hb d_M_makeOrder_21 (by decide) (fun c2 => ?_) (fun c2 => ?_)
        ·
          have hf := op_pos hf c2
          refine lv_iconst (v := -1) hx hb d_M_makeOrder_33 (by decide) ?_
          obtain ⟨r5, w4, hc3, hf⟩ := op_b2 hf
          refine wx_fi (wx_rV (As := [.int (-1 : Int32)]) (rest := []) ⟨hx, hb, hml, hown, ht⟩ (m_M_candidate l D cy ad _ z (-1 : Int32) _ _ hc3) ⟨callB_of 1 ht (gt_in (fun _ h9 => h9) kw_631) rfl rfl rfl (ht _ kw_52) (ht _ kw_628) q_M_candidate ⟨Nat.le_of_ble_eq_true rfl, Nat.le_of_ble_eq_true rfl⟩, ht _ kw_630, ht _ kw_26⟩ nwM_ok hN hK hP (hD _) (by decide) (e_g2_0 cy ad _) rfl rfl hl.1 rfl (Nat.le_of_ble_eq_true rfl) d_M_makeOrder_34 ⟨Nat.zero_le _, Nat.zero_le _⟩) (hD _) hS hA (fun H locs hP hS => ?_)
          refine lv_istore_n (lv' := [(3, .int r5), (0, .ref (ad 0)), (1, .int x1), (2, .int x2)]) hx hb d_M_makeOrder_37 rfl hl (by decide) rfl (fun ls hl => ?_)
          refine lv_iload_n hx hb d_M_makeOrder_38 rfl (lv_at hl 0 rfl) ?_
          refine lv_if_lt (tgt := 50) hx hb d_M_makeOrder_39 (by decide) (fun c6 => ?_) (fun c6 => ?_)
          ·
            have hf := op_pos hf c6
            refine lv_iinc (v := x1 + (1 : Int32)) (lv' := [(1, .int (x1 + (1 : Int32))), (3, .int r5), (0, .ref (ad 0)), (2, .int x2)]) hx hb d_M_makeOrder_50 hl (k := 2) rfl rfl (by decide) rfl (fun ls hl => ?_)
            refine lv_iinc (v := x2 + (1 : Int32)) (lv' := [(2, .int (x2 + (1 : Int32))), (1, .int (x1 + (1 : Int32))), (3, .int r5), (0, .ref (ad 0))]) hx hb d_M_makeOrder_53 hl (k := 3) rfl rfl (by decide) rfl (fun ls hl => ?_)
            refine lv_goto (tgt := 9) hx hb d_M_makeOrder_56 (by decide) ?_
            exact ih _ _ _ _ hf _ _ _ hP hS (lv_sub hl [3, 1, 0] rfl) k_0
          ·
            have hf := op_neg hf c6
            refine lv_aload_n hx hb d_M_makeOrder_42 rfl (lv_at hl 1 rfl) ?_
            refine lv_iload_n hx hb d_M_makeOrder_43 rfl (lv_at hl 0 rfl) ?_
            obtain ⟨w8, hc7, hf⟩ := op_b1 hf
            refine wx_fv (wx_rV (As := [.int r5]) (rest := []) ⟨hx, hb, hml, hown, ht⟩ (m_M_append l D cy ad _ w4 r5 _ hc7) ⟨callB_of 1 ht (gt_in (fun _ h9 => h9) kw_647) rfl rfl rfl (ht _ kw_52) (ht _ kw_644) q_M_append ⟨Nat.le_of_ble_eq_true rfl, Nat.le_of_ble_eq_true rfl⟩, ht _ kw_646, ht _ kw_30⟩ nwM_ok hN hK hP (hD _) (by decide) (e_g2_0 cy ad _) rfl rfl hl.1 rfl (Nat.le_of_ble_eq_true rfl) d_M_makeOrder_44 ⟨Nat.zero_le _, Nat.zero_le _⟩) (hD _) hS hA (fun H locs hP hS => ?_)
            refine lv_goto (tgt := 53) hx hb d_M_makeOrder_47 (by decide) ?_
            refine lv_iinc (v := x2 + (1 : Int32)) (lv' := [(2, .int (x2 + (1 : Int32))), (3, .int r5), (0, .ref (ad 0)), (1, .int x1)]) hx hb d_M_makeOrder_53 hl (k := 3) rfl rfl (by decide) rfl (fun ls hl => ?_)
            refine lv_goto (tgt := 9) hx hb d_M_makeOrder_56 (by decide) ?_
            exact ih _ _ _ _ hf _ _ _ hP hS (lv_sub hl [2, 3, 0] rfl) k_0
        ·
          have hf := op_neg hf c2
          refine lv_aload_n hx hb d_M_makeOrder_24 rfl (lv_at hl 0 rfl) ?_
          refine wx_get (v := .ref (ad 11)) (C := RQ_M) (T := FQ_M) (N := 21) hx hb ht IQ_M hown hK hP 0 (by decide) (e_g2_0 cy ad _) rfl 12 (by decide) (ht _ kw_540) (fun _ h9 => h9) rfl d_M_makeOrder_25 ?_
          refine lv_iload_n hx hb d_M_makeOrder_28 rfl (lv_at hl 1 rfl) ?_
          obtain ⟨h9, hf⟩ := op_chk hf
          refine wx_iald hx hb hK hP 11 (by decide) (by decide) 5 rfl h9 d_M_makeOrder_29 ?_
          refine lv_goto (tgt := 34) hx hb d_M_makeOrder_30 (by decide) ?_
          obtain ⟨r12, w11, hc10, hf⟩ := op_b2 hf
          refine wx_fi (wx_rV (As := [.int (z.2.2.1 11 x1.toNatClampNeg)]) (rest := []) ⟨hx, hb, hml, hown, ht⟩ (m_M_candidate l D cy ad _ z (z.2.2.1 11 x1.toNatClampNeg) _ _ hc10) ⟨callB_of 1 ht (gt_in (fun _ h9 => h9) kw_631) rfl rfl rfl (ht _ kw_52) (ht _ kw_628) q_M_candidate ⟨Nat.le_of_ble_eq_true rfl, Nat.le_of_ble_eq_true rfl⟩, ht _ kw_630, ht _ kw_26⟩ nwM_ok hN hK hP (hD _) (by decide) (e_g2_0 cy ad _) rfl rfl hl.1 rfl (Nat.le_of_ble_eq_true rfl) d_M_makeOrder_34 ⟨Nat.zero_le _, Nat.zero_le _⟩) (hD _) hS hA (fun H locs hP hS => ?_)
          refine lv_istore_n (lv' := [(3, .int r12), (0, .ref (ad 0)), (1, .int x1), (2, .int x2)]) hx hb d_M_makeOrder_37 rfl hl (by decide) rfl (fun ls hl => ?_)
          refine lv_iload_n hx hb d_M_makeOrder_38 rfl (lv_at hl 0 rfl) ?_
          refine lv_if_lt (tgt := 50) hx hb d_M_makeOrder_39 (by decide) (fun c13 => ?_) (fun c13 => ?_)
          ·
            have hf := op_pos hf c13
            refine lv_iinc (v := x1 + (1 : Int32)) (lv' := [(1, .int (x1 + (1 : Int32))), (3, .int r12), (0, .ref (ad 0)), (2, .int x2)]) hx hb d_M_makeOrder_50 hl (k := 2) rfl rfl (by decide) rfl (fun ls hl => ?_)
            refine lv_iinc (v := x2 + (1 : Int32)) (lv' := [(2, .int (x2 + (1 : Int32))), (1, .int (x1 + (1 : Int32))), (3, .int r12), (0, .ref (ad 0))]) hx hb d_M_makeOrder_53 hl (k := 3) rfl rfl (by decide) rfl (fun ls hl => ?_)
            refine lv_goto (tgt := 9) hx hb d_M_makeOrder_56 (by decide) ?_
            exact ih _ _ _ _ hf _ _ _ hP hS (lv_sub hl [3, 1, 0] rfl) k_0
          ·
            have hf := op_neg hf c13
            refine lv_aload_n hx hb d_M_makeOrder_42 rfl (lv_at hl 1 rfl) ?_
            refine lv_iload_n hx hb d_M_makeOrder_43 rfl (lv_at hl 0 rfl) ?_
            obtain ⟨w15, hc14, hf⟩ := op_b1 hf
            refine wx_fv (wx_rV (As := [.int r12]) (rest := []) ⟨hx, hb, hml, hown, ht⟩ (m_M_append l D cy ad _ w11 r12 _ hc14) ⟨callB_of 1 ht (gt_in (fun _ h9 => h9) kw_647) rfl rfl rfl (ht _ kw_52) (ht _ kw_644) q_M_append ⟨Nat.le_of_ble_eq_true rfl, Nat.le_of_ble_eq_true rfl⟩, ht _ kw_646, ht _ kw_30⟩ nwM_ok hN hK hP (hD _) (by decide) (e_g2_0 cy ad _) rfl rfl hl.1 rfl (Nat.le_of_ble_eq_true rfl) d_M_makeOrder_44 ⟨Nat.zero_le _, Nat.zero_le _⟩) (hD _) hS hA (fun H locs hP hS => ?_)
            refine lv_goto (tgt := 53) hx hb d_M_makeOrder_47 (by decide) ?_
            refine lv_iinc (v := x2 + (1 : Int32)) (lv' := [(2, .int (x2 + (1 : Int32))), (3, .int r12), (0, .ref (ad 0)), (1, .int x1)]) hx hb d_M_makeOrder_53 hl (k := 3) rfl rfl (by decide) rfl (fun ls hl => ?_)
            refine lv_goto (tgt := 9) hx hb d_M_makeOrder_56 (by decide) ?_
            exact ih _ _ _ _ hf _ _ _ hP hS (lv_sub hl [2, 3, 0] rfl) k_0
  have L_61 : ∀ (n : Nat) (z : gS) (x2 : Int32) (z9 : gS), l_M_makeOrder_61 n z x2 = some z9 → ∀ (H : Heap) (locs : List Loc) (ls : Array Slot), va_P D cl_all (wl 16 ad (g2 cy ad z)) H → va_S A s.heap H locs → lv_has ls 4 [(0, .ref (ad 0)), (2, .int x2)] →
      (∀ (H : Heap) (locs : List Loc) (ls : Array Slot), va_P D cl_all (wl 16 ad (g2 cy ad z9)) H → va_S A s.heap H locs → lv_has ls 4 [(0, .ref (ad 0))] → W p l e (headSpec (Cond.code y_M_makeOrder c_M_makeOrder 4 none :: gt_ws) ({ frames := 3, cells := 0, slots := 0, locals := 135 })).room s m ([.ref (ad 0)]).toArray below meth c H locs 0 0 (MQ below (sQv D cl_all 16 ad (g2 cy ad z0) s.heap.size (g2 cy ad zz)) ([.ref (ad 0)]).toArray s 0 0 (va_A (wl 16 ad (g2 cy ad z0)) s.heap.size)) (F0 m 117 ls [])) →
      W p l e (headSpec (Cond.code y_M_makeOrder c_M_makeOrder 4 none :: gt_ws) ({ frames := 3, cells := 0, slots := 0, locals := 135 })).room s m ([.ref (ad 0)]).toArray below meth c H locs 0 0 (MQ below (sQv D cl_all 16 ad (g2 cy ad z0) s.heap.size (g2 cy ad zz)) ([.ref (ad 0)]).toArray s 0 0 (va_A (wl 16 ad (g2 cy ad z0)) s.heap.size)) (F0 m 61 ls []) := by
    intro n
    induction n with
    | zero => intro z x2 z9 hf; rw [l_M_makeOrder_61] at hf; cases hf
    | succ n ih =>
      intro z x2 z9 hf H locs ls hP hS hl k_0
      rw [l_M_makeOrder_61] at hf
      refine lv_iload_n hx hb d_M_makeOrder_61 rfl (lv_at hl 1 rfl) ?_
      refine lv_aload_n hx hb d_M_makeOrder_62 rfl (lv_at hl 0 rfl) ?_
      refine wx_get (v := .int (z.1 2)) (C := RQ_M) (T := FQ_M) (N := 21) hx hb ht IQ_M hown hK hP 0 (by decide) (e_g2_0 cy ad _) rfl 13 (by decide) (ht _ kw_541) (fun _ h9 => h9) rfl d_M_makeOrder_63 ?_
      refine lv_iconst (v := 2) hx hb d_M_makeOrder_66 (by decide) ?_
      refine lv_idiv hx hb d_M_makeOrder_67 (by decide) ?_
      refine lv_icmp_ge (tgt := 117) hx hb d_M_makeOrder_68 (by decide) (fun c16 => ?_) (fun c16 => ?_)
      ·
        have hf := op_pos hf c16
        cases hf
        exact k_0 _ _ _ hP hS (lv_sub hl [0] rfl)
      ·
        have hf := op_neg hf c16
        refine lv_aload_n hx hb d_M_makeOrder_71 rfl (lv_at hl 0 rfl) ?_
        refine wx_get (v := .ref (ad 11)) (C := RQ_M) (T := FQ_M) (N := 21) hx hb ht IQ_M hown hK hP 0 (by decide) (e_g2_0 cy ad _) rfl 12 (by decide) (ht _ kw_540) (fun _ h9 => h9) rfl d_M_makeOrder_72 ?_
        refine lv_iload_n hx hb d_M_makeOrder_75 rfl (lv_at hl 1 rfl) ?_
        obtain ⟨h17, hf⟩ := op_chk hf
        refine wx_iald hx hb hK hP 11 (by decide) (by decide) 5 rfl h17 d_M_makeOrder_76 ?_
        obtain ⟨v18, h19, hf⟩ := op_let hf
        refine sw_i h19 ?_
        refine lv_istore_n (lv' := [(3, .int v18), (0, .ref (ad 0)), (2, .int x2)]) hx hb d_M_makeOrder_77 rfl hl (by decide) rfl (fun ls hl => ?_)
        refine lv_aload_n hx hb d_M_makeOrder_78 rfl (lv_at hl 1 rfl) ?_
        refine wx_get (v := .ref (ad 11)) (C := RQ_M) (T := FQ_M) (N := 21) hx hb ht IQ_M hown hK hP 0 (by decide) (e_g2_0 cy ad _) rfl 12 (by decide) (ht _ kw_540) (fun _ h9 => h9) rfl d_M_makeOrder_79 ?_
        refine lv_iload_n hx hb d_M_makeOrder_82 rfl (lv_at hl 2 rfl) ?_
        refine lv_aload_n hx hb d_M_makeOrder_83 rfl (lv_at hl 1 rfl) ?_
        refine wx_get (v := .ref (ad 11)) (C := RQ_M) (T := FQ_M) (N := 21) hx hb ht IQ_M hown hK hP 0 (by decide) (e_g2_0 cy ad _) rfl 12 (by decide) (ht _ kw_540) (fun _ h9 => h9) rfl d_M_makeOrder_84 ?_
        refine lv_aload_n hx hb d_M_makeOrder_87 rfl (lv_at hl 1 rfl) ?_
        refine wx_get (v := .int (z.1 2)) (C := RQ_M) (T := FQ_M) (N := 21) hx hb ht IQ_M hown hK hP 0 (by decide) (e_g2_0 cy ad _) rfl 13 (by decide) (ht _ kw_541) (fun _ h9 => h9) rfl d_M_makeOrder_88 ?_
        refine lv_iconst (v := 1) hx hb d_M_makeOrder_91 (by decide) ?_
        refine lv_isub hx hb d_M_makeOrder_92 ?_
        refine lv_iload_n hx hb d_M_makeOrder_93 rfl (lv_at hl 2 rfl) ?_
        refine lv_isub hx hb d_M_makeOrder_94 ?_
        obtain ⟨h20, hf⟩ := op_chk hf
        refine wx_iald hx hb hK hP 11 (by decide) (by decide) 5 rfl h20 d_M_makeOrder_95 ?_
        obtain ⟨h21, hf⟩ := op_chk hf
        refine wx_iast hx hb hK hP (hD _) hS 11 (by decide) (by decide) 5 rfl h21 d_M_makeOrder_96 (fun H locs hP hS => ?_)
        obtain ⟨w22, h23, hf⟩ := op_let hf
        rw [h23] at hP
        refine lv_aload_n hx hb d_M_makeOrder_97 rfl (lv_at hl 1 rfl) ?_
        refine wx_get (v := .ref (ad 11)) (C := RQ_M) (T := FQ_M) (N := 21) hx hb ht IQ_M hown hK hP 0 (by decide) (e_g2_0 cy ad _) rfl 12 (by decide) (ht _ kw_540) (fun _ h9 => h9) rfl d_M_makeOrder_98 ?_
        refine lv_aload_n hx hb d_M_makeOrder_101 rfl (lv_at hl 1 rfl) ?_
        refine wx_get (v := .int (w22.1 2)) (C := RQ_M) (T := FQ_M) (N := 21) hx hb ht IQ_M hown hK hP 0 (by decide) (e_g2_0 cy ad _) rfl 13 (by decide) (ht _ kw_541) (fun _ h9 => h9) rfl d_M_makeOrder_102 ?_
        refine lv_iconst (v := 1) hx hb d_M_makeOrder_105 (by decide) ?_
        refine lv_isub hx hb d_M_makeOrder_106 ?_
        refine lv_iload_n hx hb d_M_makeOrder_107 rfl (lv_at hl 2 rfl) ?_
        refine lv_isub hx hb d_M_makeOrder_108 ?_
        refine lv_iload_n hx hb d_M_makeOrder_109 rfl (lv_at hl 0 rfl) ?_
        obtain ⟨h24, hf⟩ := op_chk hf
        refine wx_iast hx hb hK hP (hD _) hS 11 (by decide) (by decide) 5 rfl h24 d_M_makeOrder_110 (fun H locs hP hS => ?_)
        obtain ⟨w25, h26, hf⟩ := op_let hf
        rw [h26] at hP
        refine lv_iinc (v := x2 + (1 : Int32)) (lv' := [(2, .int (x2 + (1 : Int32))), (3, .int v18), (0, .ref (ad 0))]) hx hb d_M_makeOrder_111 hl (k := 2) rfl rfl (by decide) rfl (fun ls hl => ?_)
        refine lv_goto (tgt := 61) hx hb d_M_makeOrder_114 (by decide) ?_
        exact ih _ _ _ hf _ _ _ hP hS (lv_sub hl [2, 0] rfl) k_0
  have L_124 : ∀ (n : Nat) (z : gS) (x2 : Int32) (z9 : gS), l_M_makeOrder_124 n z x2 = some z9 → ∀ (H : Heap) (locs : List Loc) (ls : Array Slot), va_P D cl_all (wl 16 ad (g2 cy ad z)) H → va_S A s.heap H locs → lv_has ls 4 [(0, .ref (ad 0)), (2, .int x2)] →
      (∀ (H : Heap) (locs : List Loc) (ls : Array Slot), va_P D cl_all (wl 16 ad (g2 cy ad z9)) H → va_S A s.heap H locs → lv_has ls 4 [] → W p l e (headSpec (Cond.code y_M_makeOrder c_M_makeOrder 4 none :: gt_ws) ({ frames := 3, cells := 0, slots := 0, locals := 135 })).room s m ([.ref (ad 0)]).toArray below meth c H locs 0 0 (MQ below (sQv D cl_all 16 ad (g2 cy ad z0) s.heap.size (g2 cy ad zz)) ([.ref (ad 0)]).toArray s 0 0 (va_A (wl 16 ad (g2 cy ad z0)) s.heap.size)) (F0 m 184 ls [])) →
      W p l e (headSpec (Cond.code y_M_makeOrder c_M_makeOrder 4 none :: gt_ws) ({ frames := 3, cells := 0, slots := 0, locals := 135 })).room s m ([.ref (ad 0)]).toArray below meth c H locs 0 0 (MQ below (sQv D cl_all 16 ad (g2 cy ad z0) s.heap.size (g2 cy ad zz)) ([.ref (ad 0)]).toArray s 0 0 (va_A (wl 16 ad (g2 cy ad z0)) s.heap.size)) (F0 m 124 ls []) := by
    intro n
    induction n with
    | zero => intro z x2 z9 hf; rw [l_M_makeOrder_124] at hf; cases hf
    | succ n ih =>
      intro z x2 z9 hf H locs ls hP hS hl k_0
      rw [l_M_makeOrder_124] at hf
      refine lv_iload_n hx hb d_M_makeOrder_124 rfl (lv_at hl 1 rfl) ?_
      refine lv_aload_n hx hb d_M_makeOrder_125 rfl (lv_at hl 0 rfl) ?_
      refine wx_get (v := .int (z.1 2)) (C := RQ_M) (T := FQ_M) (N := 21) hx hb ht IQ_M hown hK hP 0 (by decide) (e_g2_0 cy ad _) rfl 13 (by decide) (ht _ kw_541) (fun _ h9 => h9) rfl d_M_makeOrder_126 ?_
      refine lv_iconst (v := 2) hx hb d_M_makeOrder_129 (by decide) ?_
      refine lv_imul hx hb d_M_makeOrder_130 ?_
      refine lv_icmp_ge (tgt := 184) hx hb d_M_makeOrder_131 (by decide) (fun c27 => ?_) (fun c27 => ?_)
      ·
        have hf := op_pos hf c27
        cases hf
        exact k_0 _ _ _ hP hS (lv_sub hl [] rfl)
      ·
        have hf := op_neg hf c27
        refine lv_aload_n hx hb d_M_makeOrder_134 rfl (lv_at hl 0 rfl) ?_
        refine wx_get (v := .ref (ad 11)) (C := RQ_M) (T := FQ_M) (N := 21) hx hb ht IQ_M hown hK hP 0 (by decide) (e_g2_0 cy ad _) rfl 12 (by decide) (ht _ kw_540) (fun _ h9 => h9) rfl d_M_makeOrder_135 ?_
        refine lv_iload_n hx hb d_M_makeOrder_138 rfl (lv_at hl 1 rfl) ?_
        refine lv_iconst (v := 2) hx hb d_M_makeOrder_139 (by decide) ?_
        refine lv_idiv hx hb d_M_makeOrder_140 (by decide) ?_
        obtain ⟨h28, hf⟩ := op_chk hf
        refine wx_iald hx hb hK hP 11 (by decide) (by decide) 5 rfl h28 d_M_makeOrder_141 ?_
        refine lv_iconst (v := 2) hx hb d_M_makeOrder_142 (by decide) ?_
        refine lv_imul hx hb d_M_makeOrder_143 ?_
        refine lv_iload_n hx hb d_M_makeOrder_144 rfl (lv_at hl 1 rfl) ?_
        refine lv_iconst (v := 2) hx hb d_M_makeOrder_145 (by decide) ?_
        refine lv_irem hx hb d_M_makeOrder_146 (by decide) ?_
        refine lv_iadd hx hb d_M_makeOrder_147 ?_
        obtain ⟨v29, h30, hf⟩ := op_let hf
        refine sw_i h30 ?_
        refine lv_istore_n (lv' := [(3, .int v29), (0, .ref (ad 0)), (2, .int x2)]) hx hb d_M_makeOrder_148 rfl hl (by decide) rfl (fun ls hl => ?_)
        refine lv_aload_n hx hb d_M_makeOrder_149 rfl (lv_at hl 1 rfl) ?_
        refine wx_get (v := .ref (ad 7)) (C := RQ_M) (T := FQ_M) (N := 21) hx hb ht IQ_M hown hK hP 0 (by decide) (e_g2_0 cy ad _) rfl 7 (by decide) (ht _ kw_535) (fun _ h9 => h9) rfl d_M_makeOrder_150 ?_
        refine lv_iload_n hx hb d_M_makeOrder_153 rfl (lv_at hl 0 rfl) ?_
        obtain ⟨h31, hf⟩ := op_chk hf
        refine wx_zald hx hb hK hP 7 (by decide) (by decide) 10 rfl h31 d_M_makeOrder_154 ?_
        refine lv_if_ne (tgt := 178) hx hb d_M_makeOrder_155 (by decide) (fun c32 => ?_) (fun c32 => ?_)
        ·
          have hf := op_neg hf c32
          refine lv_iinc (v := x2 + (1 : Int32)) (lv' := [(2, .int (x2 + (1 : Int32))), (3, .int v29), (0, .ref (ad 0))]) hx hb d_M_makeOrder_178 hl (k := 2) rfl rfl (by decide) rfl (fun ls hl => ?_)
          refine lv_goto (tgt := 124) hx hb d_M_makeOrder_181 (by decide) ?_
          exact ih _ _ _ hf _ _ _ hP hS (lv_sub hl [2, 0] rfl) k_0
        ·
          have hf := op_pos hf c32
          refine lv_aload_n hx hb d_M_makeOrder_158 rfl (lv_at hl 1 rfl) ?_
          refine wx_get (v := .ref (ad 12)) (C := RQ_M) (T := FQ_M) (N := 21) hx hb ht IQ_M hown hK hP 0 (by decide) (e_g2_0 cy ad _) rfl 14 (by decide) (ht _ kw_542) (fun _ h9 => h9) rfl d_M_makeOrder_159 ?_
          refine lv_aload_n hx hb d_M_makeOrder_162 rfl (lv_at hl 1 rfl) ?_
          refine wx_get (v := .int (z.1 3)) (C := RQ_M) (T := FQ_M) (N := 21) hx hb ht IQ_M hown hK hP 0 (by decide) (e_g2_0 cy ad _) rfl 15 (by decide) (ht _ kw_543) (fun _ h9 => h9) rfl d_M_makeOrder_163 ?_
          refine lv_iload_n hx hb d_M_makeOrder_166 rfl (lv_at hl 0 rfl) ?_
          obtain ⟨h33, hf⟩ := op_chk hf
          refine wx_iast hx hb hK hP (hD _) hS 12 (by decide) (by decide) 10 rfl h33 d_M_makeOrder_167 (fun H locs hP hS => ?_)
          obtain ⟨w34, h35, hf⟩ := op_let hf
          rw [h35] at hP
          refine lv_aload_n hx hb d_M_makeOrder_168 rfl (lv_at hl 1 rfl) ?_
          refine lv_dup hx hb d_M_makeOrder_169 rfl ?_
          refine wx_get (v := .int (w34.1 3)) (C := RQ_M) (T := FQ_M) (N := 21) hx hb ht IQ_M hown hK hP 0 (by decide) (e_g2_0 cy ad _) rfl 15 (by decide) (ht _ kw_543) (fun _ h9 => h9) rfl d_M_makeOrder_170 ?_
          refine lv_iconst (v := 1) hx hb d_M_makeOrder_173 (by decide) ?_
          refine lv_iadd hx hb d_M_makeOrder_174 ?_
          obtain ⟨v36, h37, hf⟩ := op_let hf
          refine sw_i h37 ?_
          refine wx_put (v := .int v36) (ty := .int) (C := RQ_M) (T := FQ_M) (N := 21) hx hb ht IQ_M TQ_M TQ_M_ok NQ_M hown hK hP (hD _) hS 0 (by decide) (e_g2_0 cy ad _) rfl 15 (by decide) (ht _ kw_543) (fun _ h9 => h9) rfl (by decide +kernel) rfl rfl (Nat.le_of_ble_eq_true rfl) d_M_makeOrder_175 (up_M_unknowns cy ad _ v36) (fun H locs hP hS => ?_)
          obtain ⟨w38, h39, hf⟩ := op_let hf
          rw [h39] at hP
          refine lv_iinc (v := x2 + (1 : Int32)) (lv' := [(2, .int (x2 + (1 : Int32))), (3, .int v29), (0, .ref (ad 0))]) hx hb d_M_makeOrder_178 hl (k := 2) rfl rfl (by decide) rfl (fun ls hl => ?_)
          refine lv_goto (tgt := 124) hx hb d_M_makeOrder_181 (by decide) ?_
          exact ih _ _ _ hf _ _ _ hP hS (lv_sub hl [2, 0] rfl) k_0
  unfold f_M_makeOrder at hf
  refine lv_aload_n hx hb d_M_makeOrder_0 rfl (lv_at hl 0 rfl) ?_
  refine lv_iconst (v := 0) hx hb d_M_makeOrder_1 (by decide) ?_
  refine wx_put (v := .int (0 : Int32)) (ty := .int) (C := RQ_M) (T := FQ_M) (N := 21) hx hb ht IQ_M TQ_M TQ_M_ok NQ_M hown hK hP (hD _) hS 0 (by decide) (e_g2_0 cy ad _) rfl 13 (by decide) (ht _ kw_541) (fun _ h9 => h9) rfl (by decide +kernel) rfl rfl (Nat.le_of_ble_eq_true rfl) d_M_makeOrder_2 (up_M_ordered cy ad _ (0 : Int32)) (fun H locs hP hS => ?_)
  obtain ⟨w40, h41, hf⟩ := op_let hf
  rw [h41] at hP
  refine lv_iconst (v := 0) hx hb d_M_makeOrder_5 (by decide) ?_
  refine lv_istore_n (lv' := [(1, .int (0 : Int32)), (0, .ref (ad 0))]) hx hb d_M_makeOrder_6 rfl hl (by decide) rfl (fun ls hl => ?_)
  refine lv_iconst (v := 0) hx hb d_M_makeOrder_7 (by decide) ?_
  refine lv_istore_n (lv' := [(2, .int (0 : Int32)), (1, .int (0 : Int32)), (0, .ref (ad 0))]) hx hb d_M_makeOrder_8 rfl hl (by decide) rfl (fun ls hl => ?_)
  obtain ⟨w42, hc43, hf⟩ := op_b1 hf
  refine L_9 _ _ _ _ _ hc43 _ _ _ hP hS (lv_sub hl [2, 1, 0] rfl) (fun H locs ls hP hS hl => ?_)
  refine lv_iconst (v := 0) hx hb d_M_makeOrder_59 (by decide) ?_
  refine lv_istore_n (lv' := [(2, .int (0 : Int32)), (0, .ref (ad 0))]) hx hb d_M_makeOrder_60 rfl hl (by decide) rfl (fun ls hl => ?_)
  obtain ⟨w44, hc45, hf⟩ := op_b1 hf
  refine L_61 _ _ _ _ hc45 _ _ _ hP hS (lv_sub hl [1, 0] rfl) (fun H locs ls hP hS hl => ?_)
  refine lv_aload_n hx hb d_M_makeOrder_117 rfl (lv_at hl 0 rfl) ?_
  refine lv_iconst (v := 0) hx hb d_M_makeOrder_118 (by decide) ?_
  refine wx_put (v := .int (0 : Int32)) (ty := .int) (C := RQ_M) (T := FQ_M) (N := 21) hx hb ht IQ_M TQ_M TQ_M_ok NQ_M hown hK hP (hD _) hS 0 (by decide) (e_g2_0 cy ad _) rfl 15 (by decide) (ht _ kw_543) (fun _ h9 => h9) rfl (by decide +kernel) rfl rfl (Nat.le_of_ble_eq_true rfl) d_M_makeOrder_119 (up_M_unknowns cy ad _ (0 : Int32)) (fun H locs hP hS => ?_)
  obtain ⟨w46, h47, hf⟩ := op_let hf
  rw [h47] at hP
  refine lv_iconst (v := 0) hx hb d_M_makeOrder_122 (by decide) ?_
  refine lv_istore_n (lv' := [(2, .int (0 : Int32)), (0, .ref (ad 0))]) hx hb d_M_makeOrder_123 rfl hl (by decide) rfl (fun ls hl => ?_)
  obtain ⟨w48, hc49, hf⟩ := op_b1 hf
  refine L_124 _ _ _ _ hc49 _ _ _ hP hS (lv_sub hl [1, 0] rfl) (fun H locs ls hP hS hl => ?_)
  obtain rfl := Option.some.inj hf
  exact wx_vret hx hb hr hlocks hAe hP hS d_M_makeOrder_184
