def l_R_heldDisplacement_1_5 : Nat → gS → Int32 → Int64 → Int32 → Option (Int64 × gS)
  | 0, _, _, _, _ => none
  | n + 1, z, x2, x3, x5 =>
    if (4 : Int32) ≤ x5 then (some (x3, z))
     else (if x5 < 0 ∨ 4 ≤ x5.toNatClampNeg then none else
     if x2 < 0 ∨ 10 ≤ x2.toNatClampNeg then none else
     (some ((x3 + (((z.2.2.1 16 x5.toNatClampNeg) * (z.2.2.1 10 x2.toNatClampNeg)).toInt64)) : Int64)).bind (fun v4 =>
     l_R_heldDisplacement_1_5 n z x2 v4 (x5 + (1 : Int32))))
def f_R_heldDisplacement_1 (z0 : gS) (p2 : Int32) : Option (Int64 × gS) :=
 bd2 (l_R_heldDisplacement_1_5 200 z0 p2 (0 : Int64) (0 : Int32)) (fun v6 w7 =>
 some (v6, w7))
set_option maxHeartbeats 4000000 in
set_option maxRecDepth 100000 in
theorem m_R_heldDisplacement_1 (l : Launch) (D : va_G) (cy : Nat → ClassId) (ad : Nat → Nat) (sz : Nat) (z0 : gS) (p2 : Int32) (r : Int64) (zz : gS) (hf : f_R_heldDisplacement_1 z0 p2 = some (r, zz)) : Met l y_R_heldDisplacement (Cond.code y_R_heldDisplacement c_R_heldDisplacement 6 (some .long) :: gt_ws) ({ frames := 0, cells := 0, slots := 0, locals := 0 }) (sPc D cl_all (gTy cy) nwC 52 ad (g1 cy ad z0) sz [.ref (ad 4), .ref (ad 1), .int p2]) (sQl D cl_all 52 ad (g1 cy ad z0) sz r (g1 cy ad zz)) 0 0 (va_A (wl 52 ad (g1 cy ad z0)) sz) := by
  refine Met.ofW (cc := c_R_heldDisplacement) (maxL := 6) (ret := (some .long)) (by decide) rfl ?_
  intro p e s m args below meth c s₁ B hml hv
  obtain ⟨rfl, hsz, hP, hK, hN, hD0⟩ := hv
  have hx := B.exec
  have hb := B.bytes
  have hr := B.returns
  have hts := atoms_spec (ws := (Cond.code y_R_heldDisplacement c_R_heldDisplacement 6 (some .long) :: gt_ws)) B.pre
  have ht : ∀ w ∈ gt_ws, w.before _ s = true := fun w h => hts w (List.mem_cons_of_mem _ h)
  have hown : s.vm.findClass RQ_R = some m.cls := findClass_of_methodNamed B.named
  have hlocks := B.notSynchronized
  subst hsz
  have hD1 := hD0.self (sz := s.heap.size)
  obtain ⟨A, hAe⟩ : ∃ A, A = va_A (wl 52 ad (g1 cy ad z0)) s.heap.size := ⟨_, rfl⟩
  rw [← hAe] at hD1
  have hD : ∀ g, va_D A (wl 52 ad g) := fun _ => wl_D hD1
  have hA : ∀ q : Nat, s.heap.size ≤ q → A q := fun q h => by rw [hAe]; exact Or.inr h
  have hS : va_S A s.heap s.heap [] := va_S.rf
  have hl := lv_entry ([.ref (ad 4), .ref (ad 1), .int p2]) (n := 6) (Nat.le_of_ble_eq_true rfl)
  rw [lg_entry_eq]
  generalize (lg_sl ([.ref (ad 4), .ref (ad 1), .int p2]) ++ List.replicate (6 - (lg_sl ([.ref (ad 4), .ref (ad 1), .int p2])).length) Slot.unset).toArray = ls at hl ⊢
  have hl : lv_has ls 6 [(0, .ref (ad 4)), (1, .ref (ad 1)), (2, .int p2)] := hl
  have L_5 : ∀ (n : Nat) (z : gS) (x2 : Int32) (x3 : Int64) (x5 : Int32) (y3 : Int64) (z9 : gS), l_R_heldDisplacement_1_5 n z x2 x3 x5 = some (y3, z9) → ∀ (H : Heap) (locs : List Loc) (ls : Array Slot), va_P D cl_all (wl 52 ad (g1 cy ad z)) H → va_S A s.heap H locs → lv_has ls 6 [(0, .ref (ad 4)), (1, .ref (ad 1)), (2, .int x2), (3, .long x3), (5, .int x5)] →
      (∀ (H : Heap) (locs : List Loc) (ls : Array Slot), va_P D cl_all (wl 52 ad (g1 cy ad z9)) H → va_S A s.heap H locs → lv_has ls 6 [(3, .long y3)] → W p l e (headSpec (Cond.code y_R_heldDisplacement c_R_heldDisplacement 6 (some .long) :: gt_ws) ({ frames := 0, cells := 0, slots := 0, locals := 0 })).room s m ([.ref (ad 4), .ref (ad 1), .int p2]).toArray below meth c H locs 0 0 (MQ below (sQl D cl_all 52 ad (g1 cy ad z0) s.heap.size r (g1 cy ad zz)) ([.ref (ad 4), .ref (ad 1), .int p2]).toArray s 0 0 (va_A (wl 52 ad (g1 cy ad z0)) s.heap.size)) (F0 m 35 ls [])) →
      W p l e (headSpec (Cond.code y_R_heldDisplacement c_R_heldDisplacement 6 (some .long) :: gt_ws) ({ frames := 0, cells := 0, slots := 0, locals := 0 })).room s m ([.ref (ad 4), .ref (ad 1), .int p2]).toArray below meth c H locs 0 0 (MQ below (sQl D cl_all 52 ad (g1 cy ad z0) s.heap.size r (g1 cy ad zz)) ([.ref (ad 4), .ref (ad 1), .int p2]).toArray s 0 0 (va_A (wl 52 ad (g1 cy ad z0)) s.heap.size)) (F0 m 5 ls []) := by
    intro n
    induction n with
    | zero => intro z x2 x3 x5 y3 z9 hf; rw [l_R_heldDisplacement_1_5] at hf; cases hf
    | succ n ih =>
      intro z x2 x3 x5 y3 z9 hf H locs ls hP hS hl k_0
      rw [l_R_heldDisplacement_1_5] at hf
      refine lv_iload hx hb d_R_heldDisplacement_5 (lv_at hl 4 rfl) ?_
      refine lv_iconst (v := 4) hx hb d_R_heldDisplacement_7 (by decide) ?_
      refine lv_icmp_ge (tgt := 35) hx hb d_R_heldDisplacement_8 (by decide) (fun c1 => ?_) (fun c1 => ?_)
      ·
        have hf := op_pos hf c1
        cases hf
        exact k_0 _ _ _ hP hS (lv_sub hl [3] rfl)
      ·
        have hf := op_neg hf c1
        refine lv_lload_n hx hb d_R_heldDisplacement_11 rfl (lv_at hl 3 rfl) ?_
        refine lv_aload_n hx hb d_R_heldDisplacement_12 rfl (lv_at hl 0 rfl) ?_
        refine wx_get (v := .ref (ad 16)) (C := RQ_R) (T := FQ_R) (N := 6) hx hb ht IQ_R hown hK hP 4 (by decide) (e_g1_4 cy ad _) rfl 0 (by decide) (ht _ kw_197) (fun _ h9 => h9) rfl d_R_heldDisplacement_13 ?_
        refine lv_iload hx hb d_R_heldDisplacement_16 (lv_at hl 4 rfl) ?_
        obtain ⟨h2, hf⟩ := op_chk hf
        refine wx_iald hx hb hK hP 16 (by decide) (by decide) 4 rfl h2 d_R_heldDisplacement_18 ?_
        refine lv_aload_n hx hb d_R_heldDisplacement_19 rfl (lv_at hl 1 rfl) ?_
        refine wx_get (v := .ref (ad 10)) (C := RQ_T) (T := FQ_T) (N := 10) hx hb ht IQ_T hown hK hP 1 (by decide) (e_g1_1 cy ad _) rfl 7 (by decide) (ht _ kw_93) (fun _ h9 => h9) rfl d_R_heldDisplacement_20 ?_
        refine lv_iload_n hx hb d_R_heldDisplacement_23 rfl (lv_at hl 2 rfl) ?_
        obtain ⟨h3, hf⟩ := op_chk hf
        refine wx_iald hx hb hK hP 10 (by decide) (by decide) 10 rfl h3 d_R_heldDisplacement_24 ?_
        refine lv_imul hx hb d_R_heldDisplacement_25 ?_
        refine lv_i2l hx hb d_R_heldDisplacement_26 rfl ?_
        refine lv_ladd hx hb d_R_heldDisplacement_27 ?_
        obtain ⟨v4, h5, hf⟩ := op_let hf
        refine sw_l h5 ?_
        refine lv_lstore_n (lv' := [(3, .long v4), (0, .ref (ad 4)), (1, .ref (ad 1)), (2, .int x2), (5, .int x5)]) hx hb d_R_heldDisplacement_28 rfl hl (by decide) rfl (fun ls hl => ?_)
        refine lv_iinc (v := x5 + (1 : Int32)) (lv' := [(5, .int (x5 + (1 : Int32))), (3, .long v4), (0, .ref (ad 4)), (1, .ref (ad 1)), (2, .int x2)]) hx hb d_R_heldDisplacement_29 hl (k := 4) rfl rfl (by decide) rfl (fun ls hl => ?_)
        refine lv_goto (tgt := 5) hx hb d_R_heldDisplacement_32 (by decide) ?_
        exact ih _ _ _ _ _ _ hf _ _ _ hP hS (lv_sub hl [2, 3, 4, 1, 0] rfl) k_0
  unfold f_R_heldDisplacement_1 at hf
  refine lv_lconst (v := 0) hx hb d_R_heldDisplacement_0 (by decide) ?_
  refine lv_lstore_n (lv' := [(3, .long (0 : Int64)), (0, .ref (ad 4)), (1, .ref (ad 1)), (2, .int p2)]) hx hb d_R_heldDisplacement_1 rfl hl (by decide) rfl (fun ls hl => ?_)
  refine lv_iconst (v := 0) hx hb d_R_heldDisplacement_2 (by decide) ?_
  refine lv_istore (lv' := [(5, .int (0 : Int32)), (3, .long (0 : Int64)), (0, .ref (ad 4)), (1, .ref (ad 1)), (2, .int p2)]) hx hb d_R_heldDisplacement_3 hl (by decide) rfl (fun ls hl => ?_)
  obtain ⟨v6, w7, hc8, hf⟩ := op_b2 hf
  refine L_5 _ _ _ _ _ _ _ hc8 _ _ _ hP hS (lv_sub hl [2, 3, 4, 1, 0] rfl) (fun H locs ls hP hS hl => ?_)
  refine lv_lload_n hx hb d_R_heldDisplacement_35 rfl (lv_at hl 0 rfl) ?_
  obtain ⟨hv9, rfl⟩ := op_inj hf
  exact wx_lret hx hb hr hlocks hAe hP hS hv9 d_R_heldDisplacement_36

def l_R_moveHeldSlots_1_2 : Nat → gS → Int32 → Option (gS)
  | 0, _, _ => none
  | n + 1, z, x2 =>
    if (10 : Int32) ≤ x2 then (some z)
     else (if x2 < 0 ∨ 10 ≤ x2.toNatClampNeg then none else
     if (z.2.2.1 9 x2.toNatClampNeg) = 0 then (if x2 < 0 ∨ 10 ≤ x2.toNatClampNeg then none else
     (some (s_J z 25 (vp_updL (z.2.2.2 25) x2.toNatClampNeg (0 : Int64)))).bind (fun w5 =>
     l_R_moveHeldSlots_1_2 n w5 (x2 + (1 : Int32))))
     else (bd2 (f_R_heldDisplacement_1 z x2) (fun r9 w8 =>
     if x2 < 0 ∨ 10 ≤ x2.toNatClampNeg then none else
     (some (s_J w8 25 (vp_updL (w8.2.2.2 25) x2.toNatClampNeg (r9 * (w8.2.1 0))))).bind (fun w11 =>
     l_R_moveHeldSlots_1_2 n w11 (x2 + (1 : Int32))))))
def f_R_moveHeldSlots_1 (z0 : gS) : Option gS :=
 bd1 (l_R_moveHeldSlots_1_2 200 z0 (0 : Int32)) (fun w13 =>
 some w13)
set_option maxHeartbeats 4000000 in
set_option maxRecDepth 100000 in
theorem m_R_moveHeldSlots_1 (l : Launch) (D : va_G) (cy : Nat → ClassId) (ad : Nat → Nat) (sz : Nat) (z0 : gS) (zz : gS) (hf : f_R_moveHeldSlots_1 z0 = some zz) : Met l y_R_moveHeldSlots (Cond.code y_R_moveHeldSlots c_R_moveHeldSlots 3 none :: gt_ws) ({ frames := 1, cells := 0, slots := 0, locals := 45 }) (sPc D cl_all (gTy cy) nwC 52 ad (g1 cy ad z0) sz [.ref (ad 4), .ref (ad 1)]) (sQv D cl_all 52 ad (g1 cy ad z0) sz (g1 cy ad zz)) 0 0 (va_A (wl 52 ad (g1 cy ad z0)) sz) := by
  refine Met.ofW (cc := c_R_moveHeldSlots) (maxL := 3) (ret := none) (by decide) rfl ?_
  intro p e s m args below meth c s₁ B hml hv
  obtain ⟨rfl, hsz, hP, hK, hN, hD0⟩ := hv
  have hx := B.exec
  have hb := B.bytes
  have hr := B.returns
  have hts := atoms_spec (ws := (Cond.code y_R_moveHeldSlots c_R_moveHeldSlots 3 none :: gt_ws)) B.pre
  have ht : ∀ w ∈ gt_ws, w.before _ s = true := fun w h => hts w (List.mem_cons_of_mem _ h)
  have hown : s.vm.findClass RQ_R = some m.cls := findClass_of_methodNamed B.named
  have hlocks := B.notSynchronized
  subst hsz
  have hD1 := hD0.self (sz := s.heap.size)
  obtain ⟨A, hAe⟩ : ∃ A, A = va_A (wl 52 ad (g1 cy ad z0)) s.heap.size := ⟨_, rfl⟩
  rw [← hAe] at hD1
  have hD : ∀ g, va_D A (wl 52 ad g) := fun _ => wl_D hD1
  have hA : ∀ q : Nat, s.heap.size ≤ q → A q := fun q h => by rw [hAe]; exact Or.inr h
  have hS : va_S A s.heap s.heap [] := va_S.rf
  have hl := lv_entry ([.ref (ad 4), .ref (ad 1)]) (n := 3) (Nat.le_of_ble_eq_true rfl)
  rw [lg_entry_eq]
  generalize (lg_sl ([.ref (ad 4), .ref (ad 1)]) ++ List.replicate (3 - (lg_sl ([.ref (ad 4), .ref (ad 1)])).length) Slot.unset).toArray = ls at hl ⊢
  have hl : lv_has ls 3 [(0, .ref (ad 4)), (1, .ref (ad 1))] := hl
  have L_2 : ∀ (n : Nat) (z : gS) (x2 : Int32) (z9 : gS), l_R_moveHeldSlots_1_2 n z x2 = some z9 → ∀ (H : Heap) (locs : List Loc) (ls : Array Slot), va_P D cl_all (wl 52 ad (g1 cy ad z)) H → va_S A s.heap H locs → lv_has ls 3 [(0, .ref (ad 4)), (1, .ref (ad 1)), (2, .int x2)] →
      (∀ (H : Heap) (locs : List Loc) (ls : Array Slot), va_P D cl_all (wl 52 ad (g1 cy ad z9)) H → va_S A s.heap H locs → lv_has ls 3 [] → W p l e (headSpec (Cond.code y_R_moveHeldSlots c_R_moveHeldSlots 3 none :: gt_ws) ({ frames := 1, cells := 0, slots := 0, locals := 45 })).room s m ([.ref (ad 4), .ref (ad 1)]).toArray below meth c H locs 0 0 (MQ below (sQv D cl_all 52 ad (g1 cy ad z0) s.heap.size (g1 cy ad zz)) ([.ref (ad 4), .ref (ad 1)]).toArray s 0 0 (va_A (wl 52 ad (g1 cy ad z0)) s.heap.size)) (F0 m 44 ls [])) →
      W p l e (headSpec (Cond.code y_R_moveHeldSlots c_R_moveHeldSlots 3 none :: gt_ws) ({ frames := 1, cells := 0, slots := 0, locals := 45 })).room s m ([.ref (ad 4), .ref (ad 1)]).toArray below meth c H locs 0 0 (MQ below (sQv D cl_all 52 ad (g1 cy ad z0) s.heap.size (g1 cy ad zz)) ([.ref (ad 4), .ref (ad 1)]).toArray s 0 0 (va_A (wl 52 ad (g1 cy ad z0)) s.heap.size)) (F0 m 2 ls []) := by
    intro n
    induction n with
    | zero => intro z x2 z9 hf; rw [l_R_moveHeldSlots_1_2] at hf; cases hf
    | succ n ih =>
      intro z x2 z9 hf H locs ls hP hS hl k_0
      rw [l_R_moveHeldSlots_1_2] at hf
      refine lv_iload_n hx hb d_R_moveHeldSlots_2 rfl (lv_at hl 2 rfl) ?_
      refine lv_bipush (v := 10) hx hb d_R_moveHeldSlots_3 (by decide) ?_
      refine lv_icmp_ge (tgt := 44) hx hb d_R_moveHeldSlots_5 (by decide) (fun c1 => ?_) (fun c1 => ?_)
      ·
        have hf := op_pos hf c1
        cases hf
        exact k_0 _ _ _ hP hS (lv_sub hl [] rfl)
      ·
        have hf := op_neg hf c1
        refine lv_aload_n hx hb d_R_moveHeldSlots_8 rfl (lv_at hl 0 rfl) ?_
        refine wx_get (v := .ref (ad 25)) (C := RQ_R) (T := FQ_R) (N := 6) hx hb ht IQ_R hown hK hP 4 (by decide) (e_g1_4 cy ad _) rfl 2 (by decide) (ht _ kw_199) (fun _ h9 => h9) rfl d_R_moveHeldSlots_9 ?_
        refine lv_iload_n hx hb d_R_moveHeldSlots_12 rfl (lv_at hl 2 rfl) ?_
        refine lv_aload_n hx hb d_R_moveHeldSlots_13 rfl (lv_at hl 1 rfl) ?_
        refine wx_get (v := .ref (ad 9)) (C := RQ_T) (T := FQ_T) (N := 10) hx hb ht IQ_T hown hK hP 1 (by decide) (e_g1_1 cy ad _) rfl 6 (by decide) (ht _ kw_89) (fun _ h9 => h9) rfl d_R_moveHeldSlots_14 ?_
        refine lv_iload_n hx hb d_R_moveHeldSlots_17 rfl (lv_at hl 2 rfl) ?_
        obtain ⟨h2, hf⟩ := op_chk hf
        refine wx_zald hx hb hK hP 9 (by decide) (by decide) 10 rfl h2 d_R_moveHeldSlots_18 ?_
        refine lv_if_eq (tgt := 36) hx hb d_R_moveHeldSlots_19 (by decide) (fun c3 => ?_) (fun c3 => ?_)
        ·
          have hf := op_pos hf c3
          refine lv_lconst (v := 0) hx hb d_R_moveHeldSlots_36 (by decide) ?_
          obtain ⟨h4, hf⟩ := op_chk hf
          refine wx_last hx hb hK hP (hD _) hS 25 (by decide) (by decide) 10 rfl h4 d_R_moveHeldSlots_37 (fun H locs hP hS => ?_)
          obtain ⟨w5, h6, hf⟩ := op_let hf
          rw [h6] at hP
          refine lv_iinc (v := x2 + (1 : Int32)) (lv' := [(2, .int (x2 + (1 : Int32))), (0, .ref (ad 4)), (1, .ref (ad 1))]) hx hb d_R_moveHeldSlots_38 hl (k := 2) rfl rfl (by decide) rfl (fun ls hl => ?_)
          refine lv_goto (tgt := 2) hx hb d_R_moveHeldSlots_41 (by decide) ?_
          exact ih _ _ _ hf _ _ _ hP hS (lv_sub hl [1, 2, 0] rfl) k_0
        ·
          have hf := op_neg hf c3
          refine lv_aload_n hx hb d_R_moveHeldSlots_22 rfl (lv_at hl 0 rfl) ?_
          refine lv_aload_n hx hb d_R_moveHeldSlots_23 rfl (lv_at hl 1 rfl) ?_
          refine lv_iload_n hx hb d_R_moveHeldSlots_24 rfl (lv_at hl 2 rfl) ?_
          obtain ⟨r9, w8, hc7, hf⟩ := op_b2 hf
          refine wx_fl (wx_rV (As := [.ref (ad 1), .int x2]) (rest := [.int x2, .ref (ad 25)]) ⟨hx, hb, hml, hown, ht⟩ (m_R_heldDisplacement_1 l D cy ad _ z x2 _ _ hc7) ⟨callB_of 2 ht (gt_in (fun _ h9 => h9) kw_457) rfl rfl rfl (ht _ kw_51) (ht _ kw_454) q_R_heldDisplacement ⟨Nat.le_of_ble_eq_true rfl, Nat.le_of_ble_eq_true rfl⟩, ht _ kw_456, ht _ kw_21⟩ nwC_ok hN hK hP (hD _) (by decide) (e_g1_4 cy ad _) rfl rfl hl.1 rfl (Nat.le_of_ble_eq_true rfl) d_R_moveHeldSlots_25 ⟨Nat.zero_le _, Nat.zero_le _⟩) (hD _) hS hA (fun H locs hP hS => ?_)
          refine lv_aload_n hx hb d_R_moveHeldSlots_28 rfl (lv_at hl 0 rfl) ?_
          refine wx_get (v := .long (w8.2.1 0)) (C := RQ_R) (T := FQ_R) (N := 6) hx hb ht IQ_R hown hK hP 4 (by decide) (e_g1_4 cy ad _) rfl 5 (by decide) (ht _ kw_203) (fun _ h9 => h9) rfl d_R_moveHeldSlots_29 ?_
          refine lv_lmul hx hb d_R_moveHeldSlots_32 ?_
          refine lv_goto (tgt := 37) hx hb d_R_moveHeldSlots_33 (by decide) ?_
          obtain ⟨h10, hf⟩ := op_chk hf
          refine wx_last hx hb hK hP (hD _) hS 25 (by decide) (by decide) 10 rfl h10 d_R_moveHeldSlots_37 (fun H locs hP hS => ?_)
          obtain ⟨w11, h12, hf⟩ := op_let hf
          rw [h12] at hP
          refine lv_iinc (v := x2 + (1 : Int32)) (lv' := [(2, .int (x2 + (1 : Int32))), (0, .ref (ad 4)), (1, .ref (ad 1))]) hx hb d_R_moveHeldSlots_38 hl (k := 2) rfl rfl (by decide) rfl (fun ls hl => ?_)
          refine lv_goto (tgt := 2) hx hb d_R_moveHeldSlots_41 (by decide) ?_
          exact ih _ _ _ hf _ _ _ hP hS (lv_sub hl [1, 2, 0] rfl) k_0
  unfold f_R_moveHeldSlots_1 at hf
  refine lv_iconst (v := 0) hx hb d_R_moveHeldSlots_0 (by decide) ?_
  refine lv_istore_n (lv' := [(2, .int (0 : Int32)), (0, .ref (ad 4)), (1, .ref (ad 1))]) hx hb d_R_moveHeldSlots_1 rfl hl (by decide) rfl (fun ls hl => ?_)
  obtain ⟨w13, hc14, hf⟩ := op_b1 hf
  refine L_2 _ _ _ _ hc14 _ _ _ hP hS (lv_sub hl [1, 2, 0] rfl) (fun H locs ls hP hS hl => ?_)
  obtain rfl := Option.some.inj hf
  exact wx_vret hx hb hr hlocks hAe hP hS d_R_moveHeldSlots_44

def l_R_findRightSide_1_2_3_33 : Nat → gS → Int32 → Int32 → Int64 → Int32 → Option (Int32 × Int64 × gS)
  | 0, _, _, _, _, _ => none
  | n + 1, z, x4, x5, x6, x8 =>
    if (10 : Int32) ≤ x8 then (some (x4, x6, z))
     else (if x8 < 0 ∨ 10 ≤ x8.toNatClampNeg then none else
     if (z.2.2.1 9 x8.toNatClampNeg) = 0 then (l_R_findRightSide_1_2_3_33 n z x4 x5 x6 (x8 + (1 : Int32)))
     else (if x5 < 0 ∨ 10 ≤ x5.toNatClampNeg then none else
     if x8 < 0 ∨ 10 ≤ x8.toNatClampNeg then none else
     bd2 (f_R_heldDisplacement_1 z x8) (fun r8 w7 =>
     (some ((x6 - ((z.2.2.2 (x5.toNatClampNeg + 32) x8.toNatClampNeg) * r8)) : Int64)).bind (fun v9 =>
     l_R_findRightSide_1_2_3_33 n w7 x4 x5 v9 (x8 + (1 : Int32))))))
def l_R_findRightSide_1_2_3_3 : Nat → gS → Int32 → Option (gS)
  | 0, _, _ => none
  | n + 1, z, x4 =>
    if (z.1 5) ≤ x4 then (some z)
     else (if x4 < 0 ∨ 10 ≤ x4.toNatClampNeg then none else
     (some ((z.2.2.1 15 x4.toNatClampNeg) : Int32)).bind (fun v13 =>
     if v13 < 0 ∨ 10 ≤ v13.toNatClampNeg then none else
     (some ((z.2.2.2 24 v13.toNatClampNeg) : Int64)).bind (fun v16 =>
     bd3 (l_R_findRightSide_1_2_3_33 200 z x4 v13 v16 (0 : Int32)) (fun v18 v19 w20 =>
     if v18 < 0 ∨ 10 ≤ v18.toNatClampNeg then none else
     (some (s_J w20 26 (vp_updL (w20.2.2.2 26) v18.toNatClampNeg v19))).bind (fun w23 =>
     l_R_findRightSide_1_2_3_3 n w23 (v18 + (1 : Int32)))))))
def f_R_findRightSide_1_2_3 (z0 : gS) : Option gS :=
 bd1 (l_R_findRightSide_1_2_3_3 200 z0 (0 : Int32)) (fun w25 =>
 some w25)
set_option maxHeartbeats 4000000 in
set_option maxRecDepth 100000 in
theorem m_R_findRightSide_1_2_3 (l : Launch) (D : va_G) (cy : Nat → ClassId) (ad : Nat → Nat) (sz : Nat) (z0 : gS) (zz : gS) (hf : f_R_findRightSide_1_2_3 z0 = some zz) : Met l y_R_findRightSide (Cond.code y_R_findRightSide c_R_findRightSide 9 none :: gt_ws) ({ frames := 1, cells := 0, slots := 0, locals := 45 }) (sPc D cl_all (gTy cy) nwC 52 ad (g1 cy ad z0) sz [.ref (ad 4), .ref (ad 1), .ref (ad 2), .ref (ad 3)]) (sQv D cl_all 52 ad (g1 cy ad z0) sz (g1 cy ad zz)) 0 0 (va_A (wl 52 ad (g1 cy ad z0)) sz) := by
  refine Met.ofW (cc := c_R_findRightSide) (maxL := 9) (ret := none) (by decide) rfl ?_
  intro p e s m args below meth c s₁ B hml hv
  obtain ⟨rfl, hsz, hP, hK, hN, hD0⟩ := hv
  have hx := B.exec
  have hb := B.bytes
  have hr := B.returns
  have hts := atoms_spec (ws := (Cond.code y_R_findRightSide c_R_findRightSide 9 none :: gt_ws)) B.pre
  have ht : ∀ w ∈ gt_ws, w.before _ s = true := fun w h => hts w (List.mem_cons_of_mem _ h)
  have hown : s.vm.findClass RQ_R = some m.cls := findClass_of_methodNamed B.named
  have hlocks := B.notSynchronized
  subst hsz
  have hD1 := hD0.self (sz := s.heap.size)
  obtain ⟨A, hAe⟩ : ∃ A, A = va_A (wl 52 ad (g1 cy ad z0)) s.heap.size := ⟨_, rfl⟩
  rw [← hAe] at hD1
  have hD : ∀ g, va_D A (wl 52 ad g) := fun _ => wl_D hD1
  have hA : ∀ q : Nat, s.heap.size ≤ q → A q := fun q h => by rw [hAe]; exact Or.inr h
  have hS : va_S A s.heap s.heap [] := va_S.rf
  have hl := lv_entry ([.ref (ad 4), .ref (ad 1), .ref (ad 2), .ref (ad 3)]) (n := 9) (Nat.le_of_ble_eq_true rfl)
  rw [lg_entry_eq]
  generalize (lg_sl ([.ref (ad 4), .ref (ad 1), .ref (ad 2), .ref (ad 3)]) ++ List.replicate (9 - (lg_sl ([.ref (ad 4), .ref (ad 1), .ref (ad 2), .ref (ad 3)])).length) Slot.unset).toArray = ls at hl ⊢
  have hl : lv_has ls 9 [(0, .ref (ad 4)), (1, .ref (ad 1)), (2, .ref (ad 2)), (3, .ref (ad 3))] := hl
  have L_33 : ∀ (n : Nat) (z : gS) (x4 : Int32) (x5 : Int32) (x6 : Int64) (x8 : Int32) (y4 : Int32) (y6 : Int64) (z9 : gS), l_R_findRightSide_1_2_3_33 n z x4 x5 x6 x8 = some (y4, y6, z9) → ∀ (H : Heap) (locs : List Loc) (ls : Array Slot), va_P D cl_all (wl 52 ad (g1 cy ad z)) H → va_S A s.heap H locs → lv_has ls 9 [(0, .ref (ad 4)), (1, .ref (ad 1)), (2, .ref (ad 2)), (3, .ref (ad 3)), (4, .int x4), (5, .int x5), (6, .long x6), (8, .int x8)] →
      (∀ (H : Heap) (locs : List Loc) (ls : Array Slot), va_P D cl_all (wl 52 ad (g1 cy ad z9)) H → va_S A s.heap H locs → lv_has ls 9 [(0, .ref (ad 4)), (1, .ref (ad 1)), (2, .ref (ad 2)), (3, .ref (ad 3)), (4, .int y4), (6, .long y6)] → W p l e (headSpec (Cond.code y_R_findRightSide c_R_findRightSide 9 none :: gt_ws) ({ frames := 1, cells := 0, slots := 0, locals := 45 })).room s m ([.ref (ad 4), .ref (ad 1), .ref (ad 2), .ref (ad 3)]).toArray below meth c H locs 0 0 (MQ below (sQv D cl_all 52 ad (g1 cy ad z0) s.heap.size (g1 cy ad zz)) ([.ref (ad 4), .ref (ad 1), .ref (ad 2), .ref (ad 3)]).toArray s 0 0 (va_A (wl 52 ad (g1 cy ad z0)) s.heap.size)) (F0 m 79 ls [])) →
      W p l e (headSpec (Cond.code y_R_findRightSide c_R_findRightSide 9 none :: gt_ws) ({ frames := 1, cells := 0, slots := 0, locals := 45 })).room s m ([.ref (ad 4), .ref (ad 1), .ref (ad 2), .ref (ad 3)]).toArray below meth c H locs 0 0 (MQ below (sQv D cl_all 52 ad (g1 cy ad z0) s.heap.size (g1 cy ad zz)) ([.ref (ad 4), .ref (ad 1), .ref (ad 2), .ref (ad 3)]).toArray s 0 0 (va_A (wl 52 ad (g1 cy ad z0)) s.heap.size)) (F0 m 33 ls []) := by
    intro n
    induction n with
    | zero => intro z x4 x5 x6 x8 y4 y6 z9 hf; rw [l_R_findRightSide_1_2_3_33] at hf; cases hf
    | succ n ih =>
      intro z x4 x5 x6 x8 y4 y6 z9 hf H locs ls hP hS hl k_0
      rw [l_R_findRightSide_1_2_3_33] at hf
      refine lv_iload hx hb d_R_findRightSide_33 (lv_at hl 7 rfl) ?_
      refine lv_bipush (v := 10) hx hb d_R_findRightSide_35 (by decide) ?_
      refine lv_icmp_ge (tgt := 79) hx hb d_R_findRightSide_37 (by decide) (fun c1 => ?_) (fun c1 => ?_)
      ·
        have hf := op_pos hf c1
        cases hf
        exact k_0 _ _ _ hP hS (lv_sub hl [0, 1, 2, 3, 4, 6] rfl)
      ·
        have hf := op_neg hf c1
        refine lv_aload_n hx hb d_R_findRightSide_40 rfl (lv_at hl 1 rfl) ?_
        refine wx_get (v := .ref (ad 9)) (C := RQ_T) (T := FQ_T) (N := 10) hx hb ht IQ_T hown hK hP 1 (by decide) (e_g1_1 cy ad _) rfl 6 (by decide) (ht _ kw_89) (fun _ h9 => h9) rfl d_R_findRightSide_41 ?_
        refine lv_iload hx hb d_R_findRightSide_44 (lv_at hl 7 rfl) ?_
        obtain ⟨h2, hf⟩ := op_chk hf
        refine wx_zald hx hb hK hP 9 (by decide) (by decide) 10 rfl h2 d_R_findRightSide_46 ?_
        refine lv_if_eq (tgt := 73) hx hb d_R_findRightSide_47 (by decide) (fun c3 => ?_) (fun c3 => ?_)
        ·
          have hf := op_pos hf c3
          refine lv_iinc (v := x8 + (1 : Int32)) (lv' := [(8, .int (x8 + (1 : Int32))), (0, .ref (ad 4)), (1, .ref (ad 1)), (2, .ref (ad 2)), (3, .ref (ad 3)), (4, .int x4), (5, .int x5), (6, .long x6)]) hx hb d_R_findRightSide_73 hl (k := 7) rfl rfl (by decide) rfl (fun ls hl => ?_)
          refine lv_goto (tgt := 33) hx hb d_R_findRightSide_76 (by decide) ?_
          exact ih _ _ _ _ _ _ _ _ hf _ _ _ hP hS (lv_sub hl [1, 2, 3, 4, 5, 6, 7, 0] rfl) k_0
        ·
          have hf := op_neg hf c3
          refine lv_lload hx hb d_R_findRightSide_50 (lv_at hl 6 rfl) ?_
          refine lv_aload_n hx hb d_R_findRightSide_52 rfl (lv_at hl 3 rfl) ?_
          refine wx_get (v := .ref (ad 18)) (C := RQ_E) (T := FQ_E) (N := 7) hx hb ht IQ_E hown hK hP 3 (by decide) (e_g1_3 cy ad _) rfl 0 (by decide) (ht _ kw_168) (fun _ h9 => h9) rfl d_R_findRightSide_53 ?_
          refine lv_iload hx hb d_R_findRightSide_56 (lv_at hl 5 rfl) ?_
          obtain ⟨h4, hf⟩ := op_chk hf
          refine wx_aald (b := ad (x5.toNatClampNeg + 32)) hx hb hK hP 18 4 (by decide) (e_g1_18 cy ad _) rfl h4 (if_pos (r32_lt h4)) d_R_findRightSide_58 ?_
          refine lv_iload hx hb d_R_findRightSide_59 (lv_at hl 7 rfl) ?_
          obtain ⟨h5, hf⟩ := op_chk hf
          refine wx_lald hx hb hK hP (x5.toNatClampNeg + 32) (r32 h4).1 (r32 h4).2.1 10 (r32 h4).2.2 h5 d_R_findRightSide_61 ?_
          refine lv_aload_n hx hb d_R_findRightSide_62 rfl (lv_at hl 0 rfl) ?_
          refine lv_aload_n hx hb d_R_findRightSide_63 rfl (lv_at hl 1 rfl) ?_
          refine lv_iload hx hb d_R_findRightSide_64 (lv_at hl 7 rfl) ?_
          obtain ⟨r8, w7, hc6, hf⟩ := op_b2 hf
          refine wx_fl (wx_rV (As := [.ref (ad 1), .int x8]) (rest := [.long (z.2.2.2 (x5.toNatClampNeg + 32) x8.toNatClampNeg), .long x6]) ⟨hx, hb, hml, hown, ht⟩ (m_R_heldDisplacement_1 l D cy ad _ z x8 _ _ hc6) ⟨callB_of 2 ht (gt_in (fun _ h9 => h9) kw_457) rfl rfl rfl (ht _ kw_51) (ht _ kw_454) q_R_heldDisplacement ⟨Nat.le_of_ble_eq_true rfl, Nat.le_of_ble_eq_true rfl⟩, ht _ kw_456, ht _ kw_21⟩ nwC_ok hN hK hP (hD _) (by decide) (e_g1_4 cy ad _) rfl rfl hl.1 rfl (Nat.le_of_ble_eq_true rfl) d_R_findRightSide_66 ⟨Nat.zero_le _, Nat.zero_le _⟩) (hD _) hS hA (fun H locs hP hS => ?_)
          refine lv_lmul hx hb d_R_findRightSide_69 ?_
          refine lv_lsub hx hb d_R_findRightSide_70 ?_
          obtain ⟨v9, h10, hf⟩ := op_let hf
          refine sw_l h10 ?_
          refine lv_lstore (lv' := [(6, .long v9), (0, .ref (ad 4)), (1, .ref (ad 1)), (2, .ref (ad 2)), (3, .ref (ad 3)), (4, .int x4), (5, .int x5), (8, .int x8)]) hx hb d_R_findRightSide_71 hl (by decide) rfl (fun ls hl => ?_)
          refine lv_iinc (v := x8 + (1 : Int32)) (lv' := [(8, .int (x8 + (1 : Int32))), (6, .long v9), (0, .ref (ad 4)), (1, .ref (ad 1)), (2, .ref (ad 2)), (3, .ref (ad 3)), (4, .int x4), (5, .int x5)]) hx hb d_R_findRightSide_73 hl (k := 7) rfl rfl (by decide) rfl (fun ls hl => ?_)
          refine lv_goto (tgt := 33) hx hb d_R_findRightSide_76 (by decide) ?_
          exact ih _ _ _ _ _ _ _ _ hf _ _ _ hP hS (lv_sub hl [2, 3, 4, 5, 6, 7, 1, 0] rfl) k_0
  have L_3 : ∀ (n : Nat) (z : gS) (x4 : Int32) (z9 : gS), l_R_findRightSide_1_2_3_3 n z x4 = some z9 → ∀ (H : Heap) (locs : List Loc) (ls : Array Slot), va_P D cl_all (wl 52 ad (g1 cy ad z)) H → va_S A s.heap H locs → lv_has ls 9 [(0, .ref (ad 4)), (1, .ref (ad 1)), (2, .ref (ad 2)), (3, .ref (ad 3)), (4, .int x4)] →
      (∀ (H : Heap) (locs : List Loc) (ls : Array Slot), va_P D cl_all (wl 52 ad (g1 cy ad z9)) H → va_S A s.heap H locs → lv_has ls 9 [] → W p l e (headSpec (Cond.code y_R_findRightSide c_R_findRightSide 9 none :: gt_ws) ({ frames := 1, cells := 0, slots := 0, locals := 45 })).room s m ([.ref (ad 4), .ref (ad 1), .ref (ad 2), .ref (ad 3)]).toArray below meth c H locs 0 0 (MQ below (sQv D cl_all 52 ad (g1 cy ad z0) s.heap.size (g1 cy ad zz)) ([.ref (ad 4), .ref (ad 1), .ref (ad 2), .ref (ad 3)]).toArray s 0 0 (va_A (wl 52 ad (g1 cy ad z0)) s.heap.size)) (F0 m 94 ls [])) →
      W p l e (headSpec (Cond.code y_R_findRightSide c_R_findRightSide 9 none :: gt_ws) ({ frames := 1, cells := 0, slots := 0, locals := 45 })).room s m ([.ref (ad 4), .ref (ad 1), .ref (ad 2), .ref (ad 3)]).toArray below meth c H locs 0 0 (MQ below (sQv D cl_all 52 ad (g1 cy ad z0) s.heap.size (g1 cy ad zz)) ([.ref (ad 4), .ref (ad 1), .ref (ad 2), .ref (ad 3)]).toArray s 0 0 (va_A (wl 52 ad (g1 cy ad z0)) s.heap.size)) (F0 m 3 ls []) := by
    intro n
    induction n with
    | zero => intro z x4 z9 hf; rw [l_R_findRightSide_1_2_3_3] at hf; cases hf
    | succ n ih =>
      intro z x4 z9 hf H locs ls hP hS hl k_0
      rw [l_R_findRightSide_1_2_3_3] at hf
      refine lv_iload hx hb d_R_findRightSide_3 (lv_at hl 4 rfl) ?_
      refine lv_aload_n hx hb d_R_findRightSide_5 rfl (lv_at hl 2 rfl) ?_
      refine wx_get (v := .int (z.1 5)) (C := RQ_N) (T := FQ_N) (N := 7) hx hb ht IQ_N hown hK hP 2 (by decide) (e_g1_2 cy ad _) rfl 6 (by decide) (ht _ kw_142) (fun _ h9 => h9) rfl d_R_findRightSide_6 ?_
      refine lv_icmp_ge (tgt := 94) hx hb d_R_findRightSide_9 (by decide) (fun c11 => ?_) (fun c11 => ?_)
      ·
        have hf := op_pos hf c11
        cases hf
        exact k_0 _ _ _ hP hS (lv_sub hl [] rfl)
      ·
        have hf := op_neg hf c11
        refine lv_aload_n hx hb d_R_findRightSide_12 rfl (lv_at hl 2 rfl) ?_
        refine wx_get (v := .ref (ad 15)) (C := RQ_N) (T := FQ_N) (N := 7) hx hb ht IQ_N hown hK hP 2 (by decide) (e_g1_2 cy ad _) rfl 5 (by decide) (ht _ kw_139) (fun _ h9 => h9) rfl d_R_findRightSide_13 ?_
        refine lv_iload hx hb d_R_findRightSide_16 (lv_at hl 4 rfl) ?_
        obtain ⟨h12, hf⟩ := op_chk hf
        refine wx_iald hx hb hK hP 15 (by decide) (by decide) 10 rfl h12 d_R_findRightSide_18 ?_
        obtain ⟨v13, h14, hf⟩ := op_let hf
        refine sw_i h14 ?_
        refine lv_istore (lv' := [(5, .int v13), (0, .ref (ad 4)), (1, .ref (ad 1)), (2, .ref (ad 2)), (3, .ref (ad 3)), (4, .int x4)]) hx hb d_R_findRightSide_19 hl (by decide) rfl (fun ls hl => ?_)
        refine lv_aload_n hx hb d_R_findRightSide_21 rfl (lv_at hl 1 rfl) ?_
        refine wx_get (v := .ref (ad 24)) (C := RQ_R) (T := FQ_R) (N := 6) hx hb ht IQ_R hown hK hP 4 (by decide) (e_g1_4 cy ad _) rfl 1 (by decide) (ht _ kw_198) (fun _ h9 => h9) rfl d_R_findRightSide_22 ?_
        refine lv_iload hx hb d_R_findRightSide_25 (lv_at hl 0 rfl) ?_
        obtain ⟨h15, hf⟩ := op_chk hf
        refine wx_lald hx hb hK hP 24 (by decide) (by decide) 10 rfl h15 d_R_findRightSide_27 ?_
        obtain ⟨v16, h17, hf⟩ := op_let hf
        refine sw_l h17 ?_
        refine lv_lstore (lv' := [(6, .long v16), (5, .int v13), (0, .ref (ad 4)), (1, .ref (ad 1)), (2, .ref (ad 2)), (3, .ref (ad 3)), (4, .int x4)]) hx hb d_R_findRightSide_28 hl (by decide) rfl (fun ls hl => ?_)
        refine lv_iconst (v := 0) hx hb d_R_findRightSide_30 (by decide) ?_
        refine lv_istore (lv' := [(8, .int (0 : Int32)), (6, .long v16), (5, .int v13), (0, .ref (ad 4)), (1, .ref (ad 1)), (2, .ref (ad 2)), (3, .ref (ad 3)), (4, .int x4)]) hx hb d_R_findRightSide_31 hl (by decide) rfl (fun ls hl => ?_)
        obtain ⟨v18, v19, w20, hc21, hf⟩ := op_b3 hf
        refine L_33 _ _ _ _ _ _ _ _ _ hc21 _ _ _ hP hS (lv_sub hl [3, 4, 5, 6, 7, 2, 1, 0] rfl) (fun H locs ls hP hS hl => ?_)
        refine lv_aload_n hx hb d_R_findRightSide_79 rfl (lv_at hl 0 rfl) ?_
        refine wx_get (v := .ref (ad 26)) (C := RQ_R) (T := FQ_R) (N := 6) hx hb ht IQ_R hown hK hP 4 (by decide) (e_g1_4 cy ad _) rfl 3 (by decide) (ht _ kw_201) (fun _ h9 => h9) rfl d_R_findRightSide_80 ?_
        refine lv_iload hx hb d_R_findRightSide_83 (lv_at hl 4 rfl) ?_
        refine lv_lload hx hb d_R_findRightSide_85 (lv_at hl 5 rfl) ?_
        obtain ⟨h22, hf⟩ := op_chk hf
        refine wx_last hx hb hK hP (hD _) hS 26 (by decide) (by decide) 10 rfl h22 d_R_findRightSide_87 (fun H locs hP hS => ?_)
        obtain ⟨w23, h24, hf⟩ := op_let hf
        rw [h24] at hP
        refine lv_iinc (v := v18 + (1 : Int32)) (lv' := [(4, .int (v18 + (1 : Int32))), (0, .ref (ad 4)), (1, .ref (ad 1)), (2, .ref (ad 2)), (3, .ref (ad 3)), (6, .long v19)]) hx hb d_R_findRightSide_88 hl (k := 4) rfl rfl (by decide) rfl (fun ls hl => ?_)
        refine lv_goto (tgt := 3) hx hb d_R_findRightSide_91 (by decide) ?_
        exact ih _ _ _ hf _ _ _ hP hS (lv_sub hl [1, 2, 3, 4, 0] rfl) k_0
  unfold f_R_findRightSide_1_2_3 at hf
  refine lv_iconst (v := 0) hx hb d_R_findRightSide_0 (by decide) ?_
  refine lv_istore (lv' := [(4, .int (0 : Int32)), (0, .ref (ad 4)), (1, .ref (ad 1)), (2, .ref (ad 2)), (3, .ref (ad 3))]) hx hb d_R_findRightSide_1 hl (by decide) rfl (fun ls hl => ?_)
  obtain ⟨w25, hc26, hf⟩ := op_b1 hf
  refine L_3 _ _ _ _ hc26 _ _ _ hP hS (lv_sub hl [1, 2, 3, 4, 0] rfl) (fun H locs ls hP hS hl => ?_)
  obtain rfl := Option.some.inj hf
  exact wx_vret hx hb hr hlocks hAe hP hS d_R_findRightSide_94

def l_E_rowTimes_27_6 : Nat → gS → Int32 → Int32 → Int64 → Int32 → Option (Int64 × gS)
  | 0, _, _, _, _, _ => none
  | n + 1, z, x1, x3, x4, x6 =>
    if x3 ≤ x6 then (some (x4, z))
     else (if x1 < 0 ∨ 10 ≤ x1.toNatClampNeg then none else
     if x6 < 0 ∨ 10 ≤ x6.toNatClampNeg then none else
     if x6 < 0 ∨ 10 ≤ x6.toNatClampNeg then none else
     (some ((x4 + ((z.2.2.2 (x1.toNatClampNeg + 42) x6.toNatClampNeg) * (z.2.2.2 27 x6.toNatClampNeg))) : Int64)).bind (fun v5 =>
     l_E_rowTimes_27_6 n z x1 x3 v5 (x6 + (1 : Int32))))
def f_E_rowTimes_27 (z0 : gS) (p1 : Int32) (p3 : Int32) : Option (Int64 × gS) :=
 bd2 (l_E_rowTimes_27_6 200 z0 p1 p3 (0 : Int64) (0 : Int32)) (fun v7 w8 =>
 some (v7, w8))
set_option maxHeartbeats 4000000 in
set_option maxRecDepth 100000 in
theorem m_E_rowTimes_27 (l : Launch) (D : va_G) (cy : Nat → ClassId) (ad : Nat → Nat) (sz : Nat) (z0 : gS) (p1 : Int32) (p3 : Int32) (r : Int64) (zz : gS) (hf : f_E_rowTimes_27 z0 p1 p3 = some (r, zz)) : Met l y_E_rowTimes (Cond.code y_E_rowTimes c_E_rowTimes 7 (some .long) :: gt_ws) ({ frames := 0, cells := 0, slots := 0, locals := 0 }) (sPc D cl_all (gTy cy) nwC 52 ad (g1 cy ad z0) sz [.ref (ad 3), .int p1, .ref (ad 27), .int p3]) (sQl D cl_all 52 ad (g1 cy ad z0) sz r (g1 cy ad zz)) 0 0 (va_A (wl 52 ad (g1 cy ad z0)) sz) := by
  refine Met.ofW (cc := c_E_rowTimes) (maxL := 7) (ret := (some .long)) (by decide) rfl ?_
  intro p e s m args below meth c s₁ B hml hv
  obtain ⟨rfl, hsz, hP, hK, hN, hD0⟩ := hv
  have hx := B.exec
  have hb := B.bytes
  have hr := B.returns
  have hts := atoms_spec (ws := (Cond.code y_E_rowTimes c_E_rowTimes 7 (some .long) :: gt_ws)) B.pre
  have ht : ∀ w ∈ gt_ws, w.before _ s = true := fun w h => hts w (List.mem_cons_of_mem _ h)
  have hown : s.vm.findClass RQ_E = some m.cls := findClass_of_methodNamed B.named
  have hlocks := B.notSynchronized
  subst hsz
  have hD1 := hD0.self (sz := s.heap.size)
  obtain ⟨A, hAe⟩ : ∃ A, A = va_A (wl 52 ad (g1 cy ad z0)) s.heap.size := ⟨_, rfl⟩
  rw [← hAe] at hD1
  have hD : ∀ g, va_D A (wl 52 ad g) := fun _ => wl_D hD1
  have hA : ∀ q : Nat, s.heap.size ≤ q → A q := fun q h => by rw [hAe]; exact Or.inr h
  have hS : va_S A s.heap s.heap [] := va_S.rf
  have hl := lv_entry ([.ref (ad 3), .int p1, .ref (ad 27), .int p3]) (n := 7) (Nat.le_of_ble_eq_true rfl)
  rw [lg_entry_eq]
  generalize (lg_sl ([.ref (ad 3), .int p1, .ref (ad 27), .int p3]) ++ List.replicate (7 - (lg_sl ([.ref (ad 3), .int p1, .ref (ad 27), .int p3])).length) Slot.unset).toArray = ls at hl ⊢
  have hl : lv_has ls 7 [(0, .ref (ad 3)), (1, .int p1), (2, .ref (ad 27)), (3, .int p3)] := hl
  have L_6 : ∀ (n : Nat) (z : gS) (x1 : Int32) (x3 : Int32) (x4 : Int64) (x6 : Int32) (y4 : Int64) (z9 : gS), l_E_rowTimes_27_6 n z x1 x3 x4 x6 = some (y4, z9) → ∀ (H : Heap) (locs : List Loc) (ls : Array Slot), va_P D cl_all (wl 52 ad (g1 cy ad z)) H → va_S A s.heap H locs → lv_has ls 7 [(0, .ref (ad 3)), (1, .int x1), (2, .ref (ad 27)), (3, .int x3), (4, .long x4), (6, .int x6)] →
      (∀ (H : Heap) (locs : List Loc) (ls : Array Slot), va_P D cl_all (wl 52 ad (g1 cy ad z9)) H → va_S A s.heap H locs → lv_has ls 7 [(4, .long y4)] → W p l e (headSpec (Cond.code y_E_rowTimes c_E_rowTimes 7 (some .long) :: gt_ws) ({ frames := 0, cells := 0, slots := 0, locals := 0 })).room s m ([.ref (ad 3), .int p1, .ref (ad 27), .int p3]).toArray below meth c H locs 0 0 (MQ below (sQl D cl_all 52 ad (g1 cy ad z0) s.heap.size r (g1 cy ad zz)) ([.ref (ad 3), .int p1, .ref (ad 27), .int p3]).toArray s 0 0 (va_A (wl 52 ad (g1 cy ad z0)) s.heap.size)) (F0 m 37 ls [])) →
      W p l e (headSpec (Cond.code y_E_rowTimes c_E_rowTimes 7 (some .long) :: gt_ws) ({ frames := 0, cells := 0, slots := 0, locals := 0 })).room s m ([.ref (ad 3), .int p1, .ref (ad 27), .int p3]).toArray below meth c H locs 0 0 (MQ below (sQl D cl_all 52 ad (g1 cy ad z0) s.heap.size r (g1 cy ad zz)) ([.ref (ad 3), .int p1, .ref (ad 27), .int p3]).toArray s 0 0 (va_A (wl 52 ad (g1 cy ad z0)) s.heap.size)) (F0 m 6 ls []) := by
    intro n
    induction n with
    | zero => intro z x1 x3 x4 x6 y4 z9 hf; rw [l_E_rowTimes_27_6] at hf; cases hf
    | succ n ih =>
      intro z x1 x3 x4 x6 y4 z9 hf H locs ls hP hS hl k_0
      rw [l_E_rowTimes_27_6] at hf
      refine lv_iload hx hb d_E_rowTimes_6 (lv_at hl 5 rfl) ?_
      refine lv_iload_n hx hb d_E_rowTimes_8 rfl (lv_at hl 3 rfl) ?_
      refine lv_icmp_ge (tgt := 37) hx hb d_E_rowTimes_9 (by decide) (fun c1 => ?_) (fun c1 => ?_)
      ·
        have hf := op_pos hf c1
        cases hf
        exact k_0 _ _ _ hP hS (lv_sub hl [4] rfl)
      ·
        have hf := op_neg hf c1
        refine lv_lload hx hb d_E_rowTimes_12 (lv_at hl 4 rfl) ?_
        refine lv_aload_n hx hb d_E_rowTimes_14 rfl (lv_at hl 0 rfl) ?_
        refine wx_get (v := .ref (ad 19)) (C := RQ_E) (T := FQ_E) (N := 7) hx hb ht IQ_E hown hK hP 3 (by decide) (e_g1_3 cy ad _) rfl 1 (by decide) (ht _ kw_169) (fun _ h9 => h9) rfl d_E_rowTimes_15 ?_
        refine lv_iload_n hx hb d_E_rowTimes_18 rfl (lv_at hl 1 rfl) ?_
        obtain ⟨h2, hf⟩ := op_chk hf
        refine wx_aald (b := ad (x1.toNatClampNeg + 42)) hx hb hK hP 19 4 (by decide) (e_g1_19 cy ad _) rfl h2 (if_pos (r42_lt h2)) d_E_rowTimes_19 ?_
        refine lv_iload hx hb d_E_rowTimes_20 (lv_at hl 5 rfl) ?_
        obtain ⟨h3, hf⟩ := op_chk hf
        refine wx_lald hx hb hK hP (x1.toNatClampNeg + 42) (r42 h2).1 (r42 h2).2.1 10 (r42 h2).2.2 h3 d_E_rowTimes_22 ?_
        refine lv_aload_n hx hb d_E_rowTimes_23 rfl (lv_at hl 2 rfl) ?_
        refine lv_iload hx hb d_E_rowTimes_24 (lv_at hl 5 rfl) ?_
        obtain ⟨h4, hf⟩ := op_chk hf
        refine wx_lald hx hb hK hP 27 (by decide) (by decide) 10 rfl h4 d_E_rowTimes_26 ?_
        refine lv_lmul hx hb d_E_rowTimes_27 ?_
        refine lv_ladd hx hb d_E_rowTimes_28 ?_
        obtain ⟨v5, h6, hf⟩ := op_let hf
        refine sw_l h6 ?_
        refine lv_lstore (lv' := [(4, .long v5), (0, .ref (ad 3)), (1, .int x1), (2, .ref (ad 27)), (3, .int x3), (6, .int x6)]) hx hb d_E_rowTimes_29 hl (by decide) rfl (fun ls hl => ?_)
        refine lv_iinc (v := x6 + (1 : Int32)) (lv' := [(6, .int (x6 + (1 : Int32))), (4, .long v5), (0, .ref (ad 3)), (1, .int x1), (2, .ref (ad 27)), (3, .int x3)]) hx hb d_E_rowTimes_31 hl (k := 5) rfl rfl (by decide) rfl (fun ls hl => ?_)
        refine lv_goto (tgt := 6) hx hb d_E_rowTimes_34 (by decide) ?_
        exact ih _ _ _ _ _ _ _ hf _ _ _ hP hS (lv_sub hl [2, 3, 4, 5, 1, 0] rfl) k_0
  unfold f_E_rowTimes_27 at hf
  refine lv_lconst (v := 0) hx hb d_E_rowTimes_0 (by decide) ?_
  refine lv_lstore (lv' := [(4, .long (0 : Int64)), (0, .ref (ad 3)), (1, .int p1), (2, .ref (ad 27)), (3, .int p3)]) hx hb d_E_rowTimes_1 hl (by decide) rfl (fun ls hl => ?_)
  refine lv_iconst (v := 0) hx hb d_E_rowTimes_3 (by decide) ?_
  refine lv_istore (lv' := [(6, .int (0 : Int32)), (4, .long (0 : Int64)), (0, .ref (ad 3)), (1, .int p1), (2, .ref (ad 27)), (3, .int p3)]) hx hb d_E_rowTimes_4 hl (by decide) rfl (fun ls hl => ?_)
  obtain ⟨v7, w8, hc9, hf⟩ := op_b2 hf
  refine L_6 _ _ _ _ _ _ _ _ hc9 _ _ _ hP hS (lv_sub hl [2, 3, 4, 5, 1, 0] rfl) (fun H locs ls hP hS hl => ?_)
  refine lv_lload hx hb d_E_rowTimes_37 (lv_at hl 0 rfl) ?_
  obtain ⟨hv9, rfl⟩ := op_inj hf
  exact wx_lret hx hb hr hlocks hAe hP hS hv9 d_E_rowTimes_39
