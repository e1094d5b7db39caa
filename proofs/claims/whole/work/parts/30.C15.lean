def l_R_reactionNumerator_3_16 : Nat → gS → Int32 → Int64 → Int32 → Option (Int64 × gS)
  | 0, _, _, _, _ => none
  | n + 1, z, x2, x3, x5 =>
    if (10 : Int32) ≤ x5 then (some (x3, z))
     else (if x2 < 0 ∨ 10 ≤ x2.toNatClampNeg then none else
     if x5 < 0 ∨ 10 ≤ x5.toNatClampNeg then none else
     if x5 < 0 ∨ 10 ≤ x5.toNatClampNeg then none else
     (some ((x3 + ((z.2.2.2 (x2.toNatClampNeg + 32) x5.toNatClampNeg) * (z.2.2.2 25 x5.toNatClampNeg))) : Int64)).bind (fun v5 =>
     l_R_reactionNumerator_3_16 n z x2 v5 (x5 + (1 : Int32))))
def f_R_reactionNumerator_3 (z0 : gS) (p2 : Int32) : Option (Int64 × gS) :=
 if p2 < 0 ∨ 10 ≤ p2.toNatClampNeg then none else
 (some (((-(z0.2.2.2 24 p2.toNatClampNeg)) * (z0.2.1 0)) : Int64)).bind (fun v8 =>
 bd2 (l_R_reactionNumerator_3_16 200 z0 p2 v8 (0 : Int32)) (fun v10 w11 =>
 some (v10, w11)))
set_option maxHeartbeats 4000000 in
set_option maxRecDepth 100000 in
theorem m_R_reactionNumerator_3 (l : Launch) (D : va_G) (cy : Nat → ClassId) (ad : Nat → Nat) (sz : Nat) (z0 : gS) (p2 : Int32) (r : Int64) (zz : gS) (hf : f_R_reactionNumerator_3 z0 p2 = some (r, zz)) : Met l y_R_reactionNumerator (Cond.code y_R_reactionNumerator c_R_reactionNumerator 6 (some .long) :: gt_ws) ({ frames := 0, cells := 0, slots := 0, locals := 0 }) (sPc D cl_all (gTy cy) nwC 52 ad (g1 cy ad z0) sz [.ref (ad 4), .ref (ad 3), .int p2]) (sQl D cl_all 52 ad (g1 cy ad z0) sz r (g1 cy ad zz)) 0 0 (va_A (wl 52 ad (g1 cy ad z0)) sz) := by
  refine Met.ofW (cc := c_R_reactionNumerator) (maxL := 6) (ret := (some .long)) (by decide) rfl ?_
  intro p e s m args below meth c s₁ B hml hv
  obtain ⟨rfl, hsz, hP, hK, hN, hD0⟩ := hv
  have hx := B.exec
  have hb := B.bytes
  have hr := B.returns
  have hts := atoms_spec (ws := (Cond.code y_R_reactionNumerator c_R_reactionNumerator 6 (some .long) :: gt_ws)) B.pre
  have ht : ∀ w ∈ gt_ws, w.before _ s = true := fun w h => hts w (List.mem_cons_of_mem _ h)
  have hown : s.vm.findClass RQ_R = some m.cls := findClass_of_methodNamed B.named
  have hlocks := B.notSynchronized
  subst hsz
  have hD1 := hD0.self (sz := s.heap.size)
  obtain ⟨A, hAe⟩ : ∃ A, A = va_A (wl 52 ad (g1 cy ad z0)) s.heap.size := ⟨_, rfl⟩
  rw [← hAe] at hD1
  have hD : ∀ g, va_D A (wl 52 ad g) := fun _ => wl_D hD1
  have hA : ∀ q : Nat, s.heap.size ≤ q → A q := fun q h => by rw [hAe]; exact Or.inr h
  have hS : va_S A s.heap s.heap [] := va_S.rf
  have hl := lv_entry ([.ref (ad 4), .ref (ad 3), .int p2]) (n := 6) (Nat.le_of_ble_eq_true rfl)
  rw [lg_entry_eq]
  generalize (lg_sl ([.ref (ad 4), .ref (ad 3), .int p2]) ++ List.replicate (6 - (lg_sl ([.ref (ad 4), .ref (ad 3), .int p2])).length) Slot.unset).toArray = ls at hl ⊢
  have hl : lv_has ls 6 [(0, .ref (ad 4)), (1, .ref (ad 3)), (2, .int p2)] := hl
  have L_16 : ∀ (n : Nat) (z : gS) (x2 : Int32) (x3 : Int64) (x5 : Int32) (y3 : Int64) (z9 : gS), l_R_reactionNumerator_3_16 n z x2 x3 x5 = some (y3, z9) → ∀ (H : Heap) (locs : List Loc) (ls : Array Slot), va_P D cl_all (wl 52 ad (g1 cy ad z)) H → va_S A s.heap H locs → lv_has ls 6 [(0, .ref (ad 4)), (1, .ref (ad 3)), (2, .int x2), (3, .long x3), (5, .int x5)] →
      (∀ (H : Heap) (locs : List Loc) (ls : Array Slot), va_P D cl_all (wl 52 ad (g1 cy ad z9)) H → va_S A s.heap H locs → lv_has ls 6 [(3, .long y3)] → W p l e (headSpec (Cond.code y_R_reactionNumerator c_R_reactionNumerator 6 (some .long) :: gt_ws) ({ frames := 0, cells := 0, slots := 0, locals := 0 })).room s m ([.ref (ad 4), .ref (ad 3), .int p2]).toArray below meth c H locs 0 0 (MQ below (sQl D cl_all 52 ad (g1 cy ad z0) s.heap.size r (g1 cy ad zz)) ([.ref (ad 4), .ref (ad 3), .int p2]).toArray s 0 0 (va_A (wl 52 ad (g1 cy ad z0)) s.heap.size)) (F0 m 49 ls [])) →
      W p l e (headSpec (Cond.code y_R_reactionNumerator c_R_reactionNumerator 6 (some .long) :: gt_ws) ({ frames := 0, cells := 0, slots := 0, locals := 0 })).room s m ([.ref (ad 4), .ref (ad 3), .int p2]).toArray below meth c H locs 0 0 (MQ below (sQl D cl_all 52 ad (g1 cy ad z0) s.heap.size r (g1 cy ad zz)) ([.ref (ad 4), .ref (ad 3), .int p2]).toArray s 0 0 (va_A (wl 52 ad (g1 cy ad z0)) s.heap.size)) (F0 m 16 ls []) := by
    intro n
    induction n with
    | zero => intro z x2 x3 x5 y3 z9 hf; rw [l_R_reactionNumerator_3_16] at hf; cases hf
    | succ n ih =>
      intro z x2 x3 x5 y3 z9 hf H locs ls hP hS hl k_0
      rw [l_R_reactionNumerator_3_16] at hf
      refine lv_iload hx hb d_R_reactionNumerator_16 (lv_at hl 4 rfl) ?_
      refine lv_bipush (v := 10) hx hb d_R_reactionNumerator_18 (by decide) ?_
      refine lv_icmp_ge (tgt := 49) hx hb d_R_reactionNumerator_20 (by decide) (fun c1 => ?_) (fun c1 => ?_)
      ·
        have hf := op_pos hf c1
        cases hf
        exact k_0 _ _ _ hP hS (lv_sub hl [3] rfl)
      ·
        have hf := op_neg hf c1
        refine lv_lload_n hx hb d_R_reactionNumerator_23 rfl (lv_at hl 3 rfl) ?_
        refine lv_aload_n hx hb d_R_reactionNumerator_24 rfl (lv_at hl 1 rfl) ?_
        refine wx_get (v := .ref (ad 18)) (C := RQ_E) (T := FQ_E) (N := 7) hx hb ht IQ_E hown hK hP 3 (by decide) (e_g1_3 cy ad _) rfl 0 (by decide) (ht _ kw_168) (fun _ h9 => h9) rfl d_R_reactionNumerator_25 ?_
        refine lv_iload_n hx hb d_R_reactionNumerator_28 rfl (lv_at hl 2 rfl) ?_
        obtain ⟨h2, hf⟩ := op_chk hf
        refine wx_aald (b := ad (x2.toNatClampNeg + 32)) hx hb hK hP 18 4 (by decide) (e_g1_18 cy ad _) rfl h2 (if_pos (r32_lt h2)) d_R_reactionNumerator_29 ?_
        refine lv_iload hx hb d_R_reactionNumerator_30 (lv_at hl 4 rfl) ?_
        obtain ⟨h3, hf⟩ := op_chk hf
        refine wx_lald hx hb hK hP (x2.toNatClampNeg + 32) (r32 h2).1 (r32 h2).2.1 10 (r32 h2).2.2 h3 d_R_reactionNumerator_32 ?_
        refine lv_aload_n hx hb d_R_reactionNumerator_33 rfl (lv_at hl 0 rfl) ?_
        refine wx_get (v := .ref (ad 25)) (C := RQ_R) (T := FQ_R) (N := 6) hx hb ht IQ_R hown hK hP 4 (by decide) (e_g1_4 cy ad _) rfl 2 (by decide) (ht _ kw_199) (fun _ h9 => h9) rfl d_R_reactionNumerator_34 ?_
        refine lv_iload hx hb d_R_reactionNumerator_37 (lv_at hl 4 rfl) ?_
        obtain ⟨h4, hf⟩ := op_chk hf
        refine wx_lald hx hb hK hP 25 (by decide) (by decide) 10 rfl h4 d_R_reactionNumerator_39 ?_
        refine lv_lmul hx hb d_R_reactionNumerator_40 ?_
        refine lv_ladd hx hb d_R_reactionNumerator_41 ?_
        obtain ⟨v5, h6, hf⟩ := op_let hf
        refine sw_l h6 ?_
        refine lv_lstore_n (lv' := [(3, .long v5), (0, .ref (ad 4)), (1, .ref (ad 3)), (2, .int x2), (5, .int x5)]) hx hb d_R_reactionNumerator_42 rfl hl (by decide) rfl (fun ls hl => ?_)
        refine lv_iinc (v := x5 + (1 : Int32)) (lv' := [(5, .int (x5 + (1 : Int32))), (3, .long v5), (0, .ref (ad 4)), (1, .ref (ad 3)), (2, .int x2)]) hx hb d_R_reactionNumerator_43 hl (k := 4) rfl rfl (by decide) rfl (fun ls hl => ?_)
        refine lv_goto (tgt := 16) hx hb d_R_reactionNumerator_46 (by decide) ?_
        exact ih _ _ _ _ _ _ hf _ _ _ hP hS (lv_sub hl [2, 3, 4, 1, 0] rfl) k_0
  unfold f_R_reactionNumerator_3 at hf
  refine lv_aload_n hx hb d_R_reactionNumerator_0 rfl (lv_at hl 0 rfl) ?_
  refine wx_get (v := .ref (ad 24)) (C := RQ_R) (T := FQ_R) (N := 6) hx hb ht IQ_R hown hK hP 4 (by decide) (e_g1_4 cy ad _) rfl 1 (by decide) (ht _ kw_198) (fun _ h9 => h9) rfl d_R_reactionNumerator_1 ?_
  refine lv_iload_n hx hb d_R_reactionNumerator_4 rfl (lv_at hl 2 rfl) ?_
  obtain ⟨h7, hf⟩ := op_chk hf
  refine wx_lald hx hb hK hP 24 (by decide) (by decide) 10 rfl h7 d_R_reactionNumerator_5 ?_
  refine lv_lneg hx hb d_R_reactionNumerator_6 ?_
  refine lv_aload_n hx hb d_R_reactionNumerator_7 rfl (lv_at hl 0 rfl) ?_
  refine wx_get (v := .long (z0.2.1 0)) (C := RQ_R) (T := FQ_R) (N := 6) hx hb ht IQ_R hown hK hP 4 (by decide) (e_g1_4 cy ad _) rfl 5 (by decide) (ht _ kw_203) (fun _ h9 => h9) rfl d_R_reactionNumerator_8 ?_
  refine lv_lmul hx hb d_R_reactionNumerator_11 ?_
  obtain ⟨v8, h9, hf⟩ := op_let hf
  refine sw_l h9 ?_
  refine lv_lstore_n (lv' := [(3, .long v8), (0, .ref (ad 4)), (1, .ref (ad 3)), (2, .int p2)]) hx hb d_R_reactionNumerator_12 rfl hl (by decide) rfl (fun ls hl => ?_)
  refine lv_iconst (v := 0) hx hb d_R_reactionNumerator_13 (by decide) ?_
  refine lv_istore (lv' := [(5, .int (0 : Int32)), (3, .long v8), (0, .ref (ad 4)), (1, .ref (ad 3)), (2, .int p2)]) hx hb d_R_reactionNumerator_14 hl (by decide) rfl (fun ls hl => ?_)
  obtain ⟨v10, w11, hc12, hf⟩ := op_b2 hf
  refine L_16 _ _ _ _ _ _ _ hc12 _ _ _ hP hS (lv_sub hl [2, 3, 4, 1, 0] rfl) (fun H locs ls hP hS hl => ?_)
  refine lv_lload_n hx hb d_R_reactionNumerator_49 rfl (lv_at hl 0 rfl) ?_
  obtain ⟨hv9, rfl⟩ := op_inj hf
  exact wx_lret hx hb hr hlocks hAe hP hS hv9 d_R_reactionNumerator_50

def f_S_reaction (z0 : gS) (p1 : Int32) (p2 : Int32) (p3 : Int32) (p4 : Int32) : Option (Int64 × gS) :=
 bd2 (f_S_isCase z0 p1) (fun r3 w2 =>
 if r3 = 0 then (some ((-4000000000000000000 : Int64), w2))
 else (bd2 (f_S_isAnswerable w2 p2 p3 p4) (fun r7 w6 =>
 if r7 = 0 then (some ((-4000000000000000000 : Int64), w6))
 else (bd2 (f_S_slotOf w6 p2 p3) (fun r11 w10 =>
 if r11 < 0 ∨ 10 ≤ r11.toNatClampNeg then none else
 if (w10.2.2.1 9 r11.toNatClampNeg) = 0 then (some ((-4000000000000000000 : Int64), w10))
 else (bd1 (f_R_chooseCase w10 p1) (fun w15 =>
 bd1 (f_R_respond_1_2_3 w15) (fun w17 =>
 bd2 (f_R_reactionNumerator_3 w17 r11) (fun r20 w19 =>
 bd2 (f_S_partOfFraction w19 r20 p4) (fun r23 w22 =>
 some (r23, w22)))))))))))
set_option maxHeartbeats 4000000 in
set_option maxRecDepth 100000 in
theorem m_S_reaction (l : Launch) (D : va_G) (cy : Nat → ClassId) (ad : Nat → Nat) (sz : Nat) (z0 : gS) (p1 : Int32) (p2 : Int32) (p3 : Int32) (p4 : Int32) (r : Int64) (zz : gS) (hf : f_S_reaction z0 p1 p2 p3 p4 = some (r, zz)) : Met l y_S_reaction (Cond.code y_S_reaction c_S_reaction 6 (some .long) :: gt_ws) ({ frames := 4, cells := 0, slots := 0, locals := 180 }) (sPc D cl_all (gTy cy) nwC 52 ad (g1 cy ad z0) sz [.ref (ad 0), .int p1, .int p2, .int p3, .int p4]) (sQl D cl_all 52 ad (g1 cy ad z0) sz r (g1 cy ad zz)) 0 0 (va_A (wl 52 ad (g1 cy ad z0)) sz) := by
  refine Met.ofW (cc := c_S_reaction) (maxL := 6) (ret := (some .long)) (by decide) rfl ?_
  intro p e s m args below meth c s₁ B hml hv
  obtain ⟨rfl, hsz, hP, hK, hN, hD0⟩ := hv
  have hx := B.exec
  have hb := B.bytes
  have hr := B.returns
  have hts := atoms_spec (ws := (Cond.code y_S_reaction c_S_reaction 6 (some .long) :: gt_ws)) B.pre
  have ht : ∀ w ∈ gt_ws, w.before _ s = true := fun w h => hts w (List.mem_cons_of_mem _ h)
  have hown : s.vm.findClass RQ_S = some m.cls := findClass_of_methodNamed B.named
  have hlocks := B.notSynchronized
  subst hsz
  have hD1 := hD0.self (sz := s.heap.size)
  obtain ⟨A, hAe⟩ : ∃ A, A = va_A (wl 52 ad (g1 cy ad z0)) s.heap.size := ⟨_, rfl⟩
  rw [← hAe] at hD1
  have hD : ∀ g, va_D A (wl 52 ad g) := fun _ => wl_D hD1
  have hA : ∀ q : Nat, s.heap.size ≤ q → A q := fun q h => by rw [hAe]; exact Or.inr h
  have hS : va_S A s.heap s.heap [] := va_S.rf
  have hl := lv_entry ([.ref (ad 0), .int p1, .int p2, .int p3, .int p4]) (n := 6) (Nat.le_of_ble_eq_true rfl)
  rw [lg_entry_eq]
  generalize (lg_sl ([.ref (ad 0), .int p1, .int p2, .int p3, .int p4]) ++ List.replicate (6 - (lg_sl ([.ref (ad 0), .int p1, .int p2, .int p3, .int p4])).length) Slot.unset).toArray = ls at hl ⊢
  have hl : lv_has ls 6 [(0, .ref (ad 0)), (1, .int p1), (2, .int p2), (3, .int p3), (4, .int p4)] := hl
  unfold f_S_reaction at hf
  refine lv_iload_n hx hb d_S_reaction_0 rfl (lv_at hl 1 rfl) ?_
  obtain ⟨r3, w2, hc1, hf⟩ := op_b2 hf
  refine wx_fi (wx_rS (As := [.int p1]) (rest := []) ⟨hx, hb, hml, hown, ht⟩ (m_S_isCase l D cy ad _ z0 p1 _ _ hc1) ⟨callB_of 1 ht (gt_in (fun _ h9 => h9) kw_296) rfl rfl rfl (ht _ kw_47) (ht _ kw_294) q_S_isCase ⟨Nat.le_of_ble_eq_true rfl, Nat.le_of_ble_eq_true rfl⟩, ht _ kw_295⟩ nwC_ok hN hK hP (hD _) rfl hl.1 rfl (Nat.le_of_ble_eq_true rfl) d_S_reaction_1 ⟨Nat.zero_le _, Nat.zero_le _⟩) (hD _) hS hA (fun H locs hP hS => ?_)
  refine lv_if_eq (tgt := 18) hx hb d_S_reaction_4 (by decide) (fun c4 => ?_) (fun c4 => ?_)
  ·
    have hf := op_pos hf c4
    refine lv_ldc2 hx hb hown (ht _ kw_433) d_S_reaction_18 ?_
    obtain ⟨hv9, rfl⟩ := op_inj hf
    exact wx_lret hx hb hr hlocks hAe hP hS hv9 d_S_reaction_21
  ·
    have hf := op_neg hf c4
    refine lv_aload_n hx hb d_S_reaction_7 rfl (lv_at hl 0 rfl) ?_
    refine lv_iload_n hx hb d_S_reaction_8 rfl (lv_at hl 2 rfl) ?_
    refine lv_iload_n hx hb d_S_reaction_9 rfl (lv_at hl 3 rfl) ?_
    refine lv_iload hx hb d_S_reaction_10 (lv_at hl 4 rfl) ?_
    obtain ⟨r7, w6, hc5, hf⟩ := op_b2 hf
    refine wx_fi (wx_rV (As := [.int p2, .int p3, .int p4]) (rest := []) ⟨hx, hb, hml, hown, ht⟩ (m_S_isAnswerable l D cy ad _ w2 p2 p3 p4 _ _ hc5) ⟨callB_of 3 ht (gt_in (fun _ h9 => h9) kw_424) rfl rfl rfl (ht _ kw_47) (ht _ kw_421) q_S_isAnswerable ⟨Nat.le_of_ble_eq_true rfl, Nat.le_of_ble_eq_true rfl⟩, ht _ kw_423, ht _ kw_17⟩ nwC_ok hN hK hP (hD _) (by decide) (e_g1_0 cy ad _) rfl rfl hl.1 rfl (Nat.le_of_ble_eq_true rfl) d_S_reaction_12 ⟨Nat.zero_le _, Nat.zero_le _⟩) (hD _) hS hA (fun H locs hP hS => ?_)
    refine lv_if_ne (tgt := 22) hx hb d_S_reaction_15 (by decide) (fun c8 => ?_) (fun c8 => ?_)
    ·
      have hf := op_neg hf c8
      refine lv_iload_n hx hb d_S_reaction_22 rfl (lv_at hl 2 rfl) ?_
      refine lv_iload_n hx hb d_S_reaction_23 rfl (lv_at hl 3 rfl) ?_
      obtain ⟨r11, w10, hc9, hf⟩ := op_b2 hf
      refine wx_fi (wx_rS (As := [.int p2, .int p3]) (rest := []) ⟨hx, hb, hml, hown, ht⟩ (m_S_slotOf l D cy ad _ w6 p2 p3 _ _ hc9) ⟨callB_of 2 ht (gt_in (fun _ h9 => h9) kw_253) rfl rfl rfl (ht _ kw_47) (ht _ kw_285) q_S_slotOf ⟨Nat.le_of_ble_eq_true rfl, Nat.le_of_ble_eq_true rfl⟩, ht _ kw_252⟩ nwC_ok hN hK hP (hD _) rfl hl.1 rfl (Nat.le_of_ble_eq_true rfl) d_S_reaction_24 ⟨Nat.zero_le _, Nat.zero_le _⟩) (hD _) hS hA (fun H locs hP hS => ?_)
      refine lv_istore (lv' := [(5, .int r11), (0, .ref (ad 0)), (1, .int p1), (2, .int p2), (3, .int p3), (4, .int p4)]) hx hb d_S_reaction_27 hl (by decide) rfl (fun ls hl => ?_)
      refine lv_aload_n hx hb d_S_reaction_29 rfl (lv_at hl 1 rfl) ?_
      refine wx_get (v := .ref (ad 1)) (C := RQ_S) (T := FQ_S) (N := 5) hx hb ht IQ_S hown hK hP 0 (by decide) (e_g1_0 cy ad _) rfl 0 (by decide) (ht _ kw_217) (fun _ h9 => h9) rfl d_S_reaction_30 ?_
      refine wx_get (v := .ref (ad 9)) (C := RQ_T) (T := FQ_T) (N := 10) hx hb ht IQ_T hown hK hP 1 (by decide) (e_g1_1 cy ad _) rfl 6 (by decide) (ht _ kw_88) (fun _ h9 => h9) rfl d_S_reaction_33 ?_
      refine lv_iload hx hb d_S_reaction_36 (lv_at hl 0 rfl) ?_
      obtain ⟨h12, hf⟩ := op_chk hf
      refine wx_zald hx hb hK hP 9 (by decide) (by decide) 10 rfl h12 d_S_reaction_38 ?_
      refine lv_if_ne (tgt := 46) hx hb d_S_reaction_39 (by decide) (fun c13 => ?_) (fun c13 => ?_)
      ·
        have hf := op_neg hf c13
        refine lv_aload_n hx hb d_S_reaction_46 rfl (lv_at hl 1 rfl) ?_
        refine wx_get (v := .ref (ad 4)) (C := RQ_S) (T := FQ_S) (N := 5) hx hb ht IQ_S hown hK hP 0 (by decide) (e_g1_0 cy ad _) rfl 3 (by decide) (ht _ kw_220) (fun _ h9 => h9) rfl d_S_reaction_47 ?_
        refine lv_iload_n hx hb d_S_reaction_50 rfl (lv_at hl 2 rfl) ?_
        obtain ⟨w15, hc14, hf⟩ := op_b1 hf
        refine wx_fv (wx_rV (As := [.int p1]) (rest := []) ⟨hx, hb, hml, hown, ht⟩ (m_R_chooseCase l D cy ad _ w10 p1 _ hc14) ⟨callB_of 1 ht (gt_in (fun _ h9 => h9) kw_437) rfl rfl rfl (ht _ kw_51) (ht _ kw_434) q_R_chooseCase ⟨Nat.le_of_ble_eq_true rfl, Nat.le_of_ble_eq_true rfl⟩, ht _ kw_435, ht _ kw_436⟩ nwC_ok hN hK hP (hD _) (by decide) (e_g1_4 cy ad _) rfl rfl hl.1 rfl (Nat.le_of_ble_eq_true rfl) d_S_reaction_51 ⟨Nat.zero_le _, Nat.zero_le _⟩) (hD _) hS hA (fun H locs hP hS => ?_)
        refine lv_aload_n hx hb d_S_reaction_54 rfl (lv_at hl 1 rfl) ?_
        refine wx_get (v := .ref (ad 4)) (C := RQ_S) (T := FQ_S) (N := 5) hx hb ht IQ_S hown hK hP 0 (by decide) (e_g1_0 cy ad _) rfl 3 (by decide) (ht _ kw_220) (fun _ h9 => h9) rfl d_S_reaction_55 ?_
        refine lv_aload_n hx hb d_S_reaction_58 rfl (lv_at hl 1 rfl) ?_
        refine wx_get (v := .ref (ad 1)) (C := RQ_S) (T := FQ_S) (N := 5) hx hb ht IQ_S hown hK hP 0 (by decide) (e_g1_0 cy ad _) rfl 0 (by decide) (ht _ kw_217) (fun _ h9 => h9) rfl d_S_reaction_59 ?_
        refine lv_aload_n hx hb d_S_reaction_62 rfl (lv_at hl 1 rfl) ?_
        refine wx_get (v := .ref (ad 2)) (C := RQ_S) (T := FQ_S) (N := 5) hx hb ht IQ_S hown hK hP 0 (by decide) (e_g1_0 cy ad _) rfl 1 (by decide) (ht _ kw_218) (fun _ h9 => h9) rfl d_S_reaction_63 ?_
        refine lv_aload_n hx hb d_S_reaction_66 rfl (lv_at hl 1 rfl) ?_
        refine wx_get (v := .ref (ad 3)) (C := RQ_S) (T := FQ_S) (N := 5) hx hb ht IQ_S hown hK hP 0 (by decide) (e_g1_0 cy ad _) rfl 2 (by decide) (ht _ kw_219) (fun _ h9 => h9) rfl d_S_reaction_67 ?_
        obtain ⟨w17, hc16, hf⟩ := op_b1 hf
        refine wx_fv (wx_rV (As := [.ref (ad 1), .ref (ad 2), .ref (ad 3)]) (rest := []) ⟨hx, hb, hml, hown, ht⟩ (m_R_respond_1_2_3 l D cy ad _ w15 _ hc16) ⟨callB_of 3 ht (gt_in (fun _ h9 => h9) kw_441) rfl rfl rfl (ht _ kw_51) (ht _ kw_438) q_R_respond ⟨Nat.le_of_ble_eq_true rfl, Nat.le_of_ble_eq_true rfl⟩, ht _ kw_439, ht _ kw_440⟩ nwC_ok hN hK hP (hD _) (by decide) (e_g1_4 cy ad _) rfl rfl hl.1 rfl (Nat.le_of_ble_eq_true rfl) d_S_reaction_70 ⟨Nat.zero_le _, Nat.zero_le _⟩) (hD _) hS hA (fun H locs hP hS => ?_)
        refine lv_aload_n hx hb d_S_reaction_73 rfl (lv_at hl 1 rfl) ?_
        refine lv_aload_n hx hb d_S_reaction_74 rfl (lv_at hl 1 rfl) ?_
        refine wx_get (v := .ref (ad 4)) (C := RQ_S) (T := FQ_S) (N := 5) hx hb ht IQ_S hown hK hP 0 (by decide) (e_g1_0 cy ad _) rfl 3 (by decide) (ht _ kw_220) (fun _ h9 => h9) rfl d_S_reaction_75 ?_
        refine lv_aload_n hx hb d_S_reaction_78 rfl (lv_at hl 1 rfl) ?_
        refine wx_get (v := .ref (ad 3)) (C := RQ_S) (T := FQ_S) (N := 5) hx hb ht IQ_S hown hK hP 0 (by decide) (e_g1_0 cy ad _) rfl 2 (by decide) (ht _ kw_219) (fun _ h9 => h9) rfl d_S_reaction_79 ?_
        refine lv_iload hx hb d_S_reaction_82 (lv_at hl 0 rfl) ?_
        obtain ⟨r20, w19, hc18, hf⟩ := op_b2 hf
        refine wx_fl (wx_rV (As := [.ref (ad 3), .int r11]) (rest := [.ref (ad 0)]) ⟨hx, hb, hml, hown, ht⟩ (m_R_reactionNumerator_3 l D cy ad _ w17 r11 _ _ hc18) ⟨callB_of 2 ht (gt_in (fun _ h9 => h9) kw_493) rfl rfl rfl (ht _ kw_51) (ht _ kw_490) q_R_reactionNumerator ⟨Nat.le_of_ble_eq_true rfl, Nat.le_of_ble_eq_true rfl⟩, ht _ kw_491, ht _ kw_492⟩ nwC_ok hN hK hP (hD _) (by decide) (e_g1_4 cy ad _) rfl rfl hl.1 rfl (Nat.le_of_ble_eq_true rfl) d_S_reaction_84 ⟨Nat.zero_le _, Nat.zero_le _⟩) (hD _) hS hA (fun H locs hP hS => ?_)
        refine lv_iload hx hb d_S_reaction_87 (lv_at hl 5 rfl) ?_
        obtain ⟨r23, w22, hc21, hf⟩ := op_b2 hf
        refine wx_fl (wx_rV (As := [.long r20, .int p4]) (rest := []) ⟨hx, hb, hml, hown, ht⟩ (m_S_partOfFraction l D cy ad _ w19 r20 p4 _ _ hc21) ⟨callB_of 2 ht (gt_in (fun _ h9 => h9) kw_469) rfl rfl rfl (ht _ kw_47) (ht _ kw_466) q_S_partOfFraction ⟨Nat.le_of_ble_eq_true rfl, Nat.le_of_ble_eq_true rfl⟩, ht _ kw_468, ht _ kw_23⟩ nwC_ok hN hK hP (hD _) (by decide) (e_g1_0 cy ad _) rfl rfl hl.1 rfl (Nat.le_of_ble_eq_true rfl) d_S_reaction_89 ⟨Nat.zero_le _, Nat.zero_le _⟩) (hD _) hS hA (fun H locs hP hS => ?_)
        obtain ⟨hv9, rfl⟩ := op_inj hf
        exact wx_lret hx hb hr hlocks hAe hP hS hv9 d_S_reaction_92
      ·
        have hf := op_pos hf c13
        refine lv_ldc2 hx hb hown (ht _ kw_433) d_S_reaction_42 ?_
        obtain ⟨hv9, rfl⟩ := op_inj hf
        exact wx_lret hx hb hr hlocks hAe hP hS hv9 d_S_reaction_45
    ·
      have hf := op_pos hf c8
      refine lv_ldc2 hx hb hown (ht _ kw_433) d_S_reaction_18 ?_
      obtain ⟨hv9, rfl⟩ := op_inj hf
      exact wx_lret hx hb hr hlocks hAe hP hS hv9 d_S_reaction_21

def l_R_chooseFactors_2 : Nat → gS → Int32 → Int32 → Option (gS)
  | 0, _, _, _ => none
  | n + 1, z, x1, x2 =>
    if (4 : Int32) ≤ x2 then (some z)
     else (if x2 < 0 ∨ 4 ≤ x2.toNatClampNeg then none else
     (some (s_I z 16 (upd (z.2.2.1 16) x2.toNatClampNeg ((x1 >>> (((8 : Int32) * x2) &&& 31)).toInt8.toInt32)))).bind (fun w3 =>
     l_R_chooseFactors_2 n w3 x1 (x2 + (1 : Int32))))
def f_R_chooseFactors (z0 : gS) (p1 : Int32) : Option gS :=
 bd1 (l_R_chooseFactors_2 200 z0 p1 (0 : Int32)) (fun w5 =>
 some w5)
set_option maxHeartbeats 4000000 in
set_option maxRecDepth 100000 in
theorem m_R_chooseFactors (l : Launch) (D : va_G) (cy : Nat → ClassId) (ad : Nat → Nat) (sz : Nat) (z0 : gS) (p1 : Int32) (zz : gS) (hf : f_R_chooseFactors z0 p1 = some zz) : Met l y_R_chooseFactors (Cond.code y_R_chooseFactors c_R_chooseFactors 3 none :: gt_ws) ({ frames := 0, cells := 0, slots := 0, locals := 0 }) (sPc D cl_all (gTy cy) nwC 52 ad (g1 cy ad z0) sz [.ref (ad 4), .int p1]) (sQv D cl_all 52 ad (g1 cy ad z0) sz (g1 cy ad zz)) 0 0 (va_A (wl 52 ad (g1 cy ad z0)) sz) := by
  refine Met.ofW (cc := c_R_chooseFactors) (maxL := 3) (ret := none) (by decide) rfl ?_
  intro p e s m args below meth c s₁ B hml hv
  obtain ⟨rfl, hsz, hP, hK, hN, hD0⟩ := hv
  have hx := B.exec
  have hb := B.bytes
  have hr := B.returns
  have hts := atoms_spec (ws := (Cond.code y_R_chooseFactors c_R_chooseFactors 3 none :: gt_ws)) B.pre
  have ht : ∀ w ∈ gt_ws, w.before _ s = true := fun w h => hts w (List.mem_cons_of_mem _ h)
  have hown : s.vm.findClass RQ_R = some m.cls := findClass_of_methodNamed B.named
  have hlocks := B.notSynchronized
  subst hsz
  have hD1 := hD0.self (sz := s.heap.size)
  obtain ⟨A, hAe⟩ : ∃ A, A = va_A (wl 52 ad (g1 cy ad z0)) s.heap.size := ⟨_, rfl⟩
  rw [← hAe] at hD1
  have hD : ∀ g, va_D A (wl 52 ad g) := fun _ => wl_D hD1
  have hA : ∀ q : Nat, s.heap.size ≤ q → A q := fun q h => by rw [hAe]; exact Or.inr h
  have hS : va_S A s.heap s.heap [] := va_S.rf
  have hl := lv_entry ([.ref (ad 4), .int p1]) (n := 3) (Nat.le_of_ble_eq_true rfl)
  rw [lg_entry_eq]
  generalize (lg_sl ([.ref (ad 4), .int p1]) ++ List.replicate (3 - (lg_sl ([.ref (ad 4), .int p1])).length) Slot.unset).toArray = ls at hl ⊢
  have hl : lv_has ls 3 [(0, .ref (ad 4)), (1, .int p1)] := hl
  have L_2 : ∀ (n : Nat) (z : gS) (x1 : Int32) (x2 : Int32) (z9 : gS), l_R_chooseFactors_2 n z x1 x2 = some z9 → ∀ (H : Heap) (locs : List Loc) (ls : Array Slot), va_P D cl_all (wl 52 ad (g1 cy ad z)) H → va_S A s.heap H locs → lv_has ls 3 [(0, .ref (ad 4)), (1, .int x1), (2, .int x2)] →
      (∀ (H : Heap) (locs : List Loc) (ls : Array Slot), va_P D cl_all (wl 52 ad (g1 cy ad z9)) H → va_S A s.heap H locs → lv_has ls 3 [] → W p l e (headSpec (Cond.code y_R_chooseFactors c_R_chooseFactors 3 none :: gt_ws) ({ frames := 0, cells := 0, slots := 0, locals := 0 })).room s m ([.ref (ad 4), .int p1]).toArray below meth c H locs 0 0 (MQ below (sQv D cl_all 52 ad (g1 cy ad z0) s.heap.size (g1 cy ad zz)) ([.ref (ad 4), .int p1]).toArray s 0 0 (va_A (wl 52 ad (g1 cy ad z0)) s.heap.size)) (F0 m 26 ls [])) →
      W p l e (headSpec (Cond.code y_R_chooseFactors c_R_chooseFactors 3 none :: gt_ws) ({ frames := 0, cells := 0, slots := 0, locals := 0 })).room s m ([.ref (ad 4), .int p1]).toArray below meth c H locs 0 0 (MQ below (sQv D cl_all 52 ad (g1 cy ad z0) s.heap.size (g1 cy ad zz)) ([.ref (ad 4), .int p1]).toArray s 0 0 (va_A (wl 52 ad (g1 cy ad z0)) s.heap.size)) (F0 m 2 ls []) := by
    intro n
    induction n with
    | zero => intro z x1 x2 z9 hf; rw [l_R_chooseFactors_2] at hf; cases hf
    | succ n ih =>
      intro z x1 x2 z9 hf H locs ls hP hS hl k_0
      rw [l_R_chooseFactors_2] at hf
      refine lv_iload_n hx hb d_R_chooseFactors_2 rfl (lv_at hl 2 rfl) ?_
      refine lv_iconst (v := 4) hx hb d_R_chooseFactors_3 (by decide) ?_
      refine lv_icmp_ge (tgt := 26) hx hb d_R_chooseFactors_4 (by decide) (fun c1 => ?_) (fun c1 => ?_)
      ·
        have hf := op_pos hf c1
        cases hf
        exact k_0 _ _ _ hP hS (lv_sub hl [] rfl)
      ·
        have hf := op_neg hf c1
        refine lv_aload_n hx hb d_R_chooseFactors_7 rfl (lv_at hl 0 rfl) ?_
        refine wx_get (v := .ref (ad 16)) (C := RQ_R) (T := FQ_R) (N := 6) hx hb ht IQ_R hown hK hP 4 (by decide) (e_g1_4 cy ad _) rfl 0 (by decide) (ht _ kw_197) (fun _ h9 => h9) rfl d_R_chooseFactors_8 ?_
        refine lv_iload_n hx hb d_R_chooseFactors_11 rfl (lv_at hl 2 rfl) ?_
        refine lv_iload_n hx hb d_R_chooseFactors_12 rfl (lv_at hl 1 rfl) ?_
        refine lv_bipush (v := 8) hx hb d_R_chooseFactors_13 (by decide) ?_
        refine lv_iload_n hx hb d_R_chooseFactors_15 rfl (lv_at hl 2 rfl) ?_
        refine lv_imul hx hb d_R_chooseFactors_16 ?_
        refine lv_ishr hx hb d_R_chooseFactors_17 ?_
        refine lv_i2b hx hb d_R_chooseFactors_18 rfl ?_
        obtain ⟨h2, hf⟩ := op_chk hf
        refine wx_iast hx hb hK hP (hD _) hS 16 (by decide) (by decide) 4 rfl h2 d_R_chooseFactors_19 (fun H locs hP hS => ?_)
        obtain ⟨w3, h4, hf⟩ := op_let hf
        rw [h4] at hP
        refine lv_iinc (v := x2 + (1 : Int32)) (lv' := [(2, .int (x2 + (1 : Int32))), (0, .ref (ad 4)), (1, .int x1)]) hx hb d_R_chooseFactors_20 hl (k := 2) rfl rfl (by decide) rfl (fun ls hl => ?_)
        refine lv_goto (tgt := 2) hx hb d_R_chooseFactors_23 (by decide) ?_
        exact ih _ _ _ _ hf _ _ _ hP hS (lv_sub hl [1, 2, 0] rfl) k_0
  unfold f_R_chooseFactors at hf
  refine lv_iconst (v := 0) hx hb d_R_chooseFactors_0 (by decide) ?_
  refine lv_istore_n (lv' := [(2, .int (0 : Int32)), (0, .ref (ad 4)), (1, .int p1)]) hx hb d_R_chooseFactors_1 rfl hl (by decide) rfl (fun ls hl => ?_)
  obtain ⟨w5, hc6, hf⟩ := op_b1 hf
  refine L_2 _ _ _ _ _ hc6 _ _ _ hP hS (lv_sub hl [1, 2, 0] rfl) (fun H locs ls hP hS hl => ?_)
  obtain rfl := Option.some.inj hf
  exact wx_vret hx hb hr hlocks hAe hP hS d_R_chooseFactors_26

def f_S_combined (z0 : gS) (p1 : Int32) (p2 : Int32) (p3 : Int32) (p4 : Int32) : Option (Int64 × gS) :=
 bd2 (f_S_isAnswerable z0 p2 p3 p4) (fun r3 w2 =>
 if r3 = 0 then (some ((-4000000000000000000 : Int64), w2))
 else (bd1 (f_R_chooseFactors w2 p1) (fun w6 =>
 bd1 (f_R_respond_1_2_3 w6) (fun w8 =>
 bd2 (f_S_slotOf w8 p2 p3) (fun r11 w10 =>
 if r11 < 0 ∨ 10 ≤ r11.toNatClampNeg then none else
 bd2 (f_S_partOfFraction w10 (w10.2.2.2 25 r11.toNatClampNeg) p4) (fun r15 w14 =>
 some (r15, w14)))))))
set_option maxHeartbeats 4000000 in
set_option maxRecDepth 100000 in
theorem m_S_combined (l : Launch) (D : va_G) (cy : Nat → ClassId) (ad : Nat → Nat) (sz : Nat) (z0 : gS) (p1 : Int32) (p2 : Int32) (p3 : Int32) (p4 : Int32) (r : Int64) (zz : gS) (hf : f_S_combined z0 p1 p2 p3 p4 = some (r, zz)) : Met l y_S_combined (Cond.code y_S_combined c_S_combined 5 (some .long) :: gt_ws) ({ frames := 4, cells := 0, slots := 0, locals := 180 }) (sPc D cl_all (gTy cy) nwC 52 ad (g1 cy ad z0) sz [.ref (ad 0), .int p1, .int p2, .int p3, .int p4]) (sQl D cl_all 52 ad (g1 cy ad z0) sz r (g1 cy ad zz)) 0 0 (va_A (wl 52 ad (g1 cy ad z0)) sz) := by
  refine Met.ofW (cc := c_S_combined) (maxL := 5) (ret := (some .long)) (by decide) rfl ?_
  intro p e s m args below meth c s₁ B hml hv
  obtain ⟨rfl, hsz, hP, hK, hN, hD0⟩ := hv
  have hx := B.exec
  have hb := B.bytes
  have hr := B.returns
  have hts := atoms_spec (ws := (Cond.code y_S_combined c_S_combined 5 (some .long) :: gt_ws)) B.pre
  have ht : ∀ w ∈ gt_ws, w.before _ s = true := fun w h => hts w (List.mem_cons_of_mem _ h)
  have hown : s.vm.findClass RQ_S = some m.cls := findClass_of_methodNamed B.named
  have hlocks := B.notSynchronized
  subst hsz
  have hD1 := hD0.self (sz := s.heap.size)
  obtain ⟨A, hAe⟩ : ∃ A, A = va_A (wl 52 ad (g1 cy ad z0)) s.heap.size := ⟨_, rfl⟩
  rw [← hAe] at hD1
  have hD : ∀ g, va_D A (wl 52 ad g) := fun _ => wl_D hD1
  have hA : ∀ q : Nat, s.heap.size ≤ q → A q := fun q h => by rw [hAe]; exact Or.inr h
  have hS : va_S A s.heap s.heap [] := va_S.rf
  have hl := lv_entry ([.ref (ad 0), .int p1, .int p2, .int p3, .int p4]) (n := 5) (Nat.le_of_ble_eq_true rfl)
  rw [lg_entry_eq]
  generalize (lg_sl ([.ref (ad 0), .int p1, .int p2, .int p3, .int p4]) ++ List.replicate (5 - (lg_sl ([.ref (ad 0), .int p1, .int p2, .int p3, .int p4])).length) Slot.unset).toArray = ls at hl ⊢
  have hl : lv_has ls 5 [(0, .ref (ad 0)), (1, .int p1), (2, .int p2), (3, .int p3), (4, .int p4)] := hl
  unfold f_S_combined at hf
  refine lv_aload_n hx hb d_S_combined_0 rfl (lv_at hl 0 rfl) ?_
  refine lv_iload_n hx hb d_S_combined_1 rfl (lv_at hl 2 rfl) ?_
  refine lv_iload_n hx hb d_S_combined_2 rfl (lv_at hl 3 rfl) ?_
  refine lv_iload hx hb d_S_combined_3 (lv_at hl 4 rfl) ?_
  obtain ⟨r3, w2, hc1, hf⟩ := op_b2 hf
  refine wx_fi (wx_rV (As := [.int p2, .int p3, .int p4]) (rest := []) ⟨hx, hb, hml, hown, ht⟩ (m_S_isAnswerable l D cy ad _ z0 p2 p3 p4 _ _ hc1) ⟨callB_of 3 ht (gt_in (fun _ h9 => h9) kw_424) rfl rfl rfl (ht _ kw_47) (ht _ kw_421) q_S_isAnswerable ⟨Nat.le_of_ble_eq_true rfl, Nat.le_of_ble_eq_true rfl⟩, ht _ kw_423, ht _ kw_17⟩ nwC_ok hN hK hP (hD _) (by decide) (e_g1_0 cy ad _) rfl rfl hl.1 rfl (Nat.le_of_ble_eq_true rfl) d_S_combined_5 ⟨Nat.zero_le _, Nat.zero_le _⟩) (hD _) hS hA (fun H locs hP hS => ?_)
  refine lv_if_ne (tgt := 15) hx hb d_S_combined_8 (by decide) (fun c4 => ?_) (fun c4 => ?_)
  ·
    have hf := op_neg hf c4
    refine lv_aload_n hx hb d_S_combined_15 rfl (lv_at hl 0 rfl) ?_
    refine wx_get (v := .ref (ad 4)) (C := RQ_S) (T := FQ_S) (N := 5) hx hb ht IQ_S hown hK hP 0 (by decide) (e_g1_0 cy ad _) rfl 3 (by decide) (ht _ kw_220) (fun _ h9 => h9) rfl d_S_combined_16 ?_
    refine lv_iload_n hx hb d_S_combined_19 rfl (lv_at hl 1 rfl) ?_
    obtain ⟨w6, hc5, hf⟩ := op_b1 hf
    refine wx_fv (wx_rV (As := [.int p1]) (rest := []) ⟨hx, hb, hml, hown, ht⟩ (m_R_chooseFactors l D cy ad _ w2 p1 _ hc5) ⟨callB_of 1 ht (gt_in (fun _ h9 => h9) kw_501) rfl rfl rfl (ht _ kw_51) (ht _ kw_498) q_R_chooseFactors ⟨Nat.le_of_ble_eq_true rfl, Nat.le_of_ble_eq_true rfl⟩, ht _ kw_499, ht _ kw_500⟩ nwC_ok hN hK hP (hD _) (by decide) (e_g1_4 cy ad _) rfl rfl hl.1 rfl (Nat.le_of_ble_eq_true rfl) d_S_combined_20 ⟨Nat.zero_le _, Nat.zero_le _⟩) (hD _) hS hA (fun H locs hP hS => ?_)
    refine lv_aload_n hx hb d_S_combined_23 rfl (lv_at hl 0 rfl) ?_
    refine wx_get (v := .ref (ad 4)) (C := RQ_S) (T := FQ_S) (N := 5) hx hb ht IQ_S hown hK hP 0 (by decide) (e_g1_0 cy ad _) rfl 3 (by decide) (ht _ kw_220) (fun _ h9 => h9) rfl d_S_combined_24 ?_
    refine lv_aload_n hx hb d_S_combined_27 rfl (lv_at hl 0 rfl) ?_
    refine wx_get (v := .ref (ad 1)) (C := RQ_S) (T := FQ_S) (N := 5) hx hb ht IQ_S hown hK hP 0 (by decide) (e_g1_0 cy ad _) rfl 0 (by decide) (ht _ kw_217) (fun _ h9 => h9) rfl d_S_combined_28 ?_
    refine lv_aload_n hx hb d_S_combined_31 rfl (lv_at hl 0 rfl) ?_
    refine wx_get (v := .ref (ad 2)) (C := RQ_S) (T := FQ_S) (N := 5) hx hb ht IQ_S hown hK hP 0 (by decide) (e_g1_0 cy ad _) rfl 1 (by decide) (ht _ kw_218) (fun _ h9 => h9) rfl d_S_combined_32 ?_
    refine lv_aload_n hx hb d_S_combined_35 rfl (lv_at hl 0 rfl) ?_
    refine wx_get (v := .ref (ad 3)) (C := RQ_S) (T := FQ_S) (N := 5) hx hb ht IQ_S hown hK hP 0 (by decide) (e_g1_0 cy ad _) rfl 2 (by decide) (ht _ kw_219) (fun _ h9 => h9) rfl d_S_combined_36 ?_
    obtain ⟨w8, hc7, hf⟩ := op_b1 hf
    refine wx_fv (wx_rV (As := [.ref (ad 1), .ref (ad 2), .ref (ad 3)]) (rest := []) ⟨hx, hb, hml, hown, ht⟩ (m_R_respond_1_2_3 l D cy ad _ w6 _ hc7) ⟨callB_of 3 ht (gt_in (fun _ h9 => h9) kw_441) rfl rfl rfl (ht _ kw_51) (ht _ kw_438) q_R_respond ⟨Nat.le_of_ble_eq_true rfl, Nat.le_of_ble_eq_true rfl⟩, ht _ kw_439, ht _ kw_440⟩ nwC_ok hN hK hP (hD _) (by decide) (e_g1_4 cy ad _) rfl rfl hl.1 rfl (Nat.le_of_ble_eq_true rfl) d_S_combined_39 ⟨Nat.zero_le _, Nat.zero_le _⟩) (hD _) hS hA (fun H locs hP hS => ?_)
    refine lv_aload_n hx hb d_S_combined_42 rfl (lv_at hl 0 rfl) ?_
    refine lv_aload_n hx hb d_S_combined_43 rfl (lv_at hl 0 rfl) ?_
    refine wx_get (v := .ref (ad 4)) (C := RQ_S) (T := FQ_S) (N := 5) hx hb ht IQ_S hown hK hP 0 (by decide) (e_g1_0 cy ad _) rfl 3 (by decide) (ht _ kw_220) (fun _ h9 => h9) rfl d_S_combined_44 ?_
    refine wx_get (v := .ref (ad 25)) (C := RQ_R) (T := FQ_R) (N := 6) hx hb ht IQ_R hown hK hP 4 (by decide) (e_g1_4 cy ad _) rfl 2 (by decide) (ht _ kw_200) (fun _ h9 => h9) rfl d_S_combined_47 ?_
    refine lv_iload_n hx hb d_S_combined_50 rfl (lv_at hl 2 rfl) ?_
    refine lv_iload_n hx hb d_S_combined_51 rfl (lv_at hl 3 rfl) ?_
    obtain ⟨r11, w10, hc9, hf⟩ := op_b2 hf
    refine wx_fi (wx_rS (As := [.int p2, .int p3]) (rest := [.ref (ad 25), .ref (ad 0)]) ⟨hx, hb, hml, hown, ht⟩ (m_S_slotOf l D cy ad _ w8 p2 p3 _ _ hc9) ⟨callB_of 2 ht (gt_in (fun _ h9 => h9) kw_253) rfl rfl rfl (ht _ kw_47) (ht _ kw_285) q_S_slotOf ⟨Nat.le_of_ble_eq_true rfl, Nat.le_of_ble_eq_true rfl⟩, ht _ kw_252⟩ nwC_ok hN hK hP (hD _) rfl hl.1 rfl (Nat.le_of_ble_eq_true rfl) d_S_combined_52 ⟨Nat.zero_le _, Nat.zero_le _⟩) (hD _) hS hA (fun H locs hP hS => ?_)
    obtain ⟨h12, hf⟩ := op_chk hf
    refine wx_lald hx hb hK hP 25 (by decide) (by decide) 10 rfl h12 d_S_combined_55 ?_
    refine lv_iload hx hb d_S_combined_56 (lv_at hl 4 rfl) ?_
    obtain ⟨r15, w14, hc13, hf⟩ := op_b2 hf
    refine wx_fl (wx_rV (As := [.long (w10.2.2.2 25 r11.toNatClampNeg), .int p4]) (rest := []) ⟨hx, hb, hml, hown, ht⟩ (m_S_partOfFraction l D cy ad _ w10 (w10.2.2.2 25 r11.toNatClampNeg) p4 _ _ hc13) ⟨callB_of 2 ht (gt_in (fun _ h9 => h9) kw_469) rfl rfl rfl (ht _ kw_47) (ht _ kw_466) q_S_partOfFraction ⟨Nat.le_of_ble_eq_true rfl, Nat.le_of_ble_eq_true rfl⟩, ht _ kw_468, ht _ kw_23⟩ nwC_ok hN hK hP (hD _) (by decide) (e_g1_0 cy ad _) rfl rfl hl.1 rfl (Nat.le_of_ble_eq_true rfl) d_S_combined_58 ⟨Nat.zero_le _, Nat.zero_le _⟩) (hD _) hS hA (fun H locs hP hS => ?_)
    obtain ⟨hv9, rfl⟩ := op_inj hf
    exact wx_lret hx hb hr hlocks hAe hP hS hv9 d_S_combined_61
  ·
    have hf := op_pos hf c4
    refine lv_ldc2 hx hb hown (ht _ kw_433) d_S_combined_11 ?_
    obtain ⟨hv9, rfl⟩ := op_inj hf
    exact wx_lret hx hb hr hlocks hAe hP hS hv9 d_S_combined_14
