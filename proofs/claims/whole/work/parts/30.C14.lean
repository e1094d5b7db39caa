def l_S_greatestDivisor_9 : Nat → gS → Int64 → Int64 → Int32 → Option (Int64 × gS)
  | 0, _, _, _, _ => none
  | n + 1, z, x4, x6, x8 =>
    if (100 : Int32) ≤ x8 then (some (x4, z))
     else (if (lg_cmp x6 (0 : Int64)) = 0 then (some (x4, z))
     else (if x6 = 0 then none else
     (some ((x4 - x4 / x6 * x6) : Int64)).bind (fun v4 =>
     l_S_greatestDivisor_9 n z x6 v4 (x8 + (1 : Int32)))))
def f_S_greatestDivisor (z0 : gS) (p0 : Int64) (p2 : Int64) : Option (Int64 × gS) :=
 bd2 (l_S_greatestDivisor_9 200 z0 p0 p2 (0 : Int32)) (fun v6 w7 =>
 some (v6, w7))
set_option maxHeartbeats 4000000 in
set_option maxRecDepth 100000 in
theorem m_S_greatestDivisor (l : Launch) (D : va_G) (cy : Nat → ClassId) (ad : Nat → Nat) (sz : Nat) (z0 : gS) (p0 : Int64) (p2 : Int64) (r : Int64) (zz : gS) (hf : f_S_greatestDivisor z0 p0 p2 = some (r, zz)) : Met l y_S_greatestDivisor (Cond.code y_S_greatestDivisor c_S_greatestDivisor 11 (some .long) :: gt_ws) ({ frames := 0, cells := 0, slots := 0, locals := 0 }) (sPc D cl_all (gTy cy) nwC 52 ad (g1 cy ad z0) sz [.long p0, .long p2]) (sQl D cl_all 52 ad (g1 cy ad z0) sz r (g1 cy ad zz)) 0 0 (va_A (wl 52 ad (g1 cy ad z0)) sz) := by
  refine Met.ofW (cc := c_S_greatestDivisor) (maxL := 11) (ret := (some .long)) (by decide) rfl ?_
  intro p e s m args below meth c s₁ B hml hv
  obtain ⟨rfl, hsz, hP, hK, hN, hD0⟩ := hv
  have hx := B.exec
  have hb := B.bytes
  have hr := B.returns
  have hts := atoms_spec (ws := (Cond.code y_S_greatestDivisor c_S_greatestDivisor 11 (some .long) :: gt_ws)) B.pre
  have ht : ∀ w ∈ gt_ws, w.before _ s = true := fun w h => hts w (List.mem_cons_of_mem _ h)
  have hown : s.vm.findClass RQ_S = some m.cls := findClass_of_methodNamed B.named
  have hlocks := B.notSynchronized
  subst hsz
  have hD1 := hD0.self (sz := s.heap.size)
  obtain ⟨A, hAe⟩ : ∃ A, A = va_A (wl 52 ad (g1 cy ad z0)) s.heap.size := ⟨_, rfl⟩
  rw [← hAe] at hD1
  have hD : ∀ g, va_D A (wl 52 ad g) := fun _ => wl_D hD1
  have hA : ∀ q : Nat, s.heap.size ≤ q → A q := fun q h => by rw [hAe]; exact Or.inr h
  have hS : va_S A s.heap s.heap [] := va_S.rf
  have hl := lv_entry ([.long p0, .long p2]) (n := 11) (Nat.le_of_ble_eq_true rfl)
  rw [lg_entry_eq]
  generalize (lg_sl ([.long p0, .long p2]) ++ List.replicate (11 - (lg_sl ([.long p0, .long p2])).length) Slot.unset).toArray = ls at hl ⊢
  have hl : lv_has ls 11 [(0, .long p0), (2, .long p2)] := hl
  have L_9 : ∀ (n : Nat) (z : gS) (x4 : Int64) (x6 : Int64) (x8 : Int32) (y4 : Int64) (z9 : gS), l_S_greatestDivisor_9 n z x4 x6 x8 = some (y4, z9) → ∀ (H : Heap) (locs : List Loc) (ls : Array Slot), va_P D cl_all (wl 52 ad (g1 cy ad z)) H → va_S A s.heap H locs → lv_has ls 11 [(4, .long x4), (6, .long x6), (8, .int x8)] →
      (∀ (H : Heap) (locs : List Loc) (ls : Array Slot), va_P D cl_all (wl 52 ad (g1 cy ad z9)) H → va_S A s.heap H locs → lv_has ls 11 [(4, .long y4)] → W p l e (headSpec (Cond.code y_S_greatestDivisor c_S_greatestDivisor 11 (some .long) :: gt_ws) ({ frames := 0, cells := 0, slots := 0, locals := 0 })).room s m ([.long p0, .long p2]).toArray below meth c H locs 0 0 (MQ below (sQl D cl_all 52 ad (g1 cy ad z0) s.heap.size r (g1 cy ad zz)) ([.long p0, .long p2]).toArray s 0 0 (va_A (wl 52 ad (g1 cy ad z0)) s.heap.size)) (F0 m 44 ls [])) →
      W p l e (headSpec (Cond.code y_S_greatestDivisor c_S_greatestDivisor 11 (some .long) :: gt_ws) ({ frames := 0, cells := 0, slots := 0, locals := 0 })).room s m ([.long p0, .long p2]).toArray below meth c H locs 0 0 (MQ below (sQl D cl_all 52 ad (g1 cy ad z0) s.heap.size r (g1 cy ad zz)) ([.long p0, .long p2]).toArray s 0 0 (va_A (wl 52 ad (g1 cy ad z0)) s.heap.size)) (F0 m 9 ls []) := by
    intro n
    induction n with
    | zero => intro z x4 x6 x8 y4 z9 hf; rw [l_S_greatestDivisor_9] at hf; cases hf
    | succ n ih =>
      intro z x4 x6 x8 y4 z9 hf H locs ls hP hS hl k_0
      rw [l_S_greatestDivisor_9] at hf
      refine lv_iload hx hb d_S_greatestDivisor_9 (lv_at hl 2 rfl) ?_
      refine lv_bipush (v := 100) hx hb d_S_greatestDivisor_11 (by decide) ?_
      refine lv_icmp_ge (tgt := 44) hx hb d_S_greatestDivisor_13 (by decide) (fun c1 => ?_) (fun c1 => ?_)
      ·
        have hf := op_pos hf c1
        cases hf
        exact k_0 _ _ _ hP hS (lv_sub hl [0] rfl)
      ·
        have hf := op_neg hf c1
        refine lv_lload hx hb d_S_greatestDivisor_16 (lv_at hl 1 rfl) ?_
        refine lv_lconst (v := 0) hx hb d_S_greatestDivisor_18 (by decide) ?_
        refine W.lcmp hx hb d_S_greatestDivisor_19 ?_
        refine lv_if_eq (tgt := 44) hx hb d_S_greatestDivisor_20 (by decide) (fun c2 => ?_) (fun c2 => ?_)
        ·
          have hf := op_pos hf c2
          cases hf
          exact k_0 _ _ _ hP hS (lv_sub hl [0] rfl)
        ·
          have hf := op_neg hf c2
          refine lv_lload hx hb d_S_greatestDivisor_23 (lv_at hl 0 rfl) ?_
          refine lv_lload hx hb d_S_greatestDivisor_25 (lv_at hl 1 rfl) ?_
          obtain ⟨h3, hf⟩ := op_chk hf
          refine lv_lrem hx hb d_S_greatestDivisor_27 h3 ?_
          obtain ⟨v4, h5, hf⟩ := op_let hf
          refine sw_l h5 ?_
          refine lv_lstore (lv' := [(9, .long v4), (4, .long x4), (6, .long x6), (8, .int x8)]) hx hb d_S_greatestDivisor_28 hl (by decide) rfl (fun ls hl => ?_)
          refine lv_lload hx hb d_S_greatestDivisor_30 (lv_at hl 2 rfl) ?_
          refine lv_lstore (lv' := [(4, .long x6), (9, .long v4), (6, .long x6), (8, .int x8)]) hx hb d_S_greatestDivisor_32 hl (by decide) rfl (fun ls hl => ?_)
          refine lv_lload hx hb d_S_greatestDivisor_34 (lv_at hl 1 rfl) ?_
          refine lv_lstore (lv' := [(6, .long v4), (4, .long x6), (9, .long v4), (8, .int x8)]) hx hb d_S_greatestDivisor_36 hl (by decide) rfl (fun ls hl => ?_)
          refine lv_iinc (v := x8 + (1 : Int32)) (lv' := [(8, .int (x8 + (1 : Int32))), (6, .long v4), (4, .long x6), (9, .long v4)]) hx hb d_S_greatestDivisor_38 hl (k := 3) rfl rfl (by decide) rfl (fun ls hl => ?_)
          refine lv_goto (tgt := 9) hx hb d_S_greatestDivisor_41 (by decide) ?_
          exact ih _ _ _ _ _ _ hf _ _ _ hP hS (lv_sub hl [2, 1, 0] rfl) k_0
  unfold f_S_greatestDivisor at hf
  refine lv_lload_n hx hb d_S_greatestDivisor_0 rfl (lv_at hl 0 rfl) ?_
  refine lv_lstore (lv' := [(4, .long p0), (0, .long p0), (2, .long p2)]) hx hb d_S_greatestDivisor_1 hl (by decide) rfl (fun ls hl => ?_)
  refine lv_lload_n hx hb d_S_greatestDivisor_3 rfl (lv_at hl 2 rfl) ?_
  refine lv_lstore (lv' := [(6, .long p2), (4, .long p0), (0, .long p0), (2, .long p2)]) hx hb d_S_greatestDivisor_4 hl (by decide) rfl (fun ls hl => ?_)
  refine lv_iconst (v := 0) hx hb d_S_greatestDivisor_6 (by decide) ?_
  refine lv_istore (lv' := [(8, .int (0 : Int32)), (6, .long p2), (4, .long p0), (0, .long p0), (2, .long p2)]) hx hb d_S_greatestDivisor_7 hl (by decide) rfl (fun ls hl => ?_)
  obtain ⟨v6, w7, hc8, hf⟩ := op_b2 hf
  refine L_9 _ _ _ _ _ _ _ hc8 _ _ _ hP hS (lv_sub hl [2, 1, 0] rfl) (fun H locs ls hP hS hl => ?_)
  refine lv_lload hx hb d_S_greatestDivisor_44 (lv_at hl 0 rfl) ?_
  obtain ⟨hv9, rfl⟩ := op_inj hf
  exact wx_lret hx hb hr hlocks hAe hP hS hv9 d_S_greatestDivisor_46

def f_S_partOfFraction (z0 : gS) (p1 : Int64) (p3 : Int32) : Option (Int64 × gS) :=
 bd2 (f_E_wholeMinor z0) (fun r3 w2 =>
 bd2 (f_S_greatestDivisor w2 (if 0 < p1 then p1 else -p1) r3) (fun r6 w5 =>
 if (lg_cmp r6 (0 : Int64)) = 0 then (some ((-4000000000000000000 : Int64), w5))
 else (if p3 = 0 then (if r6 = 0 then none else
 some ((p1 / r6), w5))
 else (if r6 = 0 then none else
 some ((r3 / r6), w5)))))
set_option maxHeartbeats 4000000 in
set_option maxRecDepth 100000 in
theorem m_S_partOfFraction (l : Launch) (D : va_G) (cy : Nat → ClassId) (ad : Nat → Nat) (sz : Nat) (z0 : gS) (p1 : Int64) (p3 : Int32) (r : Int64) (zz : gS) (hf : f_S_partOfFraction z0 p1 p3 = some (r, zz)) : Met l y_S_partOfFraction (Cond.code y_S_partOfFraction c_S_partOfFraction 8 (some .long) :: gt_ws) ({ frames := 1, cells := 0, slots := 0, locals := 45 }) (sPc D cl_all (gTy cy) nwC 52 ad (g1 cy ad z0) sz [.ref (ad 0), .long p1, .int p3]) (sQl D cl_all 52 ad (g1 cy ad z0) sz r (g1 cy ad zz)) 0 0 (va_A (wl 52 ad (g1 cy ad z0)) sz) := by
  refine Met.ofW (cc := c_S_partOfFraction) (maxL := 8) (ret := (some .long)) (by decide) rfl ?_
  intro p e s m args below meth c s₁ B hml hv
  obtain ⟨rfl, hsz, hP, hK, hN, hD0⟩ := hv
  have hx := B.exec
  have hb := B.bytes
  have hr := B.returns
  have hts := atoms_spec (ws := (Cond.code y_S_partOfFraction c_S_partOfFraction 8 (some .long) :: gt_ws)) B.pre
  have ht : ∀ w ∈ gt_ws, w.before _ s = true := fun w h => hts w (List.mem_cons_of_mem _ h)
  have hown : s.vm.findClass RQ_S = some m.cls := findClass_of_methodNamed B.named
  have hlocks := B.notSynchronized
  subst hsz
  have hD1 := hD0.self (sz := s.heap.size)
  obtain ⟨A, hAe⟩ : ∃ A, A = va_A (wl 52 ad (g1 cy ad z0)) s.heap.size := ⟨_, rfl⟩
  rw [← hAe] at hD1
  have hD : ∀ g, va_D A (wl 52 ad g) := fun _ => wl_D hD1
  have hA : ∀ q : Nat, s.heap.size ≤ q → A q := fun q h => by rw [hAe]; exact Or.inr h
  have hS : va_S A s.heap s.heap [] := va_S.rf
  have hl := lv_entry ([.ref (ad 0), .long p1, .int p3]) (n := 8) (Nat.le_of_ble_eq_true rfl)
  rw [lg_entry_eq]
  generalize (lg_sl ([.ref (ad 0), .long p1, .int p3]) ++ List.replicate (8 - (lg_sl ([.ref (ad 0), .long p1, .int p3])).length) Slot.unset).toArray = ls at hl ⊢
  have hl : lv_has ls 8 [(0, .ref (ad 0)), (1, .long p1), (3, .int p3)] := hl
  unfold f_S_partOfFraction at hf
  refine lv_aload_n hx hb d_S_partOfFraction_0 rfl (lv_at hl 0 rfl) ?_
  refine wx_get (v := .ref (ad 3)) (C := RQ_S) (T := FQ_S) (N := 5) hx hb ht IQ_S hown hK hP 0 (by decide) (e_g1_0 cy ad _) rfl 2 (by decide) (ht _ kw_219) (fun _ h9 => h9) rfl d_S_partOfFraction_1 ?_
  obtain ⟨r3, w2, hc1, hf⟩ := op_b2 hf
  refine wx_fl (wx_rV (As := []) (rest := []) ⟨hx, hb, hml, hown, ht⟩ (m_E_wholeMinor l D cy ad _ z0 _ _ hc1) ⟨callB_of 0 ht (gt_in (fun _ h9 => h9) kw_445) rfl rfl rfl (ht _ kw_50) (ht _ kw_470) q_E_wholeMinor ⟨Nat.le_of_ble_eq_true rfl, Nat.le_of_ble_eq_true rfl⟩, ht _ kw_443, ht _ kw_444⟩ nwC_ok hN hK hP (hD _) (by decide) (e_g1_3 cy ad _) rfl rfl hl.1 rfl (Nat.le_of_ble_eq_true rfl) d_S_partOfFraction_4 ⟨Nat.zero_le _, Nat.zero_le _⟩) (hD _) hS hA (fun H locs hP hS => ?_)
  refine lv_lstore (lv' := [(4, .long r3), (0, .ref (ad 0)), (1, .long p1), (3, .int p3)]) hx hb d_S_partOfFraction_7 hl (by decide) rfl (fun ls hl => ?_)
  refine lv_lload_n hx hb d_S_partOfFraction_9 rfl (lv_at hl 2 rfl) ?_
  refine va_mabs_long hx hb (hml.trans hl.1.symm) hown (ht _ kw_471) (ht _ kw_472) (ht _ kw_54) (ht _ kw_473) (Nat.le_of_ble_eq_true rfl) (Nat.le_of_ble_eq_true rfl) (Nat.zero_le _) (Nat.zero_le _) d_S_partOfFraction_10 ?_
  refine lv_lload hx hb d_S_partOfFraction_13 (lv_at hl 0 rfl) ?_
  obtain ⟨r6, w5, hc4, hf⟩ := op_b2 hf
  refine wx_fl (wx_rS (As := [.long (if 0 < p1 then p1 else -p1), .long r3]) (rest := []) ⟨hx, hb, hml, hown, ht⟩ (m_S_greatestDivisor l D cy ad _ w2 (if 0 < p1 then p1 else -p1) r3 _ _ hc4) ⟨callB_of 2 ht (gt_in (fun _ h9 => h9) kw_476) rfl rfl rfl (ht _ kw_47) (ht _ kw_474) q_S_greatestDivisor ⟨Nat.le_of_ble_eq_true rfl, Nat.le_of_ble_eq_true rfl⟩, ht _ kw_475⟩ nwC_ok hN hK hP (hD _) rfl hl.1 rfl (Nat.le_of_ble_eq_true rfl) d_S_partOfFraction_15 ⟨Nat.zero_le _, Nat.zero_le _⟩) (hD _) hS hA (fun H locs hP hS => ?_)
  refine lv_lstore (lv' := [(6, .long r6), (4, .long r3), (0, .ref (ad 0)), (1, .long p1), (3, .int p3)]) hx hb d_S_partOfFraction_18 hl (by decide) rfl (fun ls hl => ?_)
  refine lv_lload hx hb d_S_partOfFraction_20 (lv_at hl 0 rfl) ?_
  refine lv_lconst (v := 0) hx hb d_S_partOfFraction_22 (by decide) ?_
  refine W.lcmp hx hb d_S_partOfFraction_23 ?_
  refine lv_if_ne (tgt := 31) hx hb d_S_partOfFraction_24 (by decide) (fun c7 => ?_) (fun c7 => ?_)
  ·
    have hf := op_neg hf c7
    refine lv_iload_n hx hb d_S_partOfFraction_31 rfl (lv_at hl 4 rfl) ?_
    refine lv_if_ne (tgt := 42) hx hb d_S_partOfFraction_32 (by decide) (fun c8 => ?_) (fun c8 => ?_)
    ·
      have hf := op_neg hf c8
      refine lv_lload hx hb d_S_partOfFraction_42 (lv_at hl 1 rfl) ?_
      refine lv_lload hx hb d_S_partOfFraction_44 (lv_at hl 0 rfl) ?_
      obtain ⟨h9, hf⟩ := op_chk hf
      refine lv_ldiv hx hb d_S_partOfFraction_46 h9 ?_
      obtain ⟨hv9, rfl⟩ := op_inj hf
      exact wx_lret hx hb hr hlocks hAe hP hS hv9 d_S_partOfFraction_47
    ·
      have hf := op_pos hf c8
      refine lv_lload_n hx hb d_S_partOfFraction_35 rfl (lv_at hl 3 rfl) ?_
      refine lv_lload hx hb d_S_partOfFraction_36 (lv_at hl 0 rfl) ?_
      obtain ⟨h10, hf⟩ := op_chk hf
      refine lv_ldiv hx hb d_S_partOfFraction_38 h10 ?_
      refine lv_goto (tgt := 47) hx hb d_S_partOfFraction_39 (by decide) ?_
      obtain ⟨hv9, rfl⟩ := op_inj hf
      exact wx_lret hx hb hr hlocks hAe hP hS hv9 d_S_partOfFraction_47
  ·
    have hf := op_pos hf c7
    refine lv_ldc2 hx hb hown (ht _ kw_433) d_S_partOfFraction_27 ?_
    obtain ⟨hv9, rfl⟩ := op_inj hf
    exact wx_lret hx hb hr hlocks hAe hP hS hv9 d_S_partOfFraction_30

def f_S_displacement (z0 : gS) (p1 : Int32) (p2 : Int32) (p3 : Int32) (p4 : Int32) : Option (Int64 × gS) :=
 bd2 (f_S_isCase z0 p1) (fun r3 w2 =>
 if r3 = 0 then (some ((-4000000000000000000 : Int64), w2))
 else (bd2 (f_S_isAnswerable w2 p2 p3 p4) (fun r7 w6 =>
 if r7 = 0 then (some ((-4000000000000000000 : Int64), w6))
 else (bd1 (f_R_chooseCase w6 p1) (fun w10 =>
 bd1 (f_R_respond_1_2_3 w10) (fun w12 =>
 bd2 (f_S_slotOf w12 p2 p3) (fun r15 w14 =>
 if r15 < 0 ∨ 10 ≤ r15.toNatClampNeg then none else
 bd2 (f_S_partOfFraction w14 (w14.2.2.2 25 r15.toNatClampNeg) p4) (fun r19 w18 =>
 some (r19, w18)))))))))
set_option maxHeartbeats 4000000 in
set_option maxRecDepth 100000 in
theorem m_S_displacement (l : Launch) (D : va_G) (cy : Nat → ClassId) (ad : Nat → Nat) (sz : Nat) (z0 : gS) (p1 : Int32) (p2 : Int32) (p3 : Int32) (p4 : Int32) (r : Int64) (zz : gS) (hf : f_S_displacement z0 p1 p2 p3 p4 = some (r, zz)) : Met l y_S_displacement (Cond.code y_S_displacement c_S_displacement 5 (some .long) :: gt_ws) ({ frames := 4, cells := 0, slots := 0, locals := 180 }) (sPc D cl_all (gTy cy) nwC 52 ad (g1 cy ad z0) sz [.ref (ad 0), .int p1, .int p2, .int p3, .int p4]) (sQl D cl_all 52 ad (g1 cy ad z0) sz r (g1 cy ad zz)) 0 0 (va_A (wl 52 ad (g1 cy ad z0)) sz) := by
  refine Met.ofW (cc := c_S_displacement) (maxL := 5) (ret := (some .long)) (by decide) rfl ?_
  intro p e s m args below meth c s₁ B hml hv
  obtain ⟨rfl, hsz, hP, hK, hN, hD0⟩ := hv
  have hx := B.exec
  have hb := B.bytes
  have hr := B.returns
  have hts := atoms_spec (ws := (Cond.code y_S_displacement c_S_displacement 5 (some .long) :: gt_ws)) B.pre
  have ht : ∀ w ∈ gt_ws, w.before _ s = true := fun w h => hts w (List.mem_cons_of_mem _ h)
  have hown : s.vm.findClass RQ_S = some m.cls := findClass_of_methodNamed B.named
  have hlocks := B.notSynchronized
  subst hsz
  have hD1 := hD0.self (sz := s.heap.size)
  obtain ⟨A, hAe⟩ : ∃ A, A = va_A (wl 52 ad (g1 cy ad z0)) s.heap.size := ⟨_, rfl⟩
  rw [← hAe] at hD1
  have hD : ∀ g, va_D A (wl 52 ad g) := fun _ => wl_D hD1
  have hA : ∀ q : Nat, s.heap.size ≤ q → A q := fun q h => by rw [hAe]; exact Or.inr h
  have hS : va_S A s.heap s.heap [] := va_S.rf
  have hl := lv_entry ([.ref (ad 0), .int p1, .int p2, .int p3, .int p4]) (n := 5) (Nat.le_of_ble_eq_true rfl)
  rw [lg_entry_eq]
  generalize (lg_sl ([.ref (ad 0), .int p1, .int p2, .int p3, .int p4]) ++ List.replicate (5 - (lg_sl ([.ref (ad 0), .int p1, .int p2, .int p3, .int p4])).length) Slot.unset).toArray = ls at hl ⊢
  have hl : lv_has ls 5 [(0, .ref (ad 0)), (1, .int p1), (2, .int p2), (3, .int p3), (4, .int p4)] := hl
  unfold f_S_displacement at hf
  refine lv_iload_n hx hb d_S_displacement_0 rfl (lv_at hl 1 rfl) ?_
  obtain ⟨r3, w2, hc1, hf⟩ := op_b2 hf
  refine wx_fi (wx_rS (As := [.int p1]) (rest := []) ⟨hx, hb, hml, hown, ht⟩ (m_S_isCase l D cy ad _ z0 p1 _ _ hc1) ⟨callB_of 1 ht (gt_in (fun _ h9 => h9) kw_296) rfl rfl rfl (ht _ kw_47) (ht _ kw_294) q_S_isCase ⟨Nat.le_of_ble_eq_true rfl, Nat.le_of_ble_eq_true rfl⟩, ht _ kw_295⟩ nwC_ok hN hK hP (hD _) rfl hl.1 rfl (Nat.le_of_ble_eq_true rfl) d_S_displacement_1 ⟨Nat.zero_le _, Nat.zero_le _⟩) (hD _) hS hA (fun H locs hP hS => ?_)
  refine lv_if_eq (tgt := 18) hx hb d_S_displacement_4 (by decide) (fun c4 => ?_) (fun c4 => ?_)
  ·
    have hf := op_pos hf c4
    refine lv_ldc2 hx hb hown (ht _ kw_433) d_S_displacement_18 ?_
    obtain ⟨hv9, rfl⟩ := op_inj hf
    exact wx_lret hx hb hr hlocks hAe hP hS hv9 d_S_displacement_21
  ·
    have hf := op_neg hf c4
    refine lv_aload_n hx hb d_S_displacement_7 rfl (lv_at hl 0 rfl) ?_
    refine lv_iload_n hx hb d_S_displacement_8 rfl (lv_at hl 2 rfl) ?_
    refine lv_iload_n hx hb d_S_displacement_9 rfl (lv_at hl 3 rfl) ?_
    refine lv_iload hx hb d_S_displacement_10 (lv_at hl 4 rfl) ?_
    obtain ⟨r7, w6, hc5, hf⟩ := op_b2 hf
    refine wx_fi (wx_rV (As := [.int p2, .int p3, .int p4]) (rest := []) ⟨hx, hb, hml, hown, ht⟩ (m_S_isAnswerable l D cy ad _ w2 p2 p3 p4 _ _ hc5) ⟨callB_of 3 ht (gt_in (fun _ h9 => h9) kw_424) rfl rfl rfl (ht _ kw_47) (ht _ kw_421) q_S_isAnswerable ⟨Nat.le_of_ble_eq_true rfl, Nat.le_of_ble_eq_true rfl⟩, ht _ kw_423, ht _ kw_17⟩ nwC_ok hN hK hP (hD _) (by decide) (e_g1_0 cy ad _) rfl rfl hl.1 rfl (Nat.le_of_ble_eq_true rfl) d_S_displacement_12 ⟨Nat.zero_le _, Nat.zero_le _⟩) (hD _) hS hA (fun H locs hP hS => ?_)
    refine lv_if_ne (tgt := 22) hx hb d_S_displacement_15 (by decide) (fun c8 => ?_) (fun c8 => ?_)
    ·
      have hf := op_neg hf c8
      refine lv_aload_n hx hb d_S_displacement_22 rfl (lv_at hl 0 rfl) ?_
      refine wx_get (v := .ref (ad 4)) (C := RQ_S) (T := FQ_S) (N := 5) hx hb ht IQ_S hown hK hP 0 (by decide) (e_g1_0 cy ad _) rfl 3 (by decide) (ht _ kw_220) (fun _ h9 => h9) rfl d_S_displacement_23 ?_
      refine lv_iload_n hx hb d_S_displacement_26 rfl (lv_at hl 1 rfl) ?_
      obtain ⟨w10, hc9, hf⟩ := op_b1 hf
      refine wx_fv (wx_rV (As := [.int p1]) (rest := []) ⟨hx, hb, hml, hown, ht⟩ (m_R_chooseCase l D cy ad _ w6 p1 _ hc9) ⟨callB_of 1 ht (gt_in (fun _ h9 => h9) kw_437) rfl rfl rfl (ht _ kw_51) (ht _ kw_434) q_R_chooseCase ⟨Nat.le_of_ble_eq_true rfl, Nat.le_of_ble_eq_true rfl⟩, ht _ kw_435, ht _ kw_436⟩ nwC_ok hN hK hP (hD _) (by decide) (e_g1_4 cy ad _) rfl rfl hl.1 rfl (Nat.le_of_ble_eq_true rfl) d_S_displacement_27 ⟨Nat.zero_le _, Nat.zero_le _⟩) (hD _) hS hA (fun H locs hP hS => ?_)
      refine lv_aload_n hx hb d_S_displacement_30 rfl (lv_at hl 0 rfl) ?_
      refine wx_get (v := .ref (ad 4)) (C := RQ_S) (T := FQ_S) (N := 5) hx hb ht IQ_S hown hK hP 0 (by decide) (e_g1_0 cy ad _) rfl 3 (by decide) (ht _ kw_220) (fun _ h9 => h9) rfl d_S_displacement_31 ?_
      refine lv_aload_n hx hb d_S_displacement_34 rfl (lv_at hl 0 rfl) ?_
      refine wx_get (v := .ref (ad 1)) (C := RQ_S) (T := FQ_S) (N := 5) hx hb ht IQ_S hown hK hP 0 (by decide) (e_g1_0 cy ad _) rfl 0 (by decide) (ht _ kw_217) (fun _ h9 => h9) rfl d_S_displacement_35 ?_
      refine lv_aload_n hx hb d_S_displacement_38 rfl (lv_at hl 0 rfl) ?_
      refine wx_get (v := .ref (ad 2)) (C := RQ_S) (T := FQ_S) (N := 5) hx hb ht IQ_S hown hK hP 0 (by decide) (e_g1_0 cy ad _) rfl 1 (by decide) (ht _ kw_218) (fun _ h9 => h9) rfl d_S_displacement_39 ?_
      refine lv_aload_n hx hb d_S_displacement_42 rfl (lv_at hl 0 rfl) ?_
      refine wx_get (v := .ref (ad 3)) (C := RQ_S) (T := FQ_S) (N := 5) hx hb ht IQ_S hown hK hP 0 (by decide) (e_g1_0 cy ad _) rfl 2 (by decide) (ht _ kw_219) (fun _ h9 => h9) rfl d_S_displacement_43 ?_
      obtain ⟨w12, hc11, hf⟩ := op_b1 hf
      refine wx_fv (wx_rV (As := [.ref (ad 1), .ref (ad 2), .ref (ad 3)]) (rest := []) ⟨hx, hb, hml, hown, ht⟩ (m_R_respond_1_2_3 l D cy ad _ w10 _ hc11) ⟨callB_of 3 ht (gt_in (fun _ h9 => h9) kw_441) rfl rfl rfl (ht _ kw_51) (ht _ kw_438) q_R_respond ⟨Nat.le_of_ble_eq_true rfl, Nat.le_of_ble_eq_true rfl⟩, ht _ kw_439, ht _ kw_440⟩ nwC_ok hN hK hP (hD _) (by decide) (e_g1_4 cy ad _) rfl rfl hl.1 rfl (Nat.le_of_ble_eq_true rfl) d_S_displacement_46 ⟨Nat.zero_le _, Nat.zero_le _⟩) (hD _) hS hA (fun H locs hP hS => ?_)
      refine lv_aload_n hx hb d_S_displacement_49 rfl (lv_at hl 0 rfl) ?_
      refine lv_aload_n hx hb d_S_displacement_50 rfl (lv_at hl 0 rfl) ?_
      refine wx_get (v := .ref (ad 4)) (C := RQ_S) (T := FQ_S) (N := 5) hx hb ht IQ_S hown hK hP 0 (by decide) (e_g1_0 cy ad _) rfl 3 (by decide) (ht _ kw_220) (fun _ h9 => h9) rfl d_S_displacement_51 ?_
      refine wx_get (v := .ref (ad 25)) (C := RQ_R) (T := FQ_R) (N := 6) hx hb ht IQ_R hown hK hP 4 (by decide) (e_g1_4 cy ad _) rfl 2 (by decide) (ht _ kw_200) (fun _ h9 => h9) rfl d_S_displacement_54 ?_
      refine lv_iload_n hx hb d_S_displacement_57 rfl (lv_at hl 2 rfl) ?_
      refine lv_iload_n hx hb d_S_displacement_58 rfl (lv_at hl 3 rfl) ?_
      obtain ⟨r15, w14, hc13, hf⟩ := op_b2 hf
      refine wx_fi (wx_rS (As := [.int p2, .int p3]) (rest := [.ref (ad 25), .ref (ad 0)]) ⟨hx, hb, hml, hown, ht⟩ (m_S_slotOf l D cy ad _ w12 p2 p3 _ _ hc13) ⟨callB_of 2 ht (gt_in (fun _ h9 => h9) kw_253) rfl rfl rfl (ht _ kw_47) (ht _ kw_285) q_S_slotOf ⟨Nat.le_of_ble_eq_true rfl, Nat.le_of_ble_eq_true rfl⟩, ht _ kw_252⟩ nwC_ok hN hK hP (hD _) rfl hl.1 rfl (Nat.le_of_ble_eq_true rfl) d_S_displacement_59 ⟨Nat.zero_le _, Nat.zero_le _⟩) (hD _) hS hA (fun H locs hP hS => ?_)
      obtain ⟨h16, hf⟩ := op_chk hf
      refine wx_lald hx hb hK hP 25 (by decide) (by decide) 10 rfl h16 d_S_displacement_62 ?_
      refine lv_iload hx hb d_S_displacement_63 (lv_at hl 4 rfl) ?_
      obtain ⟨r19, w18, hc17, hf⟩ := op_b2 hf
      refine wx_fl (wx_rV (As := [.long (w14.2.2.2 25 r15.toNatClampNeg), .int p4]) (rest := []) ⟨hx, hb, hml, hown, ht⟩ (m_S_partOfFraction l D cy ad _ w14 (w14.2.2.2 25 r15.toNatClampNeg) p4 _ _ hc17) ⟨callB_of 2 ht (gt_in (fun _ h9 => h9) kw_469) rfl rfl rfl (ht _ kw_47) (ht _ kw_466) q_S_partOfFraction ⟨Nat.le_of_ble_eq_true rfl, Nat.le_of_ble_eq_true rfl⟩, ht _ kw_468, ht _ kw_23⟩ nwC_ok hN hK hP (hD _) (by decide) (e_g1_0 cy ad _) rfl rfl hl.1 rfl (Nat.le_of_ble_eq_true rfl) d_S_displacement_65 ⟨Nat.zero_le _, Nat.zero_le _⟩) (hD _) hS hA (fun H locs hP hS => ?_)
      obtain ⟨hv9, rfl⟩ := op_inj hf
      exact wx_lret hx hb hr hlocks hAe hP hS hv9 d_S_displacement_68
    ·
      have hf := op_pos hf c8
      refine lv_ldc2 hx hb hown (ht _ kw_433) d_S_displacement_18 ?_
      obtain ⟨hv9, rfl⟩ := op_inj hf
      exact wx_lret hx hb hr hlocks hAe hP hS hv9 d_S_displacement_21

def l_R_forceNumerator_1_5 : Nat → gS → Int32 → Int64 → Int32 → Option (Int32 × Int64 × gS)
  | 0, _, _, _, _ => none
  | n + 1, z, x2, x3, x5 =>
    if (10 : Int32) ≤ x5 then (some (x2, x3, z))
     else (bd2 (f_T_stretchBy z x2 x5) (fun r4 w3 =>
     if x5 < 0 ∨ 10 ≤ x5.toNatClampNeg then none else
     (some ((x3 + (r4.toInt64 * (w3.2.2.2 25 x5.toNatClampNeg))) : Int64)).bind (fun v6 =>
     l_R_forceNumerator_1_5 n w3 x2 v6 (x5 + (1 : Int32)))))
def f_R_forceNumerator_1 (z0 : gS) (p2 : Int32) : Option (Int64 × gS) :=
 bd3 (l_R_forceNumerator_1_5 200 z0 p2 (0 : Int64) (0 : Int32)) (fun v8 v9 w10 =>
 if v8 < 0 ∨ 10 ≤ v8.toNatClampNeg then none else
 some ((((w10.2.2.1 8 v8.toNatClampNeg).toInt64) * v9), w10))
set_option maxHeartbeats 4000000 in
set_option maxRecDepth 100000 in
theorem m_R_forceNumerator_1 (l : Launch) (D : va_G) (cy : Nat → ClassId) (ad : Nat → Nat) (sz : Nat) (z0 : gS) (p2 : Int32) (r : Int64) (zz : gS) (hf : f_R_forceNumerator_1 z0 p2 = some (r, zz)) : Met l y_R_forceNumerator (Cond.code y_R_forceNumerator c_R_forceNumerator 6 (some .long) :: gt_ws) ({ frames := 3, cells := 0, slots := 0, locals := 135 }) (sPc D cl_all (gTy cy) nwC 52 ad (g1 cy ad z0) sz [.ref (ad 4), .ref (ad 1), .int p2]) (sQl D cl_all 52 ad (g1 cy ad z0) sz r (g1 cy ad zz)) 0 0 (va_A (wl 52 ad (g1 cy ad z0)) sz) := by
  refine Met.ofW (cc := c_R_forceNumerator) (maxL := 6) (ret := (some .long)) (by decide) rfl ?_
  intro p e s m args below meth c s₁ B hml hv
  obtain ⟨rfl, hsz, hP, hK, hN, hD0⟩ := hv
  have hx := B.exec
  have hb := B.bytes
  have hr := B.returns
  have hts := atoms_spec (ws := (Cond.code y_R_forceNumerator c_R_forceNumerator 6 (some .long) :: gt_ws)) B.pre
  have ht : ∀ w ∈ gt_ws, w.before _ s = true := fun w h => hts w (List.mem_cons_of_mem _ h)
  have hown : s.vm.findClass RQ_R = some m.cls := findClass_of_methodNamed B.named
  have hlocks := B.notSynchronized
  subst hsz
  have hD1 := hD0.self (sz := s.heap.size)
  obtain ⟨A, hAe⟩ : ∃ A, A = va_A (wl 52 ad (g1 cy ad z0)) s.heap.size := ⟨_, rfl⟩
  rw [← hAe] at hD1
  have hD : ∀ g, va_D A (wl 52 ad g) := fun _ => wl_D hD1
  have hA : ∀ q : Nat, s.heap.size ≤ q → A q := fun q h => by rw [hAe]; exact Or.inr h
  have hS : va_S A s.heap s.heap [] := va_S.rf
  have hl := lv_entry ([.ref (ad 4), .ref (ad 1), .int p2]) (n := 6) (Nat.le_of_ble_eq_true rfl)
  rw [lg_entry_eq]
  generalize (lg_sl ([.ref (ad 4), .ref (ad 1), .int p2]) ++ List.replicate (6 - (lg_sl ([.ref (ad 4), .ref (ad 1), .int p2])).length) Slot.unset).toArray = ls at hl ⊢
  have hl : lv_has ls 6 [(0, .ref (ad 4)), (1, .ref (ad 1)), (2, .int p2)] := hl
  have L_5 : ∀ (n : Nat) (z : gS) (x2 : Int32) (x3 : Int64) (x5 : Int32) (y2 : Int32) (y3 : Int64) (z9 : gS), l_R_forceNumerator_1_5 n z x2 x3 x5 = some (y2, y3, z9) → ∀ (H : Heap) (locs : List Loc) (ls : Array Slot), va_P D cl_all (wl 52 ad (g1 cy ad z)) H → va_S A s.heap H locs → lv_has ls 6 [(0, .ref (ad 4)), (1, .ref (ad 1)), (2, .int x2), (3, .long x3), (5, .int x5)] →
      (∀ (H : Heap) (locs : List Loc) (ls : Array Slot), va_P D cl_all (wl 52 ad (g1 cy ad z9)) H → va_S A s.heap H locs → lv_has ls 6 [(1, .ref (ad 1)), (2, .int y2), (3, .long y3)] → W p l e (headSpec (Cond.code y_R_forceNumerator c_R_forceNumerator 6 (some .long) :: gt_ws) ({ frames := 3, cells := 0, slots := 0, locals := 135 })).room s m ([.ref (ad 4), .ref (ad 1), .int p2]).toArray below meth c H locs 0 0 (MQ below (sQl D cl_all 52 ad (g1 cy ad z0) s.heap.size r (g1 cy ad zz)) ([.ref (ad 4), .ref (ad 1), .int p2]).toArray s 0 0 (va_A (wl 52 ad (g1 cy ad z0)) s.heap.size)) (F0 m 37 ls [])) →
      W p l e (headSpec (Cond.code y_R_forceNumerator c_R_forceNumerator 6 (some .long) :: gt_ws) ({ frames := 3, cells := 0, slots := 0, locals := 135 })).room s m ([.ref (ad 4), .ref (ad 1), .int p2]).toArray below meth c H locs 0 0 (MQ below (sQl D cl_all 52 ad (g1 cy ad z0) s.heap.size r (g1 cy ad zz)) ([.ref (ad 4), .ref (ad 1), .int p2]).toArray s 0 0 (va_A (wl 52 ad (g1 cy ad z0)) s.heap.size)) (F0 m 5 ls []) := by
    intro n
    induction n with
    | zero => intro z x2 x3 x5 y2 y3 z9 hf; rw [l_R_forceNumerator_1_5] at hf; cases hf
    | succ n ih =>
      intro z x2 x3 x5 y2 y3 z9 hf H locs ls hP hS hl k_0
      rw [l_R_forceNumerator_1_5] at hf
      refine lv_iload hx hb d_R_forceNumerator_5 (lv_at hl 4 rfl) ?_
      refine lv_bipush (v := 10) hx hb d_R_forceNumerator_7 (by decide) ?_
      refine lv_icmp_ge (tgt := 37) hx hb d_R_forceNumerator_9 (by decide) (fun c1 => ?_) (fun c1 => ?_)
      ·
        have hf := op_pos hf c1
        cases hf
        exact k_0 _ _ _ hP hS (lv_sub hl [1, 2, 3] rfl)
      ·
        have hf := op_neg hf c1
        refine lv_lload_n hx hb d_R_forceNumerator_12 rfl (lv_at hl 3 rfl) ?_
        refine lv_aload_n hx hb d_R_forceNumerator_13 rfl (lv_at hl 1 rfl) ?_
        refine lv_iload_n hx hb d_R_forceNumerator_14 rfl (lv_at hl 2 rfl) ?_
        refine lv_iload hx hb d_R_forceNumerator_15 (lv_at hl 4 rfl) ?_
        obtain ⟨r4, w3, hc2, hf⟩ := op_b2 hf
        refine wx_fi (wx_rV (As := [.int x2, .int x5]) (rest := [.long x3]) ⟨hx, hb, hml, hown, ht⟩ (m_T_stretchBy l D cy ad _ z x2 x5 _ _ hc2) ⟨callB_of 2 ht (gt_in (fun _ h9 => h9) kw_386) rfl rfl rfl (ht _ kw_48) (ht _ kw_485) q_T_stretchBy ⟨Nat.le_of_ble_eq_true rfl, Nat.le_of_ble_eq_true rfl⟩, ht _ kw_384, ht _ kw_385⟩ nwC_ok hN hK hP (hD _) (by decide) (e_g1_1 cy ad _) rfl rfl hl.1 rfl (Nat.le_of_ble_eq_true rfl) d_R_forceNumerator_17 ⟨Nat.zero_le _, Nat.zero_le _⟩) (hD _) hS hA (fun H locs hP hS => ?_)
        refine lv_i2l hx hb d_R_forceNumerator_20 rfl ?_
        refine lv_aload_n hx hb d_R_forceNumerator_21 rfl (lv_at hl 0 rfl) ?_
        refine wx_get (v := .ref (ad 25)) (C := RQ_R) (T := FQ_R) (N := 6) hx hb ht IQ_R hown hK hP 4 (by decide) (e_g1_4 cy ad _) rfl 2 (by decide) (ht _ kw_199) (fun _ h9 => h9) rfl d_R_forceNumerator_22 ?_
        refine lv_iload hx hb d_R_forceNumerator_25 (lv_at hl 4 rfl) ?_
        obtain ⟨h5, hf⟩ := op_chk hf
        refine wx_lald hx hb hK hP 25 (by decide) (by decide) 10 rfl h5 d_R_forceNumerator_27 ?_
        refine lv_lmul hx hb d_R_forceNumerator_28 ?_
        refine lv_ladd hx hb d_R_forceNumerator_29 ?_
        obtain ⟨v6, h7, hf⟩ := op_let hf
        refine sw_l h7 ?_
        refine lv_lstore_n (lv' := [(3, .long v6), (0, .ref (ad 4)), (1, .ref (ad 1)), (2, .int x2), (5, .int x5)]) hx hb d_R_forceNumerator_30 rfl hl (by decide) rfl (fun ls hl => ?_)
        refine lv_iinc (v := x5 + (1 : Int32)) (lv' := [(5, .int (x5 + (1 : Int32))), (3, .long v6), (0, .ref (ad 4)), (1, .ref (ad 1)), (2, .int x2)]) hx hb d_R_forceNumerator_31 hl (k := 4) rfl rfl (by decide) rfl (fun ls hl => ?_)
        refine lv_goto (tgt := 5) hx hb d_R_forceNumerator_34 (by decide) ?_
        exact ih _ _ _ _ _ _ _ hf _ _ _ hP hS (lv_sub hl [2, 3, 4, 1, 0] rfl) k_0
  unfold f_R_forceNumerator_1 at hf
  refine lv_lconst (v := 0) hx hb d_R_forceNumerator_0 (by decide) ?_
  refine lv_lstore_n (lv' := [(3, .long (0 : Int64)), (0, .ref (ad 4)), (1, .ref (ad 1)), (2, .int p2)]) hx hb d_R_forceNumerator_1 rfl hl (by decide) rfl (fun ls hl => ?_)
  refine lv_iconst (v := 0) hx hb d_R_forceNumerator_2 (by decide) ?_
  refine lv_istore (lv' := [(5, .int (0 : Int32)), (3, .long (0 : Int64)), (0, .ref (ad 4)), (1, .ref (ad 1)), (2, .int p2)]) hx hb d_R_forceNumerator_3 hl (by decide) rfl (fun ls hl => ?_)
  obtain ⟨v8, v9, w10, hc11, hf⟩ := op_b3 hf
  refine L_5 _ _ _ _ _ _ _ _ hc11 _ _ _ hP hS (lv_sub hl [2, 3, 4, 1, 0] rfl) (fun H locs ls hP hS hl => ?_)
  refine lv_aload_n hx hb d_R_forceNumerator_37 rfl (lv_at hl 0 rfl) ?_
  refine wx_get (v := .ref (ad 8)) (C := RQ_T) (T := FQ_T) (N := 10) hx hb ht IQ_T hown hK hP 1 (by decide) (e_g1_1 cy ad _) rfl 4 (by decide) (ht _ kw_82) (fun _ h9 => h9) rfl d_R_forceNumerator_38 ?_
  refine lv_iload_n hx hb d_R_forceNumerator_41 rfl (lv_at hl 1 rfl) ?_
  obtain ⟨h12, hf⟩ := op_chk hf
  refine wx_iald hx hb hK hP 8 (by decide) (by decide) 10 rfl h12 d_R_forceNumerator_42 ?_
  refine lv_i2l hx hb d_R_forceNumerator_43 rfl ?_
  refine lv_lload_n hx hb d_R_forceNumerator_44 rfl (lv_at hl 2 rfl) ?_
  refine lv_lmul hx hb d_R_forceNumerator_45 ?_
  obtain ⟨hv9, rfl⟩ := op_inj hf
  exact wx_lret hx hb hr hlocks hAe hP hS hv9 d_R_forceNumerator_46

def f_S_force (z0 : gS) (p1 : Int32) (p2 : Int32) (p3 : Int32) : Option (Int64 × gS) :=
 if (z0.1 0) = 0 then (some ((-4000000000000000000 : Int64), z0))
 else (bd2 (f_S_isCase z0 p1) (fun r4 w3 =>
 if r4 = 0 then (some ((-4000000000000000000 : Int64), w3))
 else (bd2 (f_S_isBarThere w3 p2) (fun r8 w7 =>
 if r8 = 0 then (some ((-4000000000000000000 : Int64), w7))
 else (bd2 (f_S_isPart w7 p3) (fun r12 w11 =>
 if r12 = 0 then (some ((-4000000000000000000 : Int64), w11))
 else (bd1 (f_R_chooseCase w11 p1) (fun w15 =>
 bd1 (f_R_respond_1_2_3 w15) (fun w17 =>
 bd2 (f_R_forceNumerator_1 w17 p2) (fun r20 w19 =>
 bd2 (f_S_partOfFraction w19 r20 p3) (fun r23 w22 =>
 some (r23, w22))))))))))))
set_option maxHeartbeats 4000000 in
set_option maxRecDepth 100000 in
theorem m_S_force (l : Launch) (D : va_G) (cy : Nat → ClassId) (ad : Nat → Nat) (sz : Nat) (z0 : gS) (p1 : Int32) (p2 : Int32) (p3 : Int32) (r : Int64) (zz : gS) (hf : f_S_force z0 p1 p2 p3 = some (r, zz)) : Met l y_S_force (Cond.code y_S_force c_S_force 4 (some .long) :: gt_ws) ({ frames := 4, cells := 0, slots := 0, locals := 180 }) (sPc D cl_all (gTy cy) nwC 52 ad (g1 cy ad z0) sz [.ref (ad 0), .int p1, .int p2, .int p3]) (sQl D cl_all 52 ad (g1 cy ad z0) sz r (g1 cy ad zz)) 0 0 (va_A (wl 52 ad (g1 cy ad z0)) sz) := by
  refine Met.ofW (cc := c_S_force) (maxL := 4) (ret := (some .long)) (by decide) rfl ?_
  intro p e s m args below meth c s₁ B hml hv
  obtain ⟨rfl, hsz, hP, hK, hN, hD0⟩ := hv
  have hx := B.exec
  have hb := B.bytes
  have hr := B.returns
  have hts := atoms_spec (ws := (Cond.code y_S_force c_S_force 4 (some .long) :: gt_ws)) B.pre
  have ht : ∀ w ∈ gt_ws, w.before _ s = true := fun w h => hts w (List.mem_cons_of_mem _ h)
  have hown : s.vm.findClass RQ_S = some m.cls := findClass_of_methodNamed B.named
  have hlocks := B.notSynchronized
  subst hsz
  have hD1 := hD0.self (sz := s.heap.size)
  obtain ⟨A, hAe⟩ : ∃ A, A = va_A (wl 52 ad (g1 cy ad z0)) s.heap.size := ⟨_, rfl⟩
  rw [← hAe] at hD1
  have hD : ∀ g, va_D A (wl 52 ad g) := fun _ => wl_D hD1
  have hA : ∀ q : Nat, s.heap.size ≤ q → A q := fun q h => by rw [hAe]; exact Or.inr h
  have hS : va_S A s.heap s.heap [] := va_S.rf
  have hl := lv_entry ([.ref (ad 0), .int p1, .int p2, .int p3]) (n := 4) (Nat.le_of_ble_eq_true rfl)
  rw [lg_entry_eq]
  generalize (lg_sl ([.ref (ad 0), .int p1, .int p2, .int p3]) ++ List.replicate (4 - (lg_sl ([.ref (ad 0), .int p1, .int p2, .int p3])).length) Slot.unset).toArray = ls at hl ⊢
  have hl : lv_has ls 4 [(0, .ref (ad 0)), (1, .int p1), (2, .int p2), (3, .int p3)] := hl
  unfold f_S_force at hf
  refine lv_aload_n hx hb d_S_force_0 rfl (lv_at hl 0 rfl) ?_
  refine wx_get (v := .int (z0.1 0)) (C := RQ_S) (T := FQ_S) (N := 5) hx hb ht IQ_S hown hK hP 0 (by decide) (e_g1_0 cy ad _) rfl 4 (by decide) (ht _ kw_221) (fun _ h9 => h9) rfl d_S_force_1 ?_
  refine lv_if_eq (tgt := 29) hx hb d_S_force_4 (by decide) (fun c1 => ?_) (fun c1 => ?_)
  ·
    have hf := op_pos hf c1
    refine lv_ldc2 hx hb hown (ht _ kw_433) d_S_force_29 ?_
    obtain ⟨hv9, rfl⟩ := op_inj hf
    exact wx_lret hx hb hr hlocks hAe hP hS hv9 d_S_force_32
  ·
    have hf := op_neg hf c1
    refine lv_iload_n hx hb d_S_force_7 rfl (lv_at hl 1 rfl) ?_
    obtain ⟨r4, w3, hc2, hf⟩ := op_b2 hf
    refine wx_fi (wx_rS (As := [.int p1]) (rest := []) ⟨hx, hb, hml, hown, ht⟩ (m_S_isCase l D cy ad _ z0 p1 _ _ hc2) ⟨callB_of 1 ht (gt_in (fun _ h9 => h9) kw_296) rfl rfl rfl (ht _ kw_47) (ht _ kw_294) q_S_isCase ⟨Nat.le_of_ble_eq_true rfl, Nat.le_of_ble_eq_true rfl⟩, ht _ kw_295⟩ nwC_ok hN hK hP (hD _) rfl hl.1 rfl (Nat.le_of_ble_eq_true rfl) d_S_force_8 ⟨Nat.zero_le _, Nat.zero_le _⟩) (hD _) hS hA (fun H locs hP hS => ?_)
    refine lv_if_eq (tgt := 29) hx hb d_S_force_11 (by decide) (fun c5 => ?_) (fun c5 => ?_)
    ·
      have hf := op_pos hf c5
      refine lv_ldc2 hx hb hown (ht _ kw_433) d_S_force_29 ?_
      obtain ⟨hv9, rfl⟩ := op_inj hf
      exact wx_lret hx hb hr hlocks hAe hP hS hv9 d_S_force_32
    ·
      have hf := op_neg hf c5
      refine lv_aload_n hx hb d_S_force_14 rfl (lv_at hl 0 rfl) ?_
      refine lv_iload_n hx hb d_S_force_15 rfl (lv_at hl 2 rfl) ?_
      obtain ⟨r8, w7, hc6, hf⟩ := op_b2 hf
      refine wx_fi (wx_rV (As := [.int p2]) (rest := []) ⟨hx, hb, hml, hown, ht⟩ (m_S_isBarThere l D cy ad _ w3 p2 _ _ hc6) ⟨callB_of 1 ht (gt_in (fun _ h9 => h9) kw_273) rfl rfl rfl (ht _ kw_47) (ht _ kw_270) q_S_isBarThere ⟨Nat.le_of_ble_eq_true rfl, Nat.le_of_ble_eq_true rfl⟩, ht _ kw_272, ht _ kw_0⟩ nwC_ok hN hK hP (hD _) (by decide) (e_g1_0 cy ad _) rfl rfl hl.1 rfl (Nat.le_of_ble_eq_true rfl) d_S_force_16 ⟨Nat.zero_le _, Nat.zero_le _⟩) (hD _) hS hA (fun H locs hP hS => ?_)
      refine lv_if_eq (tgt := 29) hx hb d_S_force_19 (by decide) (fun c9 => ?_) (fun c9 => ?_)
      ·
        have hf := op_pos hf c9
        refine lv_ldc2 hx hb hown (ht _ kw_433) d_S_force_29 ?_
        obtain ⟨hv9, rfl⟩ := op_inj hf
        exact wx_lret hx hb hr hlocks hAe hP hS hv9 d_S_force_32
      ·
        have hf := op_neg hf c9
        refine lv_iload_n hx hb d_S_force_22 rfl (lv_at hl 3 rfl) ?_
        obtain ⟨r12, w11, hc10, hf⟩ := op_b2 hf
        refine wx_fi (wx_rS (As := [.int p3]) (rest := []) ⟨hx, hb, hml, hown, ht⟩ (m_S_isPart l D cy ad _ w7 p3 _ _ hc10) ⟨callB_of 1 ht (gt_in (fun _ h9 => h9) kw_432) rfl rfl rfl (ht _ kw_47) (ht _ kw_430) q_S_isPart ⟨Nat.le_of_ble_eq_true rfl, Nat.le_of_ble_eq_true rfl⟩, ht _ kw_431⟩ nwC_ok hN hK hP (hD _) rfl hl.1 rfl (Nat.le_of_ble_eq_true rfl) d_S_force_23 ⟨Nat.zero_le _, Nat.zero_le _⟩) (hD _) hS hA (fun H locs hP hS => ?_)
        refine lv_if_ne (tgt := 33) hx hb d_S_force_26 (by decide) (fun c13 => ?_) (fun c13 => ?_)
        ·
          have hf := op_neg hf c13
          refine lv_aload_n hx hb d_S_force_33 rfl (lv_at hl 0 rfl) ?_
          refine wx_get (v := .ref (ad 4)) (C := RQ_S) (T := FQ_S) (N := 5) hx hb ht IQ_S hown hK hP 0 (by decide) (e_g1_0 cy ad _) rfl 3 (by decide) (ht _ kw_220) (fun _ h9 => h9) rfl d_S_force_34 ?_
          refine lv_iload_n hx hb d_S_force_37 rfl (lv_at hl 1 rfl) ?_
          obtain ⟨w15, hc14, hf⟩ := op_b1 hf
          refine wx_fv (wx_rV (As := [.int p1]) (rest := []) ⟨hx, hb, hml, hown, ht⟩ (m_R_chooseCase l D cy ad _ w11 p1 _ hc14) ⟨callB_of 1 ht (gt_in (fun _ h9 => h9) kw_437) rfl rfl rfl (ht _ kw_51) (ht _ kw_434) q_R_chooseCase ⟨Nat.le_of_ble_eq_true rfl, Nat.le_of_ble_eq_true rfl⟩, ht _ kw_435, ht _ kw_436⟩ nwC_ok hN hK hP (hD _) (by decide) (e_g1_4 cy ad _) rfl rfl hl.1 rfl (Nat.le_of_ble_eq_true rfl) d_S_force_38 ⟨Nat.zero_le _, Nat.zero_le _⟩) (hD _) hS hA (fun H locs hP hS => ?_)
          refine lv_aload_n hx hb d_S_force_41 rfl (lv_at hl 0 rfl) ?_
          refine wx_get (v := .ref (ad 4)) (C := RQ_S) (T := FQ_S) (N := 5) hx hb ht IQ_S hown hK hP 0 (by decide) (e_g1_0 cy ad _) rfl 3 (by decide) (ht _ kw_220) (fun _ h9 => h9) rfl d_S_force_42 ?_
          refine lv_aload_n hx hb d_S_force_45 rfl (lv_at hl 0 rfl) ?_
          refine wx_get (v := .ref (ad 1)) (C := RQ_S) (T := FQ_S) (N := 5) hx hb ht IQ_S hown hK hP 0 (by decide) (e_g1_0 cy ad _) rfl 0 (by decide) (ht _ kw_217) (fun _ h9 => h9) rfl d_S_force_46 ?_
          refine lv_aload_n hx hb d_S_force_49 rfl (lv_at hl 0 rfl) ?_
          refine wx_get (v := .ref (ad 2)) (C := RQ_S) (T := FQ_S) (N := 5) hx hb ht IQ_S hown hK hP 0 (by decide) (e_g1_0 cy ad _) rfl 1 (by decide) (ht _ kw_218) (fun _ h9 => h9) rfl d_S_force_50 ?_
          refine lv_aload_n hx hb d_S_force_53 rfl (lv_at hl 0 rfl) ?_
          refine wx_get (v := .ref (ad 3)) (C := RQ_S) (T := FQ_S) (N := 5) hx hb ht IQ_S hown hK hP 0 (by decide) (e_g1_0 cy ad _) rfl 2 (by decide) (ht _ kw_219) (fun _ h9 => h9) rfl d_S_force_54 ?_
          obtain ⟨w17, hc16, hf⟩ := op_b1 hf
          refine wx_fv (wx_rV (As := [.ref (ad 1), .ref (ad 2), .ref (ad 3)]) (rest := []) ⟨hx, hb, hml, hown, ht⟩ (m_R_respond_1_2_3 l D cy ad _ w15 _ hc16) ⟨callB_of 3 ht (gt_in (fun _ h9 => h9) kw_441) rfl rfl rfl (ht _ kw_51) (ht _ kw_438) q_R_respond ⟨Nat.le_of_ble_eq_true rfl, Nat.le_of_ble_eq_true rfl⟩, ht _ kw_439, ht _ kw_440⟩ nwC_ok hN hK hP (hD _) (by decide) (e_g1_4 cy ad _) rfl rfl hl.1 rfl (Nat.le_of_ble_eq_true rfl) d_S_force_57 ⟨Nat.zero_le _, Nat.zero_le _⟩) (hD _) hS hA (fun H locs hP hS => ?_)
          refine lv_aload_n hx hb d_S_force_60 rfl (lv_at hl 0 rfl) ?_
          refine lv_aload_n hx hb d_S_force_61 rfl (lv_at hl 0 rfl) ?_
          refine wx_get (v := .ref (ad 4)) (C := RQ_S) (T := FQ_S) (N := 5) hx hb ht IQ_S hown hK hP 0 (by decide) (e_g1_0 cy ad _) rfl 3 (by decide) (ht _ kw_220) (fun _ h9 => h9) rfl d_S_force_62 ?_
          refine lv_aload_n hx hb d_S_force_65 rfl (lv_at hl 0 rfl) ?_
          refine wx_get (v := .ref (ad 1)) (C := RQ_S) (T := FQ_S) (N := 5) hx hb ht IQ_S hown hK hP 0 (by decide) (e_g1_0 cy ad _) rfl 0 (by decide) (ht _ kw_217) (fun _ h9 => h9) rfl d_S_force_66 ?_
          refine lv_iload_n hx hb d_S_force_69 rfl (lv_at hl 2 rfl) ?_
          obtain ⟨r20, w19, hc18, hf⟩ := op_b2 hf
          refine wx_fl (wx_rV (As := [.ref (ad 1), .int p2]) (rest := [.ref (ad 0)]) ⟨hx, hb, hml, hown, ht⟩ (m_R_forceNumerator_1 l D cy ad _ w17 p2 _ _ hc18) ⟨callB_of 2 ht (gt_in (fun _ h9 => h9) kw_484) rfl rfl rfl (ht _ kw_51) (ht _ kw_481) q_R_forceNumerator ⟨Nat.le_of_ble_eq_true rfl, Nat.le_of_ble_eq_true rfl⟩, ht _ kw_482, ht _ kw_483⟩ nwC_ok hN hK hP (hD _) (by decide) (e_g1_4 cy ad _) rfl rfl hl.1 rfl (Nat.le_of_ble_eq_true rfl) d_S_force_70 ⟨Nat.zero_le _, Nat.zero_le _⟩) (hD _) hS hA (fun H locs hP hS => ?_)
          refine lv_iload_n hx hb d_S_force_73 rfl (lv_at hl 3 rfl) ?_
          obtain ⟨r23, w22, hc21, hf⟩ := op_b2 hf
          refine wx_fl (wx_rV (As := [.long r20, .int p3]) (rest := []) ⟨hx, hb, hml, hown, ht⟩ (m_S_partOfFraction l D cy ad _ w19 r20 p3 _ _ hc21) ⟨callB_of 2 ht (gt_in (fun _ h9 => h9) kw_469) rfl rfl rfl (ht _ kw_47) (ht _ kw_466) q_S_partOfFraction ⟨Nat.le_of_ble_eq_true rfl, Nat.le_of_ble_eq_true rfl⟩, ht _ kw_468, ht _ kw_23⟩ nwC_ok hN hK hP (hD _) (by decide) (e_g1_0 cy ad _) rfl rfl hl.1 rfl (Nat.le_of_ble_eq_true rfl) d_S_force_74 ⟨Nat.zero_le _, Nat.zero_le _⟩) (hD _) hS hA (fun H locs hP hS => ?_)
          obtain ⟨hv9, rfl⟩ := op_inj hf
          exact wx_lret hx hb hr hlocks hAe hP hS hv9 d_S_force_77
        ·
          have hf := op_pos hf c13
          refine lv_ldc2 hx hb hown (ht _ kw_433) d_S_force_29 ?_
          obtain ⟨hv9, rfl⟩ := op_inj hf
          exact wx_lret hx hb hr hlocks hAe hP hS hv9 d_S_force_32
