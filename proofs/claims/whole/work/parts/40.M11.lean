def l_M_unknown_42 : Nat → gS → Int32 → Int32 → Int32 → Option (Nat × Int32 × gS)
  | 0, _, _, _, _ => none
  | n + 1, z, x1, x2, x3 =>
    if (z.1 3) ≤ x3 then (some (1, x3, z))
     else (if x3 < 0 ∨ 10 ≤ x3.toNatClampNeg then none else
     if (z.2.2.1 12 x3.toNatClampNeg) = ((x1 * (2 : Int32)) + x2) then (some (0, x3, z))
     else (l_M_unknown_42 n z x1 x2 (x3 + (1 : Int32))))
def f_M_unknown (z0 : gS) (p1 : Int32) (p2 : Int32) : Option (Int32 × gS) :=
 if (z0.1 1) = 0 then (some ((-1 : Int32), z0))
 else (bd2 (f_M_off z0 p1 (4 : Int32)) (fun r7 w6 =>
 if r7 = 0 then (if p1 < 0 ∨ 5 ≤ p1.toNatClampNeg then none else
 if (w6.2.2.1 1 p1.toNatClampNeg) = 0 then (some ((-1 : Int32), w6))
 else (bd2 (f_M_off w6 p2 (1 : Int32)) (fun r13 w12 =>
 if r13 = 0 then (bd1 (f_M_makeOrder w12) (fun w16 =>
 bd3 (l_M_unknown_42 200 w16 p1 p2 (0 : Int32)) (fun e17 v18 w19 =>
 if e17 = 0 then (some (v18, w19))
 else (some ((-2 : Int32), w19)))))
 else (some ((-1 : Int32), w12)))))
 else (some ((-1 : Int32), w6))))
set_option maxHeartbeats 4000000 in
set_option maxRecDepth 100000 in
theorem m_M_unknown (l : Launch) (D : va_G) (cy : Nat → ClassId) (ad : Nat → Nat) (sz : Nat) (z0 : gS) (p1 : Int32) (p2 : Int32) (r : Int32) (zz : gS) (hf : f_M_unknown z0 p1 p2 = some (r, zz)) : Met l y_M_unknown (Cond.code y_M_unknown c_M_unknown 4 (some .int) :: gt_ws) ({ frames := 4, cells := 0, slots := 0, locals := 180 }) (sPc D cl_all (gTy cy) nwM 16 ad (g2 cy ad z0) sz [.ref (ad 0), .int p1, .int p2]) (sQi D cl_all 16 ad (g2 cy ad z0) sz r (g2 cy ad zz)) 0 0 (va_A (wl 16 ad (g2 cy ad z0)) sz) := by
  refine Met.ofW (cc := c_M_unknown) (maxL := 4) (ret := (some .int)) (by decide) rfl ?_
  intro p e s m args below meth c s₁ B hml hv
  obtain ⟨rfl, hsz, hP, hK, hN, hD0⟩ := hv
  have hx := B.exec
  have hb := B.bytes
  have hr := B.returns
  have hts := atoms_spec (ws := (Cond.code y_M_unknown c_M_unknown 4 (some .int) :: gt_ws)) B.pre
  have ht : ∀ w ∈ gt_ws, w.before _ s = true := fun w h => hts w (List.mem_cons_of_mem _ h)
  have hown : s.vm.findClass RQ_M = some m.cls := findClass_of_methodNamed B.named
  have hlocks := B.notSynchronized
  subst hsz
  have hD1 := hD0.self (sz := s.heap.size)
  obtain ⟨A, hAe⟩ : ∃ A, A = va_A (wl 16 ad (g2 cy ad z0)) s.heap.size := ⟨_, rfl⟩
  rw [← hAe] at hD1
  have hD : ∀ g, va_D A (wl 16 ad g) := fun _ => wl_D hD1
  have hA : ∀ q : Nat, s.heap.size ≤ q → A q := fun q h => by rw [hAe]; exact Or.inr h
  have hS : va_S A s.heap s.heap [] := va_S.rf
  have hl := lv_entry ([.ref (ad 0), .int p1, .int p2]) (n := 4) (Nat.le_of_ble_eq_true rfl)
  rw [lg_entry_eq]
  generalize (lg_sl ([.ref (ad 0), .int p1, .int p2]) ++ List.replicate (4 - (lg_sl ([.ref (ad 0), .int p1, .int p2])).length) Slot.unset).toArray = ls at hl ⊢
  have hl : lv_has ls 4 [(0, .ref (ad 0)), (1, .int p1), (2, .int p2)] := hl
  have L_42 : ∀ (n : Nat) (z : gS) (x1 : Int32) (x2 : Int32) (x3 : Int32) (ee : Nat) (y3 : Int32) (z9 : gS), l_M_unknown_42 n z x1 x2 x3 = some (ee, y3, z9) → ∀ (H : Heap) (locs : List Loc) (ls : Array Slot), va_P D cl_all (wl 16 ad (g2 cy ad z)) H → va_S A s.heap H locs → lv_has ls 4 [(0, .ref (ad 0)), (1, .int x1), (2, .int x2), (3, .int x3)] →
      (ee = 0 → ∀ (H : Heap) (locs : List Loc) (ls : Array Slot), va_P D cl_all (wl 16 ad (g2 cy ad z9)) H → va_S A s.heap H locs → lv_has ls 4 [(3, .int y3)] → W p l e (headSpec (Cond.code y_M_unknown c_M_unknown 4 (some .int) :: gt_ws) ({ frames := 4, cells := 0, slots := 0, locals := 180 })).room s m ([.ref (ad 0), .int p1, .int p2]).toArray below meth c H locs 0 0 (MQ below (sQi D cl_all 16 ad (g2 cy ad z0) s.heap.size r (g2 cy ad zz)) ([.ref (ad 0), .int p1, .int p2]).toArray s 0 0 (va_A (wl 16 ad (g2 cy ad z0)) s.heap.size)) (F0 m 64 ls [])) →
      (ee = 1 → ∀ (H : Heap) (locs : List Loc) (ls : Array Slot), va_P D cl_all (wl 16 ad (g2 cy ad z9)) H → va_S A s.heap H locs → lv_has ls 4 [] → W p l e (headSpec (Cond.code y_M_unknown c_M_unknown 4 (some .int) :: gt_ws) ({ frames := 4, cells := 0, slots := 0, locals := 180 })).room s m ([.ref (ad 0), .int p1, .int p2]).toArray below meth c H locs 0 0 (MQ below (sQi D cl_all 16 ad (g2 cy ad z0) s.heap.size r (g2 cy ad zz)) ([.ref (ad 0), .int p1, .int p2]).toArray s 0 0 (va_A (wl 16 ad (g2 cy ad z0)) s.heap.size)) (F0 m 72 ls [])) →
      W p l e (headSpec (Cond.code y_M_unknown c_M_unknown 4 (some .int) :: gt_ws) ({ frames := 4, cells := 0, slots := 0, locals := 180 })).room s m ([.ref (ad 0), .int p1, .int p2]).toArray below meth c H locs 0 0 (MQ below (sQi D cl_all 16 ad (g2 cy ad z0) s.heap.size r (g2 cy ad zz)) ([.ref (ad 0), .int p1, .int p2]).toArray s 0 0 (va_A (wl 16 ad (g2 cy ad z0)) s.heap.size)) (F0 m 42 ls []) := by
    intro n
    induction n with
    | zero => intro z x1 x2 x3 ee y3 z9 hf; rw [l_M_unknown_42] at hf; cases hf
    | succ n ih =>
      intro z x1 x2 x3 ee y3 z9 hf H locs ls hP hS hl k_0 k_1
      rw [l_M_unknown_42] at hf
      refine lv_iload_n hx hb d_M_unknown_42 rfl (lv_at hl 3 rfl) ?_
      refine lv_aload_n hx hb d_M_unknown_43 rfl (lv_at hl 0 rfl) ?_
      refine wx_get (v := .int (z.1 3)) (C := RQ_M) (T := FQ_M) (N := 21) hx hb ht IQ_M hown hK hP 0 (by decide) (e_g2_0 cy ad _) rfl 15 (by decide) (ht _ kw_543) (fun _ h9 => h9) rfl d_M_unknown_44 ?_
      refine lv_icmp_ge (tgt := 72) hx hb d_M_unknown_47 (by decide) (fun c1 => ?_) (fun c1 => ?_)
      ·
        have hf := op_pos hf c1
        cases hf
        exact k_1 rfl _ _ _ hP hS (lv_sub hl [] rfl)
      ·
        have hf := op_neg hf c1
        refine lv_aload_n hx hb d_M_unknown_50 rfl (lv_at hl 0 rfl) ?_
        refine wx_get (v := .ref (ad 12)) (C := RQ_M) (T := FQ_M) (N := 21) hx hb ht IQ_M hown hK hP 0 (by decide) (e_g2_0 cy ad _) rfl 14 (by decide) (ht _ kw_542) (fun _ h9 => h9) rfl d_M_unknown_51 ?_
        refine lv_iload_n hx hb d_M_unknown_54 rfl (lv_at hl 3 rfl) ?_
        obtain ⟨h2, hf⟩ := op_chk hf
        refine wx_iald hx hb hK hP 12 (by decide) (by decide) 10 rfl h2 d_M_unknown_55 ?_
        refine lv_iload_n hx hb d_M_unknown_56 rfl (lv_at hl 1 rfl) ?_
        refine lv_iconst (v := 2) hx hb d_M_unknown_57 (by decide) ?_
        refine lv_imul hx hb d_M_unknown_58 ?_
        refine lv_iload_n hx hb d_M_unknown_59 rfl (lv_at hl 2 rfl) ?_
        refine lv_iadd hx hb d_M_unknown_60 ?_
        refine lv_icmp_ne (tgt := 66) hx hb d_M_unknown_61 (by decide) (fun c3 => ?_) (fun c3 => ?_)
        ·
          have hf := op_neg hf c3
          refine lv_iinc (v := x3 + (1 : Int32)) (lv' := [(3, .int (x3 + (1 : Int32))), (0, .ref (ad 0)), (1, .int x1), (2, .int x2)]) hx hb d_M_unknown_66 hl (k := 3) rfl rfl (by decide) rfl (fun ls hl => ?_)
          refine lv_goto (tgt := 42) hx hb d_M_unknown_69 (by decide) ?_
          exact ih _ _ _ _ _ _ _ hf _ _ _ hP hS (lv_sub hl [1, 2, 3, 0] rfl) k_0 k_1
        ·
          have hf := op_pos hf c3
          cases hf
          exact k_0 rfl _ _ _ hP hS (lv_sub hl [3] rfl)
  unfold f_M_unknown at hf
  refine lv_aload_n hx hb d_M_unknown_0 rfl (lv_at hl 0 rfl) ?_
  refine wx_get (v := .int (z0.1 1)) (C := RQ_M) (T := FQ_M) (N := 21) hx hb ht IQ_M hown hK hP 0 (by decide) (e_g2_0 cy ad _) rfl 11 (by decide) (ht _ kw_539) (fun _ h9 => h9) rfl d_M_unknown_1 ?_
  refine lv_if_eq (tgt := 34) hx hb d_M_unknown_4 (by decide) (fun c4 => ?_) (fun c4 => ?_)
  ·
    have hf := op_pos hf c4
    refine lv_iconst (v := -1) hx hb d_M_unknown_34 (by decide) ?_
    obtain ⟨hv9, rfl⟩ := op_inj hf
    exact wx_iret hx hb hr hlocks hAe hP hS hv9 d_M_unknown_35
  ·
    have hf := op_neg hf c4
    refine lv_aload_n hx hb d_M_unknown_7 rfl (lv_at hl 0 rfl) ?_
    refine lv_iload_n hx hb d_M_unknown_8 rfl (lv_at hl 1 rfl) ?_
    refine lv_iconst (v := 4) hx hb d_M_unknown_9 (by decide) ?_
    obtain ⟨r7, w6, hc5, hf⟩ := op_b2 hf
    refine wx_fi (wx_rV (As := [.int p1, .int (4 : Int32)]) (rest := []) ⟨hx, hb, hml, hown, ht⟩ (m_M_off l D cy ad _ z0 p1 (4 : Int32) _ _ hc5) ⟨callB_of 2 ht (gt_in (fun _ h9 => h9) kw_599) rfl rfl rfl (ht _ kw_52) (ht _ kw_596) q_M_off ⟨Nat.le_of_ble_eq_true rfl, Nat.le_of_ble_eq_true rfl⟩, ht _ kw_598, ht _ kw_24⟩ nwM_ok hN hK hP (hD _) (by decide) (e_g2_0 cy ad _) rfl rfl hl.1 rfl (Nat.le_of_ble_eq_true rfl) d_M_unknown_10 ⟨Nat.zero_le _, Nat.zero_le _⟩) (hD _) hS hA (fun H locs hP hS => ?_)
    refine lv_if_ne (tgt := 34) hx hb d_M_unknown_13 (by decide) (fun c8 => ?_) (fun c8 => ?_)
    ·
      have hf := op_neg hf c8
      refine lv_iconst (v := -1) hx hb d_M_unknown_34 (by decide) ?_
      obtain ⟨hv9, rfl⟩ := op_inj hf
      exact wx_iret hx hb hr hlocks hAe hP hS hv9 d_M_unknown_35
    ·
      have hf := op_pos hf c8
      refine lv_aload_n hx hb d_M_unknown_16 rfl (lv_at hl 0 rfl) ?_
      refine wx_get (v := .ref (ad 1)) (C := RQ_M) (T := FQ_M) (N := 21) hx hb ht IQ_M hown hK hP 0 (by decide) (e_g2_0 cy ad _) rfl 0 (by decide) (ht _ kw_528) (fun _ h9 => h9) rfl d_M_unknown_17 ?_
      refine lv_iload_n hx hb d_M_unknown_20 rfl (lv_at hl 1 rfl) ?_
      obtain ⟨h9, hf⟩ := op_chk hf
      refine wx_zald hx hb hK hP 1 (by decide) (by decide) 5 rfl h9 d_M_unknown_21 ?_
      refine lv_if_eq (tgt := 34) hx hb d_M_unknown_22 (by decide) (fun c10 => ?_) (fun c10 => ?_)
      ·
        have hf := op_pos hf c10
        refine lv_iconst (v := -1) hx hb d_M_unknown_34 (by decide) ?_
        obtain ⟨hv9, rfl⟩ := op_inj hf
        exact wx_iret hx hb hr hlocks hAe hP hS hv9 d_M_unknown_35
      ·
        have hf := op_neg hf c10
        refine lv_aload_n hx hb d_M_unknown_25 rfl (lv_at hl 0 rfl) ?_
        refine lv_iload_n hx hb d_M_unknown_26 rfl (lv_at hl 2 rfl) ?_
        refine lv_iconst (v := 1) hx hb d_M_unknown_27 (by decide) ?_
        obtain ⟨r13, w12, hc11, hf⟩ := op_b2 hf
        refine wx_fi (wx_rV (As := [.int p2, .int (1 : Int32)]) (rest := []) ⟨hx, hb, hml, hown, ht⟩ (m_M_off l D cy ad _ w6 p2 (1 : Int32) _ _ hc11) ⟨callB_of 2 ht (gt_in (fun _ h9 => h9) kw_599) rfl rfl rfl (ht _ kw_52) (ht _ kw_596) q_M_off ⟨Nat.le_of_ble_eq_true rfl, Nat.le_of_ble_eq_true rfl⟩, ht _ kw_598, ht _ kw_24⟩ nwM_ok hN hK hP (hD _) (by decide) (e_g2_0 cy ad _) rfl rfl hl.1 rfl (Nat.le_of_ble_eq_true rfl) d_M_unknown_28 ⟨Nat.zero_le _, Nat.zero_le _⟩) (hD _) hS hA (fun H locs hP hS => ?_)
        refine lv_if_eq (tgt := 36) hx hb d_M_unknown_31 (by decide) (fun c14 => ?_) (fun c14 => ?_)
        ·
          have hf := op_pos hf c14
          refine lv_aload_n hx hb d_M_unknown_36 rfl (lv_at hl 0 rfl) ?_
          obtain ⟨w16, hc15, hf⟩ := op_b1 hf
          refine wx_fv (wx_rV (As := []) (rest := []) ⟨hx, hb, hml, hown, ht⟩ (m_M_makeOrder l D cy ad _ w12 _ hc15) ⟨callB_of 0 ht (gt_in (fun _ h9 => h9) kw_627) rfl rfl rfl (ht _ kw_52) (ht _ kw_624) q_M_makeOrder ⟨Nat.le_of_ble_eq_true rfl, Nat.le_of_ble_eq_true rfl⟩, ht _ kw_626, ht _ kw_25⟩ nwM_ok hN hK hP (hD _) (by decide) (e_g2_0 cy ad _) rfl rfl hl.1 rfl (Nat.le_of_ble_eq_true rfl) d_M_unknown_37 ⟨Nat.zero_le _, Nat.zero_le _⟩) (hD _) hS hA (fun H locs hP hS => ?_)
          refine lv_iconst (v := 0) hx hb d_M_unknown_40 (by decide) ?_
          refine lv_istore_n (lv' := [(3, .int (0 : Int32)), (0, .ref (ad 0)), (1, .int p1), (2, .int p2)]) hx hb d_M_unknown_41 rfl hl (by decide) rfl (fun ls hl => ?_)
          obtain ⟨e17, v18, w19, hc20, hf⟩ := op_b3 hf
          refine L_42 _ _ _ _ _ _ _ _ hc20 _ _ _ hP hS (lv_sub hl [1, 2, 3, 0] rfl) (fun he_e17 H locs ls hP hS hl => ?_) (fun he_e17 H locs ls hP hS hl => ?_)
          ·
            have hf := op_pos hf he_e17
            refine lv_iload_n hx hb d_M_unknown_64 rfl (lv_at hl 0 rfl) ?_
            obtain ⟨hv9, rfl⟩ := op_inj hf
            exact wx_iret hx hb hr hlocks hAe hP hS hv9 d_M_unknown_65
          ·
            have hf := op_neg hf (by omega)
            refine lv_bipush (v := -2) hx hb d_M_unknown_72 (by decide) ?_
            obtain ⟨hv9, rfl⟩ := op_inj hf
            exact wx_iret hx hb hr hlocks hAe hP hS hv9 d_M_unknown_74
        ·
          have hf := op_neg hf c14
          refine lv_iconst (v := -1) hx hb d_M_unknown_34 (by decide) ?_
          obtain ⟨hv9, rfl⟩ := op_inj hf
          exact wx_iret hx hb hr hlocks hAe hP hS hv9 d_M_unknown_35

def l_M_profile_21 : Nat → gS → Int32 → Int32 → Int32 → Int32 → Option (Int32 × Int32 × Int32 × gS)
  | 0, _, _, _, _, _ => none
  | n + 1, z, x1, x2, x3, x4 =>
    if x4 < 0 then (some (x1, x2, x3, z))
     else (if x2 < 0 ∨ 10 ≤ x2.toNatClampNeg then none else
     if x4 < 0 ∨ 10 ≤ x4.toNatClampNeg then none else
     if (((z.2.2.1 12 x2.toNatClampNeg) * (10 : Int32)) + (z.2.2.1 12 x4.toNatClampNeg)) < 0 ∨ 100 ≤ (((z.2.2.1 12 x2.toNatClampNeg) * (10 : Int32)) + (z.2.2.1 12 x4.toNatClampNeg)).toNatClampNeg then none else
     if (z.2.2.1 13 (((z.2.2.1 12 x2.toNatClampNeg) * (10 : Int32)) + (z.2.2.1 12 x4.toNatClampNeg)).toNatClampNeg) = 0 then (l_M_profile_21 n z x1 x2 x3 (x4 + (-1 : Int32)))
     else (l_M_profile_21 n z x1 x2 x4 (x4 + (-1 : Int32))))
def l_M_profile_8 : Nat → gS → Int32 → Int32 → Option (Int32 × gS)
  | 0, _, _, _ => none
  | n + 1, z, x1, x2 =>
    if (z.1 3) ≤ x2 then (some (x1, z))
     else (bd4 (l_M_profile_21 200 z x1 x2 x2 x2) (fun v7 v8 v9 w10 =>
     (some ((v7 + (v8 - v9)) : Int32)).bind (fun v12 =>
     l_M_profile_8 n w10 v12 (v8 + (1 : Int32)))))
def f_M_profile (z0 : gS) : Option (Int32 × gS) :=
 bd1 (f_M_makeMatrix z0) (fun w15 =>
 bd2 (l_M_profile_8 200 w15 (0 : Int32) (0 : Int32)) (fun v16 w17 =>
 some (v16, w17)))
set_option maxHeartbeats 4000000 in
set_option maxRecDepth 100000 in
theorem m_M_profile (l : Launch) (D : va_G) (cy : Nat → ClassId) (ad : Nat → Nat) (sz : Nat) (z0 : gS) (r : Int32) (zz : gS) (hf : f_M_profile z0 = some (r, zz)) : Met l y_M_profile (Cond.code y_M_profile c_M_profile 5 (some .int) :: gt_ws) ({ frames := 3, cells := 0, slots := 0, locals := 135 }) (sPc D cl_all (gTy cy) nwM 16 ad (g2 cy ad z0) sz [.ref (ad 0)]) (sQi D cl_all 16 ad (g2 cy ad z0) sz r (g2 cy ad zz)) 0 0 (va_A (wl 16 ad (g2 cy ad z0)) sz) := by
  refine Met.ofW (cc := c_M_profile) (maxL := 5) (ret := (some .int)) (by decide) rfl ?_
  intro p e s m args below meth c s₁ B hml hv
  obtain ⟨rfl, hsz, hP, hK, hN, hD0⟩ := hv
  have hx := B.exec
  have hb := B.bytes
  have hr := B.returns
  have hts := atoms_spec (ws := (Cond.code y_M_profile c_M_profile 5 (some .int) :: gt_ws)) B.pre
  have ht : ∀ w ∈ gt_ws, w.before _ s = true := fun w h => hts w (List.mem_cons_of_mem _ h)
  have hown : s.vm.findClass RQ_M = some m.cls := findClass_of_methodNamed B.named
  have hlocks := B.notSynchronized
  subst hsz
  have hD1 := hD0.self (sz := s.heap.size)
  obtain ⟨A, hAe⟩ : ∃ A, A = va_A (wl 16 ad (g2 cy ad z0)) s.heap.size := ⟨_, rfl⟩
  rw [← hAe] at hD1
  have hD : ∀ g, va_D A (wl 16 ad g) := fun _ => wl_D hD1
  have hA : ∀ q : Nat, s.heap.size ≤ q → A q := fun q h => by rw [hAe]; exact Or.inr h
  have hS : va_S A s.heap s.heap [] := va_S.rf
  have hl := lv_entry ([.ref (ad 0)]) (n := 5) (Nat.le_of_ble_eq_true rfl)
  rw [lg_entry_eq]
  generalize (lg_sl ([.ref (ad 0)]) ++ List.replicate (5 - (lg_sl ([.ref (ad 0)])).length) Slot.unset).toArray = ls at hl ⊢
  have hl : lv_has ls 5 [(0, .ref (ad 0))] := hl
  have L_21 : ∀ (n : Nat) (z : gS) (x1 : Int32) (x2 : Int32) (x3 : Int32) (x4 : Int32) (y1 : Int32) (y2 : Int32) (y3 : Int32) (z9 : gS), l_M_profile_21 n z x1 x2 x3 x4 = some (y1, y2, y3, z9) → ∀ (H : Heap) (locs : List Loc) (ls : Array Slot), va_P D cl_all (wl 16 ad (g2 cy ad z)) H → va_S A s.heap H locs → lv_has ls 5 [(0, .ref (ad 0)), (1, .int x1), (2, .int x2), (3, .int x3), (4, .int x4)] →
      (∀ (H : Heap) (locs : List Loc) (ls : Array Slot), va_P D cl_all (wl 16 ad (g2 cy ad z9)) H → va_S A s.heap H locs → lv_has ls 5 [(0, .ref (ad 0)), (1, .int y1), (2, .int y2), (3, .int y3)] → W p l e (headSpec (Cond.code y_M_profile c_M_profile 5 (some .int) :: gt_ws) ({ frames := 3, cells := 0, slots := 0, locals := 135 })).room s m ([.ref (ad 0)]).toArray below meth c H locs 0 0 (MQ below (sQi D cl_all 16 ad (g2 cy ad z0) s.heap.size r (g2 cy ad zz)) ([.ref (ad 0)]).toArray s 0 0 (va_A (wl 16 ad (g2 cy ad z0)) s.heap.size)) (F0 m 60 ls [])) →
      W p l e (headSpec (Cond.code y_M_profile c_M_profile 5 (some .int) :: gt_ws) ({ frames := 3, cells := 0, slots := 0, locals := 135 })).room s m ([.ref (ad 0)]).toArray below meth c H locs 0 0 (MQ below (sQi D cl_all 16 ad (g2 cy ad z0) s.heap.size r (g2 cy ad zz)) ([.ref (ad 0)]).toArray s 0 0 (va_A (wl 16 ad (g2 cy ad z0)) s.heap.size)) (F0 m 21 ls []) := by
    intro n
    induction n with
    | zero => intro z x1 x2 x3 x4 y1 y2 y3 z9 hf; rw [l_M_profile_21] at hf; cases hf
    | succ n ih =>
      intro z x1 x2 x3 x4 y1 y2 y3 z9 hf H locs ls hP hS hl k_0
      rw [l_M_profile_21] at hf
      refine lv_iload hx hb d_M_profile_21 (lv_at hl 4 rfl) ?_
      refine lv_if_lt (tgt := 60) hx hb d_M_profile_23 (by decide) (fun c1 => ?_) (fun c1 => ?_)
      ·
        have hf := op_pos hf c1
        cases hf
        exact k_0 _ _ _ hP hS (lv_sub hl [0, 1, 2, 3] rfl)
      ·
        have hf := op_neg hf c1
        refine lv_aload_n hx hb d_M_profile_26 rfl (lv_at hl 0 rfl) ?_
        refine wx_get (v := .ref (ad 13)) (C := RQ_M) (T := FQ_M) (N := 21) hx hb ht IQ_M hown hK hP 0 (by decide) (e_g2_0 cy ad _) rfl 16 (by decide) (ht _ kw_544) (fun _ h9 => h9) rfl d_M_profile_27 ?_
        refine lv_aload_n hx hb d_M_profile_30 rfl (lv_at hl 0 rfl) ?_
        refine wx_get (v := .ref (ad 12)) (C := RQ_M) (T := FQ_M) (N := 21) hx hb ht IQ_M hown hK hP 0 (by decide) (e_g2_0 cy ad _) rfl 14 (by decide) (ht _ kw_542) (fun _ h9 => h9) rfl d_M_profile_31 ?_
        refine lv_iload_n hx hb d_M_profile_34 rfl (lv_at hl 2 rfl) ?_
        obtain ⟨h2, hf⟩ := op_chk hf
        refine wx_iald hx hb hK hP 12 (by decide) (by decide) 10 rfl h2 d_M_profile_35 ?_
        refine lv_bipush (v := 10) hx hb d_M_profile_36 (by decide) ?_
        refine lv_imul hx hb d_M_profile_38 ?_
        refine lv_aload_n hx hb d_M_profile_39 rfl (lv_at hl 0 rfl) ?_
        refine wx_get (v := .ref (ad 12)) (C := RQ_M) (T := FQ_M) (N := 21) hx hb ht IQ_M hown hK hP 0 (by decide) (e_g2_0 cy ad _) rfl 14 (by decide) (ht _ kw_542) (fun _ h9 => h9) rfl d_M_profile_40 ?_
        refine lv_iload hx hb d_M_profile_43 (lv_at hl 4 rfl) ?_
        obtain ⟨h3, hf⟩ := op_chk hf
        refine wx_iald hx hb hK hP 12 (by decide) (by decide) 10 rfl h3 d_M_profile_45 ?_
        refine lv_iadd hx hb d_M_profile_46 ?_
        obtain ⟨h4, hf⟩ := op_chk hf
        refine wx_iald hx hb hK hP 13 (by decide) (by decide) 100 rfl h4 d_M_profile_47 ?_
        refine lv_if_eq (tgt := 54) hx hb d_M_profile_48 (by decide) (fun c5 => ?_) (fun c5 => ?_)
        ·
          have hf := op_pos hf c5
          refine lv_iinc (v := x4 + (-1 : Int32)) (lv' := [(4, .int (x4 + (-1 : Int32))), (0, .ref (ad 0)), (1, .int x1), (2, .int x2), (3, .int x3)]) hx hb d_M_profile_54 hl (k := 4) rfl rfl (by decide) rfl (fun ls hl => ?_)
          refine lv_goto (tgt := 21) hx hb d_M_profile_57 (by decide) ?_
          exact ih _ _ _ _ _ _ _ _ _ hf _ _ _ hP hS (lv_sub hl [1, 2, 3, 4, 0] rfl) k_0
        ·
          have hf := op_neg hf c5
          refine lv_iload hx hb d_M_profile_51 (lv_at hl 4 rfl) ?_
          refine lv_istore_n (lv' := [(3, .int x4), (0, .ref (ad 0)), (1, .int x1), (2, .int x2), (4, .int x4)]) hx hb d_M_profile_53 rfl hl (by decide) rfl (fun ls hl => ?_)
          refine lv_iinc (v := x4 + (-1 : Int32)) (lv' := [(4, .int (x4 + (-1 : Int32))), (3, .int x4), (0, .ref (ad 0)), (1, .int x1), (2, .int x2)]) hx hb d_M_profile_54 hl (k := 4) rfl rfl (by decide) rfl (fun ls hl => ?_)
          refine lv_goto (tgt := 21) hx hb d_M_profile_57 (by decide) ?_
          exact ih _ _ _ _ _ _ _ _ _ hf _ _ _ hP hS (lv_sub hl [2, 3, 4, 1, 0] rfl) k_0
  have L_8 : ∀ (n : Nat) (z : gS) (x1 : Int32) (x2 : Int32) (y1 : Int32) (z9 : gS), l_M_profile_8 n z x1 x2 = some (y1, z9) → ∀ (H : Heap) (locs : List Loc) (ls : Array Slot), va_P D cl_all (wl 16 ad (g2 cy ad z)) H → va_S A s.heap H locs → lv_has ls 5 [(0, .ref (ad 0)), (1, .int x1), (2, .int x2)] →
      (∀ (H : Heap) (locs : List Loc) (ls : Array Slot), va_P D cl_all (wl 16 ad (g2 cy ad z9)) H → va_S A s.heap H locs → lv_has ls 5 [(1, .int y1)] → W p l e (headSpec (Cond.code y_M_profile c_M_profile 5 (some .int) :: gt_ws) ({ frames := 3, cells := 0, slots := 0, locals := 135 })).room s m ([.ref (ad 0)]).toArray below meth c H locs 0 0 (MQ below (sQi D cl_all 16 ad (g2 cy ad z0) s.heap.size r (g2 cy ad zz)) ([.ref (ad 0)]).toArray s 0 0 (va_A (wl 16 ad (g2 cy ad z0)) s.heap.size)) (F0 m 72 ls [])) →
      W p l e (headSpec (Cond.code y_M_profile c_M_profile 5 (some .int) :: gt_ws) ({ frames := 3, cells := 0, slots := 0, locals := 135 })).room s m ([.ref (ad 0)]).toArray below meth c H locs 0 0 (MQ below (sQi D cl_all 16 ad (g2 cy ad z0) s.heap.size r (g2 cy ad zz)) ([.ref (ad 0)]).toArray s 0 0 (va_A (wl 16 ad (g2 cy ad z0)) s.heap.size)) (F0 m 8 ls []) := by
    intro n
    induction n with
    | zero => intro z x1 x2 y1 z9 hf; rw [l_M_profile_8] at hf; cases hf
    | succ n ih =>
      intro z x1 x2 y1 z9 hf H locs ls hP hS hl k_0
      rw [l_M_profile_8] at hf
      refine lv_iload_n hx hb d_M_profile_8 rfl (lv_at hl 2 rfl) ?_
      refine lv_aload_n hx hb d_M_profile_9 rfl (lv_at hl 0 rfl) ?_
      refine wx_get (v := .int (z.1 3)) (C := RQ_M) (T := FQ_M) (N := 21) hx hb ht IQ_M hown hK hP 0 (by decide) (e_g2_0 cy ad _) rfl 15 (by decide) (ht _ kw_543) (fun _ h9 => h9) rfl d_M_profile_10 ?_
      refine lv_icmp_ge (tgt := 72) hx hb d_M_profile_13 (by decide) (fun c6 => ?_) (fun c6 => ?_)
      ·
        have hf := op_pos hf c6
        cases hf
        exact k_0 _ _ _ hP hS (lv_sub hl [1] rfl)
      ·
        have hf := op_neg hf c6
        refine lv_iload_n hx hb d_M_profile_16 rfl (lv_at hl 2 rfl) ?_
        refine lv_istore_n (lv' := [(3, .int x2), (0, .ref (ad 0)), (1, .int x1), (2, .int x2)]) hx hb d_M_profile_17 rfl hl (by decide) rfl (fun ls hl => ?_)
        refine lv_iload_n hx hb d_M_profile_18 rfl (lv_at hl 3 rfl) ?_
        refine lv_istore (lv' := [(4, .int x2), (3, .int x2), (0, .ref (ad 0)), (1, .int x1), (2, .int x2)]) hx hb d_M_profile_19 hl (by decide) rfl (fun ls hl => ?_)
        obtain ⟨v7, v8, v9, w10, hc11, hf⟩ := op_b4 hf
        refine L_21 _ _ _ _ _ _ _ _ _ _ hc11 _ _ _ hP hS (lv_sub hl [2, 3, 4, 1, 0] rfl) (fun H locs ls hP hS hl => ?_)
        refine lv_iload_n hx hb d_M_profile_60 rfl (lv_at hl 1 rfl) ?_
        refine lv_iload_n hx hb d_M_profile_61 rfl (lv_at hl 2 rfl) ?_
        refine lv_iload_n hx hb d_M_profile_62 rfl (lv_at hl 3 rfl) ?_
        refine lv_isub hx hb d_M_profile_63 ?_
        refine lv_iadd hx hb d_M_profile_64 ?_
        obtain ⟨v12, h13, hf⟩ := op_let hf
        refine sw_i h13 ?_
        refine lv_istore_n (lv' := [(1, .int v12), (0, .ref (ad 0)), (2, .int v8), (3, .int v9)]) hx hb d_M_profile_65 rfl hl (by decide) rfl (fun ls hl => ?_)
        refine lv_iinc (v := v8 + (1 : Int32)) (lv' := [(2, .int (v8 + (1 : Int32))), (1, .int v12), (0, .ref (ad 0)), (3, .int v9)]) hx hb d_M_profile_66 hl (k := 2) rfl rfl (by decide) rfl (fun ls hl => ?_)
        refine lv_goto (tgt := 8) hx hb d_M_profile_69 (by decide) ?_
        exact ih _ _ _ _ _ hf _ _ _ hP hS (lv_sub hl [2, 1, 0] rfl) k_0
  unfold f_M_profile at hf
  refine lv_aload_n hx hb d_M_profile_0 rfl (lv_at hl 0 rfl) ?_
  obtain ⟨w15, hc14, hf⟩ := op_b1 hf
  refine wx_fv (wx_rV (As := []) (rest := []) ⟨hx, hb, hml, hown, ht⟩ (m_M_makeMatrix l D cy ad _ z0 _ hc14) ⟨callB_of 0 ht (gt_in (fun _ h9 => h9) kw_655) rfl rfl rfl (ht _ kw_52) (ht _ kw_652) q_M_makeMatrix ⟨Nat.le_of_ble_eq_true rfl, Nat.le_of_ble_eq_true rfl⟩, ht _ kw_654, ht _ kw_32⟩ nwM_ok hN hK hP (hD _) (by decide) (e_g2_0 cy ad _) rfl rfl hl.1 rfl (Nat.le_of_ble_eq_true rfl) d_M_profile_1 ⟨Nat.zero_le _, Nat.zero_le _⟩) (hD _) hS hA (fun H locs hP hS => ?_)
  refine lv_iconst (v := 0) hx hb d_M_profile_4 (by decide) ?_
  refine lv_istore_n (lv' := [(1, .int (0 : Int32)), (0, .ref (ad 0))]) hx hb d_M_profile_5 rfl hl (by decide) rfl (fun ls hl => ?_)
  refine lv_iconst (v := 0) hx hb d_M_profile_6 (by decide) ?_
  refine lv_istore_n (lv' := [(2, .int (0 : Int32)), (1, .int (0 : Int32)), (0, .ref (ad 0))]) hx hb d_M_profile_7 rfl hl (by decide) rfl (fun ls hl => ?_)
  obtain ⟨v16, w17, hc18, hf⟩ := op_b2 hf
  refine L_8 _ _ _ _ _ _ hc18 _ _ _ hP hS (lv_sub hl [2, 1, 0] rfl) (fun H locs ls hP hS hl => ?_)
  refine lv_iload_n hx hb d_M_profile_72 rfl (lv_at hl 0 rfl) ?_
  obtain ⟨hv9, rfl⟩ := op_inj hf
  exact wx_iret hx hb hr hlocks hAe hP hS hv9 d_M_profile_73

def l_M_count_47 : Nat → gS → Int32 → Int32 → Option (Int32 × gS)
  | 0, _, _, _ => none
  | n + 1, z, x2, x3 =>
    if (5 : Int32) ≤ x3 then (some (x2, z))
     else (if x3 < 0 ∨ 5 ≤ x3.toNatClampNeg then none else
     if (z.2.2.1 1 x3.toNatClampNeg) = 0 then (l_M_count_47 n z x2 (x3 + (1 : Int32)))
     else (l_M_count_47 n z (x2 + (1 : Int32)) (x3 + (1 : Int32))))
def f_M_count (z0 : gS) (p1 : Int32) : Option (Int32 × gS) :=
 bd2 (f_M_off z0 p1 (4 : Int32)) (fun r6 w5 =>
 if r6 = 0 then (if p1 = (1 : Int32) then (some ((w5.1 0), w5))
 else (if p1 = (2 : Int32) then (if (w5.1 1) = 0 then (some ((0 : Int32), w5))
 else (some ((1 : Int32), w5)))
 else (if p1 = 0 then (bd2 (l_M_count_47 200 w5 (0 : Int32) (0 : Int32)) (fun v18 w19 =>
 some (v18, w19)))
 else (if (w5.1 1) = 0 then (some ((0 : Int32), w5))
 else (bd1 (f_M_makeOrder w5) (fun w13 =>
 if p1 = (3 : Int32) then (some ((w13.1 3), w13))
 else (bd2 (f_M_profile w13) (fun r17 w16 =>
 some (r17, w16)))))))))
 else (some ((-1 : Int32), w5)))
set_option maxHeartbeats 4000000 in
set_option maxRecDepth 100000 in
theorem m_M_count (l : Launch) (D : va_G) (cy : Nat → ClassId) (ad : Nat → Nat) (sz : Nat) (z0 : gS) (p1 : Int32) (r : Int32) (zz : gS) (hf : f_M_count z0 p1 = some (r, zz)) : Met l y_M_count (Cond.code y_M_count c_M_count 4 (some .int) :: gt_ws) ({ frames := 4, cells := 0, slots := 0, locals := 180 }) (sPc D cl_all (gTy cy) nwM 16 ad (g2 cy ad z0) sz [.ref (ad 0), .int p1]) (sQi D cl_all 16 ad (g2 cy ad z0) sz r (g2 cy ad zz)) 0 0 (va_A (wl 16 ad (g2 cy ad z0)) sz) := by
  refine Met.ofW (cc := c_M_count) (maxL := 4) (ret := (some .int)) (by decide) rfl ?_
  intro p e s m args below meth c s₁ B hml hv
  obtain ⟨rfl, hsz, hP, hK, hN, hD0⟩ := hv
  have hx := B.exec
  have hb := B.bytes
  have hr := B.returns
  have hts := atoms_spec (ws := (Cond.code y_M_count c_M_count 4 (some .int) :: gt_ws)) B.pre
  have ht : ∀ w ∈ gt_ws, w.before _ s = true := fun w h => hts w (List.mem_cons_of_mem _ h)
  have hown : s.vm.findClass RQ_M = some m.cls := findClass_of_methodNamed B.named
  have hlocks := B.notSynchronized
  subst hsz
  have hD1 := hD0.self (sz := s.heap.size)
  obtain ⟨A, hAe⟩ : ∃ A, A = va_A (wl 16 ad (g2 cy ad z0)) s.heap.size := ⟨_, rfl⟩
  rw [← hAe] at hD1
  have hD : ∀ g, va_D A (wl 16 ad g) := fun _ => wl_D hD1
  have hA : ∀ q : Nat, s.heap.size ≤ q → A q := fun q h => by rw [hAe]; exact Or.inr h
  have hS : va_S A s.heap s.heap [] := va_S.rf
  have hl := lv_entry ([.ref (ad 0), .int p1]) (n := 4) (Nat.le_of_ble_eq_true rfl)
  rw [lg_entry_eq]
  generalize (lg_sl ([.ref (ad 0), .int p1]) ++ List.replicate (4 - (lg_sl ([.ref (ad 0), .int p1])).length) Slot.unset).toArray = ls at hl ⊢
  have hl : lv_has ls 4 [(0, .ref (ad 0)), (1, .int p1)] := hl
  have L_47 : ∀ (n : Nat) (z : gS) (x2 : Int32) (x3 : Int32) (y2 : Int32) (z9 : gS), l_M_count_47 n z x2 x3 = some (y2, z9) → ∀ (H : Heap) (locs : List Loc) (ls : Array Slot), va_P D cl_all (wl 16 ad (g2 cy ad z)) H → va_S A s.heap H locs → lv_has ls 4 [(0, .ref (ad 0)), (2, .int x2), (3, .int x3)] →
      (∀ (H : Heap) (locs : List Loc) (ls : Array Slot), va_P D cl_all (wl 16 ad (g2 cy ad z9)) H → va_S A s.heap H locs → lv_has ls 4 [(2, .int y2)] → W p l e (headSpec (Cond.code y_M_count c_M_count 4 (some .int) :: gt_ws) ({ frames := 4, cells := 0, slots := 0, locals := 180 })).room s m ([.ref (ad 0), .int p1]).toArray below meth c H locs 0 0 (MQ below (sQi D cl_all 16 ad (g2 cy ad z0) s.heap.size r (g2 cy ad zz)) ([.ref (ad 0), .int p1]).toArray s 0 0 (va_A (wl 16 ad (g2 cy ad z0)) s.heap.size)) (F0 m 70 ls [])) →
      W p l e (headSpec (Cond.code y_M_count c_M_count 4 (some .int) :: gt_ws) ({ frames := 4, cells := 0, slots := 0, locals := 180 })).room s m ([.ref (ad 0), .int p1]).toArray below meth c H locs 0 0 (MQ below (sQi D cl_all 16 ad (g2 cy ad z0) s.heap.size r (g2 cy ad zz)) ([.ref (ad 0), .int p1]).toArray s 0 0 (va_A (wl 16 ad (g2 cy ad z0)) s.heap.size)) (F0 m 47 ls []) := by
    intro n
    induction n with
    | zero => intro z x2 x3 y2 z9 hf; rw [l_M_count_47] at hf; cases hf
    | succ n ih =>
      intro z x2 x3 y2 z9 hf H locs ls hP hS hl k_0
      rw [l_M_count_47] at hf
      refine lv_iload_n hx hb d_M_count_47 rfl (lv_at hl 2 rfl) ?_
      refine lv_iconst (v := 5) hx hb d_M_count_48 (by decide) ?_
      refine lv_icmp_ge (tgt := 70) hx hb d_M_count_49 (by decide) (fun c1 => ?_) (fun c1 => ?_)
      ·
        have hf := op_pos hf c1
        cases hf
        exact k_0 _ _ _ hP hS (lv_sub hl [1] rfl)
      ·
        have hf := op_neg hf c1
        refine lv_aload_n hx hb d_M_count_52 rfl (lv_at hl 0 rfl) ?_
        refine wx_get (v := .ref (ad 1)) (C := RQ_M) (T := FQ_M) (N := 21) hx hb ht IQ_M hown hK hP 0 (by decide) (e_g2_0 cy ad _) rfl 0 (by decide) (ht _ kw_528) (fun _ h9 => h9) rfl d_M_count_53 ?_
        refine lv_iload_n hx hb d_M_count_56 rfl (lv_at hl 2 rfl) ?_
        obtain ⟨h2, hf⟩ := op_chk hf
        refine wx_zald hx hb hK hP 1 (by decide) (by decide) 5 rfl h2 d_M_count_57 ?_
        refine lv_if_eq (tgt := 64) hx hb d_M_count_58 (by decide) (fun c3 => ?_) (fun c3 => ?_)
        ·
          have hf := op_pos hf c3
          refine lv_iinc (v := x3 + (1 : Int32)) (lv' := [(3, .int (x3 + (1 : Int32))), (0, .ref (ad 0)), (2, .int x2)]) hx hb d_M_count_64 hl (k := 2) rfl rfl (by decide) rfl (fun ls hl => ?_)
          refine lv_goto (tgt := 47) hx hb d_M_count_67 (by decide) ?_
          exact ih _ _ _ _ _ hf _ _ _ hP hS (lv_sub hl [1, 2, 0] rfl) k_0
        ·
          have hf := op_neg hf c3
          refine lv_iinc (v := x2 + (1 : Int32)) (lv' := [(2, .int (x2 + (1 : Int32))), (0, .ref (ad 0)), (3, .int x3)]) hx hb d_M_count_61 hl (k := 1) rfl rfl (by decide) rfl (fun ls hl => ?_)
          refine lv_iinc (v := x3 + (1 : Int32)) (lv' := [(3, .int (x3 + (1 : Int32))), (2, .int (x2 + (1 : Int32))), (0, .ref (ad 0))]) hx hb d_M_count_64 hl (k := 2) rfl rfl (by decide) rfl (fun ls hl => ?_)
          refine lv_goto (tgt := 47) hx hb d_M_count_67 (by decide) ?_
          exact ih _ _ _ _ _ hf _ _ _ hP hS (lv_sub hl [2, 1, 0] rfl) k_0
  unfold f_M_count at hf
  refine lv_aload_n hx hb d_M_count_0 rfl (lv_at hl 0 rfl) ?_
  refine lv_iload_n hx hb d_M_count_1 rfl (lv_at hl 1 rfl) ?_
  refine lv_iconst (v := 4) hx hb d_M_count_2 (by decide) ?_
  obtain ⟨r6, w5, hc4, hf⟩ := op_b2 hf
  refine wx_fi (wx_rV (As := [.int p1, .int (4 : Int32)]) (rest := []) ⟨hx, hb, hml, hown, ht⟩ (m_M_off l D cy ad _ z0 p1 (4 : Int32) _ _ hc4) ⟨callB_of 2 ht (gt_in (fun _ h9 => h9) kw_599) rfl rfl rfl (ht _ kw_52) (ht _ kw_596) q_M_off ⟨Nat.le_of_ble_eq_true rfl, Nat.le_of_ble_eq_true rfl⟩, ht _ kw_598, ht _ kw_24⟩ nwM_ok hN hK hP (hD _) (by decide) (e_g2_0 cy ad _) rfl rfl hl.1 rfl (Nat.le_of_ble_eq_true rfl) d_M_count_3 ⟨Nat.zero_le _, Nat.zero_le _⟩) (hD _) hS hA (fun H locs hP hS => ?_)
  refine lv_if_eq (tgt := 11) hx hb d_M_count_6 (by decide) (fun c7 => ?_) (fun c7 => ?_)
  ·
    have hf := op_pos hf c7
    refine lv_iload_n hx hb d_M_count_11 rfl (lv_at hl 1 rfl) ?_
    refine lv_iconst (v := 1) hx hb d_M_count_12 (by decide) ?_
    refine lv_icmp_ne (tgt := 21) hx hb d_M_count_13 (by decide) (fun c8 => ?_) (fun c8 => ?_)
    ·
      have hf := op_neg hf c8
      refine lv_iload_n hx hb d_M_count_21 rfl (lv_at hl 1 rfl) ?_
      refine lv_iconst (v := 2) hx hb d_M_count_22 (by decide) ?_
      refine lv_icmp_ne (tgt := 39) hx hb d_M_count_23 (by decide) (fun c9 => ?_) (fun c9 => ?_)
      ·
        have hf := op_neg hf c9
        refine lv_iload_n hx hb d_M_count_39 rfl (lv_at hl 1 rfl) ?_
        refine lv_if_ne (tgt := 72) hx hb d_M_count_40 (by decide) (fun c10 => ?_) (fun c10 => ?_)
        ·
          have hf := op_neg hf c10
          refine lv_aload_n hx hb d_M_count_72 rfl (lv_at hl 0 rfl) ?_
          refine wx_get (v := .int (w5.1 1)) (C := RQ_M) (T := FQ_M) (N := 21) hx hb ht IQ_M hown hK hP 0 (by decide) (e_g2_0 cy ad _) rfl 11 (by decide) (ht _ kw_539) (fun _ h9 => h9) rfl d_M_count_73 ?_
          refine lv_if_ne (tgt := 81) hx hb d_M_count_76 (by decide) (fun c11 => ?_) (fun c11 => ?_)
          ·
            have hf := op_neg hf c11
            refine lv_aload_n hx hb d_M_count_81 rfl (lv_at hl 0 rfl) ?_
            obtain ⟨w13, hc12, hf⟩ := op_b1 hf
            refine wx_fv (wx_rV (As := []) (rest := []) ⟨hx, hb, hml, hown, ht⟩ (m_M_makeOrder l D cy ad _ w5 _ hc12) ⟨callB_of 0 ht (gt_in (fun _ h9 => h9) kw_627) rfl rfl rfl (ht _ kw_52) (ht _ kw_624) q_M_makeOrder ⟨Nat.le_of_ble_eq_true rfl, Nat.le_of_ble_eq_true rfl⟩, ht _ kw_626, ht _ kw_25⟩ nwM_ok hN hK hP (hD _) (by decide) (e_g2_0 cy ad _) rfl rfl hl.1 rfl (Nat.le_of_ble_eq_true rfl) d_M_count_82 ⟨Nat.zero_le _, Nat.zero_le _⟩) (hD _) hS hA (fun H locs hP hS => ?_)
            refine lv_iload_n hx hb d_M_count_85 rfl (lv_at hl 1 rfl) ?_
            refine lv_iconst (v := 3) hx hb d_M_count_86 (by decide) ?_
            refine lv_icmp_ne (tgt := 97) hx hb d_M_count_87 (by decide) (fun c14 => ?_) (fun c14 => ?_)
            ·
              have hf := op_neg hf c14
              refine lv_aload_n hx hb d_M_count_97 rfl (lv_at hl 0 rfl) ?_
              obtain ⟨r17, w16, hc15, hf⟩ := op_b2 hf
              refine wx_fi (wx_rV (As := []) (rest := []) ⟨hx, hb, hml, hown, ht⟩ (m_M_profile l D cy ad _ w13 _ _ hc15) ⟨callB_of 0 ht (gt_in (fun _ h9 => h9) kw_749) rfl rfl rfl (ht _ kw_52) (ht _ kw_746) q_M_profile ⟨Nat.le_of_ble_eq_true rfl, Nat.le_of_ble_eq_true rfl⟩, ht _ kw_748, ht _ kw_45⟩ nwM_ok hN hK hP (hD _) (by decide) (e_g2_0 cy ad _) rfl rfl hl.1 rfl (Nat.le_of_ble_eq_true rfl) d_M_count_98 ⟨Nat.zero_le _, Nat.zero_le _⟩) (hD _) hS hA (fun H locs hP hS => ?_)
              obtain ⟨hv9, rfl⟩ := op_inj hf
              exact wx_iret hx hb hr hlocks hAe hP hS hv9 d_M_count_101
            ·
              have hf := op_pos hf c14
              refine lv_aload_n hx hb d_M_count_90 rfl (lv_at hl 0 rfl) ?_
              refine wx_get (v := .int (w13.1 3)) (C := RQ_M) (T := FQ_M) (N := 21) hx hb ht IQ_M hown hK hP 0 (by decide) (e_g2_0 cy ad _) rfl 15 (by decide) (ht _ kw_543) (fun _ h9 => h9) rfl d_M_count_91 ?_
              refine lv_goto (tgt := 101) hx hb d_M_count_94 (by decide) ?_
              obtain ⟨hv9, rfl⟩ := op_inj hf
              exact wx_iret hx hb hr hlocks hAe hP hS hv9 d_M_count_101
          ·
            have hf := op_pos hf c11
            refine lv_iconst (v := 0) hx hb d_M_count_79 (by decide) ?_
            obtain ⟨hv9, rfl⟩ := op_inj hf
            exact wx_iret hx hb hr hlocks hAe hP hS hv9 d_M_count_80
        ·
          have hf := op_pos hf c10
          refine lv_iconst (v := 0) hx hb d_M_count_43 (by decide) ?_
          refine lv_istore_n (lv' := [(2, .int (0 : Int32)), (0, .ref (ad 0)), (1, .int p1)]) hx hb d_M_count_44 rfl hl (by decide) rfl (fun ls hl => ?_)
          refine lv_iconst (v := 0) hx hb d_M_count_45 (by decide) ?_
          refine lv_istore_n (lv' := [(3, .int (0 : Int32)), (2, .int (0 : Int32)), (0, .ref (ad 0)), (1, .int p1)]) hx hb d_M_count_46 rfl hl (by decide) rfl (fun ls hl => ?_)
          obtain ⟨v18, w19, hc20, hf⟩ := op_b2 hf
          refine L_47 _ _ _ _ _ _ hc20 _ _ _ hP hS (lv_sub hl [2, 1, 0] rfl) (fun H locs ls hP hS hl => ?_)
          refine lv_iload_n hx hb d_M_count_70 rfl (lv_at hl 0 rfl) ?_
          obtain ⟨hv9, rfl⟩ := op_inj hf
          exact wx_iret hx hb hr hlocks hAe hP hS hv9 d_M_count_71
      ·
        have hf := op_pos hf c9
        refine lv_aload_n hx hb d_M_count_26 rfl (lv_at hl 0 rfl) ?_
        refine wx_get (v := .int (w5.1 1)) (C := RQ_M) (T := FQ_M) (N := 21) hx hb ht IQ_M hown hK hP 0 (by decide) (e_g2_0 cy ad _) rfl 11 (by decide) (ht _ kw_539) (fun _ h9 => h9) rfl d_M_count_27 ?_
        refine lv_if_eq (tgt := 37) hx hb d_M_count_30 (by decide) (fun c21 => ?_) (fun c21 => ?_)
        ·
          have hf := op_pos hf c21
          refine lv_iconst (v := 0) hx hb d_M_count_37 (by decide) ?_
          obtain ⟨hv9, rfl⟩ := op_inj hf
          exact wx_iret hx hb hr hlocks hAe hP hS hv9 d_M_count_38
        ·
          have hf := op_neg hf c21
          refine lv_iconst (v := 1) hx hb d_M_count_33 (by decide) ?_
          refine lv_goto (tgt := 38) hx hb d_M_count_34 (by decide) ?_
          obtain ⟨hv9, rfl⟩ := op_inj hf
          exact wx_iret hx hb hr hlocks hAe hP hS hv9 d_M_count_38
    ·
      have hf := op_pos hf c8
      refine lv_aload_n hx hb d_M_count_16 rfl (lv_at hl 0 rfl) ?_
      refine wx_get (v := .int (w5.1 0)) (C := RQ_M) (T := FQ_M) (N := 21) hx hb ht IQ_M hown hK hP 0 (by decide) (e_g2_0 cy ad _) rfl 6 (by decide) (ht _ kw_534) (fun _ h9 => h9) rfl d_M_count_17 ?_
      obtain ⟨hv9, rfl⟩ := op_inj hf
      exact wx_iret hx hb hr hlocks hAe hP hS hv9 d_M_count_20
  ·
    have hf := op_neg hf c7
    refine lv_iconst (v := -1) hx hb d_M_count_9 (by decide) ?_
    obtain ⟨hv9, rfl⟩ := op_inj hf
    exact wx_iret hx hb hr hlocks hAe hP hS hv9 d_M_count_10
