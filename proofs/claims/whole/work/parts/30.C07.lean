def f_T_signOf (z0 : gS) (p0 : Int32) : Option (Int32 × gS) :=
 if p0 = 0 then (some ((0 : Int32), z0))
 else (if p0 ≤ 0 then (some ((-1 : Int32), z0))
 else (some ((1 : Int32), z0)))
set_option maxHeartbeats 4000000 in
set_option maxRecDepth 100000 in
theorem m_T_signOf (l : Launch) (D : va_G) (cy : Nat → ClassId) (ad : Nat → Nat) (sz : Nat) (z0 : gS) (p0 : Int32) (r : Int32) (zz : gS) (hf : f_T_signOf z0 p0 = some (r, zz)) : Met l y_T_signOf (Cond.code y_T_signOf c_T_signOf 1 (some .int) :: gt_ws) ({ frames := 0, cells := 0, slots := 0, locals := 0 }) (sPc D cl_all (gTy cy) nwC 52 ad (g1 cy ad z0) sz [.int p0]) (sQi D cl_all 52 ad (g1 cy ad z0) sz r (g1 cy ad zz)) 0 0 (va_A (wl 52 ad (g1 cy ad z0)) sz) := by
  refine Met.ofW (cc := c_T_signOf) (maxL := 1) (ret := (some .int)) (by decide) rfl ?_
  intro p e s m args below meth c s₁ B hml hv
  obtain ⟨rfl, hsz, hP, hK, hN, hD0⟩ := hv
  have hx := B.exec
  have hb := B.bytes
  have hr := B.returns
  have hts := atoms_spec (ws := (Cond.code y_T_signOf c_T_signOf 1 (some .int) :: gt_ws)) B.pre
  have ht : ∀ w ∈ gt_ws, w.before _ s = true := fun w h => hts w (List.mem_cons_of_mem _ h)
  have hown : s.vm.findClass RQ_T = some m.cls := findClass_of_methodNamed B.named
  have hlocks := B.notSynchronized
  subst hsz
  have hD1 := hD0.self (sz := s.heap.size)
  obtain ⟨A, hAe⟩ : ∃ A, A = va_A (wl 52 ad (g1 cy ad z0)) s.heap.size := ⟨_, rfl⟩
  rw [← hAe] at hD1
  have hD : ∀ g, va_D A (wl 52 ad g) := fun _ => wl_D hD1
  have hA : ∀ q : Nat, s.heap.size ≤ q → A q := fun q h => by rw [hAe]; exact Or.inr h
  have hS : va_S A s.heap s.heap [] := va_S.rf
  have hl := lv_entry ([.int p0]) (n := 1) (Nat.le_of_ble_eq_true rfl)
  rw [lg_entry_eq]
  generalize (lg_sl ([.int p0]) ++ List.replicate (1 - (lg_sl ([.int p0])).length) Slot.unset).toArray = ls at hl ⊢
  have hl : lv_has ls 1 [(0, .int p0)] := hl
  unfold f_T_signOf at hf
  refine lv_iload_n hx hb d_T_signOf_0 rfl (lv_at hl 0 rfl) ?_
  refine lv_if_ne (tgt := 6) hx hb d_T_signOf_1 (by decide) (fun c1 => ?_) (fun c1 => ?_)
  ·
    have hf := op_neg hf c1
    refine lv_iload_n hx hb d_T_signOf_6 rfl (lv_at hl 0 rfl) ?_
    refine lv_if_le (tgt := 14) hx hb d_T_signOf_7 (by decide) (fun c2 => ?_) (fun c2 => ?_)
    ·
      have hf := op_pos hf c2
      refine lv_iconst (v := -1) hx hb d_T_signOf_14 (by decide) ?_
      obtain ⟨hv9, rfl⟩ := op_inj hf
      exact wx_iret hx hb hr hlocks hAe hP hS hv9 d_T_signOf_15
    ·
      have hf := op_neg hf c2
      refine lv_iconst (v := 1) hx hb d_T_signOf_10 (by decide) ?_
      refine lv_goto (tgt := 15) hx hb d_T_signOf_11 (by decide) ?_
      obtain ⟨hv9, rfl⟩ := op_inj hf
      exact wx_iret hx hb hr hlocks hAe hP hS hv9 d_T_signOf_15
  ·
    have hf := op_pos hf c1
    refine lv_iconst (v := 0) hx hb d_T_signOf_4 (by decide) ?_
    obtain ⟨hv9, rfl⟩ := op_inj hf
    exact wx_iret hx hb hr hlocks hAe hP hS hv9 d_T_signOf_5

def f_T_stretchBy (z0 : gS) (p1 : Int32) (p2 : Int32) : Option (Int32 × gS) :=
 (some ((p2 / (2 : Int32)) : Int32)).bind (fun v1 =>
 bd2 (f_T_reach z0 p1 (p2 - p2 / (2 : Int32) * (2 : Int32))) (fun r5 w4 =>
 bd2 (f_T_signOf w4 r5) (fun r8 w7 =>
 if p1 < 0 ∨ 10 ≤ p1.toNatClampNeg then none else
 if v1 = (w7.2.2.1 7 p1.toNatClampNeg) then (some (r8, w7))
 else (if p1 < 0 ∨ 10 ≤ p1.toNatClampNeg then none else
 if v1 = (w7.2.2.1 6 p1.toNatClampNeg) then (some ((-r8), w7))
 else (some ((0 : Int32), w7))))))
set_option maxHeartbeats 4000000 in
set_option maxRecDepth 100000 in
theorem m_T_stretchBy (l : Launch) (D : va_G) (cy : Nat → ClassId) (ad : Nat → Nat) (sz : Nat) (z0 : gS) (p1 : Int32) (p2 : Int32) (r : Int32) (zz : gS) (hf : f_T_stretchBy z0 p1 p2 = some (r, zz)) : Met l y_T_stretchBy (Cond.code y_T_stretchBy c_T_stretchBy 5 (some .int) :: gt_ws) ({ frames := 2, cells := 0, slots := 0, locals := 90 }) (sPc D cl_all (gTy cy) nwC 52 ad (g1 cy ad z0) sz [.ref (ad 1), .int p1, .int p2]) (sQi D cl_all 52 ad (g1 cy ad z0) sz r (g1 cy ad zz)) 0 0 (va_A (wl 52 ad (g1 cy ad z0)) sz) := by
  refine Met.ofW (cc := c_T_stretchBy) (maxL := 5) (ret := (some .int)) (by decide) rfl ?_
  intro p e s m args below meth c s₁ B hml hv
  obtain ⟨rfl, hsz, hP, hK, hN, hD0⟩ := hv
  have hx := B.exec
  have hb := B.bytes
  have hr := B.returns
  have hts := atoms_spec (ws := (Cond.code y_T_stretchBy c_T_stretchBy 5 (some .int) :: gt_ws)) B.pre
  have ht : ∀ w ∈ gt_ws, w.before _ s = true := fun w h => hts w (List.mem_cons_of_mem _ h)
  have hown : s.vm.findClass RQ_T = some m.cls := findClass_of_methodNamed B.named
  have hlocks := B.notSynchronized
  subst hsz
  have hD1 := hD0.self (sz := s.heap.size)
  obtain ⟨A, hAe⟩ : ∃ A, A = va_A (wl 52 ad (g1 cy ad z0)) s.heap.size := ⟨_, rfl⟩
  rw [← hAe] at hD1
  have hD : ∀ g, va_D A (wl 52 ad g) := fun _ => wl_D hD1
  have hA : ∀ q : Nat, s.heap.size ≤ q → A q := fun q h => by rw [hAe]; exact Or.inr h
  have hS : va_S A s.heap s.heap [] := va_S.rf
  have hl := lv_entry ([.ref (ad 1), .int p1, .int p2]) (n := 5) (Nat.le_of_ble_eq_true rfl)
  rw [lg_entry_eq]
  generalize (lg_sl ([.ref (ad 1), .int p1, .int p2]) ++ List.replicate (5 - (lg_sl ([.ref (ad 1), .int p1, .int p2])).length) Slot.unset).toArray = ls at hl ⊢
  have hl : lv_has ls 5 [(0, .ref (ad 1)), (1, .int p1), (2, .int p2)] := hl
  unfold f_T_stretchBy at hf
  refine lv_iload_n hx hb d_T_stretchBy_0 rfl (lv_at hl 2 rfl) ?_
  refine lv_iconst (v := 2) hx hb d_T_stretchBy_1 (by decide) ?_
  refine lv_idiv hx hb d_T_stretchBy_2 (by decide) ?_
  obtain ⟨v1, h2, hf⟩ := op_let hf
  refine sw_i h2 ?_
  refine lv_istore_n (lv' := [(3, .int v1), (0, .ref (ad 1)), (1, .int p1), (2, .int p2)]) hx hb d_T_stretchBy_3 rfl hl (by decide) rfl (fun ls hl => ?_)
  refine lv_aload_n hx hb d_T_stretchBy_4 rfl (lv_at hl 1 rfl) ?_
  refine lv_iload_n hx hb d_T_stretchBy_5 rfl (lv_at hl 2 rfl) ?_
  refine lv_iload_n hx hb d_T_stretchBy_6 rfl (lv_at hl 3 rfl) ?_
  refine lv_iconst (v := 2) hx hb d_T_stretchBy_7 (by decide) ?_
  refine lv_irem hx hb d_T_stretchBy_8 (by decide) ?_
  obtain ⟨r5, w4, hc3, hf⟩ := op_b2 hf
  refine wx_fi (wx_rV (As := [.int p1, .int (p2 - p2 / (2 : Int32) * (2 : Int32))]) (rest := []) ⟨hx, hb, hml, hown, ht⟩ (m_T_reach l D cy ad _ z0 p1 (p2 - p2 / (2 : Int32) * (2 : Int32)) _ _ hc3) ⟨callB_of 2 ht (gt_in (fun _ h9 => h9) kw_322) rfl rfl rfl (ht _ kw_48) (ht _ kw_319) q_T_reach ⟨Nat.le_of_ble_eq_true rfl, Nat.le_of_ble_eq_true rfl⟩, ht _ kw_321, ht _ kw_2⟩ nwC_ok hN hK hP (hD _) (by decide) (e_g1_1 cy ad _) rfl rfl hl.1 rfl (Nat.le_of_ble_eq_true rfl) d_T_stretchBy_9 ⟨Nat.zero_le _, Nat.zero_le _⟩) (hD _) hS hA (fun H locs hP hS => ?_)
  obtain ⟨r8, w7, hc6, hf⟩ := op_b2 hf
  refine wx_fi (wx_rS (As := [.int r5]) (rest := []) ⟨hx, hb, hml, hown, ht⟩ (m_T_signOf l D cy ad _ w4 r5 _ _ hc6) ⟨callB_of 1 ht (gt_in (fun _ h9 => h9) kw_389) rfl rfl rfl (ht _ kw_48) (ht _ kw_387) q_T_signOf ⟨Nat.le_of_ble_eq_true rfl, Nat.le_of_ble_eq_true rfl⟩, ht _ kw_388⟩ nwC_ok hN hK hP (hD _) rfl hl.1 rfl (Nat.le_of_ble_eq_true rfl) d_T_stretchBy_12 ⟨Nat.zero_le _, Nat.zero_le _⟩) (hD _) hS hA (fun H locs hP hS => ?_)
  refine lv_istore (lv' := [(4, .int r8), (3, .int v1), (0, .ref (ad 1)), (1, .int p1), (2, .int p2)]) hx hb d_T_stretchBy_15 hl (by decide) rfl (fun ls hl => ?_)
  refine lv_iload_n hx hb d_T_stretchBy_17 rfl (lv_at hl 1 rfl) ?_
  refine lv_aload_n hx hb d_T_stretchBy_18 rfl (lv_at hl 2 rfl) ?_
  refine wx_get (v := .ref (ad 7)) (C := RQ_T) (T := FQ_T) (N := 10) hx hb ht IQ_T hown hK hP 1 (by decide) (e_g1_1 cy ad _) rfl 3 (by decide) (ht _ kw_78) (fun _ h9 => h9) rfl d_T_stretchBy_19 ?_
  refine lv_iload_n hx hb d_T_stretchBy_22 rfl (lv_at hl 3 rfl) ?_
  obtain ⟨h9, hf⟩ := op_chk hf
  refine wx_iald hx hb hK hP 7 (by decide) (by decide) 10 rfl h9 d_T_stretchBy_23 ?_
  refine lv_icmp_ne (tgt := 30) hx hb d_T_stretchBy_24 (by decide) (fun c10 => ?_) (fun c10 => ?_)
  ·
    have hf := op_neg hf c10
    refine lv_iload_n hx hb d_T_stretchBy_30 rfl (lv_at hl 1 rfl) ?_
    refine lv_aload_n hx hb d_T_stretchBy_31 rfl (lv_at hl 2 rfl) ?_
    refine wx_get (v := .ref (ad 6)) (C := RQ_T) (T := FQ_T) (N := 10) hx hb ht IQ_T hown hK hP 1 (by decide) (e_g1_1 cy ad _) rfl 2 (by decide) (ht _ kw_76) (fun _ h9 => h9) rfl d_T_stretchBy_32 ?_
    refine lv_iload_n hx hb d_T_stretchBy_35 rfl (lv_at hl 3 rfl) ?_
    obtain ⟨h11, hf⟩ := op_chk hf
    refine wx_iald hx hb hK hP 6 (by decide) (by decide) 10 rfl h11 d_T_stretchBy_36 ?_
    refine lv_icmp_ne (tgt := 46) hx hb d_T_stretchBy_37 (by decide) (fun c12 => ?_) (fun c12 => ?_)
    ·
      have hf := op_neg hf c12
      refine lv_iconst (v := 0) hx hb d_T_stretchBy_46 (by decide) ?_
      obtain ⟨hv9, rfl⟩ := op_inj hf
      exact wx_iret hx hb hr hlocks hAe hP hS hv9 d_T_stretchBy_47
    ·
      have hf := op_pos hf c12
      refine lv_iload hx hb d_T_stretchBy_40 (lv_at hl 0 rfl) ?_
      refine lv_ineg hx hb d_T_stretchBy_42 ?_
      refine lv_goto (tgt := 47) hx hb d_T_stretchBy_43 (by decide) ?_
      obtain ⟨hv9, rfl⟩ := op_inj hf
      exact wx_iret hx hb hr hlocks hAe hP hS hv9 d_T_stretchBy_47
  ·
    have hf := op_pos hf c10
    refine lv_iload hx hb d_T_stretchBy_27 (lv_at hl 0 rfl) ?_
    obtain ⟨hv9, rfl⟩ := op_inj hf
    exact wx_iret hx hb hr hlocks hAe hP hS hv9 d_T_stretchBy_29

def l_E_addStiffnessOfBar_1_31 : Nat → gS → Int32 → Int32 → Int32 → Int32 → Option (Int32 × Int32 × gS)
  | 0, _, _, _, _, _ => none
  | n + 1, z, x2, x3, x4, x5 =>
    if (10 : Int32) ≤ x5 then (some (x2, x3, z))
     else (if x3 < 0 ∨ 10 ≤ x3.toNatClampNeg then none else
     if x5 < 0 ∨ 10 ≤ x5.toNatClampNeg then none else
     bd2 (f_T_stretchBy z x2 x5) (fun r6 w5 =>
     if x5 < 0 ∨ 10 ≤ x5.toNatClampNeg then none else
     (some (s_J w5 (x3.toNatClampNeg + 32) (vp_updL (w5.2.2.2 (x3.toNatClampNeg + 32)) x5.toNatClampNeg ((z.2.2.2 (x3.toNatClampNeg + 32) x5.toNatClampNeg) + ((x4 * r6).toInt64))))).bind (fun w8 =>
     l_E_addStiffnessOfBar_1_31 n w8 x2 x3 x4 (x5 + (1 : Int32)))))
def l_E_addStiffnessOfBar_1_2 : Nat → gS → Int32 → Int32 → Option (gS)
  | 0, _, _, _ => none
  | n + 1, z, x2, x3 =>
    if (10 : Int32) ≤ x3 then (some z)
     else (if x2 < 0 ∨ 10 ≤ x2.toNatClampNeg then none else
     bd2 (f_T_stretchBy z x2 x3) (fun r14 w13 =>
     (some (((z.2.2.1 8 x2.toNatClampNeg) * r14) : Int32)).bind (fun v15 =>
     if v15 = 0 then (l_E_addStiffnessOfBar_1_2 n w13 x2 (x3 + (1 : Int32)))
     else (bd3 (l_E_addStiffnessOfBar_1_31 200 w13 x2 x3 v15 (0 : Int32)) (fun v18 v19 w20 =>
     l_E_addStiffnessOfBar_1_2 n w20 v18 (v19 + (1 : Int32)))))))
def f_E_addStiffnessOfBar_1 (z0 : gS) (p2 : Int32) : Option gS :=
 bd1 (l_E_addStiffnessOfBar_1_2 200 z0 p2 (0 : Int32)) (fun w22 =>
 some w22)
set_option maxHeartbeats 4000000 in
set_option maxRecDepth 100000 in
theorem m_E_addStiffnessOfBar_1 (l : Launch) (D : va_G) (cy : Nat → ClassId) (ad : Nat → Nat) (sz : Nat) (z0 : gS) (p2 : Int32) (zz : gS) (hf : f_E_addStiffnessOfBar_1 z0 p2 = some zz) : Met l y_E_addStiffnessOfBar (Cond.code y_E_addStiffnessOfBar c_E_addStiffnessOfBar 6 none :: gt_ws) ({ frames := 3, cells := 0, slots := 0, locals := 135 }) (sPc D cl_all (gTy cy) nwC 52 ad (g1 cy ad z0) sz [.ref (ad 3), .ref (ad 1), .int p2]) (sQv D cl_all 52 ad (g1 cy ad z0) sz (g1 cy ad zz)) 0 0 (va_A (wl 52 ad (g1 cy ad z0)) sz) := by
  refine Met.ofW (cc := c_E_addStiffnessOfBar) (maxL := 6) (ret := none) (by decide) rfl ?_
  intro p e s m args below meth c s₁ B hml hv
  obtain ⟨rfl, hsz, hP, hK, hN, hD0⟩ := hv
  have hx := B.exec
  have hb := B.bytes
  have hr := B.returns
  have hts := atoms_spec (ws := (Cond.code y_E_addStiffnessOfBar c_E_addStiffnessOfBar 6 none :: gt_ws)) B.pre
  have ht : ∀ w ∈ gt_ws, w.before _ s = true := fun w h => hts w (List.mem_cons_of_mem _ h)
  have hown : s.vm.findClass RQ_E = some m.cls := findClass_of_methodNamed B.named
  have hlocks := B.notSynchronized
  subst hsz
  have hD1 := hD0.self (sz := s.heap.size)
  obtain ⟨A, hAe⟩ : ∃ A, A = va_A (wl 52 ad (g1 cy ad z0)) s.heap.size := ⟨_, rfl⟩
  rw [← hAe] at hD1
  have hD : ∀ g, va_D A (wl 52 ad g) := fun _ => wl_D hD1
  have hA : ∀ q : Nat, s.heap.size ≤ q → A q := fun q h => by rw [hAe]; exact Or.inr h
  have hS : va_S A s.heap s.heap [] := va_S.rf
  have hl := lv_entry ([.ref (ad 3), .ref (ad 1), .int p2]) (n := 6) (Nat.le_of_ble_eq_true rfl)
  rw [lg_entry_eq]
  generalize (lg_sl ([.ref (ad 3), .ref (ad 1), .int p2]) ++ List.replicate (6 - (lg_sl ([.ref (ad 3), .ref (ad 1), .int p2])).length) Slot.unset).toArray = ls at hl ⊢
  have hl : lv_has ls 6 [(0, .ref (ad 3)), (1, .ref (ad 1)), (2, .int p2)] := hl
  have L_31 : ∀ (n : Nat) (z : gS) (x2 : Int32) (x3 : Int32) (x4 : Int32) (x5 : Int32) (y2 : Int32) (y3 : Int32) (z9 : gS), l_E_addStiffnessOfBar_1_31 n z x2 x3 x4 x5 = some (y2, y3, z9) → ∀ (H : Heap) (locs : List Loc) (ls : Array Slot), va_P D cl_all (wl 52 ad (g1 cy ad z)) H → va_S A s.heap H locs → lv_has ls 6 [(0, .ref (ad 3)), (1, .ref (ad 1)), (2, .int x2), (3, .int x3), (4, .int x4), (5, .int x5)] →
      (∀ (H : Heap) (locs : List Loc) (ls : Array Slot), va_P D cl_all (wl 52 ad (g1 cy ad z9)) H → va_S A s.heap H locs → lv_has ls 6 [(0, .ref (ad 3)), (1, .ref (ad 1)), (2, .int y2), (3, .int y3)] → W p l e (headSpec (Cond.code y_E_addStiffnessOfBar c_E_addStiffnessOfBar 6 none :: gt_ws) ({ frames := 3, cells := 0, slots := 0, locals := 135 })).room s m ([.ref (ad 3), .ref (ad 1), .int p2]).toArray below meth c H locs 0 0 (MQ below (sQv D cl_all 52 ad (g1 cy ad z0) s.heap.size (g1 cy ad zz)) ([.ref (ad 3), .ref (ad 1), .int p2]).toArray s 0 0 (va_A (wl 52 ad (g1 cy ad z0)) s.heap.size)) (F0 m 67 ls [])) →
      W p l e (headSpec (Cond.code y_E_addStiffnessOfBar c_E_addStiffnessOfBar 6 none :: gt_ws) ({ frames := 3, cells := 0, slots := 0, locals := 135 })).room s m ([.ref (ad 3), .ref (ad 1), .int p2]).toArray below meth c H locs 0 0 (MQ below (sQv D cl_all 52 ad (g1 cy ad z0) s.heap.size (g1 cy ad zz)) ([.ref (ad 3), .ref (ad 1), .int p2]).toArray s 0 0 (va_A (wl 52 ad (g1 cy ad z0)) s.heap.size)) (F0 m 31 ls []) := by
    intro n
    induction n with
    | zero => intro z x2 x3 x4 x5 y2 y3 z9 hf; rw [l_E_addStiffnessOfBar_1_31] at hf; cases hf
    | succ n ih =>
      intro z x2 x3 x4 x5 y2 y3 z9 hf H locs ls hP hS hl k_0
      rw [l_E_addStiffnessOfBar_1_31] at hf
      refine lv_iload hx hb d_E_addStiffnessOfBar_31 (lv_at hl 5 rfl) ?_
      refine lv_bipush (v := 10) hx hb d_E_addStiffnessOfBar_33 (by decide) ?_
      refine lv_icmp_ge (tgt := 67) hx hb d_E_addStiffnessOfBar_35 (by decide) (fun c1 => ?_) (fun c1 => ?_)
      ·
        have hf := op_pos hf c1
        cases hf
        exact k_0 _ _ _ hP hS (lv_sub hl [0, 1, 2, 3] rfl)
      ·
        have hf := op_neg hf c1
        refine lv_aload_n hx hb d_E_addStiffnessOfBar_38 rfl (lv_at hl 0 rfl) ?_
        refine wx_get (v := .ref (ad 18)) (C := RQ_E) (T := FQ_E) (N := 7) hx hb ht IQ_E hown hK hP 3 (by decide) (e_g1_3 cy ad _) rfl 0 (by decide) (ht _ kw_167) (fun _ h9 => h9) rfl d_E_addStiffnessOfBar_39 ?_
        refine lv_iload_n hx hb d_E_addStiffnessOfBar_42 rfl (lv_at hl 3 rfl) ?_
        obtain ⟨h2, hf⟩ := op_chk hf
        refine wx_aald (b := ad (x3.toNatClampNeg + 32)) hx hb hK hP 18 4 (by decide) (e_g1_18 cy ad _) rfl h2 (if_pos (r32_lt h2)) d_E_addStiffnessOfBar_43 ?_
        refine lv_iload hx hb d_E_addStiffnessOfBar_44 (lv_at hl 5 rfl) ?_
        refine lv_dup2_11 hx hb d_E_addStiffnessOfBar_46 rfl rfl ?_
        obtain ⟨h3, hf⟩ := op_chk hf
        refine wx_lald hx hb hK hP (x3.toNatClampNeg + 32) (r32 h2).1 (r32 h2).2.1 10 (r32 h2).2.2 h3 d_E_addStiffnessOfBar_47 ?_
        refine lv_iload hx hb d_E_addStiffnessOfBar_48 (lv_at hl 4 rfl) ?_
        refine lv_aload_n hx hb d_E_addStiffnessOfBar_50 rfl (lv_at hl 1 rfl) ?_
        refine lv_iload_n hx hb d_E_addStiffnessOfBar_51 rfl (lv_at hl 2 rfl) ?_
        refine lv_iload hx hb d_E_addStiffnessOfBar_52 (lv_at hl 5 rfl) ?_
        obtain ⟨r6, w5, hc4, hf⟩ := op_b2 hf
        refine wx_fi (wx_rV (As := [.int x2, .int x5]) (rest := [.int x4, .long (z.2.2.2 (x3.toNatClampNeg + 32) x5.toNatClampNeg), .int x5, .ref (ad (x3.toNatClampNeg + 32))]) ⟨hx, hb, hml, hown, ht⟩ (m_T_stretchBy l D cy ad _ z x2 x5 _ _ hc4) ⟨callB_of 2 ht (gt_in (fun _ h9 => h9) kw_386) rfl rfl rfl (ht _ kw_48) (ht _ kw_383) q_T_stretchBy ⟨Nat.le_of_ble_eq_true rfl, Nat.le_of_ble_eq_true rfl⟩, ht _ kw_384, ht _ kw_385⟩ nwC_ok hN hK hP (hD _) (by decide) (e_g1_1 cy ad _) rfl rfl hl.1 rfl (Nat.le_of_ble_eq_true rfl) d_E_addStiffnessOfBar_54 ⟨Nat.zero_le _, Nat.zero_le _⟩) (hD _) hS hA (fun H locs hP hS => ?_)
        refine lv_imul hx hb d_E_addStiffnessOfBar_57 ?_
        refine lv_i2l hx hb d_E_addStiffnessOfBar_58 rfl ?_
        refine lv_ladd hx hb d_E_addStiffnessOfBar_59 ?_
        obtain ⟨h7, hf⟩ := op_chk hf
        refine wx_last hx hb hK hP (hD _) hS (x3.toNatClampNeg + 32) (r32 h2).1 (r32 h2).2.1 10 (r32 h2).2.2 h7 d_E_addStiffnessOfBar_60 (fun H locs hP hS => ?_)
        obtain ⟨w8, h9, hf⟩ := op_let hf
        rw [h9] at hP
        refine lv_iinc (v := x5 + (1 : Int32)) (lv' := [(5, .int (x5 + (1 : Int32))), (0, .ref (ad 3)), (1, .ref (ad 1)), (2, .int x2), (3, .int x3), (4, .int x4)]) hx hb d_E_addStiffnessOfBar_61 hl (k := 5) rfl rfl (by decide) rfl (fun ls hl => ?_)
        refine lv_goto (tgt := 31) hx hb d_E_addStiffnessOfBar_64 (by decide) ?_
        exact ih _ _ _ _ _ _ _ _ hf _ _ _ hP hS (lv_sub hl [1, 2, 3, 4, 5, 0] rfl) k_0
  have L_2 : ∀ (n : Nat) (z : gS) (x2 : Int32) (x3 : Int32) (z9 : gS), l_E_addStiffnessOfBar_1_2 n z x2 x3 = some z9 → ∀ (H : Heap) (locs : List Loc) (ls : Array Slot), va_P D cl_all (wl 52 ad (g1 cy ad z)) H → va_S A s.heap H locs → lv_has ls 6 [(0, .ref (ad 3)), (1, .ref (ad 1)), (2, .int x2), (3, .int x3)] →
      (∀ (H : Heap) (locs : List Loc) (ls : Array Slot), va_P D cl_all (wl 52 ad (g1 cy ad z9)) H → va_S A s.heap H locs → lv_has ls 6 [] → W p l e (headSpec (Cond.code y_E_addStiffnessOfBar c_E_addStiffnessOfBar 6 none :: gt_ws) ({ frames := 3, cells := 0, slots := 0, locals := 135 })).room s m ([.ref (ad 3), .ref (ad 1), .int p2]).toArray below meth c H locs 0 0 (MQ below (sQv D cl_all 52 ad (g1 cy ad z0) s.heap.size (g1 cy ad zz)) ([.ref (ad 3), .ref (ad 1), .int p2]).toArray s 0 0 (va_A (wl 52 ad (g1 cy ad z0)) s.heap.size)) (F0 m 73 ls [])) →
      W p l e (headSpec (Cond.code y_E_addStiffnessOfBar c_E_addStiffnessOfBar 6 none :: gt_ws) ({ frames := 3, cells := 0, slots := 0, locals := 135 })).room s m ([.ref (ad 3), .ref (ad 1), .int p2]).toArray below meth c H locs 0 0 (MQ below (sQv D cl_all 52 ad (g1 cy ad z0) s.heap.size (g1 cy ad zz)) ([.ref (ad 3), .ref (ad 1), .int p2]).toArray s 0 0 (va_A (wl 52 ad (g1 cy ad z0)) s.heap.size)) (F0 m 2 ls []) := by
    intro n
    induction n with
    | zero => intro z x2 x3 z9 hf; rw [l_E_addStiffnessOfBar_1_2] at hf; cases hf
    | succ n ih =>
      intro z x2 x3 z9 hf H locs ls hP hS hl k_0
      rw [l_E_addStiffnessOfBar_1_2] at hf
      refine lv_iload_n hx hb d_E_addStiffnessOfBar_2 rfl (lv_at hl 3 rfl) ?_
      refine lv_bipush (v := 10) hx hb d_E_addStiffnessOfBar_3 (by decide) ?_
      refine lv_icmp_ge (tgt := 73) hx hb d_E_addStiffnessOfBar_5 (by decide) (fun c10 => ?_) (fun c10 => ?_)
      ·
        have hf := op_pos hf c10
        cases hf
        exact k_0 _ _ _ hP hS (lv_sub hl [] rfl)
      ·
        have hf := op_neg hf c10
        refine lv_aload_n hx hb d_E_addStiffnessOfBar_8 rfl (lv_at hl 1 rfl) ?_
        refine wx_get (v := .ref (ad 8)) (C := RQ_T) (T := FQ_T) (N := 10) hx hb ht IQ_T hown hK hP 1 (by decide) (e_g1_1 cy ad _) rfl 4 (by decide) (ht _ kw_81) (fun _ h9 => h9) rfl d_E_addStiffnessOfBar_9 ?_
        refine lv_iload_n hx hb d_E_addStiffnessOfBar_12 rfl (lv_at hl 2 rfl) ?_
        obtain ⟨h11, hf⟩ := op_chk hf
        refine wx_iald hx hb hK hP 8 (by decide) (by decide) 10 rfl h11 d_E_addStiffnessOfBar_13 ?_
        refine lv_aload_n hx hb d_E_addStiffnessOfBar_14 rfl (lv_at hl 1 rfl) ?_
        refine lv_iload_n hx hb d_E_addStiffnessOfBar_15 rfl (lv_at hl 2 rfl) ?_
        refine lv_iload_n hx hb d_E_addStiffnessOfBar_16 rfl (lv_at hl 3 rfl) ?_
        obtain ⟨r14, w13, hc12, hf⟩ := op_b2 hf
        refine wx_fi (wx_rV (As := [.int x2, .int x3]) (rest := [.int (z.2.2.1 8 x2.toNatClampNeg)]) ⟨hx, hb, hml, hown, ht⟩ (m_T_stretchBy l D cy ad _ z x2 x3 _ _ hc12) ⟨callB_of 2 ht (gt_in (fun _ h9 => h9) kw_386) rfl rfl rfl (ht _ kw_48) (ht _ kw_383) q_T_stretchBy ⟨Nat.le_of_ble_eq_true rfl, Nat.le_of_ble_eq_true rfl⟩, ht _ kw_384, ht _ kw_385⟩ nwC_ok hN hK hP (hD _) (by decide) (e_g1_1 cy ad _) rfl rfl hl.1 rfl (Nat.le_of_ble_eq_true rfl) d_E_addStiffnessOfBar_17 ⟨Nat.zero_le _, Nat.zero_le _⟩) (hD _) hS hA (fun H locs hP hS => ?_)
        refine lv_imul hx hb d_E_addStiffnessOfBar_20 ?_
        obtain ⟨v15, h16, hf⟩ := op_let hf
        refine sw_i h16 ?_
        refine lv_istore (lv' := [(4, .int v15), (0, .ref (ad 3)), (1, .ref (ad 1)), (2, .int x2), (3, .int x3)]) hx hb d_E_addStiffnessOfBar_21 hl (by decide) rfl (fun ls hl => ?_)
        refine lv_iload hx hb d_E_addStiffnessOfBar_23 (lv_at hl 0 rfl) ?_
        refine lv_if_eq (tgt := 67) hx hb d_E_addStiffnessOfBar_25 (by decide) (fun c17 => ?_) (fun c17 => ?_)
        ·
          have hf := op_pos hf c17
          refine lv_iinc (v := x3 + (1 : Int32)) (lv' := [(3, .int (x3 + (1 : Int32))), (4, .int v15), (0, .ref (ad 3)), (1, .ref (ad 1)), (2, .int x2)]) hx hb d_E_addStiffnessOfBar_67 hl (k := 4) rfl rfl (by decide) rfl (fun ls hl => ?_)
          refine lv_goto (tgt := 2) hx hb d_E_addStiffnessOfBar_70 (by decide) ?_
          exact ih _ _ _ _ hf _ _ _ hP hS (lv_sub hl [2, 3, 4, 0] rfl) k_0
        ·
          have hf := op_neg hf c17
          refine lv_iconst (v := 0) hx hb d_E_addStiffnessOfBar_28 (by decide) ?_
          refine lv_istore (lv' := [(5, .int (0 : Int32)), (4, .int v15), (0, .ref (ad 3)), (1, .ref (ad 1)), (2, .int x2), (3, .int x3)]) hx hb d_E_addStiffnessOfBar_29 hl (by decide) rfl (fun ls hl => ?_)
          obtain ⟨v18, v19, w20, hc21, hf⟩ := op_b3 hf
          refine L_31 _ _ _ _ _ _ _ _ _ hc21 _ _ _ hP hS (lv_sub hl [2, 3, 4, 5, 1, 0] rfl) (fun H locs ls hP hS hl => ?_)
          refine lv_iinc (v := v19 + (1 : Int32)) (lv' := [(3, .int (v19 + (1 : Int32))), (0, .ref (ad 3)), (1, .ref (ad 1)), (2, .int v18)]) hx hb d_E_addStiffnessOfBar_67 hl (k := 3) rfl rfl (by decide) rfl (fun ls hl => ?_)
          refine lv_goto (tgt := 2) hx hb d_E_addStiffnessOfBar_70 (by decide) ?_
          exact ih _ _ _ _ hf _ _ _ hP hS (lv_sub hl [1, 2, 3, 0] rfl) k_0
  unfold f_E_addStiffnessOfBar_1 at hf
  refine lv_iconst (v := 0) hx hb d_E_addStiffnessOfBar_0 (by decide) ?_
  refine lv_istore_n (lv' := [(3, .int (0 : Int32)), (0, .ref (ad 3)), (1, .ref (ad 1)), (2, .int p2)]) hx hb d_E_addStiffnessOfBar_1 rfl hl (by decide) rfl (fun ls hl => ?_)
  obtain ⟨w22, hc23, hf⟩ := op_b1 hf
  refine L_2 _ _ _ _ _ hc23 _ _ _ hP hS (lv_sub hl [1, 2, 3, 0] rfl) (fun H locs ls hP hS hl => ?_)
  obtain rfl := Option.some.inj hf
  exact wx_vret hx hb hr hlocks hAe hP hS d_E_addStiffnessOfBar_73

def l_J_fillL_r32_6 (j0 : Nat) : Nat → gS → Int64 → Int32 → Int32 → Option (gS)
  | 0, _, _, _, _ => none
  | n + 1, z, x1, x3, x4 =>
    if x4 ≤ x3 then (some z)
     else (if x3 < 0 ∨ 10 ≤ x3.toNatClampNeg then none else
     (some (s_J z (j0 + 32) (vp_updL (z.2.2.2 (j0 + 32)) x3.toNatClampNeg x1))).bind (fun w3 =>
     l_J_fillL_r32_6 j0 n w3 x1 (x3 + (1 : Int32)) x4))
def f_J_fillL_r32 (j0 : Nat) (z0 : gS) (p1 : Int64) : Option gS :=
 bd1 (l_J_fillL_r32_6 j0 200 z0 p1 (0 : Int32) (10 : Int32)) (fun w5 =>
 some w5)
set_option maxHeartbeats 4000000 in
set_option maxRecDepth 100000 in
theorem m_J_fillL_r32 (l : Launch) (D : va_G) (cy : Nat → ClassId) (ad : Nat → Nat) (sz : Nat) (j0 : Nat) (hj : j0 < 10) (z0 : gS) (p1 : Int64) (zz : gS) (hf : f_J_fillL_r32 j0 z0 p1 = some zz) : Met l y_J_fillL (Cond.code y_J_fillL c_J_fillL 5 none :: gt_ws) ({ frames := 0, cells := 0, slots := 0, locals := 0 }) (sPc D cl_all (gTy cy) nwC 52 ad (g1 cy ad z0) sz [.ref (ad (j0 + 32)), .long p1]) (sQv D cl_all 52 ad (g1 cy ad z0) sz (g1 cy ad zz)) 0 0 (va_A (wl 52 ad (g1 cy ad z0)) sz) := by
  refine Met.ofW (cc := c_J_fillL) (maxL := 5) (ret := none) (by decide) rfl ?_
  intro p e s m args below meth c s₁ B hml hv
  obtain ⟨rfl, hsz, hP, hK, hN, hD0⟩ := hv
  have hx := B.exec
  have hb := B.bytes
  have hr := B.returns
  have hts := atoms_spec (ws := (Cond.code y_J_fillL c_J_fillL 5 none :: gt_ws)) B.pre
  have ht : ∀ w ∈ gt_ws, w.before _ s = true := fun w h => hts w (List.mem_cons_of_mem _ h)
  have hown : s.vm.findClass RQ_JA = some m.cls := findClass_of_methodNamed B.named
  have hlocks := B.notSynchronized
  subst hsz
  have hD1 := hD0.self (sz := s.heap.size)
  obtain ⟨A, hAe⟩ : ∃ A, A = va_A (wl 52 ad (g1 cy ad z0)) s.heap.size := ⟨_, rfl⟩
  rw [← hAe] at hD1
  have hD : ∀ g, va_D A (wl 52 ad g) := fun _ => wl_D hD1
  have hA : ∀ q : Nat, s.heap.size ≤ q → A q := fun q h => by rw [hAe]; exact Or.inr h
  have hS : va_S A s.heap s.heap [] := va_S.rf
  have hl := lv_entry ([.ref (ad (j0 + 32)), .long p1]) (n := 5) (Nat.le_of_ble_eq_true rfl)
  rw [lg_entry_eq]
  generalize (lg_sl ([.ref (ad (j0 + 32)), .long p1]) ++ List.replicate (5 - (lg_sl ([.ref (ad (j0 + 32)), .long p1])).length) Slot.unset).toArray = ls at hl ⊢
  have hl : lv_has ls 5 [(0, .ref (ad (j0 + 32))), (1, .long p1)] := hl
  have L_6 : ∀ (n : Nat) (z : gS) (x1 : Int64) (x3 : Int32) (x4 : Int32) (z9 : gS), l_J_fillL_r32_6 j0 n z x1 x3 x4 = some z9 → ∀ (H : Heap) (locs : List Loc) (ls : Array Slot), va_P D cl_all (wl 52 ad (g1 cy ad z)) H → va_S A s.heap H locs → lv_has ls 5 [(0, .ref (ad (j0 + 32))), (1, .long x1), (3, .int x3), (4, .int x4)] →
      (∀ (H : Heap) (locs : List Loc) (ls : Array Slot), va_P D cl_all (wl 52 ad (g1 cy ad z9)) H → va_S A s.heap H locs → lv_has ls 5 [] → W p l e (headSpec (Cond.code y_J_fillL c_J_fillL 5 none :: gt_ws) ({ frames := 0, cells := 0, slots := 0, locals := 0 })).room s m ([.ref (ad (j0 + 32)), .long p1]).toArray below meth c H locs 0 0 (MQ below (sQv D cl_all 52 ad (g1 cy ad z0) s.heap.size (g1 cy ad zz)) ([.ref (ad (j0 + 32)), .long p1]).toArray s 0 0 (va_A (wl 52 ad (g1 cy ad z0)) s.heap.size)) (F0 m 22 ls [])) →
      W p l e (headSpec (Cond.code y_J_fillL c_J_fillL 5 none :: gt_ws) ({ frames := 0, cells := 0, slots := 0, locals := 0 })).room s m ([.ref (ad (j0 + 32)), .long p1]).toArray below meth c H locs 0 0 (MQ below (sQv D cl_all 52 ad (g1 cy ad z0) s.heap.size (g1 cy ad zz)) ([.ref (ad (j0 + 32)), .long p1]).toArray s 0 0 (va_A (wl 52 ad (g1 cy ad z0)) s.heap.size)) (F0 m 6 ls []) := by
    intro n
    induction n with
    | zero => intro z x1 x3 x4 z9 hf; rw [l_J_fillL_r32_6] at hf; cases hf
    | succ n ih =>
      intro z x1 x3 x4 z9 hf H locs ls hP hS hl k_0
      rw [l_J_fillL_r32_6] at hf
      refine lv_iload_n hx hb d_J_fillL_6 rfl (lv_at hl 2 rfl) ?_
      refine lv_iload hx hb d_J_fillL_7 (lv_at hl 3 rfl) ?_
      refine lv_icmp_ge (tgt := 22) hx hb d_J_fillL_9 (by decide) (fun c1 => ?_) (fun c1 => ?_)
      ·
        have hf := op_pos hf c1
        cases hf
        exact k_0 _ _ _ hP hS (lv_sub hl [] rfl)
      ·
        have hf := op_neg hf c1
        refine lv_aload_n hx hb d_J_fillL_12 rfl (lv_at hl 0 rfl) ?_
        refine lv_iload_n hx hb d_J_fillL_13 rfl (lv_at hl 2 rfl) ?_
        refine lv_lload_n hx hb d_J_fillL_14 rfl (lv_at hl 1 rfl) ?_
        obtain ⟨h2, hf⟩ := op_chk hf
        refine wx_last hx hb hK hP (hD _) hS (j0 + 32) (r32n hj).1 (r32n hj).2.1 10 (r32n hj).2.2 h2 d_J_fillL_15 (fun H locs hP hS => ?_)
        obtain ⟨w3, h4, hf⟩ := op_let hf
        rw [h4] at hP
        refine lv_iinc (v := x3 + (1 : Int32)) (lv' := [(3, .int (x3 + (1 : Int32))), (0, .ref (ad (j0 + 32))), (1, .long x1), (4, .int x4)]) hx hb d_J_fillL_16 hl (k := 2) rfl rfl (by decide) rfl (fun ls hl => ?_)
        refine lv_goto (tgt := 6) hx hb d_J_fillL_19 (by decide) ?_
        exact ih _ _ _ _ _ hf _ _ _ hP hS (lv_sub hl [1, 2, 0, 3] rfl) k_0
  unfold f_J_fillL_r32 at hf
  refine lv_iconst (v := 0) hx hb d_J_fillL_0 (by decide) ?_
  refine lv_istore_n (lv' := [(3, .int (0 : Int32)), (0, .ref (ad (j0 + 32))), (1, .long p1)]) hx hb d_J_fillL_1 rfl hl (by decide) rfl (fun ls hl => ?_)
  refine lv_aload_n hx hb d_J_fillL_2 rfl (lv_at hl 1 rfl) ?_
  refine wx_lenl (v := 10) hx hb hK hP (j0 + 32) (r32n hj).1 (r32n hj).2.1 (by rw [(r32n hj).2.2]; rfl) d_J_fillL_3 ?_
  refine lv_istore (lv' := [(4, .int (10 : Int32)), (3, .int (0 : Int32)), (0, .ref (ad (j0 + 32))), (1, .long p1)]) hx hb d_J_fillL_4 hl (by decide) rfl (fun ls hl => ?_)
  obtain ⟨w5, hc6, hf⟩ := op_b1 hf
  refine L_6 _ _ _ _ _ _ hc6 _ _ _ hP hS (lv_sub hl [2, 3, 1, 0] rfl) (fun H locs ls hP hS hl => ?_)
  obtain rfl := Option.some.inj hf
  exact wx_vret hx hb hr hlocks hAe hP hS d_J_fillL_22
