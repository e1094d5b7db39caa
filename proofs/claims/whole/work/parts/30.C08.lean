def l_E_sumUpStiffness_1_41 : Nat → gS → Int32 → Option (gS)
  | 0, _, _ => none
  | n + 1, z, x2 =>
    if (z.1 2) ≤ x2 then (some z)
     else (bd1 (f_E_addStiffnessOfBar_1 z x2) (fun w3 =>
     l_E_sumUpStiffness_1_41 n w3 (x2 + (1 : Int32))))
def l_E_sumUpStiffness_1_2 : Nat → gS → Int32 → Option (gS)
  | 0, _, _ => none
  | n + 1, z, x2 =>
    if (10 : Int32) ≤ x2 then (some z)
     else (if x2 < 0 ∨ 10 ≤ x2.toNatClampNeg then none else
     bd1 (f_J_fillL_r32 x2.toNatClampNeg z (0 : Int64)) (fun w7 =>
     if x2 < 0 ∨ 10 ≤ x2.toNatClampNeg then none else
     if x2 < 0 ∨ 10 ≤ x2.toNatClampNeg then none else
     if x2 < 0 ∨ 10 ≤ x2.toNatClampNeg then none else
     (some (s_J w7 (x2.toNatClampNeg + 32) (vp_updL (w7.2.2.2 (x2.toNatClampNeg + 32)) x2.toNatClampNeg ((w7.2.2.1 11 x2.toNatClampNeg).toInt64)))).bind (fun w11 =>
     l_E_sumUpStiffness_1_2 n w11 (x2 + (1 : Int32)))))
def f_E_sumUpStiffness_1 (z0 : gS) : Option gS :=
 bd1 (l_E_sumUpStiffness_1_2 200 z0 (0 : Int32)) (fun w13 =>
 bd1 (l_E_sumUpStiffness_1_41 200 w13 (0 : Int32)) (fun w15 =>
 some w15))
set_option maxHeartbeats 4000000 in
set_option maxRecDepth 100000 in
theorem m_E_sumUpStiffness_1 (l : Launch) (D : va_G) (cy : Nat → ClassId) (ad : Nat → Nat) (sz : Nat) (z0 : gS) (zz : gS) (hf : f_E_sumUpStiffness_1 z0 = some zz) : Met l y_E_sumUpStiffness (Cond.code y_E_sumUpStiffness c_E_sumUpStiffness 3 none :: gt_ws) ({ frames := 4, cells := 0, slots := 0, locals := 180 }) (sPc D cl_all (gTy cy) nwC 52 ad (g1 cy ad z0) sz [.ref (ad 3), .ref (ad 1)]) (sQv D cl_all 52 ad (g1 cy ad z0) sz (g1 cy ad zz)) 0 0 (va_A (wl 52 ad (g1 cy ad z0)) sz) := by
  refine Met.ofW (cc := c_E_sumUpStiffness) (maxL := 3) (ret := none) (by decide) rfl ?_
  intro p e s m args below meth c s₁ B hml hv
  obtain ⟨rfl, hsz, hP, hK, hN, hD0⟩ := hv
  have hx := B.exec
  have hb := B.bytes
  have hr := B.returns
  have hts := atoms_spec (ws := (Cond.code y_E_sumUpStiffness c_E_sumUpStiffness 3 none :: gt_ws)) B.pre
  have ht : ∀ w ∈ gt_ws, w.before _ s = true := fun w h => hts w (List.mem_cons_of_mem _ h)
  have hown : s.vm.findClass RQ_E = some m.cls := findClass_of_methodNamed B.named
  have hlocks := B.notSynchronized
  subst hsz
  have hD1 := hD0.self (sz := s.heap.size)
  obtain ⟨A, hAe⟩ : ∃ A, A = va_A (wl 52 ad (g1 cy ad z0)) s.heap.size := ⟨_, rfl⟩
  rw [← hAe] at hD1
  have hD : ∀ g, va_D A (wl 52 ad g) := fun _ => wl_D hD1
  have hA : ∀ q : Nat, s.heap.size ≤ q → A q := fun q h => by rw [hAe]; exact Or.inr h
  have hS : va_S A s.heap s.heap [] := va_S.rf
  have hl := lv_entry ([.ref (ad 3), .ref (ad 1)]) (n := 3) (Nat.le_of_ble_eq_true rfl)
  rw [lg_entry_eq]
  generalize (lg_sl ([.ref (ad 3), .ref (ad 1)]) ++ List.replicate (3 - (lg_sl ([.ref (ad 3), .ref (ad 1)])).length) Slot.unset).toArray = ls at hl ⊢
  have hl : lv_has ls 3 [(0, .ref (ad 3)), (1, .ref (ad 1))] := hl
  have L_41 : ∀ (n : Nat) (z : gS) (x2 : Int32) (z9 : gS), l_E_sumUpStiffness_1_41 n z x2 = some z9 → ∀ (H : Heap) (locs : List Loc) (ls : Array Slot), va_P D cl_all (wl 52 ad (g1 cy ad z)) H → va_S A s.heap H locs → lv_has ls 3 [(0, .ref (ad 3)), (1, .ref (ad 1)), (2, .int x2)] →
      (∀ (H : Heap) (locs : List Loc) (ls : Array Slot), va_P D cl_all (wl 52 ad (g1 cy ad z9)) H → va_S A s.heap H locs → lv_has ls 3 [] → W p l e (headSpec (Cond.code y_E_sumUpStiffness c_E_sumUpStiffness 3 none :: gt_ws) ({ frames := 4, cells := 0, slots := 0, locals := 180 })).room s m ([.ref (ad 3), .ref (ad 1)]).toArray below meth c H locs 0 0 (MQ below (sQv D cl_all 52 ad (g1 cy ad z0) s.heap.size (g1 cy ad zz)) ([.ref (ad 3), .ref (ad 1)]).toArray s 0 0 (va_A (wl 52 ad (g1 cy ad z0)) s.heap.size)) (F0 m 61 ls [])) →
      W p l e (headSpec (Cond.code y_E_sumUpStiffness c_E_sumUpStiffness 3 none :: gt_ws) ({ frames := 4, cells := 0, slots := 0, locals := 180 })).room s m ([.ref (ad 3), .ref (ad 1)]).toArray below meth c H locs 0 0 (MQ below (sQv D cl_all 52 ad (g1 cy ad z0) s.heap.size (g1 cy ad zz)) ([.ref (ad 3), .ref (ad 1)]).toArray s 0 0 (va_A (wl 52 ad (g1 cy ad z0)) s.heap.size)) (F0 m 41 ls []) := by
    intro n
    induction n with
    | zero => intro z x2 z9 hf; rw [l_E_sumUpStiffness_1_41] at hf; cases hf
    | succ n ih =>
      intro z x2 z9 hf H locs ls hP hS hl k_0
      rw [l_E_sumUpStiffness_1_41] at hf
      refine lv_iload_n hx hb d_E_sumUpStiffness_41 rfl (lv_at hl 2 rfl) ?_
      refine lv_aload_n hx hb d_E_sumUpStiffness_42 rfl (lv_at hl 1 rfl) ?_
      refine wx_get (v := .int (z.1 2)) (C := RQ_T) (T := FQ_T) (N := 10) hx hb ht IQ_T hown hK hP 1 (by decide) (e_g1_1 cy ad _) rfl 5 (by decide) (ht _ kw_85) (fun _ h9 => h9) rfl d_E_sumUpStiffness_43 ?_
      refine lv_icmp_ge (tgt := 61) hx hb d_E_sumUpStiffness_46 (by decide) (fun c1 => ?_) (fun c1 => ?_)
      ·
        have hf := op_pos hf c1
        cases hf
        exact k_0 _ _ _ hP hS (lv_sub hl [] rfl)
      ·
        have hf := op_neg hf c1
        refine lv_aload_n hx hb d_E_sumUpStiffness_49 rfl (lv_at hl 0 rfl) ?_
        refine lv_aload_n hx hb d_E_sumUpStiffness_50 rfl (lv_at hl 1 rfl) ?_
        refine lv_iload_n hx hb d_E_sumUpStiffness_51 rfl (lv_at hl 2 rfl) ?_
        obtain ⟨w3, hc2, hf⟩ := op_b1 hf
        refine wx_fv (wx_rV (As := [.ref (ad 1), .int x2]) (rest := []) ⟨hx, hb, hml, hown, ht⟩ (m_E_addStiffnessOfBar_1 l D cy ad _ z x2 _ hc2) ⟨callB_of 2 ht (gt_in (fun _ h9 => h9) kw_382) rfl rfl rfl (ht _ kw_50) (ht _ kw_379) q_E_addStiffnessOfBar ⟨Nat.le_of_ble_eq_true rfl, Nat.le_of_ble_eq_true rfl⟩, ht _ kw_381, ht _ kw_12⟩ nwC_ok hN hK hP (hD _) (by decide) (e_g1_3 cy ad _) rfl rfl hl.1 rfl (Nat.le_of_ble_eq_true rfl) d_E_sumUpStiffness_52 ⟨Nat.zero_le _, Nat.zero_le _⟩) (hD _) hS hA (fun H locs hP hS => ?_)
        refine lv_iinc (v := x2 + (1 : Int32)) (lv' := [(2, .int (x2 + (1 : Int32))), (0, .ref (ad 3)), (1, .ref (ad 1))]) hx hb d_E_sumUpStiffness_55 hl (k := 2) rfl rfl (by decide) rfl (fun ls hl => ?_)
        refine lv_goto (tgt := 41) hx hb d_E_sumUpStiffness_58 (by decide) ?_
        exact ih _ _ _ hf _ _ _ hP hS (lv_sub hl [1, 2, 0] rfl) k_0
  have L_2 : ∀ (n : Nat) (z : gS) (x2 : Int32) (z9 : gS), l_E_sumUpStiffness_1_2 n z x2 = some z9 → ∀ (H : Heap) (locs : List Loc) (ls : Array Slot), va_P D cl_all (wl 52 ad (g1 cy ad z)) H → va_S A s.heap H locs → lv_has ls 3 [(0, .ref (ad 3)), (1, .ref (ad 1)), (2, .int x2)] →
      (∀ (H : Heap) (locs : List Loc) (ls : Array Slot), va_P D cl_all (wl 52 ad (g1 cy ad z9)) H → va_S A s.heap H locs → lv_has ls 3 [(0, .ref (ad 3)), (1, .ref (ad 1))] → W p l e (headSpec (Cond.code y_E_sumUpStiffness c_E_sumUpStiffness 3 none :: gt_ws) ({ frames := 4, cells := 0, slots := 0, locals := 180 })).room s m ([.ref (ad 3), .ref (ad 1)]).toArray below meth c H locs 0 0 (MQ below (sQv D cl_all 52 ad (g1 cy ad z0) s.heap.size (g1 cy ad zz)) ([.ref (ad 3), .ref (ad 1)]).toArray s 0 0 (va_A (wl 52 ad (g1 cy ad z0)) s.heap.size)) (F0 m 39 ls [])) →
      W p l e (headSpec (Cond.code y_E_sumUpStiffness c_E_sumUpStiffness 3 none :: gt_ws) ({ frames := 4, cells := 0, slots := 0, locals := 180 })).room s m ([.ref (ad 3), .ref (ad 1)]).toArray below meth c H locs 0 0 (MQ below (sQv D cl_all 52 ad (g1 cy ad z0) s.heap.size (g1 cy ad zz)) ([.ref (ad 3), .ref (ad 1)]).toArray s 0 0 (va_A (wl 52 ad (g1 cy ad z0)) s.heap.size)) (F0 m 2 ls []) := by
    intro n
    induction n with
    | zero => intro z x2 z9 hf; rw [l_E_sumUpStiffness_1_2] at hf; cases hf
    | succ n ih =>
      intro z x2 z9 hf H locs ls hP hS hl k_0
      rw [l_E_sumUpStiffness_1_2] at hf
      refine lv_iload_n hx hb d_E_sumUpStiffness_2 rfl (lv_at hl 2 rfl) ?_
      refine lv_bipush (v := 10) hx hb d_E_sumUpStiffness_3 (by decide) ?_
      refine lv_icmp_ge (tgt := 39) hx hb d_E_sumUpStiffness_5 (by decide) (fun c4 => ?_) (fun c4 => ?_)
      ·
        have hf := op_pos hf c4
        cases hf
        exact k_0 _ _ _ hP hS (lv_sub hl [0, 1] rfl)
      ·
        have hf := op_neg hf c4
        refine lv_aload_n hx hb d_E_sumUpStiffness_8 rfl (lv_at hl 0 rfl) ?_
        refine wx_get (v := .ref (ad 18)) (C := RQ_E) (T := FQ_E) (N := 7) hx hb ht IQ_E hown hK hP 3 (by decide) (e_g1_3 cy ad _) rfl 0 (by decide) (ht _ kw_167) (fun _ h9 => h9) rfl d_E_sumUpStiffness_9 ?_
        refine lv_iload_n hx hb d_E_sumUpStiffness_12 rfl (lv_at hl 2 rfl) ?_
        obtain ⟨h5, hf⟩ := op_chk hf
        refine wx_aald (b := ad (x2.toNatClampNeg + 32)) hx hb hK hP 18 4 (by decide) (e_g1_18 cy ad _) rfl h5 (if_pos (r32_lt h5)) d_E_sumUpStiffness_13 ?_
        refine lv_lconst (v := 0) hx hb d_E_sumUpStiffness_14 (by decide) ?_
        obtain ⟨w7, hc6, hf⟩ := op_b1 hf
        refine wx_fv (wx_rS (As := [.ref (ad (x2.toNatClampNeg + 32)), .long (0 : Int64)]) (rest := []) ⟨hx, hb, hml, hown, ht⟩ (m_J_fillL_r32 l D cy ad _ x2.toNatClampNeg (r32_lt h5) z (0 : Int64) _ hc6) ⟨callB_of 2 ht (gt_in (fun _ h9 => h9) kw_378) rfl rfl rfl (ht _ kw_55) (ht _ kw_376) q_J_fillL ⟨Nat.le_of_ble_eq_true rfl, Nat.le_of_ble_eq_true rfl⟩, ht _ kw_377⟩ nwC_ok hN hK hP (hD _) rfl hl.1 rfl (Nat.le_of_ble_eq_true rfl) d_E_sumUpStiffness_15 ⟨Nat.zero_le _, Nat.zero_le _⟩) (hD _) hS hA (fun H locs hP hS => ?_)
        refine lv_aload_n hx hb d_E_sumUpStiffness_18 rfl (lv_at hl 0 rfl) ?_
        refine wx_get (v := .ref (ad 18)) (C := RQ_E) (T := FQ_E) (N := 7) hx hb ht IQ_E hown hK hP 3 (by decide) (e_g1_3 cy ad _) rfl 0 (by decide) (ht _ kw_167) (fun _ h9 => h9) rfl d_E_sumUpStiffness_19 ?_
        refine lv_iload_n hx hb d_E_sumUpStiffness_22 rfl (lv_at hl 2 rfl) ?_
        obtain ⟨h8, hf⟩ := op_chk hf
        refine wx_aald (b := ad (x2.toNatClampNeg + 32)) hx hb hK hP 18 4 (by decide) (e_g1_18 cy ad _) rfl h8 (if_pos (r32_lt h8)) d_E_sumUpStiffness_23 ?_
        refine lv_iload_n hx hb d_E_sumUpStiffness_24 rfl (lv_at hl 2 rfl) ?_
        refine lv_aload_n hx hb d_E_sumUpStiffness_25 rfl (lv_at hl 1 rfl) ?_
        refine wx_get (v := .ref (ad 11)) (C := RQ_T) (T := FQ_T) (N := 10) hx hb ht IQ_T hown hK hP 1 (by decide) (e_g1_1 cy ad _) rfl 8 (by decide) (ht _ kw_95) (fun _ h9 => h9) rfl d_E_sumUpStiffness_26 ?_
        refine lv_iload_n hx hb d_E_sumUpStiffness_29 rfl (lv_at hl 2 rfl) ?_
        obtain ⟨h9, hf⟩ := op_chk hf
        refine wx_iald hx hb hK hP 11 (by decide) (by decide) 10 rfl h9 d_E_sumUpStiffness_30 ?_
        refine lv_i2l hx hb d_E_sumUpStiffness_31 rfl ?_
        obtain ⟨h10, hf⟩ := op_chk hf
        refine wx_last hx hb hK hP (hD _) hS (x2.toNatClampNeg + 32) (r32 h8).1 (r32 h8).2.1 10 (r32 h8).2.2 h10 d_E_sumUpStiffness_32 (fun H locs hP hS => ?_)
        obtain ⟨w11, h12, hf⟩ := op_let hf
        rw [h12] at hP
        refine lv_iinc (v := x2 + (1 : Int32)) (lv' := [(2, .int (x2 + (1 : Int32))), (0, .ref (ad 3)), (1, .ref (ad 1))]) hx hb d_E_sumUpStiffness_33 hl (k := 2) rfl rfl (by decide) rfl (fun ls hl => ?_)
        refine lv_goto (tgt := 2) hx hb d_E_sumUpStiffness_36 (by decide) ?_
        exact ih _ _ _ hf _ _ _ hP hS (lv_sub hl [1, 2, 0] rfl) k_0
  unfold f_E_sumUpStiffness_1 at hf
  refine lv_iconst (v := 0) hx hb d_E_sumUpStiffness_0 (by decide) ?_
  refine lv_istore_n (lv' := [(2, .int (0 : Int32)), (0, .ref (ad 3)), (1, .ref (ad 1))]) hx hb d_E_sumUpStiffness_1 rfl hl (by decide) rfl (fun ls hl => ?_)
  obtain ⟨w13, hc14, hf⟩ := op_b1 hf
  refine L_2 _ _ _ _ hc14 _ _ _ hP hS (lv_sub hl [1, 2, 0] rfl) (fun H locs ls hP hS hl => ?_)
  refine lv_iconst (v := 0) hx hb d_E_sumUpStiffness_39 (by decide) ?_
  refine lv_istore_n (lv' := [(2, .int (0 : Int32)), (0, .ref (ad 3)), (1, .ref (ad 1))]) hx hb d_E_sumUpStiffness_40 rfl hl (by decide) rfl (fun ls hl => ?_)
  obtain ⟨w15, hc16, hf⟩ := op_b1 hf
  refine L_41 _ _ _ _ hc16 _ _ _ hP hS (lv_sub hl [1, 2, 0] rfl) (fun H locs ls hP hS hl => ?_)
  obtain rfl := Option.some.inj hf
  exact wx_vret hx hb hr hlocks hAe hP hS d_E_sumUpStiffness_61

def l_E_make_1_2_26 : Nat → gS → Int32 → Int32 → Option (Int32 × gS)
  | 0, _, _, _ => none
  | n + 1, z, x3, x4 =>
    if (z.1 6) ≤ x4 then (some (x3, z))
     else (if x3 < 0 ∨ 10 ≤ x3.toNatClampNeg then none else
     if x3 < 0 ∨ 10 ≤ x3.toNatClampNeg then none else
     if (z.2.2.1 15 x3.toNatClampNeg) < 0 ∨ 10 ≤ (z.2.2.1 15 x3.toNatClampNeg).toNatClampNeg then none else
     if x4 < 0 ∨ 10 ≤ x4.toNatClampNeg then none else
     if (z.2.2.1 15 x4.toNatClampNeg) < 0 ∨ 10 ≤ (z.2.2.1 15 x4.toNatClampNeg).toNatClampNeg then none else
     if x4 < 0 ∨ 10 ≤ x4.toNatClampNeg then none else
     (some (s_J z (x3.toNatClampNeg + 42) (vp_updL (z.2.2.2 (x3.toNatClampNeg + 42)) x4.toNatClampNeg (z.2.2.2 ((z.2.2.1 15 x3.toNatClampNeg).toNatClampNeg + 32) (z.2.2.1 15 x4.toNatClampNeg).toNatClampNeg)))).bind (fun w8 =>
     l_E_make_1_2_26 n w8 x3 (x4 + (1 : Int32))))
def l_E_make_1_2_15 : Nat → gS → Int32 → Option (gS)
  | 0, _, _ => none
  | n + 1, z, x3 =>
    if (z.1 6) ≤ x3 then (some z)
     else (bd2 (l_E_make_1_2_26 200 z x3 (0 : Int32)) (fun v11 w12 =>
     l_E_make_1_2_15 n w12 (v11 + (1 : Int32))))
def f_E_make_1_2 (z0 : gS) : Option gS :=
 bd1 (f_E_sumUpStiffness_1 z0) (fun w15 =>
 (some ((w15.1 5) : Int32)).bind (fun v16 =>
 (some (s_i w15 6 v16)).bind (fun w18 =>
 bd1 (l_E_make_1_2_15 200 w18 (0 : Int32)) (fun w20 =>
 some w20))))
set_option maxHeartbeats 4000000 in
set_option maxRecDepth 100000 in
theorem m_E_make_1_2 (l : Launch) (D : va_G) (cy : Nat → ClassId) (ad : Nat → Nat) (sz : Nat) (z0 : gS) (zz : gS) (hf : f_E_make_1_2 z0 = some zz) : Met l y_E_make (Cond.code y_E_make c_E_make 5 none :: gt_ws) ({ frames := 5, cells := 0, slots := 0, locals := 225 }) (sPc D cl_all (gTy cy) nwC 52 ad (g1 cy ad z0) sz [.ref (ad 3), .ref (ad 1), .ref (ad 2)]) (sQv D cl_all 52 ad (g1 cy ad z0) sz (g1 cy ad zz)) 0 0 (va_A (wl 52 ad (g1 cy ad z0)) sz) := by
  refine Met.ofW (cc := c_E_make) (maxL := 5) (ret := none) (by decide) rfl ?_
  intro p e s m args below meth c s₁ B hml hv
  obtain ⟨rfl, hsz, hP, hK, hN, hD0⟩ := hv
  have hx := B.exec
  have hb := B.bytes
  have hr := B.returns
  have hts := atoms_spec (ws := (Cond.code y_E_make c_E_make 5 none :: gt_ws)) B.pre
  have ht : ∀ w ∈ gt_ws, w.before _ s = true := fun w h => hts w (List.mem_cons_of_mem _ h)
  have hown : s.vm.findClass RQ_E = some m.cls := findClass_of_methodNamed B.named
  have hlocks := B.notSynchronized
  subst hsz
  have hD1 := hD0.self (sz := s.heap.size)
  obtain ⟨A, hAe⟩ : ∃ A, A = va_A (wl 52 ad (g1 cy ad z0)) s.heap.size := ⟨_, rfl⟩
  rw [← hAe] at hD1
  have hD : ∀ g, va_D A (wl 52 ad g) := fun _ => wl_D hD1
  have hA : ∀ q : Nat, s.heap.size ≤ q → A q := fun q h => by rw [hAe]; exact Or.inr h
  have hS : va_S A s.heap s.heap [] := va_S.rf
  have hl := lv_entry ([.ref (ad 3), .ref (ad 1), .ref (ad 2)]) (n := 5) (Nat.le_of_ble_eq_true rfl)
  rw [lg_entry_eq]
  generalize (lg_sl ([.ref (ad 3), .ref (ad 1), .ref (ad 2)]) ++ List.replicate (5 - (lg_sl ([.ref (ad 3), .ref (ad 1), .ref (ad 2)])).length) Slot.unset).toArray = ls at hl ⊢
  have hl : lv_has ls 5 [(0, .ref (ad 3)), (1, .ref (ad 1)), (2, .ref (ad 2))] := hl
  have L_26 : ∀ (n : Nat) (z : gS) (x3 : Int32) (x4 : Int32) (y3 : Int32) (z9 : gS), l_E_make_1_2_26 n z x3 x4 = some (y3, z9) → ∀ (H : Heap) (locs : List Loc) (ls : Array Slot), va_P D cl_all (wl 52 ad (g1 cy ad z)) H → va_S A s.heap H locs → lv_has ls 5 [(0, .ref (ad 3)), (2, .ref (ad 2)), (3, .int x3), (4, .int x4)] →
      (∀ (H : Heap) (locs : List Loc) (ls : Array Slot), va_P D cl_all (wl 52 ad (g1 cy ad z9)) H → va_S A s.heap H locs → lv_has ls 5 [(0, .ref (ad 3)), (2, .ref (ad 2)), (3, .int y3)] → W p l e (headSpec (Cond.code y_E_make c_E_make 5 none :: gt_ws) ({ frames := 5, cells := 0, slots := 0, locals := 225 })).room s m ([.ref (ad 3), .ref (ad 1), .ref (ad 2)]).toArray below meth c H locs 0 0 (MQ below (sQv D cl_all 52 ad (g1 cy ad z0) s.heap.size (g1 cy ad zz)) ([.ref (ad 3), .ref (ad 1), .ref (ad 2)]).toArray s 0 0 (va_A (wl 52 ad (g1 cy ad z0)) s.heap.size)) (F0 m 69 ls [])) →
      W p l e (headSpec (Cond.code y_E_make c_E_make 5 none :: gt_ws) ({ frames := 5, cells := 0, slots := 0, locals := 225 })).room s m ([.ref (ad 3), .ref (ad 1), .ref (ad 2)]).toArray below meth c H locs 0 0 (MQ below (sQv D cl_all 52 ad (g1 cy ad z0) s.heap.size (g1 cy ad zz)) ([.ref (ad 3), .ref (ad 1), .ref (ad 2)]).toArray s 0 0 (va_A (wl 52 ad (g1 cy ad z0)) s.heap.size)) (F0 m 26 ls []) := by
    intro n
    induction n with
    | zero => intro z x3 x4 y3 z9 hf; rw [l_E_make_1_2_26] at hf; cases hf
    | succ n ih =>
      intro z x3 x4 y3 z9 hf H locs ls hP hS hl k_0
      rw [l_E_make_1_2_26] at hf
      refine lv_iload hx hb d_E_make_26 (lv_at hl 3 rfl) ?_
      refine lv_aload_n hx hb d_E_make_28 rfl (lv_at hl 0 rfl) ?_
      refine wx_get (v := .int (z.1 6)) (C := RQ_E) (T := FQ_E) (N := 7) hx hb ht IQ_E hown hK hP 3 (by decide) (e_g1_3 cy ad _) rfl 2 (by decide) (ht _ kw_170) (fun _ h9 => h9) rfl d_E_make_29 ?_
      refine lv_icmp_ge (tgt := 69) hx hb d_E_make_32 (by decide) (fun c1 => ?_) (fun c1 => ?_)
      ·
        have hf := op_pos hf c1
        cases hf
        exact k_0 _ _ _ hP hS (lv_sub hl [0, 1, 2] rfl)
      ·
        have hf := op_neg hf c1
        refine lv_aload_n hx hb d_E_make_35 rfl (lv_at hl 0 rfl) ?_
        refine wx_get (v := .ref (ad 19)) (C := RQ_E) (T := FQ_E) (N := 7) hx hb ht IQ_E hown hK hP 3 (by decide) (e_g1_3 cy ad _) rfl 1 (by decide) (ht _ kw_169) (fun _ h9 => h9) rfl d_E_make_36 ?_
        refine lv_iload_n hx hb d_E_make_39 rfl (lv_at hl 2 rfl) ?_
        obtain ⟨h2, hf⟩ := op_chk hf
        refine wx_aald (b := ad (x3.toNatClampNeg + 42)) hx hb hK hP 19 4 (by decide) (e_g1_19 cy ad _) rfl h2 (if_pos (r42_lt h2)) d_E_make_40 ?_
        refine lv_iload hx hb d_E_make_41 (lv_at hl 3 rfl) ?_
        refine lv_aload_n hx hb d_E_make_43 rfl (lv_at hl 0 rfl) ?_
        refine wx_get (v := .ref (ad 18)) (C := RQ_E) (T := FQ_E) (N := 7) hx hb ht IQ_E hown hK hP 3 (by decide) (e_g1_3 cy ad _) rfl 0 (by decide) (ht _ kw_167) (fun _ h9 => h9) rfl d_E_make_44 ?_
        refine lv_aload_n hx hb d_E_make_47 rfl (lv_at hl 1 rfl) ?_
        refine wx_get (v := .ref (ad 15)) (C := RQ_N) (T := FQ_N) (N := 7) hx hb ht IQ_N hown hK hP 2 (by decide) (e_g1_2 cy ad _) rfl 5 (by decide) (ht _ kw_138) (fun _ h9 => h9) rfl d_E_make_48 ?_
        refine lv_iload_n hx hb d_E_make_51 rfl (lv_at hl 2 rfl) ?_
        obtain ⟨h3, hf⟩ := op_chk hf
        refine wx_iald hx hb hK hP 15 (by decide) (by decide) 10 rfl h3 d_E_make_52 ?_
        obtain ⟨h4, hf⟩ := op_chk hf
        refine wx_aald (b := ad ((z.2.2.1 15 x3.toNatClampNeg).toNatClampNeg + 32)) hx hb hK hP 18 4 (by decide) (e_g1_18 cy ad _) rfl h4 (if_pos (r32_lt h4)) d_E_make_53 ?_
        refine lv_aload_n hx hb d_E_make_54 rfl (lv_at hl 1 rfl) ?_
        refine wx_get (v := .ref (ad 15)) (C := RQ_N) (T := FQ_N) (N := 7) hx hb ht IQ_N hown hK hP 2 (by decide) (e_g1_2 cy ad _) rfl 5 (by decide) (ht _ kw_138) (fun _ h9 => h9) rfl d_E_make_55 ?_
        refine lv_iload hx hb d_E_make_58 (lv_at hl 3 rfl) ?_
        obtain ⟨h5, hf⟩ := op_chk hf
        refine wx_iald hx hb hK hP 15 (by decide) (by decide) 10 rfl h5 d_E_make_60 ?_
        obtain ⟨h6, hf⟩ := op_chk hf
        refine wx_lald hx hb hK hP ((z.2.2.1 15 x3.toNatClampNeg).toNatClampNeg + 32) (r32 h4).1 (r32 h4).2.1 10 (r32 h4).2.2 h6 d_E_make_61 ?_
        obtain ⟨h7, hf⟩ := op_chk hf
        refine wx_last hx hb hK hP (hD _) hS (x3.toNatClampNeg + 42) (r42 h2).1 (r42 h2).2.1 10 (r42 h2).2.2 h7 d_E_make_62 (fun H locs hP hS => ?_)
        obtain ⟨w8, h9, hf⟩ := op_let hf
        rw [h9] at hP
        refine lv_iinc (v := x4 + (1 : Int32)) (lv' := [(4, .int (x4 + (1 : Int32))), (0, .ref (ad 3)), (2, .ref (ad 2)), (3, .int x3)]) hx hb d_E_make_63 hl (k := 3) rfl rfl (by decide) rfl (fun ls hl => ?_)
        refine lv_goto (tgt := 26) hx hb d_E_make_66 (by decide) ?_
        exact ih _ _ _ _ _ hf _ _ _ hP hS (lv_sub hl [1, 2, 3, 0] rfl) k_0
  have L_15 : ∀ (n : Nat) (z : gS) (x3 : Int32) (z9 : gS), l_E_make_1_2_15 n z x3 = some z9 → ∀ (H : Heap) (locs : List Loc) (ls : Array Slot), va_P D cl_all (wl 52 ad (g1 cy ad z)) H → va_S A s.heap H locs → lv_has ls 5 [(0, .ref (ad 3)), (2, .ref (ad 2)), (3, .int x3)] →
      (∀ (H : Heap) (locs : List Loc) (ls : Array Slot), va_P D cl_all (wl 52 ad (g1 cy ad z9)) H → va_S A s.heap H locs → lv_has ls 5 [] → W p l e (headSpec (Cond.code y_E_make c_E_make 5 none :: gt_ws) ({ frames := 5, cells := 0, slots := 0, locals := 225 })).room s m ([.ref (ad 3), .ref (ad 1), .ref (ad 2)]).toArray below meth c H locs 0 0 (MQ below (sQv D cl_all 52 ad (g1 cy ad z0) s.heap.size (g1 cy ad zz)) ([.ref (ad 3), .ref (ad 1), .ref (ad 2)]).toArray s 0 0 (va_A (wl 52 ad (g1 cy ad z0)) s.heap.size)) (F0 m 75 ls [])) →
      W p l e (headSpec (Cond.code y_E_make c_E_make 5 none :: gt_ws) ({ frames := 5, cells := 0, slots := 0, locals := 225 })).room s m ([.ref (ad 3), .ref (ad 1), .ref (ad 2)]).toArray below meth c H locs 0 0 (MQ below (sQv D cl_all 52 ad (g1 cy ad z0) s.heap.size (g1 cy ad zz)) ([.ref (ad 3), .ref (ad 1), .ref (ad 2)]).toArray s 0 0 (va_A (wl 52 ad (g1 cy ad z0)) s.heap.size)) (F0 m 15 ls []) := by
    intro n
    induction n with
    | zero => intro z x3 z9 hf; rw [l_E_make_1_2_15] at hf; cases hf
    | succ n ih =>
      intro z x3 z9 hf H locs ls hP hS hl k_0
      rw [l_E_make_1_2_15] at hf
      refine lv_iload_n hx hb d_E_make_15 rfl (lv_at hl 2 rfl) ?_
      refine lv_aload_n hx hb d_E_make_16 rfl (lv_at hl 0 rfl) ?_
      refine wx_get (v := .int (z.1 6)) (C := RQ_E) (T := FQ_E) (N := 7) hx hb ht IQ_E hown hK hP 3 (by decide) (e_g1_3 cy ad _) rfl 2 (by decide) (ht _ kw_170) (fun _ h9 => h9) rfl d_E_make_17 ?_
      refine lv_icmp_ge (tgt := 75) hx hb d_E_make_20 (by decide) (fun c10 => ?_) (fun c10 => ?_)
      ·
        have hf := op_pos hf c10
        cases hf
        exact k_0 _ _ _ hP hS (lv_sub hl [] rfl)
      ·
        have hf := op_neg hf c10
        refine lv_iconst (v := 0) hx hb d_E_make_23 (by decide) ?_
        refine lv_istore (lv' := [(4, .int (0 : Int32)), (0, .ref (ad 3)), (2, .ref (ad 2)), (3, .int x3)]) hx hb d_E_make_24 hl (by decide) rfl (fun ls hl => ?_)
        obtain ⟨v11, w12, hc13, hf⟩ := op_b2 hf
        refine L_26 _ _ _ _ _ _ hc13 _ _ _ hP hS (lv_sub hl [1, 2, 3, 0] rfl) (fun H locs ls hP hS hl => ?_)
        refine lv_iinc (v := v11 + (1 : Int32)) (lv' := [(3, .int (v11 + (1 : Int32))), (0, .ref (ad 3)), (2, .ref (ad 2))]) hx hb d_E_make_69 hl (k := 2) rfl rfl (by decide) rfl (fun ls hl => ?_)
        refine lv_goto (tgt := 15) hx hb d_E_make_72 (by decide) ?_
        exact ih _ _ _ hf _ _ _ hP hS (lv_sub hl [1, 2, 0] rfl) k_0
  unfold f_E_make_1_2 at hf
  refine lv_aload_n hx hb d_E_make_0 rfl (lv_at hl 0 rfl) ?_
  refine lv_aload_n hx hb d_E_make_1 rfl (lv_at hl 1 rfl) ?_
  obtain ⟨w15, hc14, hf⟩ := op_b1 hf
  refine wx_fv (wx_rV (As := [.ref (ad 1)]) (rest := []) ⟨hx, hb, hml, hown, ht⟩ (m_E_sumUpStiffness_1 l D cy ad _ z0 _ hc14) ⟨callB_of 1 ht (gt_in (fun _ h9 => h9) kw_375) rfl rfl rfl (ht _ kw_50) (ht _ kw_372) q_E_sumUpStiffness ⟨Nat.le_of_ble_eq_true rfl, Nat.le_of_ble_eq_true rfl⟩, ht _ kw_374, ht _ kw_11⟩ nwC_ok hN hK hP (hD _) (by decide) (e_g1_3 cy ad _) rfl rfl hl.1 rfl (Nat.le_of_ble_eq_true rfl) d_E_make_2 ⟨Nat.zero_le _, Nat.zero_le _⟩) (hD _) hS hA (fun H locs hP hS => ?_)
  refine lv_aload_n hx hb d_E_make_5 rfl (lv_at hl 0 rfl) ?_
  refine lv_aload_n hx hb d_E_make_6 rfl (lv_at hl 2 rfl) ?_
  refine wx_get (v := .int (w15.1 5)) (C := RQ_N) (T := FQ_N) (N := 7) hx hb ht IQ_N hown hK hP 2 (by decide) (e_g1_2 cy ad _) rfl 6 (by decide) (ht _ kw_141) (fun _ h9 => h9) rfl d_E_make_7 ?_
  obtain ⟨v16, h17, hf⟩ := op_let hf
  refine sw_i h17 ?_
  refine wx_put (v := .int v16) (ty := .int) (C := RQ_E) (T := FQ_E) (N := 7) hx hb ht IQ_E TQ_E TQ_E_ok NQ_E hown hK hP (hD _) hS 3 (by decide) (e_g1_3 cy ad _) rfl 2 (by decide) (ht _ kw_170) (fun _ h9 => h9) rfl (by decide +kernel) rfl rfl (Nat.le_of_ble_eq_true rfl) d_E_make_10 (up_E_size cy ad _ v16) (fun H locs hP hS => ?_)
  obtain ⟨w18, h19, hf⟩ := op_let hf
  rw [h19] at hP
  refine lv_iconst (v := 0) hx hb d_E_make_13 (by decide) ?_
  refine lv_istore_n (lv' := [(3, .int (0 : Int32)), (0, .ref (ad 3)), (1, .ref (ad 1)), (2, .ref (ad 2))]) hx hb d_E_make_14 rfl hl (by decide) rfl (fun ls hl => ?_)
  obtain ⟨w20, hc21, hf⟩ := op_b1 hf
  refine L_15 _ _ _ _ hc21 _ _ _ hP hS (lv_sub hl [1, 3, 0] rfl) (fun H locs ls hP hS hl => ?_)
  obtain rfl := Option.some.inj hf
  exact wx_vret hx hb hr hlocks hAe hP hS d_E_make_75

def l_E_rowTimes_22_6 : Nat → gS → Int32 → Int32 → Int64 → Int32 → Option (Int64 × gS)
  | 0, _, _, _, _, _ => none
  | n + 1, z, x1, x3, x4, x6 =>
    if x3 ≤ x6 then (some (x4, z))
     else (if x1 < 0 ∨ 10 ≤ x1.toNatClampNeg then none else
     if x6 < 0 ∨ 10 ≤ x6.toNatClampNeg then none else
     if x6 < 0 ∨ 10 ≤ x6.toNatClampNeg then none else
     (some ((x4 + ((z.2.2.2 (x1.toNatClampNeg + 42) x6.toNatClampNeg) * (z.2.2.2 22 x6.toNatClampNeg))) : Int64)).bind (fun v5 =>
     l_E_rowTimes_22_6 n z x1 x3 v5 (x6 + (1 : Int32))))
def f_E_rowTimes_22 (z0 : gS) (p1 : Int32) (p3 : Int32) : Option (Int64 × gS) :=
 bd2 (l_E_rowTimes_22_6 200 z0 p1 p3 (0 : Int64) (0 : Int32)) (fun v7 w8 =>
 some (v7, w8))
set_option maxHeartbeats 4000000 in
set_option maxRecDepth 100000 in
theorem m_E_rowTimes_22 (l : Launch) (D : va_G) (cy : Nat → ClassId) (ad : Nat → Nat) (sz : Nat) (z0 : gS) (p1 : Int32) (p3 : Int32) (r : Int64) (zz : gS) (hf : f_E_rowTimes_22 z0 p1 p3 = some (r, zz)) : Met l y_E_rowTimes (Cond.code y_E_rowTimes c_E_rowTimes 7 (some .long) :: gt_ws) ({ frames := 0, cells := 0, slots := 0, locals := 0 }) (sPc D cl_all (gTy cy) nwC 52 ad (g1 cy ad z0) sz [.ref (ad 3), .int p1, .ref (ad 22), .int p3]) (sQl D cl_all 52 ad (g1 cy ad z0) sz r (g1 cy ad zz)) 0 0 (va_A (wl 52 ad (g1 cy ad z0)) sz) := by
  refine Met.ofW (cc := c_E_rowTimes) (maxL := 7) (ret := (some .long)) (by decide) rfl ?_
  intro p e s m args below meth c s₁ B hml hv
  obtain ⟨rfl, hsz, hP, hK, hN, hD0⟩ := hv
  have hx := B.exec
  have hb := B.bytes
  have hr := B.returns
  have hts := atoms_spec (ws := (Cond.code y_E_rowTimes c_E_rowTimes 7 (some .long) :: gt_ws)) B.pre
  have ht : ∀ w ∈ gt_ws, w.before _ s = true := fun w h => hts w (List.mem_cons_of_mem _ h)
  have hown : s.vm.findClass RQ_E = some m.cls := findClass_of_methodNamed B.named
  have hlocks := B.notSynchronized
  subst hsz
  have hD1 := hD0.self (sz := s.heap.size)
  obtain ⟨A, hAe⟩ : ∃ A, A = va_A (wl 52 ad (g1 cy ad z0)) s.heap.size := ⟨_, rfl⟩
  rw [← hAe] at hD1
  have hD : ∀ g, va_D A (wl 52 ad g) := fun _ => wl_D hD1
  have hA : ∀ q : Nat, s.heap.size ≤ q → A q := fun q h => by rw [hAe]; exact Or.inr h
  have hS : va_S A s.heap s.heap [] := va_S.rf
  have hl := lv_entry ([.ref (ad 3), .int p1, .ref (ad 22), .int p3]) (n := 7) (Nat.le_of_ble_eq_true rfl)
  rw [lg_entry_eq]
  generalize (lg_sl ([.ref (ad 3), .int p1, .ref (ad 22), .int p3]) ++ List.replicate (7 - (lg_sl ([.ref (ad 3), .int p1, .ref (ad 22), .int p3])).length) Slot.unset).toArray = ls at hl ⊢
  have hl : lv_has ls 7 [(0, .ref (ad 3)), (1, .int p1), (2, .ref (ad 22)), (3, .int p3)] := hl
  have L_6 : ∀ (n : Nat) (z : gS) (x1 : Int32) (x3 : Int32) (x4 : Int64) (x6 : Int32) (y4 : Int64) (z9 : gS), l_E_rowTimes_22_6 n z x1 x3 x4 x6 = some (y4, z9) → ∀ (H : Heap) (locs : List Loc) (ls : Array Slot), va_P D cl_all (wl 52 ad (g1 cy ad z)) H → va_S A s.heap H locs → lv_has ls 7 [(0, .ref (ad 3)), (1, .int x1), (2, .ref (ad 22)), (3, .int x3), (4, .long x4), (6, .int x6)] →
      (∀ (H : Heap) (locs : List Loc) (ls : Array Slot), va_P D cl_all (wl 52 ad (g1 cy ad z9)) H → va_S A s.heap H locs → lv_has ls 7 [(4, .long y4)] → W p l e (headSpec (Cond.code y_E_rowTimes c_E_rowTimes 7 (some .long) :: gt_ws) ({ frames := 0, cells := 0, slots := 0, locals := 0 })).room s m ([.ref (ad 3), .int p1, .ref (ad 22), .int p3]).toArray below meth c H locs 0 0 (MQ below (sQl D cl_all 52 ad (g1 cy ad z0) s.heap.size r (g1 cy ad zz)) ([.ref (ad 3), .int p1, .ref (ad 22), .int p3]).toArray s 0 0 (va_A (wl 52 ad (g1 cy ad z0)) s.heap.size)) (F0 m 37 ls [])) →
      W p l e (headSpec (Cond.code y_E_rowTimes c_E_rowTimes 7 (some .long) :: gt_ws) ({ frames := 0, cells := 0, slots := 0, locals := 0 })).room s m ([.ref (ad 3), .int p1, .ref (ad 22), .int p3]).toArray below meth c H locs 0 0 (MQ below (sQl D cl_all 52 ad (g1 cy ad z0) s.heap.size r (g1 cy ad zz)) ([.ref (ad 3), .int p1, .ref (ad 22), .int p3]).toArray s 0 0 (va_A (wl 52 ad (g1 cy ad z0)) s.heap.size)) (F0 m 6 ls []) := by
    intro n
    induction n with
    | zero => intro z x1 x3 x4 x6 y4 z9 hf; rw [l_E_rowTimes_22_6] at hf; cases hf
    | succ n ih =>
      intro z x1 x3 x4 x6 y4 z9 hf H locs ls hP hS hl k_0
      rw [l_E_rowTimes_22_6] at hf
      refine lv_iload hx hb d_E_rowTimes_6 (lv_at hl 5 rfl) ?_
      refine lv_iload_n hx hb d_E_rowTimes_8 rfl (lv_at hl 3 rfl) ?_
      refine lv_icmp_ge (tgt := 37) hx hb d_E_rowTimes_9 (by decide) (fun c1 => ?_) (fun c1 => ?_)
      ·
        have hf := op_pos hf c1
        cases hf
        exact k_0 _ _ _ hP hS (lv_sub hl [4] rfl)
      ·
        have hf := op_neg hf c1
        refine lv_lload hx hb d_E_rowTimes_12 (lv_at hl 4 rfl) ?_
        refine lv_aload_n hx hb d_E_rowTimes_14 rfl (lv_at hl 0 rfl) ?_
        refine wx_get (v := .ref (ad 19)) (C := RQ_E) (T := FQ_E) (N := 7) hx hb ht IQ_E hown hK hP 3 (by decide) (e_g1_3 cy ad _) rfl 1 (by decide) (ht _ kw_169) (fun _ h9 => h9) rfl d_E_rowTimes_15 ?_
        refine lv_iload_n hx hb d_E_rowTimes_18 rfl (lv_at hl 1 rfl) ?_
        obtain ⟨h2, hf⟩ := op_chk hf
        refine wx_aald (b := ad (x1.toNatClampNeg + 42)) hx hb hK hP 19 4 (by decide) (e_g1_19 cy ad _) rfl h2 (if_pos (r42_lt h2)) d_E_rowTimes_19 ?_
        refine lv_iload hx hb d_E_rowTimes_20 (lv_at hl 5 rfl) ?_
        obtain ⟨h3, hf⟩ := op_chk hf
        refine wx_lald hx hb hK hP (x1.toNatClampNeg + 42) (r42 h2).1 (r42 h2).2.1 10 (r42 h2).2.2 h3 d_E_rowTimes_22 ?_
        refine lv_aload_n hx hb d_E_rowTimes_23 rfl (lv_at hl 2 rfl) ?_
        refine lv_iload hx hb d_E_rowTimes_24 (lv_at hl 5 rfl) ?_
        obtain ⟨h4, hf⟩ := op_chk hf
        refine wx_lald hx hb hK hP 22 (by decide) (by decide) 10 rfl h4 d_E_rowTimes_26 ?_
        refine lv_lmul hx hb d_E_rowTimes_27 ?_
        refine lv_ladd hx hb d_E_rowTimes_28 ?_
        obtain ⟨v5, h6, hf⟩ := op_let hf
        refine sw_l h6 ?_
        refine lv_lstore (lv' := [(4, .long v5), (0, .ref (ad 3)), (1, .int x1), (2, .ref (ad 22)), (3, .int x3), (6, .int x6)]) hx hb d_E_rowTimes_29 hl (by decide) rfl (fun ls hl => ?_)
        refine lv_iinc (v := x6 + (1 : Int32)) (lv' := [(6, .int (x6 + (1 : Int32))), (4, .long v5), (0, .ref (ad 3)), (1, .int x1), (2, .ref (ad 22)), (3, .int x3)]) hx hb d_E_rowTimes_31 hl (k := 5) rfl rfl (by decide) rfl (fun ls hl => ?_)
        refine lv_goto (tgt := 6) hx hb d_E_rowTimes_34 (by decide) ?_
        exact ih _ _ _ _ _ _ _ hf _ _ _ hP hS (lv_sub hl [2, 3, 4, 5, 1, 0] rfl) k_0
  unfold f_E_rowTimes_22 at hf
  refine lv_lconst (v := 0) hx hb d_E_rowTimes_0 (by decide) ?_
  refine lv_lstore (lv' := [(4, .long (0 : Int64)), (0, .ref (ad 3)), (1, .int p1), (2, .ref (ad 22)), (3, .int p3)]) hx hb d_E_rowTimes_1 hl (by decide) rfl (fun ls hl => ?_)
  refine lv_iconst (v := 0) hx hb d_E_rowTimes_3 (by decide) ?_
  refine lv_istore (lv' := [(6, .int (0 : Int32)), (4, .long (0 : Int64)), (0, .ref (ad 3)), (1, .int p1), (2, .ref (ad 22)), (3, .int p3)]) hx hb d_E_rowTimes_4 hl (by decide) rfl (fun ls hl => ?_)
  obtain ⟨v7, w8, hc9, hf⟩ := op_b2 hf
  refine L_6 _ _ _ _ _ _ _ _ hc9 _ _ _ hP hS (lv_sub hl [2, 3, 4, 5, 1, 0] rfl) (fun H locs ls hP hS hl => ?_)
  refine lv_lload hx hb d_E_rowTimes_37 (lv_at hl 0 rfl) ?_
  obtain ⟨hv9, rfl⟩ := op_inj hf
  exact wx_lret hx hb hr hlocks hAe hP hS hv9 d_E_rowTimes_39
